/-! ===== Driver.leadAt, planLoads; Chains.cellsInAll ===== -/
theorem nI_sub1 (n : Nat) : nI (n + 1) - 1 = nI n := nI_pred n
theorem ca_leadAt (L : Nat) (σ : gz_Mm) (i n : Nat) (hi : i < n) (hn : n ≤ 20) : gz_F 0 yX4_leadAt cX4_leadAt 2 (some .int) L [.int (nI i), .int (nI n)] σ (some (.int (nI (sp_la n i)))) σ := by
  obtain ⟨n, rfl⟩ : ∃ k, n = k + 1 := ⟨n - 1, by omega⟩
  refine gz_F.of rfl rfl ?_
  refine zr_iload_n dX4_leadAt_0 rfl ?_
  refine zr_iload_n dX4_leadAt_1 rfl ?_
  refine zr_iconst (v := 1) dX4_leadAt_2 kc_iconst_1 ?_
  refine zr_isub dX4_leadAt_3 ?_
  refine zr_top (nI_sub1 n) ?_
  refine zr_icmp_ne 11 dX4_leadAt_4 (by decide) (fun h => ?_) (fun h => ?_)
  · have h' : ¬ i + 1 = n + 1 := fun q => h (by rw [show i = n by omega])
    rw [show sp_la (n + 1) i = 0 by simp only [sp_la, h', if_false]]
    refine zr_iconst (v := 0) dX4_leadAt_11 kc_iconst_0 ?_
    exact zr_iret dX4_leadAt_12 rfl (⟨rfl, rfl⟩)
  · have h' : i = n := (nI_eq (by omega) (by omega)).mp h
    rw [show sp_la (n + 1) i = 1 by simp [sp_la, h']]
    refine zr_iconst (v := 1) dX4_leadAt_7 kc_iconst_1 ?_
    refine zr_goto 12 dX4_leadAt_8 (by decide) ?_
    exact zr_iret dX4_leadAt_12 rfl (⟨rfl, rfl⟩)
theorem ca_inAll (L : Nat) (σ : gz_Mm) (C : sp_T) (K : sp_K) (hC : sp_wf C) (hK : sp_wk C K) (rK : rx_K σ C K) : gz_F 0 yX1_cellsInAll cX1_cellsInAll 3 (some .int) L [.ref 23] σ (some (.int (nI (sp_all K).length))) σ := by
  have r0 := (rK.1 0 (by decide)).1
  have r1 := (rK.1 1 (by decide)).1
  have r2 := (rK.1 2 (by decide)).1
  have e : nI ((K 0).length + (K 1).length + (K 2).length) = nI (sp_all K).length := by rw [sp_all_len, Nat.add_assoc]
  refine gz_F.of rfl rfl ?_
  refine zr_iconst (v := 0) dX1_cellsInAll_0 kc_iconst_0 ?_
  refine zr_istore_n dX1_cellsInAll_1 (by decide) rfl ?_
  refine zr_iconst (v := 0) dX1_cellsInAll_2 kc_iconst_0 ?_
  refine zr_istore_n dX1_cellsInAll_3 (by decide) rfl ?_
  refine zr_iload_n dX1_cellsInAll_4 rfl ?_
  refine zr_iconst (v := 3) dX1_cellsInAll_5 kc_iconst_3 ?_
  refine zr_icmp_ge 24 dX1_cellsInAll_6 (by decide) (fun h => ?_) (fun h => ?_)
  · exact absurd h (by decide)
  · refine zr_iload_n dX1_cellsInAll_9 rfl ?_
    refine zr_aload_n dX1_cellsInAll_10 rfl ?_
    refine zt_getr zg_X1_16 dX1_cellsInAll_11 rfl rfl rfl ?_
    refine zr_iload_n dX1_cellsInAll_14 rfl ?_
    refine zt_ildN dX1_cellsInAll_15 rfl rfl (by decide) (r0) ?_
    refine zr_iadd dX1_cellsInAll_16 ?_
    refine zr_top (Int32.zero_add _) ?_
    refine zr_istore_n dX1_cellsInAll_17 (by decide) rfl ?_
    refine zr_iinc dX1_cellsInAll_18 rfl (kc_inc (0)) rfl ?_
    refine zr_goto 4 dX1_cellsInAll_21 (by decide) ?_
    refine zr_iload_n dX1_cellsInAll_4 rfl ?_
    refine zr_iconst (v := 3) dX1_cellsInAll_5 kc_iconst_3 ?_
    refine zr_icmp_ge 24 dX1_cellsInAll_6 (by decide) (fun h => ?_) (fun h => ?_)
    · exact absurd h (by decide)
    · refine zr_iload_n dX1_cellsInAll_9 rfl ?_
      refine zr_aload_n dX1_cellsInAll_10 rfl ?_
      refine zt_getr zg_X1_16 dX1_cellsInAll_11 rfl rfl rfl ?_
      refine zr_iload_n dX1_cellsInAll_14 rfl ?_
      refine zt_ildN dX1_cellsInAll_15 rfl rfl (by decide) (r1) ?_
      refine zr_iadd dX1_cellsInAll_16 ?_
      refine zr_top (nI_add _ _) ?_
      refine zr_istore_n dX1_cellsInAll_17 (by decide) rfl ?_
      refine zr_iinc dX1_cellsInAll_18 rfl (kc_inc (1)) rfl ?_
      refine zr_goto 4 dX1_cellsInAll_21 (by decide) ?_
      refine zr_iload_n dX1_cellsInAll_4 rfl ?_
      refine zr_iconst (v := 3) dX1_cellsInAll_5 kc_iconst_3 ?_
      refine zr_icmp_ge 24 dX1_cellsInAll_6 (by decide) (fun h => ?_) (fun h => ?_)
      · exact absurd h (by decide)
      · refine zr_iload_n dX1_cellsInAll_9 rfl ?_
        refine zr_aload_n dX1_cellsInAll_10 rfl ?_
        refine zt_getr zg_X1_16 dX1_cellsInAll_11 rfl rfl rfl ?_
        refine zr_iload_n dX1_cellsInAll_14 rfl ?_
        refine zt_ildN dX1_cellsInAll_15 rfl rfl (by decide) (r2) ?_
        refine zr_iadd dX1_cellsInAll_16 ?_
        refine zr_top ((nI_add _ _).trans e) ?_
        refine zr_istore_n dX1_cellsInAll_17 (by decide) rfl ?_
        refine zr_iinc dX1_cellsInAll_18 rfl (kc_inc (2)) rfl ?_
        refine zr_goto 4 dX1_cellsInAll_21 (by decide) ?_
        refine zr_iload_n dX1_cellsInAll_4 rfl ?_
        refine zr_iconst (v := 3) dX1_cellsInAll_5 kc_iconst_3 ?_
        refine zr_icmp_ge 24 dX1_cellsInAll_6 (by decide) (fun h => ?_) (fun h => ?_)
        · refine zr_iload_n dX1_cellsInAll_24 rfl ?_
          exact zr_iret dX1_cellsInAll_25 rfl (⟨rfl, rfl⟩)
        · exact absurd (by decide) h
theorem bt_xor : ∀ a, a < 2 → ∀ b, b < 2 → nI a ^^^ nI b = nI ((a + b) % 2) := by decide
theorem gd_right (a b : List Nat) (i : Nat) : (a ++ b).getD (a.length + i) 0 = b.getD i 0 := by rw [List.getD_eq_getElem?_getD, List.getElem?_append_right (by omega), Nat.add_sub_cancel_left]; rfl
theorem gd_left {a b : List Nat} {i : Nat} (h : i < a.length) : (a ++ b).getD i 0 = a.getD i 0 := by simp [List.getD_eq_getElem?_getD, List.getElem?_append_left h]
theorem all_gd_0 (K : sp_K) {i : Nat} (h : i < (K 0).length) : (sp_all K).getD (0 + i) 0 = (K 0).getD i 0 ∧ 0 + i < (sp_all K).length := by
  refine ⟨?_, by rw [sp_all_len]; omega⟩
  unfold sp_all
  rw [Nat.zero_add]; exact gd_left h
theorem all_gd_1 (K : sp_K) {i : Nat} (h : i < (K 1).length) : (sp_all K).getD ((K 0).length + i) 0 = (K 1).getD i 0 ∧ (K 0).length + i < (sp_all K).length := by
  refine ⟨?_, by rw [sp_all_len]; omega⟩
  unfold sp_all
  rw [gd_right]; exact gd_left h
theorem all_gd_2 (K : sp_K) {i : Nat} (h : i < (K 2).length) : (sp_all K).getD (((K 0).length + (K 1).length) + i) 0 = (K 2).getD i 0 ∧ ((K 0).length + (K 1).length) + i < (sp_all K).length := by
  refine ⟨?_, by rw [sp_all_len]; omega⟩
  unfold sp_all
  rw [Nat.add_assoc, gd_right, gd_right]
theorem ca_plan (L : Nat) (σ : gz_Mm) (C : sp_T) (K : sp_K) (hC : sp_wf C) (hK : sp_wk C K) (rK : rx_K σ C K) (cb : Nat) (hcb : cb < 2 ^ 31) :
    gz_Gv 0 yX4_planLoads cX4_planLoads 8 none L [.ref 39, .int (nI cb), .int (nI (sp_len K))] σ (fun σ' => (∀ k, k ≠ 40 → σ' k = σ k) ∧ ∀ i, i < sp_len K → σ' 40 i = nI (sp_lo C K cb i)) := by
  have hl20 := hK.len20 hC
  have hln := sp_len_le hC hK
  have h20 := hC.1.2.2.1
  have hnl : (sp_all K).length ≤ sp_len K := by unfold sp_len; split <;> omega
  have hnl2 : (sp_all K).length ≠ 0 → sp_len K = (sp_all K).length := fun h => by simp [sp_len, h]
  -- what holds when p cells are through
  let I : Nat → gz_Mm → Prop := fun p t => (∀ k, k ≠ 40 → t k = σ k) ∧ ((sp_all K).length = 0 → t 40 0 = 0) ∧ ∀ q, q < p → t 40 (sp_len K - 1 - q) = nI (sp_ld C K cb q)
  refine gz_Gv.of rfl rfl (fun Q hQ => ?_)
  have inner0 : ∀ (σ1 : gz_Mm) (o : Option Value), I 0 σ1 →
      (∀ (σ2 : gz_Mm) (o2 : Option Value), I (0 + (K 0).length) σ2 → gz_R 0 yX4_planLoads cX4_planLoads 8 none 0 0 103 [some (.ref 39), some (.int (nI cb)), some (.int (nI (sp_len K))), some (.int (nI (sp_len K - (0 + (K 0).length)) + (-1))), some (.int (nI (sp_turn C ((sp_all K).take (0 + (K 0).length))))), some (.int (nI 0)), some (.int (nI (K 0).length)), o2] [] (gz_mk L σ2) Q) →
      gz_R 0 yX4_planLoads cX4_planLoads 8 none 0 0 26 [some (.ref 39), some (.int (nI cb)), some (.int (nI (sp_len K))), some (.int (nI (sp_len K - 0) + (-1))), some (.int (nI (sp_turn C ((sp_all K).take 0)))), some (.int (nI 0)), some (.int (nI 0)), o] [] (gz_mk L σ1) Q := by
    intro σ1 o h1 hx
    have hlk := hK.lenk (k := 0) (by decide)
    obtain ⟨rs, rr⟩ := rK.1 0 (by decide)
    refine zl_up (τ := gz_Mm × Option Value) (K 0).length (fun i t => I (0 + i) t.1) (fun i t => gz_R 0 yX4_planLoads cX4_planLoads 8 none 0 0 26 [some (.ref 39), some (.int (nI cb)), some (.int (nI (sp_len K))), some (.int (nI (sp_len K - (0 + i)) + (-1))), some (.int (nI (sp_turn C ((sp_all K).take (0 + i))))), some (.int (nI 0)), some (.int (nI i)), t.2] [] (gz_mk L t.1) Q) ?_ ?_ 0 (σ1, o) (Nat.zero_le _) h1
    · rintro ⟨σ2, o2⟩ hI
      refine zr_iload dX4_planLoads_26 rfl ?_
      refine zr_aload_n dX4_planLoads_28 rfl ?_
      refine zt_getr zg_X4_15 dX4_planLoads_29 rfl rfl rfl ?_
      refine zt_getr zg_X4_78 dX4_planLoads_32 rfl rfl rfl ?_
      refine zr_iload dX4_planLoads_35 rfl ?_
      refine zt_ildN dX4_planLoads_37 rfl rfl (by decide) ((congrFun (hI.1 28 (by decide)) 0).trans rs) ?_
      refine zr_icmp_ge 103 dX4_planLoads_38 (by decide) (fun h => ?_) (fun h => ?_)
      · exact hx σ2 o2 hI
      · exact absurd (Int32.le_refl _) h
    · rintro i ⟨σ2, o2⟩ hi hI ih
      obtain ⟨eg, hp⟩ := all_gd_0 K hi
      obtain ⟨hf, hz, hv⟩ := hI
      have hri := rr i hi
      have hcm : (K 0).getD i 0 ∈ sp_all K := sp_all_mem (k := 0) (by decide) (ls_mem hi)
      have hcn := hK.2 _ hcm
      have htk := ls_take hp
      rw [eg] at htk
      have hld : sp_ld C K cb (0 + i) = (cb / 2 ^ ((K 0).getD i 0) % 2 + sp_turn C ((sp_all K).take (0 + i + 1))) % 2 := by
        unfold sp_ld
        rw [eg]
      generalize hpe : 0 + i = p at *
      generalize hce : (K 0).getD i 0 = c at *
      have c20 : c < 20 := by omega
      have ht := (hC.2.2.1 c hcn).2.2.2
      have htl := sp_turn_lt C ((sp_all K).take p)
      have htl2 := sp_turn_lt C ((sp_all K).take (p + 1))
      rw [htk, sp_turn_app] at hld htl2
      have eln := hnl2 (by omega)
      obtain ⟨a, ha⟩ : ∃ a, sp_len K - p = a + 1 := ⟨sp_len K - p - 1, by omega⟩
      refine zr_iload dX4_planLoads_26 rfl ?_
      refine zr_aload_n dX4_planLoads_28 rfl ?_
      refine zt_getr zg_X4_15 dX4_planLoads_29 rfl rfl rfl ?_
      refine zt_getr zg_X4_78 dX4_planLoads_32 rfl rfl rfl ?_
      refine zr_iload dX4_planLoads_35 rfl ?_
      refine zt_ildN dX4_planLoads_37 rfl rfl (by decide) ((congrFun (hf 28 (by decide)) 0).trans rs) ?_
      refine zr_icmp_ge 103 dX4_planLoads_38 (by decide) (fun h => ?_) (fun h => ?_)
      · exact absurd h (nI_ge hi (by omega))
      · refine zr_aload_n dX4_planLoads_41 rfl ?_
        refine zt_getr zg_X4_15 dX4_planLoads_42 rfl rfl rfl ?_
        refine zt_getr zg_X4_81 dX4_planLoads_45 rfl rfl rfl ?_
        refine zr_iload dX4_planLoads_48 rfl ?_
        refine zt_aldN (t := 25) dX4_planLoads_50 rfl rfl (by decide) (rfl) ?_
        refine zr_iload dX4_planLoads_51 rfl ?_
        refine zt_ildN dX4_planLoads_53 rfl rfl (by omega) ((congrFun (hf 25 (by decide)) i).trans hri) ?_
        refine zr_istore dX4_planLoads_54 (by decide) rfl ?_
        refine zr_iload dX4_planLoads_56 rfl ?_
        refine zr_aload_n dX4_planLoads_58 rfl ?_
        refine zt_getr zg_X4_15 dX4_planLoads_59 rfl rfl rfl ?_
        refine zt_getr zg_X4_85 dX4_planLoads_62 rfl rfl rfl ?_
        refine zr_iload dX4_planLoads_65 rfl ?_
        refine zt_zldN dX4_planLoads_67 rfl rfl (c20) ((congrFun (hf 30 (by decide)) c).trans (rK.2.1 c hcm)) ?_
        have go : ∀ x : Nat, x = C 12 c → gz_R 0 yX4_planLoads cX4_planLoads 8 none 0 0 76 [some (.ref 39), some (.int (nI cb)), some (.int (nI (sp_len K))), some (.int (nI (sp_len K - p) + (-1))), some (.int (nI (sp_turn C ((sp_all K).take p)))), some (.int (nI 0)), some (.int (nI i)), some (.int (nI c))] [.int (nI x), .int (nI (sp_turn C ((sp_all K).take p)))] (gz_mk L σ2) Q := by
          intro x ex
          rw [ha, pk_m1]
          have hmod : cb / 2 ^ c % 2 < 2 := Nat.mod_lt _ (by decide)
          refine zr_ixor dX4_planLoads_76 ?_
          refine zr_top (bt_xor _ htl x (by omega)) ?_
          refine zr_istore dX4_planLoads_77 (by decide) rfl ?_
          refine zr_aload_n dX4_planLoads_79 rfl ?_
          refine zt_getr zg_X4_9 dX4_planLoads_80 rfl rfl rfl ?_
          refine zr_iload_n dX4_planLoads_83 rfl ?_
          refine zr_iload_n dX4_planLoads_84 rfl ?_
          refine zr_iload dX4_planLoads_85 rfl ?_
          refine zr_ishr dX4_planLoads_87 ?_
          refine zr_iconst (v := 1) dX4_planLoads_88 kc_iconst_1 ?_
          refine zr_iand dX4_planLoads_89 ?_
          refine zr_top (bt_bit hcb (by omega)) ?_
          refine zr_iload dX4_planLoads_90 rfl ?_
          refine zr_ixor dX4_planLoads_92 ?_
          refine zr_top (bt_xor _ hmod _ (Nat.mod_lt _ (by decide))) ?_
          refine zt_istN dX4_planLoads_93 rfl rfl rfl (by omega) ?_
          refine zr_iinc dX4_planLoads_94 rfl rfl rfl ?_
          refine zr_iinc dX4_planLoads_97 rfl (kc_inc (i)) rfl ?_
          refine zr_goto 26 dX4_planLoads_100 (by decide) ?_
          have e1 : nI a + Int32.ofInt (-1) = nI (sp_len K - (p + 1)) + (-1) := by
            rw [show sp_len K - (p + 1) = a by omega]
            rfl
          have e2 : (sp_turn C ((sp_all K).take p) + x) % 2 = sp_turn C ((sp_all K).take (p + 1)) := by rw [htk, sp_turn_app, ex]
          rw [e1, e2]
          have ep : p + 1 = 0 + (i + 1) := by omega
          rw [ep]
          refine ih (_, _) ?_
          show I (0 + (i + 1)) (gz_wr σ2 40 a _)
          rw [← ep]
          refine ⟨fun k hk => (gz_wr_ne hk).trans (hf k hk), fun h0 => by omega, fun q hq => ?_⟩
          rw [gz_wr_eq]
          by_cases eq : q = p
          · subst eq
            rw [show sp_len K - 1 - q = a by omega, hld]
            simp only [upd, if_true]
            rw [htk, sp_turn_app]
          · rw [pk_un (show sp_len K - 1 - q ≠ a by omega)]
            exact hv q (by omega)
        refine zr_if_eq 75 dX4_planLoads_68 (by decide) (fun h2 => ?_) (fun h2 => ?_)
        · have e0 : C 12 c = 0 := (nI_eq (b := 0) (by omega) (by omega)).mp h2
          refine zr_iconst (v := 0) dX4_planLoads_75 kc_iconst_0 ?_
          exact go 0 e0.symm
        · have e1 : C 12 c = 1 := by
            have : C 12 c ≠ 0 := fun q => h2 (by rw [q]; rfl)
            omega
          refine zr_iconst (v := 1) dX4_planLoads_71 kc_iconst_1 ?_
          refine zr_goto 76 dX4_planLoads_72 (by decide) ?_
          exact go 1 e1.symm
  have inner1 : ∀ (σ1 : gz_Mm) (o : Option Value), I (K 0).length σ1 →
      (∀ (σ2 : gz_Mm) (o2 : Option Value), I ((K 0).length + (K 1).length) σ2 → gz_R 0 yX4_planLoads cX4_planLoads 8 none 0 0 103 [some (.ref 39), some (.int (nI cb)), some (.int (nI (sp_len K))), some (.int (nI (sp_len K - ((K 0).length + (K 1).length)) + (-1))), some (.int (nI (sp_turn C ((sp_all K).take ((K 0).length + (K 1).length))))), some (.int (nI 1)), some (.int (nI (K 1).length)), o2] [] (gz_mk L σ2) Q) →
      gz_R 0 yX4_planLoads cX4_planLoads 8 none 0 0 26 [some (.ref 39), some (.int (nI cb)), some (.int (nI (sp_len K))), some (.int (nI (sp_len K - (K 0).length) + (-1))), some (.int (nI (sp_turn C ((sp_all K).take (K 0).length)))), some (.int (nI 1)), some (.int (nI 0)), o] [] (gz_mk L σ1) Q := by
    intro σ1 o h1 hx
    have hlk := hK.lenk (k := 1) (by decide)
    obtain ⟨rs, rr⟩ := rK.1 1 (by decide)
    refine zl_up (τ := gz_Mm × Option Value) (K 1).length (fun i t => I ((K 0).length + i) t.1) (fun i t => gz_R 0 yX4_planLoads cX4_planLoads 8 none 0 0 26 [some (.ref 39), some (.int (nI cb)), some (.int (nI (sp_len K))), some (.int (nI (sp_len K - ((K 0).length + i)) + (-1))), some (.int (nI (sp_turn C ((sp_all K).take ((K 0).length + i))))), some (.int (nI 1)), some (.int (nI i)), t.2] [] (gz_mk L t.1) Q) ?_ ?_ 0 (σ1, o) (Nat.zero_le _) h1
    · rintro ⟨σ2, o2⟩ hI
      refine zr_iload dX4_planLoads_26 rfl ?_
      refine zr_aload_n dX4_planLoads_28 rfl ?_
      refine zt_getr zg_X4_15 dX4_planLoads_29 rfl rfl rfl ?_
      refine zt_getr zg_X4_78 dX4_planLoads_32 rfl rfl rfl ?_
      refine zr_iload dX4_planLoads_35 rfl ?_
      refine zt_ildN dX4_planLoads_37 rfl rfl (by decide) ((congrFun (hI.1 28 (by decide)) 1).trans rs) ?_
      refine zr_icmp_ge 103 dX4_planLoads_38 (by decide) (fun h => ?_) (fun h => ?_)
      · exact hx σ2 o2 hI
      · exact absurd (Int32.le_refl _) h
    · rintro i ⟨σ2, o2⟩ hi hI ih
      obtain ⟨eg, hp⟩ := all_gd_1 K hi
      obtain ⟨hf, hz, hv⟩ := hI
      have hri := rr i hi
      have hcm : (K 1).getD i 0 ∈ sp_all K := sp_all_mem (k := 1) (by decide) (ls_mem hi)
      have hcn := hK.2 _ hcm
      have htk := ls_take hp
      rw [eg] at htk
      have hld : sp_ld C K cb ((K 0).length + i) = (cb / 2 ^ ((K 1).getD i 0) % 2 + sp_turn C ((sp_all K).take ((K 0).length + i + 1))) % 2 := by
        unfold sp_ld
        rw [eg]
      generalize hpe : (K 0).length + i = p at *
      generalize hce : (K 1).getD i 0 = c at *
      have c20 : c < 20 := by omega
      have ht := (hC.2.2.1 c hcn).2.2.2
      have htl := sp_turn_lt C ((sp_all K).take p)
      have htl2 := sp_turn_lt C ((sp_all K).take (p + 1))
      rw [htk, sp_turn_app] at hld htl2
      have eln := hnl2 (by omega)
      obtain ⟨a, ha⟩ : ∃ a, sp_len K - p = a + 1 := ⟨sp_len K - p - 1, by omega⟩
      refine zr_iload dX4_planLoads_26 rfl ?_
      refine zr_aload_n dX4_planLoads_28 rfl ?_
      refine zt_getr zg_X4_15 dX4_planLoads_29 rfl rfl rfl ?_
      refine zt_getr zg_X4_78 dX4_planLoads_32 rfl rfl rfl ?_
      refine zr_iload dX4_planLoads_35 rfl ?_
      refine zt_ildN dX4_planLoads_37 rfl rfl (by decide) ((congrFun (hf 28 (by decide)) 1).trans rs) ?_
      refine zr_icmp_ge 103 dX4_planLoads_38 (by decide) (fun h => ?_) (fun h => ?_)
      · exact absurd h (nI_ge hi (by omega))
      · refine zr_aload_n dX4_planLoads_41 rfl ?_
        refine zt_getr zg_X4_15 dX4_planLoads_42 rfl rfl rfl ?_
        refine zt_getr zg_X4_81 dX4_planLoads_45 rfl rfl rfl ?_
        refine zr_iload dX4_planLoads_48 rfl ?_
        refine zt_aldN (t := 26) dX4_planLoads_50 rfl rfl (by decide) (rfl) ?_
        refine zr_iload dX4_planLoads_51 rfl ?_
        refine zt_ildN dX4_planLoads_53 rfl rfl (by omega) ((congrFun (hf 26 (by decide)) i).trans hri) ?_
        refine zr_istore dX4_planLoads_54 (by decide) rfl ?_
        refine zr_iload dX4_planLoads_56 rfl ?_
        refine zr_aload_n dX4_planLoads_58 rfl ?_
        refine zt_getr zg_X4_15 dX4_planLoads_59 rfl rfl rfl ?_
        refine zt_getr zg_X4_85 dX4_planLoads_62 rfl rfl rfl ?_
        refine zr_iload dX4_planLoads_65 rfl ?_
        refine zt_zldN dX4_planLoads_67 rfl rfl (c20) ((congrFun (hf 30 (by decide)) c).trans (rK.2.1 c hcm)) ?_
        have go : ∀ x : Nat, x = C 12 c → gz_R 0 yX4_planLoads cX4_planLoads 8 none 0 0 76 [some (.ref 39), some (.int (nI cb)), some (.int (nI (sp_len K))), some (.int (nI (sp_len K - p) + (-1))), some (.int (nI (sp_turn C ((sp_all K).take p)))), some (.int (nI 1)), some (.int (nI i)), some (.int (nI c))] [.int (nI x), .int (nI (sp_turn C ((sp_all K).take p)))] (gz_mk L σ2) Q := by
          intro x ex
          rw [ha, pk_m1]
          have hmod : cb / 2 ^ c % 2 < 2 := Nat.mod_lt _ (by decide)
          refine zr_ixor dX4_planLoads_76 ?_
          refine zr_top (bt_xor _ htl x (by omega)) ?_
          refine zr_istore dX4_planLoads_77 (by decide) rfl ?_
          refine zr_aload_n dX4_planLoads_79 rfl ?_
          refine zt_getr zg_X4_9 dX4_planLoads_80 rfl rfl rfl ?_
          refine zr_iload_n dX4_planLoads_83 rfl ?_
          refine zr_iload_n dX4_planLoads_84 rfl ?_
          refine zr_iload dX4_planLoads_85 rfl ?_
          refine zr_ishr dX4_planLoads_87 ?_
          refine zr_iconst (v := 1) dX4_planLoads_88 kc_iconst_1 ?_
          refine zr_iand dX4_planLoads_89 ?_
          refine zr_top (bt_bit hcb (by omega)) ?_
          refine zr_iload dX4_planLoads_90 rfl ?_
          refine zr_ixor dX4_planLoads_92 ?_
          refine zr_top (bt_xor _ hmod _ (Nat.mod_lt _ (by decide))) ?_
          refine zt_istN dX4_planLoads_93 rfl rfl rfl (by omega) ?_
          refine zr_iinc dX4_planLoads_94 rfl rfl rfl ?_
          refine zr_iinc dX4_planLoads_97 rfl (kc_inc (i)) rfl ?_
          refine zr_goto 26 dX4_planLoads_100 (by decide) ?_
          have e1 : nI a + Int32.ofInt (-1) = nI (sp_len K - (p + 1)) + (-1) := by
            rw [show sp_len K - (p + 1) = a by omega]
            rfl
          have e2 : (sp_turn C ((sp_all K).take p) + x) % 2 = sp_turn C ((sp_all K).take (p + 1)) := by rw [htk, sp_turn_app, ex]
          rw [e1, e2]
          have ep : p + 1 = (K 0).length + (i + 1) := by omega
          rw [ep]
          refine ih (_, _) ?_
          show I ((K 0).length + (i + 1)) (gz_wr σ2 40 a _)
          rw [← ep]
          refine ⟨fun k hk => (gz_wr_ne hk).trans (hf k hk), fun h0 => by omega, fun q hq => ?_⟩
          rw [gz_wr_eq]
          by_cases eq : q = p
          · subst eq
            rw [show sp_len K - 1 - q = a by omega, hld]
            simp only [upd, if_true]
            rw [htk, sp_turn_app]
          · rw [pk_un (show sp_len K - 1 - q ≠ a by omega)]
            exact hv q (by omega)
        refine zr_if_eq 75 dX4_planLoads_68 (by decide) (fun h2 => ?_) (fun h2 => ?_)
        · have e0 : C 12 c = 0 := (nI_eq (b := 0) (by omega) (by omega)).mp h2
          refine zr_iconst (v := 0) dX4_planLoads_75 kc_iconst_0 ?_
          exact go 0 e0.symm
        · have e1 : C 12 c = 1 := by
            have : C 12 c ≠ 0 := fun q => h2 (by rw [q]; rfl)
            omega
          refine zr_iconst (v := 1) dX4_planLoads_71 kc_iconst_1 ?_
          refine zr_goto 76 dX4_planLoads_72 (by decide) ?_
          exact go 1 e1.symm
  have inner2 : ∀ (σ1 : gz_Mm) (o : Option Value), I ((K 0).length + (K 1).length) σ1 →
      (∀ (σ2 : gz_Mm) (o2 : Option Value), I (((K 0).length + (K 1).length) + (K 2).length) σ2 → gz_R 0 yX4_planLoads cX4_planLoads 8 none 0 0 103 [some (.ref 39), some (.int (nI cb)), some (.int (nI (sp_len K))), some (.int (nI (sp_len K - (((K 0).length + (K 1).length) + (K 2).length)) + (-1))), some (.int (nI (sp_turn C ((sp_all K).take (((K 0).length + (K 1).length) + (K 2).length))))), some (.int (nI 2)), some (.int (nI (K 2).length)), o2] [] (gz_mk L σ2) Q) →
      gz_R 0 yX4_planLoads cX4_planLoads 8 none 0 0 26 [some (.ref 39), some (.int (nI cb)), some (.int (nI (sp_len K))), some (.int (nI (sp_len K - ((K 0).length + (K 1).length)) + (-1))), some (.int (nI (sp_turn C ((sp_all K).take ((K 0).length + (K 1).length))))), some (.int (nI 2)), some (.int (nI 0)), o] [] (gz_mk L σ1) Q := by
    intro σ1 o h1 hx
    have hlk := hK.lenk (k := 2) (by decide)
    obtain ⟨rs, rr⟩ := rK.1 2 (by decide)
    refine zl_up (τ := gz_Mm × Option Value) (K 2).length (fun i t => I (((K 0).length + (K 1).length) + i) t.1) (fun i t => gz_R 0 yX4_planLoads cX4_planLoads 8 none 0 0 26 [some (.ref 39), some (.int (nI cb)), some (.int (nI (sp_len K))), some (.int (nI (sp_len K - (((K 0).length + (K 1).length) + i)) + (-1))), some (.int (nI (sp_turn C ((sp_all K).take (((K 0).length + (K 1).length) + i))))), some (.int (nI 2)), some (.int (nI i)), t.2] [] (gz_mk L t.1) Q) ?_ ?_ 0 (σ1, o) (Nat.zero_le _) h1
    · rintro ⟨σ2, o2⟩ hI
      refine zr_iload dX4_planLoads_26 rfl ?_
      refine zr_aload_n dX4_planLoads_28 rfl ?_
      refine zt_getr zg_X4_15 dX4_planLoads_29 rfl rfl rfl ?_
      refine zt_getr zg_X4_78 dX4_planLoads_32 rfl rfl rfl ?_
      refine zr_iload dX4_planLoads_35 rfl ?_
      refine zt_ildN dX4_planLoads_37 rfl rfl (by decide) ((congrFun (hI.1 28 (by decide)) 2).trans rs) ?_
      refine zr_icmp_ge 103 dX4_planLoads_38 (by decide) (fun h => ?_) (fun h => ?_)
      · exact hx σ2 o2 hI
      · exact absurd (Int32.le_refl _) h
    · rintro i ⟨σ2, o2⟩ hi hI ih
      obtain ⟨eg, hp⟩ := all_gd_2 K hi
      obtain ⟨hf, hz, hv⟩ := hI
      have hri := rr i hi
      have hcm : (K 2).getD i 0 ∈ sp_all K := sp_all_mem (k := 2) (by decide) (ls_mem hi)
      have hcn := hK.2 _ hcm
      have htk := ls_take hp
      rw [eg] at htk
      have hld : sp_ld C K cb (((K 0).length + (K 1).length) + i) = (cb / 2 ^ ((K 2).getD i 0) % 2 + sp_turn C ((sp_all K).take (((K 0).length + (K 1).length) + i + 1))) % 2 := by
        unfold sp_ld
        rw [eg]
      generalize hpe : ((K 0).length + (K 1).length) + i = p at *
      generalize hce : (K 2).getD i 0 = c at *
      have c20 : c < 20 := by omega
      have ht := (hC.2.2.1 c hcn).2.2.2
      have htl := sp_turn_lt C ((sp_all K).take p)
      have htl2 := sp_turn_lt C ((sp_all K).take (p + 1))
      rw [htk, sp_turn_app] at hld htl2
      have eln := hnl2 (by omega)
      obtain ⟨a, ha⟩ : ∃ a, sp_len K - p = a + 1 := ⟨sp_len K - p - 1, by omega⟩
      refine zr_iload dX4_planLoads_26 rfl ?_
      refine zr_aload_n dX4_planLoads_28 rfl ?_
      refine zt_getr zg_X4_15 dX4_planLoads_29 rfl rfl rfl ?_
      refine zt_getr zg_X4_78 dX4_planLoads_32 rfl rfl rfl ?_
      refine zr_iload dX4_planLoads_35 rfl ?_
      refine zt_ildN dX4_planLoads_37 rfl rfl (by decide) ((congrFun (hf 28 (by decide)) 2).trans rs) ?_
      refine zr_icmp_ge 103 dX4_planLoads_38 (by decide) (fun h => ?_) (fun h => ?_)
      · exact absurd h (nI_ge hi (by omega))
      · refine zr_aload_n dX4_planLoads_41 rfl ?_
        refine zt_getr zg_X4_15 dX4_planLoads_42 rfl rfl rfl ?_
        refine zt_getr zg_X4_81 dX4_planLoads_45 rfl rfl rfl ?_
        refine zr_iload dX4_planLoads_48 rfl ?_
        refine zt_aldN (t := 27) dX4_planLoads_50 rfl rfl (by decide) (rfl) ?_
        refine zr_iload dX4_planLoads_51 rfl ?_
        refine zt_ildN dX4_planLoads_53 rfl rfl (by omega) ((congrFun (hf 27 (by decide)) i).trans hri) ?_
        refine zr_istore dX4_planLoads_54 (by decide) rfl ?_
        refine zr_iload dX4_planLoads_56 rfl ?_
        refine zr_aload_n dX4_planLoads_58 rfl ?_
        refine zt_getr zg_X4_15 dX4_planLoads_59 rfl rfl rfl ?_
        refine zt_getr zg_X4_85 dX4_planLoads_62 rfl rfl rfl ?_
        refine zr_iload dX4_planLoads_65 rfl ?_
        refine zt_zldN dX4_planLoads_67 rfl rfl (c20) ((congrFun (hf 30 (by decide)) c).trans (rK.2.1 c hcm)) ?_
        have go : ∀ x : Nat, x = C 12 c → gz_R 0 yX4_planLoads cX4_planLoads 8 none 0 0 76 [some (.ref 39), some (.int (nI cb)), some (.int (nI (sp_len K))), some (.int (nI (sp_len K - p) + (-1))), some (.int (nI (sp_turn C ((sp_all K).take p)))), some (.int (nI 2)), some (.int (nI i)), some (.int (nI c))] [.int (nI x), .int (nI (sp_turn C ((sp_all K).take p)))] (gz_mk L σ2) Q := by
          intro x ex
          rw [ha, pk_m1]
          have hmod : cb / 2 ^ c % 2 < 2 := Nat.mod_lt _ (by decide)
          refine zr_ixor dX4_planLoads_76 ?_
          refine zr_top (bt_xor _ htl x (by omega)) ?_
          refine zr_istore dX4_planLoads_77 (by decide) rfl ?_
          refine zr_aload_n dX4_planLoads_79 rfl ?_
          refine zt_getr zg_X4_9 dX4_planLoads_80 rfl rfl rfl ?_
          refine zr_iload_n dX4_planLoads_83 rfl ?_
          refine zr_iload_n dX4_planLoads_84 rfl ?_
          refine zr_iload dX4_planLoads_85 rfl ?_
          refine zr_ishr dX4_planLoads_87 ?_
          refine zr_iconst (v := 1) dX4_planLoads_88 kc_iconst_1 ?_
          refine zr_iand dX4_planLoads_89 ?_
          refine zr_top (bt_bit hcb (by omega)) ?_
          refine zr_iload dX4_planLoads_90 rfl ?_
          refine zr_ixor dX4_planLoads_92 ?_
          refine zr_top (bt_xor _ hmod _ (Nat.mod_lt _ (by decide))) ?_
          refine zt_istN dX4_planLoads_93 rfl rfl rfl (by omega) ?_
          refine zr_iinc dX4_planLoads_94 rfl rfl rfl ?_
          refine zr_iinc dX4_planLoads_97 rfl (kc_inc (i)) rfl ?_
          refine zr_goto 26 dX4_planLoads_100 (by decide) ?_
          have e1 : nI a + Int32.ofInt (-1) = nI (sp_len K - (p + 1)) + (-1) := by
            rw [show sp_len K - (p + 1) = a by omega]
            rfl
          have e2 : (sp_turn C ((sp_all K).take p) + x) % 2 = sp_turn C ((sp_all K).take (p + 1)) := by rw [htk, sp_turn_app, ex]
          rw [e1, e2]
          have ep : p + 1 = ((K 0).length + (K 1).length) + (i + 1) := by omega
          rw [ep]
          refine ih (_, _) ?_
          show I (((K 0).length + (K 1).length) + (i + 1)) (gz_wr σ2 40 a _)
          rw [← ep]
          refine ⟨fun k hk => (gz_wr_ne hk).trans (hf k hk), fun h0 => by omega, fun q hq => ?_⟩
          rw [gz_wr_eq]
          by_cases eq : q = p
          · subst eq
            rw [show sp_len K - 1 - q = a by omega, hld]
            simp only [upd, if_true]
            rw [htk, sp_turn_app]
          · rw [pk_un (show sp_len K - 1 - q ≠ a by omega)]
            exact hv q (by omega)
        refine zr_if_eq 75 dX4_planLoads_68 (by decide) (fun h2 => ?_) (fun h2 => ?_)
        · have e0 : C 12 c = 0 := (nI_eq (b := 0) (by omega) (by omega)).mp h2
          refine zr_iconst (v := 0) dX4_planLoads_75 kc_iconst_0 ?_
          exact go 0 e0.symm
        · have e1 : C 12 c = 1 := by
            have : C 12 c ≠ 0 := fun q => h2 (by rw [q]; rfl)
            omega
          refine zr_iconst (v := 1) dX4_planLoads_71 kc_iconst_1 ?_
          refine zr_goto 76 dX4_planLoads_72 (by decide) ?_
          exact go 1 e1.symm
  have e0 : nI (sp_len K) - 1 = nI (sp_len K - 0) + (-1) := by
    rw [Nat.sub_zero]
    exact (Int32.sub_eq_add_neg _ _)
  refine zr_aload_n dX4_planLoads_0 rfl ?_
  refine zt_getr zg_X4_9 dX4_planLoads_1 rfl rfl rfl ?_
  refine zr_iconst (v := 0) dX4_planLoads_4 kc_iconst_0 ?_
  refine zr_iconst (v := 0) dX4_planLoads_5 kc_iconst_0 ?_
  refine zt_istN dX4_planLoads_6 rfl rfl rfl (by decide) ?_
  refine zr_iload_n dX4_planLoads_7 rfl ?_
  refine zr_iconst (v := 1) dX4_planLoads_8 kc_iconst_1 ?_
  refine zr_isub dX4_planLoads_9 ?_
  refine zr_top (e0) ?_
  refine zr_istore_n dX4_planLoads_10 (by decide) rfl ?_
  refine zr_iconst (v := 0) dX4_planLoads_11 kc_iconst_0 ?_
  refine zr_istore dX4_planLoads_12 (by decide) rfl ?_
  refine zr_iconst (v := 0) dX4_planLoads_14 kc_iconst_0 ?_
  refine zr_istore dX4_planLoads_15 (by decide) rfl ?_
  refine zr_iload dX4_planLoads_17 rfl ?_
  refine zr_iconst (v := 3) dX4_planLoads_19 kc_iconst_3 ?_
  refine zr_icmp_ge 109 dX4_planLoads_20 (by decide) (fun h => ?_) (fun h => ?_)
  · exact absurd h (by decide)
  · refine zr_iconst (v := 0) dX4_planLoads_23 kc_iconst_0 ?_
    refine zr_istore dX4_planLoads_24 (by decide) rfl ?_
    refine inner0 _ none ⟨fun k hk => gz_wr_ne hk, fun _ => by simp [gz_wr, upd], fun q hq => absurd hq (Nat.not_lt_zero q)⟩ (fun σ2 o2 h2 => ?_)
    rw [Nat.zero_add] at h2 ⊢
    refine zr_iinc dX4_planLoads_103 rfl (kc_inc (0)) rfl ?_
    refine zr_goto 17 dX4_planLoads_106 (by decide) ?_
    refine zr_iload dX4_planLoads_17 rfl ?_
    refine zr_iconst (v := 3) dX4_planLoads_19 kc_iconst_3 ?_
    refine zr_icmp_ge 109 dX4_planLoads_20 (by decide) (fun h => ?_) (fun h => ?_)
    · exact absurd h (by decide)
    · refine zr_iconst (v := 0) dX4_planLoads_23 kc_iconst_0 ?_
      refine zr_istore dX4_planLoads_24 (by decide) rfl ?_
      refine inner1 σ2 o2 h2 (fun σ3 o3 h3 => ?_)
      refine zr_iinc dX4_planLoads_103 rfl (kc_inc (1)) rfl ?_
      refine zr_goto 17 dX4_planLoads_106 (by decide) ?_
      refine zr_iload dX4_planLoads_17 rfl ?_
      refine zr_iconst (v := 3) dX4_planLoads_19 kc_iconst_3 ?_
      refine zr_icmp_ge 109 dX4_planLoads_20 (by decide) (fun h => ?_) (fun h => ?_)
      · exact absurd h (by decide)
      · refine zr_iconst (v := 0) dX4_planLoads_23 kc_iconst_0 ?_
        refine zr_istore dX4_planLoads_24 (by decide) rfl ?_
        refine inner2 σ3 o3 h3 (fun σ4 o4 h4 => ?_)
        refine zr_iinc dX4_planLoads_103 rfl (kc_inc (2)) rfl ?_
        refine zr_goto 17 dX4_planLoads_106 (by decide) ?_
        refine zr_iload dX4_planLoads_17 rfl ?_
        refine zr_iconst (v := 3) dX4_planLoads_19 kc_iconst_3 ?_
        refine zr_icmp_ge 109 dX4_planLoads_20 (by decide) (fun h => ?_) (fun h => ?_)
        · refine zr_vret dX4_planLoads_109 rfl (hQ _ ⟨h4.1, fun i hi => ?_⟩)
          obtain ⟨hf, hz, hv⟩ := h4
          have en : (K 0).length + (K 1).length + (K 2).length = (sp_all K).length := by rw [sp_all_len]; omega
          rw [en] at hv
          unfold sp_lo
          by_cases hz0 : (sp_all K).length = 0
          · rw [if_pos hz0]
            have : sp_len K = 1 := by simp [sp_len, hz0]
            rw [show i = 0 by omega]
            exact hz hz0
          · rw [if_neg hz0]
            have eln := hnl2 hz0
            have := hv ((sp_all K).length - 1 - i) (by omega)
            rw [show sp_len K - 1 - ((sp_all K).length - 1 - i) = i by omega] at this
            exact this
        · exact absurd (by decide) h
