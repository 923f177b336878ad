/-! ===== the reference: driving ===== -/
def rm_M (σ : gz_Mm) (C m : sp_T) (K : sp_K) (tg d : Nat) : Prop := rm_C σ C ∧ rm_K σ C K ∧ rm_m σ C m ∧ sp_wm m ∧ σ 57 27 = nI tg ∧ σ 57 36 = nI d
def rm_E (σ σ' : gz_Mm) : Prop := (∀ k, k ≠ 57 → k ≠ 73 → k ≠ 74 → k ≠ 75 → σ' k = σ k) ∧ ∀ j, j ≠ 23 → j ≠ 24 → j ≠ 25 → j ≠ 26 → j ≠ 28 → j ≠ 36 → σ' 57 j = σ 57 j
theorem rm_E.rf {σ : gz_Mm} : rm_E σ σ := ⟨fun _ _ _ _ _ => rfl, fun _ _ _ _ _ _ _ => rfl⟩
theorem rm_E.tr {σ σ' σ'' : gz_Mm} (h : rm_E σ σ') (h' : rm_E σ' σ'') : rm_E σ σ'' := ⟨fun k a b c d => (h'.1 k a b c d).trans (h.1 k a b c d), fun j a b c d e f => (h'.2 j a b c d e f).trans (h.2 j a b c d e f)⟩
theorem rm_F.E {σ σ' : gz_Mm} (h : rm_F σ σ') : rm_E σ σ' := ⟨h.1, fun j a b c d e _ => h.2 j a b c d e⟩
theorem rm_E.dr {σ : gz_Mm} (x : Int32) : rm_E σ (gz_wr σ 57 36 x) := ⟨fun k a _ _ _ => gz_wr_ne a, fun j _ _ _ _ _ h => by rw [gz_wr_eq, pk_un h]⟩
theorem rm_m.w57 {σ : gz_Mm} {C m : sp_T} (h : rm_m σ C m) (j : Nat) (x : Int32) (hj : j < 21 ∨ j = 27 ∨ 28 < j) : rm_m (gz_wr σ 57 j x) C m := h.kept (fun i hi => by rw [gz_wr_eq, pk_un (by omega)]) (gz_wr_ne (by decide)) (gz_wr_ne (by decide))
theorem rm_M.ticked {σ σ' : gz_Mm} {C m m' : sp_T} {K : sp_K} {tg d : Nat} (h : rm_M σ C m K tg d) (hm : sp_wm m') (hf : rm_F σ σ') (r : rm_m σ' C m') : rm_M (gz_wr σ' 57 36 (nI (d + 1))) C m' K tg (d + 1) := by
  refine ⟨(hf.C h.1).kept (fun j hj => by rw [gz_wr_eq, pk_un (by omega)]) (fun k h1 h2 _ _ _ _ => gz_wr_ne (by omega)), (hf.K h.2.1).kept (fun k hk => gz_wr_ne (by omega)), r.w57 36 _ (by omega), hm, ?_, by rw [gz_wr_eq]; simp [upd]⟩
  rw [gz_wr_eq, pk_un (by decide), hf.2 27 (by decide) (by decide) (by decide) (by decide) (by decide)]
  exact h.2.2.2.2.1
def sp_re (C : sp_T) (K : sp_K) (tg l x : Nat) : Nat → sp_T → sp_T
  | 0, m => m
  | n + 1, m => (sp_tk C K tg (sp_re C K tg l x n m) l x).2
theorem cm_lead (L : Nat) (σ : gz_Mm) (C m : sp_T) (K : sp_K) (hC : sp_wf C) (hK : sp_wk C K) (tg d : Nat) (htg : tg < 65536) (h : rm_M σ C m K tg d) (l n x : Nat) (hl : l ≤ 1) (hx : x ≤ 1) (hn : n < 100) :
    gz_Gv 6 yX9_lead cX9_lead 6 none L [.ref 57, .int (nI l), .int (nI n), .int (nI x)] σ (fun σ' => rm_M σ' C (sp_re C K tg l x n m) K tg (d + n) ∧ rm_E σ σ') := by
  refine gz_Gv.of rfl rfl (fun Q hQ => ?_)
  refine zr_iconst (v := 0) dX9_lead_0 kc_iconst_0 ?_
  refine zr_istore dX9_lead_1 (by decide) rfl ?_
  refine zl_up (τ := gz_Mm × Option Value) n (fun i t => rm_M t.1 C (sp_re C K tg l x i m) K tg (d + i) ∧ rm_E σ t.1) (fun i t => gz_R 6 yX9_lead cX9_lead 6 none 0 0 3 [some (.ref 57), some (.int (nI l)), some (.int (nI n)), some (.int (nI x)), some (.int (nI i)), t.2] [] (gz_mk L t.1) Q) ?_ ?_ 0 (σ, none) (Nat.zero_le _) ⟨h, rm_E.rf⟩
  · rintro ⟨σ1, o1⟩ hI
    refine zr_iload dX9_lead_3 rfl ?_
    refine zr_iload_n dX9_lead_5 rfl ?_
    refine zr_icmp_ge 33 dX9_lead_6 (by decide) (fun hp6 => ?_) (fun h => absurd (Int32.le_refl _) h)
    exact zr_vret dX9_lead_33 rfl (hQ _ hI)
  · rintro i ⟨σ1, o1⟩ hi ⟨hM, hE⟩ ih
    refine zr_iload dX9_lead_3 rfl ?_
    refine zr_iload_n dX9_lead_5 rfl ?_
    refine zr_icmp_ge 33 dX9_lead_6 (by decide) (fun h => absurd h (nI_ge hi (by omega))) (fun hp6 => ?_)
    refine zr_aload_n dX9_lead_9 rfl ?_
    refine zr_iload_n dX9_lead_10 rfl ?_
    refine zr_iload_n dX9_lead_11 rfl ?_
    refine zt_cVi (As := [_, _]) (cm_ticked L σ1 C _ K hC hM.2.2.2.1 hK hM.1 hM.2.1 hM.2.2.1 tg l x hM.2.2.2.2.1 hl hx) zc_X9_216 rfl dX9_lead_12 rfl rfl rfl rfl rfl rfl (fun r2 σ2 h2 => ?_)
    refine zr_istore dX9_lead_15 (by decide) rfl ?_
    obtain ⟨-, a2, a3⟩ := h2
    have e36 : σ2 57 36 = nI (d + i) := (a3.2 36 (by decide) (by decide) (by decide) (by decide) (by decide)).trans hM.2.2.2.2.2
    refine zr_aload_n dX9_lead_17 rfl ?_
    refine zr_dup dX9_lead_18 rfl ?_
    refine zt_geti zg_X9_219 dX9_lead_19 rfl rfl rfl ?_
    refine zr_top (e36) ?_
    refine zr_iconst (v := 1) dX9_lead_22 kc_iconst_1 ?_
    refine zr_iadd dX9_lead_23 ?_
    refine zr_top (nI_1 _) ?_
    refine zt_put zp_X9_219 dX9_lead_24 rfl rfl rfl rfl ?_
    refine zr_iinc dX9_lead_27 rfl (kc_inc (i)) rfl ?_
    refine zr_goto 3 dX9_lead_30 (by decide) ?_
    exact ih (_, _) ⟨hM.ticked (sp_tk_wm hM.2.2.2.1 htg hl hx) a3 a2, hE.tr (a3.E.tr (rm_E.dr _))⟩
theorem cm_chained (L : Nat) (σ : gz_Mm) (C : sp_T) (K : sp_K) (rK : rm_K σ C K) : gz_F 0 yX9_chained cX9_chained 1 (some .int) L [.ref 57] σ (some (.int (nI (sp_all K).length))) σ := by
  have e : nI ((K 0).length + (K 1).length + (K 2).length) = nI (sp_all K).length := by rw [sp_all_len, Nat.add_assoc]
  refine gz_F.of rfl rfl ?_
  refine zr_aload_n dX9_chained_0 rfl ?_
  refine zt_getr zg_X9_44 dX9_chained_1 rfl rfl rfl ?_
  refine zr_iconst (v := 0) dX9_chained_4 kc_iconst_0 ?_
  refine zt_ildN dX9_chained_5 rfl rfl (by decide) ((rK.1 0 (by decide)).1) ?_
  refine zr_aload_n dX9_chained_6 rfl ?_
  refine zt_getr zg_X9_44 dX9_chained_7 rfl rfl rfl ?_
  refine zr_iconst (v := 1) dX9_chained_10 kc_iconst_1 ?_
  refine zt_ildN dX9_chained_11 rfl rfl (by decide) ((rK.1 1 (by decide)).1) ?_
  refine zr_iadd dX9_chained_12 ?_
  refine zr_top (nI_add _ _) ?_
  refine zr_aload_n dX9_chained_13 rfl ?_
  refine zt_getr zg_X9_44 dX9_chained_14 rfl rfl rfl ?_
  refine zr_iconst (v := 2) dX9_chained_17 kc_iconst_2 ?_
  refine zt_ildN dX9_chained_18 rfl rfl (by decide) ((rK.1 2 (by decide)).1) ?_
  refine zr_iadd dX9_chained_19 ?_
  refine zr_top ((nI_add _ _).trans e) ?_
  exact zr_iret dX9_chained_20 rfl (⟨rfl, rfl⟩)
theorem cm_cellAt (L : Nat) (σ : gz_Mm) (C : sp_T) (K : sp_K) (hC : sp_wf C) (hK : sp_wk C K) (rK : rm_K σ C K) (p : Nat) (hp : p < (sp_all K).length) : gz_F 0 yX9_cellAt cX9_cellAt 4 (some .int) L [.ref 57, .int (nI p)] σ (some (.int (nI ((sp_all K).getD p 0)))) σ := by
  have hl20 := hK.len20 hC
  have hln := sp_all_len K
  obtain ⟨s0, r0⟩ := rK.1 0 (by decide)
  obtain ⟨s1, r1⟩ := rK.1 1 (by decide)
  obtain ⟨s2, r2⟩ := rK.1 2 (by decide)
  refine gz_F.of rfl rfl ?_
  by_cases h0 : p < (K 0).length
  · have g := (all_gd_0 K h0).1
    rw [Nat.zero_add] at g
    rw [g]
    refine zr_iconst (v := 0) dX9_cellAt_0 kc_iconst_0 ?_
    refine zr_istore_n dX9_cellAt_1 (by decide) rfl ?_
    refine zr_iload_n dX9_cellAt_2 rfl ?_
    refine zr_istore_n dX9_cellAt_3 (by decide) rfl ?_
    refine zr_iload_n dX9_cellAt_4 rfl ?_
    refine zr_aload_n dX9_cellAt_5 rfl ?_
    refine zt_getr zg_X9_44 dX9_cellAt_6 rfl rfl rfl ?_
    refine zr_iload_n dX9_cellAt_9 rfl ?_
    refine zt_ildN dX9_cellAt_10 rfl rfl (by decide) (s0) ?_
    refine zr_icmp_lt 29 dX9_cellAt_11 (by decide) (fun hp11 => ?_) (fun h => absurd (nI_lt h0 (by omega)) h)
    refine zr_aload_n dX9_cellAt_29 rfl ?_
    refine zt_getr zg_X9_41 dX9_cellAt_30 rfl rfl rfl ?_
    refine zr_bipush (v := 20) dX9_cellAt_33 kc_bipush_20 ?_
    refine zr_iload_n dX9_cellAt_35 rfl ?_
    refine zr_imul dX9_cellAt_36 ?_
    refine zr_top (lk_20 0) ?_
    refine zr_iload_n dX9_cellAt_37 rfl ?_
    refine zr_iadd dX9_cellAt_38 ?_
    refine zr_top ((nI_add _ _).trans (congrArg nI (show 20 * 0 + p = 20 * 0 + p from rfl))) ?_
    refine zt_ildN dX9_cellAt_39 rfl rfl (by omega) (r0 p h0) ?_
    exact zr_iret dX9_cellAt_40 rfl (⟨rfl, rfl⟩)
  · refine zr_iconst (v := 0) dX9_cellAt_0 kc_iconst_0 ?_
    refine zr_istore_n dX9_cellAt_1 (by decide) rfl ?_
    refine zr_iload_n dX9_cellAt_2 rfl ?_
    refine zr_istore_n dX9_cellAt_3 (by decide) rfl ?_
    refine zr_iload_n dX9_cellAt_4 rfl ?_
    refine zr_aload_n dX9_cellAt_5 rfl ?_
    refine zt_getr zg_X9_44 dX9_cellAt_6 rfl rfl rfl ?_
    refine zr_iload_n dX9_cellAt_9 rfl ?_
    refine zt_ildN dX9_cellAt_10 rfl rfl (by decide) (s0) ?_
    refine zr_icmp_lt 29 dX9_cellAt_11 (by decide) (fun h => absurd h (nI_nlt (by omega) (by omega))) (fun hp11 => ?_)
    refine zr_iload_n dX9_cellAt_14 rfl ?_
    refine zr_aload_n dX9_cellAt_15 rfl ?_
    refine zt_getr zg_X9_44 dX9_cellAt_16 rfl rfl rfl ?_
    refine zr_iload_n dX9_cellAt_19 rfl ?_
    refine zt_ildN dX9_cellAt_20 rfl rfl (by decide) (s0) ?_
    refine zr_isub dX9_cellAt_21 ?_
    refine zr_top (pk_sub (by omega)) ?_
    refine zr_istore_n dX9_cellAt_22 (by decide) rfl ?_
    refine zr_iinc dX9_cellAt_23 rfl (kc_inc (0)) rfl ?_
    refine zr_goto 4 dX9_cellAt_26 (by decide) ?_
    by_cases h1 : p - (K 0).length < (K 1).length
    · have g := (all_gd_1 K h1).1
      rw [show (K 0).length + (p - (K 0).length) = p by omega] at g
      rw [g]
      refine zr_iload_n dX9_cellAt_4 rfl ?_
      refine zr_aload_n dX9_cellAt_5 rfl ?_
      refine zt_getr zg_X9_44 dX9_cellAt_6 rfl rfl rfl ?_
      refine zr_iload_n dX9_cellAt_9 rfl ?_
      refine zt_ildN dX9_cellAt_10 rfl rfl (by decide) (s1) ?_
      refine zr_icmp_lt 29 dX9_cellAt_11 (by decide) (fun hp11 => ?_) (fun h => absurd (nI_lt h1 (by omega)) h)
      refine zr_aload_n dX9_cellAt_29 rfl ?_
      refine zt_getr zg_X9_41 dX9_cellAt_30 rfl rfl rfl ?_
      refine zr_bipush (v := 20) dX9_cellAt_33 kc_bipush_20 ?_
      refine zr_iload_n dX9_cellAt_35 rfl ?_
      refine zr_imul dX9_cellAt_36 ?_
      refine zr_top (lk_20 1) ?_
      refine zr_iload_n dX9_cellAt_37 rfl ?_
      refine zr_iadd dX9_cellAt_38 ?_
      refine zr_top (nI_add _ _) ?_
      refine zt_ildN dX9_cellAt_39 rfl rfl (by omega) (r1 _ h1) ?_
      exact zr_iret dX9_cellAt_40 rfl (⟨rfl, rfl⟩)
    · refine zr_iload_n dX9_cellAt_4 rfl ?_
      refine zr_aload_n dX9_cellAt_5 rfl ?_
      refine zt_getr zg_X9_44 dX9_cellAt_6 rfl rfl rfl ?_
      refine zr_iload_n dX9_cellAt_9 rfl ?_
      refine zt_ildN dX9_cellAt_10 rfl rfl (by decide) (s1) ?_
      refine zr_icmp_lt 29 dX9_cellAt_11 (by decide) (fun h => absurd h (nI_nlt (by omega) (by omega))) (fun hp11 => ?_)
      refine zr_iload_n dX9_cellAt_14 rfl ?_
      refine zr_aload_n dX9_cellAt_15 rfl ?_
      refine zt_getr zg_X9_44 dX9_cellAt_16 rfl rfl rfl ?_
      refine zr_iload_n dX9_cellAt_19 rfl ?_
      refine zt_ildN dX9_cellAt_20 rfl rfl (by decide) (s1) ?_
      refine zr_isub dX9_cellAt_21 ?_
      refine zr_top (pk_sub (by omega)) ?_
      refine zr_istore_n dX9_cellAt_22 (by decide) rfl ?_
      refine zr_iinc dX9_cellAt_23 rfl (kc_inc (1)) rfl ?_
      refine zr_goto 4 dX9_cellAt_26 (by decide) ?_
      have h2 : p - (K 0).length - (K 1).length < (K 2).length := by omega
      have g := (all_gd_2 K h2).1
      rw [show (K 0).length + (K 1).length + (p - (K 0).length - (K 1).length) = p by omega] at g
      rw [g]
      refine zr_iload_n dX9_cellAt_4 rfl ?_
      refine zr_aload_n dX9_cellAt_5 rfl ?_
      refine zt_getr zg_X9_44 dX9_cellAt_6 rfl rfl rfl ?_
      refine zr_iload_n dX9_cellAt_9 rfl ?_
      refine zt_ildN dX9_cellAt_10 rfl rfl (by decide) (s2) ?_
      refine zr_icmp_lt 29 dX9_cellAt_11 (by decide) (fun hp11 => ?_) (fun h => absurd (nI_lt h2 (by omega)) h)
      refine zr_aload_n dX9_cellAt_29 rfl ?_
      refine zt_getr zg_X9_41 dX9_cellAt_30 rfl rfl rfl ?_
      refine zr_bipush (v := 20) dX9_cellAt_33 kc_bipush_20 ?_
      refine zr_iload_n dX9_cellAt_35 rfl ?_
      refine zr_imul dX9_cellAt_36 ?_
      refine zr_top (lk_20 2) ?_
      refine zr_iload_n dX9_cellAt_37 rfl ?_
      refine zr_iadd dX9_cellAt_38 ?_
      refine zr_top (nI_add _ _) ?_
      refine zt_ildN dX9_cellAt_39 rfl rfl (by omega) (r2 _ h2) ?_
      exact zr_iret dX9_cellAt_40 rfl (⟨rfl, rfl⟩)
theorem bt_1m : ∀ a, a < 2 → (1 : Int32) - nI a = nI ((a + 1) % 2) := by decide
theorem cm_bitFor (L : Nat) (σ : gz_Mm) (C : sp_T) (K : sp_K) (hC : sp_wf C) (hK : sp_wk C K) (rK : rm_K σ C K) (p cb : Nat) (hp : p < (sp_all K).length) (hcb : cb < 2 ^ 31) : gz_F 1 yX9_bitFor cX9_bitFor 5 (some .int) L [.ref 57, .int (nI p), .int (nI cb)] σ (some (.int (nI (sp_ld C K cb p)))) σ := by
  have hl20 := hK.len20 hC
  have h20 := hC.1.2.2.1
  have hc0 := hK.2 _ (ls_mem hp)
  refine gz_F.of rfl rfl ?_
  refine zr_iload_n dX9_bitFor_0 rfl ?_
  refine zr_aload_n dX9_bitFor_1 rfl ?_
  refine zr_iload_n dX9_bitFor_2 rfl ?_
  refine zt_callVi (As := [_]) (cm_cellAt L σ C K hC hK rK p hp) zc_X9_222 rfl dX9_bitFor_3 rfl rfl rfl rfl rfl rfl ?_
  refine zr_ishr dX9_bitFor_6 ?_
  refine zr_iconst (v := 1) dX9_bitFor_7 kc_iconst_1 ?_
  refine zr_iand dX9_bitFor_8 ?_
  refine zr_top (bt_bit hcb (by omega)) ?_
  refine zr_istore_n dX9_bitFor_9 (by decide) rfl ?_
  refine zr_iconst (v := 0) dX9_bitFor_10 kc_iconst_0 ?_
  refine zr_istore dX9_bitFor_11 (by decide) rfl ?_
  generalize hbe : cb / 2 ^ (sp_all K).getD p 0 % 2 = b
  have hb2 : b < 2 := by rw [← hbe]; exact Nat.mod_lt _ (by decide)
  refine zl_up (τ := Unit) (p + 1) (fun i t => True) (fun i t => gz_R 1 yX9_bitFor cX9_bitFor 5 (some .int) 0 0 13 [some (.ref 57), some (.int (nI p)), some (.int (nI cb)), some (.int (nI ((b + sp_turn C ((sp_all K).take i)) % 2))), some (.int (nI i))] [] (gz_mk L σ) _) ?_ ?_ 0 () (Nat.zero_le _) trivial |> fun q => by
    rw [show (b + sp_turn C ((sp_all K).take 0)) % 2 = b by simp [sp_turn]; omega] at q
    exact q
  · intro _ _
    refine zr_iload dX9_bitFor_13 rfl ?_
    refine zr_iload_n dX9_bitFor_15 rfl ?_
    refine zr_icmp_gt 47 dX9_bitFor_16 (by decide) (fun hp16 => ?_) (fun h => absurd (nI_lt (Nat.lt_succ_self p) (by omega)) h)
    rw [show sp_ld C K cb p = (b + sp_turn C ((sp_all K).take (p + 1))) % 2 by unfold sp_ld; rw [hbe]]
    refine zr_iload_n dX9_bitFor_47 rfl ?_
    exact zr_iret dX9_bitFor_48 rfl (⟨rfl, rfl⟩)
  · intro i _ hi _ ih
    have hil : i < (sp_all K).length := by omega
    have hcm := ls_mem hil
    have hcn := hK.2 _ hcm
    have ht := (hC.2.2.1 _ hcn).2.2.2
    have htk := ls_take hil
    have rt := rK.2.1 _ hcm
    have e := sp_turn_app C ((sp_all K).getD i 0) ((sp_all K).take i)
    rw [← htk] at e
    have hlt := sp_turn_lt C ((sp_all K).take i)
    have ih' := ih () trivial
    rw [e] at ih'
    by_cases e1 : C 12 ((sp_all K).getD i 0) = 1
    · rw [show (b + (sp_turn C ((sp_all K).take i) + C 12 ((sp_all K).getD i 0)) % 2) % 2 = ((b + sp_turn C ((sp_all K).take i)) % 2 + 1) % 2 by omega] at ih'
      refine zr_iload dX9_bitFor_13 rfl ?_
      refine zr_iload_n dX9_bitFor_15 rfl ?_
      refine zr_icmp_gt 47 dX9_bitFor_16 (by decide) (fun h => absurd h (nI_nlt (by omega) (by omega))) (fun hp16 => ?_)
      refine zr_aload_n dX9_bitFor_19 rfl ?_
      refine zt_getr zg_X9_34 dX9_bitFor_20 rfl rfl rfl ?_
      refine zr_aload_n dX9_bitFor_23 rfl ?_
      refine zr_iload dX9_bitFor_24 rfl ?_
      refine zt_callVi (As := [_]) (cm_cellAt L σ C K hC hK rK i hil) zc_X9_222 rfl dX9_bitFor_26 rfl rfl rfl rfl rfl rfl ?_
      refine zt_zldN dX9_bitFor_29 rfl rfl (by omega) (rt) ?_
      refine zr_if_eq 39 dX9_bitFor_30 (by decide) (fun h => absurd h (by rw [e1]; decide)) (fun hp30 => ?_)
      refine zr_iconst (v := 1) dX9_bitFor_33 kc_iconst_1 ?_
      refine zr_iload_n dX9_bitFor_34 rfl ?_
      refine zr_isub dX9_bitFor_35 ?_
      refine zr_top (bt_1m _ (Nat.mod_lt _ (by decide))) ?_
      refine zr_goto 40 dX9_bitFor_36 (by decide) ?_
      refine zr_istore_n dX9_bitFor_40 (by decide) rfl ?_
      refine zr_iinc dX9_bitFor_41 rfl (kc_inc (i)) rfl ?_
      refine zr_goto 13 dX9_bitFor_44 (by decide) ?_
      exact ih'
    · rw [show (b + (sp_turn C ((sp_all K).take i) + C 12 ((sp_all K).getD i 0)) % 2) % 2 = (b + sp_turn C ((sp_all K).take i)) % 2 by omega] at ih'
      refine zr_iload dX9_bitFor_13 rfl ?_
      refine zr_iload_n dX9_bitFor_15 rfl ?_
      refine zr_icmp_gt 47 dX9_bitFor_16 (by decide) (fun h => absurd h (nI_nlt (by omega) (by omega))) (fun hp16 => ?_)
      refine zr_aload_n dX9_bitFor_19 rfl ?_
      refine zt_getr zg_X9_34 dX9_bitFor_20 rfl rfl rfl ?_
      refine zr_aload_n dX9_bitFor_23 rfl ?_
      refine zr_iload dX9_bitFor_24 rfl ?_
      refine zt_callVi (As := [_]) (cm_cellAt L σ C K hC hK rK i hil) zc_X9_222 rfl dX9_bitFor_26 rfl rfl rfl rfl rfl rfl ?_
      refine zt_zldN dX9_bitFor_29 rfl rfl (by omega) (rt) ?_
      refine zr_if_eq 39 dX9_bitFor_30 (by decide) (fun hp30 => ?_) (fun h => absurd (by rw [show C 12 ((sp_all K).getD i 0) = 0 by omega]; rfl) h)
      refine zr_iload_n dX9_bitFor_39 rfl ?_
      refine zr_istore_n dX9_bitFor_40 (by decide) rfl ?_
      refine zr_iinc dX9_bitFor_41 rfl (kc_inc (i)) rfl ?_
      refine zr_goto 13 dX9_bitFor_44 (by decide) ?_
      exact ih'
