/-! ===== the reference: shifting ===== -/
theorem sp_out_last (cv : Nat → Nat) (l : List Nat) (v : Nat) (h : 0 < l.length) : sp_out cv l v = cv (l.getD (l.length - 1) 0) := by
  have h1 := ls_take (l := l) (i := l.length - 1) (by omega)
  rw [show l.length - 1 + 1 = l.length by omega, List.take_length] at h1
  have h2 := sp_out_app cv (l.take (l.length - 1)) [l.getD (l.length - 1) 0] v
  rw [← h1] at h2
  exact h2
theorem sp_out_take (cv : Nat → Nat) (l : List Nat) (v i : Nat) (h : i < l.length) : sp_out cv (l.take (i + 1)) v = cv (l.getD i 0) := by
  rw [ls_take h, sp_out_app]
  rfl
theorem sp_sh_in (C : sp_T) (cv : Nat → Nat) : ∀ (l : List Nat) (v : Nat) (h : Nat → Nat) (i : Nat), l.Nodup → i < l.length → sp_sh C cv l v h (l.getD i 0) = sp_in C (l.getD i 0) (sp_out cv (l.take i) v)
  | [], _, _, _, _, h => absurd h (Nat.not_lt_zero _)
  | c :: r, v, h, 0, hn, _ => by
    show sp_sh C cv r (cv c) _ c = sp_in C c v
    rw [sp_sh_out C cv r _ _ (List.nodup_cons.mp hn).1]
    exact if_pos rfl
  | c :: r, v, h, i + 1, hn, hi => sp_sh_in C cv r (cv c) _ i (List.nodup_cons.mp hn).2 (Nat.lt_of_succ_lt_succ hi)
theorem mem_gd {l : List Nat} {d : Nat} (h : d ∈ l) : ∃ i, i < l.length ∧ l.getD i 0 = d := by
  obtain ⟨i, hi, e⟩ := List.getElem_of_mem h
  exact ⟨i, hi, by rw [List.getD_eq_getElem?_getD, List.getElem?_eq_getElem hi]; exact e⟩
theorem lk_ix (k i : Nat) : (20 : Int32) * nI k + nI i = nI (20 * k + i) := by
  have e : (20 : Int32) * nI k = nI (20 * k) := pk_mul 20 k
  rw [e, nI_add]
theorem lk_20 (k : Nat) : (20 : Int32) * nI k = nI (20 * k) := pk_mul 20 k
theorem cm_cellValue (L : Nat) (σ : gz_Mm) (C m : sp_T) (hC : sp_wf C) (hm : sp_wm m) (rC : rm_C σ C) (rM : rm_m σ C m) (c : Nat) (hc : c < C 9 2) : gz_F 0 yX9_cellValue cX9_cellValue 2 (some .int) L [.ref 57, .int (nI c)] σ (some (.int (nI (sp_cv C m c)))) σ := by
  have h20 := hC.1.2.2.1
  have hst := rx_cv (σ := σ) hC hm hc
  refine gz_F.of rfl rfl ?_
  by_cases h1 : C 5 c + 1 = m 2 0
  · rw [show sp_cv C m c = m 2 1 by simp [sp_cv, h1]]
    refine zr_aload_n dX9_cellValue_0 rfl ?_
    refine zt_getr zg_X9_22 dX9_cellValue_1 rfl rfl rfl ?_
    refine zr_iload_n dX9_cellValue_4 rfl ?_
    refine zt_ildN dX9_cellValue_5 rfl rfl (by omega) ((rC.2.2.1 c hc).1) ?_
    refine zr_aload_n dX9_cellValue_6 rfl ?_
    refine zt_geti zg_X9_59 dX9_cellValue_7 rfl rfl rfl ?_
    refine zr_top (rM.2.2.1) ?_
    refine zr_icmp_ne 20 dX9_cellValue_10 (by decide) (fun h => absurd (hst.mpr h1) h) (fun hp10 => ?_)
    refine zr_aload_n dX9_cellValue_13 rfl ?_
    refine zt_geti zg_X9_157 dX9_cellValue_14 rfl rfl rfl ?_
    refine zr_top (rM.2.2.2.1 (by omega)) ?_
    refine zr_goto 26 dX9_cellValue_17 (by decide) ?_
    exact zr_iret dX9_cellValue_26 rfl (⟨rfl, rfl⟩)
  · rw [show sp_cv C m c = m 1 c by simp [sp_cv, h1]]
    refine zr_aload_n dX9_cellValue_0 rfl ?_
    refine zt_getr zg_X9_22 dX9_cellValue_1 rfl rfl rfl ?_
    refine zr_iload_n dX9_cellValue_4 rfl ?_
    refine zt_ildN dX9_cellValue_5 rfl rfl (by omega) ((rC.2.2.1 c hc).1) ?_
    refine zr_aload_n dX9_cellValue_6 rfl ?_
    refine zt_geti zg_X9_59 dX9_cellValue_7 rfl rfl rfl ?_
    refine zr_top (rM.2.2.1) ?_
    refine zr_icmp_ne 20 dX9_cellValue_10 (by decide) (fun hp10 => ?_) (fun h => absurd (hst.mp h) h1)
    refine zr_aload_n dX9_cellValue_20 rfl ?_
    refine zt_getr zg_X9_56 dX9_cellValue_21 rfl rfl rfl ?_
    refine zr_iload_n dX9_cellValue_24 rfl ?_
    refine zt_ildN dX9_cellValue_25 rfl rfl (by omega) (rM.2.1 c hc) ?_
    exact zr_iret dX9_cellValue_26 rfl (⟨rfl, rfl⟩)
theorem cm_outOf (L : Nat) (σ : gz_Mm) (C m : sp_T) (K : sp_K) (hC : sp_wf C) (hm : sp_wm m) (hK : sp_wk C K) (rC : rm_C σ C) (rK : rm_K σ C K) (rM : rm_m σ C m) (k v : Nat) (hk : k < 3) : gz_F 1 yX9_outOf cX9_outOf 3 (some .int) L [.ref 57, .int (nI k), .int (nI v)] σ (some (.int (nI (sp_out (sp_cv C m) (K k) v)))) σ := by
  have h20 := hC.1.2.2.1
  have hlen := hK.lenk hk
  obtain ⟨rs, rr⟩ := rK.1 k hk
  refine gz_F.of rfl rfl ?_
  by_cases h0 : (K k).length = 0
  · have e : K k = [] := List.length_eq_zero_iff.mp h0
    rw [show sp_out (sp_cv C m) (K k) v = v by rw [e]; rfl]
    refine zr_aload_n dX9_outOf_0 rfl ?_
    refine zt_getr zg_X9_44 dX9_outOf_1 rfl rfl rfl ?_
    refine zr_iload_n dX9_outOf_4 rfl ?_
    refine zt_ildN dX9_outOf_5 rfl rfl (hk) (rs.trans (congrArg nI h0)) ?_
    refine zr_if_ne 13 dX9_outOf_6 (by decide) (fun h => absurd h (by decide)) (fun hp6 => ?_)
    refine zr_iload_n dX9_outOf_9 rfl ?_
    refine zr_goto 35 dX9_outOf_10 (by decide) ?_
    exact zr_iret dX9_outOf_35 rfl (⟨rfl, rfl⟩)
  · obtain ⟨n, hn⟩ : ∃ n, (K k).length = n + 1 := ⟨(K k).length - 1, by omega⟩
    have hl := rr n (by omega)
    have hm2 := hK.2 _ (sp_all_mem hk (ls_mem (l := K k) (i := n) (by omega)))
    have eo := sp_out_last (sp_cv C m) (K k) v (by omega)
    rw [show (K k).length - 1 = n by omega] at eo
    rw [eo]
    refine zr_aload_n dX9_outOf_0 rfl ?_
    refine zt_getr zg_X9_44 dX9_outOf_1 rfl rfl rfl ?_
    refine zr_iload_n dX9_outOf_4 rfl ?_
    refine zt_ildN dX9_outOf_5 rfl rfl (hk) (rs) ?_
    refine zr_if_ne 13 dX9_outOf_6 (by decide) (fun hp6 => ?_) (fun h => absurd ((nI_eq (b := 0) (by omega) (by omega)).mp h) h0)
    refine zr_aload_n dX9_outOf_13 rfl ?_
    refine zr_aload_n dX9_outOf_14 rfl ?_
    refine zt_getr zg_X9_41 dX9_outOf_15 rfl rfl rfl ?_
    refine zr_bipush (v := 20) dX9_outOf_18 kc_bipush_20 ?_
    refine zr_iload_n dX9_outOf_20 rfl ?_
    refine zr_imul dX9_outOf_21 ?_
    refine zr_top (lk_20 k) ?_
    refine zr_aload_n dX9_outOf_22 rfl ?_
    refine zt_getr zg_X9_44 dX9_outOf_23 rfl rfl rfl ?_
    refine zr_iload_n dX9_outOf_26 rfl ?_
    refine zt_ildN dX9_outOf_27 rfl rfl (hk) (rs.trans (congrArg nI hn)) ?_
    refine zr_iadd dX9_outOf_28 ?_
    refine zr_top (nI_add _ _) ?_
    refine zr_iconst (v := 1) dX9_outOf_29 kc_iconst_1 ?_
    refine zr_isub dX9_outOf_30 ?_
    refine zr_top (nI_pred (20 * k + n)) ?_
    refine zt_ildN dX9_outOf_31 rfl rfl (by omega) (hl) ?_
    refine zt_callVi (As := [_]) (cm_cellValue L σ C m hC hm rC rM _ hm2) zc_X9_171 rfl dX9_outOf_32 rfl rfl rfl rfl rfl rfl ?_
    exact zr_iret dX9_outOf_35 rfl (⟨rfl, rfl⟩)
theorem cm_prepare (L : Nat) (σ : gz_Mm) (C m : sp_T) (K : sp_K) (hC : sp_wf C) (hm : sp_wm m) (hK : sp_wk C K) (rC : rm_C σ C) (rK : rm_K σ C K) (rM : rm_m σ C m) (k v : Nat) (hk : k < 3) (hv : v ≤ 2) :
    gz_Gv 1 yX9_prepare cX9_prepare 6 none L [.ref 57, .int (nI k), .int (nI v)] σ (fun σ' => (∀ k, k ≠ 75 → σ' k = σ k) ∧ (∀ i, i < (K k).length → σ' 75 ((K k).getD i 0) = nI (sp_in C ((K k).getD i 0) (sp_out (sp_cv C m) ((K k).take i) v))) ∧ ∀ d, d ∉ K k → σ' 75 d = σ 75 d) := by
  have h20 := hC.1.2.2.1
  have hlen := hK.lenk hk
  have hnod := hK.nodk hk
  obtain ⟨rs, rr⟩ := rK.1 k hk
  have hcv := sp_cv_le (C := C) hm
  refine gz_Gv.of rfl rfl (fun Q hQ => ?_)
  refine zr_iconst (v := 0) dX9_prepare_0 kc_iconst_0 ?_
  refine zr_istore_n dX9_prepare_1 (by decide) rfl ?_
  refine zl_up (τ := gz_Mm × Option Value × Option Value) (K k).length (fun i t => (∀ k, k ≠ 75 → t.1 k = σ k) ∧ (∀ j, j < i → t.1 75 ((K k).getD j 0) = nI (sp_in C ((K k).getD j 0) (sp_out (sp_cv C m) ((K k).take j) v))) ∧ ∀ d, d ∉ K k → t.1 75 d = σ 75 d) (fun i t => gz_R 1 yX9_prepare cX9_prepare 6 none 0 0 2 [some (.ref 57), some (.int (nI k)), some (.int (nI v)), some (.int (nI i)), t.2.1, t.2.2] [] (gz_mk L t.1) Q) ?_ ?_ 0 (σ, none, none) (Nat.zero_le _) ⟨fun _ _ => rfl, fun j h => absurd h (Nat.not_lt_zero j), fun _ _ => rfl⟩
  · rintro ⟨σ1, o1, o2⟩ hI
    refine zr_iload_n dX9_prepare_2 rfl ?_
    refine zr_aload_n dX9_prepare_3 rfl ?_
    refine zt_getr zg_X9_44 dX9_prepare_4 rfl rfl rfl ?_
    refine zr_iload_n dX9_prepare_7 rfl ?_
    refine zt_ildN dX9_prepare_8 rfl rfl (hk) ((congrFun (hI.1 69 (by decide)) k).trans rs) ?_
    refine zr_icmp_ge 85 dX9_prepare_9 (by decide) (fun hp9 => ?_) (fun h => absurd (Int32.le_refl _) h)
    exact zr_vret dX9_prepare_85 rfl (hQ _ hI)
  · rintro i ⟨σ1, o1, o2⟩ hi ⟨hf, hv1, hv2⟩ ih
    have hmem := ls_mem (l := K k) hi
    have hcm : (K k).getD i 0 ∈ sp_all K := sp_all_mem hk hmem
    have hcn := hK.2 _ hcm
    have hri := rr i hi
    have hnot := ls_notin hnod hi
    have hjn : ∀ j, j < i → (K k).getD j 0 ≠ (K k).getD i 0 := fun j hj e => hnot (by
      rw [← e]
      have : (K k).getD j 0 = ((K k).take i).getD j 0 := by simp [List.getD_eq_getElem?_getD, List.getElem?_take, hj]
      rw [this]
      exact ls_mem (by rw [List.length_take]; omega))
    generalize hce : (K k).getD i 0 = c at *
    have c20 : c < 20 := by omega
    have ht := (hC.2.2.1 c hcn).2.2.2
    have hom : sp_out (sp_cv C m) ((K k).take i) v < 3 := Nat.lt_succ_of_le (sp_out_le hcv _ _ hv)
    have rC1 : rm_C σ1 C := rC.kept (fun j _ => congrFun (hf 57 (by decide)) j) (fun k h1 h2 _ _ _ _ => hf k (by omega))
    have rM1 : rm_m σ1 C m := rM.kept (fun j _ => congrFun (hf 57 (by decide)) j) (hf 72 (by decide)) (hf 73 (by decide))
    have store : ∀ x : Nat, x = sp_in C c (sp_out (sp_cv C m) ((K k).take i) v) → ∀ o3 : Option Value, gz_R 1 yX9_prepare cX9_prepare 6 none 0 0 78 [some (.ref 57), some (.int (nI k)), some (.int (nI v)), some (.int (nI i)), some (.int (nI c)), o3] [.int (nI x), .int (nI c), .ref 75] (gz_mk L σ1) Q := by
      intro x hx o3
      refine zt_istN dX9_prepare_78 rfl rfl rfl (c20) ?_
      refine zr_iinc dX9_prepare_79 rfl (kc_inc (i)) rfl ?_
      refine zr_goto 2 dX9_prepare_82 (by decide) ?_
      refine ih (_, _, _) ⟨fun k hk => (gz_wr_ne hk).trans (hf k hk), fun j hj => ?_, fun d hd => ?_⟩
      · show gz_wr σ1 75 c (nI x) 75 _ = _
        rw [gz_wr_eq]
        by_cases e : j = i
        · rw [e, hce]
          simp only [upd, if_true]
          rw [hx]
        · rw [pk_un (hjn j (by omega))]
          exact hv1 j (by omega)
      · show gz_wr σ1 75 c (nI x) 75 d = _
        rw [gz_wr_eq, pk_un (show d ≠ c from fun e => hd (by rw [e]; exact hmem))]
        exact hv2 d hd
    have go : gz_R 1 yX9_prepare cX9_prepare 6 none 0 0 50 [some (.ref 57), some (.int (nI k)), some (.int (nI v)), some (.int (nI i)), some (.int (nI c)), o2] [.int (nI (sp_out (sp_cv C m) ((K k).take i) v))] (gz_mk L σ1) Q := by
      by_cases e1 : C 12 c = 1
      · refine zr_istore dX9_prepare_50 (by decide) rfl ?_
        refine zr_aload_n dX9_prepare_52 rfl ?_
        refine zt_getr zg_X9_69 dX9_prepare_53 rfl rfl rfl ?_
        refine zr_iload dX9_prepare_56 rfl ?_
        refine zr_aload_n dX9_prepare_58 rfl ?_
        refine zt_getr zg_X9_34 dX9_prepare_59 rfl rfl rfl ?_
        refine zr_iload dX9_prepare_62 rfl ?_
        refine zt_zldN dX9_prepare_64 rfl rfl (c20) ((congrFun (hf 66 (by decide)) c).trans (rK.2.1 c hcm)) ?_
        refine zr_if_eq 76 dX9_prepare_65 (by decide) (fun h => absurd ((nI_eq (b := 0) (by omega) (by omega)).mp h) (by omega)) (fun hp65 => ?_)
        refine zr_iload dX9_prepare_68 rfl ?_
        refine zt_callSi (As := [_]) (cm_not L σ1 _ hom) zc_X9_147 rfl dX9_prepare_70 rfl rfl rfl ?_
        refine zr_goto 78 dX9_prepare_73 (by decide) ?_
        exact store _ (by simp [sp_in, e1]) _
      · refine zr_istore dX9_prepare_50 (by decide) rfl ?_
        refine zr_aload_n dX9_prepare_52 rfl ?_
        refine zt_getr zg_X9_69 dX9_prepare_53 rfl rfl rfl ?_
        refine zr_iload dX9_prepare_56 rfl ?_
        refine zr_aload_n dX9_prepare_58 rfl ?_
        refine zt_getr zg_X9_34 dX9_prepare_59 rfl rfl rfl ?_
        refine zr_iload dX9_prepare_62 rfl ?_
        refine zt_zldN dX9_prepare_64 rfl rfl (c20) ((congrFun (hf 66 (by decide)) c).trans (rK.2.1 c hcm)) ?_
        refine zr_if_eq 76 dX9_prepare_65 (by decide) (fun hp65 => ?_) (fun h => absurd (by rw [show C 12 c = 0 by omega]; rfl) h)
        refine zr_iload dX9_prepare_76 rfl ?_
        exact store _ (by simp [sp_in, e1]) _
    by_cases h0 : i = 0
    · have e0 : sp_out (sp_cv C m) ((K k).take i) v = v := by rw [h0]; rfl
      refine zr_iload_n dX9_prepare_2 rfl ?_
      refine zr_aload_n dX9_prepare_3 rfl ?_
      refine zt_getr zg_X9_44 dX9_prepare_4 rfl rfl rfl ?_
      refine zr_iload_n dX9_prepare_7 rfl ?_
      refine zt_ildN dX9_prepare_8 rfl rfl (hk) ((congrFun (hf 69 (by decide)) k).trans rs) ?_
      refine zr_icmp_ge 85 dX9_prepare_9 (by decide) (fun h => absurd h (nI_ge hi (by omega))) (fun hp9 => ?_)
      refine zr_aload_n dX9_prepare_12 rfl ?_
      refine zt_getr zg_X9_41 dX9_prepare_13 rfl rfl rfl ?_
      refine zr_bipush (v := 20) dX9_prepare_16 kc_bipush_20 ?_
      refine zr_iload_n dX9_prepare_18 rfl ?_
      refine zr_imul dX9_prepare_19 ?_
      refine zr_top (lk_20 k) ?_
      refine zr_iload_n dX9_prepare_20 rfl ?_
      refine zr_iadd dX9_prepare_21 ?_
      refine zr_top (nI_add _ _) ?_
      refine zt_ildN dX9_prepare_22 rfl rfl (by omega) ((congrFun (hf 68 (by decide)) _).trans hri) ?_
      refine zr_istore dX9_prepare_23 (by decide) rfl ?_
      refine zr_iload_n dX9_prepare_25 rfl ?_
      refine zr_if_ne 33 dX9_prepare_26 (by decide) (fun h => absurd (by rw [h0]; rfl) h) (fun hp26 => ?_)
      refine zr_iload_n dX9_prepare_29 rfl ?_
      refine zr_goto 50 dX9_prepare_30 (by decide) ?_
      rw [e0] at go
      exact go
    · obtain ⟨n, hn⟩ : ∃ n, i = n + 1 := ⟨i - 1, by omega⟩
      have hrn := rr n (by omega)
      have hmn := hK.2 _ (sp_all_mem hk (ls_mem (l := K k) (i := n) (by omega)))
      have e0 : sp_out (sp_cv C m) ((K k).take i) v = sp_cv C m ((K k).getD n 0) := by rw [hn]; exact sp_out_take _ _ _ _ (by omega)
      refine zr_iload_n dX9_prepare_2 rfl ?_
      refine zr_aload_n dX9_prepare_3 rfl ?_
      refine zt_getr zg_X9_44 dX9_prepare_4 rfl rfl rfl ?_
      refine zr_iload_n dX9_prepare_7 rfl ?_
      refine zt_ildN dX9_prepare_8 rfl rfl (hk) ((congrFun (hf 69 (by decide)) k).trans rs) ?_
      refine zr_icmp_ge 85 dX9_prepare_9 (by decide) (fun h => absurd h (nI_ge hi (by omega))) (fun hp9 => ?_)
      refine zr_aload_n dX9_prepare_12 rfl ?_
      refine zt_getr zg_X9_41 dX9_prepare_13 rfl rfl rfl ?_
      refine zr_bipush (v := 20) dX9_prepare_16 kc_bipush_20 ?_
      refine zr_iload_n dX9_prepare_18 rfl ?_
      refine zr_imul dX9_prepare_19 ?_
      refine zr_top (lk_20 k) ?_
      refine zr_iload_n dX9_prepare_20 rfl ?_
      refine zr_iadd dX9_prepare_21 ?_
      refine zr_top (nI_add _ _) ?_
      refine zt_ildN dX9_prepare_22 rfl rfl (by omega) ((congrFun (hf 68 (by decide)) _).trans hri) ?_
      refine zr_istore dX9_prepare_23 (by decide) rfl ?_
      refine zr_iload_n dX9_prepare_25 rfl ?_
      refine zr_if_ne 33 dX9_prepare_26 (by decide) (fun hp26 => ?_) (fun h => absurd ((nI_eq (b := 0) (by omega) (by omega)).mp h) h0)
      refine zr_aload_n dX9_prepare_33 rfl ?_
      refine zr_aload_n dX9_prepare_34 rfl ?_
      refine zt_getr zg_X9_41 dX9_prepare_35 rfl rfl rfl ?_
      refine zr_bipush (v := 20) dX9_prepare_38 kc_bipush_20 ?_
      refine zr_iload_n dX9_prepare_40 rfl ?_
      refine zr_imul dX9_prepare_41 ?_
      refine zr_top (lk_20 k) ?_
      refine zr_iload_n dX9_prepare_42 rfl ?_
      refine zr_iadd dX9_prepare_43 ?_
      refine zr_top ((nI_add _ _).trans (congrArg nI (show 20 * k + i = 20 * k + n + 1 by omega))) ?_
      refine zr_iconst (v := 1) dX9_prepare_44 kc_iconst_1 ?_
      refine zr_isub dX9_prepare_45 ?_
      refine zr_top (nI_pred (20 * k + n)) ?_
      refine zt_ildN dX9_prepare_46 rfl rfl (by omega) ((congrFun (hf 68 (by decide)) _).trans hrn) ?_
      refine zt_callVi (As := [_]) (cm_cellValue L σ1 C m hC hm rC1 rM1 _ hmn) zc_X9_171 rfl dX9_prepare_47 rfl rfl rfl rfl rfl rfl ?_
      rw [e0] at go
      exact go
theorem cm_take (L : Nat) (σ : gz_Mm) (C : sp_T) (K : sp_K) (hC : sp_wf C) (hK : sp_wk C K) (rK : rm_K σ C K) (k : Nat) (hk : k < 3) :
    gz_Gv 0 yX9_take cX9_take 4 none L [.ref 57, .int (nI k)] σ (fun σ' => (∀ k, k ≠ 73 → σ' k = σ k) ∧ (∀ d, d ∈ K k → σ' 73 d = σ 75 d) ∧ ∀ d, d ∉ K k → σ' 73 d = σ 73 d) := by
  have h20 := hC.1.2.2.1
  have hlen := hK.lenk hk
  obtain ⟨rs, rr⟩ := rK.1 k hk
  refine gz_Gv.of rfl rfl (fun Q hQ => ?_)
  refine zr_iconst (v := 0) dX9_take_0 kc_iconst_0 ?_
  refine zr_istore_n dX9_take_1 (by decide) rfl ?_
  refine zl_up (τ := gz_Mm × Option Value) (K k).length (fun i t => (∀ k, k ≠ 73 → t.1 k = σ k) ∧ (∀ j, j < i → t.1 73 ((K k).getD j 0) = σ 75 ((K k).getD j 0)) ∧ ∀ d, d ∉ K k → t.1 73 d = σ 73 d) (fun i t => gz_R 0 yX9_take cX9_take 4 none 0 0 2 [some (.ref 57), some (.int (nI k)), some (.int (nI i)), t.2] [] (gz_mk L t.1) Q) ?_ ?_ 0 (σ, none) (Nat.zero_le _) ⟨fun _ _ => rfl, fun j h => absurd h (Nat.not_lt_zero j), fun _ _ => rfl⟩
  · rintro ⟨σ1, o1⟩ ⟨hf, h1, h2⟩
    refine zr_iload_n dX9_take_2 rfl ?_
    refine zr_aload_n dX9_take_3 rfl ?_
    refine zt_getr zg_X9_44 dX9_take_4 rfl rfl rfl ?_
    refine zr_iload_n dX9_take_7 rfl ?_
    refine zt_ildN dX9_take_8 rfl rfl (hk) ((congrFun (hf 69 (by decide)) k).trans rs) ?_
    refine zr_icmp_ge 42 dX9_take_9 (by decide) (fun hp9 => ?_) (fun h => absurd (Int32.le_refl _) h)
    exact zr_vret dX9_take_42 rfl (hQ _ ⟨hf, fun d hd => by obtain ⟨i, hi, rfl⟩ := mem_gd hd; exact h1 i hi, h2⟩)
  · rintro i ⟨σ1, o1⟩ hi ⟨hf, h1, h2⟩ ih
    have hmem := ls_mem (l := K k) hi
    have hcn := hK.2 _ (sp_all_mem hk hmem)
    refine zr_iload_n dX9_take_2 rfl ?_
    refine zr_aload_n dX9_take_3 rfl ?_
    refine zt_getr zg_X9_44 dX9_take_4 rfl rfl rfl ?_
    refine zr_iload_n dX9_take_7 rfl ?_
    refine zt_ildN dX9_take_8 rfl rfl (hk) ((congrFun (hf 69 (by decide)) k).trans rs) ?_
    refine zr_icmp_ge 42 dX9_take_9 (by decide) (fun h => absurd h (nI_ge hi (by omega))) (fun hp9 => ?_)
    refine zr_aload_n dX9_take_12 rfl ?_
    refine zt_getr zg_X9_41 dX9_take_13 rfl rfl rfl ?_
    refine zr_bipush (v := 20) dX9_take_16 kc_bipush_20 ?_
    refine zr_iload_n dX9_take_18 rfl ?_
    refine zr_imul dX9_take_19 ?_
    refine zr_top (lk_20 k) ?_
    refine zr_iload_n dX9_take_20 rfl ?_
    refine zr_iadd dX9_take_21 ?_
    refine zr_top (nI_add _ _) ?_
    refine zt_ildN dX9_take_22 rfl rfl (by omega) ((congrFun (hf 68 (by decide)) _).trans (rr i hi)) ?_
    refine zr_istore_n dX9_take_23 (by decide) rfl ?_
    refine zr_aload_n dX9_take_24 rfl ?_
    refine zt_getr zg_X9_56 dX9_take_25 rfl rfl rfl ?_
    refine zr_iload_n dX9_take_28 rfl ?_
    refine zr_aload_n dX9_take_29 rfl ?_
    refine zt_getr zg_X9_69 dX9_take_30 rfl rfl rfl ?_
    refine zr_iload_n dX9_take_33 rfl ?_
    refine zt_ildN dX9_take_34 rfl rfl (by omega) (congrFun (hf 75 (by decide)) _) ?_
    refine zt_istN dX9_take_35 rfl rfl rfl (by omega) ?_
    refine zr_iinc dX9_take_36 rfl (kc_inc (i)) rfl ?_
    refine zr_goto 2 dX9_take_39 (by decide) ?_
    refine ih (_, _) ⟨fun k hk => (gz_wr_ne hk).trans (hf k hk), fun j hj => ?_, fun d hd => ?_⟩
    · show gz_wr σ1 73 _ _ 73 _ = _
      rw [gz_wr_eq]
      by_cases e : (K k).getD j 0 = (K k).getD i 0
      · rw [e]
        simp only [upd, if_true]
      · rw [pk_un e]
        exact h1 j (by
          have : j ≠ i := fun q => e (by rw [q])
          omega)
    · show gz_wr σ1 73 _ _ 73 d = _
      rw [gz_wr_eq, pk_un (show d ≠ (K k).getD i 0 from fun e => hd (by rw [e]; exact hmem))]
      exact h2 d hd
theorem cm_shifted (L : Nat) (σ : gz_Mm) (C m : sp_T) (K : sp_K) (hC : sp_wf C) (hm : sp_wm m) (hK : sp_wk C K) (rC : rm_C σ C) (rK : rm_K σ C K) (rM : rm_m σ C m) (k v : Nat) (hk : k < 3) (hv : v ≤ 2) :
    gz_Gi 2 yX9_shifted cX9_shifted 4 (some .int) L [.ref 57, .int (nI k), .int (nI v)] σ (fun r σ' => r = nI (sp_out (sp_cv C m) (K k) v) ∧ (∀ k, k ≠ 73 → k ≠ 75 → σ' k = σ k) ∧ rm_m σ' C (sp_row m 1 (sp_sh C (sp_cv C m) (K k) v (m 1)))) := by
  refine gz_Gi.of rfl rfl (fun Q hQ => ?_)
  refine zr_aload_n dX9_shifted_0 rfl ?_
  refine zr_iload_n dX9_shifted_1 rfl ?_
  refine zr_iload_n dX9_shifted_2 rfl ?_
  refine zt_callVi (As := [_, _]) (cm_outOf L σ C m K hC hm hK rC rK rM k v hk) zc_X9_174 rfl dX9_shifted_3 rfl rfl rfl rfl rfl rfl ?_
  refine zr_istore_n dX9_shifted_6 (by decide) rfl ?_
  refine zr_aload_n dX9_shifted_7 rfl ?_
  refine zr_iload_n dX9_shifted_8 rfl ?_
  refine zr_iload_n dX9_shifted_9 rfl ?_
  refine zt_cVv (As := [_, _]) (cm_prepare L σ C m K hC hm hK rC rK rM k v hk hv) zc_X9_177 rfl dX9_shifted_10 rfl rfl rfl rfl rfl rfl (fun σ1 h1 => ?_)
  obtain ⟨f1, a1, a2⟩ := h1
  have rK1 : rm_K σ1 C K := rK.kept (fun k hk => f1 k (by omega))
  refine zr_aload_n dX9_shifted_13 rfl ?_
  refine zr_iload_n dX9_shifted_14 rfl ?_
  refine zt_cVv (As := [_]) (cm_take L σ1 C K hC hK rK1 k hk) zc_X9_181 rfl dX9_shifted_15 rfl rfl rfl rfl rfl rfl (fun σ2 h2 => ?_)
  refine zr_iload_n dX9_shifted_18 rfl ?_
  obtain ⟨f2, b1, b2⟩ := h2
  have g : ∀ k, k ≠ 73 → k ≠ 75 → σ2 k = σ k := fun k h1 h2 => (f2 k h1).trans (f1 k h2)
  refine zr_iret dX9_shifted_19 rfl (hQ _ _ ⟨rfl, g, ?_⟩)
  obtain ⟨c1, c2, c3⟩ := rM
  unfold rm_m
  rw [g 57 (by decide) (by decide), g 72 (by decide) (by decide)]
  refine ⟨c1, fun d hd => ?_, c3⟩
  show σ2 73 d = nI (sp_sh C (sp_cv C m) (K k) v (m 1) d)
  by_cases hmem : d ∈ K k
  · obtain ⟨i, hi, e⟩ := mem_gd hmem
    rw [b1 d hmem, ← e, a1 i hi, sp_sh_in C _ _ _ _ i (hK.nodk hk) hi]
  · rw [b2 d hmem, sp_sh_out C _ _ _ _ hmem, f1 73 (by decide)]
    exact c2 d hd
theorem cm_shiftAll (L : Nat) (σ : gz_Mm) (C m : sp_T) (K : sp_K) (hC : sp_wf C) (hm : sp_wm m) (hK : sp_wk C K) (rC : rm_C σ C) (rK : rm_K σ C K) (rM : rm_m σ C m) (v : Nat) (hv : v ≤ 2) :
    gz_Gi 2 yX9_shiftAll cX9_shiftAll 5 (some .int) L [.ref 57, .int (nI v)] σ (fun r σ' => r = nI (sp_out (sp_cv C m) (sp_all K) v) ∧ (∀ k, k ≠ 73 → k ≠ 75 → σ' k = σ k) ∧ rm_m σ' C (sp_row m 1 (sp_sh C (sp_cv C m) (sp_all K) v (m 1)))) := by
  have hcv := sp_cv_le (C := C) hm
  have dis := (sp_nod.mp hK.1).2
  generalize ho1 : sp_out (sp_cv C m) (K 0) v = one
  generalize ho2 : sp_out (sp_cv C m) (K 1) one = two
  generalize ho3 : sp_out (sp_cv C m) (K 2) two = three
  have l1 : one ≤ 2 := by rw [← ho1]; exact sp_out_le hcv _ _ hv
  have l2 : two ≤ 2 := by rw [← ho2]; exact sp_out_le hcv _ _ l1
  have eo : sp_out (sp_cv C m) (sp_all K) v = three := by
    unfold sp_all
    rw [sp_out_app, sp_out_app, ho1, ho2, ho3]
  refine gz_Gi.of rfl rfl (fun Q hQ => ?_)
  rw [eo] at hQ
  refine zr_aload_n dX9_shiftAll_0 rfl ?_
  refine zr_iconst (v := 0) dX9_shiftAll_1 kc_iconst_0 ?_
  refine zr_iload_n dX9_shiftAll_2 rfl ?_
  refine zt_callVi (As := [_, _]) (cm_outOf L σ C m K hC hm hK rC rK rM 0 v (by decide)) zc_X9_174 rfl dX9_shiftAll_3 rfl rfl rfl rfl rfl rfl ?_
  refine zr_top (congrArg nI ho1) ?_
  refine zr_istore_n dX9_shiftAll_6 (by decide) rfl ?_
  refine zr_aload_n dX9_shiftAll_7 rfl ?_
  refine zr_iconst (v := 1) dX9_shiftAll_8 kc_iconst_1 ?_
  refine zr_iload_n dX9_shiftAll_9 rfl ?_
  refine zt_callVi (As := [_, _]) (cm_outOf L σ C m K hC hm hK rC rK rM 1 one (by decide)) zc_X9_174 rfl dX9_shiftAll_10 rfl rfl rfl rfl rfl rfl ?_
  refine zr_top (congrArg nI ho2) ?_
  refine zr_istore_n dX9_shiftAll_13 (by decide) rfl ?_
  refine zr_aload_n dX9_shiftAll_14 rfl ?_
  refine zr_iconst (v := 2) dX9_shiftAll_15 kc_iconst_2 ?_
  refine zr_iload_n dX9_shiftAll_16 rfl ?_
  refine zt_callVi (As := [_, _]) (cm_outOf L σ C m K hC hm hK rC rK rM 2 two (by decide)) zc_X9_174 rfl dX9_shiftAll_17 rfl rfl rfl rfl rfl rfl ?_
  refine zr_top (congrArg nI ho3) ?_
  refine zr_istore dX9_shiftAll_20 (by decide) rfl ?_
  refine zr_aload_n dX9_shiftAll_22 rfl ?_
  refine zr_iconst (v := 0) dX9_shiftAll_23 kc_iconst_0 ?_
  refine zr_iload_n dX9_shiftAll_24 rfl ?_
  refine zt_cVv (As := [_, _]) (cm_prepare L σ C m K hC hm hK rC rK rM 0 v (by decide) hv) zc_X9_177 rfl dX9_shiftAll_25 rfl rfl rfl rfl rfl rfl (fun σ1 h1 => ?_)
  obtain ⟨f1, a1, a2⟩ := h1
  have keep : ∀ τ : gz_Mm, (∀ k, k ≠ 75 → τ k = σ k) → rm_C τ C ∧ rm_K τ C K ∧ rm_m τ C m := fun τ hf => ⟨rC.kept (fun j _ => congrFun (hf 57 (by decide)) j) (fun k h1 h2 _ _ _ _ => hf k (by omega)), rK.kept (fun k hk => hf k (by omega)), rM.kept (fun j _ => congrFun (hf 57 (by decide)) j) (hf 72 (by decide)) (hf 73 (by decide))⟩
  obtain ⟨c1, k1, m1⟩ := keep σ1 f1
  refine zr_aload_n dX9_shiftAll_28 rfl ?_
  refine zr_iconst (v := 1) dX9_shiftAll_29 kc_iconst_1 ?_
  refine zr_iload_n dX9_shiftAll_30 rfl ?_
  refine zt_cVv (As := [_, _]) (cm_prepare L σ1 C m K hC hm hK c1 k1 m1 1 one (by decide) l1) zc_X9_177 rfl dX9_shiftAll_31 rfl rfl rfl rfl rfl rfl (fun σ2 h2 => ?_)
  obtain ⟨f2, b1, b2⟩ := h2
  have f12 : ∀ k, k ≠ 75 → σ2 k = σ k := fun k hk => (f2 k hk).trans (f1 k hk)
  obtain ⟨c2, k2, m2⟩ := keep σ2 f12
  refine zr_aload_n dX9_shiftAll_34 rfl ?_
  refine zr_iconst (v := 2) dX9_shiftAll_35 kc_iconst_2 ?_
  refine zr_iload_n dX9_shiftAll_36 rfl ?_
  refine zt_cVv (As := [_, _]) (cm_prepare L σ2 C m K hC hm hK c2 k2 m2 2 two (by decide) l2) zc_X9_177 rfl dX9_shiftAll_37 rfl rfl rfl rfl rfl rfl (fun σ3 h3 => ?_)
  obtain ⟨f3, d1, d2⟩ := h3
  have f13 : ∀ k, k ≠ 75 → σ3 k = σ k := fun k hk => (f3 k hk).trans (f12 k hk)
  obtain ⟨c3, k3, m3⟩ := keep σ3 f13
  refine zr_aload_n dX9_shiftAll_40 rfl ?_
  refine zr_iconst (v := 0) dX9_shiftAll_41 kc_iconst_0 ?_
  refine zt_cVv (As := [_]) (cm_take L σ3 C K hC hK k3 0 (by decide)) zc_X9_181 rfl dX9_shiftAll_42 rfl rfl rfl rfl rfl rfl (fun σ4 h4 => ?_)
  obtain ⟨f4, p1, p2⟩ := h4
  have k4 : rm_K σ4 C K := k3.kept (fun k hk => f4 k (by omega))
  refine zr_aload_n dX9_shiftAll_45 rfl ?_
  refine zr_iconst (v := 1) dX9_shiftAll_46 kc_iconst_1 ?_
  refine zt_cVv (As := [_]) (cm_take L σ4 C K hC hK k4 1 (by decide)) zc_X9_181 rfl dX9_shiftAll_47 rfl rfl rfl rfl rfl rfl (fun σ5 h5 => ?_)
  obtain ⟨f5, q1, q2⟩ := h5
  have k5 : rm_K σ5 C K := k4.kept (fun k hk => f5 k (by omega))
  refine zr_aload_n dX9_shiftAll_50 rfl ?_
  refine zr_iconst (v := 2) dX9_shiftAll_51 kc_iconst_2 ?_
  refine zt_cVv (As := [_]) (cm_take L σ5 C K hC hK k5 2 (by decide)) zc_X9_181 rfl dX9_shiftAll_52 rfl rfl rfl rfl rfl rfl (fun σ6 h6 => ?_)
  refine zr_iload dX9_shiftAll_55 rfl ?_
  obtain ⟨f6, r1, r2⟩ := h6
  have e75 : σ4 75 = σ3 75 := f4 75 (by decide)
  have e75' : σ5 75 = σ3 75 := (f5 75 (by decide)).trans e75
  have g : ∀ k, k ≠ 73 → k ≠ 75 → σ6 k = σ k := fun k h1 h2 => (f6 k h1).trans ((f5 k h1).trans ((f4 k h1).trans (f13 k h2)))
  refine zr_iret dX9_shiftAll_57 rfl (hQ _ _ ⟨rfl, g, ?_⟩)
  obtain ⟨t1, t2, t3⟩ := rM
  unfold rm_m
  rw [g 57 (by decide) (by decide), g 72 (by decide) (by decide)]
  refine ⟨t1, fun d hd => ?_, t3⟩
  show σ6 73 d = nI (sp_sh C (sp_cv C m) (sp_all K) v (m 1) d)
  unfold sp_all
  rw [sp_sh_app, sp_sh_app, ho1, ho2]
  by_cases m2' : d ∈ K 2
  · obtain ⟨i, hi, e⟩ := mem_gd m2'
    rw [r1 d m2', e75', ← e, d1 i hi, sp_sh_in C _ _ _ _ i (hK.nodk (by decide)) hi]
  · rw [r2 d m2', sp_sh_out C _ _ _ _ m2']
    by_cases m1' : d ∈ K 1
    · obtain ⟨i, hi, e⟩ := mem_gd m1'
      rw [q1 d m1', e75, d2 d m2', ← e, b1 i hi, sp_sh_in C _ _ _ _ i (hK.nodk (by decide)) hi]
    · rw [q2 d m1', sp_sh_out C _ _ _ _ m1']
      by_cases m0' : d ∈ K 0
      · obtain ⟨i, hi, e⟩ := mem_gd m0'
        rw [p1 d m0', d2 d m2', b2 d m1', ← e, a1 i hi, sp_sh_in C _ _ _ _ i (hK.nodk (by decide)) hi]
      · rw [p2 d m0', sp_sh_out C _ _ _ _ m0', f13 73 (by decide)]
        exact t2 d hd
