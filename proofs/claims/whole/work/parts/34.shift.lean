/-! ===== Board.shiftChain ===== -/
theorem ls_take {l : List Nat} {i : Nat} (h : i < l.length) : l.take (i + 1) = l.take i ++ [l.getD i 0] := by
  rw [List.take_succ]
  simp [h]
theorem ls_notin {l : List Nat} (hn : l.Nodup) {i : Nat} (h : i < l.length) : l.getD i 0 ∉ l.take i := by
  have h1 : (l.take (i + 1)).Nodup := hn.sublist (List.take_sublist _ _)
  rw [ls_take h, List.nodup_append] at h1
  intro hm
  exact h1.2.2 _ hm _ (List.mem_singleton.mpr rfl) rfl
theorem ls_mem {l : List Nat} {i : Nat} (h : i < l.length) : l.getD i 0 ∈ l := by
  simp [h]
theorem rx_cv {σ : gz_Mm} {C m : sp_T} (hC : sp_wf C) (hm : sp_wm m) {c : Nat} (hc : c < C 9 2) : nI (C 5 c) = nI (m 2 0) + (-1) ↔ C 5 c + 1 = m 2 0 := nI_m1 _ _ (by have := (hC.2.2.1 c hc).1; have := hC.1.1; omega) (by have := hm.2.2.1; omega)
theorem ca_shift_31_0 (L : Nat) (σ : gz_Mm) (C m : sp_T) (K : sp_K) (hC : sp_wf C) (hm : sp_wm m) (hK : sp_wk C K) (rC : rx_C σ C) (rK : rx_K σ C K) (rM : rx_m σ 31 m) (v : Nat) (hv : v ≤ 2) :
    gz_Gi 0 yX0_shiftChain cX0_shiftChain 8 (some .int) L [.ref 32, .int (nI 0), .int (nI v)] σ (fun r σ' => r = nI (sp_out (sp_cv C m) (K 0) v) ∧ (∀ k, k ≠ 34 → σ' k = σ k) ∧ ∀ j, j < 20 → σ' 34 j = nI (sp_sh C (sp_cv C m) (K 0) v (m 1) j)) := by
  have h20 := hC.1.2.2.1
  have hlen := hK.lenk (k := 0) (by decide)
  have hnod := hK.nodk (k := 0) (by decide)
  obtain ⟨rs, rr⟩ := rK.1 0 (by decide)
  have hcv := sp_cv_le (C := C) hm
  refine gz_Gi.of rfl rfl (fun Q hQ => ?_)
  refine zr_aload_n dX0_shiftChain_0 rfl ?_
  refine zt_getr zg_X0_29 dX0_shiftChain_1 rfl rfl rfl ?_
  refine zt_getr zg_X0_73 dX0_shiftChain_4 rfl rfl rfl ?_
  refine zr_iload_n dX0_shiftChain_7 rfl ?_
  refine zt_aldN (t := 25) dX0_shiftChain_8 rfl rfl (by decide) (rfl) ?_
  refine zr_astore_n dX0_shiftChain_9 (by decide) rfl ?_
  refine zr_iload_n dX0_shiftChain_10 rfl ?_
  refine zr_istore dX0_shiftChain_11 (by decide) rfl ?_
  refine zr_iconst (v := 0) dX0_shiftChain_13 kc_iconst_0 ?_
  refine zr_istore dX0_shiftChain_14 (by decide) rfl ?_
  refine zl_up (τ := gz_Mm × Option Value × Option Value) (K 0).length (fun i t => (∀ k, k ≠ 34 → t.1 k = σ k) ∧ ∀ j, j < 20 → t.1 34 j = nI (sp_sh C (sp_cv C m) ((K 0).take i) v (m 1) j)) (fun i t => gz_R 0 yX0_shiftChain cX0_shiftChain 8 (some .int) 0 0 16 [some (.ref 32), some (.int (nI 0)), some (.int (nI v)), some (.ref 25), some (.int (nI (sp_out (sp_cv C m) ((K 0).take i) v))), some (.int (nI i)), t.2.1, t.2.2] [] (gz_mk L t.1) Q) ?_ ?_ 0 (σ, none, none) (Nat.zero_le _) ⟨fun _ _ => rfl, fun j h => by simpa [sp_sh] using rM.2.1 j h⟩
  · rintro ⟨σ1, o1, o2⟩ ⟨hf, hh⟩
    rw [List.take_length] at *
    refine zr_iload dX0_shiftChain_16 rfl ?_
    refine zr_aload_n dX0_shiftChain_18 rfl ?_
    refine zt_getr zg_X0_29 dX0_shiftChain_19 rfl rfl rfl ?_
    refine zt_getr zg_X0_79 dX0_shiftChain_22 rfl rfl rfl ?_
    refine zr_iload_n dX0_shiftChain_25 rfl ?_
    refine zt_ildN dX0_shiftChain_26 rfl rfl (by decide) ((congrFun (hf 28 (by decide)) 0).trans rs) ?_
    refine zr_icmp_ge 110 dX0_shiftChain_27 (by decide) (fun h => ?_) (fun h => ?_)
    · refine zr_iload dX0_shiftChain_110 rfl ?_
      exact zr_iret dX0_shiftChain_112 rfl (hQ _ _ ⟨rfl, hf, hh⟩)
    · exact absurd (Int32.le_refl _) h
  · rintro i ⟨σ1, o1, o2⟩ hi ⟨hf, hh⟩ ih
    have hcm : (K 0).getD i 0 ∈ sp_all K := sp_all_mem (k := 0) (by decide) (ls_mem hi)
    have hcn := hK.2 _ hcm
    have hnot := ls_notin hnod hi
    have htk := ls_take hi
    have hri := rr i hi
    generalize hce : (K 0).getD i 0 = c at hcm hcn hnot htk hri
    have c20 : c < 20 := by omega
    have rc := rC.2.2.1 c hcn
    have hom : sp_out (sp_cv C m) ((K 0).take i) v < 3 := Nat.lt_succ_of_le (sp_out_le hcv _ _ hv)
    have hst := rx_cv (σ := σ) hC hm hcn
    refine zr_iload dX0_shiftChain_16 rfl ?_
    refine zr_aload_n dX0_shiftChain_18 rfl ?_
    refine zt_getr zg_X0_29 dX0_shiftChain_19 rfl rfl rfl ?_
    refine zt_getr zg_X0_79 dX0_shiftChain_22 rfl rfl rfl ?_
    refine zr_iload_n dX0_shiftChain_25 rfl ?_
    refine zt_ildN dX0_shiftChain_26 rfl rfl (by decide) ((congrFun (hf 28 (by decide)) 0).trans rs) ?_
    refine zr_icmp_ge 110 dX0_shiftChain_27 (by decide) (fun h => ?_) (fun h => ?_)
    · exact absurd h (nI_ge hi (by omega))
    · refine zr_aload_n dX0_shiftChain_30 rfl ?_
      refine zr_iload dX0_shiftChain_31 rfl ?_
      refine zt_ildN dX0_shiftChain_33 rfl rfl (by omega) ((congrFun (hf 25 (by decide)) i).trans hri) ?_
      refine zr_istore dX0_shiftChain_34 (by decide) rfl ?_
      refine zr_aload_n dX0_shiftChain_36 rfl ?_
      refine zt_getr zg_X0_25 dX0_shiftChain_37 rfl rfl rfl ?_
      refine zt_getr zg_X0_82 dX0_shiftChain_40 rfl rfl rfl ?_
      refine zr_iload dX0_shiftChain_43 rfl ?_
      refine zt_ildN dX0_shiftChain_45 rfl rfl (c20) ((congrFun (hf 19 (by decide)) c).trans rc.1) ?_
      refine zr_aload_n dX0_shiftChain_46 rfl ?_
      refine zt_geti zg_X0_21 dX0_shiftChain_47 rfl rfl rfl ?_
      refine zr_top ((congrFun (hf 32 (by decide)) 5).trans rM.2.2.1) ?_
      have store : ∀ x : Nat, x = sp_in C c (sp_out (sp_cv C m) ((K 0).take i) v) → gz_R 0 yX0_shiftChain cX0_shiftChain 8 (some .int) 0 0 99 [some (.ref 32), some (.int (nI 0)), some (.int (nI v)), some (.ref 25), some (.int (nI (sp_out (sp_cv C m) ((K 0).take i) v))), some (.int (nI i)), some (.int (nI c)), some (.int (nI (sp_cv C m c)))] [.int (nI x), .int (nI c), .ref 34] (gz_mk L σ1) Q := by
        intro x hx
        refine zt_istN dX0_shiftChain_99 rfl rfl rfl (c20) ?_
        refine zr_iload dX0_shiftChain_100 rfl ?_
        refine zr_istore dX0_shiftChain_102 (by decide) rfl ?_
        refine zr_iinc dX0_shiftChain_104 rfl (kc_inc (i)) rfl ?_
        refine zr_goto 16 dX0_shiftChain_107 (by decide) ?_
        have eo : sp_out (sp_cv C m) ((K 0).take (i + 1)) v = sp_cv C m c := by rw [htk, sp_out_app]; rfl
        rw [← eo]
        refine ih (_, _, _) ⟨fun k hk => ?_, fun j hj => ?_⟩
        · show gz_wr σ1 34 c _ k = _
          rw [gz_wr_ne hk]
          exact hf k hk
        · show gz_wr σ1 34 c _ 34 j = _
          rw [gz_wr_eq, htk, sp_sh_app]
          show _ = nI (if j = c then _ else _)
          by_cases e : j = c
          · rw [if_pos e, ← hx]
            simp [upd, e]
          · rw [if_neg e, ← hh j hj]
            simp [upd, e]
      have join : gz_R 0 yX0_shiftChain cX0_shiftChain 8 (some .int) 0 0 67 [some (.ref 32), some (.int (nI 0)), some (.int (nI v)), some (.ref 25), some (.int (nI (sp_out (sp_cv C m) ((K 0).take i) v))), some (.int (nI i)), some (.int (nI c)), o2] [.int (nI (sp_cv C m c))] (gz_mk L σ1) Q := by
        refine zr_istore dX0_shiftChain_67 (by decide) rfl ?_
        refine zr_aload_n dX0_shiftChain_69 rfl ?_
        refine zt_getr zg_X0_15 dX0_shiftChain_70 rfl rfl rfl ?_
        refine zr_iload dX0_shiftChain_73 rfl ?_
        refine zr_aload_n dX0_shiftChain_75 rfl ?_
        refine zt_getr zg_X0_29 dX0_shiftChain_76 rfl rfl rfl ?_
        refine zt_getr zg_X0_85 dX0_shiftChain_79 rfl rfl rfl ?_
        refine zr_iload dX0_shiftChain_82 rfl ?_
        refine zt_zldN dX0_shiftChain_84 rfl rfl (c20) ((congrFun (hf 30 (by decide)) c).trans (rK.2.1 c hcm)) ?_
        have ht := (hC.2.2.1 c hcn).2.2.2
        refine zr_if_eq 97 dX0_shiftChain_85 (by decide) (fun h2 => ?_) (fun h2 => ?_)
        · have e0 : C 12 c = 0 := (nI_eq (b := 0) (by omega) (by omega)).mp h2
          refine zr_iload dX0_shiftChain_97 rfl ?_
          exact store _ (by simp [sp_in, e0])
        · have e1 : C 12 c = 1 := by
            have : C 12 c ≠ 0 := fun q => h2 (by rw [q]; rfl)
            omega
          refine zr_gets (j := 3) rfl (by decide) zs_X0_89 dX0_shiftChain_88 ?_
          refine zr_iload dX0_shiftChain_91 rfl ?_
          refine zt_tabN dX0_shiftChain_93 rfl rfl (hom) (tb_inv _ hom) ?_
          refine zr_goto 99 dX0_shiftChain_94 (by decide) ?_
          exact store _ (by simp [sp_in, e1])
      refine zr_icmp_ne 60 dX0_shiftChain_50 (by decide) (fun h1 => ?_) (fun h1 => ?_)
      · have h1' : ¬ C 5 c + 1 = m 2 0 := fun q => h1 (hst.mpr q)
        have hch : σ1 34 c = nI (sp_cv C m c) := by
          refine (hh c c20).trans ?_
          rw [sp_sh_out C _ _ _ _ hnot]
          simp [sp_cv, h1']
        refine zr_aload_n dX0_shiftChain_60 rfl ?_
        refine zt_getr zg_X0_15 dX0_shiftChain_61 rfl rfl rfl ?_
        refine zr_iload dX0_shiftChain_64 rfl ?_
        refine zt_ildN dX0_shiftChain_66 rfl rfl (c20) (hch) ?_
        exact join
      · have h1' : C 5 c + 1 = m 2 0 := hst.mp h1
        have hsv : σ1 32 6 = nI (sp_cv C m c) := by
          rw [show σ1 32 = σ 32 from hf 32 (by decide)]
          simp only [sp_cv, h1', if_true]
          exact rM.2.2.2.1 (by omega)
        refine zr_aload_n dX0_shiftChain_53 rfl ?_
        refine zt_geti zg_X0_39 dX0_shiftChain_54 rfl rfl rfl ?_
        refine zr_top (hsv) ?_
        refine zr_goto 67 dX0_shiftChain_57 (by decide) ?_
        exact join
theorem ca_shift_31_1 (L : Nat) (σ : gz_Mm) (C m : sp_T) (K : sp_K) (hC : sp_wf C) (hm : sp_wm m) (hK : sp_wk C K) (rC : rx_C σ C) (rK : rx_K σ C K) (rM : rx_m σ 31 m) (v : Nat) (hv : v ≤ 2) :
    gz_Gi 0 yX0_shiftChain cX0_shiftChain 8 (some .int) L [.ref 32, .int (nI 1), .int (nI v)] σ (fun r σ' => r = nI (sp_out (sp_cv C m) (K 1) v) ∧ (∀ k, k ≠ 34 → σ' k = σ k) ∧ ∀ j, j < 20 → σ' 34 j = nI (sp_sh C (sp_cv C m) (K 1) v (m 1) j)) := by
  have h20 := hC.1.2.2.1
  have hlen := hK.lenk (k := 1) (by decide)
  have hnod := hK.nodk (k := 1) (by decide)
  obtain ⟨rs, rr⟩ := rK.1 1 (by decide)
  have hcv := sp_cv_le (C := C) hm
  refine gz_Gi.of rfl rfl (fun Q hQ => ?_)
  refine zr_aload_n dX0_shiftChain_0 rfl ?_
  refine zt_getr zg_X0_29 dX0_shiftChain_1 rfl rfl rfl ?_
  refine zt_getr zg_X0_73 dX0_shiftChain_4 rfl rfl rfl ?_
  refine zr_iload_n dX0_shiftChain_7 rfl ?_
  refine zt_aldN (t := 26) dX0_shiftChain_8 rfl rfl (by decide) (rfl) ?_
  refine zr_astore_n dX0_shiftChain_9 (by decide) rfl ?_
  refine zr_iload_n dX0_shiftChain_10 rfl ?_
  refine zr_istore dX0_shiftChain_11 (by decide) rfl ?_
  refine zr_iconst (v := 0) dX0_shiftChain_13 kc_iconst_0 ?_
  refine zr_istore dX0_shiftChain_14 (by decide) rfl ?_
  refine zl_up (τ := gz_Mm × Option Value × Option Value) (K 1).length (fun i t => (∀ k, k ≠ 34 → t.1 k = σ k) ∧ ∀ j, j < 20 → t.1 34 j = nI (sp_sh C (sp_cv C m) ((K 1).take i) v (m 1) j)) (fun i t => gz_R 0 yX0_shiftChain cX0_shiftChain 8 (some .int) 0 0 16 [some (.ref 32), some (.int (nI 1)), some (.int (nI v)), some (.ref 26), some (.int (nI (sp_out (sp_cv C m) ((K 1).take i) v))), some (.int (nI i)), t.2.1, t.2.2] [] (gz_mk L t.1) Q) ?_ ?_ 0 (σ, none, none) (Nat.zero_le _) ⟨fun _ _ => rfl, fun j h => by simpa [sp_sh] using rM.2.1 j h⟩
  · rintro ⟨σ1, o1, o2⟩ ⟨hf, hh⟩
    rw [List.take_length] at *
    refine zr_iload dX0_shiftChain_16 rfl ?_
    refine zr_aload_n dX0_shiftChain_18 rfl ?_
    refine zt_getr zg_X0_29 dX0_shiftChain_19 rfl rfl rfl ?_
    refine zt_getr zg_X0_79 dX0_shiftChain_22 rfl rfl rfl ?_
    refine zr_iload_n dX0_shiftChain_25 rfl ?_
    refine zt_ildN dX0_shiftChain_26 rfl rfl (by decide) ((congrFun (hf 28 (by decide)) 1).trans rs) ?_
    refine zr_icmp_ge 110 dX0_shiftChain_27 (by decide) (fun h => ?_) (fun h => ?_)
    · refine zr_iload dX0_shiftChain_110 rfl ?_
      exact zr_iret dX0_shiftChain_112 rfl (hQ _ _ ⟨rfl, hf, hh⟩)
    · exact absurd (Int32.le_refl _) h
  · rintro i ⟨σ1, o1, o2⟩ hi ⟨hf, hh⟩ ih
    have hcm : (K 1).getD i 0 ∈ sp_all K := sp_all_mem (k := 1) (by decide) (ls_mem hi)
    have hcn := hK.2 _ hcm
    have hnot := ls_notin hnod hi
    have htk := ls_take hi
    have hri := rr i hi
    generalize hce : (K 1).getD i 0 = c at hcm hcn hnot htk hri
    have c20 : c < 20 := by omega
    have rc := rC.2.2.1 c hcn
    have hom : sp_out (sp_cv C m) ((K 1).take i) v < 3 := Nat.lt_succ_of_le (sp_out_le hcv _ _ hv)
    have hst := rx_cv (σ := σ) hC hm hcn
    refine zr_iload dX0_shiftChain_16 rfl ?_
    refine zr_aload_n dX0_shiftChain_18 rfl ?_
    refine zt_getr zg_X0_29 dX0_shiftChain_19 rfl rfl rfl ?_
    refine zt_getr zg_X0_79 dX0_shiftChain_22 rfl rfl rfl ?_
    refine zr_iload_n dX0_shiftChain_25 rfl ?_
    refine zt_ildN dX0_shiftChain_26 rfl rfl (by decide) ((congrFun (hf 28 (by decide)) 1).trans rs) ?_
    refine zr_icmp_ge 110 dX0_shiftChain_27 (by decide) (fun h => ?_) (fun h => ?_)
    · exact absurd h (nI_ge hi (by omega))
    · refine zr_aload_n dX0_shiftChain_30 rfl ?_
      refine zr_iload dX0_shiftChain_31 rfl ?_
      refine zt_ildN dX0_shiftChain_33 rfl rfl (by omega) ((congrFun (hf 26 (by decide)) i).trans hri) ?_
      refine zr_istore dX0_shiftChain_34 (by decide) rfl ?_
      refine zr_aload_n dX0_shiftChain_36 rfl ?_
      refine zt_getr zg_X0_25 dX0_shiftChain_37 rfl rfl rfl ?_
      refine zt_getr zg_X0_82 dX0_shiftChain_40 rfl rfl rfl ?_
      refine zr_iload dX0_shiftChain_43 rfl ?_
      refine zt_ildN dX0_shiftChain_45 rfl rfl (c20) ((congrFun (hf 19 (by decide)) c).trans rc.1) ?_
      refine zr_aload_n dX0_shiftChain_46 rfl ?_
      refine zt_geti zg_X0_21 dX0_shiftChain_47 rfl rfl rfl ?_
      refine zr_top ((congrFun (hf 32 (by decide)) 5).trans rM.2.2.1) ?_
      have store : ∀ x : Nat, x = sp_in C c (sp_out (sp_cv C m) ((K 1).take i) v) → gz_R 0 yX0_shiftChain cX0_shiftChain 8 (some .int) 0 0 99 [some (.ref 32), some (.int (nI 1)), some (.int (nI v)), some (.ref 26), some (.int (nI (sp_out (sp_cv C m) ((K 1).take i) v))), some (.int (nI i)), some (.int (nI c)), some (.int (nI (sp_cv C m c)))] [.int (nI x), .int (nI c), .ref 34] (gz_mk L σ1) Q := by
        intro x hx
        refine zt_istN dX0_shiftChain_99 rfl rfl rfl (c20) ?_
        refine zr_iload dX0_shiftChain_100 rfl ?_
        refine zr_istore dX0_shiftChain_102 (by decide) rfl ?_
        refine zr_iinc dX0_shiftChain_104 rfl (kc_inc (i)) rfl ?_
        refine zr_goto 16 dX0_shiftChain_107 (by decide) ?_
        have eo : sp_out (sp_cv C m) ((K 1).take (i + 1)) v = sp_cv C m c := by rw [htk, sp_out_app]; rfl
        rw [← eo]
        refine ih (_, _, _) ⟨fun k hk => ?_, fun j hj => ?_⟩
        · show gz_wr σ1 34 c _ k = _
          rw [gz_wr_ne hk]
          exact hf k hk
        · show gz_wr σ1 34 c _ 34 j = _
          rw [gz_wr_eq, htk, sp_sh_app]
          show _ = nI (if j = c then _ else _)
          by_cases e : j = c
          · rw [if_pos e, ← hx]
            simp [upd, e]
          · rw [if_neg e, ← hh j hj]
            simp [upd, e]
      have join : gz_R 0 yX0_shiftChain cX0_shiftChain 8 (some .int) 0 0 67 [some (.ref 32), some (.int (nI 1)), some (.int (nI v)), some (.ref 26), some (.int (nI (sp_out (sp_cv C m) ((K 1).take i) v))), some (.int (nI i)), some (.int (nI c)), o2] [.int (nI (sp_cv C m c))] (gz_mk L σ1) Q := by
        refine zr_istore dX0_shiftChain_67 (by decide) rfl ?_
        refine zr_aload_n dX0_shiftChain_69 rfl ?_
        refine zt_getr zg_X0_15 dX0_shiftChain_70 rfl rfl rfl ?_
        refine zr_iload dX0_shiftChain_73 rfl ?_
        refine zr_aload_n dX0_shiftChain_75 rfl ?_
        refine zt_getr zg_X0_29 dX0_shiftChain_76 rfl rfl rfl ?_
        refine zt_getr zg_X0_85 dX0_shiftChain_79 rfl rfl rfl ?_
        refine zr_iload dX0_shiftChain_82 rfl ?_
        refine zt_zldN dX0_shiftChain_84 rfl rfl (c20) ((congrFun (hf 30 (by decide)) c).trans (rK.2.1 c hcm)) ?_
        have ht := (hC.2.2.1 c hcn).2.2.2
        refine zr_if_eq 97 dX0_shiftChain_85 (by decide) (fun h2 => ?_) (fun h2 => ?_)
        · have e0 : C 12 c = 0 := (nI_eq (b := 0) (by omega) (by omega)).mp h2
          refine zr_iload dX0_shiftChain_97 rfl ?_
          exact store _ (by simp [sp_in, e0])
        · have e1 : C 12 c = 1 := by
            have : C 12 c ≠ 0 := fun q => h2 (by rw [q]; rfl)
            omega
          refine zr_gets (j := 3) rfl (by decide) zs_X0_89 dX0_shiftChain_88 ?_
          refine zr_iload dX0_shiftChain_91 rfl ?_
          refine zt_tabN dX0_shiftChain_93 rfl rfl (hom) (tb_inv _ hom) ?_
          refine zr_goto 99 dX0_shiftChain_94 (by decide) ?_
          exact store _ (by simp [sp_in, e1])
      refine zr_icmp_ne 60 dX0_shiftChain_50 (by decide) (fun h1 => ?_) (fun h1 => ?_)
      · have h1' : ¬ C 5 c + 1 = m 2 0 := fun q => h1 (hst.mpr q)
        have hch : σ1 34 c = nI (sp_cv C m c) := by
          refine (hh c c20).trans ?_
          rw [sp_sh_out C _ _ _ _ hnot]
          simp [sp_cv, h1']
        refine zr_aload_n dX0_shiftChain_60 rfl ?_
        refine zt_getr zg_X0_15 dX0_shiftChain_61 rfl rfl rfl ?_
        refine zr_iload dX0_shiftChain_64 rfl ?_
        refine zt_ildN dX0_shiftChain_66 rfl rfl (c20) (hch) ?_
        exact join
      · have h1' : C 5 c + 1 = m 2 0 := hst.mp h1
        have hsv : σ1 32 6 = nI (sp_cv C m c) := by
          rw [show σ1 32 = σ 32 from hf 32 (by decide)]
          simp only [sp_cv, h1', if_true]
          exact rM.2.2.2.1 (by omega)
        refine zr_aload_n dX0_shiftChain_53 rfl ?_
        refine zt_geti zg_X0_39 dX0_shiftChain_54 rfl rfl rfl ?_
        refine zr_top (hsv) ?_
        refine zr_goto 67 dX0_shiftChain_57 (by decide) ?_
        exact join
theorem ca_shift_31_2 (L : Nat) (σ : gz_Mm) (C m : sp_T) (K : sp_K) (hC : sp_wf C) (hm : sp_wm m) (hK : sp_wk C K) (rC : rx_C σ C) (rK : rx_K σ C K) (rM : rx_m σ 31 m) (v : Nat) (hv : v ≤ 2) :
    gz_Gi 0 yX0_shiftChain cX0_shiftChain 8 (some .int) L [.ref 32, .int (nI 2), .int (nI v)] σ (fun r σ' => r = nI (sp_out (sp_cv C m) (K 2) v) ∧ (∀ k, k ≠ 34 → σ' k = σ k) ∧ ∀ j, j < 20 → σ' 34 j = nI (sp_sh C (sp_cv C m) (K 2) v (m 1) j)) := by
  have h20 := hC.1.2.2.1
  have hlen := hK.lenk (k := 2) (by decide)
  have hnod := hK.nodk (k := 2) (by decide)
  obtain ⟨rs, rr⟩ := rK.1 2 (by decide)
  have hcv := sp_cv_le (C := C) hm
  refine gz_Gi.of rfl rfl (fun Q hQ => ?_)
  refine zr_aload_n dX0_shiftChain_0 rfl ?_
  refine zt_getr zg_X0_29 dX0_shiftChain_1 rfl rfl rfl ?_
  refine zt_getr zg_X0_73 dX0_shiftChain_4 rfl rfl rfl ?_
  refine zr_iload_n dX0_shiftChain_7 rfl ?_
  refine zt_aldN (t := 27) dX0_shiftChain_8 rfl rfl (by decide) (rfl) ?_
  refine zr_astore_n dX0_shiftChain_9 (by decide) rfl ?_
  refine zr_iload_n dX0_shiftChain_10 rfl ?_
  refine zr_istore dX0_shiftChain_11 (by decide) rfl ?_
  refine zr_iconst (v := 0) dX0_shiftChain_13 kc_iconst_0 ?_
  refine zr_istore dX0_shiftChain_14 (by decide) rfl ?_
  refine zl_up (τ := gz_Mm × Option Value × Option Value) (K 2).length (fun i t => (∀ k, k ≠ 34 → t.1 k = σ k) ∧ ∀ j, j < 20 → t.1 34 j = nI (sp_sh C (sp_cv C m) ((K 2).take i) v (m 1) j)) (fun i t => gz_R 0 yX0_shiftChain cX0_shiftChain 8 (some .int) 0 0 16 [some (.ref 32), some (.int (nI 2)), some (.int (nI v)), some (.ref 27), some (.int (nI (sp_out (sp_cv C m) ((K 2).take i) v))), some (.int (nI i)), t.2.1, t.2.2] [] (gz_mk L t.1) Q) ?_ ?_ 0 (σ, none, none) (Nat.zero_le _) ⟨fun _ _ => rfl, fun j h => by simpa [sp_sh] using rM.2.1 j h⟩
  · rintro ⟨σ1, o1, o2⟩ ⟨hf, hh⟩
    rw [List.take_length] at *
    refine zr_iload dX0_shiftChain_16 rfl ?_
    refine zr_aload_n dX0_shiftChain_18 rfl ?_
    refine zt_getr zg_X0_29 dX0_shiftChain_19 rfl rfl rfl ?_
    refine zt_getr zg_X0_79 dX0_shiftChain_22 rfl rfl rfl ?_
    refine zr_iload_n dX0_shiftChain_25 rfl ?_
    refine zt_ildN dX0_shiftChain_26 rfl rfl (by decide) ((congrFun (hf 28 (by decide)) 2).trans rs) ?_
    refine zr_icmp_ge 110 dX0_shiftChain_27 (by decide) (fun h => ?_) (fun h => ?_)
    · refine zr_iload dX0_shiftChain_110 rfl ?_
      exact zr_iret dX0_shiftChain_112 rfl (hQ _ _ ⟨rfl, hf, hh⟩)
    · exact absurd (Int32.le_refl _) h
  · rintro i ⟨σ1, o1, o2⟩ hi ⟨hf, hh⟩ ih
    have hcm : (K 2).getD i 0 ∈ sp_all K := sp_all_mem (k := 2) (by decide) (ls_mem hi)
    have hcn := hK.2 _ hcm
    have hnot := ls_notin hnod hi
    have htk := ls_take hi
    have hri := rr i hi
    generalize hce : (K 2).getD i 0 = c at hcm hcn hnot htk hri
    have c20 : c < 20 := by omega
    have rc := rC.2.2.1 c hcn
    have hom : sp_out (sp_cv C m) ((K 2).take i) v < 3 := Nat.lt_succ_of_le (sp_out_le hcv _ _ hv)
    have hst := rx_cv (σ := σ) hC hm hcn
    refine zr_iload dX0_shiftChain_16 rfl ?_
    refine zr_aload_n dX0_shiftChain_18 rfl ?_
    refine zt_getr zg_X0_29 dX0_shiftChain_19 rfl rfl rfl ?_
    refine zt_getr zg_X0_79 dX0_shiftChain_22 rfl rfl rfl ?_
    refine zr_iload_n dX0_shiftChain_25 rfl ?_
    refine zt_ildN dX0_shiftChain_26 rfl rfl (by decide) ((congrFun (hf 28 (by decide)) 2).trans rs) ?_
    refine zr_icmp_ge 110 dX0_shiftChain_27 (by decide) (fun h => ?_) (fun h => ?_)
    · exact absurd h (nI_ge hi (by omega))
    · refine zr_aload_n dX0_shiftChain_30 rfl ?_
      refine zr_iload dX0_shiftChain_31 rfl ?_
      refine zt_ildN dX0_shiftChain_33 rfl rfl (by omega) ((congrFun (hf 27 (by decide)) i).trans hri) ?_
      refine zr_istore dX0_shiftChain_34 (by decide) rfl ?_
      refine zr_aload_n dX0_shiftChain_36 rfl ?_
      refine zt_getr zg_X0_25 dX0_shiftChain_37 rfl rfl rfl ?_
      refine zt_getr zg_X0_82 dX0_shiftChain_40 rfl rfl rfl ?_
      refine zr_iload dX0_shiftChain_43 rfl ?_
      refine zt_ildN dX0_shiftChain_45 rfl rfl (c20) ((congrFun (hf 19 (by decide)) c).trans rc.1) ?_
      refine zr_aload_n dX0_shiftChain_46 rfl ?_
      refine zt_geti zg_X0_21 dX0_shiftChain_47 rfl rfl rfl ?_
      refine zr_top ((congrFun (hf 32 (by decide)) 5).trans rM.2.2.1) ?_
      have store : ∀ x : Nat, x = sp_in C c (sp_out (sp_cv C m) ((K 2).take i) v) → gz_R 0 yX0_shiftChain cX0_shiftChain 8 (some .int) 0 0 99 [some (.ref 32), some (.int (nI 2)), some (.int (nI v)), some (.ref 27), some (.int (nI (sp_out (sp_cv C m) ((K 2).take i) v))), some (.int (nI i)), some (.int (nI c)), some (.int (nI (sp_cv C m c)))] [.int (nI x), .int (nI c), .ref 34] (gz_mk L σ1) Q := by
        intro x hx
        refine zt_istN dX0_shiftChain_99 rfl rfl rfl (c20) ?_
        refine zr_iload dX0_shiftChain_100 rfl ?_
        refine zr_istore dX0_shiftChain_102 (by decide) rfl ?_
        refine zr_iinc dX0_shiftChain_104 rfl (kc_inc (i)) rfl ?_
        refine zr_goto 16 dX0_shiftChain_107 (by decide) ?_
        have eo : sp_out (sp_cv C m) ((K 2).take (i + 1)) v = sp_cv C m c := by rw [htk, sp_out_app]; rfl
        rw [← eo]
        refine ih (_, _, _) ⟨fun k hk => ?_, fun j hj => ?_⟩
        · show gz_wr σ1 34 c _ k = _
          rw [gz_wr_ne hk]
          exact hf k hk
        · show gz_wr σ1 34 c _ 34 j = _
          rw [gz_wr_eq, htk, sp_sh_app]
          show _ = nI (if j = c then _ else _)
          by_cases e : j = c
          · rw [if_pos e, ← hx]
            simp [upd, e]
          · rw [if_neg e, ← hh j hj]
            simp [upd, e]
      have join : gz_R 0 yX0_shiftChain cX0_shiftChain 8 (some .int) 0 0 67 [some (.ref 32), some (.int (nI 2)), some (.int (nI v)), some (.ref 27), some (.int (nI (sp_out (sp_cv C m) ((K 2).take i) v))), some (.int (nI i)), some (.int (nI c)), o2] [.int (nI (sp_cv C m c))] (gz_mk L σ1) Q := by
        refine zr_istore dX0_shiftChain_67 (by decide) rfl ?_
        refine zr_aload_n dX0_shiftChain_69 rfl ?_
        refine zt_getr zg_X0_15 dX0_shiftChain_70 rfl rfl rfl ?_
        refine zr_iload dX0_shiftChain_73 rfl ?_
        refine zr_aload_n dX0_shiftChain_75 rfl ?_
        refine zt_getr zg_X0_29 dX0_shiftChain_76 rfl rfl rfl ?_
        refine zt_getr zg_X0_85 dX0_shiftChain_79 rfl rfl rfl ?_
        refine zr_iload dX0_shiftChain_82 rfl ?_
        refine zt_zldN dX0_shiftChain_84 rfl rfl (c20) ((congrFun (hf 30 (by decide)) c).trans (rK.2.1 c hcm)) ?_
        have ht := (hC.2.2.1 c hcn).2.2.2
        refine zr_if_eq 97 dX0_shiftChain_85 (by decide) (fun h2 => ?_) (fun h2 => ?_)
        · have e0 : C 12 c = 0 := (nI_eq (b := 0) (by omega) (by omega)).mp h2
          refine zr_iload dX0_shiftChain_97 rfl ?_
          exact store _ (by simp [sp_in, e0])
        · have e1 : C 12 c = 1 := by
            have : C 12 c ≠ 0 := fun q => h2 (by rw [q]; rfl)
            omega
          refine zr_gets (j := 3) rfl (by decide) zs_X0_89 dX0_shiftChain_88 ?_
          refine zr_iload dX0_shiftChain_91 rfl ?_
          refine zt_tabN dX0_shiftChain_93 rfl rfl (hom) (tb_inv _ hom) ?_
          refine zr_goto 99 dX0_shiftChain_94 (by decide) ?_
          exact store _ (by simp [sp_in, e1])
      refine zr_icmp_ne 60 dX0_shiftChain_50 (by decide) (fun h1 => ?_) (fun h1 => ?_)
      · have h1' : ¬ C 5 c + 1 = m 2 0 := fun q => h1 (hst.mpr q)
        have hch : σ1 34 c = nI (sp_cv C m c) := by
          refine (hh c c20).trans ?_
          rw [sp_sh_out C _ _ _ _ hnot]
          simp [sp_cv, h1']
        refine zr_aload_n dX0_shiftChain_60 rfl ?_
        refine zt_getr zg_X0_15 dX0_shiftChain_61 rfl rfl rfl ?_
        refine zr_iload dX0_shiftChain_64 rfl ?_
        refine zt_ildN dX0_shiftChain_66 rfl rfl (c20) (hch) ?_
        exact join
      · have h1' : C 5 c + 1 = m 2 0 := hst.mp h1
        have hsv : σ1 32 6 = nI (sp_cv C m c) := by
          rw [show σ1 32 = σ 32 from hf 32 (by decide)]
          simp only [sp_cv, h1', if_true]
          exact rM.2.2.2.1 (by omega)
        refine zr_aload_n dX0_shiftChain_53 rfl ?_
        refine zt_geti zg_X0_39 dX0_shiftChain_54 rfl rfl rfl ?_
        refine zr_top (hsv) ?_
        refine zr_goto 67 dX0_shiftChain_57 (by decide) ?_
        exact join
theorem ca_shift_42_0 (L : Nat) (σ : gz_Mm) (C m : sp_T) (K : sp_K) (hC : sp_wf C) (hm : sp_wm m) (hK : sp_wk C K) (rC : rx_C σ C) (rK : rx_K σ C K) (rM : rx_m σ 42 m) (v : Nat) (hv : v ≤ 2) :
    gz_Gi 0 yX0_shiftChain cX0_shiftChain 8 (some .int) L [.ref 43, .int (nI 0), .int (nI v)] σ (fun r σ' => r = nI (sp_out (sp_cv C m) (K 0) v) ∧ (∀ k, k ≠ 45 → σ' k = σ k) ∧ ∀ j, j < 20 → σ' 45 j = nI (sp_sh C (sp_cv C m) (K 0) v (m 1) j)) := by
  have h20 := hC.1.2.2.1
  have hlen := hK.lenk (k := 0) (by decide)
  have hnod := hK.nodk (k := 0) (by decide)
  obtain ⟨rs, rr⟩ := rK.1 0 (by decide)
  have hcv := sp_cv_le (C := C) hm
  refine gz_Gi.of rfl rfl (fun Q hQ => ?_)
  refine zr_aload_n dX0_shiftChain_0 rfl ?_
  refine zt_getr zg_X0_29 dX0_shiftChain_1 rfl rfl rfl ?_
  refine zt_getr zg_X0_73 dX0_shiftChain_4 rfl rfl rfl ?_
  refine zr_iload_n dX0_shiftChain_7 rfl ?_
  refine zt_aldN (t := 25) dX0_shiftChain_8 rfl rfl (by decide) (rfl) ?_
  refine zr_astore_n dX0_shiftChain_9 (by decide) rfl ?_
  refine zr_iload_n dX0_shiftChain_10 rfl ?_
  refine zr_istore dX0_shiftChain_11 (by decide) rfl ?_
  refine zr_iconst (v := 0) dX0_shiftChain_13 kc_iconst_0 ?_
  refine zr_istore dX0_shiftChain_14 (by decide) rfl ?_
  refine zl_up (τ := gz_Mm × Option Value × Option Value) (K 0).length (fun i t => (∀ k, k ≠ 45 → t.1 k = σ k) ∧ ∀ j, j < 20 → t.1 45 j = nI (sp_sh C (sp_cv C m) ((K 0).take i) v (m 1) j)) (fun i t => gz_R 0 yX0_shiftChain cX0_shiftChain 8 (some .int) 0 0 16 [some (.ref 43), some (.int (nI 0)), some (.int (nI v)), some (.ref 25), some (.int (nI (sp_out (sp_cv C m) ((K 0).take i) v))), some (.int (nI i)), t.2.1, t.2.2] [] (gz_mk L t.1) Q) ?_ ?_ 0 (σ, none, none) (Nat.zero_le _) ⟨fun _ _ => rfl, fun j h => by simpa [sp_sh] using rM.2.1 j h⟩
  · rintro ⟨σ1, o1, o2⟩ ⟨hf, hh⟩
    rw [List.take_length] at *
    refine zr_iload dX0_shiftChain_16 rfl ?_
    refine zr_aload_n dX0_shiftChain_18 rfl ?_
    refine zt_getr zg_X0_29 dX0_shiftChain_19 rfl rfl rfl ?_
    refine zt_getr zg_X0_79 dX0_shiftChain_22 rfl rfl rfl ?_
    refine zr_iload_n dX0_shiftChain_25 rfl ?_
    refine zt_ildN dX0_shiftChain_26 rfl rfl (by decide) ((congrFun (hf 28 (by decide)) 0).trans rs) ?_
    refine zr_icmp_ge 110 dX0_shiftChain_27 (by decide) (fun h => ?_) (fun h => ?_)
    · refine zr_iload dX0_shiftChain_110 rfl ?_
      exact zr_iret dX0_shiftChain_112 rfl (hQ _ _ ⟨rfl, hf, hh⟩)
    · exact absurd (Int32.le_refl _) h
  · rintro i ⟨σ1, o1, o2⟩ hi ⟨hf, hh⟩ ih
    have hcm : (K 0).getD i 0 ∈ sp_all K := sp_all_mem (k := 0) (by decide) (ls_mem hi)
    have hcn := hK.2 _ hcm
    have hnot := ls_notin hnod hi
    have htk := ls_take hi
    have hri := rr i hi
    generalize hce : (K 0).getD i 0 = c at hcm hcn hnot htk hri
    have c20 : c < 20 := by omega
    have rc := rC.2.2.1 c hcn
    have hom : sp_out (sp_cv C m) ((K 0).take i) v < 3 := Nat.lt_succ_of_le (sp_out_le hcv _ _ hv)
    have hst := rx_cv (σ := σ) hC hm hcn
    refine zr_iload dX0_shiftChain_16 rfl ?_
    refine zr_aload_n dX0_shiftChain_18 rfl ?_
    refine zt_getr zg_X0_29 dX0_shiftChain_19 rfl rfl rfl ?_
    refine zt_getr zg_X0_79 dX0_shiftChain_22 rfl rfl rfl ?_
    refine zr_iload_n dX0_shiftChain_25 rfl ?_
    refine zt_ildN dX0_shiftChain_26 rfl rfl (by decide) ((congrFun (hf 28 (by decide)) 0).trans rs) ?_
    refine zr_icmp_ge 110 dX0_shiftChain_27 (by decide) (fun h => ?_) (fun h => ?_)
    · exact absurd h (nI_ge hi (by omega))
    · refine zr_aload_n dX0_shiftChain_30 rfl ?_
      refine zr_iload dX0_shiftChain_31 rfl ?_
      refine zt_ildN dX0_shiftChain_33 rfl rfl (by omega) ((congrFun (hf 25 (by decide)) i).trans hri) ?_
      refine zr_istore dX0_shiftChain_34 (by decide) rfl ?_
      refine zr_aload_n dX0_shiftChain_36 rfl ?_
      refine zt_getr zg_X0_25 dX0_shiftChain_37 rfl rfl rfl ?_
      refine zt_getr zg_X0_82 dX0_shiftChain_40 rfl rfl rfl ?_
      refine zr_iload dX0_shiftChain_43 rfl ?_
      refine zt_ildN dX0_shiftChain_45 rfl rfl (c20) ((congrFun (hf 19 (by decide)) c).trans rc.1) ?_
      refine zr_aload_n dX0_shiftChain_46 rfl ?_
      refine zt_geti zg_X0_21 dX0_shiftChain_47 rfl rfl rfl ?_
      refine zr_top ((congrFun (hf 43 (by decide)) 5).trans rM.2.2.1) ?_
      have store : ∀ x : Nat, x = sp_in C c (sp_out (sp_cv C m) ((K 0).take i) v) → gz_R 0 yX0_shiftChain cX0_shiftChain 8 (some .int) 0 0 99 [some (.ref 43), some (.int (nI 0)), some (.int (nI v)), some (.ref 25), some (.int (nI (sp_out (sp_cv C m) ((K 0).take i) v))), some (.int (nI i)), some (.int (nI c)), some (.int (nI (sp_cv C m c)))] [.int (nI x), .int (nI c), .ref 45] (gz_mk L σ1) Q := by
        intro x hx
        refine zt_istN dX0_shiftChain_99 rfl rfl rfl (c20) ?_
        refine zr_iload dX0_shiftChain_100 rfl ?_
        refine zr_istore dX0_shiftChain_102 (by decide) rfl ?_
        refine zr_iinc dX0_shiftChain_104 rfl (kc_inc (i)) rfl ?_
        refine zr_goto 16 dX0_shiftChain_107 (by decide) ?_
        have eo : sp_out (sp_cv C m) ((K 0).take (i + 1)) v = sp_cv C m c := by rw [htk, sp_out_app]; rfl
        rw [← eo]
        refine ih (_, _, _) ⟨fun k hk => ?_, fun j hj => ?_⟩
        · show gz_wr σ1 45 c _ k = _
          rw [gz_wr_ne hk]
          exact hf k hk
        · show gz_wr σ1 45 c _ 45 j = _
          rw [gz_wr_eq, htk, sp_sh_app]
          show _ = nI (if j = c then _ else _)
          by_cases e : j = c
          · rw [if_pos e, ← hx]
            simp [upd, e]
          · rw [if_neg e, ← hh j hj]
            simp [upd, e]
      have join : gz_R 0 yX0_shiftChain cX0_shiftChain 8 (some .int) 0 0 67 [some (.ref 43), some (.int (nI 0)), some (.int (nI v)), some (.ref 25), some (.int (nI (sp_out (sp_cv C m) ((K 0).take i) v))), some (.int (nI i)), some (.int (nI c)), o2] [.int (nI (sp_cv C m c))] (gz_mk L σ1) Q := by
        refine zr_istore dX0_shiftChain_67 (by decide) rfl ?_
        refine zr_aload_n dX0_shiftChain_69 rfl ?_
        refine zt_getr zg_X0_15 dX0_shiftChain_70 rfl rfl rfl ?_
        refine zr_iload dX0_shiftChain_73 rfl ?_
        refine zr_aload_n dX0_shiftChain_75 rfl ?_
        refine zt_getr zg_X0_29 dX0_shiftChain_76 rfl rfl rfl ?_
        refine zt_getr zg_X0_85 dX0_shiftChain_79 rfl rfl rfl ?_
        refine zr_iload dX0_shiftChain_82 rfl ?_
        refine zt_zldN dX0_shiftChain_84 rfl rfl (c20) ((congrFun (hf 30 (by decide)) c).trans (rK.2.1 c hcm)) ?_
        have ht := (hC.2.2.1 c hcn).2.2.2
        refine zr_if_eq 97 dX0_shiftChain_85 (by decide) (fun h2 => ?_) (fun h2 => ?_)
        · have e0 : C 12 c = 0 := (nI_eq (b := 0) (by omega) (by omega)).mp h2
          refine zr_iload dX0_shiftChain_97 rfl ?_
          exact store _ (by simp [sp_in, e0])
        · have e1 : C 12 c = 1 := by
            have : C 12 c ≠ 0 := fun q => h2 (by rw [q]; rfl)
            omega
          refine zr_gets (j := 3) rfl (by decide) zs_X0_89 dX0_shiftChain_88 ?_
          refine zr_iload dX0_shiftChain_91 rfl ?_
          refine zt_tabN dX0_shiftChain_93 rfl rfl (hom) (tb_inv _ hom) ?_
          refine zr_goto 99 dX0_shiftChain_94 (by decide) ?_
          exact store _ (by simp [sp_in, e1])
      refine zr_icmp_ne 60 dX0_shiftChain_50 (by decide) (fun h1 => ?_) (fun h1 => ?_)
      · have h1' : ¬ C 5 c + 1 = m 2 0 := fun q => h1 (hst.mpr q)
        have hch : σ1 45 c = nI (sp_cv C m c) := by
          refine (hh c c20).trans ?_
          rw [sp_sh_out C _ _ _ _ hnot]
          simp [sp_cv, h1']
        refine zr_aload_n dX0_shiftChain_60 rfl ?_
        refine zt_getr zg_X0_15 dX0_shiftChain_61 rfl rfl rfl ?_
        refine zr_iload dX0_shiftChain_64 rfl ?_
        refine zt_ildN dX0_shiftChain_66 rfl rfl (c20) (hch) ?_
        exact join
      · have h1' : C 5 c + 1 = m 2 0 := hst.mp h1
        have hsv : σ1 43 6 = nI (sp_cv C m c) := by
          rw [show σ1 43 = σ 43 from hf 43 (by decide)]
          simp only [sp_cv, h1', if_true]
          exact rM.2.2.2.1 (by omega)
        refine zr_aload_n dX0_shiftChain_53 rfl ?_
        refine zt_geti zg_X0_39 dX0_shiftChain_54 rfl rfl rfl ?_
        refine zr_top (hsv) ?_
        refine zr_goto 67 dX0_shiftChain_57 (by decide) ?_
        exact join
theorem ca_shift_42_1 (L : Nat) (σ : gz_Mm) (C m : sp_T) (K : sp_K) (hC : sp_wf C) (hm : sp_wm m) (hK : sp_wk C K) (rC : rx_C σ C) (rK : rx_K σ C K) (rM : rx_m σ 42 m) (v : Nat) (hv : v ≤ 2) :
    gz_Gi 0 yX0_shiftChain cX0_shiftChain 8 (some .int) L [.ref 43, .int (nI 1), .int (nI v)] σ (fun r σ' => r = nI (sp_out (sp_cv C m) (K 1) v) ∧ (∀ k, k ≠ 45 → σ' k = σ k) ∧ ∀ j, j < 20 → σ' 45 j = nI (sp_sh C (sp_cv C m) (K 1) v (m 1) j)) := by
  have h20 := hC.1.2.2.1
  have hlen := hK.lenk (k := 1) (by decide)
  have hnod := hK.nodk (k := 1) (by decide)
  obtain ⟨rs, rr⟩ := rK.1 1 (by decide)
  have hcv := sp_cv_le (C := C) hm
  refine gz_Gi.of rfl rfl (fun Q hQ => ?_)
  refine zr_aload_n dX0_shiftChain_0 rfl ?_
  refine zt_getr zg_X0_29 dX0_shiftChain_1 rfl rfl rfl ?_
  refine zt_getr zg_X0_73 dX0_shiftChain_4 rfl rfl rfl ?_
  refine zr_iload_n dX0_shiftChain_7 rfl ?_
  refine zt_aldN (t := 26) dX0_shiftChain_8 rfl rfl (by decide) (rfl) ?_
  refine zr_astore_n dX0_shiftChain_9 (by decide) rfl ?_
  refine zr_iload_n dX0_shiftChain_10 rfl ?_
  refine zr_istore dX0_shiftChain_11 (by decide) rfl ?_
  refine zr_iconst (v := 0) dX0_shiftChain_13 kc_iconst_0 ?_
  refine zr_istore dX0_shiftChain_14 (by decide) rfl ?_
  refine zl_up (τ := gz_Mm × Option Value × Option Value) (K 1).length (fun i t => (∀ k, k ≠ 45 → t.1 k = σ k) ∧ ∀ j, j < 20 → t.1 45 j = nI (sp_sh C (sp_cv C m) ((K 1).take i) v (m 1) j)) (fun i t => gz_R 0 yX0_shiftChain cX0_shiftChain 8 (some .int) 0 0 16 [some (.ref 43), some (.int (nI 1)), some (.int (nI v)), some (.ref 26), some (.int (nI (sp_out (sp_cv C m) ((K 1).take i) v))), some (.int (nI i)), t.2.1, t.2.2] [] (gz_mk L t.1) Q) ?_ ?_ 0 (σ, none, none) (Nat.zero_le _) ⟨fun _ _ => rfl, fun j h => by simpa [sp_sh] using rM.2.1 j h⟩
  · rintro ⟨σ1, o1, o2⟩ ⟨hf, hh⟩
    rw [List.take_length] at *
    refine zr_iload dX0_shiftChain_16 rfl ?_
    refine zr_aload_n dX0_shiftChain_18 rfl ?_
    refine zt_getr zg_X0_29 dX0_shiftChain_19 rfl rfl rfl ?_
    refine zt_getr zg_X0_79 dX0_shiftChain_22 rfl rfl rfl ?_
    refine zr_iload_n dX0_shiftChain_25 rfl ?_
    refine zt_ildN dX0_shiftChain_26 rfl rfl (by decide) ((congrFun (hf 28 (by decide)) 1).trans rs) ?_
    refine zr_icmp_ge 110 dX0_shiftChain_27 (by decide) (fun h => ?_) (fun h => ?_)
    · refine zr_iload dX0_shiftChain_110 rfl ?_
      exact zr_iret dX0_shiftChain_112 rfl (hQ _ _ ⟨rfl, hf, hh⟩)
    · exact absurd (Int32.le_refl _) h
  · rintro i ⟨σ1, o1, o2⟩ hi ⟨hf, hh⟩ ih
    have hcm : (K 1).getD i 0 ∈ sp_all K := sp_all_mem (k := 1) (by decide) (ls_mem hi)
    have hcn := hK.2 _ hcm
    have hnot := ls_notin hnod hi
    have htk := ls_take hi
    have hri := rr i hi
    generalize hce : (K 1).getD i 0 = c at hcm hcn hnot htk hri
    have c20 : c < 20 := by omega
    have rc := rC.2.2.1 c hcn
    have hom : sp_out (sp_cv C m) ((K 1).take i) v < 3 := Nat.lt_succ_of_le (sp_out_le hcv _ _ hv)
    have hst := rx_cv (σ := σ) hC hm hcn
    refine zr_iload dX0_shiftChain_16 rfl ?_
    refine zr_aload_n dX0_shiftChain_18 rfl ?_
    refine zt_getr zg_X0_29 dX0_shiftChain_19 rfl rfl rfl ?_
    refine zt_getr zg_X0_79 dX0_shiftChain_22 rfl rfl rfl ?_
    refine zr_iload_n dX0_shiftChain_25 rfl ?_
    refine zt_ildN dX0_shiftChain_26 rfl rfl (by decide) ((congrFun (hf 28 (by decide)) 1).trans rs) ?_
    refine zr_icmp_ge 110 dX0_shiftChain_27 (by decide) (fun h => ?_) (fun h => ?_)
    · exact absurd h (nI_ge hi (by omega))
    · refine zr_aload_n dX0_shiftChain_30 rfl ?_
      refine zr_iload dX0_shiftChain_31 rfl ?_
      refine zt_ildN dX0_shiftChain_33 rfl rfl (by omega) ((congrFun (hf 26 (by decide)) i).trans hri) ?_
      refine zr_istore dX0_shiftChain_34 (by decide) rfl ?_
      refine zr_aload_n dX0_shiftChain_36 rfl ?_
      refine zt_getr zg_X0_25 dX0_shiftChain_37 rfl rfl rfl ?_
      refine zt_getr zg_X0_82 dX0_shiftChain_40 rfl rfl rfl ?_
      refine zr_iload dX0_shiftChain_43 rfl ?_
      refine zt_ildN dX0_shiftChain_45 rfl rfl (c20) ((congrFun (hf 19 (by decide)) c).trans rc.1) ?_
      refine zr_aload_n dX0_shiftChain_46 rfl ?_
      refine zt_geti zg_X0_21 dX0_shiftChain_47 rfl rfl rfl ?_
      refine zr_top ((congrFun (hf 43 (by decide)) 5).trans rM.2.2.1) ?_
      have store : ∀ x : Nat, x = sp_in C c (sp_out (sp_cv C m) ((K 1).take i) v) → gz_R 0 yX0_shiftChain cX0_shiftChain 8 (some .int) 0 0 99 [some (.ref 43), some (.int (nI 1)), some (.int (nI v)), some (.ref 26), some (.int (nI (sp_out (sp_cv C m) ((K 1).take i) v))), some (.int (nI i)), some (.int (nI c)), some (.int (nI (sp_cv C m c)))] [.int (nI x), .int (nI c), .ref 45] (gz_mk L σ1) Q := by
        intro x hx
        refine zt_istN dX0_shiftChain_99 rfl rfl rfl (c20) ?_
        refine zr_iload dX0_shiftChain_100 rfl ?_
        refine zr_istore dX0_shiftChain_102 (by decide) rfl ?_
        refine zr_iinc dX0_shiftChain_104 rfl (kc_inc (i)) rfl ?_
        refine zr_goto 16 dX0_shiftChain_107 (by decide) ?_
        have eo : sp_out (sp_cv C m) ((K 1).take (i + 1)) v = sp_cv C m c := by rw [htk, sp_out_app]; rfl
        rw [← eo]
        refine ih (_, _, _) ⟨fun k hk => ?_, fun j hj => ?_⟩
        · show gz_wr σ1 45 c _ k = _
          rw [gz_wr_ne hk]
          exact hf k hk
        · show gz_wr σ1 45 c _ 45 j = _
          rw [gz_wr_eq, htk, sp_sh_app]
          show _ = nI (if j = c then _ else _)
          by_cases e : j = c
          · rw [if_pos e, ← hx]
            simp [upd, e]
          · rw [if_neg e, ← hh j hj]
            simp [upd, e]
      have join : gz_R 0 yX0_shiftChain cX0_shiftChain 8 (some .int) 0 0 67 [some (.ref 43), some (.int (nI 1)), some (.int (nI v)), some (.ref 26), some (.int (nI (sp_out (sp_cv C m) ((K 1).take i) v))), some (.int (nI i)), some (.int (nI c)), o2] [.int (nI (sp_cv C m c))] (gz_mk L σ1) Q := by
        refine zr_istore dX0_shiftChain_67 (by decide) rfl ?_
        refine zr_aload_n dX0_shiftChain_69 rfl ?_
        refine zt_getr zg_X0_15 dX0_shiftChain_70 rfl rfl rfl ?_
        refine zr_iload dX0_shiftChain_73 rfl ?_
        refine zr_aload_n dX0_shiftChain_75 rfl ?_
        refine zt_getr zg_X0_29 dX0_shiftChain_76 rfl rfl rfl ?_
        refine zt_getr zg_X0_85 dX0_shiftChain_79 rfl rfl rfl ?_
        refine zr_iload dX0_shiftChain_82 rfl ?_
        refine zt_zldN dX0_shiftChain_84 rfl rfl (c20) ((congrFun (hf 30 (by decide)) c).trans (rK.2.1 c hcm)) ?_
        have ht := (hC.2.2.1 c hcn).2.2.2
        refine zr_if_eq 97 dX0_shiftChain_85 (by decide) (fun h2 => ?_) (fun h2 => ?_)
        · have e0 : C 12 c = 0 := (nI_eq (b := 0) (by omega) (by omega)).mp h2
          refine zr_iload dX0_shiftChain_97 rfl ?_
          exact store _ (by simp [sp_in, e0])
        · have e1 : C 12 c = 1 := by
            have : C 12 c ≠ 0 := fun q => h2 (by rw [q]; rfl)
            omega
          refine zr_gets (j := 3) rfl (by decide) zs_X0_89 dX0_shiftChain_88 ?_
          refine zr_iload dX0_shiftChain_91 rfl ?_
          refine zt_tabN dX0_shiftChain_93 rfl rfl (hom) (tb_inv _ hom) ?_
          refine zr_goto 99 dX0_shiftChain_94 (by decide) ?_
          exact store _ (by simp [sp_in, e1])
      refine zr_icmp_ne 60 dX0_shiftChain_50 (by decide) (fun h1 => ?_) (fun h1 => ?_)
      · have h1' : ¬ C 5 c + 1 = m 2 0 := fun q => h1 (hst.mpr q)
        have hch : σ1 45 c = nI (sp_cv C m c) := by
          refine (hh c c20).trans ?_
          rw [sp_sh_out C _ _ _ _ hnot]
          simp [sp_cv, h1']
        refine zr_aload_n dX0_shiftChain_60 rfl ?_
        refine zt_getr zg_X0_15 dX0_shiftChain_61 rfl rfl rfl ?_
        refine zr_iload dX0_shiftChain_64 rfl ?_
        refine zt_ildN dX0_shiftChain_66 rfl rfl (c20) (hch) ?_
        exact join
      · have h1' : C 5 c + 1 = m 2 0 := hst.mp h1
        have hsv : σ1 43 6 = nI (sp_cv C m c) := by
          rw [show σ1 43 = σ 43 from hf 43 (by decide)]
          simp only [sp_cv, h1', if_true]
          exact rM.2.2.2.1 (by omega)
        refine zr_aload_n dX0_shiftChain_53 rfl ?_
        refine zt_geti zg_X0_39 dX0_shiftChain_54 rfl rfl rfl ?_
        refine zr_top (hsv) ?_
        refine zr_goto 67 dX0_shiftChain_57 (by decide) ?_
        exact join
theorem ca_shift_42_2 (L : Nat) (σ : gz_Mm) (C m : sp_T) (K : sp_K) (hC : sp_wf C) (hm : sp_wm m) (hK : sp_wk C K) (rC : rx_C σ C) (rK : rx_K σ C K) (rM : rx_m σ 42 m) (v : Nat) (hv : v ≤ 2) :
    gz_Gi 0 yX0_shiftChain cX0_shiftChain 8 (some .int) L [.ref 43, .int (nI 2), .int (nI v)] σ (fun r σ' => r = nI (sp_out (sp_cv C m) (K 2) v) ∧ (∀ k, k ≠ 45 → σ' k = σ k) ∧ ∀ j, j < 20 → σ' 45 j = nI (sp_sh C (sp_cv C m) (K 2) v (m 1) j)) := by
  have h20 := hC.1.2.2.1
  have hlen := hK.lenk (k := 2) (by decide)
  have hnod := hK.nodk (k := 2) (by decide)
  obtain ⟨rs, rr⟩ := rK.1 2 (by decide)
  have hcv := sp_cv_le (C := C) hm
  refine gz_Gi.of rfl rfl (fun Q hQ => ?_)
  refine zr_aload_n dX0_shiftChain_0 rfl ?_
  refine zt_getr zg_X0_29 dX0_shiftChain_1 rfl rfl rfl ?_
  refine zt_getr zg_X0_73 dX0_shiftChain_4 rfl rfl rfl ?_
  refine zr_iload_n dX0_shiftChain_7 rfl ?_
  refine zt_aldN (t := 27) dX0_shiftChain_8 rfl rfl (by decide) (rfl) ?_
  refine zr_astore_n dX0_shiftChain_9 (by decide) rfl ?_
  refine zr_iload_n dX0_shiftChain_10 rfl ?_
  refine zr_istore dX0_shiftChain_11 (by decide) rfl ?_
  refine zr_iconst (v := 0) dX0_shiftChain_13 kc_iconst_0 ?_
  refine zr_istore dX0_shiftChain_14 (by decide) rfl ?_
  refine zl_up (τ := gz_Mm × Option Value × Option Value) (K 2).length (fun i t => (∀ k, k ≠ 45 → t.1 k = σ k) ∧ ∀ j, j < 20 → t.1 45 j = nI (sp_sh C (sp_cv C m) ((K 2).take i) v (m 1) j)) (fun i t => gz_R 0 yX0_shiftChain cX0_shiftChain 8 (some .int) 0 0 16 [some (.ref 43), some (.int (nI 2)), some (.int (nI v)), some (.ref 27), some (.int (nI (sp_out (sp_cv C m) ((K 2).take i) v))), some (.int (nI i)), t.2.1, t.2.2] [] (gz_mk L t.1) Q) ?_ ?_ 0 (σ, none, none) (Nat.zero_le _) ⟨fun _ _ => rfl, fun j h => by simpa [sp_sh] using rM.2.1 j h⟩
  · rintro ⟨σ1, o1, o2⟩ ⟨hf, hh⟩
    rw [List.take_length] at *
    refine zr_iload dX0_shiftChain_16 rfl ?_
    refine zr_aload_n dX0_shiftChain_18 rfl ?_
    refine zt_getr zg_X0_29 dX0_shiftChain_19 rfl rfl rfl ?_
    refine zt_getr zg_X0_79 dX0_shiftChain_22 rfl rfl rfl ?_
    refine zr_iload_n dX0_shiftChain_25 rfl ?_
    refine zt_ildN dX0_shiftChain_26 rfl rfl (by decide) ((congrFun (hf 28 (by decide)) 2).trans rs) ?_
    refine zr_icmp_ge 110 dX0_shiftChain_27 (by decide) (fun h => ?_) (fun h => ?_)
    · refine zr_iload dX0_shiftChain_110 rfl ?_
      exact zr_iret dX0_shiftChain_112 rfl (hQ _ _ ⟨rfl, hf, hh⟩)
    · exact absurd (Int32.le_refl _) h
  · rintro i ⟨σ1, o1, o2⟩ hi ⟨hf, hh⟩ ih
    have hcm : (K 2).getD i 0 ∈ sp_all K := sp_all_mem (k := 2) (by decide) (ls_mem hi)
    have hcn := hK.2 _ hcm
    have hnot := ls_notin hnod hi
    have htk := ls_take hi
    have hri := rr i hi
    generalize hce : (K 2).getD i 0 = c at hcm hcn hnot htk hri
    have c20 : c < 20 := by omega
    have rc := rC.2.2.1 c hcn
    have hom : sp_out (sp_cv C m) ((K 2).take i) v < 3 := Nat.lt_succ_of_le (sp_out_le hcv _ _ hv)
    have hst := rx_cv (σ := σ) hC hm hcn
    refine zr_iload dX0_shiftChain_16 rfl ?_
    refine zr_aload_n dX0_shiftChain_18 rfl ?_
    refine zt_getr zg_X0_29 dX0_shiftChain_19 rfl rfl rfl ?_
    refine zt_getr zg_X0_79 dX0_shiftChain_22 rfl rfl rfl ?_
    refine zr_iload_n dX0_shiftChain_25 rfl ?_
    refine zt_ildN dX0_shiftChain_26 rfl rfl (by decide) ((congrFun (hf 28 (by decide)) 2).trans rs) ?_
    refine zr_icmp_ge 110 dX0_shiftChain_27 (by decide) (fun h => ?_) (fun h => ?_)
    · exact absurd h (nI_ge hi (by omega))
    · refine zr_aload_n dX0_shiftChain_30 rfl ?_
      refine zr_iload dX0_shiftChain_31 rfl ?_
      refine zt_ildN dX0_shiftChain_33 rfl rfl (by omega) ((congrFun (hf 27 (by decide)) i).trans hri) ?_
      refine zr_istore dX0_shiftChain_34 (by decide) rfl ?_
      refine zr_aload_n dX0_shiftChain_36 rfl ?_
      refine zt_getr zg_X0_25 dX0_shiftChain_37 rfl rfl rfl ?_
      refine zt_getr zg_X0_82 dX0_shiftChain_40 rfl rfl rfl ?_
      refine zr_iload dX0_shiftChain_43 rfl ?_
      refine zt_ildN dX0_shiftChain_45 rfl rfl (c20) ((congrFun (hf 19 (by decide)) c).trans rc.1) ?_
      refine zr_aload_n dX0_shiftChain_46 rfl ?_
      refine zt_geti zg_X0_21 dX0_shiftChain_47 rfl rfl rfl ?_
      refine zr_top ((congrFun (hf 43 (by decide)) 5).trans rM.2.2.1) ?_
      have store : ∀ x : Nat, x = sp_in C c (sp_out (sp_cv C m) ((K 2).take i) v) → gz_R 0 yX0_shiftChain cX0_shiftChain 8 (some .int) 0 0 99 [some (.ref 43), some (.int (nI 2)), some (.int (nI v)), some (.ref 27), some (.int (nI (sp_out (sp_cv C m) ((K 2).take i) v))), some (.int (nI i)), some (.int (nI c)), some (.int (nI (sp_cv C m c)))] [.int (nI x), .int (nI c), .ref 45] (gz_mk L σ1) Q := by
        intro x hx
        refine zt_istN dX0_shiftChain_99 rfl rfl rfl (c20) ?_
        refine zr_iload dX0_shiftChain_100 rfl ?_
        refine zr_istore dX0_shiftChain_102 (by decide) rfl ?_
        refine zr_iinc dX0_shiftChain_104 rfl (kc_inc (i)) rfl ?_
        refine zr_goto 16 dX0_shiftChain_107 (by decide) ?_
        have eo : sp_out (sp_cv C m) ((K 2).take (i + 1)) v = sp_cv C m c := by rw [htk, sp_out_app]; rfl
        rw [← eo]
        refine ih (_, _, _) ⟨fun k hk => ?_, fun j hj => ?_⟩
        · show gz_wr σ1 45 c _ k = _
          rw [gz_wr_ne hk]
          exact hf k hk
        · show gz_wr σ1 45 c _ 45 j = _
          rw [gz_wr_eq, htk, sp_sh_app]
          show _ = nI (if j = c then _ else _)
          by_cases e : j = c
          · rw [if_pos e, ← hx]
            simp [upd, e]
          · rw [if_neg e, ← hh j hj]
            simp [upd, e]
      have join : gz_R 0 yX0_shiftChain cX0_shiftChain 8 (some .int) 0 0 67 [some (.ref 43), some (.int (nI 2)), some (.int (nI v)), some (.ref 27), some (.int (nI (sp_out (sp_cv C m) ((K 2).take i) v))), some (.int (nI i)), some (.int (nI c)), o2] [.int (nI (sp_cv C m c))] (gz_mk L σ1) Q := by
        refine zr_istore dX0_shiftChain_67 (by decide) rfl ?_
        refine zr_aload_n dX0_shiftChain_69 rfl ?_
        refine zt_getr zg_X0_15 dX0_shiftChain_70 rfl rfl rfl ?_
        refine zr_iload dX0_shiftChain_73 rfl ?_
        refine zr_aload_n dX0_shiftChain_75 rfl ?_
        refine zt_getr zg_X0_29 dX0_shiftChain_76 rfl rfl rfl ?_
        refine zt_getr zg_X0_85 dX0_shiftChain_79 rfl rfl rfl ?_
        refine zr_iload dX0_shiftChain_82 rfl ?_
        refine zt_zldN dX0_shiftChain_84 rfl rfl (c20) ((congrFun (hf 30 (by decide)) c).trans (rK.2.1 c hcm)) ?_
        have ht := (hC.2.2.1 c hcn).2.2.2
        refine zr_if_eq 97 dX0_shiftChain_85 (by decide) (fun h2 => ?_) (fun h2 => ?_)
        · have e0 : C 12 c = 0 := (nI_eq (b := 0) (by omega) (by omega)).mp h2
          refine zr_iload dX0_shiftChain_97 rfl ?_
          exact store _ (by simp [sp_in, e0])
        · have e1 : C 12 c = 1 := by
            have : C 12 c ≠ 0 := fun q => h2 (by rw [q]; rfl)
            omega
          refine zr_gets (j := 3) rfl (by decide) zs_X0_89 dX0_shiftChain_88 ?_
          refine zr_iload dX0_shiftChain_91 rfl ?_
          refine zt_tabN dX0_shiftChain_93 rfl rfl (hom) (tb_inv _ hom) ?_
          refine zr_goto 99 dX0_shiftChain_94 (by decide) ?_
          exact store _ (by simp [sp_in, e1])
      refine zr_icmp_ne 60 dX0_shiftChain_50 (by decide) (fun h1 => ?_) (fun h1 => ?_)
      · have h1' : ¬ C 5 c + 1 = m 2 0 := fun q => h1 (hst.mpr q)
        have hch : σ1 45 c = nI (sp_cv C m c) := by
          refine (hh c c20).trans ?_
          rw [sp_sh_out C _ _ _ _ hnot]
          simp [sp_cv, h1']
        refine zr_aload_n dX0_shiftChain_60 rfl ?_
        refine zt_getr zg_X0_15 dX0_shiftChain_61 rfl rfl rfl ?_
        refine zr_iload dX0_shiftChain_64 rfl ?_
        refine zt_ildN dX0_shiftChain_66 rfl rfl (c20) (hch) ?_
        exact join
      · have h1' : C 5 c + 1 = m 2 0 := hst.mp h1
        have hsv : σ1 43 6 = nI (sp_cv C m c) := by
          rw [show σ1 43 = σ 43 from hf 43 (by decide)]
          simp only [sp_cv, h1', if_true]
          exact rM.2.2.2.1 (by omega)
        refine zr_aload_n dX0_shiftChain_53 rfl ?_
        refine zt_geti zg_X0_39 dX0_shiftChain_54 rfl rfl rfl ?_
        refine zr_top (hsv) ?_
        refine zr_goto 67 dX0_shiftChain_57 (by decide) ?_
        exact join
