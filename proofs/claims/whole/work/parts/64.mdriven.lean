/-! ===== the reference: driven ===== -/
theorem rm_M.kept {σ σ' : gz_Mm} {C m : sp_T} {K : sp_K} {tg d : Nat} (h : rm_M σ C m K tg d) (h57 : ∀ j, j ≠ 33 → j ≠ 35 → σ' 57 j = σ 57 j) (hk : ∀ k, k ≠ 57 → k < 74 → σ' k = σ k) : rm_M σ' C m K tg d :=
  ⟨h.1.kept (fun j hj => h57 j (by omega) (by omega)) (fun k h1 h2 _ _ _ _ => hk k (by omega) (by omega)), h.2.1.kept (fun k h1 => hk k (by omega) (by omega)), h.2.2.1.kept (fun j hj => h57 j (by omega) (by omega)) (hk 72 (by decide) (by decide)) (hk 73 (by decide) (by decide)), h.2.2.2.1, (h57 27 (by decide) (by decide)).trans h.2.2.2.2.1, (h57 36 (by decide) (by decide)).trans h.2.2.2.2.2⟩
def rm_D (σ σ' : gz_Mm) : Prop := (∀ k, k ≠ 57 → (k < 72 ∨ 77 < k) → σ' k = σ k) ∧ ∀ j, (j < 23 ∨ j = 27 ∨ (28 < j ∧ j < 33) ∨ 36 < j) → σ' 57 j = σ 57 j
theorem rm_D.rf {σ : gz_Mm} : rm_D σ σ := ⟨fun _ _ _ => rfl, fun _ _ => rfl⟩
theorem rm_D.tr {σ σ' σ'' : gz_Mm} (h : rm_D σ σ') (h' : rm_D σ' σ'') : rm_D σ σ'' := ⟨fun k a b => (h'.1 k a b).trans (h.1 k a b), fun j a => (h'.2 j a).trans (h.2 j a)⟩
theorem rm_E.D {σ σ' : gz_Mm} (h : rm_E σ σ') : rm_D σ σ' := ⟨fun k a b => h.1 k a (by omega) (by omega) (by omega), fun j a => h.2 j (by omega) (by omega) (by omega) (by omega) (by omega) (by omega)⟩
theorem rm_D.of {σ σ' : gz_Mm} (h : ∀ k, k < 72 ∨ 77 < k → σ' k = σ k) : rm_D σ σ' := ⟨fun k _ b => h k b, fun j _ => congrFun (h 57 (by decide)) j⟩
theorem rm_D.w57 {σ : gz_Mm} (j : Nat) (x : Int32) (hj : j = 33 ∨ j = 35 ∨ j = 36) : rm_D σ (gz_wr σ 57 j x) := ⟨fun k a _ => gz_wr_ne a, fun i a => by rw [gz_wr_eq, pk_un (by omega)]⟩
theorem rm_E.x {σ σ' : gz_Mm} (h : rm_E σ σ') : σ' 76 = σ 76 ∧ σ' 77 = σ 77 ∧ σ' 57 33 = σ 57 33 ∧ σ' 57 35 = σ 57 35 := ⟨h.1 76 (by decide) (by decide) (by decide) (by decide), h.1 77 (by decide) (by decide) (by decide) (by decide), h.2 33 (by decide) (by decide) (by decide) (by decide) (by decide) (by decide), h.2 35 (by decide) (by decide) (by decide) (by decide) (by decide) (by decide)⟩
theorem cm_driven (L : Nat) (σ : gz_Mm) (C m : sp_T) (K : sp_K) (hC : sp_wf C) (hm : sp_wm m) (hK : sp_wk C K) (rC : rm_C σ C) (rK : rm_K σ C K) (rM : rm_m σ C m) (tg : Nat) (htg : tg < 65536) (rt : σ 57 27 = nI tg) (t : Nat) (ht : t < C 9 4) :
    gz_Gv 7 yX9_driven cX9_driven 5 none L [.ref 57, .int (nI t)] σ (fun σ' => rm_M σ' C (sp_mF C K tg m (C 10 t) (C 11 t)) K tg (23 + 2 * sp_len K) ∧ rm_D σ σ' ∧ σ' 57 33 = nI (C 9 3) ∧ σ' 57 35 = nI (sp_len K) ∧ (∀ i, i < C 9 3 → σ' 76 i = nI (sp_val C (sp_mC C K tg m (C 10 t) (C 11 t)) (C 8 i))) ∧ ∀ i, i < sp_len K → σ' 77 i = sp_ou C K tg m (C 10 t) (C 11 t) i) := by
  have hl20 := hK.len20 hC
  have hln := sp_len_le hC hK
  obtain ⟨b1, b2, b3, b4, b5⟩ := hC.1
  obtain ⟨t1, t2⟩ := hC.2.2.2.2 t ht
  obtain ⟨rt1, rt2⟩ := rC.2.2.2.2 t ht
  generalize hib : C 10 t = ib at *
  generalize hcb : C 11 t = cb at *
  refine gz_Gv.of rfl rfl (fun Q hQ => ?_)
  refine zr_iconst (v := 0) dX9_driven_0 kc_iconst_0 ?_
  refine zr_istore_n dX9_driven_1 (by decide) rfl ?_
  refine zl_up (τ := gz_Mm) (C 9 1) (fun i s => (∀ k, k ≠ 72 → s k = σ k) ∧ ∀ j, j < 8 → s 72 j = nI (if j < i then ib / 2 ^ j % 2 else m 0 j)) (fun i s => gz_R 7 yX9_driven cX9_driven 5 none 0 0 2 [some (.ref 57), some (.int (nI t)), some (.int (nI i)), none, none] [] (gz_mk L s) Q) ?_ ?_ 0 σ (Nat.zero_le _) ⟨fun _ _ => rfl, fun j hj => by rw [if_neg (Nat.not_lt_zero j)]; exact rM.1 j hj⟩
  rotate_left
  · rintro i σ1 hi ⟨hf, hv⟩ ih
    refine zr_iload_n dX9_driven_2 rfl ?_
    refine zr_aload_n dX9_driven_3 rfl ?_
    refine zt_geti zg_X9_109 dX9_driven_4 rfl rfl rfl ?_
    refine zr_top ((congrFun (hf 57 (by decide)) 5).trans rC.1.2.1) ?_
    refine zr_icmp_ge 32 dX9_driven_7 (by decide) (fun h => absurd h (nI_ge hi (by omega))) (fun hp7 => ?_)
    refine zr_aload_n dX9_driven_10 rfl ?_
    refine zt_getr zg_X9_53 dX9_driven_11 rfl rfl rfl ?_
    refine zr_iload_n dX9_driven_14 rfl ?_
    refine zr_aload_n dX9_driven_15 rfl ?_
    refine zt_getr zg_X9_47 dX9_driven_16 rfl rfl rfl ?_
    refine zr_iload_n dX9_driven_19 rfl ?_
    refine zt_ildN dX9_driven_20 rfl rfl (by omega) ((congrFun (hf 70 (by decide)) t).trans rt1) ?_
    refine zr_iload_n dX9_driven_21 rfl ?_
    refine zr_ishr dX9_driven_22 ?_
    refine zr_iconst (v := 1) dX9_driven_23 kc_iconst_1 ?_
    refine zr_iand dX9_driven_24 ?_
    refine zr_top (bt_bit (by omega) (by omega)) ?_
    refine zt_istN dX9_driven_25 rfl rfl rfl (by omega) ?_
    refine zr_iinc dX9_driven_26 rfl (kc_inc (i)) rfl ?_
    refine zr_goto 2 dX9_driven_29 (by decide) ?_
    refine ih _ ⟨fun k hk => (gz_wr_ne hk).trans (hf k hk), fun j hj => ?_⟩
    rw [gz_wr_eq]
    by_cases e : j = i
    · rw [e]
      simp [upd]
    · rw [pk_un e, hv j hj]
      by_cases q : j < i
      · rw [if_pos q, if_pos (by omega)]
      · rw [if_neg q, if_neg (by omega)]
  rintro σ0 ⟨f0, v0⟩
  have r0 : rm_m σ0 C (sp_sin C m ib) := by
    obtain ⟨a1, a2, a3⟩ := rM
    unfold rm_m
    rw [f0 57 (by decide), f0 73 (by decide)]
    exact ⟨fun i hi => v0 i hi, a2, a3⟩
  have D0 : rm_D σ σ0 := rm_D.of (fun k hk => f0 k (by omega))
  have M0 : rm_M (gz_wr σ0 57 36 0) C (sp_sin C m ib) K tg 0 := by
    refine ⟨rC.kept (fun j hj => ?_) (fun k h1 h2 _ _ _ _ => (gz_wr_ne (by omega)).trans (f0 k (by omega))), rK.kept (fun k hk => (gz_wr_ne (by omega)).trans (f0 k (by omega))), r0.w57 36 _ (by omega), sp_sin_wm hm, ?_, by rw [gz_wr_eq]; simp [upd]; rfl⟩
    · rw [gz_wr_eq, pk_un (by omega), f0 57 (by decide)]
    · rw [gz_wr_eq, pk_un (by omega), f0 57 (by decide)]
      exact rt
  refine zr_iload_n dX9_driven_2 rfl ?_
  refine zr_aload_n dX9_driven_3 rfl ?_
  refine zt_geti zg_X9_109 dX9_driven_4 rfl rfl rfl ?_
  refine zr_top ((congrFun (f0 57 (by decide)) 5).trans rC.1.2.1) ?_
  refine zr_icmp_ge 32 dX9_driven_7 (by decide) (fun hp7 => ?_) (fun h => absurd (Int32.le_refl _) h)
  refine zr_aload_n dX9_driven_32 rfl ?_
  refine zr_iconst (v := 0) dX9_driven_33 kc_iconst_0 ?_
  refine zt_put zp_X9_219 dX9_driven_34 rfl rfl rfl rfl ?_
  refine zr_aload_n dX9_driven_37 rfl ?_
  refine zr_iconst (v := 1) dX9_driven_38 kc_iconst_1 ?_
  refine zr_iconst (v := 5) dX9_driven_39 kc_iconst_5 ?_
  refine zr_iconst (v := 0) dX9_driven_40 kc_iconst_0 ?_
  refine zt_cVv (As := [_, _, _]) (cm_lead L _ C _ K hC hK tg 0 htg M0 1 5 0 (by decide) (by decide) (by decide)) zc_X9_225 rfl dX9_driven_41 rfl rfl rfl rfl rfl rfl (fun σ1 h1 => ?_)
  refine zr_aload_n dX9_driven_44 rfl ?_
  refine zr_iconst (v := 0) dX9_driven_45 kc_iconst_0 ?_
  refine zr_iconst (v := 1) dX9_driven_46 kc_iconst_1 ?_
  refine zr_iconst (v := 0) dX9_driven_47 kc_iconst_0 ?_
  refine zt_cVv (As := [_, _, _]) (cm_lead L _ C _ K hC hK tg _ htg h1.1 0 1 0 (by decide) (by decide) (by decide)) zc_X9_225 rfl dX9_driven_48 rfl rfl rfl rfl rfl rfl (fun σ2 h2 => ?_)
  refine zr_aload_n dX9_driven_51 rfl ?_
  refine zr_iconst (v := 1) dX9_driven_52 kc_iconst_1 ?_
  refine zr_iconst (v := 2) dX9_driven_53 kc_iconst_2 ?_
  refine zr_iconst (v := 0) dX9_driven_54 kc_iconst_0 ?_
  refine zt_cVv (As := [_, _, _]) (cm_lead L _ C _ K hC hK tg _ htg h2.1 1 2 0 (by decide) (by decide) (by decide)) zc_X9_225 rfl dX9_driven_55 rfl rfl rfl rfl rfl rfl (fun σ3 h3 => ?_)
  refine zr_aload_n dX9_driven_58 rfl ?_
  refine zr_iconst (v := 0) dX9_driven_59 kc_iconst_0 ?_
  refine zr_iconst (v := 2) dX9_driven_60 kc_iconst_2 ?_
  refine zr_iconst (v := 0) dX9_driven_61 kc_iconst_0 ?_
  refine zt_cVv (As := [_, _, _]) (cm_lead L _ C _ K hC hK tg _ htg h3.1 0 2 0 (by decide) (by decide) (by decide)) zc_X9_225 rfl dX9_driven_62 rfl rfl rfl rfl rfl rfl (fun σ4 h4 => ?_)
  refine zr_aload_n dX9_driven_65 rfl ?_
  refine zr_iconst (v := 0) dX9_driven_66 kc_iconst_0 ?_
  refine zr_iconst (v := 2) dX9_driven_67 kc_iconst_2 ?_
  refine zr_iconst (v := 1) dX9_driven_68 kc_iconst_1 ?_
  refine zt_cVv (As := [_, _, _]) (cm_lead L _ C _ K hC hK tg _ htg h4.1 0 2 1 (by decide) (by decide) (by decide)) zc_X9_225 rfl dX9_driven_69 rfl rfl rfl rfl rfl rfl (fun σ5 h5 => ?_)
  refine zr_aload_n dX9_driven_72 rfl ?_
  refine zr_iconst (v := 1) dX9_driven_73 kc_iconst_1 ?_
  refine zr_iconst (v := 1) dX9_driven_74 kc_iconst_1 ?_
  refine zr_iconst (v := 0) dX9_driven_75 kc_iconst_0 ?_
  refine zt_cVv (As := [_, _, _]) (cm_lead L _ C _ K hC hK tg _ htg h5.1 1 1 0 (by decide) (by decide) (by decide)) zc_X9_225 rfl dX9_driven_76 rfl rfl rfl rfl rfl rfl (fun σ6 h6 => ?_)
  refine zr_aload_n dX9_driven_79 rfl ?_
  refine zr_iconst (v := 1) dX9_driven_80 kc_iconst_1 ?_
  refine zr_iconst (v := 2) dX9_driven_81 kc_iconst_2 ?_
  refine zr_iconst (v := 0) dX9_driven_82 kc_iconst_0 ?_
  refine zt_cVv (As := [_, _, _]) (cm_lead L _ C _ K hC hK tg _ htg h6.1 1 2 0 (by decide) (by decide) (by decide)) zc_X9_225 rfl dX9_driven_83 rfl rfl rfl rfl rfl rfl (fun σ7 h7 => ?_)
  refine zr_aload_n dX9_driven_86 rfl ?_
  refine zr_iconst (v := 0) dX9_driven_87 kc_iconst_0 ?_
  refine zr_iconst (v := 2) dX9_driven_88 kc_iconst_2 ?_
  refine zr_iconst (v := 0) dX9_driven_89 kc_iconst_0 ?_
  refine zt_cVv (As := [_, _, _]) (cm_lead L _ C _ K hC hK tg _ htg h7.1 0 2 0 (by decide) (by decide) (by decide)) zc_X9_225 rfl dX9_driven_90 rfl rfl rfl rfl rfl rfl (fun σ8 h8 => ?_)
  have M8 : rm_M σ8 C (sp_it C K tg (sp_fl C K cb) 0 (sp_mA C K tg m ib)) K tg (17 + 0) := h8.1
  have D8 : rm_D σ σ8 := D0.tr ((rm_D.w57 36 _ (by omega)).tr (h1.2.D.tr (h2.2.D.tr (h3.2.D.tr (h4.2.D.tr (h5.2.D.tr (h6.2.D.tr (h7.2.D.tr h8.2.D))))))))
  clear h1 h2 h3 h4 h5 h6 h7 h8
  have part2 : gz_R 7 yX9_driven cX9_driven 5 none 0 0 111 [some (.ref 57), some (.int (nI t)), some (.int (nI (sp_all K).length)), some (.int (nI (sp_len K))), some (.int (nI 1))] [] (gz_mk L σ8) Q := by
    refine zl_up (τ := gz_Mm) (sp_len K) (fun i s => rm_M s C (sp_it C K tg (sp_fl C K cb) i (sp_mA C K tg m ib)) K tg (17 + i) ∧ rm_D σ s) (fun i s => gz_R 7 yX9_driven cX9_driven 5 none 0 0 111 [some (.ref 57), some (.int (nI t)), some (.int (nI (sp_all K).length)), some (.int (nI (sp_len K))), some (.int (nI (i + 1)))] [] (gz_mk L s) Q) ?_ ?_ 0 σ8 (Nat.zero_le _) ⟨M8, D8⟩
    rotate_left
    · rintro i σ1 hi ⟨M1, D1⟩ ih
      have fin : ∀ la lo : Nat, la = sp_la (sp_len K) i → lo = sp_lo C K cb i → gz_R 7 yX9_driven cX9_driven 5 none 0 0 152 [some (.ref 57), some (.int (nI t)), some (.int (nI (sp_all K).length)), some (.int (nI (sp_len K))), some (.int (nI (i + 1)))] [.int (nI lo), .int 1, .int (nI la), .ref 57] (gz_mk L σ1) Q := by
        rintro la lo e1 e2
        have l1 := sp_la_le (sp_len K) i
        have l2 := sp_lo_le C K cb i
        refine zt_cVv (As := [_, _, _]) (cm_lead L _ C _ K hC hK tg _ htg M1 la 1 lo (by omega) (by omega) (by decide)) zc_X9_225 rfl dX9_driven_152 rfl rfl rfl rfl rfl rfl (fun σ2 h2 => ?_)
        refine zr_iinc dX9_driven_155 rfl (kc_inc ((i + 1))) rfl ?_
        refine zr_goto 111 dX9_driven_158 (by decide) ?_
        refine ih σ2 ⟨?_, D1.tr h2.2.D⟩
        have := h2.1
        rw [e1, e2] at this
        exact this
      have mid : ∀ la : Nat, la = sp_la (sp_len K) i → gz_R 7 yX9_driven cX9_driven 5 none 0 0 129 [some (.ref 57), some (.int (nI t)), some (.int (nI (sp_all K).length)), some (.int (nI (sp_len K))), some (.int (nI (i + 1)))] [.int (nI la), .ref 57] (gz_mk L σ1) Q := by
        rintro la e1
        by_cases hz : (sp_all K).length = 0
        · refine zr_iconst (v := 1) dX9_driven_129 kc_iconst_1 ?_
          refine zr_iload_n dX9_driven_130 rfl ?_
          refine zr_if_ne 138 dX9_driven_131 (by decide) (fun h => absurd (by rw [hz]; rfl) h) (fun hp131 => ?_)
          refine zr_iconst (v := 0) dX9_driven_134 kc_iconst_0 ?_
          refine zr_goto 152 dX9_driven_135 (by decide) ?_
          exact fin la 0 e1 (by simp [sp_lo, hz])
        · have hlen : sp_len K = (sp_all K).length := by simp [sp_len, hz]
          refine zr_iconst (v := 1) dX9_driven_129 kc_iconst_1 ?_
          refine zr_iload_n dX9_driven_130 rfl ?_
          refine zr_if_ne 138 dX9_driven_131 (by decide) (fun hp131 => ?_) (fun h => absurd ((nI_eq (b := 0) (by omega) (by omega)).mp h) hz)
          refine zr_aload_n dX9_driven_138 rfl ?_
          refine zr_iload_n dX9_driven_139 rfl ?_
          refine zr_iload dX9_driven_140 rfl ?_
          refine zr_isub dX9_driven_142 ?_
          refine zr_top (pk_sub (by omega)) ?_
          refine zr_aload_n dX9_driven_143 rfl ?_
          refine zt_getr zg_X9_50 dX9_driven_144 rfl rfl rfl ?_
          refine zr_iload_n dX9_driven_147 rfl ?_
          refine zt_ildN dX9_driven_148 rfl rfl (by omega) ((congrFun (D1.1 71 (by decide) (by decide)) t).trans rt2) ?_
          refine zt_callVi (As := [_, _]) (cm_bitFor L σ1 C K hC hK M1.2.1 _ cb (by omega) (by omega)) zc_X9_229 rfl dX9_driven_149 rfl rfl rfl rfl rfl rfl ?_
          exact fin la _ e1 (by simp [sp_lo, hz]; congr 1; omega)
      by_cases he : i + 1 = sp_len K
      · refine zr_iload dX9_driven_111 rfl ?_
        refine zr_iload_n dX9_driven_113 rfl ?_
        refine zr_icmp_gt 161 dX9_driven_114 (by decide) (fun h => absurd h (nI_nlt (by omega) (by omega))) (fun hp114 => ?_)
        refine zr_aload_n dX9_driven_117 rfl ?_
        refine zr_iload dX9_driven_118 rfl ?_
        refine zr_iload_n dX9_driven_120 rfl ?_
        refine zr_icmp_ne 128 dX9_driven_121 (by decide) (fun h => absurd (by rw [he]) h) (fun hp121 => ?_)
        refine zr_iconst (v := 1) dX9_driven_124 kc_iconst_1 ?_
        refine zr_goto 129 dX9_driven_125 (by decide) ?_
        exact mid 1 (by simp [sp_la, he])
      · refine zr_iload dX9_driven_111 rfl ?_
        refine zr_iload_n dX9_driven_113 rfl ?_
        refine zr_icmp_gt 161 dX9_driven_114 (by decide) (fun h => absurd h (nI_nlt (by omega) (by omega))) (fun hp114 => ?_)
        refine zr_aload_n dX9_driven_117 rfl ?_
        refine zr_iload dX9_driven_118 rfl ?_
        refine zr_iload_n dX9_driven_120 rfl ?_
        refine zr_icmp_ne 128 dX9_driven_121 (by decide) (fun hp121 => ?_) (fun h => absurd ((nI_eq (by omega) (by omega)).mp h) he)
        refine zr_iconst (v := 0) dX9_driven_128 kc_iconst_0 ?_
        exact mid 0 (by simp [sp_la, he])
    rintro σ1 ⟨M1, D1⟩
    refine zr_iload dX9_driven_111 rfl ?_
    refine zr_iload_n dX9_driven_113 rfl ?_
    refine zr_icmp_gt 161 dX9_driven_114 (by decide) (fun hp114 => ?_) (fun h => absurd (nI_lt (Nat.lt_succ_self _) (by omega)) h)
    refine zr_aload_n dX9_driven_161 rfl ?_
    refine zr_iconst (v := 1) dX9_driven_162 kc_iconst_1 ?_
    refine zr_iconst (v := 2) dX9_driven_163 kc_iconst_2 ?_
    refine zr_iconst (v := 0) dX9_driven_164 kc_iconst_0 ?_
    refine zt_cVv (As := [_, _, _]) (cm_lead L _ C _ K hC hK tg _ htg M1 1 2 0 (by decide) (by decide) (by decide)) zc_X9_225 rfl dX9_driven_165 rfl rfl rfl rfl rfl rfl (fun σ2 h2 => ?_)
    refine zr_aload_n dX9_driven_168 rfl ?_
    refine zr_iconst (v := 0) dX9_driven_169 kc_iconst_0 ?_
    refine zr_iconst (v := 1) dX9_driven_170 kc_iconst_1 ?_
    refine zr_iconst (v := 0) dX9_driven_171 kc_iconst_0 ?_
    refine zt_cVv (As := [_, _, _]) (cm_lead L _ C _ K hC hK tg _ htg h2.1 0 1 0 (by decide) (by decide) (by decide)) zc_X9_225 rfl dX9_driven_172 rfl rfl rfl rfl rfl rfl (fun σ3 h3 => ?_)
    have M3 : rm_M σ3 C (sp_mC C K tg m ib cb) K tg (17 + sp_len K + 2 + 1) := h3.1
    have D3 : rm_D σ σ3 := D1.tr (h2.2.D.tr h3.2.D)
    refine zr_aload_n dX9_driven_175 rfl ?_
    refine zt_cVv (As := []) (cm_work L σ3 C _ hC M3.2.2.2.1 M3.1 M3.2.2.1) zc_X9_160 rfl dX9_driven_176 rfl rfl rfl rfl rfl rfl (fun σ4 h4 => ?_)
    refine zr_iconst (v := 0) dX9_driven_179 kc_iconst_0 ?_
    refine zr_istore dX9_driven_180 (by decide) rfl ?_
    obtain ⟨f4, v4⟩ := h4
    have M4 : rm_M σ4 C (sp_mC C K tg m ib cb) K tg (17 + sp_len K + 2 + 1) := M3.kept (fun j _ _ => congrFun (f4 57 (by decide)) j) (fun k _ hk => f4 k (by omega))
    have D4 : rm_D σ σ4 := D3.tr (rm_D.of (fun k hk => f4 k (by omega)))
    refine zl_up (τ := gz_Mm) (C 9 3) (fun i s => (∀ k, k ≠ 76 → s k = σ4 k) ∧ ∀ j, j < i → s 76 j = nI (sp_val C (sp_mC C K tg m ib cb) (C 8 j))) (fun i s => gz_R 7 yX9_driven cX9_driven 5 none 0 0 182 [some (.ref 57), some (.int (nI t)), some (.int (nI (sp_all K).length)), some (.int (nI (sp_len K))), some (.int (nI i))] [] (gz_mk L s) Q) ?_ ?_ 0 σ4 (Nat.zero_le _) ⟨fun _ _ => rfl, fun j hj => absurd hj (Nat.not_lt_zero j)⟩
    rotate_left
    · rintro i σ5 hi ⟨f5, v5⟩ ih
      have ho := hC.2.2.2.1 i hi
      refine zr_iload dX9_driven_182 rfl ?_
      refine zr_aload_n dX9_driven_184 rfl ?_
      refine zt_geti zg_X9_131 dX9_driven_185 rfl rfl rfl ?_
      refine zr_top ((congrFun (f5 57 (by decide)) 13).trans M4.1.1.2.2.2.1) ?_
      refine zr_icmp_ge 216 dX9_driven_188 (by decide) (fun h => absurd h (nI_ge hi (by omega))) (fun hp188 => ?_)
      refine zr_aload_n dX9_driven_191 rfl ?_
      refine zt_getr zg_X9_72 dX9_driven_192 rfl rfl rfl ?_
      refine zr_iload dX9_driven_195 rfl ?_
      refine zr_aload_n dX9_driven_197 rfl ?_
      refine zt_getr zg_X9_66 dX9_driven_198 rfl rfl rfl ?_
      refine zr_aload_n dX9_driven_201 rfl ?_
      refine zt_getr zg_X9_38 dX9_driven_202 rfl rfl rfl ?_
      refine zr_iload dX9_driven_205 rfl ?_
      refine zt_ildN dX9_driven_207 rfl rfl (by omega) ((congrFun (f5 67 (by decide)) i).trans (M4.1.2.2.2.1 i hi)) ?_
      refine zt_ildN dX9_driven_208 rfl rfl (by omega) ((congrFun (f5 74 (by decide)) _).trans (v4 _ ho)) ?_
      refine zt_istN dX9_driven_209 rfl rfl rfl (by omega) ?_
      refine zr_iinc dX9_driven_210 rfl (kc_inc (i)) rfl ?_
      refine zr_goto 182 dX9_driven_213 (by decide) ?_
      refine ih _ ⟨fun k hk => (gz_wr_ne hk).trans (f5 k hk), fun j hj => ?_⟩
      rw [gz_wr_eq]
      by_cases e : j = i
      · rw [e]
        simp [upd]
      · rw [pk_un e]
        exact v5 j (by omega)
    rintro σ5 ⟨f5, v5⟩
    have e13 : σ5 57 13 = nI (C 9 3) := (congrFun (f5 57 (by decide)) 13).trans M4.1.1.2.2.2.1
    have M5 : rm_M (gz_wr σ5 57 33 (nI (C 9 3))) C (sp_mC C K tg m ib cb) K tg (17 + sp_len K + 2 + 1) := M4.kept (fun j h1 _ => by rw [gz_wr_eq, pk_un h1, f5 57 (by decide)]) (fun k h1 hk => (gz_wr_ne h1).trans (f5 k (by omega)))
    have D5 : rm_D σ (gz_wr σ5 57 33 (nI (C 9 3))) := D4.tr ((rm_D.of (fun k hk => f5 k (by omega))).tr (rm_D.w57 33 _ (by omega)))
    refine zr_iload dX9_driven_182 rfl ?_
    refine zr_aload_n dX9_driven_184 rfl ?_
    refine zt_geti zg_X9_131 dX9_driven_185 rfl rfl rfl ?_
    refine zr_top (e13) ?_
    refine zr_icmp_ge 216 dX9_driven_188 (by decide) (fun hp188 => ?_) (fun h => absurd (Int32.le_refl _) h)
    refine zr_aload_n dX9_driven_216 rfl ?_
    refine zr_aload_n dX9_driven_217 rfl ?_
    refine zt_geti zg_X9_131 dX9_driven_218 rfl rfl rfl ?_
    refine zr_top (e13) ?_
    refine zt_put zp_X9_232 dX9_driven_221 rfl rfl rfl rfl ?_
    refine zr_aload_n dX9_driven_224 rfl ?_
    refine zr_iconst (v := 0) dX9_driven_225 kc_iconst_0 ?_
    refine zr_iconst (v := 1) dX9_driven_226 kc_iconst_1 ?_
    refine zr_iconst (v := 0) dX9_driven_227 kc_iconst_0 ?_
    refine zt_cVv (As := [_, _, _]) (cm_lead L _ C _ K hC hK tg _ htg M5 0 1 0 (by decide) (by decide) (by decide)) zc_X9_225 rfl dX9_driven_228 rfl rfl rfl rfl rfl rfl (fun σ6 h6 => ?_)
    obtain ⟨x1, x2, x3, x4⟩ := h6.2.x
    have M6 : rm_M σ6 C (sp_mE C K tg m ib cb 0) K tg (21 + sp_len K + 0) := by
      have := h6.1
      rw [show 17 + sp_len K + 2 + 1 + 1 = 21 + sp_len K + 0 by omega] at this
      exact this
    have D6 := D5.tr h6.2.D
    rw [gz_wr_ne (by decide)] at x1
    rw [gz_wr_eq] at x3
    refine zr_iconst (v := 1) dX9_driven_231 kc_iconst_1 ?_
    refine zr_istore dX9_driven_232 (by decide) rfl ?_
    refine zl_up (τ := gz_Mm) (sp_len K) (fun i s => rm_M s C (sp_mE C K tg m ib cb i) K tg (21 + sp_len K + i) ∧ rm_D σ s ∧ s 76 = σ5 76 ∧ s 57 33 = nI (C 9 3) ∧ ∀ j, j < i → s 77 j = sp_ou C K tg m ib cb j) (fun i s => gz_R 7 yX9_driven cX9_driven 5 none 0 0 234 [some (.ref 57), some (.int (nI t)), some (.int (nI (sp_all K).length)), some (.int (nI (sp_len K))), some (.int (nI (i + 1)))] [] (gz_mk L s) Q) ?_ ?_ 0 σ6 (Nat.zero_le _) ⟨M6, D6, x1, x3.trans (by simp [upd]), fun j hj => absurd hj (Nat.not_lt_zero j)⟩
    rotate_left
    · rintro i σ7 hi ⟨M7, D7, y1, y2, y3⟩ ih
      have fin : ∀ la : Nat, la = sp_la (sp_len K) i → gz_R 7 yX9_driven cX9_driven 5 none 0 0 260 [some (.ref 57), some (.int (nI t)), some (.int (nI (sp_all K).length)), some (.int (nI (sp_len K))), some (.int (nI (i + 1)))] [.int (nI la), .ref 57, .int (nI i), .ref 77] (gz_mk L σ7) Q := by
        rintro la e1
        have l1 := sp_la_le (sp_len K) i
        refine zr_iconst (v := 0) dX9_driven_260 kc_iconst_0 ?_
        refine zt_cVi (As := [_, _]) (cm_ticked L σ7 C _ K hC M7.2.2.2.1 hK M7.1 M7.2.1 M7.2.2.1 tg la 0 M7.2.2.2.2.1 (by omega) (by decide)) zc_X9_216 rfl dX9_driven_261 rfl rfl rfl rfl rfl rfl (fun r8 σ8' h8' => ?_)
        obtain ⟨q1, q2, q3⟩ := h8'
        have e36 : σ8' 57 36 = nI (21 + sp_len K + i) := (q3.2 36 (by decide) (by decide) (by decide) (by decide) (by decide)).trans M7.2.2.2.2.2
        have M8' := (M7.ticked (sp_tk_wm M7.2.2.2.1 htg (show la ≤ 1 by omega) (show 0 ≤ 1 by decide)) q3 q2)
        have D8' := D7.tr (q3.E.D.tr (rm_D.w57 36 (nI (21 + sp_len K + i + 1)) (by omega)))
        refine zt_istN dX9_driven_264 rfl rfl rfl (by omega) ?_
        refine zr_aload_n dX9_driven_265 rfl ?_
        refine zr_dup dX9_driven_266 rfl ?_
        refine zt_geti zg_X9_219 dX9_driven_267 rfl rfl rfl ?_
        refine zr_top ((congrFun (gz_wr_ne (by decide)) 36).trans e36) ?_
        refine zr_iconst (v := 1) dX9_driven_270 kc_iconst_1 ?_
        refine zr_iadd dX9_driven_271 ?_
        refine zr_top (nI_1 _) ?_
        refine zt_put zp_X9_219 dX9_driven_272 rfl rfl rfl rfl ?_
        refine zr_iinc dX9_driven_275 rfl (kc_inc ((i + 1))) rfl ?_
        refine zr_goto 234 dX9_driven_278 (by decide) ?_
        have ex : gz_wr (gz_wr σ8' 77 i r8) 57 36 (nI (21 + sp_len K + i + 1)) = gz_wr (gz_wr σ8' 57 36 (nI (21 + sp_len K + i + 1))) 77 i r8 := by
          funext a
          unfold gz_wr
          by_cases a1 : a = 57
          · subst a1
            rfl
          · by_cases a2 : a = 77
            · subst a2
              rfl
            · rw [if_neg a1, if_neg a2, if_neg a2, if_neg a1]
        rw [ex]
        have M9 : rm_M (gz_wr (gz_wr σ8' 57 36 (nI (21 + sp_len K + i + 1))) 77 i r8) C (sp_mE C K tg m ib cb (i + 1)) K tg (21 + sp_len K + (i + 1)) := by
          rw [e1] at M8'
          exact M8'.kept (fun j _ _ => congrFun (gz_wr_ne (by decide)) j) (fun k _ hk => gz_wr_ne (by omega))
        refine ih _ ⟨M9, D8'.tr (rm_D.of (fun k hk => gz_wr_ne (by omega))), ?_, ?_, fun j hj => ?_⟩
        · rw [gz_wr_ne (by decide), gz_wr_ne (by decide), q3.1 76 (by decide) (by decide) (by decide) (by decide)]
          exact y1
        · rw [gz_wr_ne (by decide), gz_wr_eq, pk_un (by decide), q3.2 33 (by decide) (by decide) (by decide) (by decide) (by decide)]
          exact y2
        · rw [gz_wr_eq]
          by_cases e : j = i
          · rw [e]
            simp only [upd, if_true]
            rw [q1, e1]
            rfl
          · rw [pk_un e, gz_wr_ne (by decide), q3.1 77 (by decide) (by decide) (by decide) (by decide)]
            exact y3 j (by omega)
      by_cases he : i + 1 = sp_len K
      · refine zr_iload dX9_driven_234 rfl ?_
        refine zr_iload_n dX9_driven_236 rfl ?_
        refine zr_icmp_gt 281 dX9_driven_237 (by decide) (fun h => absurd h (nI_nlt (by omega) (by omega))) (fun hp237 => ?_)
        refine zr_aload_n dX9_driven_240 rfl ?_
        refine zt_getr zg_X9_75 dX9_driven_241 rfl rfl rfl ?_
        refine zr_iload dX9_driven_244 rfl ?_
        refine zr_iconst (v := 1) dX9_driven_246 kc_iconst_1 ?_
        refine zr_isub dX9_driven_247 ?_
        refine zr_top (nI_pred i) ?_
        refine zr_aload_n dX9_driven_248 rfl ?_
        refine zr_iload dX9_driven_249 rfl ?_
        refine zr_iload_n dX9_driven_251 rfl ?_
        refine zr_icmp_ne 259 dX9_driven_252 (by decide) (fun h => absurd (by rw [he]) h) (fun hp252 => ?_)
        refine zr_iconst (v := 1) dX9_driven_255 kc_iconst_1 ?_
        refine zr_goto 260 dX9_driven_256 (by decide) ?_
        exact fin 1 (by simp [sp_la, he])
      · refine zr_iload dX9_driven_234 rfl ?_
        refine zr_iload_n dX9_driven_236 rfl ?_
        refine zr_icmp_gt 281 dX9_driven_237 (by decide) (fun h => absurd h (nI_nlt (by omega) (by omega))) (fun hp237 => ?_)
        refine zr_aload_n dX9_driven_240 rfl ?_
        refine zt_getr zg_X9_75 dX9_driven_241 rfl rfl rfl ?_
        refine zr_iload dX9_driven_244 rfl ?_
        refine zr_iconst (v := 1) dX9_driven_246 kc_iconst_1 ?_
        refine zr_isub dX9_driven_247 ?_
        refine zr_top (nI_pred i) ?_
        refine zr_aload_n dX9_driven_248 rfl ?_
        refine zr_iload dX9_driven_249 rfl ?_
        refine zr_iload_n dX9_driven_251 rfl ?_
        refine zr_icmp_ne 259 dX9_driven_252 (by decide) (fun hp252 => ?_) (fun h => absurd ((nI_eq (by omega) (by omega)).mp h) he)
        refine zr_iconst (v := 0) dX9_driven_259 kc_iconst_0 ?_
        exact fin 0 (by simp [sp_la, he])
    rintro σ7 ⟨M7, D7, y1, y2, y3⟩
    have M8 : rm_M (gz_wr σ7 57 35 (nI (sp_len K))) C (sp_mE C K tg m ib cb (sp_len K)) K tg (21 + sp_len K + sp_len K) := M7.kept (fun j _ h2 => by rw [gz_wr_eq, pk_un h2]) (fun k h1 hk => gz_wr_ne h1)
    refine zr_iload dX9_driven_234 rfl ?_
    refine zr_iload_n dX9_driven_236 rfl ?_
    refine zr_icmp_gt 281 dX9_driven_237 (by decide) (fun hp237 => ?_) (fun h => absurd (nI_lt (Nat.lt_succ_self _) (by omega)) h)
    refine zr_aload_n dX9_driven_281 rfl ?_
    refine zr_iload_n dX9_driven_282 rfl ?_
    refine zt_put zp_X9_235 dX9_driven_283 rfl rfl rfl rfl ?_
    refine zr_aload_n dX9_driven_286 rfl ?_
    refine zr_iconst (v := 1) dX9_driven_287 kc_iconst_1 ?_
    refine zr_iconst (v := 1) dX9_driven_288 kc_iconst_1 ?_
    refine zr_iconst (v := 0) dX9_driven_289 kc_iconst_0 ?_
    refine zt_cVv (As := [_, _, _]) (cm_lead L _ C _ K hC hK tg _ htg M8 1 1 0 (by decide) (by decide) (by decide)) zc_X9_225 rfl dX9_driven_290 rfl rfl rfl rfl rfl rfl (fun σ9 h9 => ?_)
    refine zr_aload_n dX9_driven_293 rfl ?_
    refine zr_iconst (v := 0) dX9_driven_294 kc_iconst_0 ?_
    refine zr_iconst (v := 1) dX9_driven_295 kc_iconst_1 ?_
    refine zr_iconst (v := 0) dX9_driven_296 kc_iconst_0 ?_
    refine zt_cVv (As := [_, _, _]) (cm_lead L _ C _ K hC hK tg _ htg h9.1 0 1 0 (by decide) (by decide) (by decide)) zc_X9_225 rfl dX9_driven_297 rfl rfl rfl rfl rfl rfl (fun σ10 h10 => ?_)
    obtain ⟨z1, z2, z3, z4⟩ := (h9.2.tr h10.2).x
    refine zr_vret dX9_driven_300 rfl (hQ _ ⟨?_, D7.tr ((rm_D.w57 35 _ (by omega)).tr (h9.2.D.tr h10.2.D)), ?_, ?_, fun i hi => ?_, fun i hi => ?_⟩)
    · have := h10.1
      rw [show 21 + sp_len K + sp_len K + 1 + 1 = 23 + 2 * sp_len K by omega] at this
      exact this
    · rw [z3, gz_wr_eq, pk_un (by decide)]
      exact y2
    · rw [z4, gz_wr_eq]
      simp [upd]
    · rw [z1, gz_wr_ne (by decide), y1]
      exact v5 i hi
    · rw [z2, gz_wr_ne (by decide)]
      exact y3 i hi
  by_cases hz : (sp_all K).length = 0
  · have el : sp_len K = 1 := by simp [sp_len, hz]
    refine zr_aload_n dX9_driven_93 rfl ?_
    refine zt_callVi (As := []) (cm_chained L σ8 C K M8.2.1) zc_X9_137 rfl dX9_driven_94 rfl rfl rfl rfl rfl rfl ?_
    refine zr_istore_n dX9_driven_97 (by decide) rfl ?_
    refine zr_iload_n dX9_driven_98 rfl ?_
    refine zr_if_ne 106 dX9_driven_99 (by decide) (fun h => absurd (by rw [hz]; rfl) h) (fun hp99 => ?_)
    refine zr_iconst (v := 1) dX9_driven_102 kc_iconst_1 ?_
    refine zr_goto 107 dX9_driven_103 (by decide) ?_
    refine zr_istore_n dX9_driven_107 (by decide) rfl ?_
    refine zr_iconst (v := 1) dX9_driven_108 kc_iconst_1 ?_
    refine zr_istore dX9_driven_109 (by decide) rfl ?_
    rw [el] at part2
    exact part2
  · have el : sp_len K = (sp_all K).length := by simp [sp_len, hz]
    refine zr_aload_n dX9_driven_93 rfl ?_
    refine zt_callVi (As := []) (cm_chained L σ8 C K M8.2.1) zc_X9_137 rfl dX9_driven_94 rfl rfl rfl rfl rfl rfl ?_
    refine zr_istore_n dX9_driven_97 (by decide) rfl ?_
    refine zr_iload_n dX9_driven_98 rfl ?_
    refine zr_if_ne 106 dX9_driven_99 (by decide) (fun hp99 => ?_) (fun h => absurd ((nI_eq (b := 0) (by omega) (by omega)).mp h) hz)
    refine zr_iload_n dX9_driven_106 rfl ?_
    refine zr_istore_n dX9_driven_107 (by decide) rfl ?_
    refine zr_iconst (v := 1) dX9_driven_108 kc_iconst_1 ?_
    refine zr_istore dX9_driven_109 (by decide) rfl ?_
    rw [el] at part2
    exact part2
