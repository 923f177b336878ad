/-! ===== the reference: same ===== -/
theorem sp_not_1 {a : Nat} (h : a ≤ 1) : sp_not a ≤ 1 := by unfold sp_not; split <;> omega
theorem sp_and_1 {a b : Nat} (ha : a ≤ 1) (hb : b ≤ 1) : sp_and a b ≤ 1 := by
  unfold sp_and
  split
  · omega
  · split <;> omega
theorem sp_gate_1 {op a b c : Nat} (ha : a ≤ 1) (hb : b ≤ 1) (hc : c ≤ 1) : sp_gate op a b c ≤ 1 := by
  unfold sp_gate
  have h1 := sp_and_1 ha hb
  have h2 := sp_and_1 (sp_not_1 ha) (sp_not_1 hb)
  have h3 := sp_not_1 h1
  have h4 := sp_not_1 h2
  have h5 := sp_not_1 ha
  repeat' split
  all_goals omega
theorem sp_mq_1 {C : sp_T} (hC : sp_wf C) (b : Nat) : ∀ l, l < C 9 0 → sp_val C (sp_mq C b) l ≤ 1 := by
  intro l
  induction l using Nat.strongRecOn with
  | ind l ih =>
    intro hl
    rw [sp_val_eq hC hl]
    unfold sp_one
    have m2 : ∀ n, n % 2 ≤ 1 := fun n => by omega
    rw [if_neg (by simp [sp_mq])]
    rcases hC.2.1 l hl with ⟨g1, g2⟩ | ⟨g1, g2⟩ | ⟨g1, g2, g3, g4, g5⟩
    · rw [if_pos g1]
      simp only [sp_mq, if_true]
      exact m2 _
    · rw [if_neg (by omega), if_pos g1]
      simp only [sp_mq, if_true, show ¬ (1 : Nat) = 0 by decide, if_false]
      exact m2 _
    · rw [if_neg (by omega), if_neg (by omega)]
      exact sp_gate_1 (ih _ g3 (by omega)) (ih _ g4 (by omega)) (ih _ g5 (by omega))
def sp_mr (C m : sp_T) (b : Nat) : sp_T := fun a i => if a = 0 then (if i < C 9 1 then b / 2 ^ i % 2 else m 0 i) else if a = 1 then b / 2 ^ (C 9 1) / 2 ^ i % 2 else if a = 2 ∧ i = 0 then 0 else m a i
theorem sp_mr_wm {C m : sp_T} (hm : sp_wm m) (b : Nat) : sp_wm (sp_mr C m b) := by
  obtain ⟨a1, a2, a3, a4, a5, a6, a7, a8, a9⟩ := hm
  have m2 : ∀ n, n % 2 ≤ 2 := fun n => by omega
  refine ⟨fun i => ?_, fun c => ?_, by simp [sp_mr], fun q => absurd (by simp [sp_mr]) q, by simpa [sp_mr] using a5, by simpa [sp_mr] using a6, by simpa [sp_mr] using a7, by simpa [sp_mr] using a8, by simpa [sp_mr] using a9⟩
  · simp only [sp_mr, if_true]
    split
    · exact m2 _
    · exact a1 i
  · simp only [sp_mr, show ¬ (1 : Nat) = 0 by decide, if_false, if_true]
    exact m2 _
theorem sp_mr_E (C m : sp_T) (b : Nat) : sp_E C (sp_mr C m b) (sp_mq C b) := by
  refine ⟨fun i hi => ?_, fun c hc => ?_, ?_, fun q => absurd (by simp [sp_mr]) q⟩
  · simp [sp_mr, sp_mq, hi]
  · simp [sp_mr, sp_mq]
  · simp [sp_mr, sp_mq]
theorem ax_same (L : Nat) (σ : gz_Mm) (S : ap_S) (hw : ap_wf S) (hX : am_X σ S) (l n : Int32) : gz_Gi 3 yX9_same cX9_same 7 (some .int) L [.ref 57, .int l, .int n] σ (am_P σ (fa_same l n S)) := by
  have hw0 := hw
  obtain ⟨C, K, m, tg, tk, no, nu, fO, fU⟩ := S
  obtain ⟨hC, hK, hm, htg, hno, hnu, hz0, hz2⟩ := hw
  have hX0 := hX
  obtain ⟨⟨rC, rK, rM⟩, ⟨r5, r7⟩, s1, s2, s3, s4⟩ := hX
  obtain ⟨h80, h8, h20, ho8, ht20⟩ := hC.1
  have c0 := rC.1.1
  have c1 := rC.1.2.1
  have c2 := rC.1.2.2.1
  have c3 := rC.1.2.2.2.1
  have c4 := rC.1.2.2.2.2
  refine gz_Gi.of rfl rfl (fun Q hQ => ?_)
  cases h1 : ap_v l (C 9 0) with
  | false =>
    rw [show fa_same l n (C, K, m, tg, tk, no, nu, fO, fU) = (-1001, (C, K, m, tg, tk, no, nu, fO, fU)) by simp [fa_same, h1]] at hQ
    refine zr_aload_n dX9_same_0 rfl ?_
    refine zr_iload_n dX9_same_1 rfl ?_
    refine zt_callVi (As := [_]) (cm_isLine L σ l _ (by omega) c0) zc_X9_122 rfl dX9_same_2 rfl rfl rfl rfl rfl rfl ?_
    refine zr_top (congrArg sp_b h1) ?_
    refine zr_if_eq 16 dX9_same_5 (by decide) (fun hp5 => ?_) (fun h => absurd rfl h)
    refine zr_sipush (v := (-1001)) dX9_same_16 kc_sipush_m1001 ?_
    exact zr_iret dX9_same_19 rfl (hQ _ _ ⟨rfl, hX0, fun _ _ => rfl⟩)
  | true =>
    cases h2 : ap_v n (C 9 0) with
    | false =>
      rw [show fa_same l n (C, K, m, tg, tk, no, nu, fO, fU) = (-1001, (C, K, m, tg, tk, no, nu, fO, fU)) by simp [fa_same, h2]] at hQ
      refine zr_aload_n dX9_same_0 rfl ?_
      refine zr_iload_n dX9_same_1 rfl ?_
      refine zt_callVi (As := [_]) (cm_isLine L σ l _ (by omega) c0) zc_X9_122 rfl dX9_same_2 rfl rfl rfl rfl rfl rfl ?_
      refine zr_top (congrArg sp_b h1) ?_
      refine zr_if_eq 16 dX9_same_5 (by decide) (fun h => absurd h (by decide)) (fun hp5 => ?_)
      refine zr_aload_n dX9_same_8 rfl ?_
      refine zr_iload_n dX9_same_9 rfl ?_
      refine zt_callVi (As := [_]) (cm_isLine L σ n _ (by omega) c0) zc_X9_122 rfl dX9_same_10 rfl rfl rfl rfl rfl rfl ?_
      refine zr_top (congrArg sp_b h2) ?_
      refine zr_if_ne 20 dX9_same_13 (by decide) (fun h => absurd rfl h) (fun hp13 => ?_)
      refine zr_sipush (v := (-1001)) dX9_same_16 kc_sipush_m1001 ?_
      exact zr_iret dX9_same_19 rfl (hQ _ _ ⟨rfl, hX0, fun _ _ => rfl⟩)
    | true =>
      by_cases h10 : 10 < C 9 1 + C 9 2
      · rw [show fa_same l n (C, K, m, tg, tk, no, nu, fO, fU) = (-1003, (C, K, m, tg, tk, no, nu, fO, fU)) by simp [fa_same, h1, h2, h10]] at hQ
        refine zr_aload_n dX9_same_0 rfl ?_
        refine zr_iload_n dX9_same_1 rfl ?_
        refine zt_callVi (As := [_]) (cm_isLine L σ l _ (by omega) c0) zc_X9_122 rfl dX9_same_2 rfl rfl rfl rfl rfl rfl ?_
        refine zr_top (congrArg sp_b h1) ?_
        refine zr_if_eq 16 dX9_same_5 (by decide) (fun h => absurd h (by decide)) (fun hp5 => ?_)
        refine zr_aload_n dX9_same_8 rfl ?_
        refine zr_iload_n dX9_same_9 rfl ?_
        refine zt_callVi (As := [_]) (cm_isLine L σ n _ (by omega) c0) zc_X9_122 rfl dX9_same_10 rfl rfl rfl rfl rfl rfl ?_
        refine zr_top (congrArg sp_b h2) ?_
        refine zr_if_ne 20 dX9_same_13 (by decide) (fun hp13 => ?_) (fun h => absurd h (by decide))
        refine zr_aload_n dX9_same_20 rfl ?_
        refine zt_geti zg_X9_109 dX9_same_21 rfl rfl rfl ?_
        refine zr_top (c1) ?_
        refine zr_aload_n dX9_same_24 rfl ?_
        refine zt_geti zg_X9_106 dX9_same_25 rfl rfl rfl ?_
        refine zr_top (c2) ?_
        refine zr_iadd dX9_same_28 ?_
        refine zr_top (nI_add _ _) ?_
        refine zr_istore_n dX9_same_29 (by decide) rfl ?_
        refine zr_iload_n dX9_same_30 rfl ?_
        refine zr_bipush (v := 10) dX9_same_31 kc_bipush_10 ?_
        refine zr_icmp_le 40 dX9_same_33 (by decide) (fun h => absurd h (nI_ge (a := 10) h10 (by omega))) (fun hp33 => ?_)
        refine zr_sipush (v := (-1003)) dX9_same_36 kc_sipush_m1003 ?_
        exact zr_iret dX9_same_39 rfl (hQ _ _ ⟨rfl, hX0, fun _ _ => rfl⟩)
      obtain ⟨x, hx, rfl, ex⟩ := ap_v_t h1 (by omega)
      obtain ⟨z, hz, rfl, ez⟩ := ap_v_t h2 (by omega)
      rw [show fa_same (nI x) (nI z) (C, K, m, tg, tk, no, nu, fO, fU) = (nI (sp_sm C x z (2 ^ (C 9 1 + C 9 2))), (C, K, m, tg, tk, no, nu, fO, fU)) by simp [fa_same, h1, h2, h10, ex, ez]] at hQ
      have hpow : 2 ^ (C 9 1 + C 9 2) ≤ 2 ^ 10 := Nat.pow_le_pow_right (by decide) (by omega)
      refine zr_aload_n dX9_same_0 rfl ?_
      refine zr_iload_n dX9_same_1 rfl ?_
      refine zt_callVi (As := [_]) (cm_isLine L σ _ _ (by omega) c0) zc_X9_122 rfl dX9_same_2 rfl rfl rfl rfl rfl rfl ?_
      refine zr_top (congrArg sp_b h1) ?_
      refine zr_if_eq 16 dX9_same_5 (by decide) (fun h => absurd h (by decide)) (fun hp5 => ?_)
      refine zr_aload_n dX9_same_8 rfl ?_
      refine zr_iload_n dX9_same_9 rfl ?_
      refine zt_callVi (As := [_]) (cm_isLine L σ _ _ (by omega) c0) zc_X9_122 rfl dX9_same_10 rfl rfl rfl rfl rfl rfl ?_
      refine zr_top (congrArg sp_b h2) ?_
      refine zr_if_ne 20 dX9_same_13 (by decide) (fun hp13 => ?_) (fun h => absurd h (by decide))
      refine zr_aload_n dX9_same_20 rfl ?_
      refine zt_geti zg_X9_109 dX9_same_21 rfl rfl rfl ?_
      refine zr_top (c1) ?_
      refine zr_aload_n dX9_same_24 rfl ?_
      refine zt_geti zg_X9_106 dX9_same_25 rfl rfl rfl ?_
      refine zr_top (c2) ?_
      refine zr_iadd dX9_same_28 ?_
      refine zr_top (nI_add _ _) ?_
      refine zr_istore_n dX9_same_29 (by decide) rfl ?_
      refine zr_iload_n dX9_same_30 rfl ?_
      refine zr_bipush (v := 10) dX9_same_31 kc_bipush_10 ?_
      refine zr_icmp_le 40 dX9_same_33 (by decide) (fun hp33 => ?_) (fun h => absurd (nI_le (b := 10) (by omega) (by omega)) h)
      refine zr_aload_n dX9_same_40 rfl ?_
      refine zt_cVv (As := []) (am_keep L σ C m K _ hw0 hX0) zc_X9_254 rfl dX9_same_41 rfl rfl rfl rfl rfl rfl (fun σ1 k1 => ?_)
      obtain ⟨Y1, B1, rM1, f1⟩ := k1
      refine zr_aload_n dX9_same_44 rfl ?_
      refine zr_iconst (v := (-1)) dX9_same_45 kc_iconst_m1 ?_
      refine zt_put zp_X9_59 dX9_same_46 rfl rfl rfl rfl ?_
      refine zr_iconst (v := 0) dX9_same_49 kc_iconst_0 ?_
      refine zr_istore dX9_same_50 (by decide) rfl ?_
      refine zr_iconst (v := 0) dX9_same_52 kc_iconst_0 ?_
      refine zr_istore dX9_same_53 (by decide) rfl ?_
      generalize hs2 : gz_wr σ1 57 21 (-1) = σ2
      -- what stays while the combinations are tried
      let J : gz_Mm → Prop := fun s => (∀ k, k ≠ 72 → k ≠ 73 → k ≠ 74 → s k = σ2 k) ∧ ∀ i, C 9 1 ≤ i → i < 8 → s 72 i = nI (m 0 i)
      have g2 : ∀ k, k ≠ 57 → σ2 k = σ1 k := fun k hk => by rw [← hs2]; exact gz_wr_ne hk
      have g57 : ∀ j, j ≠ 21 → σ2 57 j = σ1 57 j := fun j hj => by rw [← hs2, gz_wr_eq, pk_un hj]
      have g21 : σ2 57 21 = -1 := by rw [← hs2, gz_wr_eq]; exact if_pos rfl
      have J0 : J σ2 := ⟨fun _ _ _ _ => rfl, fun i _ hi => by rw [g2 72 (by decide)]; exact rM1.1 i hi⟩
      have JY : ∀ s, J s → am_Y s (C, K, m, tg, tk, no, nu, fO, fU) := fun s h => by
        refine Y1.of (fun k a b => (h.1 k (by omega) (by omega) (by omega)).trans (g2 k a)) (fun j hj => (congrFun (h.1 57 (by decide) (by decide) (by decide)) j).trans ?_)
        by_cases e : j = 21
        · omega
        · exact g57 j e
      have Jf : ∀ s, J s → ∀ k, k < 57 → s k = σ k := fun s h k hk => (h.1 k (by omega) (by omega) (by omega)).trans ((g2 k (by omega)).trans (f1 k hk))
      have q1 : ∀ s, J s → s 57 5 = nI (C 9 1) := fun s h => (JY s h).1.1.1.2.1
      have q2 : ∀ s, J s → s 57 11 = nI (C 9 2) := fun s h => (JY s h).1.1.1.2.2.1
      refine zl_up (τ := gz_Mm × Option Value) (2 ^ (C 9 1 + C 9 2)) (fun i s => J s.1) (fun i s => gz_R 3 yX9_same cX9_same 7 (some .int) 0 0 55 [some (.ref 57), some (.int (nI x)), some (.int (nI z)), some (.int (nI (C 9 1 + C 9 2))), some (.int (nI (sp_sm C x z i))), some (.int (nI i)), s.2] [] (gz_mk L s.1) Q) ?_ ?_ 0 (σ2, none) (Nat.zero_le _) J0
      · rintro ⟨s, o⟩ hJ
        refine zr_iload dX9_same_55 rfl ?_
        refine zr_iconst (v := 1) dX9_same_57 kc_iconst_1 ?_
        refine zr_iload_n dX9_same_58 rfl ?_
        refine zr_ishl dX9_same_59 ?_
        refine zr_top (nI_shl (by omega)) ?_
        refine zr_icmp_ge 177 dX9_same_60 (by decide) (fun hp60 => ?_) (fun h => absurd (Int32.le_refl _) h)
        refine zr_aload_n dX9_same_177 rfl ?_
        refine zt_cVv (As := []) (am_back L s _ hw0 (JY s hJ)) zc_X9_264 rfl dX9_same_178 rfl rfl rfl rfl rfl rfl (fun σ4 k4 => ?_)
        refine zr_iload dX9_same_181 rfl ?_
        exact zr_iret dX9_same_183 rfl (hQ _ _ ⟨rfl, k4.1, fun k hk => (k4.2 k hk).trans (Jf s hJ k hk)⟩)
      · rintro b ⟨s, o⟩ hb hJ ih
        refine zr_iload dX9_same_55 rfl ?_
        refine zr_iconst (v := 1) dX9_same_57 kc_iconst_1 ?_
        refine zr_iload_n dX9_same_58 rfl ?_
        refine zr_ishl dX9_same_59 ?_
        refine zr_top (nI_shl (by omega)) ?_
        refine zr_icmp_ge 177 dX9_same_60 (by decide) (fun h => absurd h (nI_ge hb (by omega))) (fun hp60 => ?_)
        refine zr_iconst (v := 0) dX9_same_63 kc_iconst_0 ?_
        refine zr_istore dX9_same_64 (by decide) rfl ?_
        refine zl_up (τ := gz_Mm) (C 9 1) (fun i q => J q ∧ ∀ j, j < i → q 72 j = nI (b / 2 ^ j % 2)) (fun i q => gz_R 3 yX9_same cX9_same 7 (some .int) 0 0 66 [some (.ref 57), some (.int (nI x)), some (.int (nI z)), some (.int (nI (C 9 1 + C 9 2))), some (.int (nI (sp_sm C x z b))), some (.int (nI b)), some (.int (nI i))] [] (gz_mk L q) Q) ?_ ?_ 0 s (Nat.zero_le _) ⟨hJ, fun j hj => absurd hj (Nat.not_lt_zero j)⟩
        rotate_left
        · rintro i q hi ⟨Jq, v1⟩ ih2
          refine zr_iload dX9_same_66 rfl ?_
          refine zr_aload_n dX9_same_68 rfl ?_
          refine zt_geti zg_X9_109 dX9_same_69 rfl rfl rfl ?_
          refine zr_top (q1 q Jq) ?_
          refine zr_icmp_ge 95 dX9_same_72 (by decide) (fun h => absurd h (nI_ge hi (by omega))) (fun hp72 => ?_)
          refine zr_aload_n dX9_same_75 rfl ?_
          refine zt_getr zg_X9_53 dX9_same_76 rfl rfl rfl ?_
          refine zr_iload dX9_same_79 rfl ?_
          refine zr_iload dX9_same_81 rfl ?_
          refine zr_iload dX9_same_83 rfl ?_
          refine zr_ishr dX9_same_85 ?_
          refine zr_iconst (v := 1) dX9_same_86 kc_iconst_1 ?_
          refine zr_iand dX9_same_87 ?_
          refine zr_top (bt_bit (by omega) (by omega)) ?_
          refine zt_istN dX9_same_88 rfl rfl rfl (by omega) ?_
          refine zr_iinc dX9_same_89 rfl (kc_inc (i)) rfl ?_
          refine zr_goto 66 dX9_same_92 (by decide) ?_
          refine ih2 _ ⟨⟨fun k a b c => (gz_wr_ne a).trans (Jq.1 k a b c), fun j hj1 hj2 => ?_⟩, fun j hj => ?_⟩
          · rw [gz_wr_eq, pk_un (by omega)]
            exact Jq.2 j hj1 hj2
          · rw [gz_wr_eq]
            by_cases e : j = i
            · rw [e]
              simp [upd]
            · rw [pk_un e]
              exact v1 j (by omega)
        rintro s3 ⟨J3, v1⟩
        refine zr_iload dX9_same_66 rfl ?_
        refine zr_aload_n dX9_same_68 rfl ?_
        refine zt_geti zg_X9_109 dX9_same_69 rfl rfl rfl ?_
        refine zr_top (q1 s3 J3) ?_
        refine zr_icmp_ge 95 dX9_same_72 (by decide) (fun hp72 => ?_) (fun h => absurd (Int32.le_refl _) h)
        refine zr_iconst (v := 0) dX9_same_95 kc_iconst_0 ?_
        refine zr_istore dX9_same_96 (by decide) rfl ?_
        refine zl_up (τ := gz_Mm) (C 9 2) (fun i q => J q ∧ q 72 = s3 72 ∧ ∀ j, j < i → q 73 j = nI (b / 2 ^ (C 9 1) / 2 ^ j % 2)) (fun i q => gz_R 3 yX9_same cX9_same 7 (some .int) 0 0 98 [some (.ref 57), some (.int (nI x)), some (.int (nI z)), some (.int (nI (C 9 1 + C 9 2))), some (.int (nI (sp_sm C x z b))), some (.int (nI b)), some (.int (nI i))] [] (gz_mk L q) Q) ?_ ?_ 0 s3 (Nat.zero_le _) ⟨J3, rfl, fun j hj => absurd hj (Nat.not_lt_zero j)⟩
        rotate_left
        · rintro i q hi ⟨Jq, e72, v2⟩ ih2
          have eb : b / 2 ^ (C 9 1 + i) % 2 = b / 2 ^ (C 9 1) / 2 ^ i % 2 := by rw [Nat.pow_add, Nat.div_div_eq_div_mul]
          refine zr_iload dX9_same_98 rfl ?_
          refine zr_aload_n dX9_same_100 rfl ?_
          refine zt_geti zg_X9_106 dX9_same_101 rfl rfl rfl ?_
          refine zr_top (q2 q Jq) ?_
          refine zr_icmp_ge 132 dX9_same_104 (by decide) (fun h => absurd h (nI_ge hi (by omega))) (fun hp104 => ?_)
          refine zr_aload_n dX9_same_107 rfl ?_
          refine zt_getr zg_X9_56 dX9_same_108 rfl rfl rfl ?_
          refine zr_iload dX9_same_111 rfl ?_
          refine zr_iload dX9_same_113 rfl ?_
          refine zr_aload_n dX9_same_115 rfl ?_
          refine zt_geti zg_X9_109 dX9_same_116 rfl rfl rfl ?_
          refine zr_top (q1 q Jq) ?_
          refine zr_iload dX9_same_119 rfl ?_
          refine zr_iadd dX9_same_121 ?_
          refine zr_top (nI_add _ _) ?_
          refine zr_ishr dX9_same_122 ?_
          refine zr_iconst (v := 1) dX9_same_123 kc_iconst_1 ?_
          refine zr_iand dX9_same_124 ?_
          refine zr_top (bt_bit (by omega) (by omega)) ?_
          refine zt_istN dX9_same_125 rfl rfl rfl (by omega) ?_
          refine zr_iinc dX9_same_126 rfl (kc_inc (i)) rfl ?_
          refine zr_goto 98 dX9_same_129 (by decide) ?_
          refine ih2 _ ⟨⟨fun k a b c => (gz_wr_ne b).trans (Jq.1 k a b c), fun j hj1 hj2 => ?_⟩, (gz_wr_ne (by decide)).trans e72, fun j hj => ?_⟩
          · rw [gz_wr_ne (by decide)]
            exact Jq.2 j hj1 hj2
          · rw [gz_wr_eq]
            by_cases e : j = i
            · rw [e, ← eb]
              simp [upd]
            · rw [pk_un e]
              exact v2 j (by omega)
        rintro s4 ⟨J4, e72, v2⟩
        have rM4 : rm_m s4 C (sp_mr C m b) := by
          have f57 : ∀ j, s4 57 j = σ2 57 j := fun j => congrFun (J4.1 57 (by decide) (by decide) (by decide)) j
          obtain ⟨a1, a2, a3, a4, a5, a6, a7, a8, a9⟩ := rM1
          refine ⟨fun i hi => ?_, fun c hc => ?_, ?_, fun q => absurd (by simp [sp_mr]) q, ?_, ?_, ?_, ?_, ?_⟩
          · by_cases e : i < C 9 1
            · rw [e72, v1 i e]
              simp [sp_mr, e]
            · rw [J4.2 i (by omega) hi]
              simp [sp_mr, e]
          · rw [v2 c hc]
            simp [sp_mr]
          · rw [f57, g21]
            simp [sp_mr]
            rfl
          · rw [f57, g57 23 (by decide), a5]
            simp [sp_mr]
          · rw [f57, g57 24 (by decide), a6]
            simp [sp_mr]
          · rw [f57, g57 25 (by decide), a7]
            simp [sp_mr]
          · rw [f57, g57 26 (by decide), a8]
            simp [sp_mr]
          · rw [f57, g57 28 (by decide), a9]
            simp [sp_mr]
        refine zr_iload dX9_same_98 rfl ?_
        refine zr_aload_n dX9_same_100 rfl ?_
        refine zt_geti zg_X9_106 dX9_same_101 rfl rfl rfl ?_
        refine zr_top (q2 s4 J4) ?_
        refine zr_icmp_ge 132 dX9_same_104 (by decide) (fun hp104 => ?_) (fun h => absurd (Int32.le_refl _) h)
        refine zr_aload_n dX9_same_132 rfl ?_
        refine zt_cVv (As := []) (cm_work L s4 C (sp_mr C m b) hC (sp_mr_wm hm b) (JY s4 J4).1.1 rM4) zc_X9_160 rfl dX9_same_133 rfl rfl rfl rfl rfl rfl (fun s5 k5 => ?_)
        obtain ⟨f5, v5⟩ := k5
        have J5 : J s5 := ⟨fun k a b c => (f5 k c).trans (J4.1 k a b c), fun i h1 h2 => by rw [f5 72 (by decide)]; exact J4.2 i h1 h2⟩
        have vx := v5 x hx
        have vz := v5 z hz
        rw [(sp_mr_E C m b).val hC hx] at vx
        rw [(sp_mr_E C m b).val hC hz] at vz
        have lx := sp_mq_1 hC b x hx
        have lz := sp_mq_1 hC b z hz
        have es : sp_sm C x z (b + 1) = sp_sm C x z b + (if sp_val C (sp_mq C b) x = sp_val C (sp_mq C b) z then 1 else 0) := rfl
        have ih' := ih (s5, some (.int (nI (C 9 2)))) J5
        by_cases e : sp_val C (sp_mq C b) x = sp_val C (sp_mq C b) z
        · rw [es, if_pos e] at ih'
          refine zr_iload dX9_same_136 rfl ?_
          refine zr_aload_n dX9_same_138 rfl ?_
          refine zt_getr zg_X9_66 dX9_same_139 rfl rfl rfl ?_
          refine zr_iload_n dX9_same_142 rfl ?_
          refine zt_ildN dX9_same_143 rfl rfl (by omega) (vx) ?_
          refine zr_aload_n dX9_same_144 rfl ?_
          refine zt_getr zg_X9_66 dX9_same_145 rfl rfl rfl ?_
          refine zr_iload_n dX9_same_148 rfl ?_
          refine zt_ildN dX9_same_149 rfl rfl (by omega) (vz) ?_
          refine zr_icmp_ne 167 dX9_same_150 (by decide) (fun h => absurd (by rw [e]) h) (fun hp150 => ?_)
          refine zr_aload_n dX9_same_153 rfl ?_
          refine zt_getr zg_X9_66 dX9_same_154 rfl rfl rfl ?_
          refine zr_iload_n dX9_same_157 rfl ?_
          refine zt_ildN dX9_same_158 rfl rfl (by omega) (vx) ?_
          refine zr_iconst (v := 2) dX9_same_159 kc_iconst_2 ?_
          refine zr_icmp_eq 167 dX9_same_160 (by decide) (fun h => absurd ((nI_eq (b := 2) (by omega) (by omega)).mp h) (by omega)) (fun hp160 => ?_)
          refine zr_iconst (v := 1) dX9_same_163 kc_iconst_1 ?_
          refine zr_goto 168 dX9_same_164 (by decide) ?_
          refine zr_iadd dX9_same_168 ?_
          refine zr_top (nI_1 _) ?_
          refine zr_istore dX9_same_169 (by decide) rfl ?_
          refine zr_iinc dX9_same_171 rfl (kc_inc (b)) rfl ?_
          refine zr_goto 55 dX9_same_174 (by decide) ?_
          exact ih'
        · rw [es, if_neg e] at ih'
          refine zr_iload dX9_same_136 rfl ?_
          refine zr_aload_n dX9_same_138 rfl ?_
          refine zt_getr zg_X9_66 dX9_same_139 rfl rfl rfl ?_
          refine zr_iload_n dX9_same_142 rfl ?_
          refine zt_ildN dX9_same_143 rfl rfl (by omega) (vx) ?_
          refine zr_aload_n dX9_same_144 rfl ?_
          refine zt_getr zg_X9_66 dX9_same_145 rfl rfl rfl ?_
          refine zr_iload_n dX9_same_148 rfl ?_
          refine zt_ildN dX9_same_149 rfl rfl (by omega) (vz) ?_
          refine zr_icmp_ne 167 dX9_same_150 (by decide) (fun hp150 => ?_) (fun h => absurd ((nI_eq (by omega) (by omega)).mp h) e)
          refine zr_iconst (v := 0) dX9_same_167 kc_iconst_0 ?_
          refine zr_iadd dX9_same_168 ?_
          refine zr_top (Int32.add_zero _) ?_
          refine zr_istore dX9_same_169 (by decide) rfl ?_
          refine zr_iinc dX9_same_171 rfl (kc_inc (b)) rfl ?_
          refine zr_goto 55 dX9_same_174 (by decide) ?_
          exact ih'
