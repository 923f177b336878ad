/-! ===== the reference: gate, cell, source, output ===== -/
theorem rm_C.addg {σ : gz_Mm} {C : sp_T} (rC : rm_C σ C) (n x1 x2 x3 j : Nat) (hn : C 9 0 = n) :
    rm_C (gz_wr (gz_wr (gz_wr (gz_wr (gz_wr (gz_wr σ 60 (3 * n) (nI x1)) 60 (3 * n + 1) (nI x2)) 60 (3 * n + 2) (nI x3)) 58 n 1) 59 n (nI j)) 57 3 (nI (n + 1))) (sp_w (sp_w (sp_w (sp_w (sp_w (sp_w C 0 n 1) 1 n j) 2 n x1) 3 n x2) 4 n x3) 9 0 (n + 1)) := by
  obtain ⟨⟨p1, p2, p3, p4, p5⟩, q1, q2, q3, q4⟩ := rC
  refine ⟨⟨by simp [gz_wr, upd, sp_w], by simp [gz_wr, upd, sp_w]; exact p2, by simp [gz_wr, upd, sp_w]; exact p3, by simp [gz_wr, upd, sp_w]; exact p4, by simp [gz_wr, upd, sp_w]; exact p5⟩, fun l hl => ?_, fun c hc => ?_, fun i hi => ?_, fun t ht => ?_⟩
  · by_cases e : l = n
    · simp [gz_wr, upd, sp_w, e]
      rfl
    · have hl' : l < n + 1 := by simpa [sp_w] using hl
      have := q1 l (by omega)
      simp [gz_wr, upd, sp_w, e, show ¬ 3 * l = 3 * n by omega, show ¬ 3 * l = 3 * n + 1 by omega, show ¬ 3 * l = 3 * n + 2 by omega, show ¬ 3 * l + 1 = 3 * n by omega, show ¬ 3 * l + 1 = 3 * n + 2 by omega, show ¬ 3 * l + 2 = 3 * n by omega, show ¬ 3 * l + 2 = 3 * n + 1 by omega]
      exact this
  · have := q2 c (by simpa [sp_w] using hc)
    simp [gz_wr, upd, sp_w]
    exact this
  · have := q3 i (by simpa [sp_w] using hi)
    simp [gz_wr, upd, sp_w]
    exact this
  · have := q4 t (by simpa [sp_w] using ht)
    simp [gz_wr, upd, sp_w]
    exact this
theorem cm_sourcesOf (L : Nat) (σ : gz_Mm) (x : Int32) : gz_F 0 yX9_sourcesOf cX9_sourcesOf 1 (some .int) L [.int x] σ (some (.int (if x = 3 then 1 else if x = 4 then 3 else 2))) σ := by
  refine gz_F.of rfl rfl ?_
  refine zr_iload_n dX9_sourcesOf_0 rfl ?_
  refine zr_iconst (v := 3) dX9_sourcesOf_1 kc_iconst_3 ?_
  refine zr_icmp_ne 9 dX9_sourcesOf_2 (by decide) (fun h2 => ?_) (fun h2 => ?_)
  · refine zr_iload_n dX9_sourcesOf_9 rfl ?_
    refine zr_iconst (v := 4) dX9_sourcesOf_10 kc_iconst_4 ?_
    refine zr_icmp_ne 18 dX9_sourcesOf_11 (by decide) (fun h11 => ?_) (fun h11 => ?_)
    · refine zr_iconst (v := 2) dX9_sourcesOf_18 kc_iconst_2 ?_
      exact zr_iret dX9_sourcesOf_19 rfl (⟨by simp [*], rfl⟩)
    · refine zr_iconst (v := 3) dX9_sourcesOf_14 kc_iconst_3 ?_
      refine zr_goto 19 dX9_sourcesOf_15 (by decide) ?_
      exact zr_iret dX9_sourcesOf_19 rfl (⟨by simp [*], rfl⟩)
  · refine zr_iconst (v := 1) dX9_sourcesOf_5 kc_iconst_1 ?_
    refine zr_goto 19 dX9_sourcesOf_6 (by decide) ?_
    exact zr_iret dX9_sourcesOf_19 rfl (⟨by simp [*], rfl⟩)
theorem ax_gate (L : Nat) (σ : gz_Mm) (S : ap_S) (hw : ap_wf S) (hX : am_X σ S) (op a b c : Int32) : gz_Gi 2 yX9_gate cX9_gate 6 (some .int) L [.ref 57, .int op, .int a, .int b, .int c] σ (am_P σ (fa_gate op a b c S)) := by
  obtain ⟨C, K, m, tg, tk, no, nu, fO, fU⟩ := S
  obtain ⟨hC, hK, hm, htg, hno, hnu, hz0, hz2⟩ := hw
  have hX0 := hX
  obtain ⟨⟨rC, rK, rM⟩, -⟩ := hX
  have h80 := hC.1.1
  have c0 := rC.1.1
  refine gz_Gi.of rfl rfl (fun Q hQ => ?_)
  by_cases ho : ap_v op 7 = false
  · rw [show fa_gate op a b c (C, K, m, tg, tk, no, nu, fO, fU) = (-1002, (C, K, m, tg, tk, no, nu, fO, fU)) by unfold fa_gate; exact if_pos ho] at hQ
    refine zr_iload_n dX9_gate_0 rfl ?_
    refine zr_i2l dX9_gate_1 ?_
    refine zr_lconst (v := 0) dX9_gate_2 (by decide) ?_
    refine zr_ldc2 zd_X9_116 dX9_gate_3 ?_
    refine zt_callSi (As := [_, _, _]) (cm_in L σ _ _ _) zc_X9_102 rfl dX9_gate_6 rfl rfl rfl ?_
    refine zr_top ((congrArg sp_b (ap_in (n := 7) rfl)).trans (congrArg sp_b ho)) ?_
    refine zr_if_ne 16 dX9_gate_9 (by decide) (fun h => absurd rfl h) (fun hp9 => ?_)
    refine zr_sipush (v := (-1002)) dX9_gate_12 kc_sipush_m1002 ?_
    exact zr_iret dX9_gate_15 rfl (hQ _ _ ⟨rfl, hX0, fun _ _ => rfl⟩)
  have ho' : ap_v op 7 = true := by simpa using ho
  obtain ⟨j, hj, rfl, ej⟩ := ap_v_t ho' (by decide)
  -- an unknown source
  have unk : (ap_v a (C 9 0) = false ∨ (nI j ≠ 3 ∧ ap_v b (C 9 0) = false) ∨ (nI j = 4 ∧ ap_v c (C 9 0) = false)) → ∀ o, gz_R 2 yX9_gate cX9_gate 6 (some .int) 0 0 59 [some (.ref 57), some (.int (nI j)), some (.int a), some (.int b), some (.int c), o] [] (gz_mk L σ) Q := by
    intro q o
    rw [show fa_gate (nI j) a b c (C, K, m, tg, tk, no, nu, fO, fU) = (-1001, (C, K, m, tg, tk, no, nu, fO, fU)) by unfold fa_gate; exact (if_neg ho).trans (if_pos q)] at hQ
    refine zr_sipush (v := (-1001)) dX9_gate_59 kc_sipush_m1001 ?_
    exact zr_iret dX9_gate_62 rfl (hQ _ _ ⟨rfl, hX0, fun _ _ => rfl⟩)
  by_cases ha : ap_v a (C 9 0) = false
  · refine zr_iload_n dX9_gate_0 rfl ?_
    refine zr_i2l dX9_gate_1 ?_
    refine zr_lconst (v := 0) dX9_gate_2 (by decide) ?_
    refine zr_ldc2 zd_X9_116 dX9_gate_3 ?_
    refine zt_callSi (As := [_, _, _]) (cm_in L σ _ _ _) zc_X9_102 rfl dX9_gate_6 rfl rfl rfl ?_
    refine zr_top ((congrArg sp_b (ap_in (n := 7) rfl)).trans (congrArg sp_b ho')) ?_
    refine zr_if_ne 16 dX9_gate_9 (by decide) (fun hp9 => ?_) (fun h => absurd h (by decide))
    refine zr_iload_n dX9_gate_16 rfl ?_
    refine zt_callSi (As := [_]) (cm_sourcesOf L σ _) zc_X9_118 rfl dX9_gate_17 rfl rfl rfl ?_
    refine zr_istore dX9_gate_20 (by decide) rfl ?_
    refine zr_aload_n dX9_gate_22 rfl ?_
    refine zr_iload_n dX9_gate_23 rfl ?_
    refine zt_callVi (As := [_]) (cm_isLine L σ a _ (by omega) c0) zc_X9_122 rfl dX9_gate_24 rfl rfl rfl rfl rfl rfl ?_
    refine zr_top (congrArg sp_b ha) ?_
    refine zr_if_eq 59 dX9_gate_27 (by decide) (fun hp27 => ?_) (fun h => absurd rfl h)
    exact unk (Or.inl ha) _
  have ha' : ap_v a (C 9 0) = true := by simpa using ha
  obtain ⟨x1, hx1, rfl, e1⟩ := ap_v_t ha' (by omega)
  have full : ¬ ((ap_v (nI x1) (C 9 0) = false ∨ (nI j ≠ 3 ∧ ap_v b (C 9 0) = false) ∨ (nI j = 4 ∧ ap_v c (C 9 0) = false))) → C 9 0 = 80 → ∀ o, gz_R 2 yX9_gate cX9_gate 6 (some .int) 0 0 63 [some (.ref 57), some (.int (nI j)), some (.int (nI x1)), some (.int b), some (.int c), o] [] (gz_mk L σ) Q := by
    intro q f0 o
    rw [show fa_gate (nI j) (nI x1) b c (C, K, m, tg, tk, no, nu, fO, fU) = (-1004, (C, K, m, tg, tk, no, nu, fO, fU)) by unfold fa_gate; exact (if_neg ho).trans ((if_neg q).trans (if_pos f0))] at hQ
    refine zr_aload_n dX9_gate_63 rfl ?_
    refine zt_geti zg_X9_99 dX9_gate_64 rfl rfl rfl ?_
    refine zr_top (c0) ?_
    refine zr_bipush (v := 80) dX9_gate_67 kc_bipush_80 ?_
    refine zr_icmp_ne 76 dX9_gate_69 (by decide) (fun h => absurd (by rw [f0]; rfl) h) (fun hp69 => ?_)
    refine zr_sipush (v := (-1004)) dX9_gate_72 kc_sipush_m1004 ?_
    exact zr_iret dX9_gate_75 rfl (hQ _ _ ⟨rfl, hX0, fun _ _ => rfl⟩)
  have fin : ¬ ((ap_v (nI x1) (C 9 0) = false ∨ (nI j ≠ 3 ∧ ap_v b (C 9 0) = false) ∨ (nI j = 4 ∧ ap_v c (C 9 0) = false))) → ¬ C 9 0 = 80 → ∀ x2 x3 : Nat, (if nI j = 3 then x1 else ap_i b) = x2 → (if nI j = 4 then ap_i c else x1) = x3 → ∀ o, gz_R 2 yX9_gate cX9_gate 6 (some .int) 0 0 137 [some (.ref 57), some (.int (nI j)), some (.int (nI x1)), some (.int b), some (.int c), o] [] (gz_mk L (gz_wr (gz_wr (gz_wr σ 60 (3 * C 9 0) (nI x1)) 60 (3 * C 9 0 + 1) (nI x2)) 60 (3 * C 9 0 + 2) (nI x3))) Q := by
    intro q f0 x2 x3 g2 g3 o
    have e : fa_gate (nI j) (nI x1) b c (C, K, m, tg, tk, no, nu, fO, fU) = (nI (C 9 0), (sp_w (sp_w (sp_w (sp_w (sp_w (sp_w C 0 (C 9 0) 1) 1 (C 9 0) j) 2 (C 9 0) x1) 3 (C 9 0) x2) 4 (C 9 0) x3) 9 0 (C 9 0 + 1), K, m, tg, tk, no, nu, fO, fU)) := by
      unfold fa_gate
      refine (if_neg ho).trans ((if_neg q).trans ((if_neg f0).trans ?_))
      rw [ej, e1, g2, g3]
    rw [e] at hQ
    generalize hn : C 9 0 = n at *
    refine zr_aload_n dX9_gate_137 rfl ?_
    refine zr_iconst (v := 1) dX9_gate_138 kc_iconst_1 ?_
    refine zr_iload_n dX9_gate_139 rfl ?_
    refine zt_callVi (As := [_, _]) (cm_fresh L _ n (by omega) (by simp [gz_wr, upd]; exact c0) 1 (nI j)) zc_X9_112 rfl dX9_gate_140 rfl rfl rfl rfl rfl rfl ?_
    refine zr_iret dX9_gate_143 rfl (hQ _ _ ⟨rfl, ?_, fun k hk => ?_⟩)
    · refine hX0.circ (C' := sp_w (sp_w (sp_w (sp_w (sp_w (sp_w C 0 n 1) 1 n j) 2 n x1) 3 n x2) 4 n x3) 9 0 (n + 1)) (rC.addg n x1 x2 x3 j hn) (rK.tab (fun k hk => ?_) (fun c => by simp [sp_w]) (by simp [sp_w])) (rm_m.tab (C := C) (rM.kept (fun j hj => ?_) rfl rfl) (by simp [sp_w])) (fun j hj => ?_) rfl rfl
      · rcases hk with rfl | rfl | rfl | rfl <;> rfl
      · rw [gz_wr_eq, pk_un (by omega)]
        rfl
      · rcases hj with rfl | rfl | rfl | rfl <;> rfl
    · simp only [gz_wr]
      rw [if_neg (by omega), if_neg (by omega), if_neg (by omega), if_neg (by omega), if_neg (by omega), if_neg (by omega)]
  by_cases j3 : j = 3
  · subst j3
    have q : ¬ ((ap_v (nI x1) (C 9 0) = false ∨ (nI 3 ≠ 3 ∧ ap_v b (C 9 0) = false) ∨ (nI 3 = 4 ∧ ap_v c (C 9 0) = false))) := by
      rintro (q | q | q)
      · exact ha q
      · exact q.1 rfl
      · exact absurd q.1 (by decide)
    refine zr_iload_n dX9_gate_0 rfl ?_
    refine zr_i2l dX9_gate_1 ?_
    refine zr_lconst (v := 0) dX9_gate_2 (by decide) ?_
    refine zr_ldc2 zd_X9_116 dX9_gate_3 ?_
    refine zt_callSi (As := [_, _, _]) (cm_in L σ _ _ _) zc_X9_102 rfl dX9_gate_6 rfl rfl rfl ?_
    refine zr_top ((congrArg sp_b (ap_in (n := 7) rfl)).trans (congrArg sp_b ho')) ?_
    refine zr_if_ne 16 dX9_gate_9 (by decide) (fun hp9 => ?_) (fun h => absurd h (by decide))
    refine zr_iload_n dX9_gate_16 rfl ?_
    refine zt_callSi (As := [_]) (cm_sourcesOf L σ _) zc_X9_118 rfl dX9_gate_17 rfl rfl rfl ?_
    refine zr_istore dX9_gate_20 (by decide) rfl ?_
    refine zr_aload_n dX9_gate_22 rfl ?_
    refine zr_iload_n dX9_gate_23 rfl ?_
    refine zt_callVi (As := [_]) (cm_isLine L σ (nI x1) _ (by omega) c0) zc_X9_122 rfl dX9_gate_24 rfl rfl rfl rfl rfl rfl ?_
    refine zr_top (congrArg sp_b ha') ?_
    refine zr_if_eq 59 dX9_gate_27 (by decide) (fun h => absurd h (by decide)) (fun hp27 => ?_)
    refine zr_iload dX9_gate_30 rfl ?_
    refine zr_iconst (v := 1) dX9_gate_32 kc_iconst_1 ?_
    refine zr_icmp_le 44 dX9_gate_33 (by decide) (fun hp33 => ?_) (fun h => absurd (by decide) h)
    refine zr_iload dX9_gate_44 rfl ?_
    refine zr_iconst (v := 2) dX9_gate_46 kc_iconst_2 ?_
    refine zr_icmp_le 63 dX9_gate_47 (by decide) (fun hp47 => ?_) (fun h => absurd (by decide) h)
    by_cases f0 : C 9 0 = 80
    · exact full q f0 _
    · refine zr_aload_n dX9_gate_63 rfl ?_
      refine zt_geti zg_X9_99 dX9_gate_64 rfl rfl rfl ?_
      refine zr_top (c0) ?_
      refine zr_bipush (v := 80) dX9_gate_67 kc_bipush_80 ?_
      refine zr_icmp_ne 76 dX9_gate_69 (by decide) (fun hp69 => ?_) (fun h => absurd ((nI_eq (b := 80) (by omega) (by omega)).mp h) f0)
      refine zr_aload_n dX9_gate_76 rfl ?_
      refine zt_getr zg_X9_16 dX9_gate_77 rfl rfl rfl ?_
      refine zr_iconst (v := 3) dX9_gate_80 kc_iconst_3 ?_
      refine zr_aload_n dX9_gate_81 rfl ?_
      refine zt_geti zg_X9_99 dX9_gate_82 rfl rfl rfl ?_
      refine zr_top (c0) ?_
      refine zr_imul dX9_gate_85 ?_
      refine zr_top (tb_3 _) ?_
      refine zr_iload_n dX9_gate_86 rfl ?_
      refine zt_istN dX9_gate_87 rfl rfl rfl (by omega) ?_
      refine zr_aload_n dX9_gate_88 rfl ?_
      refine zt_getr zg_X9_16 dX9_gate_89 rfl rfl rfl ?_
      refine zr_iconst (v := 3) dX9_gate_92 kc_iconst_3 ?_
      refine zr_aload_n dX9_gate_93 rfl ?_
      refine zt_geti zg_X9_99 dX9_gate_94 rfl rfl rfl ?_
      refine zr_top (c0) ?_
      refine zr_imul dX9_gate_97 ?_
      refine zr_top (tb_3 _) ?_
      refine zr_iconst (v := 1) dX9_gate_98 kc_iconst_1 ?_
      refine zr_iadd dX9_gate_99 ?_
      refine zr_top (nI_1 _) ?_
      refine zr_iload dX9_gate_100 rfl ?_
      refine zr_iconst (v := 1) dX9_gate_102 kc_iconst_1 ?_
      refine zr_icmp_le 110 dX9_gate_103 (by decide) (fun hp103 => ?_) (fun h => absurd (by decide) h)
      refine zr_iload_n dX9_gate_110 rfl ?_
      refine zt_istN dX9_gate_111 rfl rfl rfl (by omega) ?_
      refine zr_aload_n dX9_gate_112 rfl ?_
      refine zt_getr zg_X9_16 dX9_gate_113 rfl rfl rfl ?_
      refine zr_iconst (v := 3) dX9_gate_116 kc_iconst_3 ?_
      refine zr_aload_n dX9_gate_117 rfl ?_
      refine zt_geti zg_X9_99 dX9_gate_118 rfl rfl rfl ?_
      refine zr_top (c0) ?_
      refine zr_imul dX9_gate_121 ?_
      refine zr_top (tb_3 _) ?_
      refine zr_iconst (v := 2) dX9_gate_122 kc_iconst_2 ?_
      refine zr_iadd dX9_gate_123 ?_
      refine zr_top (nI_add _ 2) ?_
      refine zr_iload dX9_gate_124 rfl ?_
      refine zr_iconst (v := 2) dX9_gate_126 kc_iconst_2 ?_
      refine zr_icmp_le 135 dX9_gate_127 (by decide) (fun hp127 => ?_) (fun h => absurd (by decide) h)
      refine zr_iload_n dX9_gate_135 rfl ?_
      refine zt_istN dX9_gate_136 rfl rfl rfl (by omega) ?_
      exact fin q f0 x1 x1 rfl rfl _
  have n3 : ¬ nI j = 3 := fun q => j3 ((nI_eq (b := 3) (by omega) (by omega)).mp q)
  by_cases hb : ap_v b (C 9 0) = false
  · have es : (1 : Int32) < (if nI j = 3 then 1 else if nI j = 4 then 3 else 2) := by
      rw [if_neg n3]
      split <;> decide
    refine zr_iload_n dX9_gate_0 rfl ?_
    refine zr_i2l dX9_gate_1 ?_
    refine zr_lconst (v := 0) dX9_gate_2 (by decide) ?_
    refine zr_ldc2 zd_X9_116 dX9_gate_3 ?_
    refine zt_callSi (As := [_, _, _]) (cm_in L σ _ _ _) zc_X9_102 rfl dX9_gate_6 rfl rfl rfl ?_
    refine zr_top ((congrArg sp_b (ap_in (n := 7) rfl)).trans (congrArg sp_b ho')) ?_
    refine zr_if_ne 16 dX9_gate_9 (by decide) (fun hp9 => ?_) (fun h => absurd h (by decide))
    refine zr_iload_n dX9_gate_16 rfl ?_
    refine zt_callSi (As := [_]) (cm_sourcesOf L σ _) zc_X9_118 rfl dX9_gate_17 rfl rfl rfl ?_
    refine zr_istore dX9_gate_20 (by decide) rfl ?_
    refine zr_aload_n dX9_gate_22 rfl ?_
    refine zr_iload_n dX9_gate_23 rfl ?_
    refine zt_callVi (As := [_]) (cm_isLine L σ (nI x1) _ (by omega) c0) zc_X9_122 rfl dX9_gate_24 rfl rfl rfl rfl rfl rfl ?_
    refine zr_top (congrArg sp_b ha') ?_
    refine zr_if_eq 59 dX9_gate_27 (by decide) (fun h => absurd h (by decide)) (fun hp27 => ?_)
    refine zr_iload dX9_gate_30 rfl ?_
    refine zr_iconst (v := 1) dX9_gate_32 kc_iconst_1 ?_
    refine zr_icmp_le 44 dX9_gate_33 (by decide) (fun h => absurd h (Int32.not_le.mpr es)) (fun hp33 => ?_)
    refine zr_aload_n dX9_gate_36 rfl ?_
    refine zr_iload_n dX9_gate_37 rfl ?_
    refine zt_callVi (As := [_]) (cm_isLine L σ b _ (by omega) c0) zc_X9_122 rfl dX9_gate_38 rfl rfl rfl rfl rfl rfl ?_
    refine zr_top (congrArg sp_b hb) ?_
    refine zr_if_eq 59 dX9_gate_41 (by decide) (fun hp41 => ?_) (fun h => absurd rfl h)
    exact unk (Or.inr (Or.inl ⟨n3, hb⟩)) _
  have hb' : ap_v b (C 9 0) = true := by simpa using hb
  obtain ⟨x2, hx2, rfl, e2⟩ := ap_v_t hb' (by omega)
  by_cases j4 : j = 4
  · subst j4
    by_cases hc : ap_v c (C 9 0) = false
    · refine zr_iload_n dX9_gate_0 rfl ?_
      refine zr_i2l dX9_gate_1 ?_
      refine zr_lconst (v := 0) dX9_gate_2 (by decide) ?_
      refine zr_ldc2 zd_X9_116 dX9_gate_3 ?_
      refine zt_callSi (As := [_, _, _]) (cm_in L σ _ _ _) zc_X9_102 rfl dX9_gate_6 rfl rfl rfl ?_
      refine zr_top ((congrArg sp_b (ap_in (n := 7) rfl)).trans (congrArg sp_b ho')) ?_
      refine zr_if_ne 16 dX9_gate_9 (by decide) (fun hp9 => ?_) (fun h => absurd h (by decide))
      refine zr_iload_n dX9_gate_16 rfl ?_
      refine zt_callSi (As := [_]) (cm_sourcesOf L σ _) zc_X9_118 rfl dX9_gate_17 rfl rfl rfl ?_
      refine zr_istore dX9_gate_20 (by decide) rfl ?_
      refine zr_aload_n dX9_gate_22 rfl ?_
      refine zr_iload_n dX9_gate_23 rfl ?_
      refine zt_callVi (As := [_]) (cm_isLine L σ (nI x1) _ (by omega) c0) zc_X9_122 rfl dX9_gate_24 rfl rfl rfl rfl rfl rfl ?_
      refine zr_top (congrArg sp_b ha') ?_
      refine zr_if_eq 59 dX9_gate_27 (by decide) (fun h => absurd h (by decide)) (fun hp27 => ?_)
      refine zr_iload dX9_gate_30 rfl ?_
      refine zr_iconst (v := 1) dX9_gate_32 kc_iconst_1 ?_
      refine zr_icmp_le 44 dX9_gate_33 (by decide) (fun h => absurd h (by decide)) (fun hp33 => ?_)
      refine zr_aload_n dX9_gate_36 rfl ?_
      refine zr_iload_n dX9_gate_37 rfl ?_
      refine zt_callVi (As := [_]) (cm_isLine L σ (nI x2) _ (by omega) c0) zc_X9_122 rfl dX9_gate_38 rfl rfl rfl rfl rfl rfl ?_
      refine zr_top (congrArg sp_b hb') ?_
      refine zr_if_eq 59 dX9_gate_41 (by decide) (fun h => absurd h (by decide)) (fun hp41 => ?_)
      refine zr_iload dX9_gate_44 rfl ?_
      refine zr_iconst (v := 2) dX9_gate_46 kc_iconst_2 ?_
      refine zr_icmp_le 63 dX9_gate_47 (by decide) (fun h => absurd h (by decide)) (fun hp47 => ?_)
      refine zr_aload_n dX9_gate_50 rfl ?_
      refine zr_iload dX9_gate_51 rfl ?_
      refine zt_callVi (As := [_]) (cm_isLine L σ c _ (by omega) c0) zc_X9_122 rfl dX9_gate_53 rfl rfl rfl rfl rfl rfl ?_
      refine zr_top (congrArg sp_b hc) ?_
      refine zr_if_ne 63 dX9_gate_56 (by decide) (fun h => absurd rfl h) (fun hp56 => ?_)
      exact unk (Or.inr (Or.inr ⟨rfl, hc⟩)) _
    have hc' : ap_v c (C 9 0) = true := by simpa using hc
    obtain ⟨x3, hx3, rfl, e3⟩ := ap_v_t hc' (by omega)
    have q : ¬ ((ap_v (nI x1) (C 9 0) = false ∨ (nI 4 ≠ 3 ∧ ap_v (nI x2) (C 9 0) = false) ∨ (nI 4 = 4 ∧ ap_v (nI x3) (C 9 0) = false))) := by
      rintro (q | q | q)
      · exact ha q
      · exact hb q.2
      · exact hc q.2
    refine zr_iload_n dX9_gate_0 rfl ?_
    refine zr_i2l dX9_gate_1 ?_
    refine zr_lconst (v := 0) dX9_gate_2 (by decide) ?_
    refine zr_ldc2 zd_X9_116 dX9_gate_3 ?_
    refine zt_callSi (As := [_, _, _]) (cm_in L σ _ _ _) zc_X9_102 rfl dX9_gate_6 rfl rfl rfl ?_
    refine zr_top ((congrArg sp_b (ap_in (n := 7) rfl)).trans (congrArg sp_b ho')) ?_
    refine zr_if_ne 16 dX9_gate_9 (by decide) (fun hp9 => ?_) (fun h => absurd h (by decide))
    refine zr_iload_n dX9_gate_16 rfl ?_
    refine zt_callSi (As := [_]) (cm_sourcesOf L σ _) zc_X9_118 rfl dX9_gate_17 rfl rfl rfl ?_
    refine zr_istore dX9_gate_20 (by decide) rfl ?_
    refine zr_aload_n dX9_gate_22 rfl ?_
    refine zr_iload_n dX9_gate_23 rfl ?_
    refine zt_callVi (As := [_]) (cm_isLine L σ (nI x1) _ (by omega) c0) zc_X9_122 rfl dX9_gate_24 rfl rfl rfl rfl rfl rfl ?_
    refine zr_top (congrArg sp_b ha') ?_
    refine zr_if_eq 59 dX9_gate_27 (by decide) (fun h => absurd h (by decide)) (fun hp27 => ?_)
    refine zr_iload dX9_gate_30 rfl ?_
    refine zr_iconst (v := 1) dX9_gate_32 kc_iconst_1 ?_
    refine zr_icmp_le 44 dX9_gate_33 (by decide) (fun h => absurd h (by decide)) (fun hp33 => ?_)
    refine zr_aload_n dX9_gate_36 rfl ?_
    refine zr_iload_n dX9_gate_37 rfl ?_
    refine zt_callVi (As := [_]) (cm_isLine L σ (nI x2) _ (by omega) c0) zc_X9_122 rfl dX9_gate_38 rfl rfl rfl rfl rfl rfl ?_
    refine zr_top (congrArg sp_b hb') ?_
    refine zr_if_eq 59 dX9_gate_41 (by decide) (fun h => absurd h (by decide)) (fun hp41 => ?_)
    refine zr_iload dX9_gate_44 rfl ?_
    refine zr_iconst (v := 2) dX9_gate_46 kc_iconst_2 ?_
    refine zr_icmp_le 63 dX9_gate_47 (by decide) (fun h => absurd h (by decide)) (fun hp47 => ?_)
    refine zr_aload_n dX9_gate_50 rfl ?_
    refine zr_iload dX9_gate_51 rfl ?_
    refine zt_callVi (As := [_]) (cm_isLine L σ (nI x3) _ (by omega) c0) zc_X9_122 rfl dX9_gate_53 rfl rfl rfl rfl rfl rfl ?_
    refine zr_top (congrArg sp_b hc') ?_
    refine zr_if_ne 63 dX9_gate_56 (by decide) (fun hp56 => ?_) (fun h => absurd h (by decide))
    by_cases f0 : C 9 0 = 80
    · exact full q f0 _
    · refine zr_aload_n dX9_gate_63 rfl ?_
      refine zt_geti zg_X9_99 dX9_gate_64 rfl rfl rfl ?_
      refine zr_top (c0) ?_
      refine zr_bipush (v := 80) dX9_gate_67 kc_bipush_80 ?_
      refine zr_icmp_ne 76 dX9_gate_69 (by decide) (fun hp69 => ?_) (fun h => absurd ((nI_eq (b := 80) (by omega) (by omega)).mp h) f0)
      refine zr_aload_n dX9_gate_76 rfl ?_
      refine zt_getr zg_X9_16 dX9_gate_77 rfl rfl rfl ?_
      refine zr_iconst (v := 3) dX9_gate_80 kc_iconst_3 ?_
      refine zr_aload_n dX9_gate_81 rfl ?_
      refine zt_geti zg_X9_99 dX9_gate_82 rfl rfl rfl ?_
      refine zr_top (c0) ?_
      refine zr_imul dX9_gate_85 ?_
      refine zr_top (tb_3 _) ?_
      refine zr_iload_n dX9_gate_86 rfl ?_
      refine zt_istN dX9_gate_87 rfl rfl rfl (by omega) ?_
      refine zr_aload_n dX9_gate_88 rfl ?_
      refine zt_getr zg_X9_16 dX9_gate_89 rfl rfl rfl ?_
      refine zr_iconst (v := 3) dX9_gate_92 kc_iconst_3 ?_
      refine zr_aload_n dX9_gate_93 rfl ?_
      refine zt_geti zg_X9_99 dX9_gate_94 rfl rfl rfl ?_
      refine zr_top (c0) ?_
      refine zr_imul dX9_gate_97 ?_
      refine zr_top (tb_3 _) ?_
      refine zr_iconst (v := 1) dX9_gate_98 kc_iconst_1 ?_
      refine zr_iadd dX9_gate_99 ?_
      refine zr_top (nI_1 _) ?_
      refine zr_iload dX9_gate_100 rfl ?_
      refine zr_iconst (v := 1) dX9_gate_102 kc_iconst_1 ?_
      refine zr_icmp_le 110 dX9_gate_103 (by decide) (fun h => absurd h (by decide)) (fun hp103 => ?_)
      refine zr_iload_n dX9_gate_106 rfl ?_
      refine zr_goto 111 dX9_gate_107 (by decide) ?_
      refine zt_istN dX9_gate_111 rfl rfl rfl (by omega) ?_
      refine zr_aload_n dX9_gate_112 rfl ?_
      refine zt_getr zg_X9_16 dX9_gate_113 rfl rfl rfl ?_
      refine zr_iconst (v := 3) dX9_gate_116 kc_iconst_3 ?_
      refine zr_aload_n dX9_gate_117 rfl ?_
      refine zt_geti zg_X9_99 dX9_gate_118 rfl rfl rfl ?_
      refine zr_top (c0) ?_
      refine zr_imul dX9_gate_121 ?_
      refine zr_top (tb_3 _) ?_
      refine zr_iconst (v := 2) dX9_gate_122 kc_iconst_2 ?_
      refine zr_iadd dX9_gate_123 ?_
      refine zr_top (nI_add _ 2) ?_
      refine zr_iload dX9_gate_124 rfl ?_
      refine zr_iconst (v := 2) dX9_gate_126 kc_iconst_2 ?_
      refine zr_icmp_le 135 dX9_gate_127 (by decide) (fun h => absurd h (by decide)) (fun hp127 => ?_)
      refine zr_iload dX9_gate_130 rfl ?_
      refine zr_goto 136 dX9_gate_132 (by decide) ?_
      refine zt_istN dX9_gate_136 rfl rfl rfl (by omega) ?_
      exact fin q f0 x2 x3 (by rw [if_neg (by decide), e2]) ((if_pos rfl).trans e3) _
  have n4 : ¬ nI j = 4 := fun q => j4 ((nI_eq (b := 4) (by omega) (by omega)).mp q)
  have es : (if nI j = 3 then (1 : Int32) else if nI j = 4 then 3 else 2) = 2 := by rw [if_neg n3, if_neg n4]
  have q : ¬ ((ap_v (nI x1) (C 9 0) = false ∨ (nI j ≠ 3 ∧ ap_v (nI x2) (C 9 0) = false) ∨ (nI j = 4 ∧ ap_v c (C 9 0) = false))) := by
    rintro (q | q | q)
    · exact ha q
    · exact hb q.2
    · exact n4 q.1
  refine zr_iload_n dX9_gate_0 rfl ?_
  refine zr_i2l dX9_gate_1 ?_
  refine zr_lconst (v := 0) dX9_gate_2 (by decide) ?_
  refine zr_ldc2 zd_X9_116 dX9_gate_3 ?_
  refine zt_callSi (As := [_, _, _]) (cm_in L σ _ _ _) zc_X9_102 rfl dX9_gate_6 rfl rfl rfl ?_
  refine zr_top ((congrArg sp_b (ap_in (n := 7) rfl)).trans (congrArg sp_b ho')) ?_
  refine zr_if_ne 16 dX9_gate_9 (by decide) (fun hp9 => ?_) (fun h => absurd h (by decide))
  refine zr_iload_n dX9_gate_16 rfl ?_
  refine zt_callSi (As := [_]) (cm_sourcesOf L σ _) zc_X9_118 rfl dX9_gate_17 rfl rfl rfl ?_
  refine zr_top (es) ?_
  refine zr_istore dX9_gate_20 (by decide) rfl ?_
  refine zr_aload_n dX9_gate_22 rfl ?_
  refine zr_iload_n dX9_gate_23 rfl ?_
  refine zt_callVi (As := [_]) (cm_isLine L σ (nI x1) _ (by omega) c0) zc_X9_122 rfl dX9_gate_24 rfl rfl rfl rfl rfl rfl ?_
  refine zr_top (congrArg sp_b ha') ?_
  refine zr_if_eq 59 dX9_gate_27 (by decide) (fun h => absurd h (by decide)) (fun hp27 => ?_)
  refine zr_iload dX9_gate_30 rfl ?_
  refine zr_iconst (v := 1) dX9_gate_32 kc_iconst_1 ?_
  refine zr_icmp_le 44 dX9_gate_33 (by decide) (fun h => absurd h (by decide)) (fun hp33 => ?_)
  refine zr_aload_n dX9_gate_36 rfl ?_
  refine zr_iload_n dX9_gate_37 rfl ?_
  refine zt_callVi (As := [_]) (cm_isLine L σ (nI x2) _ (by omega) c0) zc_X9_122 rfl dX9_gate_38 rfl rfl rfl rfl rfl rfl ?_
  refine zr_top (congrArg sp_b hb') ?_
  refine zr_if_eq 59 dX9_gate_41 (by decide) (fun h => absurd h (by decide)) (fun hp41 => ?_)
  refine zr_iload dX9_gate_44 rfl ?_
  refine zr_iconst (v := 2) dX9_gate_46 kc_iconst_2 ?_
  refine zr_icmp_le 63 dX9_gate_47 (by decide) (fun hp47 => ?_) (fun h => absurd (by decide) h)
  by_cases f0 : C 9 0 = 80
  · exact full q f0 _
  · refine zr_aload_n dX9_gate_63 rfl ?_
    refine zt_geti zg_X9_99 dX9_gate_64 rfl rfl rfl ?_
    refine zr_top (c0) ?_
    refine zr_bipush (v := 80) dX9_gate_67 kc_bipush_80 ?_
    refine zr_icmp_ne 76 dX9_gate_69 (by decide) (fun hp69 => ?_) (fun h => absurd ((nI_eq (b := 80) (by omega) (by omega)).mp h) f0)
    refine zr_aload_n dX9_gate_76 rfl ?_
    refine zt_getr zg_X9_16 dX9_gate_77 rfl rfl rfl ?_
    refine zr_iconst (v := 3) dX9_gate_80 kc_iconst_3 ?_
    refine zr_aload_n dX9_gate_81 rfl ?_
    refine zt_geti zg_X9_99 dX9_gate_82 rfl rfl rfl ?_
    refine zr_top (c0) ?_
    refine zr_imul dX9_gate_85 ?_
    refine zr_top (tb_3 _) ?_
    refine zr_iload_n dX9_gate_86 rfl ?_
    refine zt_istN dX9_gate_87 rfl rfl rfl (by omega) ?_
    refine zr_aload_n dX9_gate_88 rfl ?_
    refine zt_getr zg_X9_16 dX9_gate_89 rfl rfl rfl ?_
    refine zr_iconst (v := 3) dX9_gate_92 kc_iconst_3 ?_
    refine zr_aload_n dX9_gate_93 rfl ?_
    refine zt_geti zg_X9_99 dX9_gate_94 rfl rfl rfl ?_
    refine zr_top (c0) ?_
    refine zr_imul dX9_gate_97 ?_
    refine zr_top (tb_3 _) ?_
    refine zr_iconst (v := 1) dX9_gate_98 kc_iconst_1 ?_
    refine zr_iadd dX9_gate_99 ?_
    refine zr_top (nI_1 _) ?_
    refine zr_iload dX9_gate_100 rfl ?_
    refine zr_iconst (v := 1) dX9_gate_102 kc_iconst_1 ?_
    refine zr_icmp_le 110 dX9_gate_103 (by decide) (fun h => absurd h (by decide)) (fun hp103 => ?_)
    refine zr_iload_n dX9_gate_106 rfl ?_
    refine zr_goto 111 dX9_gate_107 (by decide) ?_
    refine zt_istN dX9_gate_111 rfl rfl rfl (by omega) ?_
    refine zr_aload_n dX9_gate_112 rfl ?_
    refine zt_getr zg_X9_16 dX9_gate_113 rfl rfl rfl ?_
    refine zr_iconst (v := 3) dX9_gate_116 kc_iconst_3 ?_
    refine zr_aload_n dX9_gate_117 rfl ?_
    refine zt_geti zg_X9_99 dX9_gate_118 rfl rfl rfl ?_
    refine zr_top (c0) ?_
    refine zr_imul dX9_gate_121 ?_
    refine zr_top (tb_3 _) ?_
    refine zr_iconst (v := 2) dX9_gate_122 kc_iconst_2 ?_
    refine zr_iadd dX9_gate_123 ?_
    refine zr_top (nI_add _ 2) ?_
    refine zr_iload dX9_gate_124 rfl ?_
    refine zr_iconst (v := 2) dX9_gate_126 kc_iconst_2 ?_
    refine zr_icmp_le 135 dX9_gate_127 (by decide) (fun hp127 => ?_) (fun h => absurd (by decide) h)
    refine zr_iload_n dX9_gate_135 rfl ?_
    refine zt_istN dX9_gate_136 rfl rfl rfl (by omega) ?_
    exact fin q f0 x2 x1 (by rw [if_neg n3, e2]) (by rw [if_neg n4]) _
theorem ax_cell (L : Nat) (σ : gz_Mm) (S : ap_S) (hw : ap_wf S) (hX : am_X σ S) (d : Int32) : gz_Gi 1 yX9_cell cX9_cell 2 (some .int) L [.ref 57, .int d] σ (am_P σ (fa_cell d S)) := by
  obtain ⟨C, K, m, tg, tk, no, nu, fO, fU⟩ := S
  obtain ⟨hC, hK, hm, htg, hno, hnu, hz0, hz2⟩ := hw
  have hX0 := hX
  obtain ⟨⟨rC, rK, rM⟩, -⟩ := hX
  have h80 := hC.1.1
  have h20 := hC.1.2.2.1
  have c0 := rC.1.1
  have c2 := rC.1.2.2.1
  refine gz_Gi.of rfl rfl (fun Q hQ => ?_)
  by_cases ho : ap_v d 3 = false
  · rw [show fa_cell d (C, K, m, tg, tk, no, nu, fO, fU) = (-1002, (C, K, m, tg, tk, no, nu, fO, fU)) by unfold fa_cell; exact if_pos ho] at hQ
    refine zr_iload_n dX9_cell_0 rfl ?_
    refine zr_i2l dX9_cell_1 ?_
    refine zr_lconst (v := 0) dX9_cell_2 (by decide) ?_
    refine zr_ldc2 zd_X9_126 dX9_cell_3 ?_
    refine zt_callSi (As := [_, _, _]) (cm_in L σ _ _ _) zc_X9_102 rfl dX9_cell_6 rfl rfl rfl ?_
    refine zr_top ((congrArg sp_b (ap_in (n := 3) rfl)).trans (congrArg sp_b ho)) ?_
    refine zr_if_ne 16 dX9_cell_9 (by decide) (fun h => absurd rfl h) (fun hp9 => ?_)
    refine zr_sipush (v := (-1002)) dX9_cell_12 kc_sipush_m1002 ?_
    exact zr_iret dX9_cell_15 rfl (hQ _ _ ⟨rfl, hX0, fun _ _ => rfl⟩)
  have ho' : ap_v d 3 = true := by simpa using ho
  obtain ⟨j, hj, rfl, ej⟩ := ap_v_t ho' (by decide)
  by_cases f2 : C 9 2 = 20
  · rw [show fa_cell (nI j) (C, K, m, tg, tk, no, nu, fO, fU) = (-1004, (C, K, m, tg, tk, no, nu, fO, fU)) by unfold fa_cell; exact (if_neg ho).trans (if_pos (Or.inr f2))] at hQ
    refine zr_iload_n dX9_cell_0 rfl ?_
    refine zr_i2l dX9_cell_1 ?_
    refine zr_lconst (v := 0) dX9_cell_2 (by decide) ?_
    refine zr_ldc2 zd_X9_126 dX9_cell_3 ?_
    refine zt_callSi (As := [_, _, _]) (cm_in L σ _ _ _) zc_X9_102 rfl dX9_cell_6 rfl rfl rfl ?_
    refine zr_top ((congrArg sp_b (ap_in (n := 3) rfl)).trans (congrArg sp_b ho')) ?_
    refine zr_if_ne 16 dX9_cell_9 (by decide) (fun hp9 => ?_) (fun h => absurd h (by decide))
    refine zr_aload_n dX9_cell_16 rfl ?_
    refine zt_geti zg_X9_106 dX9_cell_17 rfl rfl rfl ?_
    refine zr_top (c2) ?_
    refine zr_bipush (v := 20) dX9_cell_20 kc_bipush_20 ?_
    refine zr_icmp_eq 34 dX9_cell_22 (by decide) (fun hp22 => ?_) (fun h => absurd (by rw [f2]; rfl) h)
    refine zr_sipush (v := (-1004)) dX9_cell_34 kc_sipush_m1004 ?_
    exact zr_iret dX9_cell_37 rfl (hQ _ _ ⟨rfl, hX0, fun _ _ => rfl⟩)
  by_cases f0 : C 9 0 = 80
  · rw [show fa_cell (nI j) (C, K, m, tg, tk, no, nu, fO, fU) = (-1004, (C, K, m, tg, tk, no, nu, fO, fU)) by unfold fa_cell; exact (if_neg ho).trans (if_pos (Or.inl f0))] at hQ
    refine zr_iload_n dX9_cell_0 rfl ?_
    refine zr_i2l dX9_cell_1 ?_
    refine zr_lconst (v := 0) dX9_cell_2 (by decide) ?_
    refine zr_ldc2 zd_X9_126 dX9_cell_3 ?_
    refine zt_callSi (As := [_, _, _]) (cm_in L σ _ _ _) zc_X9_102 rfl dX9_cell_6 rfl rfl rfl ?_
    refine zr_top ((congrArg sp_b (ap_in (n := 3) rfl)).trans (congrArg sp_b ho')) ?_
    refine zr_if_ne 16 dX9_cell_9 (by decide) (fun hp9 => ?_) (fun h => absurd h (by decide))
    refine zr_aload_n dX9_cell_16 rfl ?_
    refine zt_geti zg_X9_106 dX9_cell_17 rfl rfl rfl ?_
    refine zr_top (c2) ?_
    refine zr_bipush (v := 20) dX9_cell_20 kc_bipush_20 ?_
    refine zr_icmp_eq 34 dX9_cell_22 (by decide) (fun h => absurd ((nI_eq (b := 20) (by omega) (by omega)).mp h) f2) (fun hp22 => ?_)
    refine zr_aload_n dX9_cell_25 rfl ?_
    refine zt_geti zg_X9_99 dX9_cell_26 rfl rfl rfl ?_
    refine zr_top (c0) ?_
    refine zr_bipush (v := 80) dX9_cell_29 kc_bipush_80 ?_
    refine zr_icmp_ne 38 dX9_cell_31 (by decide) (fun h => absurd (by rw [f0]; rfl) h) (fun hp31 => ?_)
    refine zr_sipush (v := (-1004)) dX9_cell_34 kc_sipush_m1004 ?_
    exact zr_iret dX9_cell_37 rfl (hQ _ _ ⟨rfl, hX0, fun _ _ => rfl⟩)
  have e : fa_cell (nI j) (C, K, m, tg, tk, no, nu, fO, fU) = (nI (C 9 0), (sp_w (sp_w (sp_w (sp_w (sp_w (sp_w (sp_w (sp_w C 0 (C 9 0) 2) 1 (C 9 0) (C 9 2)) 5 (C 9 2) (C 9 0)) 6 (C 9 2) j) 7 (C 9 2) (C 9 0)) 12 (C 9 2) 0) 9 0 (C 9 0 + 1)) 9 2 (C 9 2 + 1), K, m, tg, tk, no, nu, fO, fU)) := by
    unfold fa_cell
    refine (if_neg ho).trans ((if_neg (by omega)).trans ?_)
    rw [ej]
  rw [e] at hQ
  generalize hn : C 9 0 = n at *
  generalize hnc : C 9 2 = nc at *
  have nin : nc ∉ sp_all K := fun q => by
    have := hK.2 nc q
    omega
  have r2 : ∀ τ : gz_Mm, τ 57 11 = σ 57 11 → τ 57 11 = nI nc := fun τ h => h.trans c2
  refine zr_iload_n dX9_cell_0 rfl ?_
  refine zr_i2l dX9_cell_1 ?_
  refine zr_lconst (v := 0) dX9_cell_2 (by decide) ?_
  refine zr_ldc2 zd_X9_126 dX9_cell_3 ?_
  refine zt_callSi (As := [_, _, _]) (cm_in L σ _ _ _) zc_X9_102 rfl dX9_cell_6 rfl rfl rfl ?_
  refine zr_top ((congrArg sp_b (ap_in (n := 3) rfl)).trans (congrArg sp_b ho')) ?_
  refine zr_if_ne 16 dX9_cell_9 (by decide) (fun hp9 => ?_) (fun h => absurd h (by decide))
  refine zr_aload_n dX9_cell_16 rfl ?_
  refine zt_geti zg_X9_106 dX9_cell_17 rfl rfl rfl ?_
  refine zr_top (c2) ?_
  refine zr_bipush (v := 20) dX9_cell_20 kc_bipush_20 ?_
  refine zr_icmp_eq 34 dX9_cell_22 (by decide) (fun h => absurd ((nI_eq (b := 20) (by omega) (by omega)).mp h) f2) (fun hp22 => ?_)
  refine zr_aload_n dX9_cell_25 rfl ?_
  refine zt_geti zg_X9_99 dX9_cell_26 rfl rfl rfl ?_
  refine zr_top (c0) ?_
  refine zr_bipush (v := 80) dX9_cell_29 kc_bipush_80 ?_
  refine zr_icmp_ne 38 dX9_cell_31 (by decide) (fun hp31 => ?_) (fun h => absurd ((nI_eq (b := 80) (by omega) (by omega)).mp h) f0)
  refine zr_aload_n dX9_cell_38 rfl ?_
  refine zt_getr zg_X9_22 dX9_cell_39 rfl rfl rfl ?_
  refine zr_aload_n dX9_cell_42 rfl ?_
  refine zt_geti zg_X9_106 dX9_cell_43 rfl rfl rfl ?_
  refine zr_top (c2) ?_
  refine zr_aload_n dX9_cell_46 rfl ?_
  refine zt_geti zg_X9_99 dX9_cell_47 rfl rfl rfl ?_
  refine zr_top (c0) ?_
  refine zt_istN dX9_cell_50 rfl rfl rfl (by omega) ?_
  refine zr_aload_n dX9_cell_51 rfl ?_
  refine zt_getr zg_X9_28 dX9_cell_52 rfl rfl rfl ?_
  refine zr_aload_n dX9_cell_55 rfl ?_
  refine zt_geti zg_X9_106 dX9_cell_56 rfl rfl rfl ?_
  refine zr_top (c2) ?_
  refine zr_aload_n dX9_cell_59 rfl ?_
  refine zt_geti zg_X9_99 dX9_cell_60 rfl rfl rfl ?_
  refine zr_top (c0) ?_
  refine zt_istN dX9_cell_63 rfl rfl rfl (by omega) ?_
  refine zr_aload_n dX9_cell_64 rfl ?_
  refine zt_getr zg_X9_25 dX9_cell_65 rfl rfl rfl ?_
  refine zr_aload_n dX9_cell_68 rfl ?_
  refine zt_geti zg_X9_106 dX9_cell_69 rfl rfl rfl ?_
  refine zr_top (c2) ?_
  refine zr_iload_n dX9_cell_72 rfl ?_
  refine zt_istN dX9_cell_73 rfl rfl rfl (by omega) ?_
  refine zr_aload_n dX9_cell_74 rfl ?_
  refine zt_getr zg_X9_56 dX9_cell_75 rfl rfl rfl ?_
  refine zr_aload_n dX9_cell_78 rfl ?_
  refine zt_geti zg_X9_106 dX9_cell_79 rfl rfl rfl ?_
  refine zr_top (c2) ?_
  refine zr_iconst (v := 2) dX9_cell_82 kc_iconst_2 ?_
  refine zt_istN dX9_cell_83 rfl rfl rfl (by omega) ?_
  refine zr_aload_n dX9_cell_84 rfl ?_
  refine zt_getr zg_X9_31 dX9_cell_85 rfl rfl rfl ?_
  refine zr_aload_n dX9_cell_88 rfl ?_
  refine zt_geti zg_X9_106 dX9_cell_89 rfl rfl rfl ?_
  refine zr_top (c2) ?_
  refine zr_iconst (v := (-1)) dX9_cell_92 kc_iconst_m1 ?_
  refine zt_istN dX9_cell_93 rfl rfl rfl (by omega) ?_
  refine zr_aload_n dX9_cell_94 rfl ?_
  refine zt_getr zg_X9_34 dX9_cell_95 rfl rfl rfl ?_
  refine zr_aload_n dX9_cell_98 rfl ?_
  refine zt_geti zg_X9_106 dX9_cell_99 rfl rfl rfl ?_
  refine zr_top (c2) ?_
  refine zr_iconst (v := 0) dX9_cell_102 kc_iconst_0 ?_
  refine zt_zstN dX9_cell_103 rfl rfl rfl (by omega) (rfl) ?_
  refine zr_aload_n dX9_cell_104 rfl ?_
  refine zr_dup dX9_cell_105 rfl ?_
  refine zt_geti zg_X9_106 dX9_cell_106 rfl rfl rfl ?_
  refine zr_top (c2) ?_
  refine zr_iconst (v := 1) dX9_cell_109 kc_iconst_1 ?_
  refine zr_iadd dX9_cell_110 ?_
  refine zr_top (nI_1 nc) ?_
  refine zt_put zp_X9_106 dX9_cell_111 rfl rfl rfl rfl ?_
  refine zr_aload_n dX9_cell_114 rfl ?_
  refine zr_iconst (v := 2) dX9_cell_115 kc_iconst_2 ?_
  refine zr_aload_n dX9_cell_116 rfl ?_
  refine zt_geti zg_X9_106 dX9_cell_117 rfl rfl rfl ?_
  refine zr_top ((by simp [gz_wr, upd] : _ = nI (nc + 1))) ?_
  refine zr_iconst (v := 1) dX9_cell_120 kc_iconst_1 ?_
  refine zr_isub dX9_cell_121 ?_
  refine zr_top (nI_pred nc) ?_
  refine zt_callVi (As := [_, _]) (cm_fresh L _ n (by omega) (by simp [gz_wr, upd]; exact c0) 2 (nI nc)) zc_X9_112 rfl dX9_cell_122 rfl rfl rfl rfl rfl rfl ?_
  refine zr_iret dX9_cell_125 rfl (hQ _ _ ⟨rfl, ?_, fun k hk => ?_⟩)
  · refine hX0.circ (C' := sp_w (sp_w (sp_w (sp_w (sp_w (sp_w (sp_w (sp_w C 0 n 2) 1 n nc) 5 nc n) 6 nc j) 7 nc n) 12 nc 0) 9 0 (n + 1)) 9 2 (nc + 1)) ?_ ?_ ?_ (fun j hj => ?_) rfl rfl
    · obtain ⟨⟨p1, p2, p3, p4, p5⟩, q1, q2, q3, q4⟩ := rC
      refine ⟨⟨by simp [gz_wr, upd, sp_w], by simp [gz_wr, upd, sp_w]; exact p2, by simp [gz_wr, upd, sp_w], by simp [gz_wr, upd, sp_w]; exact p4, by simp [gz_wr, upd, sp_w]; exact p5⟩, fun l hl => ?_, fun c hc => ?_, fun i hi => ?_, fun t ht => ?_⟩
      · by_cases e : l = n
        · simp [gz_wr, upd, sp_w, e]
          rfl
        · have hl' : l < n + 1 := by simpa [sp_w] using hl
          have := q1 l (by omega)
          simp [gz_wr, upd, sp_w, e]
          exact this
      · by_cases e : c = nc
        · simp [gz_wr, upd, sp_w, e]
        · have hc' : c < nc + 1 := by simpa [sp_w] using hc
          have := q2 c (by omega)
          simp [gz_wr, upd, sp_w, e]
          exact this
      · have := q3 i (by simpa [sp_w] using hi)
        simp [gz_wr, upd, sp_w]
        exact this
      · have := q4 t (by simpa [sp_w] using ht)
        simp [gz_wr, upd, sp_w]
        exact this
    · obtain ⟨k1, k2, k3⟩ := rK
      refine ⟨k1, fun c hc => ?_, fun c hc => ?_⟩
      · have e : c ≠ nc := fun e => nin (e ▸ hc)
        simp [gz_wr, upd, sp_w, e]
        exact k2 c hc
      · by_cases e : c = nc
        · subst e
          refine ⟨fun _ => by simp [gz_wr, upd], fun k hk hm => absurd (sp_all_mem hk hm) nin⟩
        · have hc' : c < nc + 1 := by simpa [sp_w] using hc
          have := k3 c (by omega)
          simp [gz_wr, upd, e]
          exact this
    · obtain ⟨a1, a2, a3⟩ := rM
      refine ⟨a1, fun c hc => ?_, a3⟩
      by_cases e : c = nc
      · simp [gz_wr, upd, e, hz2 nc (Nat.le_refl _)]
        rfl
      · have hc' : c < nc + 1 := by simpa [sp_w] using hc
        simp [gz_wr, upd, e]
        exact a2 c (by omega)
    · rcases hj with rfl | rfl | rfl | rfl <;> rfl
  · simp only [gz_wr]
    rw [if_neg (by omega), if_neg (by omega), if_neg (by omega), if_neg (by omega), if_neg (by omega), if_neg (by omega), if_neg (by omega), if_neg (by omega), if_neg (by omega), if_neg (by omega)]
