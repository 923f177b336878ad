/-! ===== the bench: gate, cell, source, output, count, line, set, hold, clock, stick ===== -/
theorem so_f {op : Int32} (h : ap_v op 7 = false) : (if op < 0 then (0 : Int32) else if 6 < op then 0 else if op = 3 then 1 else if op = 4 then 3 else 2) = 0 := by
  rcases ap_v_f h (by decide) with q | ⟨q, q2⟩
  · rw [if_pos q]
  · rw [if_neg q, if_pos]
    rw [Int32.lt_iff_toInt_lt]
    rw [Int32.le_iff_toInt_le] at q2
    have e7 : (nI 7).toInt = 7 := rfl
    have e6 : (6 : Int32).toInt = 6 := rfl
    omega
theorem so_t : ∀ o, o < 7 → (if nI o < 0 then (0 : Int32) else if 6 < nI o then 0 else if nI o = 3 then 1 else if nI o = 4 then 3 else 2) = (if o = 3 then 1 else if o = 4 then 3 else 2) := by decide
theorem so_3 : ∀ o, o < 7 → (nI o = 3 ↔ o = 3) := by decide
theorem so_4 : ∀ o, o < 7 → (nI o = 4 ↔ o = 4) := by decide
theorem ap_X.addg {σ : gz_Mm} {C : sp_T} {K : sp_K} {m : sp_T} {r : Nat × Int32 × Nat × Nat × (Nat → Int32) × (Nat → Int32)} (hX0 : ap_X σ (C, K, m, r)) (rC : rx_C σ C) (rT : rx_T σ C) (rO : ∀ l, l < 80 → σ 18 l = sp_b (sp_io C l (C 9 3))) (o ja jb jc : Nat) (oI a b c : Int32) (ho : oI = nI o) (h7 : o < 7) (eb : o ≠ 3 → b = nI jb) (ec : o = 4 → c = nI jc) (ea : a = nI ja := by rfl) :
    ap_X (gz_wr (gz_wr (gz_wr (gz_wr (gz_wr (gz_wr σ 13 (C 9 0) 1) 14 (C 9 0) oI) 12 0 (nI (C 9 0 + 1))) 15 (C 9 0) a) 16 (C 9 0) b) 17 (C 9 0) c) (sp_w (sp_w (sp_w (sp_w (sp_w (sp_w C 0 (C 9 0) 1) 1 (C 9 0) o) 2 (C 9 0) ja) 3 (C 9 0) jb) 4 (C 9 0) jc) 9 0 (C 9 0 + 1), K, m, r) := by
  refine hX0.circ ?_ (fun k hk => by simp [gz_wr, show ¬ k = 12 by omega, show ¬ k = 13 by omega, show ¬ k = 14 by omega, show ¬ k = 15 by omega, show ¬ k = 16 by omega, show ¬ k = 17 by omega]) (fun c _ => by simp [sp_w]) (rT.kept (fun k h1 h2 => by simp [gz_wr, show ¬ k = 12 by omega, show ¬ k = 13 by omega, show ¬ k = 14 by omega, show ¬ k = 15 by omega, show ¬ k = 16 by omega, show ¬ k = 17 by omega]) (by simp [sp_w]) (fun t => by simp [sp_w]) (fun t => by simp [sp_w])) (fun l hl => ?_)
  · refine ⟨⟨by simp [gz_wr, upd, sp_w], by simp [gz_wr, upd, sp_w]; exact rC.1.2.1, by simp [gz_wr, upd, sp_w]; exact rC.1.2.2.1, by simp [gz_wr, upd, sp_w]; exact rC.1.2.2.2⟩, fun l hl => ?_, fun c hc => ?_, fun i hi => ?_⟩
    · by_cases el : l = C 9 0
      · subst el
        simp [gz_wr, upd, sp_w]
        exact ⟨rfl, ho, ea, eb, ec⟩
      · have := rC.2.1 l (by simp [sp_w] at hl; omega)
        simpa [gz_wr, upd, sp_w, el] using this
    · simpa [gz_wr, upd, sp_w] using rC.2.2.1 c (by simpa [sp_w] using hc)
    · simpa [gz_wr, upd, sp_w] using rC.2.2.2 i (by simpa [sp_w] using hi)
  · rw [sp_io_congr (C := C) (fun i => by simp [sp_w])]
    simpa [gz_wr, sp_w] using rO l hl
theorem cx_gate (L : Nat) (σ : gz_Mm) (S : ap_S) (hw : ap_wf S) (hX : ap_X σ S) (op a b c : Int32) : gz_Gi 2 yX8_gate cX8_gate 6 (some .int) L [.ref 11, .int op, .int a, .int b, .int c] σ (ap_P σ (fa_gate op a b c S)) := by
  obtain ⟨C, K, m, tg, tk, no, nu, fO, fU⟩ := S
  obtain ⟨hC, hK, hm, htg, hno, hnu, hz0, hz2⟩ := hw
  have hX0 := hX
  obtain ⟨⟨rC, rK, rM⟩, ⟨r5, r7⟩, rT, rR, rO, rS⟩ := hX
  have h80 := hC.1.1
  have h8 := hC.1.2.1
  have h20 := hC.1.2.2.1
  refine gz_Gi.of rfl rfl (fun Q hQ => ?_)
  cases hop : ap_v op 7 with
  | false =>
    have e : fa_gate op a b c (C, K, m, tg, tk, no, nu, fO, fU) = (-1002, (C, K, m, tg, tk, no, nu, fO, fU)) := by simp [fa_gate, hop]
    rw [e] at hQ
    refine zr_iload_n dX8_gate_0 rfl ?_
    refine zt_callSi (As := [_]) (ca_sourcesOf L σ op) zc_X8_84 rfl dX8_gate_1 rfl rfl rfl ?_
    refine zr_top (so_f hop) ?_
    refine zr_istore dX8_gate_4 (by decide) rfl ?_
    refine zr_iload dX8_gate_6 rfl ?_
    refine zr_iconst (v := 1) dX8_gate_8 kc_iconst_1 ?_
    refine zr_icmp_lt 23 dX8_gate_9 (by decide) (fun hp9 => ?_) (fun h => absurd h (by decide))
    refine zr_iload dX8_gate_23 rfl ?_
    refine zr_iconst (v := 2) dX8_gate_25 kc_iconst_2 ?_
    refine zr_icmp_lt 40 dX8_gate_26 (by decide) (fun hp26 => ?_) (fun h => absurd h (by decide))
    refine zr_iload dX8_gate_40 rfl ?_
    refine zr_iconst (v := 3) dX8_gate_42 kc_iconst_3 ?_
    refine zr_icmp_lt 62 dX8_gate_43 (by decide) (fun hp43 => ?_) (fun h => absurd h (by decide))
    refine zr_iload dX8_gate_62 rfl ?_
    refine zr_if_ne 71 dX8_gate_64 (by decide) (fun h => absurd h (by decide)) (fun hp64 => ?_)
    refine zr_sipush (v := (-1002)) dX8_gate_67 kc_sipush_m1002 ?_
    exact zr_iret dX8_gate_70 rfl (hQ _ _ ⟨rfl, hX0, fun _ _ => rfl⟩)
  | true =>
    obtain ⟨o, ho, rfl, eo⟩ := ap_v_t hop (by decide)
    have h3 := so_3 o ho
    have h4 := so_4 o ho
    rcases (show o = 3 ∨ o = 4 ∨ (o ≠ 3 ∧ o ≠ 4) by omega) with q | q | q
    · have e3 : nI o = 3 ↔ True := iff_true_intro (h3.mpr q)
      have e4 : nI o = 4 ↔ False := iff_false_intro (fun z => by have := h4.mp z; omega)
      cases ha : ap_v a (C 9 0) with
      | false =>
        have e : fa_gate (nI o) a b c (C, K, m, tg, tk, no, nu, fO, fU) = (-1001, (C, K, m, tg, tk, no, nu, fO, fU)) := by simp [fa_gate, hop, ha]
        rw [e] at hQ
        refine zr_iload_n dX8_gate_0 rfl ?_
        refine zt_callSi (As := [_]) (ca_sourcesOf L σ _) zc_X8_84 rfl dX8_gate_1 rfl rfl rfl ?_
        refine zr_top ((show _ = (1 : Int32) from (so_t o ho).trans (by simp [q]))) ?_
        refine zr_istore dX8_gate_4 (by decide) rfl ?_
        refine zr_iload dX8_gate_6 rfl ?_
        refine zr_iconst (v := 1) dX8_gate_8 kc_iconst_1 ?_
        refine zr_icmp_lt 23 dX8_gate_9 (by decide) (fun h => absurd h (by decide)) (fun hp9 => ?_)
        refine zr_aload_n dX8_gate_12 rfl ?_
        refine zt_getr zg_X8_10 dX8_gate_13 rfl rfl rfl ?_
        refine zr_iload_n dX8_gate_16 rfl ?_
        refine zt_callVi (As := [_]) (ca_hasLineB L σ a (C 9 0) (by omega) rC.1.1) zc_X8_88 rfl dX8_gate_17 rfl rfl rfl rfl rfl rfl ?_
        refine zr_top (congrArg sp_b ha) ?_
        refine zr_if_eq 58 dX8_gate_20 (by decide) (fun hp20 => ?_) (fun h => absurd h (by decide))
        refine zr_sipush (v := (-1001)) dX8_gate_58 kc_sipush_m1001 ?_
        exact zr_iret dX8_gate_61 rfl (hQ _ _ ⟨rfl, hX0, fun _ _ => rfl⟩)
      | true =>
        by_cases f1 : C 9 0 = 80
        · have e : fa_gate (nI o) a b c (C, K, m, tg, tk, no, nu, fO, fU) = (-1004, (C, K, m, tg, tk, no, nu, fO, fU)) := by simp [fa_gate, f1, hop, f1 ▸ ha, e3, e4]
          rw [e] at hQ
          refine zr_iload_n dX8_gate_0 rfl ?_
          refine zt_callSi (As := [_]) (ca_sourcesOf L σ _) zc_X8_84 rfl dX8_gate_1 rfl rfl rfl ?_
          refine zr_top ((show _ = (1 : Int32) from (so_t o ho).trans (by simp [q]))) ?_
          refine zr_istore dX8_gate_4 (by decide) rfl ?_
          refine zr_iload dX8_gate_6 rfl ?_
          refine zr_iconst (v := 1) dX8_gate_8 kc_iconst_1 ?_
          refine zr_icmp_lt 23 dX8_gate_9 (by decide) (fun h => absurd h (by decide)) (fun hp9 => ?_)
          refine zr_aload_n dX8_gate_12 rfl ?_
          refine zt_getr zg_X8_10 dX8_gate_13 rfl rfl rfl ?_
          refine zr_iload_n dX8_gate_16 rfl ?_
          refine zt_callVi (As := [_]) (ca_hasLineB L σ a (C 9 0) (by omega) rC.1.1) zc_X8_88 rfl dX8_gate_17 rfl rfl rfl rfl rfl rfl ?_
          refine zr_top (congrArg sp_b ha) ?_
          refine zr_if_eq 58 dX8_gate_20 (by decide) (fun h => absurd h (by decide)) (fun hp20 => ?_)
          refine zr_iload dX8_gate_23 rfl ?_
          refine zr_iconst (v := 2) dX8_gate_25 kc_iconst_2 ?_
          refine zr_icmp_lt 40 dX8_gate_26 (by decide) (fun hp26 => ?_) (fun h => absurd h (by decide))
          refine zr_iload dX8_gate_40 rfl ?_
          refine zr_iconst (v := 3) dX8_gate_42 kc_iconst_3 ?_
          refine zr_icmp_lt 62 dX8_gate_43 (by decide) (fun hp43 => ?_) (fun h => absurd h (by decide))
          refine zr_iload dX8_gate_62 rfl ?_
          refine zr_if_ne 71 dX8_gate_64 (by decide) (fun hp64 => ?_) (fun h => absurd h (by decide))
          refine zr_aload_n dX8_gate_71 rfl ?_
          refine zt_getr zg_X8_10 dX8_gate_72 rfl rfl rfl ?_
          refine zt_geti zg_X8_73 dX8_gate_75 rfl rfl rfl ?_
          refine zr_top (rC.1.1.trans (congrArg nI f1)) ?_
          refine zr_bipush (v := 80) dX8_gate_78 kc_bipush_80 ?_
          refine zr_icmp_lt 87 dX8_gate_80 (by decide) (fun h => absurd h (by decide)) (fun hp80 => ?_)
          refine zr_sipush (v := (-1004)) dX8_gate_83 kc_sipush_m1004 ?_
          exact zr_iret dX8_gate_86 rfl (hQ _ _ ⟨rfl, hX0, fun _ _ => rfl⟩)
        · have n80 : C 9 0 < 80 := by omega
          obtain ⟨ja, hja, rfl, ea⟩ := ap_v_t ha (by omega)
          have e : fa_gate (nI o) (nI ja) b c (C, K, m, tg, tk, no, nu, fO, fU) = (nI (C 9 0), (sp_w (sp_w (sp_w (sp_w (sp_w (sp_w C 0 (C 9 0) 1) 1 (C 9 0) o) 2 (C 9 0) ja) 3 (C 9 0) ja) 4 (C 9 0) ja) 9 0 (C 9 0 + 1), K, m, tg, tk, no, nu, fO, fU)) := by simp [fa_gate, f1, hop, ha, e3, e4, eo, ea]
          rw [e] at hQ
          refine zr_iload_n dX8_gate_0 rfl ?_
          refine zt_callSi (As := [_]) (ca_sourcesOf L σ _) zc_X8_84 rfl dX8_gate_1 rfl rfl rfl ?_
          refine zr_top ((show _ = (1 : Int32) from (so_t o ho).trans (by simp [q]))) ?_
          refine zr_istore dX8_gate_4 (by decide) rfl ?_
          refine zr_iload dX8_gate_6 rfl ?_
          refine zr_iconst (v := 1) dX8_gate_8 kc_iconst_1 ?_
          refine zr_icmp_lt 23 dX8_gate_9 (by decide) (fun h => absurd h (by decide)) (fun hp9 => ?_)
          refine zr_aload_n dX8_gate_12 rfl ?_
          refine zt_getr zg_X8_10 dX8_gate_13 rfl rfl rfl ?_
          refine zr_iload_n dX8_gate_16 rfl ?_
          refine zt_callVi (As := [_]) (ca_hasLineB L σ _ (C 9 0) (by omega) rC.1.1) zc_X8_88 rfl dX8_gate_17 rfl rfl rfl rfl rfl rfl ?_
          refine zr_top (congrArg sp_b ha) ?_
          refine zr_if_eq 58 dX8_gate_20 (by decide) (fun h => absurd h (by decide)) (fun hp20 => ?_)
          refine zr_iload dX8_gate_23 rfl ?_
          refine zr_iconst (v := 2) dX8_gate_25 kc_iconst_2 ?_
          refine zr_icmp_lt 40 dX8_gate_26 (by decide) (fun hp26 => ?_) (fun h => absurd h (by decide))
          refine zr_iload dX8_gate_40 rfl ?_
          refine zr_iconst (v := 3) dX8_gate_42 kc_iconst_3 ?_
          refine zr_icmp_lt 62 dX8_gate_43 (by decide) (fun hp43 => ?_) (fun h => absurd h (by decide))
          refine zr_iload dX8_gate_62 rfl ?_
          refine zr_if_ne 71 dX8_gate_64 (by decide) (fun hp64 => ?_) (fun h => absurd h (by decide))
          refine zr_aload_n dX8_gate_71 rfl ?_
          refine zt_getr zg_X8_10 dX8_gate_72 rfl rfl rfl ?_
          refine zt_geti zg_X8_73 dX8_gate_75 rfl rfl rfl ?_
          refine zr_top (rC.1.1) ?_
          refine zr_bipush (v := 80) dX8_gate_78 kc_bipush_80 ?_
          refine zr_icmp_lt 87 dX8_gate_80 (by decide) (fun hp80 => ?_) (fun h => absurd (nI_lt (b := 80) n80 (by omega)) h)
          refine zr_aload_n dX8_gate_87 rfl ?_
          refine zt_getr zg_X8_10 dX8_gate_88 rfl rfl rfl ?_
          refine zr_iload_n dX8_gate_91 rfl ?_
          refine zr_iload_n dX8_gate_92 rfl ?_
          refine zr_iload_n dX8_gate_93 rfl ?_
          refine zr_iload dX8_gate_94 rfl ?_
          refine zt_callVi (As := [_, _, _, _]) (ca_addGate L σ (C 9 0) n80 rC.1.1 _ _ _ _) zc_X8_92 rfl dX8_gate_96 rfl rfl rfl rfl rfl rfl ?_
          refine zr_iret dX8_gate_99 rfl (hQ _ _ ⟨rfl, ?_, fun k hk => by simp [gz_wr, show ¬ k = 12 by omega, show ¬ k = 13 by omega, show ¬ k = 14 by omega, show ¬ k = 15 by omega, show ¬ k = 16 by omega, show ¬ k = 17 by omega]⟩)
          exact hX0.addg rC rT rO _ _ _ _ _ _ _ _ rfl (by omega) (fun z => absurd q z) (fun z => absurd z (by omega))
    · have e3 : nI o = 3 ↔ False := iff_false_intro (fun z => by have := h3.mp z; omega)
      have e4 : nI o = 4 ↔ True := iff_true_intro (h4.mpr q)
      cases ha : ap_v a (C 9 0) with
      | false =>
        have e : fa_gate (nI o) a b c (C, K, m, tg, tk, no, nu, fO, fU) = (-1001, (C, K, m, tg, tk, no, nu, fO, fU)) := by simp [fa_gate, hop, ha]
        rw [e] at hQ
        refine zr_iload_n dX8_gate_0 rfl ?_
        refine zt_callSi (As := [_]) (ca_sourcesOf L σ _) zc_X8_84 rfl dX8_gate_1 rfl rfl rfl ?_
        refine zr_top ((show _ = (3 : Int32) from (so_t o ho).trans (by simp [q]))) ?_
        refine zr_istore dX8_gate_4 (by decide) rfl ?_
        refine zr_iload dX8_gate_6 rfl ?_
        refine zr_iconst (v := 1) dX8_gate_8 kc_iconst_1 ?_
        refine zr_icmp_lt 23 dX8_gate_9 (by decide) (fun h => absurd h (by decide)) (fun hp9 => ?_)
        refine zr_aload_n dX8_gate_12 rfl ?_
        refine zt_getr zg_X8_10 dX8_gate_13 rfl rfl rfl ?_
        refine zr_iload_n dX8_gate_16 rfl ?_
        refine zt_callVi (As := [_]) (ca_hasLineB L σ a (C 9 0) (by omega) rC.1.1) zc_X8_88 rfl dX8_gate_17 rfl rfl rfl rfl rfl rfl ?_
        refine zr_top (congrArg sp_b ha) ?_
        refine zr_if_eq 58 dX8_gate_20 (by decide) (fun hp20 => ?_) (fun h => absurd h (by decide))
        refine zr_sipush (v := (-1001)) dX8_gate_58 kc_sipush_m1001 ?_
        exact zr_iret dX8_gate_61 rfl (hQ _ _ ⟨rfl, hX0, fun _ _ => rfl⟩)
      | true =>
        cases hb : ap_v b (C 9 0) with
        | false =>
          have e : fa_gate (nI o) a b c (C, K, m, tg, tk, no, nu, fO, fU) = (-1001, (C, K, m, tg, tk, no, nu, fO, fU)) := by simp [fa_gate, hop, ha, hb, e3]
          rw [e] at hQ
          refine zr_iload_n dX8_gate_0 rfl ?_
          refine zt_callSi (As := [_]) (ca_sourcesOf L σ _) zc_X8_84 rfl dX8_gate_1 rfl rfl rfl ?_
          refine zr_top ((show _ = (3 : Int32) from (so_t o ho).trans (by simp [q]))) ?_
          refine zr_istore dX8_gate_4 (by decide) rfl ?_
          refine zr_iload dX8_gate_6 rfl ?_
          refine zr_iconst (v := 1) dX8_gate_8 kc_iconst_1 ?_
          refine zr_icmp_lt 23 dX8_gate_9 (by decide) (fun h => absurd h (by decide)) (fun hp9 => ?_)
          refine zr_aload_n dX8_gate_12 rfl ?_
          refine zt_getr zg_X8_10 dX8_gate_13 rfl rfl rfl ?_
          refine zr_iload_n dX8_gate_16 rfl ?_
          refine zt_callVi (As := [_]) (ca_hasLineB L σ a (C 9 0) (by omega) rC.1.1) zc_X8_88 rfl dX8_gate_17 rfl rfl rfl rfl rfl rfl ?_
          refine zr_top (congrArg sp_b ha) ?_
          refine zr_if_eq 58 dX8_gate_20 (by decide) (fun h => absurd h (by decide)) (fun hp20 => ?_)
          refine zr_iload dX8_gate_23 rfl ?_
          refine zr_iconst (v := 2) dX8_gate_25 kc_iconst_2 ?_
          refine zr_icmp_lt 40 dX8_gate_26 (by decide) (fun h => absurd h (by decide)) (fun hp26 => ?_)
          refine zr_aload_n dX8_gate_29 rfl ?_
          refine zt_getr zg_X8_10 dX8_gate_30 rfl rfl rfl ?_
          refine zr_iload_n dX8_gate_33 rfl ?_
          refine zt_callVi (As := [_]) (ca_hasLineB L σ b (C 9 0) (by omega) rC.1.1) zc_X8_88 rfl dX8_gate_34 rfl rfl rfl rfl rfl rfl ?_
          refine zr_top (congrArg sp_b hb) ?_
          refine zr_if_eq 58 dX8_gate_37 (by decide) (fun hp37 => ?_) (fun h => absurd h (by decide))
          refine zr_sipush (v := (-1001)) dX8_gate_58 kc_sipush_m1001 ?_
          exact zr_iret dX8_gate_61 rfl (hQ _ _ ⟨rfl, hX0, fun _ _ => rfl⟩)
        | true =>
          cases hcc : ap_v c (C 9 0) with
          | false =>
            have e : fa_gate (nI o) a b c (C, K, m, tg, tk, no, nu, fO, fU) = (-1001, (C, K, m, tg, tk, no, nu, fO, fU)) := by simp [fa_gate, hop, ha, hb, hcc, e3, e4]
            rw [e] at hQ
            refine zr_iload_n dX8_gate_0 rfl ?_
            refine zt_callSi (As := [_]) (ca_sourcesOf L σ _) zc_X8_84 rfl dX8_gate_1 rfl rfl rfl ?_
            refine zr_top ((show _ = (3 : Int32) from (so_t o ho).trans (by simp [q]))) ?_
            refine zr_istore dX8_gate_4 (by decide) rfl ?_
            refine zr_iload dX8_gate_6 rfl ?_
            refine zr_iconst (v := 1) dX8_gate_8 kc_iconst_1 ?_
            refine zr_icmp_lt 23 dX8_gate_9 (by decide) (fun h => absurd h (by decide)) (fun hp9 => ?_)
            refine zr_aload_n dX8_gate_12 rfl ?_
            refine zt_getr zg_X8_10 dX8_gate_13 rfl rfl rfl ?_
            refine zr_iload_n dX8_gate_16 rfl ?_
            refine zt_callVi (As := [_]) (ca_hasLineB L σ a (C 9 0) (by omega) rC.1.1) zc_X8_88 rfl dX8_gate_17 rfl rfl rfl rfl rfl rfl ?_
            refine zr_top (congrArg sp_b ha) ?_
            refine zr_if_eq 58 dX8_gate_20 (by decide) (fun h => absurd h (by decide)) (fun hp20 => ?_)
            refine zr_iload dX8_gate_23 rfl ?_
            refine zr_iconst (v := 2) dX8_gate_25 kc_iconst_2 ?_
            refine zr_icmp_lt 40 dX8_gate_26 (by decide) (fun h => absurd h (by decide)) (fun hp26 => ?_)
            refine zr_aload_n dX8_gate_29 rfl ?_
            refine zt_getr zg_X8_10 dX8_gate_30 rfl rfl rfl ?_
            refine zr_iload_n dX8_gate_33 rfl ?_
            refine zt_callVi (As := [_]) (ca_hasLineB L σ b (C 9 0) (by omega) rC.1.1) zc_X8_88 rfl dX8_gate_34 rfl rfl rfl rfl rfl rfl ?_
            refine zr_top (congrArg sp_b hb) ?_
            refine zr_if_eq 58 dX8_gate_37 (by decide) (fun h => absurd h (by decide)) (fun hp37 => ?_)
            refine zr_iload dX8_gate_40 rfl ?_
            refine zr_iconst (v := 3) dX8_gate_42 kc_iconst_3 ?_
            refine zr_icmp_lt 62 dX8_gate_43 (by decide) (fun h => absurd h (by decide)) (fun hp43 => ?_)
            refine zr_aload_n dX8_gate_46 rfl ?_
            refine zt_getr zg_X8_10 dX8_gate_47 rfl rfl rfl ?_
            refine zr_iload dX8_gate_50 rfl ?_
            refine zt_callVi (As := [_]) (ca_hasLineB L σ c (C 9 0) (by omega) rC.1.1) zc_X8_88 rfl dX8_gate_52 rfl rfl rfl rfl rfl rfl ?_
            refine zr_top (congrArg sp_b hcc) ?_
            refine zr_if_ne 62 dX8_gate_55 (by decide) (fun h => absurd h (by decide)) (fun hp55 => ?_)
            refine zr_sipush (v := (-1001)) dX8_gate_58 kc_sipush_m1001 ?_
            exact zr_iret dX8_gate_61 rfl (hQ _ _ ⟨rfl, hX0, fun _ _ => rfl⟩)
          | true =>
            by_cases f1 : C 9 0 = 80
            · have e : fa_gate (nI o) a b c (C, K, m, tg, tk, no, nu, fO, fU) = (-1004, (C, K, m, tg, tk, no, nu, fO, fU)) := by simp [fa_gate, f1, hop, f1 ▸ ha, f1 ▸ hb, f1 ▸ hcc, e3, e4]
              rw [e] at hQ
              refine zr_iload_n dX8_gate_0 rfl ?_
              refine zt_callSi (As := [_]) (ca_sourcesOf L σ _) zc_X8_84 rfl dX8_gate_1 rfl rfl rfl ?_
              refine zr_top ((show _ = (3 : Int32) from (so_t o ho).trans (by simp [q]))) ?_
              refine zr_istore dX8_gate_4 (by decide) rfl ?_
              refine zr_iload dX8_gate_6 rfl ?_
              refine zr_iconst (v := 1) dX8_gate_8 kc_iconst_1 ?_
              refine zr_icmp_lt 23 dX8_gate_9 (by decide) (fun h => absurd h (by decide)) (fun hp9 => ?_)
              refine zr_aload_n dX8_gate_12 rfl ?_
              refine zt_getr zg_X8_10 dX8_gate_13 rfl rfl rfl ?_
              refine zr_iload_n dX8_gate_16 rfl ?_
              refine zt_callVi (As := [_]) (ca_hasLineB L σ a (C 9 0) (by omega) rC.1.1) zc_X8_88 rfl dX8_gate_17 rfl rfl rfl rfl rfl rfl ?_
              refine zr_top (congrArg sp_b ha) ?_
              refine zr_if_eq 58 dX8_gate_20 (by decide) (fun h => absurd h (by decide)) (fun hp20 => ?_)
              refine zr_iload dX8_gate_23 rfl ?_
              refine zr_iconst (v := 2) dX8_gate_25 kc_iconst_2 ?_
              refine zr_icmp_lt 40 dX8_gate_26 (by decide) (fun h => absurd h (by decide)) (fun hp26 => ?_)
              refine zr_aload_n dX8_gate_29 rfl ?_
              refine zt_getr zg_X8_10 dX8_gate_30 rfl rfl rfl ?_
              refine zr_iload_n dX8_gate_33 rfl ?_
              refine zt_callVi (As := [_]) (ca_hasLineB L σ b (C 9 0) (by omega) rC.1.1) zc_X8_88 rfl dX8_gate_34 rfl rfl rfl rfl rfl rfl ?_
              refine zr_top (congrArg sp_b hb) ?_
              refine zr_if_eq 58 dX8_gate_37 (by decide) (fun h => absurd h (by decide)) (fun hp37 => ?_)
              refine zr_iload dX8_gate_40 rfl ?_
              refine zr_iconst (v := 3) dX8_gate_42 kc_iconst_3 ?_
              refine zr_icmp_lt 62 dX8_gate_43 (by decide) (fun h => absurd h (by decide)) (fun hp43 => ?_)
              refine zr_aload_n dX8_gate_46 rfl ?_
              refine zt_getr zg_X8_10 dX8_gate_47 rfl rfl rfl ?_
              refine zr_iload dX8_gate_50 rfl ?_
              refine zt_callVi (As := [_]) (ca_hasLineB L σ c (C 9 0) (by omega) rC.1.1) zc_X8_88 rfl dX8_gate_52 rfl rfl rfl rfl rfl rfl ?_
              refine zr_top (congrArg sp_b hcc) ?_
              refine zr_if_ne 62 dX8_gate_55 (by decide) (fun hp55 => ?_) (fun h => absurd h (by decide))
              refine zr_iload dX8_gate_62 rfl ?_
              refine zr_if_ne 71 dX8_gate_64 (by decide) (fun hp64 => ?_) (fun h => absurd h (by decide))
              refine zr_aload_n dX8_gate_71 rfl ?_
              refine zt_getr zg_X8_10 dX8_gate_72 rfl rfl rfl ?_
              refine zt_geti zg_X8_73 dX8_gate_75 rfl rfl rfl ?_
              refine zr_top (rC.1.1.trans (congrArg nI f1)) ?_
              refine zr_bipush (v := 80) dX8_gate_78 kc_bipush_80 ?_
              refine zr_icmp_lt 87 dX8_gate_80 (by decide) (fun h => absurd h (by decide)) (fun hp80 => ?_)
              refine zr_sipush (v := (-1004)) dX8_gate_83 kc_sipush_m1004 ?_
              exact zr_iret dX8_gate_86 rfl (hQ _ _ ⟨rfl, hX0, fun _ _ => rfl⟩)
            · have n80 : C 9 0 < 80 := by omega
              obtain ⟨ja, hja, rfl, ea⟩ := ap_v_t ha (by omega)
              obtain ⟨jb, hjb, rfl, eb⟩ := ap_v_t hb (by omega)
              obtain ⟨jc, hjc, rfl, ec⟩ := ap_v_t hcc (by omega)
              have e : fa_gate (nI o) (nI ja) (nI jb) (nI jc) (C, K, m, tg, tk, no, nu, fO, fU) = (nI (C 9 0), (sp_w (sp_w (sp_w (sp_w (sp_w (sp_w C 0 (C 9 0) 1) 1 (C 9 0) o) 2 (C 9 0) ja) 3 (C 9 0) jb) 4 (C 9 0) jc) 9 0 (C 9 0 + 1), K, m, tg, tk, no, nu, fO, fU)) := by simp [fa_gate, f1, hop, ha, hb, hcc, e3, e4, eo, ea, eb, ec]
              rw [e] at hQ
              refine zr_iload_n dX8_gate_0 rfl ?_
              refine zt_callSi (As := [_]) (ca_sourcesOf L σ _) zc_X8_84 rfl dX8_gate_1 rfl rfl rfl ?_
              refine zr_top ((show _ = (3 : Int32) from (so_t o ho).trans (by simp [q]))) ?_
              refine zr_istore dX8_gate_4 (by decide) rfl ?_
              refine zr_iload dX8_gate_6 rfl ?_
              refine zr_iconst (v := 1) dX8_gate_8 kc_iconst_1 ?_
              refine zr_icmp_lt 23 dX8_gate_9 (by decide) (fun h => absurd h (by decide)) (fun hp9 => ?_)
              refine zr_aload_n dX8_gate_12 rfl ?_
              refine zt_getr zg_X8_10 dX8_gate_13 rfl rfl rfl ?_
              refine zr_iload_n dX8_gate_16 rfl ?_
              refine zt_callVi (As := [_]) (ca_hasLineB L σ _ (C 9 0) (by omega) rC.1.1) zc_X8_88 rfl dX8_gate_17 rfl rfl rfl rfl rfl rfl ?_
              refine zr_top (congrArg sp_b ha) ?_
              refine zr_if_eq 58 dX8_gate_20 (by decide) (fun h => absurd h (by decide)) (fun hp20 => ?_)
              refine zr_iload dX8_gate_23 rfl ?_
              refine zr_iconst (v := 2) dX8_gate_25 kc_iconst_2 ?_
              refine zr_icmp_lt 40 dX8_gate_26 (by decide) (fun h => absurd h (by decide)) (fun hp26 => ?_)
              refine zr_aload_n dX8_gate_29 rfl ?_
              refine zt_getr zg_X8_10 dX8_gate_30 rfl rfl rfl ?_
              refine zr_iload_n dX8_gate_33 rfl ?_
              refine zt_callVi (As := [_]) (ca_hasLineB L σ _ (C 9 0) (by omega) rC.1.1) zc_X8_88 rfl dX8_gate_34 rfl rfl rfl rfl rfl rfl ?_
              refine zr_top (congrArg sp_b hb) ?_
              refine zr_if_eq 58 dX8_gate_37 (by decide) (fun h => absurd h (by decide)) (fun hp37 => ?_)
              refine zr_iload dX8_gate_40 rfl ?_
              refine zr_iconst (v := 3) dX8_gate_42 kc_iconst_3 ?_
              refine zr_icmp_lt 62 dX8_gate_43 (by decide) (fun h => absurd h (by decide)) (fun hp43 => ?_)
              refine zr_aload_n dX8_gate_46 rfl ?_
              refine zt_getr zg_X8_10 dX8_gate_47 rfl rfl rfl ?_
              refine zr_iload dX8_gate_50 rfl ?_
              refine zt_callVi (As := [_]) (ca_hasLineB L σ _ (C 9 0) (by omega) rC.1.1) zc_X8_88 rfl dX8_gate_52 rfl rfl rfl rfl rfl rfl ?_
              refine zr_top (congrArg sp_b hcc) ?_
              refine zr_if_ne 62 dX8_gate_55 (by decide) (fun hp55 => ?_) (fun h => absurd h (by decide))
              refine zr_iload dX8_gate_62 rfl ?_
              refine zr_if_ne 71 dX8_gate_64 (by decide) (fun hp64 => ?_) (fun h => absurd h (by decide))
              refine zr_aload_n dX8_gate_71 rfl ?_
              refine zt_getr zg_X8_10 dX8_gate_72 rfl rfl rfl ?_
              refine zt_geti zg_X8_73 dX8_gate_75 rfl rfl rfl ?_
              refine zr_top (rC.1.1) ?_
              refine zr_bipush (v := 80) dX8_gate_78 kc_bipush_80 ?_
              refine zr_icmp_lt 87 dX8_gate_80 (by decide) (fun hp80 => ?_) (fun h => absurd (nI_lt (b := 80) n80 (by omega)) h)
              refine zr_aload_n dX8_gate_87 rfl ?_
              refine zt_getr zg_X8_10 dX8_gate_88 rfl rfl rfl ?_
              refine zr_iload_n dX8_gate_91 rfl ?_
              refine zr_iload_n dX8_gate_92 rfl ?_
              refine zr_iload_n dX8_gate_93 rfl ?_
              refine zr_iload dX8_gate_94 rfl ?_
              refine zt_callVi (As := [_, _, _, _]) (ca_addGate L σ (C 9 0) n80 rC.1.1 _ _ _ _) zc_X8_92 rfl dX8_gate_96 rfl rfl rfl rfl rfl rfl ?_
              refine zr_iret dX8_gate_99 rfl (hQ _ _ ⟨rfl, ?_, fun k hk => by simp [gz_wr, show ¬ k = 12 by omega, show ¬ k = 13 by omega, show ¬ k = 14 by omega, show ¬ k = 15 by omega, show ¬ k = 16 by omega, show ¬ k = 17 by omega]⟩)
              exact hX0.addg rC rT rO _ _ _ _ _ _ _ _ rfl (by omega) (fun _ => rfl) (fun _ => rfl)
    · have e3 : nI o = 3 ↔ False := iff_false_intro (fun z => by have := h3.mp z; omega)
      have e4 : nI o = 4 ↔ False := iff_false_intro (fun z => by have := h4.mp z; omega)
      cases ha : ap_v a (C 9 0) with
      | false =>
        have e : fa_gate (nI o) a b c (C, K, m, tg, tk, no, nu, fO, fU) = (-1001, (C, K, m, tg, tk, no, nu, fO, fU)) := by simp [fa_gate, hop, ha]
        rw [e] at hQ
        refine zr_iload_n dX8_gate_0 rfl ?_
        refine zt_callSi (As := [_]) (ca_sourcesOf L σ _) zc_X8_84 rfl dX8_gate_1 rfl rfl rfl ?_
        refine zr_top ((show _ = (2 : Int32) from (so_t o ho).trans (by simp [q]))) ?_
        refine zr_istore dX8_gate_4 (by decide) rfl ?_
        refine zr_iload dX8_gate_6 rfl ?_
        refine zr_iconst (v := 1) dX8_gate_8 kc_iconst_1 ?_
        refine zr_icmp_lt 23 dX8_gate_9 (by decide) (fun h => absurd h (by decide)) (fun hp9 => ?_)
        refine zr_aload_n dX8_gate_12 rfl ?_
        refine zt_getr zg_X8_10 dX8_gate_13 rfl rfl rfl ?_
        refine zr_iload_n dX8_gate_16 rfl ?_
        refine zt_callVi (As := [_]) (ca_hasLineB L σ a (C 9 0) (by omega) rC.1.1) zc_X8_88 rfl dX8_gate_17 rfl rfl rfl rfl rfl rfl ?_
        refine zr_top (congrArg sp_b ha) ?_
        refine zr_if_eq 58 dX8_gate_20 (by decide) (fun hp20 => ?_) (fun h => absurd h (by decide))
        refine zr_sipush (v := (-1001)) dX8_gate_58 kc_sipush_m1001 ?_
        exact zr_iret dX8_gate_61 rfl (hQ _ _ ⟨rfl, hX0, fun _ _ => rfl⟩)
      | true =>
        cases hb : ap_v b (C 9 0) with
        | false =>
          have e : fa_gate (nI o) a b c (C, K, m, tg, tk, no, nu, fO, fU) = (-1001, (C, K, m, tg, tk, no, nu, fO, fU)) := by simp [fa_gate, hop, ha, hb, e3]
          rw [e] at hQ
          refine zr_iload_n dX8_gate_0 rfl ?_
          refine zt_callSi (As := [_]) (ca_sourcesOf L σ _) zc_X8_84 rfl dX8_gate_1 rfl rfl rfl ?_
          refine zr_top ((show _ = (2 : Int32) from (so_t o ho).trans (by simp [q]))) ?_
          refine zr_istore dX8_gate_4 (by decide) rfl ?_
          refine zr_iload dX8_gate_6 rfl ?_
          refine zr_iconst (v := 1) dX8_gate_8 kc_iconst_1 ?_
          refine zr_icmp_lt 23 dX8_gate_9 (by decide) (fun h => absurd h (by decide)) (fun hp9 => ?_)
          refine zr_aload_n dX8_gate_12 rfl ?_
          refine zt_getr zg_X8_10 dX8_gate_13 rfl rfl rfl ?_
          refine zr_iload_n dX8_gate_16 rfl ?_
          refine zt_callVi (As := [_]) (ca_hasLineB L σ a (C 9 0) (by omega) rC.1.1) zc_X8_88 rfl dX8_gate_17 rfl rfl rfl rfl rfl rfl ?_
          refine zr_top (congrArg sp_b ha) ?_
          refine zr_if_eq 58 dX8_gate_20 (by decide) (fun h => absurd h (by decide)) (fun hp20 => ?_)
          refine zr_iload dX8_gate_23 rfl ?_
          refine zr_iconst (v := 2) dX8_gate_25 kc_iconst_2 ?_
          refine zr_icmp_lt 40 dX8_gate_26 (by decide) (fun h => absurd h (by decide)) (fun hp26 => ?_)
          refine zr_aload_n dX8_gate_29 rfl ?_
          refine zt_getr zg_X8_10 dX8_gate_30 rfl rfl rfl ?_
          refine zr_iload_n dX8_gate_33 rfl ?_
          refine zt_callVi (As := [_]) (ca_hasLineB L σ b (C 9 0) (by omega) rC.1.1) zc_X8_88 rfl dX8_gate_34 rfl rfl rfl rfl rfl rfl ?_
          refine zr_top (congrArg sp_b hb) ?_
          refine zr_if_eq 58 dX8_gate_37 (by decide) (fun hp37 => ?_) (fun h => absurd h (by decide))
          refine zr_sipush (v := (-1001)) dX8_gate_58 kc_sipush_m1001 ?_
          exact zr_iret dX8_gate_61 rfl (hQ _ _ ⟨rfl, hX0, fun _ _ => rfl⟩)
        | true =>
          by_cases f1 : C 9 0 = 80
          · have e : fa_gate (nI o) a b c (C, K, m, tg, tk, no, nu, fO, fU) = (-1004, (C, K, m, tg, tk, no, nu, fO, fU)) := by simp [fa_gate, f1, hop, f1 ▸ ha, f1 ▸ hb, e3, e4]
            rw [e] at hQ
            refine zr_iload_n dX8_gate_0 rfl ?_
            refine zt_callSi (As := [_]) (ca_sourcesOf L σ _) zc_X8_84 rfl dX8_gate_1 rfl rfl rfl ?_
            refine zr_top ((show _ = (2 : Int32) from (so_t o ho).trans (by simp [q]))) ?_
            refine zr_istore dX8_gate_4 (by decide) rfl ?_
            refine zr_iload dX8_gate_6 rfl ?_
            refine zr_iconst (v := 1) dX8_gate_8 kc_iconst_1 ?_
            refine zr_icmp_lt 23 dX8_gate_9 (by decide) (fun h => absurd h (by decide)) (fun hp9 => ?_)
            refine zr_aload_n dX8_gate_12 rfl ?_
            refine zt_getr zg_X8_10 dX8_gate_13 rfl rfl rfl ?_
            refine zr_iload_n dX8_gate_16 rfl ?_
            refine zt_callVi (As := [_]) (ca_hasLineB L σ a (C 9 0) (by omega) rC.1.1) zc_X8_88 rfl dX8_gate_17 rfl rfl rfl rfl rfl rfl ?_
            refine zr_top (congrArg sp_b ha) ?_
            refine zr_if_eq 58 dX8_gate_20 (by decide) (fun h => absurd h (by decide)) (fun hp20 => ?_)
            refine zr_iload dX8_gate_23 rfl ?_
            refine zr_iconst (v := 2) dX8_gate_25 kc_iconst_2 ?_
            refine zr_icmp_lt 40 dX8_gate_26 (by decide) (fun h => absurd h (by decide)) (fun hp26 => ?_)
            refine zr_aload_n dX8_gate_29 rfl ?_
            refine zt_getr zg_X8_10 dX8_gate_30 rfl rfl rfl ?_
            refine zr_iload_n dX8_gate_33 rfl ?_
            refine zt_callVi (As := [_]) (ca_hasLineB L σ b (C 9 0) (by omega) rC.1.1) zc_X8_88 rfl dX8_gate_34 rfl rfl rfl rfl rfl rfl ?_
            refine zr_top (congrArg sp_b hb) ?_
            refine zr_if_eq 58 dX8_gate_37 (by decide) (fun h => absurd h (by decide)) (fun hp37 => ?_)
            refine zr_iload dX8_gate_40 rfl ?_
            refine zr_iconst (v := 3) dX8_gate_42 kc_iconst_3 ?_
            refine zr_icmp_lt 62 dX8_gate_43 (by decide) (fun hp43 => ?_) (fun h => absurd h (by decide))
            refine zr_iload dX8_gate_62 rfl ?_
            refine zr_if_ne 71 dX8_gate_64 (by decide) (fun hp64 => ?_) (fun h => absurd h (by decide))
            refine zr_aload_n dX8_gate_71 rfl ?_
            refine zt_getr zg_X8_10 dX8_gate_72 rfl rfl rfl ?_
            refine zt_geti zg_X8_73 dX8_gate_75 rfl rfl rfl ?_
            refine zr_top (rC.1.1.trans (congrArg nI f1)) ?_
            refine zr_bipush (v := 80) dX8_gate_78 kc_bipush_80 ?_
            refine zr_icmp_lt 87 dX8_gate_80 (by decide) (fun h => absurd h (by decide)) (fun hp80 => ?_)
            refine zr_sipush (v := (-1004)) dX8_gate_83 kc_sipush_m1004 ?_
            exact zr_iret dX8_gate_86 rfl (hQ _ _ ⟨rfl, hX0, fun _ _ => rfl⟩)
          · have n80 : C 9 0 < 80 := by omega
            obtain ⟨ja, hja, rfl, ea⟩ := ap_v_t ha (by omega)
            obtain ⟨jb, hjb, rfl, eb⟩ := ap_v_t hb (by omega)
            have e : fa_gate (nI o) (nI ja) (nI jb) c (C, K, m, tg, tk, no, nu, fO, fU) = (nI (C 9 0), (sp_w (sp_w (sp_w (sp_w (sp_w (sp_w C 0 (C 9 0) 1) 1 (C 9 0) o) 2 (C 9 0) ja) 3 (C 9 0) jb) 4 (C 9 0) ja) 9 0 (C 9 0 + 1), K, m, tg, tk, no, nu, fO, fU)) := by simp [fa_gate, f1, hop, ha, hb, e3, e4, eo, ea, eb]
            rw [e] at hQ
            refine zr_iload_n dX8_gate_0 rfl ?_
            refine zt_callSi (As := [_]) (ca_sourcesOf L σ _) zc_X8_84 rfl dX8_gate_1 rfl rfl rfl ?_
            refine zr_top ((show _ = (2 : Int32) from (so_t o ho).trans (by simp [q]))) ?_
            refine zr_istore dX8_gate_4 (by decide) rfl ?_
            refine zr_iload dX8_gate_6 rfl ?_
            refine zr_iconst (v := 1) dX8_gate_8 kc_iconst_1 ?_
            refine zr_icmp_lt 23 dX8_gate_9 (by decide) (fun h => absurd h (by decide)) (fun hp9 => ?_)
            refine zr_aload_n dX8_gate_12 rfl ?_
            refine zt_getr zg_X8_10 dX8_gate_13 rfl rfl rfl ?_
            refine zr_iload_n dX8_gate_16 rfl ?_
            refine zt_callVi (As := [_]) (ca_hasLineB L σ _ (C 9 0) (by omega) rC.1.1) zc_X8_88 rfl dX8_gate_17 rfl rfl rfl rfl rfl rfl ?_
            refine zr_top (congrArg sp_b ha) ?_
            refine zr_if_eq 58 dX8_gate_20 (by decide) (fun h => absurd h (by decide)) (fun hp20 => ?_)
            refine zr_iload dX8_gate_23 rfl ?_
            refine zr_iconst (v := 2) dX8_gate_25 kc_iconst_2 ?_
            refine zr_icmp_lt 40 dX8_gate_26 (by decide) (fun h => absurd h (by decide)) (fun hp26 => ?_)
            refine zr_aload_n dX8_gate_29 rfl ?_
            refine zt_getr zg_X8_10 dX8_gate_30 rfl rfl rfl ?_
            refine zr_iload_n dX8_gate_33 rfl ?_
            refine zt_callVi (As := [_]) (ca_hasLineB L σ _ (C 9 0) (by omega) rC.1.1) zc_X8_88 rfl dX8_gate_34 rfl rfl rfl rfl rfl rfl ?_
            refine zr_top (congrArg sp_b hb) ?_
            refine zr_if_eq 58 dX8_gate_37 (by decide) (fun h => absurd h (by decide)) (fun hp37 => ?_)
            refine zr_iload dX8_gate_40 rfl ?_
            refine zr_iconst (v := 3) dX8_gate_42 kc_iconst_3 ?_
            refine zr_icmp_lt 62 dX8_gate_43 (by decide) (fun hp43 => ?_) (fun h => absurd h (by decide))
            refine zr_iload dX8_gate_62 rfl ?_
            refine zr_if_ne 71 dX8_gate_64 (by decide) (fun hp64 => ?_) (fun h => absurd h (by decide))
            refine zr_aload_n dX8_gate_71 rfl ?_
            refine zt_getr zg_X8_10 dX8_gate_72 rfl rfl rfl ?_
            refine zt_geti zg_X8_73 dX8_gate_75 rfl rfl rfl ?_
            refine zr_top (rC.1.1) ?_
            refine zr_bipush (v := 80) dX8_gate_78 kc_bipush_80 ?_
            refine zr_icmp_lt 87 dX8_gate_80 (by decide) (fun hp80 => ?_) (fun h => absurd (nI_lt (b := 80) n80 (by omega)) h)
            refine zr_aload_n dX8_gate_87 rfl ?_
            refine zt_getr zg_X8_10 dX8_gate_88 rfl rfl rfl ?_
            refine zr_iload_n dX8_gate_91 rfl ?_
            refine zr_iload_n dX8_gate_92 rfl ?_
            refine zr_iload_n dX8_gate_93 rfl ?_
            refine zr_iload dX8_gate_94 rfl ?_
            refine zt_callVi (As := [_, _, _, _]) (ca_addGate L σ (C 9 0) n80 rC.1.1 _ _ _ _) zc_X8_92 rfl dX8_gate_96 rfl rfl rfl rfl rfl rfl ?_
            refine zr_iret dX8_gate_99 rfl (hQ _ _ ⟨rfl, ?_, fun k hk => by simp [gz_wr, show ¬ k = 12 by omega, show ¬ k = 13 by omega, show ¬ k = 14 by omega, show ¬ k = 15 by omega, show ¬ k = 16 by omega, show ¬ k = 17 by omega]⟩)
            exact hX0.addg rC rT rO _ _ _ _ _ _ _ _ rfl (by omega) (fun _ => rfl) (fun z => absurd z (by omega))
