/-! ===== the bench: test, drive, seen, shows, shownBy, covers, same ===== -/
theorem bt_u : ∀ n, n < 32 → (((nI n).toUInt32 &&& Int32.toUInt32 31).toBitVec % 32).toNat = n := by decide
theorem i32_cond (x : Int32) : x.toInt = if 2 * x.toBitVec.toNat < 2 ^ 32 then (x.toBitVec.toNat : Int) else (x.toBitVec.toNat : Int) - (2 ^ 32 : Nat) := BitVec.toInt_eq_toNat_cond x.toBitVec
theorem ap_vn {x : Int32} {k : Nat} (hk : k ≤ 20) : ap_v x (2 ^ k) = decide (x.toBitVec.toNat < 2 ^ k) := by
  have hp : 2 ^ k ≤ 2 ^ 20 := Nat.pow_le_pow_right (by decide) hk
  have hx : x.toBitVec.toNat < 2 ^ 32 := x.toBitVec.isLt
  unfold ap_v
  rw [i32_cond x]
  apply decide_eq_decide.mpr
  split
  · omega
  · omega
theorem ap_ush {x : Int32} {k : Nat} (hk : k ≤ 20) : (x.toUInt32 >>> ((nI k).toUInt32 &&& Int32.toUInt32 31)).toInt32 = 0 ↔ ap_v x (2 ^ k) = true := by
  have h := pk_ushr x (nI k) k (bt_u k (by omega))
  rw [ap_vn hk, decide_eq_true_iff]
  constructor
  · intro e
    rw [e] at h
    have h0 : (0 : Int32).toBitVec.toNat = 0 := rfl
    rw [h0] at h
    exact (Nat.div_eq_zero_iff.mp h.symm).resolve_left (by have := Nat.two_pow_pos k; omega)
  · intro hl
    rw [Nat.div_eq_of_lt hl] at h
    apply Int32.toBitVec_inj.mp
    apply BitVec.eq_of_toNat_eq
    rw [h]
    rfl
theorem cx_test (L : Nat) (σ : gz_Mm) (S : ap_S) (hw : ap_wf S) (hX : ap_X σ S) (a b : Int32) : gz_Gi 1 yX8_test cX8_test 3 (some .int) L [.ref 11, .int a, .int b] σ (ap_P σ (fa_test a b S)) := by
  obtain ⟨C, K, m, tg, tk, no, nu, fO, fU⟩ := S
  obtain ⟨hC, hK, hm, htg, hno, hnu, hz0, hz2⟩ := hw
  have hX0 := hX
  obtain ⟨⟨rC, rK, rM⟩, ⟨r5, r7⟩, rT, rR, rO, rS⟩ := hX
  have h80 := hC.1.1
  have h8 := hC.1.2.1
  have h20 := hC.1.2.2.1
  have hnt := hC.1.2.2.2.2
  have u1 := ap_ush (x := a) (k := C 9 1) (by omega)
  have u2 := ap_ush (x := b) (k := C 9 2) (by omega)
  refine gz_Gi.of rfl rfl (fun Q hQ => ?_)
  cases h1 : ap_v a (2 ^ (C 9 1)) with
  | false =>
    have e : fa_test a b (C, K, m, tg, tk, no, nu, fO, fU) = (-1002, (C, K, m, tg, tk, no, nu, fO, fU)) := by simp [fa_test, h1]
    rw [e] at hQ
    refine zr_iload_n dX8_test_0 rfl ?_
    refine zr_aload_n dX8_test_1 rfl ?_
    refine zt_getr zg_X8_10 dX8_test_2 rfl rfl rfl ?_
    refine zt_geti zg_X8_77 dX8_test_5 rfl rfl rfl ?_
    refine zr_top (rC.1.2.1) ?_
    refine zr_iushr dX8_test_8 ?_
    refine zr_if_ne 24 dX8_test_9 (by decide) (fun hp9 => ?_) (fun h => absurd (u1.mp h) (by rw [h1]; decide))
    refine zr_sipush (v := (-1002)) dX8_test_24 kc_sipush_m1002 ?_
    exact zr_iret dX8_test_27 rfl (hQ _ _ ⟨rfl, hX0, fun _ _ => rfl⟩)
  | true =>
    cases h2 : ap_v b (2 ^ (C 9 2)) with
    | false =>
      have e : fa_test a b (C, K, m, tg, tk, no, nu, fO, fU) = (-1002, (C, K, m, tg, tk, no, nu, fO, fU)) := by simp [fa_test, h2]
      rw [e] at hQ
      refine zr_iload_n dX8_test_0 rfl ?_
      refine zr_aload_n dX8_test_1 rfl ?_
      refine zt_getr zg_X8_10 dX8_test_2 rfl rfl rfl ?_
      refine zt_geti zg_X8_77 dX8_test_5 rfl rfl rfl ?_
      refine zr_top (rC.1.2.1) ?_
      refine zr_iushr dX8_test_8 ?_
      refine zr_if_ne 24 dX8_test_9 (by decide) (fun h => absurd (u1.mpr h1) h) (fun hp9 => ?_)
      refine zr_iload_n dX8_test_12 rfl ?_
      refine zr_aload_n dX8_test_13 rfl ?_
      refine zt_getr zg_X8_10 dX8_test_14 rfl rfl rfl ?_
      refine zt_geti zg_X8_96 dX8_test_17 rfl rfl rfl ?_
      refine zr_top (rC.1.2.2.1) ?_
      refine zr_iushr dX8_test_20 ?_
      refine zr_if_eq 28 dX8_test_21 (by decide) (fun h => absurd (u2.mp h) (by rw [h2]; decide)) (fun hp21 => ?_)
      refine zr_sipush (v := (-1002)) dX8_test_24 kc_sipush_m1002 ?_
      exact zr_iret dX8_test_27 rfl (hQ _ _ ⟨rfl, hX0, fun _ _ => rfl⟩)
    | true =>
      by_cases f1 : C 9 4 = 20
      · have e : fa_test a b (C, K, m, tg, tk, no, nu, fO, fU) = (-1004, (C, K, m, tg, tk, no, nu, fO, fU)) := by simp [fa_test, h1, h2, f1]
        rw [e] at hQ
        refine zr_iload_n dX8_test_0 rfl ?_
        refine zr_aload_n dX8_test_1 rfl ?_
        refine zt_getr zg_X8_10 dX8_test_2 rfl rfl rfl ?_
        refine zt_geti zg_X8_77 dX8_test_5 rfl rfl rfl ?_
        refine zr_top (rC.1.2.1) ?_
        refine zr_iushr dX8_test_8 ?_
        refine zr_if_ne 24 dX8_test_9 (by decide) (fun h => absurd (u1.mpr h1) h) (fun hp9 => ?_)
        refine zr_iload_n dX8_test_12 rfl ?_
        refine zr_aload_n dX8_test_13 rfl ?_
        refine zt_getr zg_X8_10 dX8_test_14 rfl rfl rfl ?_
        refine zt_geti zg_X8_96 dX8_test_17 rfl rfl rfl ?_
        refine zr_top (rC.1.2.2.1) ?_
        refine zr_iushr dX8_test_20 ?_
        refine zr_if_eq 28 dX8_test_21 (by decide) (fun hp21 => ?_) (fun h => absurd (u2.mpr h2) h)
        refine zr_aload_n dX8_test_28 rfl ?_
        refine zt_getr zg_X8_40 dX8_test_29 rfl rfl rfl ?_
        refine zt_geti zg_X8_118 dX8_test_32 rfl rfl rfl ?_
        refine zr_top (rT.1.trans (congrArg nI f1)) ?_
        refine zr_bipush (v := 20) dX8_test_35 kc_bipush_20 ?_
        refine zr_icmp_lt 44 dX8_test_37 (by decide) (fun h => absurd h (by decide)) (fun hp37 => ?_)
        refine zr_sipush (v := (-1004)) dX8_test_40 kc_sipush_m1004 ?_
        exact zr_iret dX8_test_43 rfl (hQ _ _ ⟨rfl, hX0, fun _ _ => rfl⟩)
      · have n20 : C 9 4 < 20 := by omega
        have hp1 : 2 ^ (C 9 1) ≤ 2 ^ 8 := Nat.pow_le_pow_right (by decide) h8
        have hp2 : 2 ^ (C 9 2) ≤ 2 ^ 20 := Nat.pow_le_pow_right (by decide) h20
        obtain ⟨x, hx, rfl, ex⟩ := ap_v_t h1 (by omega)
        obtain ⟨z, hz, rfl, ez⟩ := ap_v_t h2 (by omega)
        have e : fa_test (nI x) (nI z) (C, K, m, tg, tk, no, nu, fO, fU) = (nI (C 9 4), (sp_w (sp_w (sp_w C 10 (C 9 4) x) 11 (C 9 4) z) 9 4 (C 9 4 + 1), K, m, tg, tk, no, nu, fO, fU)) := by simp [fa_test, h1, h2, f1, ex, ez]
        rw [e] at hQ
        refine zr_iload_n dX8_test_0 rfl ?_
        refine zr_aload_n dX8_test_1 rfl ?_
        refine zt_getr zg_X8_10 dX8_test_2 rfl rfl rfl ?_
        refine zt_geti zg_X8_77 dX8_test_5 rfl rfl rfl ?_
        refine zr_top (rC.1.2.1) ?_
        refine zr_iushr dX8_test_8 ?_
        refine zr_if_ne 24 dX8_test_9 (by decide) (fun h => absurd (u1.mpr h1) h) (fun hp9 => ?_)
        refine zr_iload_n dX8_test_12 rfl ?_
        refine zr_aload_n dX8_test_13 rfl ?_
        refine zt_getr zg_X8_10 dX8_test_14 rfl rfl rfl ?_
        refine zt_geti zg_X8_96 dX8_test_17 rfl rfl rfl ?_
        refine zr_top (rC.1.2.2.1) ?_
        refine zr_iushr dX8_test_20 ?_
        refine zr_if_eq 28 dX8_test_21 (by decide) (fun hp21 => ?_) (fun h => absurd (u2.mpr h2) h)
        refine zr_aload_n dX8_test_28 rfl ?_
        refine zt_getr zg_X8_40 dX8_test_29 rfl rfl rfl ?_
        refine zt_geti zg_X8_118 dX8_test_32 rfl rfl rfl ?_
        refine zr_top (rT.1) ?_
        refine zr_bipush (v := 20) dX8_test_35 kc_bipush_20 ?_
        refine zr_icmp_lt 44 dX8_test_37 (by decide) (fun hp37 => ?_) (fun h => absurd (nI_lt (b := 20) n20 (by omega)) h)
        refine zr_aload_n dX8_test_44 rfl ?_
        refine zt_getr zg_X8_40 dX8_test_45 rfl rfl rfl ?_
        refine zr_iload_n dX8_test_48 rfl ?_
        refine zr_iload_n dX8_test_49 rfl ?_
        refine zt_callVi (As := [_, _]) (ca_addTest L σ (C 9 4) n20 rT.1 _ _) zc_X8_211 rfl dX8_test_50 rfl rfl rfl rfl rfl rfl ?_
        refine zr_iret dX8_test_53 rfl (hQ _ _ ⟨rfl, ?_, fun k hk => by simp [gz_wr, show ¬ k = 36 by omega, show ¬ k = 37 by omega, show ¬ k = 38 by omega]⟩)
        refine hX0.circ ?_ (fun k hk => by simp [gz_wr, show ¬ k = 36 by omega, show ¬ k = 37 by omega, show ¬ k = 38 by omega]) (fun c hc => by simp [sp_w]) ⟨by simp [gz_wr, upd, sp_w], fun t ht => ?_⟩ (fun l hl => ?_)
        · refine ⟨by simpa [gz_wr, upd, sp_w] using rC.1, fun l hl => ?_, fun c hc => ?_, fun q hq => ?_⟩
          · simpa [gz_wr, upd, sp_w] using rC.2.1 l (by simpa [sp_w] using hl)
          · simpa [gz_wr, upd, sp_w] using rC.2.2.1 c (by simpa [sp_w] using hc)
          · simpa [gz_wr, upd, sp_w] using rC.2.2.2 q (by simpa [sp_w] using hq)
        · by_cases el : t = C 9 4
          · subst el
            simp [gz_wr, upd, sp_w]
          · have := rT.2 t (by simp [sp_w] at ht; omega)
            simpa [gz_wr, upd, sp_w, el] using this
        · rw [sp_io_congr (C := C) (fun i => by simp [sp_w])]
          simpa [gz_wr, sp_w] using rO l hl
theorem cx_drive (L : Nat) (σ : gz_Mm) (S : ap_S) (hw : ap_wf S) (hX : ap_X σ S) (t : Int32) : gz_Gi 5 yX8_drive cX8_drive 2 (some .int) L [.ref 11, .int t] σ (ap_P σ (fa_drive t S)) := by
  obtain ⟨C, K, m, tg, tk, no, nu, fO, fU⟩ := S
  obtain ⟨hC, hK, hm, htg, hno, hnu, hz0, hz2⟩ := hw
  have hX0 := hX
  obtain ⟨⟨rC, rK, rM⟩, ⟨r5, r7⟩, rT, rR, rO, rS⟩ := hX
  have h80 := hC.1.1
  have h8 := hC.1.2.1
  have h20 := hC.1.2.2.1
  have hnt := hC.1.2.2.2.2
  refine gz_Gi.of rfl rfl (fun Q hQ => ?_)
  cases h1 : ap_v t (C 9 4) with
  | false =>
    have e : fa_drive t (C, K, m, tg, tk, no, nu, fO, fU) = (-1001, (C, K, m, tg, tk, no, nu, fO, fU)) := by simp [fa_drive, h1]
    rw [e] at hQ
    refine zr_aload_n dX8_drive_0 rfl ?_
    refine zt_getr zg_X8_40 dX8_drive_1 rfl rfl rfl ?_
    refine zr_iload_n dX8_drive_4 rfl ?_
    refine zt_callVi (As := [_]) (ca_hasTest L σ t (C 9 4) (by omega) rT.1) zc_X8_214 rfl dX8_drive_5 rfl rfl rfl rfl rfl rfl ?_
    refine zr_top (congrArg sp_b h1) ?_
    refine zr_if_ne 15 dX8_drive_8 (by decide) (fun h => absurd h (by decide)) (fun hp8 => ?_)
    refine zr_sipush (v := (-1001)) dX8_drive_11 kc_sipush_m1001 ?_
    exact zr_iret dX8_drive_14 rfl (hQ _ _ ⟨rfl, hX0, fun _ _ => rfl⟩)
  | true =>
    obtain ⟨x, hx, rfl, ex⟩ := ap_v_t h1 (by omega)
    obtain ⟨t1, t2⟩ := hC.2.2.2.2 x hx
    obtain ⟨b1, b2⟩ := rT.2 x hx
    have e : fa_drive (nI x) (C, K, m, tg, tk, no, nu, fO, fU) = (nI (23 + 2 * sp_len K), (C, K, sp_mF C K tg m (C 10 x) (C 11 x), tg, tk + nI (23 + 2 * sp_len K), C 9 3, sp_len K, (fun i => nI (sp_val C (sp_mC C K tg m (C 10 x) (C 11 x)) (C 8 i))), sp_ou C K tg m (C 10 x) (C 11 x))) := by simp [fa_drive, h1, ex]
    rw [e] at hQ
    refine zr_aload_n dX8_drive_0 rfl ?_
    refine zt_getr zg_X8_40 dX8_drive_1 rfl rfl rfl ?_
    refine zr_iload_n dX8_drive_4 rfl ?_
    refine zt_callVi (As := [_]) (ca_hasTest L σ _ (C 9 4) (by omega) rT.1) zc_X8_214 rfl dX8_drive_5 rfl rfl rfl rfl rfl rfl ?_
    refine zr_top (congrArg sp_b h1) ?_
    refine zr_if_ne 15 dX8_drive_8 (by decide) (fun hp8 => ?_) (fun h => absurd h (by decide))
    refine zr_aload_n dX8_drive_15 rfl ?_
    refine zt_getr zg_X8_49 dX8_drive_16 rfl rfl rfl ?_
    refine zr_aload_n dX8_drive_19 rfl ?_
    refine zt_getr zg_X8_33 dX8_drive_20 rfl rfl rfl ?_
    refine zr_aload_n dX8_drive_23 rfl ?_
    refine zt_getr zg_X8_40 dX8_drive_24 rfl rfl rfl ?_
    refine zt_getr zg_X8_217 dX8_drive_27 rfl rfl rfl ?_
    refine zr_iload_n dX8_drive_30 rfl ?_
    refine zt_ildN dX8_drive_31 rfl rfl (by omega) (b1) ?_
    refine zr_aload_n dX8_drive_32 rfl ?_
    refine zt_getr zg_X8_40 dX8_drive_33 rfl rfl rfl ?_
    refine zt_getr zg_X8_220 dX8_drive_36 rfl rfl rfl ?_
    refine zr_iload_n dX8_drive_39 rfl ?_
    refine zt_ildN dX8_drive_40 rfl rfl (by omega) (b2) ?_
    refine zr_aload_n dX8_drive_41 rfl ?_
    refine zt_getr zg_X8_65 dX8_drive_42 rfl rfl rfl ?_
    refine zt_cVi (As := [_, _, _, _]) (ca_run_0 L σ C m K hC hm hK rC rK rM tg (C 10 x) (C 11 x) htg r5 (by omega) (by omega)) zc_X8_223 rfl dX8_drive_45 rfl rfl rfl rfl rfl rfl (fun v1 σ1 h2 => ?_)
    obtain ⟨a1, M, f, s1, s2, s3, s4⟩ := h2
    have f' : ∀ k, (k < 31 ∨ 35 < k) → k ≠ 40 → k ≠ 53 → k ≠ 54 → k ≠ 55 → σ1 k = σ k := f
    refine zr_iret dX8_drive_48 rfl (hQ _ _ ⟨a1, ⟨⟨M.1, M.2.1, M.2.2.1⟩, ⟨M.2.2.2.2.1, by rw [M.2.2.2.2.2, r7]⟩, ?_, ?_, ?_, s1, s2, s3, s4⟩, fun k hk => f k (by omega) (by omega) (by omega) (by omega) (by omega)⟩)
    · exact rT.kept (fun k h1 h2 => f' k (by omega) (by omega) (by omega) (by omega) (by omega)) rfl (fun _ => rfl) (fun _ => rfl)
    · obtain ⟨⟨m1, q1, q2⟩, q3⟩ := rR
      exact ⟨⟨m1, q1.kept (fun k h1 h2 => f' k (by omega) (by omega) (by omega) (by omega) (by omega)), q2⟩, by rw [f' 42 (by omega) (by omega) (by omega) (by omega) (by omega)]; exact q3⟩
    · rw [f' 18 (by omega) (by omega) (by omega) (by omega) (by omega)]
      exact rO
theorem cx_seen (L : Nat) (σ : gz_Mm) (S : ap_S) (hw : ap_wf S) (hX : ap_X σ S) (w i : Int32) : gz_Gi 0 yX8_seen cX8_seen 3 (some .int) L [.ref 11, .int w, .int i] σ (ap_P σ (fa_seen w i S)) := by
  obtain ⟨C, K, m, tg, tk, no, nu, fO, fU⟩ := S
  obtain ⟨hC, hK, hm, htg, hno, hnu, hz0, hz2⟩ := hw
  have hX0 := hX
  obtain ⟨⟨rC, rK, rM⟩, ⟨r5, r7⟩, rT, rR, rO, rS⟩ := hX
  have h80 := hC.1.1
  have h8 := hC.1.2.1
  have h20 := hC.1.2.2.1
  obtain ⟨s1, s2, s3, s4⟩ := rS
  refine gz_Gi.of rfl rfl (fun Q hQ => ?_)
  by_cases w0 : w = 0
  · subst w0
    cases h1 : ap_v i no with
    | false =>
      have e : fa_seen 0 i (C, K, m, tg, tk, no, nu, fO, fU) = (-1, (C, K, m, tg, tk, no, nu, fO, fU)) := by simp [fa_seen, h1]
      rw [e] at hQ
      rcases ap_v_f h1 (by omega) with q | ⟨q, q2⟩
      · refine zr_iload_n dX8_seen_0 rfl ?_
        refine zr_if_ne 33 dX8_seen_1 (by decide) (fun h => absurd h (by decide)) (fun hp1 => ?_)
        refine zr_iload_n dX8_seen_4 rfl ?_
        refine zr_if_lt 31 dX8_seen_5 (by decide) (fun hp5 => ?_) (fun h => absurd q h)
        refine zr_iconst (v := (-1)) dX8_seen_31 kc_iconst_m1 ?_
        exact zr_iret dX8_seen_32 rfl (hQ _ _ ⟨rfl, hX0, fun _ _ => rfl⟩)
      · refine zr_iload_n dX8_seen_0 rfl ?_
        refine zr_if_ne 33 dX8_seen_1 (by decide) (fun h => absurd h (by decide)) (fun hp1 => ?_)
        refine zr_iload_n dX8_seen_4 rfl ?_
        refine zr_if_lt 31 dX8_seen_5 (by decide) (fun h => absurd h q) (fun hp5 => ?_)
        refine zr_iload_n dX8_seen_8 rfl ?_
        refine zr_aload_n dX8_seen_9 rfl ?_
        refine zt_getr zg_X8_65 dX8_seen_10 rfl rfl rfl ?_
        refine zt_geti zg_X8_227 dX8_seen_13 rfl rfl rfl ?_
        refine zr_top (s1) ?_
        refine zr_icmp_ge 31 dX8_seen_16 (by decide) (fun hp16 => ?_) (fun h => absurd q2 h)
        refine zr_iconst (v := (-1)) dX8_seen_31 kc_iconst_m1 ?_
        exact zr_iret dX8_seen_32 rfl (hQ _ _ ⟨rfl, hX0, fun _ _ => rfl⟩)
    | true =>
      obtain ⟨x, hx, rfl, ex⟩ := ap_v_t h1 (by omega)
      have e : fa_seen 0 (nI x) (C, K, m, tg, tk, no, nu, fO, fU) = (fO x, (C, K, m, tg, tk, no, nu, fO, fU)) := by simp [fa_seen, h1, ex]
      rw [e] at hQ
      refine zr_iload_n dX8_seen_0 rfl ?_
      refine zr_if_ne 33 dX8_seen_1 (by decide) (fun h => absurd h (by decide)) (fun hp1 => ?_)
      refine zr_iload_n dX8_seen_4 rfl ?_
      refine zr_if_lt 31 dX8_seen_5 (by decide) (fun h => absurd h (nI_pos (by omega))) (fun hp5 => ?_)
      refine zr_iload_n dX8_seen_8 rfl ?_
      refine zr_aload_n dX8_seen_9 rfl ?_
      refine zt_getr zg_X8_65 dX8_seen_10 rfl rfl rfl ?_
      refine zt_geti zg_X8_227 dX8_seen_13 rfl rfl rfl ?_
      refine zr_top (s1) ?_
      refine zr_icmp_ge 31 dX8_seen_16 (by decide) (fun h => absurd h (nI_ge hx (by omega))) (fun hp16 => ?_)
      refine zr_aload_n dX8_seen_19 rfl ?_
      refine zt_getr zg_X8_65 dX8_seen_20 rfl rfl rfl ?_
      refine zt_getr zg_X8_228 dX8_seen_23 rfl rfl rfl ?_
      refine zr_iload_n dX8_seen_26 rfl ?_
      refine zt_ildN dX8_seen_27 rfl rfl (by omega) (s3 x hx) ?_
      refine zr_goto 32 dX8_seen_28 (by decide) ?_
      exact zr_iret dX8_seen_32 rfl (hQ _ _ ⟨rfl, hX0, fun _ _ => rfl⟩)
  · by_cases w1 : w = 1
    · subst w1
      cases h1 : ap_v i nu with
      | false =>
        have e : fa_seen 1 i (C, K, m, tg, tk, no, nu, fO, fU) = (-1, (C, K, m, tg, tk, no, nu, fO, fU)) := by simp [fa_seen, h1]
        rw [e] at hQ
        rcases ap_v_f h1 (by omega) with q | ⟨q, q2⟩
        · refine zr_iload_n dX8_seen_0 rfl ?_
          refine zr_if_ne 33 dX8_seen_1 (by decide) (fun hp1 => ?_) (fun h => absurd h (by decide))
          refine zr_iload_n dX8_seen_33 rfl ?_
          refine zr_iconst (v := 1) dX8_seen_34 kc_iconst_1 ?_
          refine zr_icmp_ne 67 dX8_seen_35 (by decide) (fun h => absurd h (by decide)) (fun hp35 => ?_)
          refine zr_iload_n dX8_seen_38 rfl ?_
          refine zr_if_lt 65 dX8_seen_39 (by decide) (fun hp39 => ?_) (fun h => absurd q h)
          refine zr_iconst (v := (-1)) dX8_seen_65 kc_iconst_m1 ?_
          exact zr_iret dX8_seen_66 rfl (hQ _ _ ⟨rfl, hX0, fun _ _ => rfl⟩)
        · refine zr_iload_n dX8_seen_0 rfl ?_
          refine zr_if_ne 33 dX8_seen_1 (by decide) (fun hp1 => ?_) (fun h => absurd h (by decide))
          refine zr_iload_n dX8_seen_33 rfl ?_
          refine zr_iconst (v := 1) dX8_seen_34 kc_iconst_1 ?_
          refine zr_icmp_ne 67 dX8_seen_35 (by decide) (fun h => absurd h (by decide)) (fun hp35 => ?_)
          refine zr_iload_n dX8_seen_38 rfl ?_
          refine zr_if_lt 65 dX8_seen_39 (by decide) (fun h => absurd h q) (fun hp39 => ?_)
          refine zr_iload_n dX8_seen_42 rfl ?_
          refine zr_aload_n dX8_seen_43 rfl ?_
          refine zt_getr zg_X8_65 dX8_seen_44 rfl rfl rfl ?_
          refine zt_geti zg_X8_231 dX8_seen_47 rfl rfl rfl ?_
          refine zr_top (s2) ?_
          refine zr_icmp_ge 65 dX8_seen_50 (by decide) (fun hp50 => ?_) (fun h => absurd q2 h)
          refine zr_iconst (v := (-1)) dX8_seen_65 kc_iconst_m1 ?_
          exact zr_iret dX8_seen_66 rfl (hQ _ _ ⟨rfl, hX0, fun _ _ => rfl⟩)
      | true =>
        obtain ⟨x, hx, rfl, ex⟩ := ap_v_t h1 (by omega)
        have e : fa_seen 1 (nI x) (C, K, m, tg, tk, no, nu, fO, fU) = (fU x, (C, K, m, tg, tk, no, nu, fO, fU)) := by simp [fa_seen, h1, ex]
        rw [e] at hQ
        refine zr_iload_n dX8_seen_0 rfl ?_
        refine zr_if_ne 33 dX8_seen_1 (by decide) (fun hp1 => ?_) (fun h => absurd h (by decide))
        refine zr_iload_n dX8_seen_33 rfl ?_
        refine zr_iconst (v := 1) dX8_seen_34 kc_iconst_1 ?_
        refine zr_icmp_ne 67 dX8_seen_35 (by decide) (fun h => absurd h (by decide)) (fun hp35 => ?_)
        refine zr_iload_n dX8_seen_38 rfl ?_
        refine zr_if_lt 65 dX8_seen_39 (by decide) (fun h => absurd h (nI_pos (by omega))) (fun hp39 => ?_)
        refine zr_iload_n dX8_seen_42 rfl ?_
        refine zr_aload_n dX8_seen_43 rfl ?_
        refine zt_getr zg_X8_65 dX8_seen_44 rfl rfl rfl ?_
        refine zt_geti zg_X8_231 dX8_seen_47 rfl rfl rfl ?_
        refine zr_top (s2) ?_
        refine zr_icmp_ge 65 dX8_seen_50 (by decide) (fun h => absurd h (nI_ge hx (by omega))) (fun hp50 => ?_)
        refine zr_aload_n dX8_seen_53 rfl ?_
        refine zt_getr zg_X8_65 dX8_seen_54 rfl rfl rfl ?_
        refine zt_getr zg_X8_234 dX8_seen_57 rfl rfl rfl ?_
        refine zr_iload_n dX8_seen_60 rfl ?_
        refine zt_ildN dX8_seen_61 rfl rfl (by omega) (s4 x hx) ?_
        refine zr_goto 66 dX8_seen_62 (by decide) ?_
        exact zr_iret dX8_seen_66 rfl (hQ _ _ ⟨rfl, hX0, fun _ _ => rfl⟩)
    · have e : fa_seen w i (C, K, m, tg, tk, no, nu, fO, fU) = (-1002, (C, K, m, tg, tk, no, nu, fO, fU)) := by simp [fa_seen, w0, w1]
      rw [e] at hQ
      refine zr_iload_n dX8_seen_0 rfl ?_
      refine zr_if_ne 33 dX8_seen_1 (by decide) (fun hp1 => ?_) (fun h => absurd h w0)
      refine zr_iload_n dX8_seen_33 rfl ?_
      refine zr_iconst (v := 1) dX8_seen_34 kc_iconst_1 ?_
      refine zr_icmp_ne 67 dX8_seen_35 (by decide) (fun hp35 => ?_) (fun h => absurd h w1)
      refine zr_sipush (v := (-1002)) dX8_seen_67 kc_sipush_m1002 ?_
      exact zr_iret dX8_seen_70 rfl (hQ _ _ ⟨rfl, hX0, fun _ _ => rfl⟩)
/-- only the trial's cells have changed -/
theorem ap_X.trial {σ σ' : gz_Mm} {S : ap_S} (hX : ap_X σ S) (hk : ∀ k, (k < 40 ∨ (52 < k ∧ k ≠ 56)) → σ' k = σ k) (hR : rx_R σ') : ap_X σ' S := by
  obtain ⟨C, K, m, tg, tk, no, nu, fO, fU⟩ := S
  obtain ⟨⟨rC, rK, rM⟩, ⟨r5, r7⟩, rT, rR, rO, s1, s2, s3, s4⟩ := hX
  exact ⟨⟨rC.kept (fun k h1 h2 => hk k (by omega)), rK.kept (fun k h1 h2 => hk k (by omega)), rM.kept (fun k h1 h2 => hk k (by omega))⟩, ⟨by rw [hk 31 (by omega)]; exact r5, by rw [hk 31 (by omega)]; exact r7⟩, rT.kept (fun k h1 h2 => hk k (by omega)) rfl (fun _ => rfl) (fun _ => rfl), hR, by rw [hk 18 (by omega)]; exact rO, by rw [hk 53 (by omega)]; exact s1, by rw [hk 53 (by omega)]; exact s2, by rw [hk 54 (by omega)]; exact s3, by rw [hk 55 (by omega)]; exact s4⟩
theorem cx_shows (L : Nat) (σ : gz_Mm) (S : ap_S) (hw : ap_wf S) (hX : ap_X σ S) (t l v : Int32) : gz_Gi 6 yX8_shows cX8_shows 4 (some .int) L [.ref 11, .int t, .int l, .int v] σ (ap_P σ (fa_shows t l v S)) := by
  obtain ⟨C, K, m, tg, tk, no, nu, fO, fU⟩ := S
  obtain ⟨hC, hK, hm, htg, hno, hnu, hz0, hz2⟩ := hw
  have hX0 := hX
  obtain ⟨⟨rC, rK, rM⟩, ⟨r5, r7⟩, rT, rR, rO, rS⟩ := hX
  have h80 := hC.1.1
  have h8 := hC.1.2.1
  have h20 := hC.1.2.2.1
  have hnt := hC.1.2.2.2.2
  refine gz_Gi.of rfl rfl (fun Q hQ => ?_)
  cases h1 : ap_v t (C 9 4) with
  | false =>
    have e : fa_shows t l v (C, K, m, tg, tk, no, nu, fO, fU) = (-1001, (C, K, m, tg, tk, no, nu, fO, fU)) := by simp [fa_shows, h1]
    rw [e] at hQ
    refine zr_aload_n dX8_shows_0 rfl ?_
    refine zt_getr zg_X8_40 dX8_shows_1 rfl rfl rfl ?_
    refine zr_iload_n dX8_shows_4 rfl ?_
    refine zt_callVi (As := [_]) (ca_hasTest L σ t (C 9 4) (by omega) rT.1) zc_X8_214 rfl dX8_shows_5 rfl rfl rfl rfl rfl rfl ?_
    refine zr_top (congrArg sp_b h1) ?_
    refine zr_if_eq 22 dX8_shows_8 (by decide) (fun hp8 => ?_) (fun h => absurd h (by decide))
    refine zr_sipush (v := (-1001)) dX8_shows_22 kc_sipush_m1001 ?_
    exact zr_iret dX8_shows_25 rfl (hQ _ _ ⟨rfl, hX0, fun _ _ => rfl⟩)
  | true =>
    cases h2 : ap_v l (C 9 0) with
    | false =>
      have e : fa_shows t l v (C, K, m, tg, tk, no, nu, fO, fU) = (-1001, (C, K, m, tg, tk, no, nu, fO, fU)) := by simp [fa_shows, h2]
      rw [e] at hQ
      refine zr_aload_n dX8_shows_0 rfl ?_
      refine zt_getr zg_X8_40 dX8_shows_1 rfl rfl rfl ?_
      refine zr_iload_n dX8_shows_4 rfl ?_
      refine zt_callVi (As := [_]) (ca_hasTest L σ t (C 9 4) (by omega) rT.1) zc_X8_214 rfl dX8_shows_5 rfl rfl rfl rfl rfl rfl ?_
      refine zr_top (congrArg sp_b h1) ?_
      refine zr_if_eq 22 dX8_shows_8 (by decide) (fun h => absurd h (by decide)) (fun hp8 => ?_)
      refine zr_aload_n dX8_shows_11 rfl ?_
      refine zt_getr zg_X8_10 dX8_shows_12 rfl rfl rfl ?_
      refine zr_iload_n dX8_shows_15 rfl ?_
      refine zt_callVi (As := [_]) (ca_hasLineB L σ l (C 9 0) (by omega) rC.1.1) zc_X8_88 rfl dX8_shows_16 rfl rfl rfl rfl rfl rfl ?_
      refine zr_top (congrArg sp_b h2) ?_
      refine zr_if_ne 26 dX8_shows_19 (by decide) (fun h => absurd h (by decide)) (fun hp19 => ?_)
      refine zr_sipush (v := (-1001)) dX8_shows_22 kc_sipush_m1001 ?_
      exact zr_iret dX8_shows_25 rfl (hQ _ _ ⟨rfl, hX0, fun _ _ => rfl⟩)
    | true =>
      cases h3 : ap_v v 2 with
      | false =>
        have e : fa_shows t l v (C, K, m, tg, tk, no, nu, fO, fU) = (-1002, (C, K, m, tg, tk, no, nu, fO, fU)) := by simp [fa_shows, h1, h2, h3]
        rw [e] at hQ
        refine zr_aload_n dX8_shows_0 rfl ?_
        refine zt_getr zg_X8_40 dX8_shows_1 rfl rfl rfl ?_
        refine zr_iload_n dX8_shows_4 rfl ?_
        refine zt_callVi (As := [_]) (ca_hasTest L σ t (C 9 4) (by omega) rT.1) zc_X8_214 rfl dX8_shows_5 rfl rfl rfl rfl rfl rfl ?_
        refine zr_top (congrArg sp_b h1) ?_
        refine zr_if_eq 22 dX8_shows_8 (by decide) (fun h => absurd h (by decide)) (fun hp8 => ?_)
        refine zr_aload_n dX8_shows_11 rfl ?_
        refine zt_getr zg_X8_10 dX8_shows_12 rfl rfl rfl ?_
        refine zr_iload_n dX8_shows_15 rfl ?_
        refine zt_callVi (As := [_]) (ca_hasLineB L σ l (C 9 0) (by omega) rC.1.1) zc_X8_88 rfl dX8_shows_16 rfl rfl rfl rfl rfl rfl ?_
        refine zr_top (congrArg sp_b h2) ?_
        refine zr_if_ne 26 dX8_shows_19 (by decide) (fun hp19 => ?_) (fun h => absurd h (by decide))
        refine zr_iload_n dX8_shows_26 rfl ?_
        refine zt_callSi (As := [_]) (ca_isBit L σ v) zc_X8_155 rfl dX8_shows_27 rfl rfl rfl ?_
        refine zr_top (congrArg sp_b h3) ?_
        refine zr_if_ne 37 dX8_shows_30 (by decide) (fun h => absurd h (by decide)) (fun hp30 => ?_)
        refine zr_sipush (v := (-1002)) dX8_shows_33 kc_sipush_m1002 ?_
        exact zr_iret dX8_shows_36 rfl (hQ _ _ ⟨rfl, hX0, fun _ _ => rfl⟩)
      | true =>
        obtain ⟨x, hx, rfl, ex⟩ := ap_v_t h1 (by omega)
        obtain ⟨y, hy, rfl, ey⟩ := ap_v_t h2 (by omega)
        obtain ⟨z, hz, rfl, ez⟩ := ap_v_t h3 (by omega)
        have e : fa_shows (nI x) (nI y) (nI z) (C, K, m, tg, tk, no, nu, fO, fU) = (sp_b (sp_shows C K x y z), (C, K, m, tg, tk, no, nu, fO, fU)) := by simp [fa_shows, h1, h2, h3, ex, ey, ez]
        rw [e] at hQ
        refine zr_aload_n dX8_shows_0 rfl ?_
        refine zt_getr zg_X8_40 dX8_shows_1 rfl rfl rfl ?_
        refine zr_iload_n dX8_shows_4 rfl ?_
        refine zt_callVi (As := [_]) (ca_hasTest L σ _ (C 9 4) (by omega) rT.1) zc_X8_214 rfl dX8_shows_5 rfl rfl rfl rfl rfl rfl ?_
        refine zr_top (congrArg sp_b h1) ?_
        refine zr_if_eq 22 dX8_shows_8 (by decide) (fun h => absurd h (by decide)) (fun hp8 => ?_)
        refine zr_aload_n dX8_shows_11 rfl ?_
        refine zt_getr zg_X8_10 dX8_shows_12 rfl rfl rfl ?_
        refine zr_iload_n dX8_shows_15 rfl ?_
        refine zt_callVi (As := [_]) (ca_hasLineB L σ _ (C 9 0) (by omega) rC.1.1) zc_X8_88 rfl dX8_shows_16 rfl rfl rfl rfl rfl rfl ?_
        refine zr_top (congrArg sp_b h2) ?_
        refine zr_if_ne 26 dX8_shows_19 (by decide) (fun hp19 => ?_) (fun h => absurd h (by decide))
        refine zr_iload_n dX8_shows_26 rfl ?_
        refine zt_callSi (As := [_]) (ca_isBit L σ _) zc_X8_155 rfl dX8_shows_27 rfl rfl rfl ?_
        refine zr_top (congrArg sp_b h3) ?_
        refine zr_if_ne 37 dX8_shows_30 (by decide) (fun hp30 => ?_) (fun h => absurd h (by decide))
        refine zr_aload_n dX8_shows_37 rfl ?_
        refine zt_getr zg_X8_58 dX8_shows_38 rfl rfl rfl ?_
        refine zr_iload_n dX8_shows_41 rfl ?_
        refine zt_cVv (As := [_]) (ca_startWith L σ C K hC hK rC rK rT rR x hx) zc_X8_237 rfl dX8_shows_42 rfl rfl rfl rfl rfl rfl (fun σ1 h4 => ?_)
        obtain ⟨f1, S1⟩ := h4
        refine zr_aload_n dX8_shows_45 rfl ?_
        refine zt_getr zg_X8_58 dX8_shows_46 rfl rfl rfl ?_
        refine zr_iload_n dX8_shows_49 rfl ?_
        refine zr_iload_n dX8_shows_50 rfl ?_
        refine zt_cVi (As := [_, _]) (ca_reveals L σ1 C K hC hK (rC.kept (fun k h1 h2 => f1 k (by omega))) (rK.kept (fun k h1 h2 => f1 k (by omega))) x hx S1 y z hy (by omega)) zc_X8_240 rfl dX8_shows_51 rfl rfl rfl rfl rfl rfl (fun r2 σ2 h5 => ?_)
        obtain ⟨e2, f2, S2⟩ := h5
        subst e2
        have fin : ap_X σ2 (C, K, m, tg, tk, no, nu, fO, fU) := hX0.trial (fun k hk => (f2 k (by omega)).trans (f1 k (by omega))) S2.1
        have fr : ∀ k, 57 ≤ k → σ2 k = σ k := fun k hk => (f2 k (by omega)).trans (f1 k (by omega))
        cases hb : sp_shows C K x y z with
        | true =>
          rw [hb] at hQ
          refine zr_if_eq 61 dX8_shows_54 (by decide) (fun h => absurd h (by decide)) (fun hp54 => ?_)
          refine zr_iconst (v := 1) dX8_shows_57 kc_iconst_1 ?_
          refine zr_goto 62 dX8_shows_58 (by decide) ?_
          exact zr_iret dX8_shows_62 rfl (hQ _ _ ⟨rfl, fin, fr⟩)
        | false =>
          rw [hb] at hQ
          refine zr_if_eq 61 dX8_shows_54 (by decide) (fun hp54 => ?_) (fun h => absurd h (by decide))
          refine zr_iconst (v := 0) dX8_shows_61 kc_iconst_0 ?_
          exact zr_iret dX8_shows_62 rfl (hQ _ _ ⟨rfl, fin, fr⟩)
theorem sp_fb_eq (C : sp_T) (K : sp_K) (l v N : Nat) : ∀ t, t ≤ N → (∀ i, i < t → sp_shows C K i l v = false) → sp_fb C K l v 0 N = sp_fb C K l v t (N - t) := by
  intro t
  induction t with
  | zero => intro _ _; rfl
  | succ t ih =>
    intro h1 h2
    rw [ih (by omega) (fun i hi => h2 i (by omega))]
    obtain ⟨k, hk⟩ : ∃ k, N - t = k + 1 := ⟨N - t - 1, by omega⟩
    rw [hk, show N - (t + 1) = k by omega]
    show (if _ then _ else _) = _
    rw [if_neg (by rw [h2 t (by omega)]; decide)]
theorem cx_shownBy (L : Nat) (σ : gz_Mm) (S : ap_S) (hw : ap_wf S) (hX : ap_X σ S) (l v : Int32) : gz_Gi 6 yX8_shownBy cX8_shownBy 4 (some .int) L [.ref 11, .int l, .int v] σ (ap_P σ (fa_shownBy l v S)) := by
  obtain ⟨C, K, m, tg, tk, no, nu, fO, fU⟩ := S
  obtain ⟨hC, hK, hm, htg, hno, hnu, hz0, hz2⟩ := hw
  have hX0 := hX
  obtain ⟨⟨rC, rK, rM⟩, ⟨r5, r7⟩, rT, rR, rO, rS⟩ := hX
  have h80 := hC.1.1
  have h8 := hC.1.2.1
  have h20 := hC.1.2.2.1
  have hnt := hC.1.2.2.2.2
  refine gz_Gi.of rfl rfl (fun Q hQ => ?_)
  cases h2 : ap_v l (C 9 0) with
  | false =>
    have e : fa_shownBy l v (C, K, m, tg, tk, no, nu, fO, fU) = (-1001, (C, K, m, tg, tk, no, nu, fO, fU)) := by simp [fa_shownBy, h2]
    rw [e] at hQ
    refine zr_aload_n dX8_shownBy_0 rfl ?_
    refine zt_getr zg_X8_10 dX8_shownBy_1 rfl rfl rfl ?_
    refine zr_iload_n dX8_shownBy_4 rfl ?_
    refine zt_callVi (As := [_]) (ca_hasLineB L σ l (C 9 0) (by omega) rC.1.1) zc_X8_88 rfl dX8_shownBy_5 rfl rfl rfl rfl rfl rfl ?_
    refine zr_top (congrArg sp_b h2) ?_
    refine zr_if_ne 15 dX8_shownBy_8 (by decide) (fun h => absurd h (by decide)) (fun hp8 => ?_)
    refine zr_sipush (v := (-1001)) dX8_shownBy_11 kc_sipush_m1001 ?_
    exact zr_iret dX8_shownBy_14 rfl (hQ _ _ ⟨rfl, hX0, fun _ _ => rfl⟩)
  | true =>
    cases h3 : ap_v v 2 with
    | false =>
      have e : fa_shownBy l v (C, K, m, tg, tk, no, nu, fO, fU) = (-1002, (C, K, m, tg, tk, no, nu, fO, fU)) := by simp [fa_shownBy, h2, h3]
      rw [e] at hQ
      refine zr_aload_n dX8_shownBy_0 rfl ?_
      refine zt_getr zg_X8_10 dX8_shownBy_1 rfl rfl rfl ?_
      refine zr_iload_n dX8_shownBy_4 rfl ?_
      refine zt_callVi (As := [_]) (ca_hasLineB L σ l (C 9 0) (by omega) rC.1.1) zc_X8_88 rfl dX8_shownBy_5 rfl rfl rfl rfl rfl rfl ?_
      refine zr_top (congrArg sp_b h2) ?_
      refine zr_if_ne 15 dX8_shownBy_8 (by decide) (fun hp8 => ?_) (fun h => absurd h (by decide))
      refine zr_iload_n dX8_shownBy_15 rfl ?_
      refine zt_callSi (As := [_]) (ca_isBit L σ v) zc_X8_155 rfl dX8_shownBy_16 rfl rfl rfl ?_
      refine zr_top (congrArg sp_b h3) ?_
      refine zr_if_ne 26 dX8_shownBy_19 (by decide) (fun h => absurd h (by decide)) (fun hp19 => ?_)
      refine zr_sipush (v := (-1002)) dX8_shownBy_22 kc_sipush_m1002 ?_
      exact zr_iret dX8_shownBy_25 rfl (hQ _ _ ⟨rfl, hX0, fun _ _ => rfl⟩)
    | true =>
      obtain ⟨y, hy, rfl, ey⟩ := ap_v_t h2 (by omega)
      obtain ⟨z, hz, rfl, ez⟩ := ap_v_t h3 (by omega)
      have e : fa_shownBy (nI y) (nI z) (C, K, m, tg, tk, no, nu, fO, fU) = (sp_fb C K y z 0 (C 9 4), (C, K, m, tg, tk, no, nu, fO, fU)) := by simp [fa_shownBy, h2, h3, ey, ez]
      rw [e] at hQ
      refine zr_aload_n dX8_shownBy_0 rfl ?_
      refine zt_getr zg_X8_10 dX8_shownBy_1 rfl rfl rfl ?_
      refine zr_iload_n dX8_shownBy_4 rfl ?_
      refine zt_callVi (As := [_]) (ca_hasLineB L σ _ (C 9 0) (by omega) rC.1.1) zc_X8_88 rfl dX8_shownBy_5 rfl rfl rfl rfl rfl rfl ?_
      refine zr_top (congrArg sp_b h2) ?_
      refine zr_if_ne 15 dX8_shownBy_8 (by decide) (fun hp8 => ?_) (fun h => absurd h (by decide))
      refine zr_iload_n dX8_shownBy_15 rfl ?_
      refine zt_callSi (As := [_]) (ca_isBit L σ _) zc_X8_155 rfl dX8_shownBy_16 rfl rfl rfl ?_
      refine zr_top (congrArg sp_b h3) ?_
      refine zr_if_ne 26 dX8_shownBy_19 (by decide) (fun hp19 => ?_) (fun h => absurd h (by decide))
      refine zr_iconst (v := 0) dX8_shownBy_26 kc_iconst_0 ?_
      refine zr_istore_n dX8_shownBy_27 (by decide) rfl ?_
      refine zl_up (τ := gz_Mm) (C 9 4) (fun i t => (∀ k, (k < 40 ∨ 52 < k) → t k = σ k) ∧ rx_R t ∧ ∀ j, j < i → sp_shows C K j y z = false) (fun i t => gz_R 6 yX8_shownBy cX8_shownBy 4 (some .int) 0 0 28 [some (.ref 11), some (.int (nI y)), some (.int (nI z)), some (.int (nI i))] [] (gz_mk L t) Q) ?_ ?_ 0 σ (Nat.zero_le _) ⟨fun _ _ => rfl, rR, fun j h => absurd h (Nat.not_lt_zero j)⟩
      · rintro σ1 ⟨f1, R1, hn⟩
        have en := sp_fb_eq C K y z (C 9 4) (C 9 4) (Nat.le_refl _) hn
        rw [Nat.sub_self] at en
        rw [en] at hQ
        refine zr_iload_n dX8_shownBy_28 rfl ?_
        refine zr_aload_n dX8_shownBy_29 rfl ?_
        refine zt_getr zg_X8_40 dX8_shownBy_30 rfl rfl rfl ?_
        refine zt_geti zg_X8_118 dX8_shownBy_33 rfl rfl rfl ?_
        refine zr_top ((congrFun (f1 36 (by decide)) 2).trans rT.1) ?_
        refine zr_icmp_ge 67 dX8_shownBy_36 (by decide) (fun hp36 => ?_) (fun h => absurd (Int32.le_refl _) h)
        refine zr_iconst (v := (-1)) dX8_shownBy_67 kc_iconst_m1 ?_
        exact zr_iret dX8_shownBy_68 rfl (hQ _ _ ⟨rfl, hX0.trial (fun k hk => f1 k (by omega)) R1, fun k hk => f1 k (by omega)⟩)
      · rintro i σ1 hi ⟨f1, R1, hn⟩ ih
        have rC1 : rx_C σ1 C := rC.kept (fun k h1 h2 => f1 k (by omega))
        have rK1 : rx_K σ1 C K := rK.kept (fun k h1 h2 => f1 k (by omega))
        have rT1 : rx_T σ1 C := rT.kept (fun k h1 h2 => f1 k (by omega)) rfl (fun _ => rfl) (fun _ => rfl)
        refine zr_iload_n dX8_shownBy_28 rfl ?_
        refine zr_aload_n dX8_shownBy_29 rfl ?_
        refine zt_getr zg_X8_40 dX8_shownBy_30 rfl rfl rfl ?_
        refine zt_geti zg_X8_118 dX8_shownBy_33 rfl rfl rfl ?_
        refine zr_top (rT1.1) ?_
        refine zr_icmp_ge 67 dX8_shownBy_36 (by decide) (fun h => absurd h (nI_ge hi (by omega))) (fun hp36 => ?_)
        refine zr_aload_n dX8_shownBy_39 rfl ?_
        refine zt_getr zg_X8_58 dX8_shownBy_40 rfl rfl rfl ?_
        refine zr_iload_n dX8_shownBy_43 rfl ?_
        refine zt_cVv (As := [_]) (ca_startWith L σ1 C K hC hK rC1 rK1 rT1 R1 i hi) zc_X8_237 rfl dX8_shownBy_44 rfl rfl rfl rfl rfl rfl (fun σ2 h4 => ?_)
        obtain ⟨f2, S2⟩ := h4
        refine zr_aload_n dX8_shownBy_47 rfl ?_
        refine zt_getr zg_X8_58 dX8_shownBy_48 rfl rfl rfl ?_
        refine zr_iload_n dX8_shownBy_51 rfl ?_
        refine zr_iload_n dX8_shownBy_52 rfl ?_
        refine zt_cVi (As := [_, _]) (ca_reveals L σ2 C K hC hK (rC1.kept (fun k h1 h2 => f2 k (by omega))) (rK1.kept (fun k h1 h2 => f2 k (by omega))) i hi S2 y z hy (by omega)) zc_X8_240 rfl dX8_shownBy_53 rfl rfl rfl rfl rfl rfl (fun r3 σ3 h5 => ?_)
        obtain ⟨e3, f3, S3⟩ := h5
        subst e3
        have fr : ∀ k, (k < 40 ∨ 52 < k) → σ3 k = σ k := fun k hk => (f3 k hk).trans ((f2 k (by omega)).trans (f1 k hk))
        cases hb : sp_shows C K i y z with
        | true =>
          have en := sp_fb_eq C K y z (C 9 4) i (by omega) hn
          obtain ⟨q, hq⟩ : ∃ q, C 9 4 - i = q + 1 := ⟨C 9 4 - i - 1, by omega⟩
          rw [hq] at en
          have en2 : sp_fb C K y z i (q + 1) = nI i := if_pos hb
          rw [en, en2] at hQ
          refine zr_if_eq 61 dX8_shownBy_56 (by decide) (fun h => absurd h (by decide)) (fun hp56 => ?_)
          refine zr_iload_n dX8_shownBy_59 rfl ?_
          exact zr_iret dX8_shownBy_60 rfl (hQ _ _ ⟨rfl, hX0.trial (fun k hk => fr k (by omega)) S3.1, fun k hk => fr k (by omega)⟩)
        | false =>
          refine zr_if_eq 61 dX8_shownBy_56 (by decide) (fun hp56 => ?_) (fun h => absurd h (by decide))
          refine zr_iinc dX8_shownBy_61 rfl (kc_inc (i)) rfl ?_
          refine zr_goto 28 dX8_shownBy_64 (by decide) ?_
          refine ih σ3 ⟨fr, S3.1, fun j hj => ?_⟩
          by_cases ej : j = i
          · rw [ej]; exact hb
          · exact hn j (by omega)
theorem cx_same (L : Nat) (σ : gz_Mm) (S : ap_S) (hw : ap_wf S) (hX : ap_X σ S) (l n : Int32) : gz_Gi 4 yX8_same cX8_same 3 (some .int) L [.ref 11, .int l, .int n] σ (ap_P σ (fa_same l n S)) := by
  obtain ⟨C, K, m, tg, tk, no, nu, fO, fU⟩ := S
  obtain ⟨hC, hK, hm, htg, hno, hnu, hz0, hz2⟩ := hw
  have hX0 := hX
  obtain ⟨⟨rC, rK, rM⟩, ⟨r5, r7⟩, rT, rR, rO, rS⟩ := hX
  have h80 := hC.1.1
  have h8 := hC.1.2.1
  have h20 := hC.1.2.2.1
  refine gz_Gi.of rfl rfl (fun Q hQ => ?_)
  cases h1 : ap_v l (C 9 0) with
  | false =>
    have e : fa_same l n (C, K, m, tg, tk, no, nu, fO, fU) = (-1001, (C, K, m, tg, tk, no, nu, fO, fU)) := by simp [fa_same, h1]
    rw [e] at hQ
    refine zr_aload_n dX8_same_0 rfl ?_
    refine zt_getr zg_X8_10 dX8_same_1 rfl rfl rfl ?_
    refine zr_iload_n dX8_same_4 rfl ?_
    refine zt_callVi (As := [_]) (ca_hasLineB L σ l (C 9 0) (by omega) rC.1.1) zc_X8_88 rfl dX8_same_5 rfl rfl rfl rfl rfl rfl ?_
    refine zr_top (congrArg sp_b h1) ?_
    refine zr_if_eq 22 dX8_same_8 (by decide) (fun hp8 => ?_) (fun h => absurd h (by decide))
    refine zr_sipush (v := (-1001)) dX8_same_22 kc_sipush_m1001 ?_
    exact zr_iret dX8_same_25 rfl (hQ _ _ ⟨rfl, hX0, fun _ _ => rfl⟩)
  | true =>
    cases h2 : ap_v n (C 9 0) with
    | false =>
      have e : fa_same l n (C, K, m, tg, tk, no, nu, fO, fU) = (-1001, (C, K, m, tg, tk, no, nu, fO, fU)) := by simp [fa_same, h2]
      rw [e] at hQ
      refine zr_aload_n dX8_same_0 rfl ?_
      refine zt_getr zg_X8_10 dX8_same_1 rfl rfl rfl ?_
      refine zr_iload_n dX8_same_4 rfl ?_
      refine zt_callVi (As := [_]) (ca_hasLineB L σ l (C 9 0) (by omega) rC.1.1) zc_X8_88 rfl dX8_same_5 rfl rfl rfl rfl rfl rfl ?_
      refine zr_top (congrArg sp_b h1) ?_
      refine zr_if_eq 22 dX8_same_8 (by decide) (fun h => absurd h (by decide)) (fun hp8 => ?_)
      refine zr_aload_n dX8_same_11 rfl ?_
      refine zt_getr zg_X8_10 dX8_same_12 rfl rfl rfl ?_
      refine zr_iload_n dX8_same_15 rfl ?_
      refine zt_callVi (As := [_]) (ca_hasLineB L σ n (C 9 0) (by omega) rC.1.1) zc_X8_88 rfl dX8_same_16 rfl rfl rfl rfl rfl rfl ?_
      refine zr_top (congrArg sp_b h2) ?_
      refine zr_if_ne 26 dX8_same_19 (by decide) (fun h => absurd h (by decide)) (fun hp19 => ?_)
      refine zr_sipush (v := (-1001)) dX8_same_22 kc_sipush_m1001 ?_
      exact zr_iret dX8_same_25 rfl (hQ _ _ ⟨rfl, hX0, fun _ _ => rfl⟩)
    | true =>
      by_cases f1 : 10 < C 9 1 + C 9 2
      · have e : fa_same l n (C, K, m, tg, tk, no, nu, fO, fU) = (-1003, (C, K, m, tg, tk, no, nu, fO, fU)) := by simp [fa_same, h1, h2, f1]
        rw [e] at hQ
        refine zr_aload_n dX8_same_0 rfl ?_
        refine zt_getr zg_X8_10 dX8_same_1 rfl rfl rfl ?_
        refine zr_iload_n dX8_same_4 rfl ?_
        refine zt_callVi (As := [_]) (ca_hasLineB L σ l (C 9 0) (by omega) rC.1.1) zc_X8_88 rfl dX8_same_5 rfl rfl rfl rfl rfl rfl ?_
        refine zr_top (congrArg sp_b h1) ?_
        refine zr_if_eq 22 dX8_same_8 (by decide) (fun h => absurd h (by decide)) (fun hp8 => ?_)
        refine zr_aload_n dX8_same_11 rfl ?_
        refine zt_getr zg_X8_10 dX8_same_12 rfl rfl rfl ?_
        refine zr_iload_n dX8_same_15 rfl ?_
        refine zt_callVi (As := [_]) (ca_hasLineB L σ n (C 9 0) (by omega) rC.1.1) zc_X8_88 rfl dX8_same_16 rfl rfl rfl rfl rfl rfl ?_
        refine zr_top (congrArg sp_b h2) ?_
        refine zr_if_ne 26 dX8_same_19 (by decide) (fun hp19 => ?_) (fun h => absurd h (by decide))
        refine zr_aload_n dX8_same_26 rfl ?_
        refine zt_getr zg_X8_10 dX8_same_27 rfl rfl rfl ?_
        refine zt_geti zg_X8_77 dX8_same_30 rfl rfl rfl ?_
        refine zr_top (rC.1.2.1) ?_
        refine zr_aload_n dX8_same_33 rfl ?_
        refine zt_getr zg_X8_10 dX8_same_34 rfl rfl rfl ?_
        refine zt_geti zg_X8_96 dX8_same_37 rfl rfl rfl ?_
        refine zr_top (rC.1.2.2.1) ?_
        refine zr_iadd dX8_same_40 ?_
        refine zr_top (nI_add _ _) ?_
        refine zr_bipush (v := 10) dX8_same_41 kc_bipush_10 ?_
        refine zr_icmp_le 50 dX8_same_43 (by decide) (fun h => absurd ((nI_leI (b := 10) (by omega) (by omega)).mp h) (by omega)) (fun hp43 => ?_)
        refine zr_sipush (v := (-1003)) dX8_same_46 kc_sipush_m1003 ?_
        exact zr_iret dX8_same_49 rfl (hQ _ _ ⟨rfl, hX0, fun _ _ => rfl⟩)
      · obtain ⟨x, hx, rfl, ex⟩ := ap_v_t h1 (by omega)
        obtain ⟨y, hy, rfl, ey⟩ := ap_v_t h2 (by omega)
        have e : fa_same (nI x) (nI y) (C, K, m, tg, tk, no, nu, fO, fU) = (nI (sp_sm C x y (2 ^ (C 9 1 + C 9 2))), (C, K, m, tg, tk, no, nu, fO, fU)) := by simp [fa_same, h1, h2, f1, ex, ey]
        rw [e] at hQ
        refine zr_aload_n dX8_same_0 rfl ?_
        refine zt_getr zg_X8_10 dX8_same_1 rfl rfl rfl ?_
        refine zr_iload_n dX8_same_4 rfl ?_
        refine zt_callVi (As := [_]) (ca_hasLineB L σ _ (C 9 0) (by omega) rC.1.1) zc_X8_88 rfl dX8_same_5 rfl rfl rfl rfl rfl rfl ?_
        refine zr_top (congrArg sp_b h1) ?_
        refine zr_if_eq 22 dX8_same_8 (by decide) (fun h => absurd h (by decide)) (fun hp8 => ?_)
        refine zr_aload_n dX8_same_11 rfl ?_
        refine zt_getr zg_X8_10 dX8_same_12 rfl rfl rfl ?_
        refine zr_iload_n dX8_same_15 rfl ?_
        refine zt_callVi (As := [_]) (ca_hasLineB L σ _ (C 9 0) (by omega) rC.1.1) zc_X8_88 rfl dX8_same_16 rfl rfl rfl rfl rfl rfl ?_
        refine zr_top (congrArg sp_b h2) ?_
        refine zr_if_ne 26 dX8_same_19 (by decide) (fun hp19 => ?_) (fun h => absurd h (by decide))
        refine zr_aload_n dX8_same_26 rfl ?_
        refine zt_getr zg_X8_10 dX8_same_27 rfl rfl rfl ?_
        refine zt_geti zg_X8_77 dX8_same_30 rfl rfl rfl ?_
        refine zr_top (rC.1.2.1) ?_
        refine zr_aload_n dX8_same_33 rfl ?_
        refine zt_getr zg_X8_10 dX8_same_34 rfl rfl rfl ?_
        refine zt_geti zg_X8_96 dX8_same_37 rfl rfl rfl ?_
        refine zr_top (rC.1.2.2.1) ?_
        refine zr_iadd dX8_same_40 ?_
        refine zr_top (nI_add _ _) ?_
        refine zr_bipush (v := 10) dX8_same_41 kc_bipush_10 ?_
        refine zr_icmp_le 50 dX8_same_43 (by decide) (fun hp43 => ?_) (fun h => absurd (nI_le (b := 10) (by omega) (by omega)) h)
        refine zr_aload_n dX8_same_50 rfl ?_
        refine zt_getr zg_X8_58 dX8_same_51 rfl rfl rfl ?_
        refine zr_iload_n dX8_same_54 rfl ?_
        refine zr_iload_n dX8_same_55 rfl ?_
        refine zt_cVi (As := [_, _]) (ca_countAlike L σ C hC rC rR (by omega) x y hx hy) zc_X8_250 rfl dX8_same_56 rfl rfl rfl rfl rfl rfl (fun r1 σ1 h3 => ?_)
        obtain ⟨a1, a2, a3⟩ := h3
        exact zr_iret dX8_same_59 rfl (hQ _ _ ⟨a1, hX0.trial (fun k hk => a2 k (by omega)) a3, fun k hk => a2 k (by omega)⟩)
