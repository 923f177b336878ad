/-! ===== the bench: set, hold, clock, stick, link, shift, tag, tick, state ===== -/
theorem rx_m.inp {σ : gz_Mm} {c : Nat} {m : sp_T} (h : rx_m σ c m) (i n : Nat) : rx_m (gz_wr σ (c + 2) i (nI n)) c (sp_w m 0 i n) := by
  refine h.rows (gz_wr_ne (by omega)) (gz_wr_ne (by omega)) (fun j hj => ?_) (fun j hj => ?_) (fun j => by simp [sp_w])
  · rw [gz_wr_eq]
    by_cases e : j = i
    · simp [upd, sp_w, e]
    · simpa [upd, sp_w, e] using h.1 j hj
  · rw [gz_wr_ne (by omega)]
    simpa [sp_w] using h.2.1 j hj
theorem rx_m.hld {σ : gz_Mm} {c : Nat} {m : sp_T} (h : rx_m σ c m) (i n : Nat) : rx_m (gz_wr σ (c + 3) i (nI n)) c (sp_w m 1 i n) := by
  refine h.rows (gz_wr_ne (by omega)) (gz_wr_ne (by omega)) (fun j hj => ?_) (fun j hj => ?_) (fun j => by simp [sp_w])
  · rw [gz_wr_ne (by omega)]
    simpa [sp_w] using h.1 j hj
  · rw [gz_wr_eq]
    by_cases e : j = i
    · simp [upd, sp_w, e]
    · simpa [upd, sp_w, e] using h.2.1 j hj
theorem cx_set (L : Nat) (σ : gz_Mm) (S : ap_S) (hw : ap_wf S) (hX : ap_X σ S) (i v : Int32) : gz_Gi 1 yX8_set cX8_set 4 (some .int) L [.ref 11, .int i, .int v] σ (ap_P σ (fa_set i v S)) := by
  obtain ⟨C, K, m, tg, tk, no, nu, fO, fU⟩ := S
  obtain ⟨hC, hK, hm, htg, hno, hnu, hz0, hz2⟩ := hw
  have hX0 := hX
  obtain ⟨⟨rC, rK, rM⟩, ⟨r5, r7⟩, rT, rR, rO, rS⟩ := hX
  have h80 := hC.1.1
  have h8 := hC.1.2.1
  have h20 := hC.1.2.2.1
  refine gz_Gi.of rfl rfl (fun Q hQ => ?_)
  cases h1 : ap_v i (C 9 1) with
  | false =>
    have e : fa_set i v (C, K, m, tg, tk, no, nu, fO, fU) = (-1001, (C, K, m, tg, tk, no, nu, fO, fU)) := by simp [fa_set, h1]
    rw [e] at hQ
    rcases ap_v_f h1 (by omega) with q | ⟨q, q2⟩
    · refine zr_iload_n dX8_set_0 rfl ?_
      refine zr_if_lt 15 dX8_set_1 (by decide) (fun hp1 => ?_) (fun h => absurd q h)
      refine zr_sipush (v := (-1001)) dX8_set_15 kc_sipush_m1001 ?_
      exact zr_iret dX8_set_18 rfl (hQ _ _ ⟨rfl, hX0, fun _ _ => rfl⟩)
    · refine zr_iload_n dX8_set_0 rfl ?_
      refine zr_if_lt 15 dX8_set_1 (by decide) (fun h => absurd h q) (fun hp1 => ?_)
      refine zr_iload_n dX8_set_4 rfl ?_
      refine zr_aload_n dX8_set_5 rfl ?_
      refine zt_getr zg_X8_10 dX8_set_6 rfl rfl rfl ?_
      refine zt_geti zg_X8_77 dX8_set_9 rfl rfl rfl ?_
      refine zr_top (rC.1.2.1) ?_
      refine zr_icmp_lt 19 dX8_set_12 (by decide) (fun h => absurd q2 (Int32.not_le.mpr h)) (fun hp12 => ?_)
      refine zr_sipush (v := (-1001)) dX8_set_15 kc_sipush_m1001 ?_
      exact zr_iret dX8_set_18 rfl (hQ _ _ ⟨rfl, hX0, fun _ _ => rfl⟩)
  | true =>
    obtain ⟨j, hj, rfl, ej⟩ := ap_v_t h1 (by omega)
    cases h2 : ap_v v 3 with
    | false =>
      have e : fa_set (nI j) v (C, K, m, tg, tk, no, nu, fO, fU) = (-1002, (C, K, m, tg, tk, no, nu, fO, fU)) := by simp [fa_set, h1, h2]
      rw [e] at hQ
      refine zr_iload_n dX8_set_0 rfl ?_
      refine zr_if_lt 15 dX8_set_1 (by decide) (fun h => absurd h (nI_pos (by omega))) (fun hp1 => ?_)
      refine zr_iload_n dX8_set_4 rfl ?_
      refine zr_aload_n dX8_set_5 rfl ?_
      refine zt_getr zg_X8_10 dX8_set_6 rfl rfl rfl ?_
      refine zt_geti zg_X8_77 dX8_set_9 rfl rfl rfl ?_
      refine zr_top (rC.1.2.1) ?_
      refine zr_icmp_lt 19 dX8_set_12 (by decide) (fun hp12 => ?_) (fun h => absurd (nI_lt hj (by omega)) h)
      refine zr_iload_n dX8_set_19 rfl ?_
      refine zt_callSi (As := [_]) (ca_isValue L σ v) zc_X8_140 rfl dX8_set_20 rfl rfl rfl ?_
      refine zr_top (congrArg sp_b h2) ?_
      refine zr_if_ne 30 dX8_set_23 (by decide) (fun h => absurd h (by decide)) (fun hp23 => ?_)
      refine zr_sipush (v := (-1002)) dX8_set_26 kc_sipush_m1002 ?_
      exact zr_iret dX8_set_29 rfl (hQ _ _ ⟨rfl, hX0, fun _ _ => rfl⟩)
    | true =>
      obtain ⟨b, hb, rfl, eb⟩ := ap_v_t h2 (by omega)
      have e : fa_set (nI j) (nI b) (C, K, m, tg, tk, no, nu, fO, fU) = (nI (m 0 j), (C, K, sp_w m 0 j b, tg, tk, no, nu, fO, fU)) := by simp [fa_set, h1, h2, ej, eb]
      rw [e] at hQ
      refine zr_iload_n dX8_set_0 rfl ?_
      refine zr_if_lt 15 dX8_set_1 (by decide) (fun h => absurd h (nI_pos (by omega))) (fun hp1 => ?_)
      refine zr_iload_n dX8_set_4 rfl ?_
      refine zr_aload_n dX8_set_5 rfl ?_
      refine zt_getr zg_X8_10 dX8_set_6 rfl rfl rfl ?_
      refine zt_geti zg_X8_77 dX8_set_9 rfl rfl rfl ?_
      refine zr_top (rC.1.2.1) ?_
      refine zr_icmp_lt 19 dX8_set_12 (by decide) (fun hp12 => ?_) (fun h => absurd (nI_lt hj (by omega)) h)
      refine zr_iload_n dX8_set_19 rfl ?_
      refine zt_callSi (As := [_]) (ca_isValue L σ _) zc_X8_140 rfl dX8_set_20 rfl rfl rfl ?_
      refine zr_top (congrArg sp_b h2) ?_
      refine zr_if_ne 30 dX8_set_23 (by decide) (fun hp23 => ?_) (fun h => absurd h (by decide))
      refine zr_aload_n dX8_set_30 rfl ?_
      refine zt_getr zg_X8_33 dX8_set_31 rfl rfl rfl ?_
      refine zt_getr zg_X8_133 dX8_set_34 rfl rfl rfl ?_
      refine zt_getr zg_X8_143 dX8_set_37 rfl rfl rfl ?_
      refine zr_iload_n dX8_set_40 rfl ?_
      refine zt_ildN dX8_set_41 rfl rfl (by omega) (rM.1 j (by omega)) ?_
      refine zr_istore_n dX8_set_42 (by decide) rfl ?_
      refine zr_aload_n dX8_set_43 rfl ?_
      refine zt_getr zg_X8_33 dX8_set_44 rfl rfl rfl ?_
      refine zt_getr zg_X8_133 dX8_set_47 rfl rfl rfl ?_
      refine zt_getr zg_X8_143 dX8_set_50 rfl rfl rfl ?_
      refine zr_iload_n dX8_set_53 rfl ?_
      refine zr_iload_n dX8_set_54 rfl ?_
      refine zt_istN dX8_set_55 rfl rfl rfl (by omega) ?_
      refine zr_iload_n dX8_set_56 rfl ?_
      exact zr_iret dX8_set_57 rfl (hQ _ _ ⟨rfl, hX0.live (rM.inp j b) ((congrFun (gz_wr_ne (by decide)) 5).trans r5) ((congrFun (gz_wr_ne (by decide)) 7).trans r7) (fun k hk => gz_wr_ne (by omega)), fun k hk => gz_wr_ne (by omega)⟩)
theorem cx_hold (L : Nat) (σ : gz_Mm) (S : ap_S) (hw : ap_wf S) (hX : ap_X σ S) (c v : Int32) : gz_Gi 1 yX8_hold cX8_hold 4 (some .int) L [.ref 11, .int c, .int v] σ (ap_P σ (fa_hold c v S)) := by
  obtain ⟨C, K, m, tg, tk, no, nu, fO, fU⟩ := S
  obtain ⟨hC, hK, hm, htg, hno, hnu, hz0, hz2⟩ := hw
  have hX0 := hX
  obtain ⟨⟨rC, rK, rM⟩, ⟨r5, r7⟩, rT, rR, rO, rS⟩ := hX
  have h80 := hC.1.1
  have h8 := hC.1.2.1
  have h20 := hC.1.2.2.1
  refine gz_Gi.of rfl rfl (fun Q hQ => ?_)
  cases h1 : ap_v c (C 9 2) with
  | false =>
    have e : fa_hold c v (C, K, m, tg, tk, no, nu, fO, fU) = (-1001, (C, K, m, tg, tk, no, nu, fO, fU)) := by simp [fa_hold, h1]
    rw [e] at hQ
    refine zr_aload_n dX8_hold_0 rfl ?_
    refine zt_getr zg_X8_10 dX8_hold_1 rfl rfl rfl ?_
    refine zr_iload_n dX8_hold_4 rfl ?_
    refine zt_callVi (As := [_]) (ca_hasCellB L σ c (C 9 2) (by omega) rC.1.2.2.1) zc_X8_102 rfl dX8_hold_5 rfl rfl rfl rfl rfl rfl ?_
    refine zr_top (congrArg sp_b h1) ?_
    refine zr_if_ne 15 dX8_hold_8 (by decide) (fun h => absurd h (by decide)) (fun hp8 => ?_)
    refine zr_sipush (v := (-1001)) dX8_hold_11 kc_sipush_m1001 ?_
    exact zr_iret dX8_hold_14 rfl (hQ _ _ ⟨rfl, hX0, fun _ _ => rfl⟩)
  | true =>
    obtain ⟨j, hj, rfl, ej⟩ := ap_v_t h1 (by omega)
    cases h2 : ap_v v 3 with
    | false =>
      have e : fa_hold (nI j) v (C, K, m, tg, tk, no, nu, fO, fU) = (-1002, (C, K, m, tg, tk, no, nu, fO, fU)) := by simp [fa_hold, h1, h2]
      rw [e] at hQ
      refine zr_aload_n dX8_hold_0 rfl ?_
      refine zt_getr zg_X8_10 dX8_hold_1 rfl rfl rfl ?_
      refine zr_iload_n dX8_hold_4 rfl ?_
      refine zt_callVi (As := [_]) (ca_hasCellB L σ _ (C 9 2) (by omega) rC.1.2.2.1) zc_X8_102 rfl dX8_hold_5 rfl rfl rfl rfl rfl rfl ?_
      refine zr_top (congrArg sp_b h1) ?_
      refine zr_if_ne 15 dX8_hold_8 (by decide) (fun hp8 => ?_) (fun h => absurd h (by decide))
      refine zr_iload_n dX8_hold_15 rfl ?_
      refine zt_callSi (As := [_]) (ca_isValue L σ v) zc_X8_140 rfl dX8_hold_16 rfl rfl rfl ?_
      refine zr_top (congrArg sp_b h2) ?_
      refine zr_if_ne 26 dX8_hold_19 (by decide) (fun h => absurd h (by decide)) (fun hp19 => ?_)
      refine zr_sipush (v := (-1002)) dX8_hold_22 kc_sipush_m1002 ?_
      exact zr_iret dX8_hold_25 rfl (hQ _ _ ⟨rfl, hX0, fun _ _ => rfl⟩)
    | true =>
      obtain ⟨b, hb, rfl, eb⟩ := ap_v_t h2 (by omega)
      have e : fa_hold (nI j) (nI b) (C, K, m, tg, tk, no, nu, fO, fU) = (nI (m 1 j), (C, K, sp_w m 1 j b, tg, tk, no, nu, fO, fU)) := by simp [fa_hold, h1, h2, ej, eb]
      rw [e] at hQ
      refine zr_aload_n dX8_hold_0 rfl ?_
      refine zt_getr zg_X8_10 dX8_hold_1 rfl rfl rfl ?_
      refine zr_iload_n dX8_hold_4 rfl ?_
      refine zt_callVi (As := [_]) (ca_hasCellB L σ _ (C 9 2) (by omega) rC.1.2.2.1) zc_X8_102 rfl dX8_hold_5 rfl rfl rfl rfl rfl rfl ?_
      refine zr_top (congrArg sp_b h1) ?_
      refine zr_if_ne 15 dX8_hold_8 (by decide) (fun hp8 => ?_) (fun h => absurd h (by decide))
      refine zr_iload_n dX8_hold_15 rfl ?_
      refine zt_callSi (As := [_]) (ca_isValue L σ _) zc_X8_140 rfl dX8_hold_16 rfl rfl rfl ?_
      refine zr_top (congrArg sp_b h2) ?_
      refine zr_if_ne 26 dX8_hold_19 (by decide) (fun hp19 => ?_) (fun h => absurd h (by decide))
      refine zr_aload_n dX8_hold_26 rfl ?_
      refine zt_getr zg_X8_33 dX8_hold_27 rfl rfl rfl ?_
      refine zt_getr zg_X8_133 dX8_hold_30 rfl rfl rfl ?_
      refine zt_getr zg_X8_146 dX8_hold_33 rfl rfl rfl ?_
      refine zr_iload_n dX8_hold_36 rfl ?_
      refine zt_ildN dX8_hold_37 rfl rfl (by omega) (rM.2.1 j (by omega)) ?_
      refine zr_istore_n dX8_hold_38 (by decide) rfl ?_
      refine zr_aload_n dX8_hold_39 rfl ?_
      refine zt_getr zg_X8_33 dX8_hold_40 rfl rfl rfl ?_
      refine zt_getr zg_X8_133 dX8_hold_43 rfl rfl rfl ?_
      refine zt_getr zg_X8_146 dX8_hold_46 rfl rfl rfl ?_
      refine zr_iload_n dX8_hold_49 rfl ?_
      refine zr_iload_n dX8_hold_50 rfl ?_
      refine zt_istN dX8_hold_51 rfl rfl rfl (by omega) ?_
      refine zr_iload_n dX8_hold_52 rfl ?_
      exact zr_iret dX8_hold_53 rfl (hQ _ _ ⟨rfl, hX0.live (rM.hld j b) ((congrFun (gz_wr_ne (by decide)) 5).trans r5) ((congrFun (gz_wr_ne (by decide)) 7).trans r7) (fun k hk => gz_wr_ne (by omega)), fun k hk => gz_wr_ne (by omega)⟩)
theorem cx_clock (L : Nat) (σ : gz_Mm) (S : ap_S) (hw : ap_wf S) (hX : ap_X σ S) (d : Int32) : gz_Gi 3 yX8_clock cX8_clock 2 (some .int) L [.ref 11, .int d] σ (ap_P σ (fa_clock d S)) := by
  obtain ⟨C, K, m, tg, tk, no, nu, fO, fU⟩ := S
  obtain ⟨hC, hK, hm, htg, hno, hnu, hz0, hz2⟩ := hw
  have hX0 := hX
  obtain ⟨⟨rC, rK, rM⟩, ⟨r5, r7⟩, rT, rR, rO, rS⟩ := hX
  have h80 := hC.1.1
  have h8 := hC.1.2.1
  have h20 := hC.1.2.2.1
  refine gz_Gi.of rfl rfl (fun Q hQ => ?_)
  cases h1 : ap_v d 8 with
  | false =>
    have e : fa_clock d (C, K, m, tg, tk, no, nu, fO, fU) = (-1002, (C, K, m, tg, tk, no, nu, fO, fU)) := by simp [fa_clock, h1]
    rw [e] at hQ
    rcases ap_v_f h1 (by omega) with q | ⟨q, q2⟩
    · refine zr_iload_n dX8_clock_0 rfl ?_
      refine zr_if_lt 10 dX8_clock_1 (by decide) (fun hp1 => ?_) (fun h => absurd q h)
      refine zr_sipush (v := (-1002)) dX8_clock_10 kc_sipush_m1002 ?_
      exact zr_iret dX8_clock_13 rfl (hQ _ _ ⟨rfl, hX0, fun _ _ => rfl⟩)
    · refine zr_iload_n dX8_clock_0 rfl ?_
      refine zr_if_lt 10 dX8_clock_1 (by decide) (fun h => absurd h q) (fun hp1 => ?_)
      refine zr_iload_n dX8_clock_4 rfl ?_
      refine zr_bipush (v := 7) dX8_clock_5 kc_bipush_7 ?_
      refine zr_icmp_le 14 dX8_clock_7 (by decide) (fun h => absurd (Int32.le_trans q2 h) (by decide)) (fun hp7 => ?_)
      refine zr_sipush (v := (-1002)) dX8_clock_10 kc_sipush_m1002 ?_
      exact zr_iret dX8_clock_13 rfl (hQ _ _ ⟨rfl, hX0, fun _ _ => rfl⟩)
  | true =>
    obtain ⟨j, hj, rfl, ej⟩ := ap_v_t h1 (by omega)
    have e : fa_clock (nI j) (C, K, m, tg, tk, no, nu, fO, fU) = (nI (sp_cnt C j (C 9 2)), (C, K, sp_clk C m j, tg, tk, no, nu, fO, fU)) := by simp [fa_clock, h1, ej]
    rw [e] at hQ
    refine zr_iload_n dX8_clock_0 rfl ?_
    refine zr_if_lt 10 dX8_clock_1 (by decide) (fun h => absurd h (nI_pos (by omega))) (fun hp1 => ?_)
    refine zr_iload_n dX8_clock_4 rfl ?_
    refine zr_bipush (v := 7) dX8_clock_5 kc_bipush_7 ?_
    refine zr_icmp_le 14 dX8_clock_7 (by decide) (fun hp7 => ?_) (fun h => absurd (nI_le (b := 7) (by omega) (by omega)) h)
    refine zr_aload_n dX8_clock_14 rfl ?_
    refine zt_getr zg_X8_33 dX8_clock_15 rfl rfl rfl ?_
    refine zt_getr zg_X8_133 dX8_clock_18 rfl rfl rfl ?_
    refine zr_iload_n dX8_clock_21 rfl ?_
    refine zt_cVi (As := [_]) (ca_clock_31 L σ C m hC hm rC rM j hj) zc_X8_149 rfl dX8_clock_22 rfl rfl rfl rfl rfl rfl (fun v1 σ1 h1 => ?_)
    obtain ⟨a1, a2, a3⟩ := h1
    exact zr_iret dX8_clock_25 rfl (hQ _ _ ⟨a1, hX0.live a3 ((congrFun (a2 31 (by decide) (by decide)) 5).trans r5) ((congrFun (a2 31 (by decide) (by decide)) 7).trans r7) (fun k hk => a2 k (by omega) (by omega)), fun k hk => a2 k (by omega) (by omega)⟩)
theorem rx_m.unstickL {σ : gz_Mm} {m : sp_T} (h : rx_m σ 31 m) : rx_m (gz_wr σ 32 5 (-1)) 31 (sp_w m 2 0 0) := by
  obtain ⟨a1, a2, a3, a4, a5, a6, a7, a8, a9⟩ := h
  unfold rx_m
  rw [gz_wr_ne (a := 31) (by omega), gz_wr_ne (a := 31 + 2) (by omega), gz_wr_ne (a := 31 + 3) (by omega), show 31 + 1 = 32 from rfl, gz_wr_eq]
  simp [sp_w, upd]
  exact ⟨a1, a2, rfl, a5, a6, a7, a8, a9⟩
theorem rx_m.stickL {σ : gz_Mm} {m : sp_T} (h : rx_m σ 31 m) (l v : Nat) : rx_m (gz_wr (gz_wr σ 32 5 (nI l)) 32 6 (nI v)) 31 (sp_w (sp_w m 2 0 (l + 1)) 2 1 v) := by
  obtain ⟨a1, a2, a3, a4, a5, a6, a7, a8, a9⟩ := h
  unfold rx_m
  rw [gz_wr_ne (a := 31) (by omega), gz_wr_ne (a := 31) (by omega), gz_wr_ne (a := 31 + 2) (by omega), gz_wr_ne (a := 31 + 2) (by omega), gz_wr_ne (a := 31 + 3) (by omega), gz_wr_ne (a := 31 + 3) (by omega), show 31 + 1 = 32 from rfl, gz_wr_eq, gz_wr_eq]
  simp [sp_w, upd]
  exact ⟨a1, a2, (pk_m1 l).symm, a5, a6, a7, a8, a9⟩
theorem cx_stick (L : Nat) (σ : gz_Mm) (S : ap_S) (hw : ap_wf S) (hX : ap_X σ S) (l v : Int32) : gz_Gi 1 yX8_stick cX8_stick 3 (some .int) L [.ref 11, .int l, .int v] σ (ap_P σ (fa_stick l v S)) := by
  obtain ⟨C, K, m, tg, tk, no, nu, fO, fU⟩ := S
  obtain ⟨hC, hK, hm, htg, hno, hnu, hz0, hz2⟩ := hw
  have hX0 := hX
  obtain ⟨⟨rC, rK, rM⟩, ⟨r5, r7⟩, rT, rR, rO, rS⟩ := hX
  have h80 := hC.1.1
  have h8 := hC.1.2.1
  have h20 := hC.1.2.2.1
  refine gz_Gi.of rfl rfl (fun Q hQ => ?_)
  by_cases h0 : l = -1
  · subst h0
    have e : fa_stick (-1) v (C, K, m, tg, tk, no, nu, fO, fU) = (1, (C, K, sp_w m 2 0 0, tg, tk, no, nu, fO, fU)) := by simp [fa_stick]
    rw [e] at hQ
    refine zr_iload_n dX8_stick_0 rfl ?_
    refine zr_iconst (v := (-1)) dX8_stick_1 kc_iconst_m1 ?_
    refine zr_icmp_ne 17 dX8_stick_2 (by decide) (fun h => absurd h (by decide)) (fun hp2 => ?_)
    refine zr_aload_n dX8_stick_5 rfl ?_
    refine zt_getr zg_X8_33 dX8_stick_6 rfl rfl rfl ?_
    refine zt_getr zg_X8_133 dX8_stick_9 rfl rfl rfl ?_
    refine zt_callVv (As := []) (ca_unstick_31 L σ) zc_X8_152 rfl dX8_stick_12 rfl rfl rfl rfl rfl rfl ?_
    refine zr_iconst (v := 1) dX8_stick_15 kc_iconst_1 ?_
    exact zr_iret dX8_stick_16 rfl (hQ _ _ ⟨rfl, hX0.live rM.unstickL ((congrFun (gz_wr_ne (by decide)) 5).trans r5) ((congrFun (gz_wr_ne (by decide)) 7).trans r7) (fun k hk => gz_wr_ne (by omega)), fun k hk => gz_wr_ne (by omega)⟩)
  · cases h1 : ap_v l (C 9 0) with
    | false =>
      have e : fa_stick l v (C, K, m, tg, tk, no, nu, fO, fU) = (-1001, (C, K, m, tg, tk, no, nu, fO, fU)) := by simp [fa_stick, h0, h1]
      rw [e] at hQ
      refine zr_iload_n dX8_stick_0 rfl ?_
      refine zr_iconst (v := (-1)) dX8_stick_1 kc_iconst_m1 ?_
      refine zr_icmp_ne 17 dX8_stick_2 (by decide) (fun hp2 => ?_) (fun h => absurd h h0)
      refine zr_aload_n dX8_stick_17 rfl ?_
      refine zt_getr zg_X8_10 dX8_stick_18 rfl rfl rfl ?_
      refine zr_iload_n dX8_stick_21 rfl ?_
      refine zt_callVi (As := [_]) (ca_hasLineB L σ l (C 9 0) (by omega) rC.1.1) zc_X8_88 rfl dX8_stick_22 rfl rfl rfl rfl rfl rfl ?_
      refine zr_top (congrArg sp_b h1) ?_
      refine zr_if_ne 32 dX8_stick_25 (by decide) (fun h => absurd h (by decide)) (fun hp25 => ?_)
      refine zr_sipush (v := (-1001)) dX8_stick_28 kc_sipush_m1001 ?_
      exact zr_iret dX8_stick_31 rfl (hQ _ _ ⟨rfl, hX0, fun _ _ => rfl⟩)
    | true =>
      cases h2 : ap_v v 2 with
      | false =>
        have e : fa_stick l v (C, K, m, tg, tk, no, nu, fO, fU) = (-1002, (C, K, m, tg, tk, no, nu, fO, fU)) := by simp [fa_stick, h0, h1, h2]
        rw [e] at hQ
        refine zr_iload_n dX8_stick_0 rfl ?_
        refine zr_iconst (v := (-1)) dX8_stick_1 kc_iconst_m1 ?_
        refine zr_icmp_ne 17 dX8_stick_2 (by decide) (fun hp2 => ?_) (fun h => absurd h h0)
        refine zr_aload_n dX8_stick_17 rfl ?_
        refine zt_getr zg_X8_10 dX8_stick_18 rfl rfl rfl ?_
        refine zr_iload_n dX8_stick_21 rfl ?_
        refine zt_callVi (As := [_]) (ca_hasLineB L σ l (C 9 0) (by omega) rC.1.1) zc_X8_88 rfl dX8_stick_22 rfl rfl rfl rfl rfl rfl ?_
        refine zr_top (congrArg sp_b h1) ?_
        refine zr_if_ne 32 dX8_stick_25 (by decide) (fun hp25 => ?_) (fun h => absurd h (by decide))
        refine zr_iload_n dX8_stick_32 rfl ?_
        refine zt_callSi (As := [_]) (ca_isBit L σ v) zc_X8_155 rfl dX8_stick_33 rfl rfl rfl ?_
        refine zr_top (congrArg sp_b h2) ?_
        refine zr_if_ne 43 dX8_stick_36 (by decide) (fun h => absurd h (by decide)) (fun hp36 => ?_)
        refine zr_sipush (v := (-1002)) dX8_stick_39 kc_sipush_m1002 ?_
        exact zr_iret dX8_stick_42 rfl (hQ _ _ ⟨rfl, hX0, fun _ _ => rfl⟩)
      | true =>
        obtain ⟨j, hj, rfl, ej⟩ := ap_v_t h1 (by omega)
        obtain ⟨b, hb, rfl, eb⟩ := ap_v_t h2 (by omega)
        have e : fa_stick (nI j) (nI b) (C, K, m, tg, tk, no, nu, fO, fU) = (1, (C, K, sp_w (sp_w m 2 0 (j + 1)) 2 1 b, tg, tk, no, nu, fO, fU)) := by simp [fa_stick, h0, h1, h2, ej, eb]
        rw [e] at hQ
        refine zr_iload_n dX8_stick_0 rfl ?_
        refine zr_iconst (v := (-1)) dX8_stick_1 kc_iconst_m1 ?_
        refine zr_icmp_ne 17 dX8_stick_2 (by decide) (fun hp2 => ?_) (fun h => absurd h h0)
        refine zr_aload_n dX8_stick_17 rfl ?_
        refine zt_getr zg_X8_10 dX8_stick_18 rfl rfl rfl ?_
        refine zr_iload_n dX8_stick_21 rfl ?_
        refine zt_callVi (As := [_]) (ca_hasLineB L σ _ (C 9 0) (by omega) rC.1.1) zc_X8_88 rfl dX8_stick_22 rfl rfl rfl rfl rfl rfl ?_
        refine zr_top (congrArg sp_b h1) ?_
        refine zr_if_ne 32 dX8_stick_25 (by decide) (fun hp25 => ?_) (fun h => absurd h (by decide))
        refine zr_iload_n dX8_stick_32 rfl ?_
        refine zt_callSi (As := [_]) (ca_isBit L σ _) zc_X8_155 rfl dX8_stick_33 rfl rfl rfl ?_
        refine zr_top (congrArg sp_b h2) ?_
        refine zr_if_ne 43 dX8_stick_36 (by decide) (fun hp36 => ?_) (fun h => absurd h (by decide))
        refine zr_aload_n dX8_stick_43 rfl ?_
        refine zt_getr zg_X8_33 dX8_stick_44 rfl rfl rfl ?_
        refine zt_getr zg_X8_133 dX8_stick_47 rfl rfl rfl ?_
        refine zr_iload_n dX8_stick_50 rfl ?_
        refine zr_iload_n dX8_stick_51 rfl ?_
        refine zt_callVv (As := [_, _]) (ca_stickAt_31 L σ _ _) zc_X8_158 rfl dX8_stick_52 rfl rfl rfl rfl rfl rfl ?_
        refine zr_iconst (v := 1) dX8_stick_55 kc_iconst_1 ?_
        exact zr_iret dX8_stick_56 rfl (hQ _ _ ⟨rfl, hX0.live (rM.stickL j b) (by simp [gz_wr]; exact r5) (by simp [gz_wr]; exact r7) (fun k hk => by simp [gz_wr, show ¬ k = 32 by omega]), fun k hk => by simp [gz_wr, show ¬ k = 32 by omega]⟩)
theorem cx_link (L : Nat) (σ : gz_Mm) (S : ap_S) (hw : ap_wf S) (hX : ap_X σ S) (k i : Int32) : gz_Gi 1 yX8_link cX8_link 3 (some .int) L [.ref 11, .int k, .int i] σ (ap_P σ (fa_link k i S)) := by
  obtain ⟨C, K, m, tg, tk, no, nu, fO, fU⟩ := S
  obtain ⟨hC, hK, hm, htg, hno, hnu, hz0, hz2⟩ := hw
  have hX0 := hX
  obtain ⟨⟨rC, rK, rM⟩, ⟨r5, r7⟩, rT, rR, rO, rS⟩ := hX
  have h80 := hC.1.1
  have h8 := hC.1.2.1
  have h20 := hC.1.2.2.1
  refine gz_Gi.of rfl rfl (fun Q hQ => ?_)
  cases h1 : ap_v k 3 with
  | false =>
    have e : fa_link k i (C, K, m, tg, tk, no, nu, fO, fU) = (-1001, (C, K, m, tg, tk, no, nu, fO, fU)) := by simp [fa_link, h1]
    rw [e] at hQ
    refine zr_iload_n dX8_link_0 rfl ?_
    refine zt_callSi (As := [_]) (ca_hasChain L σ k) zc_X8_162 rfl dX8_link_1 rfl rfl rfl ?_
    refine zr_top (congrArg sp_b h1) ?_
    refine zr_if_ne 11 dX8_link_4 (by decide) (fun h => absurd h (by decide)) (fun hp4 => ?_)
    refine zr_sipush (v := (-1001)) dX8_link_7 kc_sipush_m1001 ?_
    exact zr_iret dX8_link_10 rfl (hQ _ _ ⟨rfl, hX0, fun _ _ => rfl⟩)
  | true =>
    obtain ⟨j, hj, rfl, ej⟩ := ap_v_t h1 (by omega)
    have hlen := hK.lenk hj
    obtain ⟨rs, rr⟩ := rK.1 j hj
    cases h2 : ap_v i (K j).length with
    | false =>
      have e : fa_link (nI j) i (C, K, m, tg, tk, no, nu, fO, fU) = (-1, (C, K, m, tg, tk, no, nu, fO, fU)) := by simp [fa_link, h1, ej, h2]
      rw [e] at hQ
      rcases ap_v_f h2 (by omega) with q | ⟨q, q2⟩
      · refine zr_iload_n dX8_link_0 rfl ?_
        refine zt_callSi (As := [_]) (ca_hasChain L σ _) zc_X8_162 rfl dX8_link_1 rfl rfl rfl ?_
        refine zr_top (congrArg sp_b h1) ?_
        refine zr_if_ne 11 dX8_link_4 (by decide) (fun hp4 => ?_) (fun h => absurd h (by decide))
        refine zr_iload_n dX8_link_11 rfl ?_
        refine zr_if_lt 28 dX8_link_12 (by decide) (fun hp12 => ?_) (fun h => absurd q h)
        refine zr_iconst (v := (-1)) dX8_link_28 kc_iconst_m1 ?_
        exact zr_iret dX8_link_29 rfl (hQ _ _ ⟨rfl, hX0, fun _ _ => rfl⟩)
      · refine zr_iload_n dX8_link_0 rfl ?_
        refine zt_callSi (As := [_]) (ca_hasChain L σ _) zc_X8_162 rfl dX8_link_1 rfl rfl rfl ?_
        refine zr_top (congrArg sp_b h1) ?_
        refine zr_if_ne 11 dX8_link_4 (by decide) (fun hp4 => ?_) (fun h => absurd h (by decide))
        refine zr_iload_n dX8_link_11 rfl ?_
        refine zr_if_lt 28 dX8_link_12 (by decide) (fun h => absurd h q) (fun hp12 => ?_)
        refine zr_iload_n dX8_link_15 rfl ?_
        refine zr_aload_n dX8_link_16 rfl ?_
        refine zt_getr zg_X8_19 dX8_link_17 rfl rfl rfl ?_
        refine zt_getr zg_X8_165 dX8_link_20 rfl rfl rfl ?_
        refine zr_iload_n dX8_link_23 rfl ?_
        refine zt_ildN dX8_link_24 rfl rfl (hj) (rs) ?_
        refine zr_icmp_lt 30 dX8_link_25 (by decide) (fun h => absurd q2 (Int32.not_le.mpr h)) (fun hp25 => ?_)
        refine zr_iconst (v := (-1)) dX8_link_28 kc_iconst_m1 ?_
        exact zr_iret dX8_link_29 rfl (hQ _ _ ⟨rfl, hX0, fun _ _ => rfl⟩)
    | true =>
      obtain ⟨b, hb, rfl, eb⟩ := ap_v_t h2 (by omega)
      have e : fa_link (nI j) (nI b) (C, K, m, tg, tk, no, nu, fO, fU) = (nI ((K j).getD b 0), (C, K, m, tg, tk, no, nu, fO, fU)) := by simp [fa_link, h1, ej, h2, eb]
      rw [e] at hQ
      rcases (show j = 0 ∨ j = 1 ∨ j = 2 by omega) with rfl | rfl | rfl
      · refine zr_iload_n dX8_link_0 rfl ?_
        refine zt_callSi (As := [_]) (ca_hasChain L σ _) zc_X8_162 rfl dX8_link_1 rfl rfl rfl ?_
        refine zr_top (congrArg sp_b h1) ?_
        refine zr_if_ne 11 dX8_link_4 (by decide) (fun hp4 => ?_) (fun h => absurd h (by decide))
        refine zr_iload_n dX8_link_11 rfl ?_
        refine zr_if_lt 28 dX8_link_12 (by decide) (fun h => absurd h (nI_pos (by omega))) (fun hp12 => ?_)
        refine zr_iload_n dX8_link_15 rfl ?_
        refine zr_aload_n dX8_link_16 rfl ?_
        refine zt_getr zg_X8_19 dX8_link_17 rfl rfl rfl ?_
        refine zt_getr zg_X8_165 dX8_link_20 rfl rfl rfl ?_
        refine zr_iload_n dX8_link_23 rfl ?_
        refine zt_ildN dX8_link_24 rfl rfl (hj) (rs) ?_
        refine zr_icmp_lt 30 dX8_link_25 (by decide) (fun hp25 => ?_) (fun h => absurd (nI_lt hb (by omega)) h)
        refine zr_aload_n dX8_link_30 rfl ?_
        refine zt_getr zg_X8_19 dX8_link_31 rfl rfl rfl ?_
        refine zt_getr zg_X8_178 dX8_link_34 rfl rfl rfl ?_
        refine zr_iload_n dX8_link_37 rfl ?_
        refine zt_aldN (t := 25) dX8_link_38 rfl rfl (by decide) (rfl) ?_
        refine zr_iload_n dX8_link_39 rfl ?_
        refine zt_ildN dX8_link_40 rfl rfl (by omega) (rr b hb) ?_
        exact zr_iret dX8_link_41 rfl (hQ _ _ ⟨rfl, hX0, fun _ _ => rfl⟩)
      · refine zr_iload_n dX8_link_0 rfl ?_
        refine zt_callSi (As := [_]) (ca_hasChain L σ _) zc_X8_162 rfl dX8_link_1 rfl rfl rfl ?_
        refine zr_top (congrArg sp_b h1) ?_
        refine zr_if_ne 11 dX8_link_4 (by decide) (fun hp4 => ?_) (fun h => absurd h (by decide))
        refine zr_iload_n dX8_link_11 rfl ?_
        refine zr_if_lt 28 dX8_link_12 (by decide) (fun h => absurd h (nI_pos (by omega))) (fun hp12 => ?_)
        refine zr_iload_n dX8_link_15 rfl ?_
        refine zr_aload_n dX8_link_16 rfl ?_
        refine zt_getr zg_X8_19 dX8_link_17 rfl rfl rfl ?_
        refine zt_getr zg_X8_165 dX8_link_20 rfl rfl rfl ?_
        refine zr_iload_n dX8_link_23 rfl ?_
        refine zt_ildN dX8_link_24 rfl rfl (hj) (rs) ?_
        refine zr_icmp_lt 30 dX8_link_25 (by decide) (fun hp25 => ?_) (fun h => absurd (nI_lt hb (by omega)) h)
        refine zr_aload_n dX8_link_30 rfl ?_
        refine zt_getr zg_X8_19 dX8_link_31 rfl rfl rfl ?_
        refine zt_getr zg_X8_178 dX8_link_34 rfl rfl rfl ?_
        refine zr_iload_n dX8_link_37 rfl ?_
        refine zt_aldN (t := 26) dX8_link_38 rfl rfl (by decide) (rfl) ?_
        refine zr_iload_n dX8_link_39 rfl ?_
        refine zt_ildN dX8_link_40 rfl rfl (by omega) (rr b hb) ?_
        exact zr_iret dX8_link_41 rfl (hQ _ _ ⟨rfl, hX0, fun _ _ => rfl⟩)
      · refine zr_iload_n dX8_link_0 rfl ?_
        refine zt_callSi (As := [_]) (ca_hasChain L σ _) zc_X8_162 rfl dX8_link_1 rfl rfl rfl ?_
        refine zr_top (congrArg sp_b h1) ?_
        refine zr_if_ne 11 dX8_link_4 (by decide) (fun hp4 => ?_) (fun h => absurd h (by decide))
        refine zr_iload_n dX8_link_11 rfl ?_
        refine zr_if_lt 28 dX8_link_12 (by decide) (fun h => absurd h (nI_pos (by omega))) (fun hp12 => ?_)
        refine zr_iload_n dX8_link_15 rfl ?_
        refine zr_aload_n dX8_link_16 rfl ?_
        refine zt_getr zg_X8_19 dX8_link_17 rfl rfl rfl ?_
        refine zt_getr zg_X8_165 dX8_link_20 rfl rfl rfl ?_
        refine zr_iload_n dX8_link_23 rfl ?_
        refine zt_ildN dX8_link_24 rfl rfl (hj) (rs) ?_
        refine zr_icmp_lt 30 dX8_link_25 (by decide) (fun hp25 => ?_) (fun h => absurd (nI_lt hb (by omega)) h)
        refine zr_aload_n dX8_link_30 rfl ?_
        refine zt_getr zg_X8_19 dX8_link_31 rfl rfl rfl ?_
        refine zt_getr zg_X8_178 dX8_link_34 rfl rfl rfl ?_
        refine zr_iload_n dX8_link_37 rfl ?_
        refine zt_aldN (t := 27) dX8_link_38 rfl rfl (by decide) (rfl) ?_
        refine zr_iload_n dX8_link_39 rfl ?_
        refine zt_ildN dX8_link_40 rfl rfl (by omega) (rr b hb) ?_
        exact zr_iret dX8_link_41 rfl (hQ _ _ ⟨rfl, hX0, fun _ _ => rfl⟩)
theorem cx_shift (L : Nat) (σ : gz_Mm) (S : ap_S) (hw : ap_wf S) (hX : ap_X σ S) (k v : Int32) : gz_Gi 1 yX8_shift cX8_shift 3 (some .int) L [.ref 11, .int k, .int v] σ (ap_P σ (fa_shift k v S)) := by
  obtain ⟨C, K, m, tg, tk, no, nu, fO, fU⟩ := S
  obtain ⟨hC, hK, hm, htg, hno, hnu, hz0, hz2⟩ := hw
  have hX0 := hX
  obtain ⟨⟨rC, rK, rM⟩, ⟨r5, r7⟩, rT, rR, rO, rS⟩ := hX
  have h80 := hC.1.1
  have h8 := hC.1.2.1
  have h20 := hC.1.2.2.1
  refine gz_Gi.of rfl rfl (fun Q hQ => ?_)
  cases h1 : ap_v k 3 with
  | false =>
    have e : fa_shift k v (C, K, m, tg, tk, no, nu, fO, fU) = (-1001, (C, K, m, tg, tk, no, nu, fO, fU)) := by simp [fa_shift, h1]
    rw [e] at hQ
    refine zr_iload_n dX8_shift_0 rfl ?_
    refine zt_callSi (As := [_]) (ca_hasChain L σ k) zc_X8_162 rfl dX8_shift_1 rfl rfl rfl ?_
    refine zr_top (congrArg sp_b h1) ?_
    refine zr_if_ne 11 dX8_shift_4 (by decide) (fun h => absurd h (by decide)) (fun hp4 => ?_)
    refine zr_sipush (v := (-1001)) dX8_shift_7 kc_sipush_m1001 ?_
    exact zr_iret dX8_shift_10 rfl (hQ _ _ ⟨rfl, hX0, fun _ _ => rfl⟩)
  | true =>
    obtain ⟨j, hj, rfl, ej⟩ := ap_v_t h1 (by omega)
    cases h2 : ap_v v 3 with
    | false =>
      have e : fa_shift (nI j) v (C, K, m, tg, tk, no, nu, fO, fU) = (-1002, (C, K, m, tg, tk, no, nu, fO, fU)) := by simp [fa_shift, h1, h2]
      rw [e] at hQ
      refine zr_iload_n dX8_shift_0 rfl ?_
      refine zt_callSi (As := [_]) (ca_hasChain L σ _) zc_X8_162 rfl dX8_shift_1 rfl rfl rfl ?_
      refine zr_top (congrArg sp_b h1) ?_
      refine zr_if_ne 11 dX8_shift_4 (by decide) (fun hp4 => ?_) (fun h => absurd h (by decide))
      refine zr_iload_n dX8_shift_11 rfl ?_
      refine zt_callSi (As := [_]) (ca_isValue L σ v) zc_X8_140 rfl dX8_shift_12 rfl rfl rfl ?_
      refine zr_top (congrArg sp_b h2) ?_
      refine zr_if_ne 22 dX8_shift_15 (by decide) (fun h => absurd h (by decide)) (fun hp15 => ?_)
      refine zr_sipush (v := (-1002)) dX8_shift_18 kc_sipush_m1002 ?_
      exact zr_iret dX8_shift_21 rfl (hQ _ _ ⟨rfl, hX0, fun _ _ => rfl⟩)
    | true =>
      obtain ⟨b, hb, rfl, eb⟩ := ap_v_t h2 (by omega)
      have e : fa_shift (nI j) (nI b) (C, K, m, tg, tk, no, nu, fO, fU) = (nI (sp_out (sp_cv C m) (K j) b), (C, K, sp_row m 1 (sp_sh C (sp_cv C m) (K j) b (m 1)), tg, tk, no, nu, fO, fU)) := by simp [fa_shift, h1, h2, ej, eb]
      rw [e] at hQ
      rcases (show j = 0 ∨ j = 1 ∨ j = 2 by omega) with rfl | rfl | rfl
      · refine zr_iload_n dX8_shift_0 rfl ?_
        refine zt_callSi (As := [_]) (ca_hasChain L σ _) zc_X8_162 rfl dX8_shift_1 rfl rfl rfl ?_
        refine zr_top (congrArg sp_b h1) ?_
        refine zr_if_ne 11 dX8_shift_4 (by decide) (fun hp4 => ?_) (fun h => absurd h (by decide))
        refine zr_iload_n dX8_shift_11 rfl ?_
        refine zt_callSi (As := [_]) (ca_isValue L σ _) zc_X8_140 rfl dX8_shift_12 rfl rfl rfl ?_
        refine zr_top (congrArg sp_b h2) ?_
        refine zr_if_ne 22 dX8_shift_15 (by decide) (fun hp15 => ?_) (fun h => absurd h (by decide))
        refine zr_aload_n dX8_shift_22 rfl ?_
        refine zt_getr zg_X8_33 dX8_shift_23 rfl rfl rfl ?_
        refine zt_getr zg_X8_133 dX8_shift_26 rfl rfl rfl ?_
        refine zr_iload_n dX8_shift_29 rfl ?_
        refine zr_iload_n dX8_shift_30 rfl ?_
        refine zt_cVi (As := [_, _]) (ca_shift_31_0 L σ C m K hC hm hK rC rK rM b (by omega)) zc_X8_185 rfl dX8_shift_31 rfl rfl rfl rfl rfl rfl (fun v1 σ1 h3 => ?_)
        obtain ⟨a1, a2, a3⟩ := h3
        refine zr_iret dX8_shift_34 rfl (hQ _ _ ⟨a1, hX0.live ?_ ((congrFun (a2 31 (by decide)) 5).trans r5) ((congrFun (a2 31 (by decide)) 7).trans r7) (fun k hk => a2 k (by omega)), fun k hk => a2 k (by omega)⟩)
        exact rM.rows (a2 31 (by decide)) (a2 32 (by decide)) (fun i hi => by rw [show (31 + 2) = 33 from rfl, a2 33 (by decide)]; exact rM.1 i hi) (fun j hj => a3 j hj) (fun i => rfl)
      · refine zr_iload_n dX8_shift_0 rfl ?_
        refine zt_callSi (As := [_]) (ca_hasChain L σ _) zc_X8_162 rfl dX8_shift_1 rfl rfl rfl ?_
        refine zr_top (congrArg sp_b h1) ?_
        refine zr_if_ne 11 dX8_shift_4 (by decide) (fun hp4 => ?_) (fun h => absurd h (by decide))
        refine zr_iload_n dX8_shift_11 rfl ?_
        refine zt_callSi (As := [_]) (ca_isValue L σ _) zc_X8_140 rfl dX8_shift_12 rfl rfl rfl ?_
        refine zr_top (congrArg sp_b h2) ?_
        refine zr_if_ne 22 dX8_shift_15 (by decide) (fun hp15 => ?_) (fun h => absurd h (by decide))
        refine zr_aload_n dX8_shift_22 rfl ?_
        refine zt_getr zg_X8_33 dX8_shift_23 rfl rfl rfl ?_
        refine zt_getr zg_X8_133 dX8_shift_26 rfl rfl rfl ?_
        refine zr_iload_n dX8_shift_29 rfl ?_
        refine zr_iload_n dX8_shift_30 rfl ?_
        refine zt_cVi (As := [_, _]) (ca_shift_31_1 L σ C m K hC hm hK rC rK rM b (by omega)) zc_X8_185 rfl dX8_shift_31 rfl rfl rfl rfl rfl rfl (fun v1 σ1 h3 => ?_)
        obtain ⟨a1, a2, a3⟩ := h3
        refine zr_iret dX8_shift_34 rfl (hQ _ _ ⟨a1, hX0.live ?_ ((congrFun (a2 31 (by decide)) 5).trans r5) ((congrFun (a2 31 (by decide)) 7).trans r7) (fun k hk => a2 k (by omega)), fun k hk => a2 k (by omega)⟩)
        exact rM.rows (a2 31 (by decide)) (a2 32 (by decide)) (fun i hi => by rw [show (31 + 2) = 33 from rfl, a2 33 (by decide)]; exact rM.1 i hi) (fun j hj => a3 j hj) (fun i => rfl)
      · refine zr_iload_n dX8_shift_0 rfl ?_
        refine zt_callSi (As := [_]) (ca_hasChain L σ _) zc_X8_162 rfl dX8_shift_1 rfl rfl rfl ?_
        refine zr_top (congrArg sp_b h1) ?_
        refine zr_if_ne 11 dX8_shift_4 (by decide) (fun hp4 => ?_) (fun h => absurd h (by decide))
        refine zr_iload_n dX8_shift_11 rfl ?_
        refine zt_callSi (As := [_]) (ca_isValue L σ _) zc_X8_140 rfl dX8_shift_12 rfl rfl rfl ?_
        refine zr_top (congrArg sp_b h2) ?_
        refine zr_if_ne 22 dX8_shift_15 (by decide) (fun hp15 => ?_) (fun h => absurd h (by decide))
        refine zr_aload_n dX8_shift_22 rfl ?_
        refine zt_getr zg_X8_33 dX8_shift_23 rfl rfl rfl ?_
        refine zt_getr zg_X8_133 dX8_shift_26 rfl rfl rfl ?_
        refine zr_iload_n dX8_shift_29 rfl ?_
        refine zr_iload_n dX8_shift_30 rfl ?_
        refine zt_cVi (As := [_, _]) (ca_shift_31_2 L σ C m K hC hm hK rC rK rM b (by omega)) zc_X8_185 rfl dX8_shift_31 rfl rfl rfl rfl rfl rfl (fun v1 σ1 h3 => ?_)
        obtain ⟨a1, a2, a3⟩ := h3
        refine zr_iret dX8_shift_34 rfl (hQ _ _ ⟨a1, hX0.live ?_ ((congrFun (a2 31 (by decide)) 5).trans r5) ((congrFun (a2 31 (by decide)) 7).trans r7) (fun k hk => a2 k (by omega)), fun k hk => a2 k (by omega)⟩)
        exact rM.rows (a2 31 (by decide)) (a2 32 (by decide)) (fun i hi => by rw [show (31 + 2) = 33 from rfl, a2 33 (by decide)]; exact rM.1 i hi) (fun j hj => a3 j hj) (fun i => rfl)
theorem cx_tag (L : Nat) (σ : gz_Mm) (S : ap_S) (hw : ap_wf S) (hX : ap_X σ S) (v : Int32) : gz_Gi 0 yX8_tag cX8_tag 3 (some .int) L [.ref 11, .int v] σ (ap_P σ (fa_tag v S)) := by
  obtain ⟨C, K, m, tg, tk, no, nu, fO, fU⟩ := S
  obtain ⟨hC, hK, hm, htg, hno, hnu, hz0, hz2⟩ := hw
  have hX0 := hX
  obtain ⟨⟨rC, rK, rM⟩, ⟨r5, r7⟩, rT, rR, rO, rS⟩ := hX
  have h80 := hC.1.1
  have h8 := hC.1.2.1
  have h20 := hC.1.2.2.1
  refine gz_Gi.of rfl rfl (fun Q hQ => ?_)
  refine zr_aload_n dX8_tag_0 rfl ?_
  refine zt_getr zg_X8_33 dX8_tag_1 rfl rfl rfl ?_
  refine zt_geti zg_X8_189 dX8_tag_4 rfl rfl rfl ?_
  refine zr_top (r5) ?_
  refine zr_istore_n dX8_tag_7 (by decide) rfl ?_
  refine zr_aload_n dX8_tag_8 rfl ?_
  refine zt_getr zg_X8_33 dX8_tag_9 rfl rfl rfl ?_
  refine zr_iload_n dX8_tag_12 rfl ?_
  refine zr_ldc zd_X8_192 dX8_tag_13 ?_
  refine zr_iand dX8_tag_15 ?_
  refine zr_top (pk_and v (m := 65535) 16 rfl) ?_
  refine zt_put zp_X8_189 dX8_tag_16 rfl rfl rfl rfl ?_
  refine zr_iload_n dX8_tag_19 rfl ?_
  exact zr_iret dX8_tag_20 rfl (hQ _ _ ⟨rfl, hX0.live (rM.free 5 _ (by omega)) (by simp [gz_wr, upd]) (by simp [gz_wr, upd]; exact r7) (fun k hk => gz_wr_ne (by omega)), fun k hk => gz_wr_ne (by omega)⟩)
theorem cx_tick (L : Nat) (σ : gz_Mm) (S : ap_S) (hw : ap_wf S) (hX : ap_X σ S) (a b : Int32) : gz_Gi 4 yX8_tick cX8_tick 3 (some .int) L [.ref 11, .int a, .int b] σ (ap_P σ (fa_tick a b S)) := by
  obtain ⟨C, K, m, tg, tk, no, nu, fO, fU⟩ := S
  obtain ⟨hC, hK, hm, htg, hno, hnu, hz0, hz2⟩ := hw
  have hX0 := hX
  obtain ⟨⟨rC, rK, rM⟩, ⟨r5, r7⟩, rT, rR, rO, rS⟩ := hX
  have h80 := hC.1.1
  have h8 := hC.1.2.1
  have h20 := hC.1.2.2.1
  refine gz_Gi.of rfl rfl (fun Q hQ => ?_)
  cases h1 : ap_v a 2 with
  | false =>
    have e : fa_tick a b (C, K, m, tg, tk, no, nu, fO, fU) = (-1002, (C, K, m, tg, tk, no, nu, fO, fU)) := by simp [fa_tick, h1]
    rw [e] at hQ
    refine zr_iload_n dX8_tick_0 rfl ?_
    refine zt_callSi (As := [_]) (ca_isBit L σ a) zc_X8_155 rfl dX8_tick_1 rfl rfl rfl ?_
    refine zr_top (congrArg sp_b h1) ?_
    refine zr_if_eq 14 dX8_tick_4 (by decide) (fun hp4 => ?_) (fun h => absurd h (by decide))
    refine zr_sipush (v := (-1002)) dX8_tick_14 kc_sipush_m1002 ?_
    exact zr_iret dX8_tick_17 rfl (hQ _ _ ⟨rfl, hX0, fun _ _ => rfl⟩)
  | true =>
    cases h2 : ap_v b 2 with
    | false =>
      have e : fa_tick a b (C, K, m, tg, tk, no, nu, fO, fU) = (-1002, (C, K, m, tg, tk, no, nu, fO, fU)) := by simp [fa_tick, h2]
      rw [e] at hQ
      refine zr_iload_n dX8_tick_0 rfl ?_
      refine zt_callSi (As := [_]) (ca_isBit L σ a) zc_X8_155 rfl dX8_tick_1 rfl rfl rfl ?_
      refine zr_top (congrArg sp_b h1) ?_
      refine zr_if_eq 14 dX8_tick_4 (by decide) (fun h => absurd h (by decide)) (fun hp4 => ?_)
      refine zr_iload_n dX8_tick_7 rfl ?_
      refine zt_callSi (As := [_]) (ca_isBit L σ b) zc_X8_155 rfl dX8_tick_8 rfl rfl rfl ?_
      refine zr_top (congrArg sp_b h2) ?_
      refine zr_if_ne 18 dX8_tick_11 (by decide) (fun h => absurd h (by decide)) (fun hp11 => ?_)
      refine zr_sipush (v := (-1002)) dX8_tick_14 kc_sipush_m1002 ?_
      exact zr_iret dX8_tick_17 rfl (hQ _ _ ⟨rfl, hX0, fun _ _ => rfl⟩)
    | true =>
      obtain ⟨x, hx, rfl, ex⟩ := ap_v_t h1 (by omega)
      obtain ⟨y, hy, rfl, ey⟩ := ap_v_t h2 (by omega)
      have e : fa_tick (nI x) (nI y) (C, K, m, tg, tk, no, nu, fO, fU) = ((sp_tk C K tg m x y).1, (C, K, (sp_tk C K tg m x y).2, tg, tk + 1, no, nu, fO, fU)) := by simp [fa_tick, h1, h2, ex, ey]
      rw [e] at hQ
      refine zr_iload_n dX8_tick_0 rfl ?_
      refine zt_callSi (As := [_]) (ca_isBit L σ _) zc_X8_155 rfl dX8_tick_1 rfl rfl rfl ?_
      refine zr_top (congrArg sp_b h1) ?_
      refine zr_if_eq 14 dX8_tick_4 (by decide) (fun h => absurd h (by decide)) (fun hp4 => ?_)
      refine zr_iload_n dX8_tick_7 rfl ?_
      refine zt_callSi (As := [_]) (ca_isBit L σ _) zc_X8_155 rfl dX8_tick_8 rfl rfl rfl ?_
      refine zr_top (congrArg sp_b h2) ?_
      refine zr_if_ne 18 dX8_tick_11 (by decide) (fun hp11 => ?_) (fun h => absurd h (by decide))
      refine zr_aload_n dX8_tick_18 rfl ?_
      refine zt_getr zg_X8_33 dX8_tick_19 rfl rfl rfl ?_
      refine zr_iload_n dX8_tick_22 rfl ?_
      refine zr_iload_n dX8_tick_23 rfl ?_
      refine zt_cVi (As := [_, _]) (ca_step_31 L σ C m K hC hm hK rC rK rM tg x y htg r5 (by omega) (by omega)) zc_X8_193 rfl dX8_tick_24 rfl rfl rfl rfl rfl rfl (fun v1 σ1 h3 => ?_)
      obtain ⟨a1, a2, ⟨a3, a4⟩, a5⟩ := h3
      exact zr_iret dX8_tick_27 rfl (hQ _ _ ⟨a1, hX0.live a2 (a3.trans r5) (by rw [a4, r7]) a5, fun k hk => a5 k (by omega)⟩)
theorem cx_state (L : Nat) (σ : gz_Mm) (S : ap_S) (hw : ap_wf S) (hX : ap_X σ S) (w : Int32) : gz_Gi 0 yX8_state cX8_state 2 (some .int) L [.ref 11, .int w] σ (ap_P σ (fa_state w S)) := by
  obtain ⟨C, K, m, tg, tk, no, nu, fO, fU⟩ := S
  obtain ⟨hC, hK, hm, htg, hno, hnu, hz0, hz2⟩ := hw
  have hX0 := hX
  obtain ⟨⟨rC, rK, rM⟩, ⟨r5, r7⟩, rT, rR, rO, rS⟩ := hX
  have h80 := hC.1.1
  have h8 := hC.1.2.1
  have h20 := hC.1.2.2.1
  refine gz_Gi.of rfl rfl (fun Q hQ => ?_)
  refine zr_iload_n dX8_state_0 rfl ?_
  by_cases w0 : w = 0
  · subst w0
    refine zr_tin (off := 35) 36 dX8_state_1 (by decide) (by decide) (by decide) (by decide) ?_
    refine zr_aload_n dX8_state_36 rfl ?_
    refine zt_getr zg_X8_33 dX8_state_37 rfl rfl rfl ?_
    refine zt_geti zg_X8_196 dX8_state_40 rfl rfl rfl ?_
    refine zr_top (rM.2.2.2.2.1) ?_
    exact zr_iret dX8_state_43 rfl (hQ _ _ ⟨rfl, hX0, fun _ _ => rfl⟩)
  by_cases w1 : w = 1
  · subst w1
    refine zr_tin (off := 43) 44 dX8_state_1 (by decide) (by decide) (by decide) (by decide) ?_
    refine zr_aload_n dX8_state_44 rfl ?_
    refine zt_getr zg_X8_33 dX8_state_45 rfl rfl rfl ?_
    refine zt_geti zg_X8_199 dX8_state_48 rfl rfl rfl ?_
    refine zr_top (rM.2.2.2.2.2.1) ?_
    exact zr_iret dX8_state_51 rfl (hQ _ _ ⟨rfl, hX0, fun _ _ => rfl⟩)
  by_cases w2 : w = 2
  · subst w2
    refine zr_tin (off := 51) 52 dX8_state_1 (by decide) (by decide) (by decide) (by decide) ?_
    refine zr_aload_n dX8_state_52 rfl ?_
    refine zt_getr zg_X8_33 dX8_state_53 rfl rfl rfl ?_
    refine zt_geti zg_X8_202 dX8_state_56 rfl rfl rfl ?_
    refine zr_top (rM.2.2.2.2.2.2.1) ?_
    exact zr_iret dX8_state_59 rfl (hQ _ _ ⟨rfl, hX0, fun _ _ => rfl⟩)
  by_cases w3 : w = 3
  · subst w3
    refine zr_tin (off := 59) 60 dX8_state_1 (by decide) (by decide) (by decide) (by decide) ?_
    refine zr_aload_n dX8_state_60 rfl ?_
    refine zt_getr zg_X8_33 dX8_state_61 rfl rfl rfl ?_
    refine zt_geti zg_X8_205 dX8_state_64 rfl rfl rfl ?_
    refine zr_top (rM.2.2.2.2.2.2.2.1) ?_
    exact zr_iret dX8_state_67 rfl (hQ _ _ ⟨rfl, hX0, fun _ _ => rfl⟩)
  by_cases w4 : w = 4
  · subst w4
    refine zr_tin (off := 67) 68 dX8_state_1 (by decide) (by decide) (by decide) (by decide) ?_
    refine zr_aload_n dX8_state_68 rfl ?_
    refine zt_getr zg_X8_33 dX8_state_69 rfl rfl rfl ?_
    refine zt_geti zg_X8_208 dX8_state_72 rfl rfl rfl ?_
    refine zr_top (rM.2.2.2.2.2.2.2.2) ?_
    exact zr_iret dX8_state_75 rfl (hQ _ _ ⟨rfl, hX0, fun _ _ => rfl⟩)
  have e : fa_state w (C, K, m, tg, tk, no, nu, fO, fU) = (-1002, (C, K, m, tg, tk, no, nu, fO, fU)) := by simp [fa_state, w0, w1, w2, w3, w4]
  rw [e] at hQ
  refine zr_tout 76 dX8_state_1 (i32_out (n := 4) (by decide) (fun j hj q => by rcases (show j = 0 ∨ j = 1 ∨ j = 2 ∨ j = 3 ∨ j = 4 by omega) with rfl | rfl | rfl | rfl | rfl <;> first | exact w0 q | exact w1 q | exact w2 q | exact w3 q | exact w4 q)) (by decide) ?_
  refine zr_sipush (v := (-1002)) dX8_state_76 kc_sipush_m1002 ?_
  exact zr_iret dX8_state_79 rfl (hQ _ _ ⟨rfl, hX0, fun _ _ => rfl⟩)
