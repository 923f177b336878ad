/-! ===== the bench: chain, unchain, stitch ===== -/
theorem mem_ck {K : sp_K} {k p c : Nat} (hp : p ≤ (K k).length) {d j : Nat} : d ∈ sp_ck K k ((K k).insertIdx p c) j ↔ (j = k ∧ d = c) ∨ d ∈ K j := by
  unfold sp_ck
  by_cases e : j = k
  · subst e
    rw [if_pos rfl, List.mem_insertIdx hp]
    simp
  · rw [if_neg e]
    simp [e]
theorem rx_K.ins {σ σ' : gz_Mm} {C : sp_T} {K : sp_K} (rK : rx_K σ C K) {k c p t : Nat} (hk : k < 3) (hc : c ∉ sp_all K) (hp : p ≤ (K k).length) (f : ∀ j, j < 3 → j ≠ k → σ' (25 + j) = σ (25 + j)) (e28 : σ' 28 = upd (σ 28) k (nI ((K k).length + 1))) (e29 : σ' 29 = upd (σ 29) c (nI k)) (e30 : σ' 30 = upd (σ 30) c (nI t)) (er : ∀ i, i < (K k).length + 1 → σ' (25 + k) i = nI (((K k).insertIdx p c).getD i 0)) :
    rx_K σ' (sp_w C 12 c t) (sp_ck K k ((K k).insertIdx p c)) := by
  have hln : ((K k).insertIdx p c).length = (K k).length + 1 := List.length_insertIdx_of_le_length hp c
  refine ⟨fun j hj => ?_, fun d hd => ?_, fun d hd => ⟨fun hn => ?_, fun j hj hm => ?_⟩⟩
  · by_cases e : j = k
    · subst e
      have ek : sp_ck K j ((K j).insertIdx p c) j = (K j).insertIdx p c := if_pos rfl
      rw [ek, hln, e28]
      exact ⟨by simp [upd], er⟩
    · have ek : sp_ck K k ((K k).insertIdx p c) j = K j := if_neg e
      rw [ek, e28, f j hj e, pk_un e]
      exact rK.1 j hj
  · rw [e30]
    by_cases e : d = c
    · rw [e]
      simp [upd, sp_w]
    · rw [pk_un e, sp_w_ne (by omega)]
      obtain ⟨j, hj, hm⟩ := sp_all_iff.mp hd
      rcases (mem_ck hp).mp hm with ⟨_, q⟩ | q
      · exact absurd q e
      · exact rK.2.1 d (sp_all_iff.mpr ⟨j, hj, q⟩)
  · rw [e29]
    have h1 : d ≠ c := fun e => hn (sp_all_iff.mpr ⟨k, hk, (mem_ck hp).mpr (Or.inl ⟨rfl, e⟩)⟩)
    rw [pk_un h1]
    exact (rK.2.2 d hd).1 (fun q => hn (by obtain ⟨j, hj, hm⟩ := sp_all_iff.mp q; exact sp_all_iff.mpr ⟨j, hj, (mem_ck hp).mpr (Or.inr hm)⟩))
  · rw [e29]
    rcases (mem_ck hp).mp hm with ⟨q1, q2⟩ | q
    · rw [q1, q2]
      simp [upd]
    · have h1 : d ≠ c := fun e => hc (e ▸ sp_all_iff.mpr ⟨j, hj, q⟩)
      rw [pk_un h1]
      exact (rK.2.2 d hd).2 j hj q
theorem rx_K.del {σ σ' : gz_Mm} {C : sp_T} {K : sp_K} (rK : rx_K σ C K) (hK : sp_wk C K) {k c : Nat} (hk : k < 3) (hc : c ∈ K k) (f : ∀ j, j < 3 → j ≠ k → σ' (25 + j) = σ (25 + j)) (e28 : σ' 28 = upd (σ 28) k (nI ((K k).filter (fun j => decide (j ≠ c))).length)) (e29 : σ' 29 = upd (σ 29) c (-1)) (e30 : σ' 30 = σ 30) (er : ∀ i, i < ((K k).filter (fun j => decide (j ≠ c))).length → σ' (25 + k) i = nI (((K k).filter (fun j => decide (j ≠ c))).getD i 0)) :
    rx_K σ' C (fun k => (K k).filter (fun j => decide (j ≠ c))) := by
  have dis := (sp_nod.mp hK.1).2
  have same : ∀ j, j < 3 → j ≠ k → (K j).filter (fun i => decide (i ≠ c)) = K j := fun j hj hne => by
    rw [List.filter_eq_self]
    intro a ha
    have : a ≠ c := fun e => dis k j hk hj (Ne.symm hne) c hc (e ▸ ha)
    simp [this]
  refine ⟨fun j hj => ?_, fun d hd => ?_, fun d hd => ⟨fun hn => ?_, fun j hj hm => ?_⟩⟩
  · by_cases e : j = k
    · subst e
      rw [e28]
      exact ⟨by simp [upd], er⟩
    · show σ' 28 j = nI ((K j).filter (fun i => decide (i ≠ c))).length ∧ ∀ i, i < ((K j).filter (fun i => decide (i ≠ c))).length → σ' (25 + j) i = nI (((K j).filter (fun i => decide (i ≠ c))).getD i 0)
      rw [e28, f j hj e, pk_un e, same j hj e]
      exact rK.1 j hj
  · rw [e30]
    obtain ⟨j, hj, hm⟩ := sp_all_iff.mp hd
    exact rK.2.1 d (sp_all_iff.mpr ⟨j, hj, (List.mem_filter.mp hm).1⟩)
  · rw [e29]
    by_cases e : d = c
    · rw [e]
      simp [upd]
    · rw [pk_un e]
      exact (rK.2.2 d hd).1 (fun q => hn (by obtain ⟨j, hj, hm⟩ := sp_all_iff.mp q; exact sp_all_iff.mpr ⟨j, hj, List.mem_filter.mpr ⟨hm, by simp [e]⟩⟩))
  · obtain ⟨h1, h2⟩ := List.mem_filter.mp hm
    have h3 : d ≠ c := by simpa using h2
    rw [e29, pk_un h3]
    exact (rK.2.2 d hd).2 j hj h1
/-- only the chains' cells have changed -/
theorem ap_X.chn {σ σ' : gz_Mm} {C C' : sp_T} {K K' : sp_K} {m : sp_T} {r : Nat × Int32 × Nat × Nat × (Nat → Int32) × (Nat → Int32)} (hX : ap_X σ (C, K, m, r)) (hK : rx_K σ' C' K') (hk : ∀ k, k < 25 ∨ 30 < k → σ' k = σ k) (e : ∀ a i, a ≠ 12 → C' a i = C a i) : ap_X σ' (C', K', m, r) := by
  obtain ⟨tg, tk, no, nu, fO, fU⟩ := r
  obtain ⟨⟨rC, rK, rM⟩, ⟨r5, r7⟩, rT, ⟨⟨m1, q1, q2⟩, q3⟩, rO, s1, s2, s3, s4⟩ := hX
  have rC' : rx_C σ' C' := by
    have := rC.kept (σ' := σ') (fun k h1 h2 => hk k (by omega))
    unfold rx_C at this ⊢
    simp only [e 0 _ (by decide), e 1 _ (by decide), e 2 _ (by decide), e 3 _ (by decide), e 4 _ (by decide), e 5 _ (by decide), e 6 _ (by decide), e 7 _ (by decide), e 8 _ (by decide), e 9 _ (by decide)]
    exact this
  refine ⟨⟨rC', hK, rM.kept (fun k h1 h2 => hk k (by omega))⟩, ⟨by rw [hk 31 (by omega)]; exact r5, by rw [hk 31 (by omega)]; exact r7⟩, rT.kept (fun k h1 h2 => hk k (by omega)) (e 9 4 (by decide)) (fun t => e 10 t (by decide)) (fun t => e 11 t (by decide)), ⟨⟨m1, q1.kept (fun k h1 h2 => hk k (by omega)), q2⟩, by rw [hk 42 (by omega)]; exact q3⟩, fun l hl => ?_, by rw [hk 53 (by omega)]; exact s1, by rw [hk 53 (by omega)]; exact s2, by rw [hk 54 (by omega)]; exact s3, by rw [hk 55 (by omega)]; exact s4⟩
  rw [hk 18 (by omega), e 9 3 (by decide), sp_io_congr (C := C) (fun i => e 8 i (by decide))]
  exact rO l hl
theorem sp_wk.room {C : sp_T} {K : sp_K} (hK : sp_wk C K) {c k : Nat} (hk : k < 3) (hc : c < C 9 2) (hn : c ∉ sp_all K) : (K k).length < C 9 2 := by
  have h1 : (c :: sp_all K).Nodup := List.nodup_cons.mpr ⟨hn, hK.1⟩
  have h2 := nodup_len (C 9 2) (c :: sp_all K) h1 (fun d hd => by
    rcases List.mem_cons.mp hd with e | e
    · rw [e]; exact hc
    · exact hK.2 d e)
  rw [List.length_cons, sp_all_len] at h2
  rcases (show k = 0 ∨ k = 1 ∨ k = 2 by omega) with rfl | rfl | rfl <;> omega
theorem ca_ins (L : Nat) (σ : gz_Mm) (C : sp_T) (K : sp_K) (hC : sp_wf C) (hK : sp_wk C K) (rK : rx_K σ C K) (k c p t : Nat) (hk : k < 3) (hc : c < C 9 2) (hn : c ∉ sp_all K) (hp : p ≤ (K k).length) (ht : t < 2) :
    gz_Gi 0 yX1_insert cX1_insert 7 (some .int) L [.ref 23, .int (nI k), .int (nI c), .int (nI p), .int (nI t)] σ (fun v σ' => v = nI ((K k).length + 1) ∧ (∀ k, k < 25 ∨ 30 < k → σ' k = σ k) ∧ rx_K σ' (sp_w C 12 c t) (sp_ck K k ((K k).insertIdx p c))) := by
  have h20 := hC.1.2.2.1
  have hr := hK.room hk hc hn
  obtain ⟨rs, rr⟩ := rK.1 k hk
  rcases (show k = 0 ∨ k = 1 ∨ k = 2 by omega) with rfl | rfl | rfl
  · refine (ca_insert_0 L σ (K 0) (by omega) rs rr c p t (by omega) hp ht).imp (fun v σ' q => ?_)
    obtain ⟨q1, q2, ⟨q3, q4, q5⟩, q6⟩ := q
    exact ⟨q1, fun k hk => q2 k (by omega) (by omega) (by omega) (by omega), rK.ins (by decide) hn hp (fun j hj hne => q2 _ (by omega) (by omega) (by omega) (by omega)) q3 q4 q5 q6⟩
  · refine (ca_insert_1 L σ (K 1) (by omega) rs rr c p t (by omega) hp ht).imp (fun v σ' q => ?_)
    obtain ⟨q1, q2, ⟨q3, q4, q5⟩, q6⟩ := q
    exact ⟨q1, fun k hk => q2 k (by omega) (by omega) (by omega) (by omega), rK.ins (by decide) hn hp (fun j hj hne => q2 _ (by omega) (by omega) (by omega) (by omega)) q3 q4 q5 q6⟩
  · refine (ca_insert_2 L σ (K 2) (by omega) rs rr c p t (by omega) hp ht).imp (fun v σ' q => ?_)
    obtain ⟨q1, q2, ⟨q3, q4, q5⟩, q6⟩ := q
    exact ⟨q1, fun k hk => q2 k (by omega) (by omega) (by omega) (by omega), rK.ins (by decide) hn hp (fun j hj hne => q2 _ (by omega) (by omega) (by omega) (by omega)) q3 q4 q5 q6⟩
theorem cx_chain (L : Nat) (σ : gz_Mm) (S : ap_S) (hw : ap_wf S) (hX : ap_X σ S) (k c i : Int32) (t : Nat) (ht : t < 2) : gz_Gi 1 yX8_chain cX8_chain 5 (some .int) L [.ref 11, .int k, .int c, .int i, .int (nI t)] σ (ap_P σ (fa_chain k c i t S)) := by
  obtain ⟨C, K, m, tg, tk, no, nu, fO, fU⟩ := S
  obtain ⟨hC, hK, hm, htg, hno, hnu, hz0, hz2⟩ := hw
  have hX0 := hX
  obtain ⟨⟨rC, rK, rM⟩, ⟨r5, r7⟩, rT, rR, rO, rS⟩ := hX
  have h80 := hC.1.1
  have h8 := hC.1.2.1
  have h20 := hC.1.2.2.1
  refine gz_Gi.of rfl rfl (fun Q hQ => ?_)
  cases h1 : ap_v k 3 with
  | false =>
    have e : fa_chain k c i t (C, K, m, tg, tk, no, nu, fO, fU) = (-1001, (C, K, m, tg, tk, no, nu, fO, fU)) := by simp [fa_chain, h1]
    rw [e] at hQ
    refine zr_iload_n dX8_chain_0 rfl ?_
    refine zt_callSi (As := [_]) (ca_hasChain L σ k) zc_X8_162 rfl dX8_chain_1 rfl rfl rfl ?_
    refine zr_top (congrArg sp_b h1) ?_
    refine zr_if_eq 18 dX8_chain_4 (by decide) (fun hp4 => ?_) (fun h => absurd h (by decide))
    refine zr_sipush (v := (-1001)) dX8_chain_18 kc_sipush_m1001 ?_
    exact zr_iret dX8_chain_21 rfl (hQ _ _ ⟨rfl, hX0, fun _ _ => rfl⟩)
  | true =>
    cases h2 : ap_v c (C 9 2) with
    | false =>
      have e : fa_chain k c i t (C, K, m, tg, tk, no, nu, fO, fU) = (-1001, (C, K, m, tg, tk, no, nu, fO, fU)) := by simp [fa_chain, h2]
      rw [e] at hQ
      refine zr_iload_n dX8_chain_0 rfl ?_
      refine zt_callSi (As := [_]) (ca_hasChain L σ k) zc_X8_162 rfl dX8_chain_1 rfl rfl rfl ?_
      refine zr_top (congrArg sp_b h1) ?_
      refine zr_if_eq 18 dX8_chain_4 (by decide) (fun h => absurd h (by decide)) (fun hp4 => ?_)
      refine zr_aload_n dX8_chain_7 rfl ?_
      refine zt_getr zg_X8_10 dX8_chain_8 rfl rfl rfl ?_
      refine zr_iload_n dX8_chain_11 rfl ?_
      refine zt_callVi (As := [_]) (ca_hasCellB L σ c (C 9 2) (by omega) rC.1.2.2.1) zc_X8_102 rfl dX8_chain_12 rfl rfl rfl rfl rfl rfl ?_
      refine zr_top (congrArg sp_b h2) ?_
      refine zr_if_ne 22 dX8_chain_15 (by decide) (fun h => absurd h (by decide)) (fun hp15 => ?_)
      refine zr_sipush (v := (-1001)) dX8_chain_18 kc_sipush_m1001 ?_
      exact zr_iret dX8_chain_21 rfl (hQ _ _ ⟨rfl, hX0, fun _ _ => rfl⟩)
    | true =>
      obtain ⟨x, hx, rfl, ex⟩ := ap_v_t h1 (by omega)
      obtain ⟨y, hy, rfl, ey⟩ := ap_v_t h2 (by omega)
      have hlen := hK.lenk hx
      obtain ⟨rs, rr⟩ := rK.1 x hx
      have rch := rK.2.2 y (by omega)
      cases h3 : ap_v i ((K x).length + 1) with
      | false =>
        have e : fa_chain (nI x) (nI y) i t (C, K, m, tg, tk, no, nu, fO, fU) = (-1002, (C, K, m, tg, tk, no, nu, fO, fU)) := by simp [fa_chain, h1, h2, ex, h3]
        rw [e] at hQ
        rcases ap_v_f h3 (by omega) with q | ⟨q, q2⟩
        · refine zr_iload_n dX8_chain_0 rfl ?_
          refine zt_callSi (As := [_]) (ca_hasChain L σ _) zc_X8_162 rfl dX8_chain_1 rfl rfl rfl ?_
          refine zr_top (congrArg sp_b h1) ?_
          refine zr_if_eq 18 dX8_chain_4 (by decide) (fun h => absurd h (by decide)) (fun hp4 => ?_)
          refine zr_aload_n dX8_chain_7 rfl ?_
          refine zt_getr zg_X8_10 dX8_chain_8 rfl rfl rfl ?_
          refine zr_iload_n dX8_chain_11 rfl ?_
          refine zt_callVi (As := [_]) (ca_hasCellB L σ _ (C 9 2) (by omega) rC.1.2.2.1) zc_X8_102 rfl dX8_chain_12 rfl rfl rfl rfl rfl rfl ?_
          refine zr_top (congrArg sp_b h2) ?_
          refine zr_if_ne 22 dX8_chain_15 (by decide) (fun hp15 => ?_) (fun h => absurd h (by decide))
          refine zr_iload_n dX8_chain_22 rfl ?_
          refine zr_if_lt 39 dX8_chain_23 (by decide) (fun hp23 => ?_) (fun h => absurd q h)
          refine zr_sipush (v := (-1002)) dX8_chain_39 kc_sipush_m1002 ?_
          exact zr_iret dX8_chain_42 rfl (hQ _ _ ⟨rfl, hX0, fun _ _ => rfl⟩)
        · refine zr_iload_n dX8_chain_0 rfl ?_
          refine zt_callSi (As := [_]) (ca_hasChain L σ _) zc_X8_162 rfl dX8_chain_1 rfl rfl rfl ?_
          refine zr_top (congrArg sp_b h1) ?_
          refine zr_if_eq 18 dX8_chain_4 (by decide) (fun h => absurd h (by decide)) (fun hp4 => ?_)
          refine zr_aload_n dX8_chain_7 rfl ?_
          refine zt_getr zg_X8_10 dX8_chain_8 rfl rfl rfl ?_
          refine zr_iload_n dX8_chain_11 rfl ?_
          refine zt_callVi (As := [_]) (ca_hasCellB L σ _ (C 9 2) (by omega) rC.1.2.2.1) zc_X8_102 rfl dX8_chain_12 rfl rfl rfl rfl rfl rfl ?_
          refine zr_top (congrArg sp_b h2) ?_
          refine zr_if_ne 22 dX8_chain_15 (by decide) (fun hp15 => ?_) (fun h => absurd h (by decide))
          refine zr_iload_n dX8_chain_22 rfl ?_
          refine zr_if_lt 39 dX8_chain_23 (by decide) (fun h => absurd h q) (fun hp23 => ?_)
          refine zr_iload_n dX8_chain_26 rfl ?_
          refine zr_aload_n dX8_chain_27 rfl ?_
          refine zt_getr zg_X8_19 dX8_chain_28 rfl rfl rfl ?_
          refine zt_getr zg_X8_165 dX8_chain_31 rfl rfl rfl ?_
          refine zr_iload_n dX8_chain_34 rfl ?_
          refine zt_ildN dX8_chain_35 rfl rfl (hx) (rs) ?_
          refine zr_icmp_le 43 dX8_chain_36 (by decide) (fun h => absurd (Int32.le_trans q2 h) (nI_ge (by omega) (by omega))) (fun hp36 => ?_)
          refine zr_sipush (v := (-1002)) dX8_chain_39 kc_sipush_m1002 ?_
          exact zr_iret dX8_chain_42 rfl (hQ _ _ ⟨rfl, hX0, fun _ _ => rfl⟩)
      | true =>
        obtain ⟨z, hz, rfl, ez⟩ := ap_v_t h3 (by omega)
        by_cases hm : y ∈ sp_all K
        · have e : fa_chain (nI x) (nI y) (nI z) t (C, K, m, tg, tk, no, nu, fO, fU) = (-1003, (C, K, m, tg, tk, no, nu, fO, fU)) := by simp [fa_chain, h1, h2, ex, ey, h3, hm]
          rw [e] at hQ
          obtain ⟨j, hj, hjm⟩ := sp_all_iff.mp hm
          refine zr_iload_n dX8_chain_0 rfl ?_
          refine zt_callSi (As := [_]) (ca_hasChain L σ _) zc_X8_162 rfl dX8_chain_1 rfl rfl rfl ?_
          refine zr_top (congrArg sp_b h1) ?_
          refine zr_if_eq 18 dX8_chain_4 (by decide) (fun h => absurd h (by decide)) (fun hp4 => ?_)
          refine zr_aload_n dX8_chain_7 rfl ?_
          refine zt_getr zg_X8_10 dX8_chain_8 rfl rfl rfl ?_
          refine zr_iload_n dX8_chain_11 rfl ?_
          refine zt_callVi (As := [_]) (ca_hasCellB L σ _ (C 9 2) (by omega) rC.1.2.2.1) zc_X8_102 rfl dX8_chain_12 rfl rfl rfl rfl rfl rfl ?_
          refine zr_top (congrArg sp_b h2) ?_
          refine zr_if_ne 22 dX8_chain_15 (by decide) (fun hp15 => ?_) (fun h => absurd h (by decide))
          refine zr_iload_n dX8_chain_22 rfl ?_
          refine zr_if_lt 39 dX8_chain_23 (by decide) (fun h => absurd h (nI_pos (by omega))) (fun hp23 => ?_)
          refine zr_iload_n dX8_chain_26 rfl ?_
          refine zr_aload_n dX8_chain_27 rfl ?_
          refine zt_getr zg_X8_19 dX8_chain_28 rfl rfl rfl ?_
          refine zt_getr zg_X8_165 dX8_chain_31 rfl rfl rfl ?_
          refine zr_iload_n dX8_chain_34 rfl ?_
          refine zt_ildN dX8_chain_35 rfl rfl (hx) (rs) ?_
          refine zr_icmp_le 43 dX8_chain_36 (by decide) (fun hp36 => ?_) (fun h => absurd (nI_le (by omega) (by omega)) h)
          refine zr_aload_n dX8_chain_43 rfl ?_
          refine zt_getr zg_X8_19 dX8_chain_44 rfl rfl rfl ?_
          refine zt_getr zg_X8_167 dX8_chain_47 rfl rfl rfl ?_
          refine zr_iload_n dX8_chain_50 rfl ?_
          refine zt_ildN dX8_chain_51 rfl rfl (by omega) (rch.2 j hj hjm) ?_
          refine zr_iconst (v := (-1)) dX8_chain_52 kc_iconst_m1 ?_
          refine zr_icmp_eq 60 dX8_chain_53 (by decide) (fun h => absurd h (by rcases (show j = 0 ∨ j = 1 ∨ j = 2 by omega) with rfl | rfl | rfl <;> decide)) (fun hp53 => ?_)
          refine zr_sipush (v := (-1003)) dX8_chain_56 kc_sipush_m1003 ?_
          exact zr_iret dX8_chain_59 rfl (hQ _ _ ⟨rfl, hX0, fun _ _ => rfl⟩)
        · have e : fa_chain (nI x) (nI y) (nI z) t (C, K, m, tg, tk, no, nu, fO, fU) = (nI ((K x).length + 1), (sp_w C 12 y t, sp_ck K x ((K x).insertIdx z y), m, tg, tk, no, nu, fO, fU)) := by simp [fa_chain, h1, h2, ex, ey, ez, h3, hm]
          rw [e] at hQ
          refine zr_iload_n dX8_chain_0 rfl ?_
          refine zt_callSi (As := [_]) (ca_hasChain L σ _) zc_X8_162 rfl dX8_chain_1 rfl rfl rfl ?_
          refine zr_top (congrArg sp_b h1) ?_
          refine zr_if_eq 18 dX8_chain_4 (by decide) (fun h => absurd h (by decide)) (fun hp4 => ?_)
          refine zr_aload_n dX8_chain_7 rfl ?_
          refine zt_getr zg_X8_10 dX8_chain_8 rfl rfl rfl ?_
          refine zr_iload_n dX8_chain_11 rfl ?_
          refine zt_callVi (As := [_]) (ca_hasCellB L σ _ (C 9 2) (by omega) rC.1.2.2.1) zc_X8_102 rfl dX8_chain_12 rfl rfl rfl rfl rfl rfl ?_
          refine zr_top (congrArg sp_b h2) ?_
          refine zr_if_ne 22 dX8_chain_15 (by decide) (fun hp15 => ?_) (fun h => absurd h (by decide))
          refine zr_iload_n dX8_chain_22 rfl ?_
          refine zr_if_lt 39 dX8_chain_23 (by decide) (fun h => absurd h (nI_pos (by omega))) (fun hp23 => ?_)
          refine zr_iload_n dX8_chain_26 rfl ?_
          refine zr_aload_n dX8_chain_27 rfl ?_
          refine zt_getr zg_X8_19 dX8_chain_28 rfl rfl rfl ?_
          refine zt_getr zg_X8_165 dX8_chain_31 rfl rfl rfl ?_
          refine zr_iload_n dX8_chain_34 rfl ?_
          refine zt_ildN dX8_chain_35 rfl rfl (hx) (rs) ?_
          refine zr_icmp_le 43 dX8_chain_36 (by decide) (fun hp36 => ?_) (fun h => absurd (nI_le (by omega) (by omega)) h)
          refine zr_aload_n dX8_chain_43 rfl ?_
          refine zt_getr zg_X8_19 dX8_chain_44 rfl rfl rfl ?_
          refine zt_getr zg_X8_167 dX8_chain_47 rfl rfl rfl ?_
          refine zr_iload_n dX8_chain_50 rfl ?_
          refine zt_ildN dX8_chain_51 rfl rfl (by omega) (rch.1 hm) ?_
          refine zr_iconst (v := (-1)) dX8_chain_52 kc_iconst_m1 ?_
          refine zr_icmp_eq 60 dX8_chain_53 (by decide) (fun hp53 => ?_) (fun h => absurd h (by decide))
          refine zr_aload_n dX8_chain_60 rfl ?_
          refine zt_getr zg_X8_19 dX8_chain_61 rfl rfl rfl ?_
          refine zr_iload_n dX8_chain_64 rfl ?_
          refine zr_iload_n dX8_chain_65 rfl ?_
          refine zr_iload_n dX8_chain_66 rfl ?_
          refine zr_iload dX8_chain_67 rfl ?_
          refine zt_cVi (As := [_, _, _, _]) (ca_ins L σ C K hC hK rK x y z t hx hy hm (by omega) ht) zc_X8_170 rfl dX8_chain_69 rfl rfl rfl rfl rfl rfl (fun v1 σ1 h4 => ?_)
          obtain ⟨a1, a2, a3⟩ := h4
          exact zr_iret dX8_chain_72 rfl (hQ _ _ ⟨a1, hX0.chn a3 a2 (fun a i ha => sp_w_ne (by omega)), fun k hk => a2 k (by omega)⟩)
theorem cx_unchain (L : Nat) (σ : gz_Mm) (S : ap_S) (hw : ap_wf S) (hX : ap_X σ S) (c : Int32) : gz_Gi 1 yX8_unchain cX8_unchain 2 (some .int) L [.ref 11, .int c] σ (ap_P σ (fa_unchain c S)) := by
  obtain ⟨C, K, m, tg, tk, no, nu, fO, fU⟩ := S
  obtain ⟨hC, hK, hm, htg, hno, hnu, hz0, hz2⟩ := hw
  have hX0 := hX
  obtain ⟨⟨rC, rK, rM⟩, ⟨r5, r7⟩, rT, rR, rO, rS⟩ := hX
  have h80 := hC.1.1
  have h8 := hC.1.2.1
  have h20 := hC.1.2.2.1
  refine gz_Gi.of rfl rfl (fun Q hQ => ?_)
  cases h2 : ap_v c (C 9 2) with
  | false =>
    have e : fa_unchain c (C, K, m, tg, tk, no, nu, fO, fU) = (-1001, (C, K, m, tg, tk, no, nu, fO, fU)) := by simp [fa_unchain, h2]
    rw [e] at hQ
    refine zr_aload_n dX8_unchain_0 rfl ?_
    refine zt_getr zg_X8_10 dX8_unchain_1 rfl rfl rfl ?_
    refine zr_iload_n dX8_unchain_4 rfl ?_
    refine zt_callVi (As := [_]) (ca_hasCellB L σ c (C 9 2) (by omega) rC.1.2.2.1) zc_X8_102 rfl dX8_unchain_5 rfl rfl rfl rfl rfl rfl ?_
    refine zr_top (congrArg sp_b h2) ?_
    refine zr_if_ne 15 dX8_unchain_8 (by decide) (fun h => absurd h (by decide)) (fun hp8 => ?_)
    refine zr_sipush (v := (-1001)) dX8_unchain_11 kc_sipush_m1001 ?_
    exact zr_iret dX8_unchain_14 rfl (hQ _ _ ⟨rfl, hX0, fun _ _ => rfl⟩)
  | true =>
    obtain ⟨y, hy, rfl, ey⟩ := ap_v_t h2 (by omega)
    have rch := rK.2.2 y (by omega)
    by_cases hm : y ∈ sp_all K
    · have e : fa_unchain (nI y) (C, K, m, tg, tk, no, nu, fO, fU) = (1, (C, fun k => (K k).filter (fun j => decide (j ≠ y)), m, tg, tk, no, nu, fO, fU)) := by simp [fa_unchain, h2, ey, hm]
      rw [e] at hQ
      obtain ⟨j, hj, hjm⟩ := sp_all_iff.mp hm
      have hlen := hK.lenk hj
      obtain ⟨rs, rr⟩ := rK.1 j hj
      have ml : ∀ c, c ∈ K j → c < 20 := fun c hc => by have := hK.2 c (sp_all_mem hj hc); omega
      rcases (show j = 0 ∨ j = 1 ∨ j = 2 by omega) with rfl | rfl | rfl
      · refine zr_aload_n dX8_unchain_0 rfl ?_
        refine zt_getr zg_X8_10 dX8_unchain_1 rfl rfl rfl ?_
        refine zr_iload_n dX8_unchain_4 rfl ?_
        refine zt_callVi (As := [_]) (ca_hasCellB L σ _ (C 9 2) (by omega) rC.1.2.2.1) zc_X8_102 rfl dX8_unchain_5 rfl rfl rfl rfl rfl rfl ?_
        refine zr_top (congrArg sp_b h2) ?_
        refine zr_if_ne 15 dX8_unchain_8 (by decide) (fun hp8 => ?_) (fun h => absurd h (by decide))
        refine zr_aload_n dX8_unchain_15 rfl ?_
        refine zt_getr zg_X8_19 dX8_unchain_16 rfl rfl rfl ?_
        refine zt_getr zg_X8_167 dX8_unchain_19 rfl rfl rfl ?_
        refine zr_iload_n dX8_unchain_22 rfl ?_
        refine zt_ildN dX8_unchain_23 rfl rfl (by omega) (rch.2 0 hj hjm) ?_
        refine zr_iconst (v := (-1)) dX8_unchain_24 kc_iconst_m1 ?_
        refine zr_icmp_ne 30 dX8_unchain_25 (by decide) (fun hp25 => ?_) (fun h => absurd h (by decide))
        refine zr_aload_n dX8_unchain_30 rfl ?_
        refine zt_getr zg_X8_19 dX8_unchain_31 rfl rfl rfl ?_
        refine zr_iload_n dX8_unchain_34 rfl ?_
        refine zt_cVv (As := [_]) (ca_takeOut_0 L σ (K 0) (by omega) rs rr ml y (by omega) (rch.2 0 hj hjm)) zc_X8_174 rfl dX8_unchain_35 rfl rfl rfl rfl rfl rfl (fun σ1 h4 => ?_)
        refine zr_iconst (v := 1) dX8_unchain_38 kc_iconst_1 ?_
        obtain ⟨q2, ⟨q3, q4⟩, q6⟩ := h4
        exact zr_iret dX8_unchain_39 rfl (hQ _ _ ⟨rfl, hX0.chn (rK.del hK (k := 0) (by decide) hjm (fun j hj hne => q2 _ (by omega) (by omega) (by omega)) q3 q4 (q2 30 (by decide) (by decide) (by decide)) q6) (fun k hk => q2 k (by omega) (by omega) (by omega)) (fun _ _ _ => rfl), fun k hk => q2 k (by omega) (by omega) (by omega)⟩)
      · refine zr_aload_n dX8_unchain_0 rfl ?_
        refine zt_getr zg_X8_10 dX8_unchain_1 rfl rfl rfl ?_
        refine zr_iload_n dX8_unchain_4 rfl ?_
        refine zt_callVi (As := [_]) (ca_hasCellB L σ _ (C 9 2) (by omega) rC.1.2.2.1) zc_X8_102 rfl dX8_unchain_5 rfl rfl rfl rfl rfl rfl ?_
        refine zr_top (congrArg sp_b h2) ?_
        refine zr_if_ne 15 dX8_unchain_8 (by decide) (fun hp8 => ?_) (fun h => absurd h (by decide))
        refine zr_aload_n dX8_unchain_15 rfl ?_
        refine zt_getr zg_X8_19 dX8_unchain_16 rfl rfl rfl ?_
        refine zt_getr zg_X8_167 dX8_unchain_19 rfl rfl rfl ?_
        refine zr_iload_n dX8_unchain_22 rfl ?_
        refine zt_ildN dX8_unchain_23 rfl rfl (by omega) (rch.2 1 hj hjm) ?_
        refine zr_iconst (v := (-1)) dX8_unchain_24 kc_iconst_m1 ?_
        refine zr_icmp_ne 30 dX8_unchain_25 (by decide) (fun hp25 => ?_) (fun h => absurd h (by decide))
        refine zr_aload_n dX8_unchain_30 rfl ?_
        refine zt_getr zg_X8_19 dX8_unchain_31 rfl rfl rfl ?_
        refine zr_iload_n dX8_unchain_34 rfl ?_
        refine zt_cVv (As := [_]) (ca_takeOut_1 L σ (K 1) (by omega) rs rr ml y (by omega) (rch.2 1 hj hjm)) zc_X8_174 rfl dX8_unchain_35 rfl rfl rfl rfl rfl rfl (fun σ1 h4 => ?_)
        refine zr_iconst (v := 1) dX8_unchain_38 kc_iconst_1 ?_
        obtain ⟨q2, ⟨q3, q4⟩, q6⟩ := h4
        exact zr_iret dX8_unchain_39 rfl (hQ _ _ ⟨rfl, hX0.chn (rK.del hK (k := 1) (by decide) hjm (fun j hj hne => q2 _ (by omega) (by omega) (by omega)) q3 q4 (q2 30 (by decide) (by decide) (by decide)) q6) (fun k hk => q2 k (by omega) (by omega) (by omega)) (fun _ _ _ => rfl), fun k hk => q2 k (by omega) (by omega) (by omega)⟩)
      · refine zr_aload_n dX8_unchain_0 rfl ?_
        refine zt_getr zg_X8_10 dX8_unchain_1 rfl rfl rfl ?_
        refine zr_iload_n dX8_unchain_4 rfl ?_
        refine zt_callVi (As := [_]) (ca_hasCellB L σ _ (C 9 2) (by omega) rC.1.2.2.1) zc_X8_102 rfl dX8_unchain_5 rfl rfl rfl rfl rfl rfl ?_
        refine zr_top (congrArg sp_b h2) ?_
        refine zr_if_ne 15 dX8_unchain_8 (by decide) (fun hp8 => ?_) (fun h => absurd h (by decide))
        refine zr_aload_n dX8_unchain_15 rfl ?_
        refine zt_getr zg_X8_19 dX8_unchain_16 rfl rfl rfl ?_
        refine zt_getr zg_X8_167 dX8_unchain_19 rfl rfl rfl ?_
        refine zr_iload_n dX8_unchain_22 rfl ?_
        refine zt_ildN dX8_unchain_23 rfl rfl (by omega) (rch.2 2 hj hjm) ?_
        refine zr_iconst (v := (-1)) dX8_unchain_24 kc_iconst_m1 ?_
        refine zr_icmp_ne 30 dX8_unchain_25 (by decide) (fun hp25 => ?_) (fun h => absurd h (by decide))
        refine zr_aload_n dX8_unchain_30 rfl ?_
        refine zt_getr zg_X8_19 dX8_unchain_31 rfl rfl rfl ?_
        refine zr_iload_n dX8_unchain_34 rfl ?_
        refine zt_cVv (As := [_]) (ca_takeOut_2 L σ (K 2) (by omega) rs rr ml y (by omega) (rch.2 2 hj hjm)) zc_X8_174 rfl dX8_unchain_35 rfl rfl rfl rfl rfl rfl (fun σ1 h4 => ?_)
        refine zr_iconst (v := 1) dX8_unchain_38 kc_iconst_1 ?_
        obtain ⟨q2, ⟨q3, q4⟩, q6⟩ := h4
        exact zr_iret dX8_unchain_39 rfl (hQ _ _ ⟨rfl, hX0.chn (rK.del hK (k := 2) (by decide) hjm (fun j hj hne => q2 _ (by omega) (by omega) (by omega)) q3 q4 (q2 30 (by decide) (by decide) (by decide)) q6) (fun k hk => q2 k (by omega) (by omega) (by omega)) (fun _ _ _ => rfl), fun k hk => q2 k (by omega) (by omega) (by omega)⟩)
    · have e : fa_unchain (nI y) (C, K, m, tg, tk, no, nu, fO, fU) = (0, (C, K, m, tg, tk, no, nu, fO, fU)) := by simp [fa_unchain, h2, ey, hm]
      rw [e] at hQ
      refine zr_aload_n dX8_unchain_0 rfl ?_
      refine zt_getr zg_X8_10 dX8_unchain_1 rfl rfl rfl ?_
      refine zr_iload_n dX8_unchain_4 rfl ?_
      refine zt_callVi (As := [_]) (ca_hasCellB L σ _ (C 9 2) (by omega) rC.1.2.2.1) zc_X8_102 rfl dX8_unchain_5 rfl rfl rfl rfl rfl rfl ?_
      refine zr_top (congrArg sp_b h2) ?_
      refine zr_if_ne 15 dX8_unchain_8 (by decide) (fun hp8 => ?_) (fun h => absurd h (by decide))
      refine zr_aload_n dX8_unchain_15 rfl ?_
      refine zt_getr zg_X8_19 dX8_unchain_16 rfl rfl rfl ?_
      refine zt_getr zg_X8_167 dX8_unchain_19 rfl rfl rfl ?_
      refine zr_iload_n dX8_unchain_22 rfl ?_
      refine zt_ildN dX8_unchain_23 rfl rfl (by omega) (rch.1 hm) ?_
      refine zr_iconst (v := (-1)) dX8_unchain_24 kc_iconst_m1 ?_
      refine zr_icmp_ne 30 dX8_unchain_25 (by decide) (fun h => absurd h (by decide)) (fun hp25 => ?_)
      refine zr_iconst (v := 0) dX8_unchain_28 kc_iconst_0 ?_
      exact zr_iret dX8_unchain_29 rfl (hQ _ _ ⟨rfl, hX0, fun _ _ => rfl⟩)
/-! well-formedness behind an insertion, a deletion, a stitching -/
theorem sp_wf.w12 {C : sp_T} (hC : sp_wf C) (c t : Nat) (ht : t ≤ 1) : sp_wf (sp_w C 12 c t) := by
  obtain ⟨a1, a2, a3, a4, a5⟩ := hC
  unfold sp_wf
  have e : ∀ a i, a ≠ 12 → sp_w C 12 c t a i = C a i := fun a i h => sp_w_ne (by omega)
  simp only [e 0 _ (by decide), e 1 _ (by decide), e 2 _ (by decide), e 3 _ (by decide), e 4 _ (by decide), e 5 _ (by decide), e 6 _ (by decide), e 7 _ (by decide), e 8 _ (by decide), e 9 _ (by decide), e 10 _ (by decide), e 11 _ (by decide)]
  refine ⟨a1, a2, fun d hd => ⟨(a3 d hd).1, (a3 d hd).2.1, (a3 d hd).2.2.1, ?_⟩, a4, a5⟩
  by_cases q : d = c
  · rw [q, sp_w_eq]; exact ht
  · rw [sp_w_ne (by omega)]; exact (a3 d hd).2.2.2
theorem sp_wk.ins {C : sp_T} {K : sp_K} (hK : sp_wk C K) {k c p t : Nat} (hk : k < 3) (hc : c < C 9 2) (hn : c ∉ sp_all K) (hp : p ≤ (K k).length) : sp_wk (sp_w C 12 c t) (sp_ck K k ((K k).insertIdx p c)) := by
  obtain ⟨n1, d1⟩ := sp_nod.mp hK.1
  have e9 : sp_w C 12 c t 9 2 = C 9 2 := sp_w_ne (by omega)
  refine ⟨sp_nod.mpr ⟨fun j hj => ?_, fun i j hi hj hne d h1 h2 => ?_⟩, fun d hd => ?_⟩
  · unfold sp_ck
    split
    · next e =>
      rw [(List.perm_insertIdx c (K k) hp).nodup_iff, List.nodup_cons]
      exact ⟨fun q => hn (sp_all_iff.mpr ⟨k, hk, q⟩), n1 k hk⟩
    · exact n1 j hj
  · rcases (mem_ck hp).mp h1 with ⟨a1, a2⟩ | a
    · rcases (mem_ck hp).mp h2 with ⟨b1, b2⟩ | b
      · exact hne (a1.trans b1.symm)
      · exact hn (a2 ▸ sp_all_iff.mpr ⟨j, hj, b⟩)
    · rcases (mem_ck hp).mp h2 with ⟨b1, b2⟩ | b
      · exact hn (b2 ▸ sp_all_iff.mpr ⟨i, hi, a⟩)
      · exact d1 i j hi hj hne d a b
  · rw [e9]
    obtain ⟨j, hj, hm⟩ := sp_all_iff.mp hd
    rcases (mem_ck hp).mp hm with ⟨_, q⟩ | q
    · rw [q]; exact hc
    · exact hK.2 d (sp_all_iff.mpr ⟨j, hj, q⟩)
theorem sp_wk.del {C : sp_T} {K : sp_K} (hK : sp_wk C K) (c : Nat) : sp_wk C (fun k => (K k).filter (fun j => decide (j ≠ c))) := by
  obtain ⟨n1, d1⟩ := sp_nod.mp hK.1
  refine ⟨sp_nod.mpr ⟨fun j hj => (n1 j hj).filter _, fun i j hi hj hne d h1 h2 => d1 i j hi hj hne d (List.mem_filter.mp h1).1 (List.mem_filter.mp h2).1⟩, fun d hd => ?_⟩
  obtain ⟨j, hj, hm⟩ := sp_all_iff.mp hd
  exact hK.2 d (sp_all_iff.mpr ⟨j, hj, (List.mem_filter.mp hm).1⟩)
theorem sp_st_ok {C : sp_T} {K : sp_K} (hC : sp_wf C) (hK : sp_wk C K) : ∀ n, n ≤ C 9 2 → sp_wf (sp_st C K n).2.1 ∧ sp_wk (sp_st C K n).2.1 (sp_st C K n).2.2 ∧ (∀ a i, a ≠ 12 → (sp_st C K n).2.1 a i = C a i) ∧ (sp_st C K n).1 ≤ n
  | 0, _ => ⟨hC, hK, fun _ _ _ => rfl, Nat.le_refl 0⟩
  | n + 1, h => by
    obtain ⟨a1, a2, a3, a4⟩ := sp_st_ok hC hK n (by omega)
    unfold sp_st
    generalize sp_st C K n = q at a1 a2 a3 a4
    obtain ⟨x, C1, K1⟩ := q
    dsimp only at a1 a2 a3 a4 ⊢
    by_cases hm : n ∈ sp_all K1
    · rw [if_pos hm]
      exact ⟨a1, a2, a3, by omega⟩
    · rw [if_neg hm]
      have hd := (hC.2.2.1 n (by omega)).2.1
      refine ⟨a1.w12 n 0 (by omega), ?_, fun a i ha => (sp_w_ne (by omega)).trans (a3 a i ha), by show x + 1 ≤ n + 1; omega⟩
      have := a2.ins (k := C 6 n) (c := n) (p := (K1 (C 6 n)).length) (t := 0) (by omega) (by rw [a3 9 2 (by decide)]; omega) hm (Nat.le_refl _)
      rw [List.insertIdx_length_self] at this
      exact this
theorem cx_stitch (L : Nat) (σ : gz_Mm) (S : ap_S) (hw : ap_wf S) (hX : ap_X σ S) : gz_Gi 1 yX8_stitch cX8_stitch 4 (some .int) L [.ref 11] σ (ap_P σ (fa_stitch S)) := by
  obtain ⟨C, K, m, tg, tk, no, nu, fO, fU⟩ := S
  obtain ⟨hC, hK, hm, htg, hno, hnu, hz0, hz2⟩ := hw
  have hX0 := hX
  obtain ⟨⟨rC, rK, rM⟩, ⟨r5, r7⟩, rT, rR, rO, rS⟩ := hX
  have h80 := hC.1.1
  have h8 := hC.1.2.1
  have h20 := hC.1.2.2.1
  have e : fa_stitch (C, K, m, tg, tk, no, nu, fO, fU) = (nI (sp_st C K (C 9 2)).1, ((sp_st C K (C 9 2)).2.1, (sp_st C K (C 9 2)).2.2, m, tg, tk, no, nu, fO, fU)) := rfl
  refine gz_Gi.of rfl rfl (fun Q hQ => ?_)
  rw [e] at hQ
  refine zr_iconst (v := 0) dX8_stitch_0 kc_iconst_0 ?_
  refine zr_istore_n dX8_stitch_1 (by decide) rfl ?_
  refine zr_iconst (v := 0) dX8_stitch_2 kc_iconst_0 ?_
  refine zr_istore_n dX8_stitch_3 (by decide) rfl ?_
  refine zl_up (τ := gz_Mm × Option Value) (C 9 2) (fun i t => (∀ k, k < 25 ∨ 30 < k → t.1 k = σ k) ∧ rx_K t.1 (sp_st C K i).2.1 (sp_st C K i).2.2) (fun i t => gz_R 1 yX8_stitch cX8_stitch 4 (some .int) 0 0 4 [some (.ref 11), some (.int (nI (sp_st C K i).1)), some (.int (nI i)), t.2] [] (gz_mk L t.1) Q) ?_ ?_ 0 (σ, none) (Nat.zero_le _) ⟨fun _ _ => rfl, rK⟩
  · rintro ⟨σ1, o⟩ ⟨f1, rK1⟩
    obtain ⟨-, -, a3, -⟩ := sp_st_ok hC hK (C 9 2) (Nat.le_refl _)
    refine zr_iload_n dX8_stitch_4 rfl ?_
    refine zr_aload_n dX8_stitch_5 rfl ?_
    refine zt_getr zg_X8_10 dX8_stitch_6 rfl rfl rfl ?_
    refine zt_geti zg_X8_96 dX8_stitch_9 rfl rfl rfl ?_
    refine zr_top ((congrFun (f1 12 (by decide)) 2).trans rC.1.2.2.1) ?_
    refine zr_icmp_ge 67 dX8_stitch_12 (by decide) (fun hp12 => ?_) (fun h => absurd (Int32.le_refl _) h)
    refine zr_iload_n dX8_stitch_67 rfl ?_
    exact zr_iret dX8_stitch_68 rfl (hQ _ _ ⟨rfl, hX0.chn rK1 f1 a3, fun k hk => f1 k (by omega)⟩)
  · rintro i ⟨σ1, o⟩ hi ⟨f1, rK1⟩ ih
    obtain ⟨b1, b2, b3, b4⟩ := sp_st_ok hC hK i (by omega)
    have est : sp_st C K (i + 1) = if i ∈ sp_all (sp_st C K i).2.2 then sp_st C K i else ((sp_st C K i).1 + 1, sp_w (sp_st C K i).2.1 12 i 0, sp_ck (sp_st C K i).2.2 (C 6 i) ((sp_st C K i).2.2 (C 6 i) ++ [i])) := rfl
    generalize sp_st C K i = q at *
    obtain ⟨x, C1, K1⟩ := q
    dsimp only at b1 b2 b3 b4 est rK1 ⊢
    have rch := rK1.2.2 i (by omega)
    have hd := (hC.2.2.1 i hi).2.1
    by_cases hm : i ∈ sp_all K1
    · rw [if_pos hm] at est
      obtain ⟨j, hj, hjm⟩ := sp_all_iff.mp hm
      refine zr_iload_n dX8_stitch_4 rfl ?_
      refine zr_aload_n dX8_stitch_5 rfl ?_
      refine zt_getr zg_X8_10 dX8_stitch_6 rfl rfl rfl ?_
      refine zt_geti zg_X8_96 dX8_stitch_9 rfl rfl rfl ?_
      refine zr_top ((congrFun (f1 12 (by decide)) 2).trans rC.1.2.2.1) ?_
      refine zr_icmp_ge 67 dX8_stitch_12 (by decide) (fun h => absurd h (nI_ge hi (by omega))) (fun hp12 => ?_)
      refine zr_aload_n dX8_stitch_15 rfl ?_
      refine zt_getr zg_X8_19 dX8_stitch_16 rfl rfl rfl ?_
      refine zt_getr zg_X8_167 dX8_stitch_19 rfl rfl rfl ?_
      refine zr_iload_n dX8_stitch_22 rfl ?_
      refine zt_ildN dX8_stitch_23 rfl rfl (by omega) (rch.2 j hj hjm) ?_
      refine zr_iconst (v := (-1)) dX8_stitch_24 kc_iconst_m1 ?_
      refine zr_icmp_ne 61 dX8_stitch_25 (by decide) (fun hp25 => ?_) (fun h => absurd h (by rcases (show j = 0 ∨ j = 1 ∨ j = 2 by omega) with rfl | rfl | rfl <;> decide))
      refine zr_iinc dX8_stitch_61 rfl (kc_inc (i)) rfl ?_
      refine zr_goto 4 dX8_stitch_64 (by decide) ?_
      have := ih (σ1, o)
      rw [est] at this
      exact this ⟨f1, rK1⟩
    · rw [if_neg hm] at est
      have hlen := b2.lenk (k := C 6 i) (by omega)
      have e92 := b3 9 2 (by decide)
      refine zr_iload_n dX8_stitch_4 rfl ?_
      refine zr_aload_n dX8_stitch_5 rfl ?_
      refine zt_getr zg_X8_10 dX8_stitch_6 rfl rfl rfl ?_
      refine zt_geti zg_X8_96 dX8_stitch_9 rfl rfl rfl ?_
      refine zr_top ((congrFun (f1 12 (by decide)) 2).trans rC.1.2.2.1) ?_
      refine zr_icmp_ge 67 dX8_stitch_12 (by decide) (fun h => absurd h (nI_ge hi (by omega))) (fun hp12 => ?_)
      refine zr_aload_n dX8_stitch_15 rfl ?_
      refine zt_getr zg_X8_19 dX8_stitch_16 rfl rfl rfl ?_
      refine zt_getr zg_X8_167 dX8_stitch_19 rfl rfl rfl ?_
      refine zr_iload_n dX8_stitch_22 rfl ?_
      refine zt_ildN dX8_stitch_23 rfl rfl (by omega) (rch.1 hm) ?_
      refine zr_iconst (v := (-1)) dX8_stitch_24 kc_iconst_m1 ?_
      refine zr_icmp_ne 61 dX8_stitch_25 (by decide) (fun h => absurd h (by decide)) (fun hp25 => ?_)
      refine zr_aload_n dX8_stitch_28 rfl ?_
      refine zt_getr zg_X8_10 dX8_stitch_29 rfl rfl rfl ?_
      refine zt_getr zg_X8_182 dX8_stitch_32 rfl rfl rfl ?_
      refine zr_iload_n dX8_stitch_35 rfl ?_
      refine zt_ildN dX8_stitch_36 rfl rfl (by omega) ((congrFun (f1 20 (by decide)) i).trans (rC.2.2.1 i hi).2.1) ?_
      refine zr_istore_n dX8_stitch_37 (by decide) rfl ?_
      refine zr_aload_n dX8_stitch_38 rfl ?_
      refine zt_getr zg_X8_19 dX8_stitch_39 rfl rfl rfl ?_
      refine zr_iload_n dX8_stitch_42 rfl ?_
      refine zr_iload_n dX8_stitch_43 rfl ?_
      refine zr_aload_n dX8_stitch_44 rfl ?_
      refine zt_getr zg_X8_19 dX8_stitch_45 rfl rfl rfl ?_
      refine zt_getr zg_X8_165 dX8_stitch_48 rfl rfl rfl ?_
      refine zr_iload_n dX8_stitch_51 rfl ?_
      refine zt_ildN dX8_stitch_52 rfl rfl (by omega) ((rK1.1 (C 6 i) (by omega)).1) ?_
      refine zr_iconst (v := 0) dX8_stitch_53 kc_iconst_0 ?_
      refine zt_cVi (As := [_, _, _, _]) (ca_ins L σ1 C1 K1 b1 b2 rK1 (C 6 i) i _ 0 (by omega) (by omega) hm (Nat.le_refl _) (by omega)) zc_X8_170 rfl dX8_stitch_54 rfl rfl rfl rfl rfl rfl (fun v2 σ2 h4 => ?_)
      obtain ⟨a1, a2, a3⟩ := h4
      rw [List.insertIdx_length_self] at a3
      refine zr_pop dX8_stitch_57 rfl ?_
      refine zr_iinc dX8_stitch_58 rfl (kc_inc (x)) rfl ?_
      refine zr_iinc dX8_stitch_61 rfl (kc_inc (i)) rfl ?_
      refine zr_goto 4 dX8_stitch_64 (by decide) ?_
      have := ih (σ2, some (.int (nI (C 6 i))))
      rw [est] at this
      exact this ⟨fun k hk => (a2 k hk).trans (f1 k hk), a3⟩
