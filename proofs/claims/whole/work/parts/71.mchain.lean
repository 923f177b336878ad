/-! ===== the reference: chain, unchain, stitch, same ===== -/
theorem nI_upto {n : Nat} (hn : n < 2 ^ 30) : (nI n).toInt64.toInt = ((n + 1 : Nat) : Int) - 1 := by
  rw [Int32.toInt_toInt64, nI_toInt (by omega)]
  omega
theorem rm_K.ins {σ σ' : gz_Mm} {C : sp_T} {K : sp_K} (rK : rm_K σ C K) (hK : sp_wk C K) (h20 : C 9 2 ≤ 20) {k c p t : Nat} (hk : k < 3) (hc : c ∉ sp_all K) (hp : p ≤ (K k).length) (f : ∀ q, q < 20 * k ∨ 20 * k + 20 ≤ q → σ' 68 q = σ 68 q) (e69 : σ' 69 = upd (σ 69) k (nI ((K k).length + 1))) (e65 : σ' 65 = upd (σ 65) c (nI k)) (e66 : σ' 66 = upd (σ 66) c (nI t)) (er : ∀ i, i < (K k).length + 1 → σ' 68 (20 * k + i) = nI (((K k).insertIdx p c).getD i 0)) :
    rm_K σ' (sp_w C 12 c t) (sp_ck K k ((K k).insertIdx p c)) := by
  have hln : ((K k).insertIdx p c).length = (K k).length + 1 := List.length_insertIdx_of_le_length hp c
  refine ⟨fun j hj => ?_, fun d hd => ?_, fun d hd => ⟨fun hn => ?_, fun j hj hm => ?_⟩⟩
  · by_cases e : j = k
    · subst e
      have ek : sp_ck K j ((K j).insertIdx p c) j = (K j).insertIdx p c := if_pos rfl
      rw [ek, hln, e69]
      exact ⟨by simp [upd], er⟩
    · have ek : sp_ck K k ((K k).insertIdx p c) j = K j := if_neg e
      have hl := hK.lenk hj
      rw [ek, e69, pk_un e]
      exact ⟨(rK.1 j hj).1, fun i hi => (f _ (by omega)).trans ((rK.1 j hj).2 i hi)⟩
  · rw [e66]
    by_cases e : d = c
    · rw [e]
      simp [upd, sp_w]
    · rw [pk_un e, sp_w_ne (by omega)]
      obtain ⟨j, hj, hm⟩ := sp_all_iff.mp hd
      rcases (mem_ck hp).mp hm with ⟨_, q⟩ | q
      · exact absurd q e
      · exact rK.2.1 d (sp_all_iff.mpr ⟨j, hj, q⟩)
  · rw [e65]
    have hd' : d < C 9 2 := by rw [sp_w_ne (by omega)] at hd; exact hd
    have h1 : d ≠ c := fun e => hn (sp_all_iff.mpr ⟨k, hk, (mem_ck hp).mpr (Or.inl ⟨rfl, e⟩)⟩)
    rw [pk_un h1]
    exact (rK.2.2 d hd').1 (fun q => hn (by obtain ⟨j, hj, hm⟩ := sp_all_iff.mp q; exact sp_all_iff.mpr ⟨j, hj, (mem_ck hp).mpr (Or.inr hm)⟩))
  · rw [e65]
    have hd' : d < C 9 2 := by rw [sp_w_ne (by omega)] at hd; exact hd
    rcases (mem_ck hp).mp hm with ⟨q1, q2⟩ | q
    · rw [q1, q2]
      simp [upd]
    · have h1 : d ≠ c := fun e => hc (e ▸ sp_all_iff.mpr ⟨j, hj, q⟩)
      rw [pk_un h1]
      exact (rK.2.2 d hd').2 j hj q
theorem rm_K.del {σ σ' : gz_Mm} {C : sp_T} {K : sp_K} (rK : rm_K σ C K) (hK : sp_wk C K) (h20 : C 9 2 ≤ 20) {k c : Nat} (hk : k < 3) (hc : c ∈ K k) (f : ∀ q, q < 20 * k ∨ 20 * k + 20 ≤ q → σ' 68 q = σ 68 q) (e69 : σ' 69 = upd (σ 69) k (nI ((K k).filter (fun j => decide (j ≠ c))).length)) (e65 : σ' 65 = upd (σ 65) c (-1)) (e66 : σ' 66 = upd (σ 66) c 0) (er : ∀ i, i < ((K k).filter (fun j => decide (j ≠ c))).length → σ' 68 (20 * k + i) = nI (((K k).filter (fun j => decide (j ≠ c))).getD i 0)) :
    rm_K σ' C (fun k => (K k).filter (fun j => decide (j ≠ c))) := by
  have dis := (sp_nod.mp hK.1).2
  have same : ∀ j, j < 3 → j ≠ k → (K j).filter (fun i => decide (i ≠ c)) = K j := fun j hj hne => by
    rw [List.filter_eq_self]
    intro a ha
    have : a ≠ c := fun e => dis k j hk hj (Ne.symm hne) c hc (e ▸ ha)
    simp [this]
  refine ⟨fun j hj => ?_, fun d hd => ?_, fun d hd => ⟨fun hn => ?_, fun j hj hm => ?_⟩⟩
  · by_cases e : j = k
    · subst e
      rw [e69]
      exact ⟨by simp [upd], er⟩
    · show σ' 69 j = nI ((K j).filter (fun i => decide (i ≠ c))).length ∧ ∀ i, i < ((K j).filter (fun i => decide (i ≠ c))).length → σ' 68 (20 * j + i) = nI (((K j).filter (fun i => decide (i ≠ c))).getD i 0)
      have hl := hK.lenk hj
      rw [e69, pk_un e, same j hj e]
      exact ⟨(rK.1 j hj).1, fun i hi => (f _ (by omega)).trans ((rK.1 j hj).2 i hi)⟩
  · obtain ⟨j, hj, hm⟩ := sp_all_iff.mp hd
    obtain ⟨h1, h2⟩ := List.mem_filter.mp hm
    have h3 : d ≠ c := by simpa using h2
    rw [e66, pk_un h3]
    exact rK.2.1 d (sp_all_iff.mpr ⟨j, hj, h1⟩)
  · rw [e65]
    by_cases e : d = c
    · rw [e]
      simp [upd]
    · rw [pk_un e]
      exact (rK.2.2 d hd).1 (fun q => hn (by obtain ⟨j, hj, hm⟩ := sp_all_iff.mp q; exact sp_all_iff.mpr ⟨j, hj, List.mem_filter.mpr ⟨hm, by simp [e]⟩⟩))
  · obtain ⟨h1, h2⟩ := List.mem_filter.mp hm
    have h3 : d ≠ c := by simpa using h2
    rw [e65, pk_un h3]
    exact (rK.2.2 d hd).2 j hj h1
theorem fl_at : ∀ (l : List Nat) (p c : Nat), l.Nodup → p < l.length → l.getD p 0 = c → (l.filter (fun j => decide (j ≠ c))).length + 1 = l.length ∧ ∀ i, (l.filter (fun j => decide (j ≠ c))).getD i 0 = if i < p then l.getD i 0 else l.getD (i + 1) 0
  | [], p, c, _, h, _ => absurd h (Nat.not_lt_zero _)
  | a :: r, 0, c, hn, _, e => by
    have e' : a = c := e
    subst e'
    have hr : r.filter (fun j => decide (j ≠ a)) = r := by
      rw [List.filter_eq_self]
      intro b hb
      have : b ≠ a := fun q => (List.nodup_cons.mp hn).1 (q ▸ hb)
      simp [this]
    have hf : (a :: r).filter (fun j => decide (j ≠ a)) = r := by
      rw [List.filter_cons]
      simp only [ne_eq, not_true_eq_false, decide_false]
      exact hr
    rw [hf]
    exact ⟨rfl, fun i => rfl⟩
  | a :: r, p + 1, c, hn, h, e => by
    have h' : p < r.length := Nat.lt_of_succ_lt_succ h
    have e' : r.getD p 0 = c := e
    have ha : a ≠ c := fun q => (List.nodup_cons.mp hn).1 (by rw [q, ← e']; exact ls_mem h')
    obtain ⟨i1, i2⟩ := fl_at r p c (List.nodup_cons.mp hn).2 h' e'
    have hf : (a :: r).filter (fun j => decide (j ≠ c)) = a :: r.filter (fun j => decide (j ≠ c)) := by
      rw [List.filter_cons]
      simp [ha]
    rw [hf]
    refine ⟨by simp only [List.length_cons]; omega, fun i => ?_⟩
    cases i with
    | zero => rfl
    | succ i =>
      show (r.filter (fun j => decide (j ≠ c))).getD i 0 = if i + 1 < p + 1 then r.getD i 0 else r.getD (i + 1) 0
      rw [i2 i]
      by_cases q : i < p
      · rw [if_pos q, if_pos (by omega)]
      · rw [if_neg q, if_neg (by omega)]
theorem am_X.chn {σ σ' : gz_Mm} {C C' : sp_T} {K K' : sp_K} {m : sp_T} {r : Nat × Int32 × Nat × Nat × (Nat → Int32) × (Nat → Int32)} (hX : am_X σ (C, K, m, r)) (hK : rm_K σ' C' K') (hk : ∀ k, k ≠ 65 → k ≠ 66 → k ≠ 68 → k ≠ 69 → σ' k = σ k) (e : ∀ a i, a ≠ 12 → C' a i = C a i) : am_X σ' (C', K', m, r) := by
  have hX0 := hX
  obtain ⟨tg, tk, no, nu, fO, fU⟩ := r
  obtain ⟨⟨rC, rK, rM⟩, -⟩ := hX
  have f57 : ∀ j, σ' 57 j = σ 57 j := fun j => congrFun (hk 57 (by decide) (by decide) (by decide) (by decide)) j
  refine hX0.circ ?_ hK (rm_m.tab (rM.kept (fun j _ => f57 j) (hk 72 (by decide) (by decide) (by decide) (by decide)) (hk 73 (by decide) (by decide) (by decide) (by decide))) (e 9 2 (by decide))) (fun j _ => f57 j) (hk 78 (by decide) (by decide) (by decide) (by decide)) (hk 79 (by decide) (by decide) (by decide) (by decide))
  have rC' : rm_C σ' C := rC.kept (fun j _ => f57 j) (fun k _ _ a b c d => hk k a b c d)
  unfold rm_C at rC' ⊢
  simp only [e 0 _ (by decide), e 1 _ (by decide), e 2 _ (by decide), e 3 _ (by decide), e 4 _ (by decide), e 5 _ (by decide), e 6 _ (by decide), e 7 _ (by decide), e 8 _ (by decide), e 9 _ (by decide), e 10 _ (by decide), e 11 _ (by decide)]
  exact rC'
theorem ax_chain (L : Nat) (σ : gz_Mm) (S : ap_S) (hw : ap_wf S) (hX : am_X σ S) (k c i : Int32) (t : Nat) (ht : t < 2) : gz_Gi 2 yX9_chain cX9_chain 6 (some .int) L [.ref 57, .int k, .int c, .int i, .int (nI t)] σ (am_P σ (fa_chain k c i t S)) := by
  obtain ⟨C, K, m, tg, tk, no, nu, fO, fU⟩ := S
  obtain ⟨hC, hK, hm, htg, hno, hnu, hz0, hz2⟩ := hw
  have hX0 := hX
  obtain ⟨⟨rC, rK, rM⟩, ⟨r5, r7⟩, s1, s2, s3, s4⟩ := hX
  obtain ⟨h80, h8, h20, ho8, ht20⟩ := hC.1
  have c0 := rC.1.1
  have c1 := rC.1.2.1
  have c2 := rC.1.2.2.1
  have c3 := rC.1.2.2.2.1
  have c4 := rC.1.2.2.2.2
  refine gz_Gi.of rfl rfl (fun Q hQ => ?_)
  cases h1 : ap_v k 3 with
  | false =>
    rw [show fa_chain k c i t (C, K, m, tg, tk, no, nu, fO, fU) = (-1001, (C, K, m, tg, tk, no, nu, fO, fU)) by simp [fa_chain, h1]] at hQ
    refine zr_iload_n dX9_chain_0 rfl ?_
    refine zt_callSi (As := [_]) (cm_isChain L σ k) zc_X9_168 rfl dX9_chain_1 rfl rfl rfl ?_
    refine zr_top (congrArg sp_b h1) ?_
    refine zr_if_eq 15 dX9_chain_4 (by decide) (fun hp4 => ?_) (fun h => absurd rfl h)
    refine zr_sipush (v := (-1001)) dX9_chain_15 kc_sipush_m1001 ?_
    exact zr_iret dX9_chain_18 rfl (hQ _ _ ⟨rfl, hX0, fun _ _ => rfl⟩)
  | true =>
    cases h2 : ap_v c (C 9 2) with
    | false =>
      rw [show fa_chain k c i t (C, K, m, tg, tk, no, nu, fO, fU) = (-1001, (C, K, m, tg, tk, no, nu, fO, fU)) by simp [fa_chain, h2]] at hQ
      refine zr_iload_n dX9_chain_0 rfl ?_
      refine zt_callSi (As := [_]) (cm_isChain L σ k) zc_X9_168 rfl dX9_chain_1 rfl rfl rfl ?_
      refine zr_top (congrArg sp_b h1) ?_
      refine zr_if_eq 15 dX9_chain_4 (by decide) (fun h => absurd h (by decide)) (fun hp4 => ?_)
      refine zr_aload_n dX9_chain_7 rfl ?_
      refine zr_iload_n dX9_chain_8 rfl ?_
      refine zt_callVi (As := [_]) (cm_isCell L σ c _ (by omega) c2) zc_X9_128 rfl dX9_chain_9 rfl rfl rfl rfl rfl rfl ?_
      refine zr_top (congrArg sp_b h2) ?_
      refine zr_if_ne 19 dX9_chain_12 (by decide) (fun h => absurd rfl h) (fun hp12 => ?_)
      refine zr_sipush (v := (-1001)) dX9_chain_15 kc_sipush_m1001 ?_
      exact zr_iret dX9_chain_18 rfl (hQ _ _ ⟨rfl, hX0, fun _ _ => rfl⟩)
    | true =>
      obtain ⟨x, hx, rfl, ex⟩ := ap_v_t h1 (by omega)
      obtain ⟨y, hy, rfl, ey⟩ := ap_v_t h2 (by omega)
      have hlen := hK.lenk hx
      obtain ⟨rs, rr⟩ := rK.1 x hx
      have rch := rK.2.2 y (by omega)
      cases h3 : ap_v i ((K x).length + 1) with
      | false =>
        rw [show fa_chain (nI x) (nI y) i t (C, K, m, tg, tk, no, nu, fO, fU) = (-1002, (C, K, m, tg, tk, no, nu, fO, fU)) by simp [fa_chain, h1, h2, ex, h3]] at hQ
        refine zr_iload_n dX9_chain_0 rfl ?_
        refine zt_callSi (As := [_]) (cm_isChain L σ _) zc_X9_168 rfl dX9_chain_1 rfl rfl rfl ?_
        refine zr_top (congrArg sp_b h1) ?_
        refine zr_if_eq 15 dX9_chain_4 (by decide) (fun h => absurd h (by decide)) (fun hp4 => ?_)
        refine zr_aload_n dX9_chain_7 rfl ?_
        refine zr_iload_n dX9_chain_8 rfl ?_
        refine zt_callVi (As := [_]) (cm_isCell L σ _ _ (by omega) c2) zc_X9_128 rfl dX9_chain_9 rfl rfl rfl rfl rfl rfl ?_
        refine zr_top (congrArg sp_b h2) ?_
        refine zr_if_ne 19 dX9_chain_12 (by decide) (fun hp12 => ?_) (fun h => absurd h (by decide))
        refine zr_iload_n dX9_chain_19 rfl ?_
        refine zr_i2l dX9_chain_20 ?_
        refine zr_lconst (v := 0) dX9_chain_21 (by decide) ?_
        refine zr_aload_n dX9_chain_22 rfl ?_
        refine zt_getr zg_X9_44 dX9_chain_23 rfl rfl rfl ?_
        refine zr_iload_n dX9_chain_26 rfl ?_
        refine zt_ildN dX9_chain_27 rfl rfl (hx) (rs) ?_
        refine zr_i2l dX9_chain_28 ?_
        refine zt_callSi (As := [_, _, _]) (cm_in L σ _ _ _) zc_X9_102 rfl dX9_chain_29 rfl rfl rfl ?_
        refine zr_top ((congrArg sp_b (ap_in (nI_upto (by omega)))).trans (congrArg sp_b h3)) ?_
        refine zr_if_ne 39 dX9_chain_32 (by decide) (fun h => absurd rfl h) (fun hp32 => ?_)
        refine zr_sipush (v := (-1002)) dX9_chain_35 kc_sipush_m1002 ?_
        exact zr_iret dX9_chain_38 rfl (hQ _ _ ⟨rfl, hX0, fun _ _ => rfl⟩)
      | true =>
        obtain ⟨z, hz, rfl, ez⟩ := ap_v_t h3 (by omega)
        by_cases hm : y ∈ sp_all K
        · rw [show fa_chain (nI x) (nI y) (nI z) t (C, K, m, tg, tk, no, nu, fO, fU) = (-1003, (C, K, m, tg, tk, no, nu, fO, fU)) by simp [fa_chain, h1, h2, ex, ey, h3, hm]] at hQ
          obtain ⟨j, hj, hjm⟩ := sp_all_iff.mp hm
          refine zr_iload_n dX9_chain_0 rfl ?_
          refine zt_callSi (As := [_]) (cm_isChain L σ _) zc_X9_168 rfl dX9_chain_1 rfl rfl rfl ?_
          refine zr_top (congrArg sp_b h1) ?_
          refine zr_if_eq 15 dX9_chain_4 (by decide) (fun h => absurd h (by decide)) (fun hp4 => ?_)
          refine zr_aload_n dX9_chain_7 rfl ?_
          refine zr_iload_n dX9_chain_8 rfl ?_
          refine zt_callVi (As := [_]) (cm_isCell L σ _ _ (by omega) c2) zc_X9_128 rfl dX9_chain_9 rfl rfl rfl rfl rfl rfl ?_
          refine zr_top (congrArg sp_b h2) ?_
          refine zr_if_ne 19 dX9_chain_12 (by decide) (fun hp12 => ?_) (fun h => absurd h (by decide))
          refine zr_iload_n dX9_chain_19 rfl ?_
          refine zr_i2l dX9_chain_20 ?_
          refine zr_lconst (v := 0) dX9_chain_21 (by decide) ?_
          refine zr_aload_n dX9_chain_22 rfl ?_
          refine zt_getr zg_X9_44 dX9_chain_23 rfl rfl rfl ?_
          refine zr_iload_n dX9_chain_26 rfl ?_
          refine zt_ildN dX9_chain_27 rfl rfl (hx) (rs) ?_
          refine zr_i2l dX9_chain_28 ?_
          refine zt_callSi (As := [_, _, _]) (cm_in L σ _ _ _) zc_X9_102 rfl dX9_chain_29 rfl rfl rfl ?_
          refine zr_top ((congrArg sp_b (ap_in (nI_upto (by omega)))).trans (congrArg sp_b h3)) ?_
          refine zr_if_ne 39 dX9_chain_32 (by decide) (fun hp32 => ?_) (fun h => absurd h (by decide))
          refine zr_aload_n dX9_chain_39 rfl ?_
          refine zt_getr zg_X9_31 dX9_chain_40 rfl rfl rfl ?_
          refine zr_iload_n dX9_chain_43 rfl ?_
          refine zt_ildN dX9_chain_44 rfl rfl (by omega) (rch.2 j hj hjm) ?_
          refine zr_iconst (v := (-1)) dX9_chain_45 kc_iconst_m1 ?_
          refine zr_icmp_eq 53 dX9_chain_46 (by decide) (fun h => absurd h (by rcases (show j = 0 ∨ j = 1 ∨ j = 2 by omega) with rfl | rfl | rfl <;> decide)) (fun hp46 => ?_)
          refine zr_sipush (v := (-1003)) dX9_chain_49 kc_sipush_m1003 ?_
          exact zr_iret dX9_chain_52 rfl (hQ _ _ ⟨rfl, hX0, fun _ _ => rfl⟩)
        · rw [show fa_chain (nI x) (nI y) (nI z) t (C, K, m, tg, tk, no, nu, fO, fU) = (nI ((K x).length + 1), (sp_w C 12 y t, sp_ck K x ((K x).insertIdx z y), m, tg, tk, no, nu, fO, fU)) by simp [fa_chain, h1, h2, ex, ey, ez, h3, hm]] at hQ
          have hroom := hK.room hx hy hm
          refine zr_iload_n dX9_chain_0 rfl ?_
          refine zt_callSi (As := [_]) (cm_isChain L σ _) zc_X9_168 rfl dX9_chain_1 rfl rfl rfl ?_
          refine zr_top (congrArg sp_b h1) ?_
          refine zr_if_eq 15 dX9_chain_4 (by decide) (fun h => absurd h (by decide)) (fun hp4 => ?_)
          refine zr_aload_n dX9_chain_7 rfl ?_
          refine zr_iload_n dX9_chain_8 rfl ?_
          refine zt_callVi (As := [_]) (cm_isCell L σ _ _ (by omega) c2) zc_X9_128 rfl dX9_chain_9 rfl rfl rfl rfl rfl rfl ?_
          refine zr_top (congrArg sp_b h2) ?_
          refine zr_if_ne 19 dX9_chain_12 (by decide) (fun hp12 => ?_) (fun h => absurd h (by decide))
          refine zr_iload_n dX9_chain_19 rfl ?_
          refine zr_i2l dX9_chain_20 ?_
          refine zr_lconst (v := 0) dX9_chain_21 (by decide) ?_
          refine zr_aload_n dX9_chain_22 rfl ?_
          refine zt_getr zg_X9_44 dX9_chain_23 rfl rfl rfl ?_
          refine zr_iload_n dX9_chain_26 rfl ?_
          refine zt_ildN dX9_chain_27 rfl rfl (hx) (rs) ?_
          refine zr_i2l dX9_chain_28 ?_
          refine zt_callSi (As := [_, _, _]) (cm_in L σ _ _ _) zc_X9_102 rfl dX9_chain_29 rfl rfl rfl ?_
          refine zr_top ((congrArg sp_b (ap_in (nI_upto (by omega)))).trans (congrArg sp_b h3)) ?_
          refine zr_if_ne 39 dX9_chain_32 (by decide) (fun hp32 => ?_) (fun h => absurd h (by decide))
          refine zr_aload_n dX9_chain_39 rfl ?_
          refine zt_getr zg_X9_31 dX9_chain_40 rfl rfl rfl ?_
          refine zr_iload_n dX9_chain_43 rfl ?_
          refine zt_ildN dX9_chain_44 rfl rfl (by omega) (rch.1 hm) ?_
          refine zr_iconst (v := (-1)) dX9_chain_45 kc_iconst_m1 ?_
          refine zr_icmp_eq 53 dX9_chain_46 (by decide) (fun hp46 => ?_) (fun h => absurd rfl h)
          refine zr_aload_n dX9_chain_53 rfl ?_
          refine zt_getr zg_X9_44 dX9_chain_54 rfl rfl rfl ?_
          refine zr_iload_n dX9_chain_57 rfl ?_
          refine zt_ildN dX9_chain_58 rfl rfl (hx) (rs) ?_
          refine zr_istore dX9_chain_59 (by decide) rfl ?_
          generalize hle : (K x).length = n at *
          refine zl_dn (τ := gz_Mm) z (fun i q => (∀ k, k ≠ 68 → q k = σ k) ∧ (∀ j, j < 20 * x ∨ 20 * x + 20 ≤ j ∨ (20 * x ≤ j ∧ j ≤ 20 * x + i) → q 68 j = σ 68 j) ∧ ∀ j, i < j → j ≤ n → q 68 (20 * x + j) = σ 68 (20 * x + (j - 1))) (fun i q => i ≤ n → gz_R 2 yX9_chain cX9_chain 6 (some .int) 0 0 61 [some (.ref 57), some (.int (nI x)), some (.int (nI y)), some (.int (nI z)), some (.int (nI t)), some (.int (nI i))] [] (gz_mk L q) Q) ?_ ?_ n σ (by omega) ⟨fun _ _ => rfl, fun _ _ => rfl, fun j h1 h2 => absurd h1 (by omega)⟩ (Nat.le_refl _)
          · rintro σ1 ⟨hf, g1, g2⟩ _
            refine zr_iload dX9_chain_61 rfl ?_
            refine zr_iload_n dX9_chain_63 rfl ?_
            refine zr_icmp_le 99 dX9_chain_64 (by decide) (fun hp64 => ?_) (fun h => absurd (Int32.le_refl _) h)
            refine zr_aload_n dX9_chain_99 rfl ?_
            refine zt_getr zg_X9_41 dX9_chain_100 rfl rfl rfl ?_
            refine zr_bipush (v := 20) dX9_chain_103 kc_bipush_20 ?_
            refine zr_iload_n dX9_chain_105 rfl ?_
            refine zr_imul dX9_chain_106 ?_
            refine zr_top (lk_20 x) ?_
            refine zr_iload_n dX9_chain_107 rfl ?_
            refine zr_iadd dX9_chain_108 ?_
            refine zr_top (nI_add _ _) ?_
            refine zr_iload_n dX9_chain_109 rfl ?_
            refine zt_istN dX9_chain_110 rfl rfl rfl (by omega) ?_
            refine zr_aload_n dX9_chain_111 rfl ?_
            refine zt_getr zg_X9_44 dX9_chain_112 rfl rfl rfl ?_
            refine zr_iload_n dX9_chain_115 rfl ?_
            refine zr_dup2 dX9_chain_116 rfl rfl ?_
            refine zt_ildN dX9_chain_117 rfl rfl (hx) ((by simp [gz_wr]; rw [hf 69 (by decide)]; exact rs : _ = nI n)) ?_
            refine zr_iconst (v := 1) dX9_chain_118 kc_iconst_1 ?_
            refine zr_iadd dX9_chain_119 ?_
            refine zr_top (nI_1 _) ?_
            refine zt_istN dX9_chain_120 rfl rfl rfl (hx) ?_
            refine zr_aload_n dX9_chain_121 rfl ?_
            refine zt_getr zg_X9_31 dX9_chain_122 rfl rfl rfl ?_
            refine zr_iload_n dX9_chain_125 rfl ?_
            refine zr_iload_n dX9_chain_126 rfl ?_
            refine zt_istN dX9_chain_127 rfl rfl rfl (by omega) ?_
            refine zr_aload_n dX9_chain_128 rfl ?_
            refine zt_getr zg_X9_34 dX9_chain_129 rfl rfl rfl ?_
            refine zr_iload_n dX9_chain_132 rfl ?_
            refine zr_iload dX9_chain_133 rfl ?_
            refine zt_zstN dX9_chain_135 rfl rfl rfl (by omega) ((by rcases (show t = 0 ∨ t = 1 by omega) with e | e <;> rw [e] <;> rfl)) ?_
            refine zr_aload_n dX9_chain_136 rfl ?_
            refine zt_getr zg_X9_44 dX9_chain_137 rfl rfl rfl ?_
            refine zr_iload_n dX9_chain_140 rfl ?_
            refine zt_ildN dX9_chain_141 rfl rfl (hx) ((by simp [gz_wr, upd] : _ = nI (n + 1))) ?_
            have w : ∀ k, k ≠ 65 → k ≠ 66 → k ≠ 68 → k ≠ 69 → gz_wr (gz_wr (gz_wr (gz_wr σ1 68 (20 * x + z) (nI y)) 69 x (nI (n + 1))) 65 y (nI x)) 66 y (nI t) k = σ k := fun k a b c d => by rw [gz_wr_ne b, gz_wr_ne a, gz_wr_ne d, gz_wr_ne c, hf k c]
            refine zr_iret dX9_chain_142 rfl (hQ _ _ ⟨rfl, hX0.chn ?_ w (fun a i ha => sp_w_ne (by omega)), fun k hk => w k (by omega) (by omega) (by omega) (by omega)⟩)
            refine rK.ins hK h20 hx hm (by omega) (fun q hq => ?_) ?_ ?_ ?_ (fun i hi => ?_)
            · rw [gz_wr_ne (by decide), gz_wr_ne (by decide), gz_wr_ne (by decide), gz_wr_eq, pk_un (by omega)]
              exact g1 q (by omega)
            · rw [gz_wr_ne (by decide), gz_wr_ne (by decide), gz_wr_eq, gz_wr_ne (by decide), hf 69 (by decide), hle]
            · rw [gz_wr_ne (by decide), gz_wr_eq, gz_wr_ne (by decide), gz_wr_ne (by decide), hf 65 (by decide)]
            · rw [gz_wr_eq, gz_wr_ne (by decide), gz_wr_ne (by decide), gz_wr_ne (by decide), hf 66 (by decide)]
            · rw [hle] at hi
              rw [gz_wr_ne (by decide), gz_wr_ne (by decide), gz_wr_ne (by decide), gz_wr_eq, gd_ins (by omega)]
              by_cases e1 : i < z
              · rw [if_pos e1, pk_un (by omega), g1 _ (by omega)]
                exact rr i (by omega)
              · rw [if_neg e1]
                by_cases e2 : i = z
                · rw [if_pos e2, e2]
                  simp [upd]
                · rw [if_neg e2, pk_un (by omega), g2 i (by omega) (by omega)]
                  exact rr (i - 1) (by omega)
          · rintro i σ1 hi ⟨hf, g1, g2⟩ ih hil
            have ep : nI (20 * x + (i + 1)) - 1 = nI (20 * x + i) := nI_pred (20 * x + i)
            refine zr_iload dX9_chain_61 rfl ?_
            refine zr_iload_n dX9_chain_63 rfl ?_
            refine zr_icmp_le 99 dX9_chain_64 (by decide) (fun h => absurd ((nI_leI (by omega) (by omega)).mp h) (by omega)) (fun hp64 => ?_)
            refine zr_aload_n dX9_chain_67 rfl ?_
            refine zt_getr zg_X9_41 dX9_chain_68 rfl rfl rfl ?_
            refine zr_bipush (v := 20) dX9_chain_71 kc_bipush_20 ?_
            refine zr_iload_n dX9_chain_73 rfl ?_
            refine zr_imul dX9_chain_74 ?_
            refine zr_top (lk_20 x) ?_
            refine zr_iload dX9_chain_75 rfl ?_
            refine zr_iadd dX9_chain_77 ?_
            refine zr_top (nI_add _ _) ?_
            refine zr_aload_n dX9_chain_78 rfl ?_
            refine zt_getr zg_X9_41 dX9_chain_79 rfl rfl rfl ?_
            refine zr_bipush (v := 20) dX9_chain_82 kc_bipush_20 ?_
            refine zr_iload_n dX9_chain_84 rfl ?_
            refine zr_imul dX9_chain_85 ?_
            refine zr_top (lk_20 x) ?_
            refine zr_iload dX9_chain_86 rfl ?_
            refine zr_iadd dX9_chain_88 ?_
            refine zr_top (nI_add _ _) ?_
            refine zr_iconst (v := 1) dX9_chain_89 kc_iconst_1 ?_
            refine zr_isub dX9_chain_90 ?_
            refine zr_top (ep) ?_
            refine zt_ildN dX9_chain_91 rfl rfl (by omega) ((g1 (20 * x + i) (by omega))) ?_
            refine zt_istN dX9_chain_92 rfl rfl rfl (by omega) ?_
            refine zr_iinc (v := nI i) dX9_chain_93 rfl (kc_dec i) rfl ?_
            refine zr_goto 61 dX9_chain_96 (by decide) ?_
            refine ih _ ⟨fun k hk => (gz_wr_ne hk).trans (hf k hk), fun j hj => ?_, fun j hj1 hj2 => ?_⟩ (by omega)
            · rw [gz_wr_eq, pk_un (by omega)]
              exact g1 j (by omega)
            · rw [gz_wr_eq]
              by_cases e : j = i + 1
              · rw [e]
                simp only [upd, if_true]
                rfl
              · rw [pk_un (by omega)]
                exact g2 j (by omega) hj2
theorem ax_unchain (L : Nat) (σ : gz_Mm) (S : ap_S) (hw : ap_wf S) (hX : am_X σ S) (c : Int32) : gz_Gi 2 yX9_unchain cX9_unchain 5 (some .int) L [.ref 57, .int c] σ (am_P σ (fa_unchain c S)) := by
  obtain ⟨C, K, m, tg, tk, no, nu, fO, fU⟩ := S
  obtain ⟨hC, hK, hm, htg, hno, hnu, hz0, hz2⟩ := hw
  have hX0 := hX
  obtain ⟨⟨rC, rK, rM⟩, ⟨r5, r7⟩, s1, s2, s3, s4⟩ := hX
  obtain ⟨h80, h8, h20, ho8, ht20⟩ := hC.1
  have c0 := rC.1.1
  have c1 := rC.1.2.1
  have c2 := rC.1.2.2.1
  have c3 := rC.1.2.2.2.1
  have c4 := rC.1.2.2.2.2
  refine gz_Gi.of rfl rfl (fun Q hQ => ?_)
  cases h2 : ap_v c (C 9 2) with
  | false =>
    rw [show fa_unchain c (C, K, m, tg, tk, no, nu, fO, fU) = (-1001, (C, K, m, tg, tk, no, nu, fO, fU)) by simp [fa_unchain, h2]] at hQ
    refine zr_aload_n dX9_unchain_0 rfl ?_
    refine zr_iload_n dX9_unchain_1 rfl ?_
    refine zt_callVi (As := [_]) (cm_isCell L σ c _ (by omega) c2) zc_X9_128 rfl dX9_unchain_2 rfl rfl rfl rfl rfl rfl ?_
    refine zr_top (congrArg sp_b h2) ?_
    refine zr_if_ne 12 dX9_unchain_5 (by decide) (fun h => absurd rfl h) (fun hp5 => ?_)
    refine zr_sipush (v := (-1001)) dX9_unchain_8 kc_sipush_m1001 ?_
    exact zr_iret dX9_unchain_11 rfl (hQ _ _ ⟨rfl, hX0, fun _ _ => rfl⟩)
  | true =>
    obtain ⟨y, hy, rfl, ey⟩ := ap_v_t h2 (by omega)
    have rch := rK.2.2 y (by omega)
    by_cases hm : y ∈ sp_all K
    · rw [show fa_unchain (nI y) (C, K, m, tg, tk, no, nu, fO, fU) = (1, (C, fun k => (K k).filter (fun j => decide (j ≠ y)), m, tg, tk, no, nu, fO, fU)) by simp [fa_unchain, h2, ey, hm]] at hQ
      obtain ⟨x, hx, hxm⟩ := sp_all_iff.mp hm
      have hlen := hK.lenk hx
      obtain ⟨rs, rr⟩ := rK.1 x hx
      have hnod := hK.nodk hx
      have ml : ∀ c, c ∈ K x → c < 20 := fun c hc => by have := hK.2 c (sp_all_mem hx hc); omega
      obtain ⟨p, hp, ep⟩ := mem_gd hxm
      obtain ⟨fl1, fl2⟩ := fl_at (K x) p y hnod hp ep
      have hjn : ∀ j, j < p → (K x).getD j 0 ≠ y := fun j hj e => ls_notin hnod hp (by
        rw [ep, ← e]
        have : (K x).getD j 0 = ((K x).take p).getD j 0 := by simp [List.getD_eq_getElem?_getD, List.getElem?_take, hj]
        rw [this]
        exact ls_mem (by rw [List.length_take]; omega))
      generalize hfl : ((K x).filter (fun j => decide (j ≠ y))).length = n at *
      refine zr_aload_n dX9_unchain_0 rfl ?_
      refine zr_iload_n dX9_unchain_1 rfl ?_
      refine zt_callVi (As := [_]) (cm_isCell L σ _ _ (by omega) c2) zc_X9_128 rfl dX9_unchain_2 rfl rfl rfl rfl rfl rfl ?_
      refine zr_top (congrArg sp_b h2) ?_
      refine zr_if_ne 12 dX9_unchain_5 (by decide) (fun hp5 => ?_) (fun h => absurd h (by decide))
      refine zr_aload_n dX9_unchain_12 rfl ?_
      refine zt_getr zg_X9_31 dX9_unchain_13 rfl rfl rfl ?_
      refine zr_iload_n dX9_unchain_16 rfl ?_
      refine zt_ildN dX9_unchain_17 rfl rfl (by omega) (rch.2 x hx hxm) ?_
      refine zr_istore_n dX9_unchain_18 (by decide) rfl ?_
      refine zr_iload_n dX9_unchain_19 rfl ?_
      refine zr_iconst (v := (-1)) dX9_unchain_20 kc_iconst_m1 ?_
      refine zr_icmp_ne 26 dX9_unchain_21 (by decide) (fun hp21 => ?_) (fun h => absurd h (by rcases (show x = 0 ∨ x = 1 ∨ x = 2 by omega) with rfl | rfl | rfl <;> decide))
      refine zr_iconst (v := 0) dX9_unchain_26 kc_iconst_0 ?_
      refine zr_istore_n dX9_unchain_27 (by decide) rfl ?_
      refine zl_up (τ := Unit) p (fun i q => True) (fun i q => gz_R 2 yX9_unchain cX9_unchain 5 (some .int) 0 0 28 [some (.ref 57), some (.int (nI y)), some (.int (nI x)), some (.int (nI i)), none] [] (gz_mk L σ) Q) ?_ ?_ 0 () (Nat.zero_le _) trivial
      rotate_left
      · rintro i - hi - ih
        have := ml _ (ls_mem (l := K x) (i := i) (by omega))
        refine zr_aload_n dX9_unchain_28 rfl ?_
        refine zt_getr zg_X9_41 dX9_unchain_29 rfl rfl rfl ?_
        refine zr_bipush (v := 20) dX9_unchain_32 kc_bipush_20 ?_
        refine zr_iload_n dX9_unchain_34 rfl ?_
        refine zr_imul dX9_unchain_35 ?_
        refine zr_top (lk_20 x) ?_
        refine zr_iload_n dX9_unchain_36 rfl ?_
        refine zr_iadd dX9_unchain_37 ?_
        refine zr_top (nI_add _ _) ?_
        refine zt_ildN dX9_unchain_38 rfl rfl (by omega) (rr i (by omega)) ?_
        refine zr_iload_n dX9_unchain_39 rfl ?_
        refine zr_icmp_eq 49 dX9_unchain_40 (by decide) (fun h => absurd ((nI_eq (by omega) (by omega)).mp h) (hjn i hi)) (fun hp40 => ?_)
        refine zr_iinc dX9_unchain_43 rfl (kc_inc (i)) rfl ?_
        refine zr_goto 28 dX9_unchain_46 (by decide) ?_
        exact ih () trivial
      rintro - -
      have ed : nI (K x).length - 1 = nI n := by rw [← fl1]; exact nI_pred n
      refine zr_aload_n dX9_unchain_28 rfl ?_
      refine zt_getr zg_X9_41 dX9_unchain_29 rfl rfl rfl ?_
      refine zr_bipush (v := 20) dX9_unchain_32 kc_bipush_20 ?_
      refine zr_iload_n dX9_unchain_34 rfl ?_
      refine zr_imul dX9_unchain_35 ?_
      refine zr_top (lk_20 x) ?_
      refine zr_iload_n dX9_unchain_36 rfl ?_
      refine zr_iadd dX9_unchain_37 ?_
      refine zr_top (nI_add _ _) ?_
      refine zt_ildN dX9_unchain_38 rfl rfl (by omega) (rr p hp) ?_
      refine zr_iload_n dX9_unchain_39 rfl ?_
      refine zr_icmp_eq 49 dX9_unchain_40 (by decide) (fun hp40 => ?_) (fun h => absurd (by rw [ep]) h)
      refine zr_aload_n dX9_unchain_49 rfl ?_
      refine zt_getr zg_X9_44 dX9_unchain_50 rfl rfl rfl ?_
      refine zr_iload_n dX9_unchain_53 rfl ?_
      refine zr_dup2 dX9_unchain_54 rfl rfl ?_
      refine zt_ildN dX9_unchain_55 rfl rfl (hx) (rs) ?_
      refine zr_iconst (v := 1) dX9_unchain_56 kc_iconst_1 ?_
      refine zr_isub dX9_unchain_57 ?_
      refine zr_top (ed) ?_
      refine zt_istN dX9_unchain_58 rfl rfl rfl (hx) ?_
      refine zr_iload_n dX9_unchain_59 rfl ?_
      refine zr_istore dX9_unchain_60 (by decide) rfl ?_
      refine zl_up (τ := gz_Mm) n (fun i q => p ≤ i ∧ (∀ k, k ≠ 68 → k ≠ 69 → q k = σ k) ∧ q 69 = upd (σ 69) x (nI n) ∧ (∀ j, j < 20 * x ∨ 20 * x + 20 ≤ j → q 68 j = σ 68 j) ∧ (∀ j, j < i → q 68 (20 * x + j) = nI (((K x).filter (fun j => decide (j ≠ y))).getD j 0)) ∧ ∀ j, i ≤ j → q 68 (20 * x + j) = σ 68 (20 * x + j)) (fun i q => gz_R 2 yX9_unchain cX9_unchain 5 (some .int) 0 0 62 [some (.ref 57), some (.int (nI y)), some (.int (nI x)), some (.int (nI p)), some (.int (nI i))] [] (gz_mk L q) Q) ?_ ?_ p (gz_wr σ 69 x (nI n)) (by omega) ⟨Nat.le_refl _, fun k _ b => gz_wr_ne b, gz_wr_eq, fun j _ => rfl, fun j hj => ?_, fun j _ => rfl⟩
      · rintro σ1 ⟨-, hf, g1, g2, g3, g4⟩
        refine zr_iload dX9_unchain_62 rfl ?_
        refine zr_aload_n dX9_unchain_64 rfl ?_
        refine zt_getr zg_X9_44 dX9_unchain_65 rfl rfl rfl ?_
        refine zr_iload_n dX9_unchain_68 rfl ?_
        refine zt_ildN dX9_unchain_69 rfl rfl (hx) ((by rw [g1]; simp [upd] : _ = nI n)) ?_
        refine zr_icmp_ge 105 dX9_unchain_70 (by decide) (fun hp70 => ?_) (fun h => absurd (Int32.le_refl _) h)
        refine zr_aload_n dX9_unchain_105 rfl ?_
        refine zt_getr zg_X9_31 dX9_unchain_106 rfl rfl rfl ?_
        refine zr_iload_n dX9_unchain_109 rfl ?_
        refine zr_iconst (v := (-1)) dX9_unchain_110 kc_iconst_m1 ?_
        refine zt_istN dX9_unchain_111 rfl rfl rfl (by omega) ?_
        refine zr_aload_n dX9_unchain_112 rfl ?_
        refine zt_getr zg_X9_34 dX9_unchain_113 rfl rfl rfl ?_
        refine zr_iload_n dX9_unchain_116 rfl ?_
        refine zr_iconst (v := 0) dX9_unchain_117 kc_iconst_0 ?_
        refine zt_zstN dX9_unchain_118 rfl rfl rfl (by omega) (rfl) ?_
        refine zr_iconst (v := 1) dX9_unchain_119 kc_iconst_1 ?_
        have w : ∀ k, k ≠ 65 → k ≠ 66 → k ≠ 68 → k ≠ 69 → gz_wr (gz_wr σ1 65 y (-1)) 66 y 0 k = σ k := fun k a b c d => by rw [gz_wr_ne b, gz_wr_ne a, hf k c d]
        refine zr_iret dX9_unchain_120 rfl (hQ _ _ ⟨rfl, hX0.chn ?_ w (fun _ _ _ => rfl), fun k hk => w k (by omega) (by omega) (by omega) (by omega)⟩)
        refine rK.del hK h20 hx hxm (fun q hq => ?_) ?_ ?_ ?_ (fun i hi => ?_)
        · rw [gz_wr_ne (by decide), gz_wr_ne (by decide)]
          exact g2 q hq
        · rw [gz_wr_ne (by decide), gz_wr_ne (by decide), g1, hfl]
        · rw [gz_wr_ne (by decide), gz_wr_eq, hf 65 (by decide) (by decide)]
        · rw [gz_wr_eq, gz_wr_ne (by decide), hf 66 (by decide) (by decide)]
        · rw [hfl] at hi
          rw [gz_wr_ne (by decide), gz_wr_ne (by decide)]
          exact g3 i hi
      · rintro i σ1 hi ⟨hpi', hf, g1, g2, g3, g4⟩ ih
        have hpi : ¬ i < p := by omega
        have e1 : σ1 68 (20 * x + (i + 1)) = nI ((K x).getD (i + 1) 0) := (g4 (i + 1) (by omega)).trans (rr (i + 1) (by omega))
        refine zr_iload dX9_unchain_62 rfl ?_
        refine zr_aload_n dX9_unchain_64 rfl ?_
        refine zt_getr zg_X9_44 dX9_unchain_65 rfl rfl rfl ?_
        refine zr_iload_n dX9_unchain_68 rfl ?_
        refine zt_ildN dX9_unchain_69 rfl rfl (hx) ((by rw [g1]; simp [upd] : _ = nI n)) ?_
        refine zr_icmp_ge 105 dX9_unchain_70 (by decide) (fun h => absurd h (nI_ge hi (by omega))) (fun hp70 => ?_)
        refine zr_aload_n dX9_unchain_73 rfl ?_
        refine zt_getr zg_X9_41 dX9_unchain_74 rfl rfl rfl ?_
        refine zr_bipush (v := 20) dX9_unchain_77 kc_bipush_20 ?_
        refine zr_iload_n dX9_unchain_79 rfl ?_
        refine zr_imul dX9_unchain_80 ?_
        refine zr_top (lk_20 x) ?_
        refine zr_iload dX9_unchain_81 rfl ?_
        refine zr_iadd dX9_unchain_83 ?_
        refine zr_top (nI_add _ _) ?_
        refine zr_aload_n dX9_unchain_84 rfl ?_
        refine zt_getr zg_X9_41 dX9_unchain_85 rfl rfl rfl ?_
        refine zr_bipush (v := 20) dX9_unchain_88 kc_bipush_20 ?_
        refine zr_iload_n dX9_unchain_90 rfl ?_
        refine zr_imul dX9_unchain_91 ?_
        refine zr_top (lk_20 x) ?_
        refine zr_iload dX9_unchain_92 rfl ?_
        refine zr_iadd dX9_unchain_94 ?_
        refine zr_top (nI_add _ _) ?_
        refine zr_iconst (v := 1) dX9_unchain_95 kc_iconst_1 ?_
        refine zr_iadd dX9_unchain_96 ?_
        refine zr_top ((nI_1 _).trans (congrArg nI (show 20 * x + i + 1 = 20 * x + (i + 1) by omega))) ?_
        refine zt_ildN dX9_unchain_97 rfl rfl (by omega) (e1) ?_
        refine zt_istN dX9_unchain_98 rfl rfl rfl (by omega) ?_
        refine zr_iinc dX9_unchain_99 rfl (kc_inc (i)) rfl ?_
        refine zr_goto 62 dX9_unchain_102 (by decide) ?_
        refine ih _ ⟨by omega, fun k a b => (gz_wr_ne a).trans (hf k a b), (gz_wr_ne (by decide)).trans g1, fun j hj => ?_, fun j hj => ?_, fun j hj => ?_⟩
        · rw [gz_wr_eq, pk_un (by omega)]
          exact g2 j hj
        · rw [gz_wr_eq]
          by_cases e : j = i
          · rw [e, fl2 i, if_neg hpi]
            simp [upd]
          · rw [pk_un (by omega)]
            exact g3 j (by omega)
        · rw [gz_wr_eq, pk_un (by omega)]
          exact g4 j (by omega)
      · rw [fl2 j, if_pos hj]
        exact rr j (by omega)
    · rw [show fa_unchain (nI y) (C, K, m, tg, tk, no, nu, fO, fU) = (0, (C, K, m, tg, tk, no, nu, fO, fU)) by simp [fa_unchain, h2, ey, hm]] at hQ
      refine zr_aload_n dX9_unchain_0 rfl ?_
      refine zr_iload_n dX9_unchain_1 rfl ?_
      refine zt_callVi (As := [_]) (cm_isCell L σ _ _ (by omega) c2) zc_X9_128 rfl dX9_unchain_2 rfl rfl rfl rfl rfl rfl ?_
      refine zr_top (congrArg sp_b h2) ?_
      refine zr_if_ne 12 dX9_unchain_5 (by decide) (fun hp5 => ?_) (fun h => absurd h (by decide))
      refine zr_aload_n dX9_unchain_12 rfl ?_
      refine zt_getr zg_X9_31 dX9_unchain_13 rfl rfl rfl ?_
      refine zr_iload_n dX9_unchain_16 rfl ?_
      refine zt_ildN dX9_unchain_17 rfl rfl (by omega) (rch.1 hm) ?_
      refine zr_istore_n dX9_unchain_18 (by decide) rfl ?_
      refine zr_iload_n dX9_unchain_19 rfl ?_
      refine zr_iconst (v := (-1)) dX9_unchain_20 kc_iconst_m1 ?_
      refine zr_icmp_ne 26 dX9_unchain_21 (by decide) (fun h => absurd rfl h) (fun hp21 => ?_)
      refine zr_iconst (v := 0) dX9_unchain_24 kc_iconst_0 ?_
      exact zr_iret dX9_unchain_25 rfl (hQ _ _ ⟨rfl, hX0, fun _ _ => rfl⟩)
theorem ax_stitch (L : Nat) (σ : gz_Mm) (S : ap_S) (hw : ap_wf S) (hX : am_X σ S) : gz_Gi 0 yX9_stitch cX9_stitch 4 (some .int) L [.ref 57] σ (am_P σ (fa_stitch S)) := by
  obtain ⟨C, K, m, tg, tk, no, nu, fO, fU⟩ := S
  obtain ⟨hC, hK, hm, htg, hno, hnu, hz0, hz2⟩ := hw
  have hX0 := hX
  obtain ⟨⟨rC, rK, rM⟩, ⟨r5, r7⟩, s1, s2, s3, s4⟩ := hX
  obtain ⟨h80, h8, h20, ho8, ht20⟩ := hC.1
  have c0 := rC.1.1
  have c1 := rC.1.2.1
  have c2 := rC.1.2.2.1
  have c3 := rC.1.2.2.2.1
  have c4 := rC.1.2.2.2.2
  have e : fa_stitch (C, K, m, tg, tk, no, nu, fO, fU) = (nI (sp_st C K (C 9 2)).1, ((sp_st C K (C 9 2)).2.1, (sp_st C K (C 9 2)).2.2, m, tg, tk, no, nu, fO, fU)) := rfl
  refine gz_Gi.of rfl rfl (fun Q hQ => ?_)
  rw [e] at hQ
  refine zr_iconst (v := 0) dX9_stitch_0 kc_iconst_0 ?_
  refine zr_istore_n dX9_stitch_1 (by decide) rfl ?_
  refine zr_iconst (v := 0) dX9_stitch_2 kc_iconst_0 ?_
  refine zr_istore_n dX9_stitch_3 (by decide) rfl ?_
  refine zl_up (τ := gz_Mm × Option Value) (C 9 2) (fun i t => (∀ k, k ≠ 65 → k ≠ 66 → k ≠ 68 → k ≠ 69 → t.1 k = σ k) ∧ rm_K t.1 (sp_st C K i).2.1 (sp_st C K i).2.2) (fun i t => gz_R 0 yX9_stitch cX9_stitch 4 (some .int) 0 0 4 [some (.ref 57), some (.int (nI (sp_st C K i).1)), some (.int (nI i)), t.2] [] (gz_mk L t.1) Q) ?_ ?_ 0 (σ, none) (Nat.zero_le _) ⟨fun _ _ _ _ _ => rfl, rK⟩
  · rintro ⟨σ1, o⟩ ⟨f1, rK1⟩
    obtain ⟨-, -, a3, -⟩ := sp_st_ok hC hK (C 9 2) (Nat.le_refl _)
    refine zr_iload_n dX9_stitch_4 rfl ?_
    refine zr_aload_n dX9_stitch_5 rfl ?_
    refine zt_geti zg_X9_106 dX9_stitch_6 rfl rfl rfl ?_
    refine zr_top ((congrFun (f1 57 (by decide) (by decide) (by decide) (by decide)) 11).trans c2) ?_
    refine zr_icmp_ge 79 dX9_stitch_9 (by decide) (fun hp9 => ?_) (fun h => absurd (Int32.le_refl _) h)
    refine zr_iload_n dX9_stitch_79 rfl ?_
    exact zr_iret dX9_stitch_80 rfl (hQ _ _ ⟨rfl, hX0.chn rK1 f1 a3, fun k hk => f1 k (by omega) (by omega) (by omega) (by omega)⟩)
  · rintro i ⟨σ1, o⟩ hi ⟨f1, rK1⟩ ih
    obtain ⟨b1, b2, b3, b4⟩ := sp_st_ok hC hK i (by omega)
    have est : sp_st C K (i + 1) = if i ∈ sp_all (sp_st C K i).2.2 then sp_st C K i else ((sp_st C K i).1 + 1, sp_w (sp_st C K i).2.1 12 i 0, sp_ck (sp_st C K i).2.2 (C 6 i) ((sp_st C K i).2.2 (C 6 i) ++ [i])) := rfl
    generalize sp_st C K i = q at *
    obtain ⟨x, C1, K1⟩ := q
    dsimp only at b1 b2 b3 b4 est rK1 ⊢
    have e92 := b3 9 2 (by decide)
    have rch := rK1.2.2 i (by omega)
    have hd := (hC.2.2.1 i hi).2.1
    have r11 : σ1 57 11 = nI (C 9 2) := (congrFun (f1 57 (by decide) (by decide) (by decide) (by decide)) 11).trans c2
    by_cases hm : i ∈ sp_all K1
    · rw [if_pos hm] at est
      obtain ⟨j, hj, hjm⟩ := sp_all_iff.mp hm
      refine zr_iload_n dX9_stitch_4 rfl ?_
      refine zr_aload_n dX9_stitch_5 rfl ?_
      refine zt_geti zg_X9_106 dX9_stitch_6 rfl rfl rfl ?_
      refine zr_top (r11) ?_
      refine zr_icmp_ge 79 dX9_stitch_9 (by decide) (fun h => absurd h (nI_ge hi (by omega))) (fun hp9 => ?_)
      refine zr_aload_n dX9_stitch_12 rfl ?_
      refine zt_getr zg_X9_31 dX9_stitch_13 rfl rfl rfl ?_
      refine zr_iload_n dX9_stitch_16 rfl ?_
      refine zt_ildN dX9_stitch_17 rfl rfl (by omega) (rch.2 j hj hjm) ?_
      refine zr_iconst (v := (-1)) dX9_stitch_18 kc_iconst_m1 ?_
      refine zr_icmp_ne 73 dX9_stitch_19 (by decide) (fun hp19 => ?_) (fun h => absurd h (by rcases (show j = 0 ∨ j = 1 ∨ j = 2 by omega) with rfl | rfl | rfl <;> decide))
      refine zr_iinc dX9_stitch_73 rfl (kc_inc (i)) rfl ?_
      refine zr_goto 4 dX9_stitch_76 (by decide) ?_
      have := ih (σ1, o)
      rw [est] at this
      exact this ⟨f1, rK1⟩
    · rw [if_neg hm] at est
      have hlen := b2.room (k := C 6 i) (by omega) (by omega) hm
      obtain ⟨rs, rr⟩ := rK1.1 (C 6 i) (by omega)
      generalize hk : C 6 i = k at *
      generalize hln : (K1 k).length = n at *
      have ek : (if k = k then K1 k ++ [i] else K1 k) = K1 k ++ [i] := if_pos rfl
      refine zr_iload_n dX9_stitch_4 rfl ?_
      refine zr_aload_n dX9_stitch_5 rfl ?_
      refine zt_geti zg_X9_106 dX9_stitch_6 rfl rfl rfl ?_
      refine zr_top (r11) ?_
      refine zr_icmp_ge 79 dX9_stitch_9 (by decide) (fun h => absurd h (nI_ge hi (by omega))) (fun hp9 => ?_)
      refine zr_aload_n dX9_stitch_12 rfl ?_
      refine zt_getr zg_X9_31 dX9_stitch_13 rfl rfl rfl ?_
      refine zr_iload_n dX9_stitch_16 rfl ?_
      refine zt_ildN dX9_stitch_17 rfl rfl (by omega) (rch.1 hm) ?_
      refine zr_iconst (v := (-1)) dX9_stitch_18 kc_iconst_m1 ?_
      refine zr_icmp_ne 73 dX9_stitch_19 (by decide) (fun h => absurd rfl h) (fun hp19 => ?_)
      refine zr_aload_n dX9_stitch_22 rfl ?_
      refine zt_getr zg_X9_25 dX9_stitch_23 rfl rfl rfl ?_
      refine zr_iload_n dX9_stitch_26 rfl ?_
      refine zt_ildN dX9_stitch_27 rfl rfl (by omega) ((congrFun (f1 63 (by decide) (by decide) (by decide) (by decide)) i).trans ((rC.2.2.1 i hi).2.1.trans (congrArg nI hk))) ?_
      refine zr_istore_n dX9_stitch_28 (by decide) rfl ?_
      refine zr_aload_n dX9_stitch_29 rfl ?_
      refine zt_getr zg_X9_41 dX9_stitch_30 rfl rfl rfl ?_
      refine zr_bipush (v := 20) dX9_stitch_33 kc_bipush_20 ?_
      refine zr_iload_n dX9_stitch_35 rfl ?_
      refine zr_imul dX9_stitch_36 ?_
      refine zr_top (lk_20 k) ?_
      refine zr_aload_n dX9_stitch_37 rfl ?_
      refine zt_getr zg_X9_44 dX9_stitch_38 rfl rfl rfl ?_
      refine zr_iload_n dX9_stitch_41 rfl ?_
      refine zt_ildN dX9_stitch_42 rfl rfl (by omega) (rs) ?_
      refine zr_iadd dX9_stitch_43 ?_
      refine zr_top (nI_add _ _) ?_
      refine zr_iload_n dX9_stitch_44 rfl ?_
      refine zt_istN dX9_stitch_45 rfl rfl rfl (by omega) ?_
      refine zr_aload_n dX9_stitch_46 rfl ?_
      refine zt_getr zg_X9_44 dX9_stitch_47 rfl rfl rfl ?_
      refine zr_iload_n dX9_stitch_50 rfl ?_
      refine zr_dup2 dX9_stitch_51 rfl rfl ?_
      refine zt_ildN dX9_stitch_52 rfl rfl (by omega) (rs) ?_
      refine zr_iconst (v := 1) dX9_stitch_53 kc_iconst_1 ?_
      refine zr_iadd dX9_stitch_54 ?_
      refine zr_top (nI_1 _) ?_
      refine zt_istN dX9_stitch_55 rfl rfl rfl (by omega) ?_
      refine zr_aload_n dX9_stitch_56 rfl ?_
      refine zt_getr zg_X9_31 dX9_stitch_57 rfl rfl rfl ?_
      refine zr_iload_n dX9_stitch_60 rfl ?_
      refine zr_iload_n dX9_stitch_61 rfl ?_
      refine zt_istN dX9_stitch_62 rfl rfl rfl (by omega) ?_
      refine zr_aload_n dX9_stitch_63 rfl ?_
      refine zt_getr zg_X9_34 dX9_stitch_64 rfl rfl rfl ?_
      refine zr_iload_n dX9_stitch_67 rfl ?_
      refine zr_iconst (v := 0) dX9_stitch_68 kc_iconst_0 ?_
      refine zt_zstN dX9_stitch_69 rfl rfl rfl (by omega) (rfl) ?_
      refine zr_iinc dX9_stitch_70 rfl (kc_inc (x)) rfl ?_
      refine zr_iinc dX9_stitch_73 rfl (kc_inc (i)) rfl ?_
      refine zr_goto 4 dX9_stitch_76 (by decide) ?_
      have := ih (gz_wr (gz_wr (gz_wr (gz_wr σ1 68 (20 * k + n) (nI i)) 69 k (nI (n + 1))) 65 i (nI k)) 66 i 0, some (.int (nI k)))
      rw [est] at this
      have w : ∀ k', k' ≠ 65 → k' ≠ 66 → k' ≠ 68 → k' ≠ 69 → gz_wr (gz_wr (gz_wr (gz_wr σ1 68 (20 * k + n) (nI i)) 69 k (nI (n + 1))) 65 i (nI k)) 66 i 0 k' = σ k' := fun k' a b c d => by rw [gz_wr_ne b, gz_wr_ne a, gz_wr_ne d, gz_wr_ne c]; exact f1 k' a b c d
      refine this ⟨w, ?_⟩
      have := rK1.ins (σ' := gz_wr (gz_wr (gz_wr (gz_wr σ1 68 (20 * k + n) (nI i)) 69 k (nI (n + 1))) 65 i (nI k)) 66 i 0) b2 (by omega) (k := k) (c := i) (p := (K1 k).length) (t := 0) (by omega) hm (Nat.le_refl _) (fun q hq => ?_) ?_ ?_ ?_ (fun j hj => ?_)
      · rw [List.insertIdx_length_self] at this
        exact this
      · rw [gz_wr_ne (by decide), gz_wr_ne (by decide), gz_wr_ne (by decide), gz_wr_eq, pk_un (by omega)]
      · rw [gz_wr_ne (by decide), gz_wr_ne (by decide), gz_wr_eq, gz_wr_ne (by decide), hln]
      · rw [gz_wr_ne (by decide), gz_wr_eq, gz_wr_ne (by decide), gz_wr_ne (by decide)]
      · rw [gz_wr_eq, gz_wr_ne (by decide), gz_wr_ne (by decide), gz_wr_ne (by decide)]
        rfl
      · rw [hln] at hj
        rw [gz_wr_ne (by decide), gz_wr_ne (by decide), gz_wr_ne (by decide), gz_wr_eq, gd_ins (Nat.le_refl _), hln]
        by_cases e1 : j < n
        · rw [if_pos e1, pk_un (by omega)]
          exact rr j e1
        · rw [if_neg e1, if_pos (by omega), show j = n by omega]
          simp [upd]
