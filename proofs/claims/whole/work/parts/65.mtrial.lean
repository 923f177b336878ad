/-! ===== the reference: trials ===== -/
def rm_G (σ σ' : gz_Mm) : Prop := (∀ k, k ≠ 57 → (k < 72 ∨ 77 < k) → σ' k = σ k) ∧ ∀ j, (j < 21 ∨ j = 27 ∨ (28 < j ∧ j < 33) ∨ 36 < j) → σ' 57 j = σ 57 j
theorem rm_G.tr {σ σ' σ'' : gz_Mm} (h : rm_G σ σ') (h' : rm_G σ' σ'') : rm_G σ σ'' := ⟨fun k a b => (h'.1 k a b).trans (h.1 k a b), fun j a => (h'.2 j a).trans (h.2 j a)⟩
theorem rm_D.G {σ σ' : gz_Mm} (h : rm_D σ σ') : rm_G σ σ' := ⟨h.1, fun j a => h.2 j (by omega)⟩
theorem rm_G.w57 {σ : gz_Mm} (j : Nat) (x : Int32) (hj : j = 21 ∨ j = 22 ∨ j = 23 ∨ j = 24) : rm_G σ (gz_wr σ 57 j x) := ⟨fun k a _ => gz_wr_ne a, fun i a => by rw [gz_wr_eq, pk_un (by omega)]⟩
/-- what a trial may change besides -/
def rm_H (σ σ' : gz_Mm) : Prop := (∀ k, k ≠ 57 → (k < 72 ∨ (77 < k ∧ k ≠ 83 ∧ k ≠ 84)) → σ' k = σ k) ∧ ∀ j, (j < 21 ∨ j = 27 ∨ (28 < j ∧ j < 33) ∨ 36 < j) → σ' 57 j = σ 57 j
theorem rm_H.rf {σ : gz_Mm} : rm_H σ σ := ⟨fun _ _ _ => rfl, fun _ _ => rfl⟩
theorem rm_H.tr {σ σ' σ'' : gz_Mm} (h : rm_H σ σ') (h' : rm_H σ' σ'') : rm_H σ σ'' := ⟨fun k a b => (h'.1 k a b).trans (h.1 k a b), fun j a => (h'.2 j a).trans (h.2 j a)⟩
theorem rm_G.H {σ σ' : gz_Mm} (h : rm_G σ σ') : rm_H σ σ' := ⟨fun k a b => h.1 k a (by omega), h.2⟩
theorem rm_H.w (σ : gz_Mm) (k j : Nat) (x : Int32) (hk : k = 83 ∨ k = 84) : rm_H σ (gz_wr σ k j x) := ⟨fun a _ h => gz_wr_ne (by omega), fun i _ => congrFun (gz_wr_ne (by omega)) i⟩
theorem rm_H.C {σ σ' : gz_Mm} {C : sp_T} (h : rm_H σ σ') (rC : rm_C σ C) : rm_C σ' C := rC.kept (fun j hj => h.2 j (by omega)) (fun k h1 h2 _ _ _ _ => h.1 k (by omega) (by omega))
theorem rm_H.K {σ σ' : gz_Mm} {C : sp_T} {K : sp_K} (h : rm_H σ σ') (rK : rm_K σ C K) : rm_K σ' C K := rK.kept (fun k hk => h.1 k (by omega) (by omega))
/-- what a trial starts from: circuit, chains, tag, and some machine -/
def rm_B (σ : gz_Mm) (C : sp_T) (K : sp_K) : Prop := rm_C σ C ∧ rm_K σ C K ∧ (∃ tg, tg < 65536 ∧ σ 57 27 = nI tg) ∧ ∃ m, rm_m σ C m ∧ sp_wm m
theorem rm_B.move {σ σ' : gz_Mm} {C : sp_T} {K : sp_K} (h : rm_B σ C K) (hf : rm_H σ σ') (hm : ∃ m, rm_m σ' C m ∧ sp_wm m) : rm_B σ' C K := by
  obtain ⟨a, b, ⟨tg, c, d⟩, e⟩ := h
  exact ⟨hf.C a, hf.K b, ⟨tg, c, (hf.2 27 (by omega)).trans d⟩, hm⟩
def sp_fn (m : sp_T) (s0 s1 : Nat) : sp_T := fun a i => if a = 1 then 2 else if a = 2 ∧ i = 0 then s0 else if a = 2 ∧ i = 1 then s1 else if a = 2 ∧ i = 2 then 0 else if a = 2 ∧ i = 3 then 4 else m a i
theorem sp_fn_wm {m : sp_T} (hm : sp_wm m) {s0 s1 : Nat} (h0 : s0 ≤ 80) (h1 : s0 ≠ 0 → s1 ≤ 1) : sp_wm (sp_fn m s0 s1) := by
  obtain ⟨a1, a2, a3, a4, a5, a6, a7, a8, a9⟩ := hm
  unfold sp_wm
  simp [sp_fn, a1, h0, h1, a7, a8, a9]
  exact h1
theorem cm_fromNew (L : Nat) (σ : gz_Mm) (C : sp_T) (K : sp_K) (hC : sp_wf C) (hK : sp_wk C K) (B : rm_B σ C K) (t s0 s1 : Nat) (ht : t < C 9 4) (h0 : s0 ≤ 80) (h1 : s0 ≠ 0 → s1 ≤ 1) (x y : Int32) (hx : x = nI s0 + (-1)) (hy : s0 ≠ 0 → y = nI s1) :
    gz_Gv 8 yX9_fromNew cX9_fromNew 5 none L [.ref 57, .int (nI t), .int x, .int y] σ (fun σ' => (rm_G σ σ' ∧ ∃ m, rm_m σ' C m ∧ sp_wm m) ∧ σ' 57 33 = nI (C 9 3) ∧ σ' 57 35 = nI (sp_len K) ∧ (∀ i, i < C 9 3 → σ' 76 i = sp_sO C K s0 s1 t i) ∧ ∀ i, i < sp_len K → σ' 77 i = sp_sU C K s0 s1 t i) := by
  obtain ⟨rC, rK, ⟨tg, htg, rt⟩, m, rM, hm⟩ := B
  have h20 := hC.1.2.2.1
  refine gz_Gv.of rfl rfl (fun Q hQ => ?_)
  refine zr_iconst (v := 0) dX9_fromNew_0 kc_iconst_0 ?_
  refine zr_istore dX9_fromNew_1 (by decide) rfl ?_
  refine zl_up (τ := gz_Mm) (C 9 2) (fun i s => (∀ k, k ≠ 73 → s k = σ k) ∧ ∀ j, j < i → s 73 j = 2) (fun i s => gz_R 8 yX9_fromNew cX9_fromNew 5 none 0 0 3 [some (.ref 57), some (.int (nI t)), some (.int x), some (.int y), some (.int (nI i))] [] (gz_mk L s) Q) ?_ ?_ 0 σ (Nat.zero_le _) ⟨fun _ _ => rfl, fun j hj => absurd hj (Nat.not_lt_zero j)⟩
  rotate_left
  · rintro i σ1 hi ⟨hf, hv⟩ ih
    refine zr_iload dX9_fromNew_3 rfl ?_
    refine zr_aload_n dX9_fromNew_5 rfl ?_
    refine zt_geti zg_X9_106 dX9_fromNew_6 rfl rfl rfl ?_
    refine zr_top ((congrFun (hf 57 (by decide)) 11).trans rC.1.2.2.1) ?_
    refine zr_icmp_ge 26 dX9_fromNew_9 (by decide) (fun h => absurd h (nI_ge hi (by omega))) (fun hp9 => ?_)
    refine zr_aload_n dX9_fromNew_12 rfl ?_
    refine zt_getr zg_X9_56 dX9_fromNew_13 rfl rfl rfl ?_
    refine zr_iload dX9_fromNew_16 rfl ?_
    refine zr_iconst (v := 2) dX9_fromNew_18 kc_iconst_2 ?_
    refine zt_istN dX9_fromNew_19 rfl rfl rfl (by omega) ?_
    refine zr_iinc dX9_fromNew_20 rfl (kc_inc (i)) rfl ?_
    refine zr_goto 3 dX9_fromNew_23 (by decide) ?_
    refine ih _ ⟨fun k hk => (gz_wr_ne hk).trans (hf k hk), fun j hj => ?_⟩
    rw [gz_wr_eq]
    by_cases e : j = i
    · rw [e]
      simp [upd]
    · rw [pk_un e]
      exact hv j (by omega)
  rintro σ1 ⟨hf, hv⟩
  let σ2 := gz_wr (gz_wr (gz_wr (gz_wr σ1 57 23 0) 57 24 4) 57 21 x) 57 22 y
  have e57 : ∀ j, j ≠ 21 → j ≠ 22 → j ≠ 23 → j ≠ 24 → σ2 57 j = σ 57 j := fun j a b c d => by
    show gz_wr (gz_wr (gz_wr (gz_wr σ1 57 23 0) 57 24 4) 57 21 x) 57 22 y 57 j = _
    rw [gz_wr_eq, pk_un b, gz_wr_eq, pk_un a, gz_wr_eq, pk_un d, gz_wr_eq, pk_un c, hf 57 (by decide)]
  have ek : ∀ k, k ≠ 57 → σ2 k = σ1 k := fun k hk => by
    show gz_wr (gz_wr (gz_wr (gz_wr σ1 57 23 0) 57 24 4) 57 21 x) 57 22 y k = _
    rw [gz_wr_ne hk, gz_wr_ne hk, gz_wr_ne hk, gz_wr_ne hk]
  have x1 : σ2 57 21 = x := by simp [σ2, gz_wr, upd]
  have x2 : σ2 57 22 = y := by simp [σ2, gz_wr, upd]
  have x3 : σ2 57 23 = 0 := by simp [σ2, gz_wr, upd]
  have x4 : σ2 57 24 = 4 := by simp [σ2, gz_wr, upd]
  have G2 : rm_G σ σ2 := ⟨fun k a b => (ek k a).trans (hf k (by omega)), fun j a => e57 j (by omega) (by omega) (by omega) (by omega)⟩
  have rM2 : rm_m σ2 C (sp_fn m s0 s1) := by
    obtain ⟨a1, a2, a3, a4, a5, a6, a7, a8, a9⟩ := rM
    unfold rm_m
    rw [x1, x2, x3, x4, ek 72 (by decide), ek 73 (by decide), hf 72 (by decide), e57 25 (by decide) (by decide) (by decide) (by decide), e57 26 (by decide) (by decide) (by decide) (by decide), e57 28 (by decide) (by decide) (by decide) (by decide)]
    refine ⟨fun i hi => ?_, fun c hc => by rw [hv c hc]; rfl, hx, hy, rfl, rfl, a7, a8, a9⟩
    rw [a1 i hi]
    rfl
  refine zr_iload dX9_fromNew_3 rfl ?_
  refine zr_aload_n dX9_fromNew_5 rfl ?_
  refine zt_geti zg_X9_106 dX9_fromNew_6 rfl rfl rfl ?_
  refine zr_top ((congrFun (hf 57 (by decide)) 11).trans rC.1.2.2.1) ?_
  refine zr_icmp_ge 26 dX9_fromNew_9 (by decide) (fun hp9 => ?_) (fun h => absurd (Int32.le_refl _) h)
  refine zr_aload_n dX9_fromNew_26 rfl ?_
  refine zr_iconst (v := 0) dX9_fromNew_27 kc_iconst_0 ?_
  refine zt_put zp_X9_201 dX9_fromNew_28 rfl rfl rfl rfl ?_
  refine zr_aload_n dX9_fromNew_31 rfl ?_
  refine zr_iconst (v := 4) dX9_fromNew_32 kc_iconst_4 ?_
  refine zt_put zp_X9_63 dX9_fromNew_33 rfl rfl rfl rfl ?_
  refine zr_aload_n dX9_fromNew_36 rfl ?_
  refine zr_iload_n dX9_fromNew_37 rfl ?_
  refine zt_put zp_X9_59 dX9_fromNew_38 rfl rfl rfl rfl ?_
  refine zr_aload_n dX9_fromNew_41 rfl ?_
  refine zr_iload_n dX9_fromNew_42 rfl ?_
  refine zt_put zp_X9_157 dX9_fromNew_43 rfl rfl rfl rfl ?_
  refine zr_aload_n dX9_fromNew_46 rfl ?_
  refine zr_iload_n dX9_fromNew_47 rfl ?_
  refine zt_cVv (As := [_]) (cm_driven L σ2 C (sp_fn m s0 s1) K hC (sp_fn_wm hm h0 h1) hK (G2.H.C rC) (G2.H.K rK) rM2 tg htg ((e57 27 (by decide) (by decide) (by decide) (by decide)).trans rt) t ht) zc_X9_238 rfl dX9_fromNew_48 rfl rfl rfl rfl rfl rfl (fun σ3 h3 => ?_)
  obtain ⟨M3, D3, y1, y2, y3, y4⟩ := h3
  obtain ⟨s1', s2'⟩ := sp_seen (m := sp_fn m s0 s1) hC hK tg t s0 s1 rfl (fun _ _ => rfl) rfl (fun _ => rfl)
  exact zr_vret dX9_fromNew_51 rfl (hQ _ ⟨⟨G2.tr D3.G, _, M3.2.2.1, M3.2.2.2.1⟩, y1, y2, fun i hi => (y3 i hi).trans (s1' i hi), fun i hi => (y4 i hi).trans (s2' i hi)⟩)
def rm_U (σ : gz_Mm) (C : sp_T) (K : sp_K) (t : Nat) : Prop := (∀ i, i < C 9 3 → σ 83 (8 * t + i) = sp_sO C K 0 0 t i) ∧ ∀ i, i < sp_len K → σ 84 (20 * t + i) = sp_sU C K 0 0 t i
theorem rm_U.kept {σ σ' : gz_Mm} {C : sp_T} {K : sp_K} {t : Nat} (h : rm_U σ C K t) (h1 : σ' 83 = σ 83) (h2 : σ' 84 = σ 84) : rm_U σ' C K t := by
  unfold rm_U
  rw [h1, h2]
  exact h
theorem lk_8 (k : Nat) : (8 : Int32) * nI k = nI (8 * k) := pk_mul 8 k
theorem cm_findSound (L : Nat) (σ : gz_Mm) (C : sp_T) (K : sp_K) (hC : sp_wf C) (hK : sp_wk C K) (B : rm_B σ C K) (t : Nat) (ht : t < C 9 4) :
    gz_Gv 9 yX9_findSound cX9_findSound 3 none L [.ref 57, .int (nI t)] σ (fun σ' => rm_B σ' C K ∧ rm_H σ σ' ∧ rm_U σ' C K t ∧ ∀ u, u < t → rm_U σ C K u → rm_U σ' C K u) := by
  have hln := sp_len_le hC hK
  obtain ⟨b1, b2, b3, b4, b5⟩ := hC.1
  refine gz_Gv.of rfl rfl (fun Q hQ => ?_)
  refine zr_aload_n dX9_findSound_0 rfl ?_
  refine zr_iload_n dX9_findSound_1 rfl ?_
  refine zr_iconst (v := (-1)) dX9_findSound_2 kc_iconst_m1 ?_
  refine zr_iconst (v := 0) dX9_findSound_3 kc_iconst_0 ?_
  refine zt_cVv (As := [_, _, _]) (cm_fromNew L σ C K hC hK B t 0 0 ht (by decide) (by decide) (-1) 0 rfl (by decide)) zc_X9_247 rfl dX9_findSound_4 rfl rfl rfl rfl rfl rfl (fun σ0 h0 => ?_)
  refine zr_iconst (v := 0) dX9_findSound_7 kc_iconst_0 ?_
  refine zr_istore_n dX9_findSound_8 (by decide) rfl ?_
  obtain ⟨⟨G0, Z0⟩, y1, y2, y3, y4⟩ := h0
  refine zl_up (τ := gz_Mm) (C 9 3) (fun i s => (∀ k, k ≠ 83 → s k = σ0 k) ∧ (∀ j, j < i → s 83 (8 * t + j) = sp_sO C K 0 0 t j) ∧ ∀ q, q < 8 * t → s 83 q = σ0 83 q) (fun i s => gz_R 9 yX9_findSound cX9_findSound 3 none 0 0 9 [some (.ref 57), some (.int (nI t)), some (.int (nI i))] [] (gz_mk L s) Q) ?_ ?_ 0 σ0 (Nat.zero_le _) ⟨fun _ _ => rfl, fun j hj => absurd hj (Nat.not_lt_zero j), fun _ _ => rfl⟩
  rotate_left
  · rintro i σ1 hi ⟨hf, hv, hu⟩ ih
    refine zr_iload_n dX9_findSound_9 rfl ?_
    refine zr_aload_n dX9_findSound_10 rfl ?_
    refine zt_geti zg_X9_232 dX9_findSound_11 rfl rfl rfl ?_
    refine zr_top ((congrFun (hf 57 (by decide)) 33).trans y1) ?_
    refine zr_icmp_ge 40 dX9_findSound_14 (by decide) (fun h => absurd h (nI_ge hi (by omega))) (fun hp14 => ?_)
    refine zr_aload_n dX9_findSound_17 rfl ?_
    refine zt_getr zg_X9_93 dX9_findSound_18 rfl rfl rfl ?_
    refine zr_bipush (v := 8) dX9_findSound_21 kc_bipush_8 ?_
    refine zr_iload_n dX9_findSound_23 rfl ?_
    refine zr_imul dX9_findSound_24 ?_
    refine zr_top (lk_8 t) ?_
    refine zr_iload_n dX9_findSound_25 rfl ?_
    refine zr_iadd dX9_findSound_26 ?_
    refine zr_top (nI_add _ _) ?_
    refine zr_aload_n dX9_findSound_27 rfl ?_
    refine zt_getr zg_X9_72 dX9_findSound_28 rfl rfl rfl ?_
    refine zr_iload_n dX9_findSound_31 rfl ?_
    refine zt_ildN dX9_findSound_32 rfl rfl (by omega) ((congrFun (hf 76 (by decide)) i).trans (y3 i hi)) ?_
    refine zt_istN dX9_findSound_33 rfl rfl rfl (by omega) ?_
    refine zr_iinc dX9_findSound_34 rfl (kc_inc (i)) rfl ?_
    refine zr_goto 9 dX9_findSound_37 (by decide) ?_
    refine ih _ ⟨fun k hk => (gz_wr_ne hk).trans (hf k hk), fun j hj => ?_, fun q hq => ?_⟩
    · rw [gz_wr_eq]
      by_cases e : j = i
      · rw [e]
        simp [upd]
      · rw [pk_un (by omega)]
        exact hv j (by omega)
    · rw [gz_wr_eq, pk_un (by omega)]
      exact hu q hq
  rintro σ1 ⟨hf, hv, hu⟩
  refine zr_iload_n dX9_findSound_9 rfl ?_
  refine zr_aload_n dX9_findSound_10 rfl ?_
  refine zt_geti zg_X9_232 dX9_findSound_11 rfl rfl rfl ?_
  refine zr_top ((congrFun (hf 57 (by decide)) 33).trans y1) ?_
  refine zr_icmp_ge 40 dX9_findSound_14 (by decide) (fun hp14 => ?_) (fun h => absurd (Int32.le_refl _) h)
  refine zr_iconst (v := 0) dX9_findSound_40 kc_iconst_0 ?_
  refine zr_istore_n dX9_findSound_41 (by decide) rfl ?_
  refine zl_up (τ := gz_Mm) (sp_len K) (fun i s => (∀ k, k ≠ 84 → s k = σ1 k) ∧ (∀ j, j < i → s 84 (20 * t + j) = sp_sU C K 0 0 t j) ∧ ∀ q, q < 20 * t → s 84 q = σ1 84 q) (fun i s => gz_R 9 yX9_findSound cX9_findSound 3 none 0 0 42 [some (.ref 57), some (.int (nI t)), some (.int (nI i))] [] (gz_mk L s) Q) ?_ ?_ 0 σ1 (Nat.zero_le _) ⟨fun _ _ => rfl, fun j hj => absurd hj (Nat.not_lt_zero j), fun _ _ => rfl⟩
  rotate_left
  · rintro i σ2 hi ⟨gf, gv, gu⟩ ih
    refine zr_iload_n dX9_findSound_42 rfl ?_
    refine zr_aload_n dX9_findSound_43 rfl ?_
    refine zt_geti zg_X9_235 dX9_findSound_44 rfl rfl rfl ?_
    refine zr_top (((congrFun (gf 57 (by decide)) 35).trans (congrFun (hf 57 (by decide)) 35)).trans y2) ?_
    refine zr_icmp_ge 73 dX9_findSound_47 (by decide) (fun h => absurd h (nI_ge hi (by omega))) (fun hp47 => ?_)
    refine zr_aload_n dX9_findSound_50 rfl ?_
    refine zt_getr zg_X9_96 dX9_findSound_51 rfl rfl rfl ?_
    refine zr_bipush (v := 20) dX9_findSound_54 kc_bipush_20 ?_
    refine zr_iload_n dX9_findSound_56 rfl ?_
    refine zr_imul dX9_findSound_57 ?_
    refine zr_top (lk_20 t) ?_
    refine zr_iload_n dX9_findSound_58 rfl ?_
    refine zr_iadd dX9_findSound_59 ?_
    refine zr_top (nI_add _ _) ?_
    refine zr_aload_n dX9_findSound_60 rfl ?_
    refine zt_getr zg_X9_75 dX9_findSound_61 rfl rfl rfl ?_
    refine zr_iload_n dX9_findSound_64 rfl ?_
    refine zt_ildN dX9_findSound_65 rfl rfl (by omega) (((congrFun (gf 77 (by decide)) i).trans (congrFun (hf 77 (by decide)) i)).trans (y4 i hi)) ?_
    refine zt_istN dX9_findSound_66 rfl rfl rfl (by omega) ?_
    refine zr_iinc dX9_findSound_67 rfl (kc_inc (i)) rfl ?_
    refine zr_goto 42 dX9_findSound_70 (by decide) ?_
    refine ih _ ⟨fun k hk => (gz_wr_ne hk).trans (gf k hk), fun j hj => ?_, fun q hq => ?_⟩
    · rw [gz_wr_eq]
      by_cases e : j = i
      · rw [e]
        simp [upd]
      · rw [pk_un (by omega)]
        exact gv j (by omega)
    · rw [gz_wr_eq, pk_un (by omega)]
      exact gu q hq
  rintro σ2 ⟨gf, gv, gu⟩
  refine zr_iload_n dX9_findSound_42 rfl ?_
  refine zr_aload_n dX9_findSound_43 rfl ?_
  refine zt_geti zg_X9_235 dX9_findSound_44 rfl rfl rfl ?_
  refine zr_top (((congrFun (gf 57 (by decide)) 35).trans (congrFun (hf 57 (by decide)) 35)).trans y2) ?_
  refine zr_icmp_ge 73 dX9_findSound_47 (by decide) (fun hp47 => ?_) (fun h => absurd (Int32.le_refl _) h)
  have f2 : ∀ k, k ≠ 83 → k ≠ 84 → σ2 k = σ0 k := fun k a b => (gf k b).trans (hf k a)
  have H2 : rm_H σ σ2 := ⟨fun k a b => (f2 k (by omega) (by omega)).trans (G0.1 k a (by omega)), fun j a => (congrFun (f2 57 (by decide) (by decide)) j).trans (G0.2 j a)⟩
  refine zr_vret dX9_findSound_73 rfl (hQ _ ⟨B.move H2 ?_, H2, ⟨fun i hi => ?_, gv⟩, fun u hu2 hU => ⟨fun i hi => ?_, fun i hi => ?_⟩⟩)
  · obtain ⟨m, r, w⟩ := Z0
    exact ⟨m, r.kept (fun j _ => congrFun (f2 57 (by decide) (by decide)) j) (f2 72 (by decide) (by decide)) (f2 73 (by decide) (by decide)), w⟩
  · rw [gf 83 (by decide)]
    exact hv i hi
  · rw [gf 83 (by decide), hu _ (by omega), G0.1 83 (by decide) (by decide)]
    exact hU.1 i hi
  · rw [gu _ (by omega), hf 84 (by decide), G0.1 84 (by decide) (by decide)]
    exact hU.2 i hi
theorem cm_isUnlike (L : Nat) (σ : gz_Mm) (x y : Int32) : gz_F 0 yX9_isUnlike cX9_isUnlike 2 (some .boolean) L [.int x, .int y] σ (some (.int (sp_b (decide (x ≠ 2) && decide (y ≠ 2) && decide (x ≠ y))))) σ := by
  refine gz_F.of rfl rfl ?_
  refine zr_iload_n dX9_isUnlike_0 rfl ?_
  refine zr_iconst (v := 2) dX9_isUnlike_1 kc_iconst_2 ?_
  refine zr_icmp_eq 19 dX9_isUnlike_2 (by decide) (fun h2 => ?_) (fun h2 => ?_)
  · refine zr_iconst (v := 0) dX9_isUnlike_19 kc_iconst_0 ?_
    exact zr_zret dX9_isUnlike_20 rfl rfl (⟨by simp [sp_b, *], rfl⟩)
  · refine zr_iload_n dX9_isUnlike_5 rfl ?_
    refine zr_iconst (v := 2) dX9_isUnlike_6 kc_iconst_2 ?_
    refine zr_icmp_eq 19 dX9_isUnlike_7 (by decide) (fun h7 => ?_) (fun h7 => ?_)
    · refine zr_iconst (v := 0) dX9_isUnlike_19 kc_iconst_0 ?_
      exact zr_zret dX9_isUnlike_20 rfl rfl (⟨by simp [sp_b, *], rfl⟩)
    · refine zr_iload_n dX9_isUnlike_10 rfl ?_
      refine zr_iload_n dX9_isUnlike_11 rfl ?_
      refine zr_icmp_eq 19 dX9_isUnlike_12 (by decide) (fun h12 => ?_) (fun h12 => ?_)
      · refine zr_iconst (v := 0) dX9_isUnlike_19 kc_iconst_0 ?_
        exact zr_zret dX9_isUnlike_20 rfl rfl (⟨by simp [sp_b, *], rfl⟩)
      · refine zr_iconst (v := 1) dX9_isUnlike_15 kc_iconst_1 ?_
        refine zr_goto 20 dX9_isUnlike_16 (by decide) ?_
        exact zr_zret dX9_isUnlike_20 rfl rfl (⟨by simp [sp_b, *], rfl⟩)
theorem sp_b_0 (b : Bool) : sp_b b = 0 ↔ b = false := by cases b <;> decide
theorem cm_isShown (L : Nat) (σ : gz_Mm) (C : sp_T) (K : sp_K) (hC : sp_wf C) (hK : sp_wk C K) (B : rm_B σ C K) (t l v : Nat) (ht : t < C 9 4) (hl : l < C 9 0) (hv : v ≤ 1) (U : rm_U σ C K t) :
    gz_Gi 9 yX9_isShown cX9_isShown 6 (some .boolean) L [.ref 57, .int (nI t), .int (nI l), .int (nI v)] σ (fun r σ' => r = sp_b (sp_shows C K t l v) ∧ rm_B σ' C K ∧ rm_H σ σ' ∧ σ' 83 = σ 83 ∧ σ' 84 = σ 84) := by
  have hln := sp_len_le hC hK
  obtain ⟨b1, b2, b3, b4, b5⟩ := hC.1
  refine gz_Gi.of rfl rfl (fun Q hQ => ?_)
  refine zr_aload_n dX9_isShown_0 rfl ?_
  refine zr_iload_n dX9_isShown_1 rfl ?_
  refine zr_iload_n dX9_isShown_2 rfl ?_
  refine zr_iload_n dX9_isShown_3 rfl ?_
  refine zt_cVv (As := [_, _, _]) (cm_fromNew L σ C K hC hK B t (l + 1) v ht (by omega) (fun _ => hv) (nI l) (nI v) (pk_m1 l).symm (fun _ => rfl)) zc_X9_247 rfl dX9_isShown_4 rfl rfl rfl rfl rfl rfl (fun σ0 h0 => ?_)
  refine zr_iconst (v := 0) dX9_isShown_7 kc_iconst_0 ?_
  refine zr_istore dX9_isShown_8 (by decide) rfl ?_
  refine zr_iconst (v := 0) dX9_isShown_10 kc_iconst_0 ?_
  refine zr_istore dX9_isShown_11 (by decide) rfl ?_
  obtain ⟨⟨G0, Z0⟩, y1, y2, y3, y4⟩ := h0
  have u1 : ∀ i, i < C 9 3 → σ0 83 (8 * t + i) = sp_sO C K 0 0 t i := fun i hi => by rw [G0.1 83 (by decide) (by decide)]; exact U.1 i hi
  have u2 : ∀ i, i < sp_len K → σ0 84 (20 * t + i) = sp_sU C K 0 0 t i := fun i hi => by rw [G0.1 84 (by decide) (by decide)]; exact U.2 i hi
  refine zl_up (τ := Unit) (C 9 3) (fun i s => True) (fun i s => gz_R 9 yX9_isShown cX9_isShown 6 (some .boolean) 0 0 13 [some (.ref 57), some (.int (nI t)), some (.int (nI l)), some (.int (nI v)), some (.int (sp_b (sp_df (sp_sO C K 0 0 t) (sp_sO C K (l + 1) v t) i))), some (.int (nI i))] [] (gz_mk L σ0) Q) ?_ ?_ 0 () (Nat.zero_le _) trivial
  rotate_left
  · rintro i - hi - ih
    have ih' := ih () trivial
    have ed : sp_df (sp_sO C K 0 0 t) (sp_sO C K (l + 1) v t) (i + 1) = (sp_df (sp_sO C K 0 0 t) (sp_sO C K (l + 1) v t) i || (decide (sp_sO C K 0 0 t i ≠ 2) && decide (sp_sO C K (l + 1) v t i ≠ 2) && decide (sp_sO C K 0 0 t i ≠ sp_sO C K (l + 1) v t i))) := rfl
    rw [ed] at ih'
    generalize sp_df (sp_sO C K 0 0 t) (sp_sO C K (l + 1) v t) i = d at ih' ⊢
    generalize hu : (decide (sp_sO C K 0 0 t i ≠ 2) && decide (sp_sO C K (l + 1) v t i ≠ 2) && decide (sp_sO C K 0 0 t i ≠ sp_sO C K (l + 1) v t i)) = u at ih'
    cases d with
    | true =>
      refine zr_iload dX9_isShown_13 rfl ?_
      refine zr_aload_n dX9_isShown_15 rfl ?_
      refine zt_geti zg_X9_232 dX9_isShown_16 rfl rfl rfl ?_
      refine zr_top (y1) ?_
      refine zr_icmp_ge 65 dX9_isShown_19 (by decide) (fun h => absurd h (nI_ge hi (by omega))) (fun hp19 => ?_)
      refine zr_iload dX9_isShown_22 rfl ?_
      refine zr_if_ne 52 dX9_isShown_24 (by decide) (fun hp24 => ?_) (fun h => absurd h (by decide))
      refine zr_iconst (v := 1) dX9_isShown_52 kc_iconst_1 ?_
      refine zr_goto 57 dX9_isShown_53 (by decide) ?_
      refine zr_istore dX9_isShown_57 (by decide) rfl ?_
      refine zr_iinc dX9_isShown_59 rfl (kc_inc (i)) rfl ?_
      refine zr_goto 13 dX9_isShown_62 (by decide) ?_
      exact ih'
    | false =>
      cases u with
      | true =>
        refine zr_iload dX9_isShown_13 rfl ?_
        refine zr_aload_n dX9_isShown_15 rfl ?_
        refine zt_geti zg_X9_232 dX9_isShown_16 rfl rfl rfl ?_
        refine zr_top (y1) ?_
        refine zr_icmp_ge 65 dX9_isShown_19 (by decide) (fun h => absurd h (nI_ge hi (by omega))) (fun hp19 => ?_)
        refine zr_iload dX9_isShown_22 rfl ?_
        refine zr_if_ne 52 dX9_isShown_24 (by decide) (fun h => absurd rfl h) (fun hp24 => ?_)
        refine zr_aload_n dX9_isShown_27 rfl ?_
        refine zt_getr zg_X9_93 dX9_isShown_28 rfl rfl rfl ?_
        refine zr_bipush (v := 8) dX9_isShown_31 kc_bipush_8 ?_
        refine zr_iload_n dX9_isShown_33 rfl ?_
        refine zr_imul dX9_isShown_34 ?_
        refine zr_top (lk_8 t) ?_
        refine zr_iload dX9_isShown_35 rfl ?_
        refine zr_iadd dX9_isShown_37 ?_
        refine zr_top (nI_add _ _) ?_
        refine zt_ildN dX9_isShown_38 rfl rfl (by omega) (u1 i hi) ?_
        refine zr_aload_n dX9_isShown_39 rfl ?_
        refine zt_getr zg_X9_72 dX9_isShown_40 rfl rfl rfl ?_
        refine zr_iload dX9_isShown_43 rfl ?_
        refine zt_ildN dX9_isShown_45 rfl rfl (by omega) (y3 i hi) ?_
        refine zt_callSi (As := [_, _]) (cm_isUnlike L σ0 _ _) zc_X9_250 rfl dX9_isShown_46 rfl rfl rfl ?_
        refine zr_top (congrArg sp_b hu) ?_
        refine zr_if_eq 56 dX9_isShown_49 (by decide) (fun h => absurd h (by decide)) (fun hp49 => ?_)
        refine zr_iconst (v := 1) dX9_isShown_52 kc_iconst_1 ?_
        refine zr_goto 57 dX9_isShown_53 (by decide) ?_
        refine zr_istore dX9_isShown_57 (by decide) rfl ?_
        refine zr_iinc dX9_isShown_59 rfl (kc_inc (i)) rfl ?_
        refine zr_goto 13 dX9_isShown_62 (by decide) ?_
        exact ih'
      | false =>
        refine zr_iload dX9_isShown_13 rfl ?_
        refine zr_aload_n dX9_isShown_15 rfl ?_
        refine zt_geti zg_X9_232 dX9_isShown_16 rfl rfl rfl ?_
        refine zr_top (y1) ?_
        refine zr_icmp_ge 65 dX9_isShown_19 (by decide) (fun h => absurd h (nI_ge hi (by omega))) (fun hp19 => ?_)
        refine zr_iload dX9_isShown_22 rfl ?_
        refine zr_if_ne 52 dX9_isShown_24 (by decide) (fun h => absurd rfl h) (fun hp24 => ?_)
        refine zr_aload_n dX9_isShown_27 rfl ?_
        refine zt_getr zg_X9_93 dX9_isShown_28 rfl rfl rfl ?_
        refine zr_bipush (v := 8) dX9_isShown_31 kc_bipush_8 ?_
        refine zr_iload_n dX9_isShown_33 rfl ?_
        refine zr_imul dX9_isShown_34 ?_
        refine zr_top (lk_8 t) ?_
        refine zr_iload dX9_isShown_35 rfl ?_
        refine zr_iadd dX9_isShown_37 ?_
        refine zr_top (nI_add _ _) ?_
        refine zt_ildN dX9_isShown_38 rfl rfl (by omega) (u1 i hi) ?_
        refine zr_aload_n dX9_isShown_39 rfl ?_
        refine zt_getr zg_X9_72 dX9_isShown_40 rfl rfl rfl ?_
        refine zr_iload dX9_isShown_43 rfl ?_
        refine zt_ildN dX9_isShown_45 rfl rfl (by omega) (y3 i hi) ?_
        refine zt_callSi (As := [_, _]) (cm_isUnlike L σ0 _ _) zc_X9_250 rfl dX9_isShown_46 rfl rfl rfl ?_
        refine zr_top (congrArg sp_b hu) ?_
        refine zr_if_eq 56 dX9_isShown_49 (by decide) (fun hp49 => ?_) (fun h => absurd rfl h)
        refine zr_iconst (v := 0) dX9_isShown_56 kc_iconst_0 ?_
        refine zr_istore dX9_isShown_57 (by decide) rfl ?_
        refine zr_iinc dX9_isShown_59 rfl (kc_inc (i)) rfl ?_
        refine zr_goto 13 dX9_isShown_62 (by decide) ?_
        exact ih'
  rintro - -
  generalize hd : sp_df (sp_sO C K 0 0 t) (sp_sO C K (l + 1) v t) (C 9 3) = d0
  refine zr_iload dX9_isShown_13 rfl ?_
  refine zr_aload_n dX9_isShown_15 rfl ?_
  refine zt_geti zg_X9_232 dX9_isShown_16 rfl rfl rfl ?_
  refine zr_top (y1) ?_
  refine zr_icmp_ge 65 dX9_isShown_19 (by decide) (fun hp19 => ?_) (fun h => absurd (Int32.le_refl _) h)
  refine zr_iconst (v := 0) dX9_isShown_65 kc_iconst_0 ?_
  refine zr_istore dX9_isShown_66 (by decide) rfl ?_
  refine zl_up (τ := Unit) (sp_len K) (fun i s => True) (fun i s => gz_R 9 yX9_isShown cX9_isShown 6 (some .boolean) 0 0 68 [some (.ref 57), some (.int (nI t)), some (.int (nI l)), some (.int (nI v)), some (.int (sp_b (d0 || sp_df (sp_sU C K 0 0 t) (sp_sU C K (l + 1) v t) i))), some (.int (nI i))] [] (gz_mk L σ0) Q) ?_ ?_ 0 () (Nat.zero_le _) trivial |> fun q => by
    rw [show (d0 || sp_df (sp_sU C K 0 0 t) (sp_sU C K (l + 1) v t) 0) = d0 by simp [sp_df]] at q
    exact q
  rotate_left
  · rintro i - hi - ih
    have ih' := ih () trivial
    have ed : (d0 || sp_df (sp_sU C K 0 0 t) (sp_sU C K (l + 1) v t) (i + 1)) = ((d0 || sp_df (sp_sU C K 0 0 t) (sp_sU C K (l + 1) v t) i) || (decide (sp_sU C K 0 0 t i ≠ 2) && decide (sp_sU C K (l + 1) v t i ≠ 2) && decide (sp_sU C K 0 0 t i ≠ sp_sU C K (l + 1) v t i))) := (Bool.or_assoc _ _ _).symm
    rw [ed] at ih'
    generalize (d0 || sp_df (sp_sU C K 0 0 t) (sp_sU C K (l + 1) v t) i) = d at ih' ⊢
    generalize hu : (decide (sp_sU C K 0 0 t i ≠ 2) && decide (sp_sU C K (l + 1) v t i ≠ 2) && decide (sp_sU C K 0 0 t i ≠ sp_sU C K (l + 1) v t i)) = u at ih'
    cases d with
    | true =>
      refine zr_iload dX9_isShown_68 rfl ?_
      refine zr_aload_n dX9_isShown_70 rfl ?_
      refine zt_geti zg_X9_235 dX9_isShown_71 rfl rfl rfl ?_
      refine zr_top (y2) ?_
      refine zr_icmp_ge 120 dX9_isShown_74 (by decide) (fun h => absurd h (nI_ge hi (by omega))) (fun hp74 => ?_)
      refine zr_iload dX9_isShown_77 rfl ?_
      refine zr_if_ne 107 dX9_isShown_79 (by decide) (fun hp79 => ?_) (fun h => absurd h (by decide))
      refine zr_iconst (v := 1) dX9_isShown_107 kc_iconst_1 ?_
      refine zr_goto 112 dX9_isShown_108 (by decide) ?_
      refine zr_istore dX9_isShown_112 (by decide) rfl ?_
      refine zr_iinc dX9_isShown_114 rfl (kc_inc (i)) rfl ?_
      refine zr_goto 68 dX9_isShown_117 (by decide) ?_
      exact ih'
    | false =>
      cases u with
      | true =>
        refine zr_iload dX9_isShown_68 rfl ?_
        refine zr_aload_n dX9_isShown_70 rfl ?_
        refine zt_geti zg_X9_235 dX9_isShown_71 rfl rfl rfl ?_
        refine zr_top (y2) ?_
        refine zr_icmp_ge 120 dX9_isShown_74 (by decide) (fun h => absurd h (nI_ge hi (by omega))) (fun hp74 => ?_)
        refine zr_iload dX9_isShown_77 rfl ?_
        refine zr_if_ne 107 dX9_isShown_79 (by decide) (fun h => absurd rfl h) (fun hp79 => ?_)
        refine zr_aload_n dX9_isShown_82 rfl ?_
        refine zt_getr zg_X9_96 dX9_isShown_83 rfl rfl rfl ?_
        refine zr_bipush (v := 20) dX9_isShown_86 kc_bipush_20 ?_
        refine zr_iload_n dX9_isShown_88 rfl ?_
        refine zr_imul dX9_isShown_89 ?_
        refine zr_top (lk_20 t) ?_
        refine zr_iload dX9_isShown_90 rfl ?_
        refine zr_iadd dX9_isShown_92 ?_
        refine zr_top (nI_add _ _) ?_
        refine zt_ildN dX9_isShown_93 rfl rfl (by omega) (u2 i hi) ?_
        refine zr_aload_n dX9_isShown_94 rfl ?_
        refine zt_getr zg_X9_75 dX9_isShown_95 rfl rfl rfl ?_
        refine zr_iload dX9_isShown_98 rfl ?_
        refine zt_ildN dX9_isShown_100 rfl rfl (by omega) (y4 i hi) ?_
        refine zt_callSi (As := [_, _]) (cm_isUnlike L σ0 _ _) zc_X9_250 rfl dX9_isShown_101 rfl rfl rfl ?_
        refine zr_top (congrArg sp_b hu) ?_
        refine zr_if_eq 111 dX9_isShown_104 (by decide) (fun h => absurd h (by decide)) (fun hp104 => ?_)
        refine zr_iconst (v := 1) dX9_isShown_107 kc_iconst_1 ?_
        refine zr_goto 112 dX9_isShown_108 (by decide) ?_
        refine zr_istore dX9_isShown_112 (by decide) rfl ?_
        refine zr_iinc dX9_isShown_114 rfl (kc_inc (i)) rfl ?_
        refine zr_goto 68 dX9_isShown_117 (by decide) ?_
        exact ih'
      | false =>
        refine zr_iload dX9_isShown_68 rfl ?_
        refine zr_aload_n dX9_isShown_70 rfl ?_
        refine zt_geti zg_X9_235 dX9_isShown_71 rfl rfl rfl ?_
        refine zr_top (y2) ?_
        refine zr_icmp_ge 120 dX9_isShown_74 (by decide) (fun h => absurd h (nI_ge hi (by omega))) (fun hp74 => ?_)
        refine zr_iload dX9_isShown_77 rfl ?_
        refine zr_if_ne 107 dX9_isShown_79 (by decide) (fun h => absurd rfl h) (fun hp79 => ?_)
        refine zr_aload_n dX9_isShown_82 rfl ?_
        refine zt_getr zg_X9_96 dX9_isShown_83 rfl rfl rfl ?_
        refine zr_bipush (v := 20) dX9_isShown_86 kc_bipush_20 ?_
        refine zr_iload_n dX9_isShown_88 rfl ?_
        refine zr_imul dX9_isShown_89 ?_
        refine zr_top (lk_20 t) ?_
        refine zr_iload dX9_isShown_90 rfl ?_
        refine zr_iadd dX9_isShown_92 ?_
        refine zr_top (nI_add _ _) ?_
        refine zt_ildN dX9_isShown_93 rfl rfl (by omega) (u2 i hi) ?_
        refine zr_aload_n dX9_isShown_94 rfl ?_
        refine zt_getr zg_X9_75 dX9_isShown_95 rfl rfl rfl ?_
        refine zr_iload dX9_isShown_98 rfl ?_
        refine zt_ildN dX9_isShown_100 rfl rfl (by omega) (y4 i hi) ?_
        refine zt_callSi (As := [_, _]) (cm_isUnlike L σ0 _ _) zc_X9_250 rfl dX9_isShown_101 rfl rfl rfl ?_
        refine zr_top (congrArg sp_b hu) ?_
        refine zr_if_eq 111 dX9_isShown_104 (by decide) (fun hp104 => ?_) (fun h => absurd rfl h)
        refine zr_iconst (v := 0) dX9_isShown_111 kc_iconst_0 ?_
        refine zr_istore dX9_isShown_112 (by decide) rfl ?_
        refine zr_iinc dX9_isShown_114 rfl (kc_inc (i)) rfl ?_
        refine zr_goto 68 dX9_isShown_117 (by decide) ?_
        exact ih'
  rintro - -
  refine zr_iload dX9_isShown_68 rfl ?_
  refine zr_aload_n dX9_isShown_70 rfl ?_
  refine zt_geti zg_X9_235 dX9_isShown_71 rfl rfl rfl ?_
  refine zr_top (y2) ?_
  refine zr_icmp_ge 120 dX9_isShown_74 (by decide) (fun hp74 => ?_) (fun h => absurd (Int32.le_refl _) h)
  refine zr_iload dX9_isShown_120 rfl ?_
  refine zr_zret dX9_isShown_122 rfl (sp_b_nar _) (hQ _ _ ⟨?_, B.move G0.H Z0, G0.H, G0.1 83 (by decide) (by decide), G0.1 84 (by decide) (by decide)⟩)
  rw [← hd]
  rfl
