/-! ===== Chains.insert, takeOut; the bench: chain, unchain, stitch ===== -/
theorem sp_all_iff {K : sp_K} {c : Nat} : c ∈ sp_all K ↔ ∃ k, k < 3 ∧ c ∈ K k := by
  unfold sp_all
  rw [List.mem_append, List.mem_append]
  constructor
  · rintro (h | h | h)
    · exact ⟨0, by decide, h⟩
    · exact ⟨1, by decide, h⟩
    · exact ⟨2, by decide, h⟩
  · rintro ⟨k, hk, h⟩
    rcases (show k = 0 ∨ k = 1 ∨ k = 2 by omega) with rfl | rfl | rfl
    · exact Or.inl h
    · exact Or.inr (Or.inl h)
    · exact Or.inr (Or.inr h)
theorem sp_nod {K : sp_K} : (sp_all K).Nodup ↔ (∀ k, k < 3 → (K k).Nodup) ∧ ∀ i j, i < 3 → j < 3 → i ≠ j → ∀ c, c ∈ K i → c ∉ K j := by
  unfold sp_all
  rw [List.nodup_append, List.nodup_append]
  constructor
  · rintro ⟨n0, ⟨n1, n2, d12⟩, d0⟩
    refine ⟨fun k hk => by rcases (show k = 0 ∨ k = 1 ∨ k = 2 by omega) with rfl | rfl | rfl <;> assumption, ?_⟩
    have a01 : ∀ c, c ∈ K 0 → c ∉ K 1 := fun c h1 h2 => d0 c h1 c (List.mem_append_left _ h2) rfl
    have a02 : ∀ c, c ∈ K 0 → c ∉ K 2 := fun c h1 h2 => d0 c h1 c (List.mem_append_right _ h2) rfl
    have a12 : ∀ c, c ∈ K 1 → c ∉ K 2 := fun c h1 h2 => d12 c h1 c h2 rfl
    intro i j hi hj hne c h1 h2
    rcases (show i = 0 ∨ i = 1 ∨ i = 2 by omega) with rfl | rfl | rfl <;> rcases (show j = 0 ∨ j = 1 ∨ j = 2 by omega) with rfl | rfl | rfl
    · exact hne rfl
    · exact a01 c h1 h2
    · exact a02 c h1 h2
    · exact a01 c h2 h1
    · exact hne rfl
    · exact a12 c h1 h2
    · exact a02 c h2 h1
    · exact a12 c h2 h1
    · exact hne rfl
  · rintro ⟨n, d⟩
    refine ⟨n 0 (by decide), ⟨n 1 (by decide), n 2 (by decide), fun a ha b hb e => d 1 2 (by decide) (by decide) (by decide) a ha (e ▸ hb)⟩, fun a ha b hb e => ?_⟩
    rcases List.mem_append.mp hb with h | h
    · exact d 0 1 (by decide) (by decide) (by decide) a ha (e ▸ h)
    · exact d 0 2 (by decide) (by decide) (by decide) a ha (e ▸ h)
theorem gd_ins {l : List Nat} {p c : Nat} (hp : p ≤ l.length) (i : Nat) : (l.insertIdx p c).getD i 0 = if i < p then l.getD i 0 else if i = p then c else l.getD (i - 1) 0 := by
  rw [List.getD_eq_getElem?_getD, List.getElem?_insertIdx]
  split
  · rw [List.getD_eq_getElem?_getD]
  · split
    · next h1 h2 => rw [if_pos (by omega)]; rfl
    · rw [List.getD_eq_getElem?_getD]
theorem ca_insert_0 (L : Nat) (σ : gz_Mm) (l : List Nat) (hl : l.length < 20) (rs : σ 28 0 = nI l.length) (rr : ∀ i, i < l.length → σ 25 i = nI (l.getD i 0)) (c p t : Nat) (hc : c < 20) (hp : p ≤ l.length) (ht : t < 2) :
    gz_Gi 0 yX1_insert cX1_insert 7 (some .int) L [.ref 23, .int (nI 0), .int (nI c), .int (nI p), .int (nI t)] σ (fun v σ' => v = nI (l.length + 1) ∧ (∀ k, k ≠ 25 → k ≠ 28 → k ≠ 29 → k ≠ 30 → σ' k = σ k) ∧ (σ' 28 = upd (σ 28) 0 (nI (l.length + 1)) ∧ σ' 29 = upd (σ 29) c (nI 0) ∧ σ' 30 = upd (σ 30) c (nI t)) ∧ ∀ i, i < l.length + 1 → σ' 25 i = nI ((l.insertIdx p c).getD i 0)) := by
  refine gz_Gi.of rfl rfl (fun Q hQ => ?_)
  refine zr_aload_n dX1_insert_0 rfl ?_
  refine zt_getr zg_X1_11 dX1_insert_1 rfl rfl rfl ?_
  refine zr_iload_n dX1_insert_4 rfl ?_
  refine zt_aldN (t := 25) dX1_insert_5 rfl rfl (by decide) (rfl) ?_
  refine zr_astore dX1_insert_6 (by decide) rfl ?_
  refine zr_aload_n dX1_insert_8 rfl ?_
  refine zt_getr zg_X1_16 dX1_insert_9 rfl rfl rfl ?_
  refine zr_iload_n dX1_insert_12 rfl ?_
  refine zt_ildN dX1_insert_13 rfl rfl (by decide) (rs) ?_
  refine zr_istore dX1_insert_14 (by decide) rfl ?_
  refine zl_dn (τ := gz_Mm) p (fun i q => (∀ k, k ≠ 25 → q k = σ k) ∧ (∀ j, j ≤ i → q 25 j = σ 25 j) ∧ ∀ j, i < j → j ≤ l.length → q 25 j = σ 25 (j - 1)) (fun i q => i ≤ l.length → gz_R 0 yX1_insert cX1_insert 7 (some .int) 0 0 16 [some (.ref 23), some (.int (nI 0)), some (.int (nI c)), some (.int (nI p)), some (.int (nI t)), some (.ref 25), some (.int (nI i))] [] (gz_mk L q) Q) ?_ ?_ l.length σ hp ⟨fun _ _ => rfl, fun _ _ => rfl, fun j h1 h2 => absurd h1 (by omega)⟩ (Nat.le_refl _)
  · rintro σ1 ⟨hf, h1, h2⟩ _
    refine zr_iload dX1_insert_16 rfl ?_
    refine zr_iload_n dX1_insert_18 rfl ?_
    refine zr_icmp_le 40 dX1_insert_19 (by decide) (fun hp19 => ?_) (fun h => absurd (Int32.le_refl _) h)
    refine zr_aload dX1_insert_40 rfl ?_
    refine zr_iload_n dX1_insert_42 rfl ?_
    refine zr_iload_n dX1_insert_43 rfl ?_
    refine zt_istN dX1_insert_44 rfl rfl rfl (by omega) ?_
    refine zr_aload_n dX1_insert_45 rfl ?_
    refine zt_getr zg_X1_20 dX1_insert_46 rfl rfl rfl ?_
    refine zr_iload_n dX1_insert_49 rfl ?_
    refine zr_iload_n dX1_insert_50 rfl ?_
    refine zt_istN dX1_insert_51 rfl rfl rfl (hc) ?_
    refine zr_aload_n dX1_insert_52 rfl ?_
    refine zt_getr zg_X1_23 dX1_insert_53 rfl rfl rfl ?_
    refine zr_iload_n dX1_insert_56 rfl ?_
    refine zr_iload dX1_insert_57 rfl ?_
    refine zt_zstN dX1_insert_59 rfl rfl rfl (hc) ((by rcases (show t = 0 ∨ t = 1 by omega) with e | e <;> rw [e] <;> rfl)) ?_
    refine zr_aload_n dX1_insert_60 rfl ?_
    refine zt_getr zg_X1_16 dX1_insert_61 rfl rfl rfl ?_
    refine zr_iload_n dX1_insert_64 rfl ?_
    refine zr_dup2 dX1_insert_65 rfl rfl ?_
    refine zt_ildN dX1_insert_66 rfl rfl (by decide) ((by simp [gz_wr]; rw [hf 28 (by decide)]; exact rs : _ = nI l.length)) ?_
    refine zr_iconst (v := 1) dX1_insert_67 kc_iconst_1 ?_
    refine zr_iadd dX1_insert_68 ?_
    refine zr_top (nI_1 _) ?_
    refine zt_istN dX1_insert_69 rfl rfl rfl (by decide) ?_
    refine zr_aload_n dX1_insert_70 rfl ?_
    refine zt_getr zg_X1_16 dX1_insert_71 rfl rfl rfl ?_
    refine zr_iload_n dX1_insert_74 rfl ?_
    refine zt_ildN dX1_insert_75 rfl rfl (by decide) ((by simp [gz_wr, upd] : _ = nI (l.length + 1))) ?_
    refine zr_iret dX1_insert_76 rfl (hQ _ _ ⟨rfl, fun k a1 a2 a3 a4 => ?_, ⟨?_, ?_, ?_⟩, fun i hi => ?_⟩)
    · rw [gz_wr_ne a2, gz_wr_ne a4, gz_wr_ne a3, gz_wr_ne a1]
      exact hf k a1
    · rw [gz_wr_eq, gz_wr_ne (by decide), gz_wr_ne (by decide), gz_wr_ne (by decide), hf 28 (by decide)]
    · rw [gz_wr_ne (by decide), gz_wr_ne (by decide), gz_wr_eq, gz_wr_ne (by decide), hf 29 (by decide)]
    · rw [gz_wr_ne (by decide), gz_wr_eq, gz_wr_ne (by decide), gz_wr_ne (by decide), hf 30 (by decide)]
    · rw [gz_wr_ne (by decide), gz_wr_ne (by decide), gz_wr_ne (by decide), gz_wr_eq, gd_ins hp]
      by_cases e1 : i < p
      · rw [if_pos e1, pk_un (by omega), h1 i (by omega)]
        exact rr i (by omega)
      · rw [if_neg e1]
        by_cases e2 : i = p
        · rw [if_pos e2, e2]
          simp [upd]
        · rw [if_neg e2, pk_un e2, h2 i (by omega) (by omega)]
          exact rr (i - 1) (by omega)
  · rintro i σ1 hi ⟨hf, h1, h2⟩ ih hil
    refine zr_iload dX1_insert_16 rfl ?_
    refine zr_iload_n dX1_insert_18 rfl ?_
    refine zr_icmp_le 40 dX1_insert_19 (by decide) (fun h => absurd ((nI_leI (by omega) (by omega)).mp h) (by omega)) (fun hp19 => ?_)
    refine zr_aload dX1_insert_22 rfl ?_
    refine zr_iload dX1_insert_24 rfl ?_
    refine zr_aload dX1_insert_26 rfl ?_
    refine zr_iload dX1_insert_28 rfl ?_
    refine zr_iconst (v := 1) dX1_insert_30 kc_iconst_1 ?_
    refine zr_isub dX1_insert_31 ?_
    refine zr_top (nI_pred i) ?_
    refine zt_ildN dX1_insert_32 rfl rfl (by omega) (rfl) ?_
    refine zt_istN dX1_insert_33 rfl rfl rfl (by omega) ?_
    refine zr_iinc (v := nI i) dX1_insert_34 rfl (kc_dec i) rfl ?_
    refine zr_goto 16 dX1_insert_37 (by decide) ?_
    refine ih _ ⟨fun k hk => (gz_wr_ne hk).trans (hf k hk), fun j hj => ?_, fun j hj1 hj2 => ?_⟩ (by omega)
    · rw [gz_wr_eq, pk_un (by omega)]
      exact h1 j (by omega)
    · rw [gz_wr_eq]
      by_cases e : j = i + 1
      · rw [e]
        simp only [upd, if_true]
        exact h1 i (by omega)
      · rw [pk_un e]
        exact h2 j (by omega) hj2
theorem ca_takeOut_0 (L : Nat) (σ : gz_Mm) (l : List Nat) (hl : l.length ≤ 20) (rs : σ 28 0 = nI l.length) (rr : ∀ i, i < l.length → σ 25 i = nI (l.getD i 0)) (hl2 : ∀ c, c ∈ l → c < 20) (c : Nat) (hc : c < 20) (ho : σ 29 c = nI 0) :
    gz_Gv 0 yX1_takeOut cX1_takeOut 6 none L [.ref 23, .int (nI c)] σ (fun σ' => (∀ k, k ≠ 25 → k ≠ 28 → k ≠ 29 → σ' k = σ k) ∧ (σ' 28 = upd (σ 28) 0 (nI (l.filter (fun j => decide (j ≠ c))).length) ∧ σ' 29 = upd (σ 29) c (-1)) ∧ ∀ i, i < (l.filter (fun j => decide (j ≠ c))).length → σ' 25 i = nI ((l.filter (fun j => decide (j ≠ c))).getD i 0)) := by
  refine gz_Gv.of rfl rfl (fun Q hQ => ?_)
  refine zr_aload_n dX1_takeOut_0 rfl ?_
  refine zt_getr zg_X1_20 dX1_takeOut_1 rfl rfl rfl ?_
  refine zr_iload_n dX1_takeOut_4 rfl ?_
  refine zt_ildN dX1_takeOut_5 rfl rfl (hc) (ho) ?_
  refine zr_istore_n dX1_takeOut_6 (by decide) rfl ?_
  refine zr_aload_n dX1_takeOut_7 rfl ?_
  refine zt_getr zg_X1_11 dX1_takeOut_8 rfl rfl rfl ?_
  refine zr_iload_n dX1_takeOut_11 rfl ?_
  refine zt_aldN (t := 25) dX1_takeOut_12 rfl rfl (by decide) (rfl) ?_
  refine zr_astore_n dX1_takeOut_13 (by decide) rfl ?_
  refine zr_iconst (v := 0) dX1_takeOut_14 kc_iconst_0 ?_
  refine zr_istore dX1_takeOut_15 (by decide) rfl ?_
  refine zr_iconst (v := 0) dX1_takeOut_17 kc_iconst_0 ?_
  refine zr_istore dX1_takeOut_18 (by decide) rfl ?_
  refine zl_up (τ := gz_Mm) l.length (fun i q => (∀ k, k ≠ 25 → q k = σ k) ∧ (∀ j, i ≤ j → q 25 j = σ 25 j) ∧ ∀ j, j < ((l.take i).filter (fun j => decide (j ≠ c))).length → q 25 j = nI (((l.take i).filter (fun j => decide (j ≠ c))).getD j 0)) (fun i q => gz_R 0 yX1_takeOut cX1_takeOut 6 none 0 0 20 [some (.ref 23), some (.int (nI c)), some (.int (nI 0)), some (.ref 25), some (.int (nI ((l.take i).filter (fun j => decide (j ≠ c))).length)), some (.int (nI i))] [] (gz_mk L q) Q) ?_ ?_ 0 σ (Nat.zero_le _) ⟨fun _ _ => rfl, fun _ _ => rfl, fun j hj => absurd hj (Nat.not_lt_zero j)⟩
  · rintro σ1 ⟨hf, h1, h2⟩
    rw [List.take_length] at *
    refine zr_iload dX1_takeOut_20 rfl ?_
    refine zr_aload_n dX1_takeOut_22 rfl ?_
    refine zt_getr zg_X1_16 dX1_takeOut_23 rfl rfl rfl ?_
    refine zr_iload_n dX1_takeOut_26 rfl ?_
    refine zt_ildN dX1_takeOut_27 rfl rfl (by decide) ((congrFun (hf 28 (by decide)) 0).trans rs) ?_
    refine zr_icmp_ge 56 dX1_takeOut_28 (by decide) (fun hp28 => ?_) (fun h => absurd (Int32.le_refl _) h)
    refine zr_aload_n dX1_takeOut_56 rfl ?_
    refine zt_getr zg_X1_16 dX1_takeOut_57 rfl rfl rfl ?_
    refine zr_iload_n dX1_takeOut_60 rfl ?_
    refine zr_iload dX1_takeOut_61 rfl ?_
    refine zt_istN dX1_takeOut_63 rfl rfl rfl (by decide) ?_
    refine zr_aload_n dX1_takeOut_64 rfl ?_
    refine zt_getr zg_X1_20 dX1_takeOut_65 rfl rfl rfl ?_
    refine zr_iload_n dX1_takeOut_68 rfl ?_
    refine zr_iconst (v := (-1)) dX1_takeOut_69 kc_iconst_m1 ?_
    refine zt_istN dX1_takeOut_70 rfl rfl rfl (hc) ?_
    refine zr_vret dX1_takeOut_71 rfl (hQ _ ⟨fun k a1 a2 a3 => ?_, ⟨?_, ?_⟩, fun i hi => ?_⟩)
    · rw [gz_wr_ne a3, gz_wr_ne a2]
      exact hf k a1
    · rw [gz_wr_ne (by decide), gz_wr_eq, hf 28 (by decide)]
    · rw [gz_wr_eq, gz_wr_ne (by decide), hf 29 (by decide)]
    · rw [gz_wr_ne (by decide), gz_wr_ne (by decide)]
      exact h2 i hi
  · rintro i σ1 hi ⟨hf, h1, h2⟩ ih
    have hri := (h1 i (Nat.le_refl _)).trans (rr i hi)
    have htk := ls_take hi
    have hm := hl2 _ (ls_mem hi)
    generalize l.getD i 0 = x at hri htk hm
    have hfl : ((l.take i).filter (fun j => decide (j ≠ c))).length ≤ i := Nat.le_trans (List.length_filter_le _ _) (by rw [List.length_take]; omega)
    refine zr_iload dX1_takeOut_20 rfl ?_
    refine zr_aload_n dX1_takeOut_22 rfl ?_
    refine zt_getr zg_X1_16 dX1_takeOut_23 rfl rfl rfl ?_
    refine zr_iload_n dX1_takeOut_26 rfl ?_
    refine zt_ildN dX1_takeOut_27 rfl rfl (by decide) ((congrFun (hf 28 (by decide)) 0).trans rs) ?_
    refine zr_icmp_ge 56 dX1_takeOut_28 (by decide) (fun h => absurd h (nI_ge hi (by omega))) (fun hp28 => ?_)
    refine zr_aload_n dX1_takeOut_31 rfl ?_
    refine zr_iload dX1_takeOut_32 rfl ?_
    refine zt_ildN dX1_takeOut_34 rfl rfl (by omega) (hri) ?_
    refine zr_iload_n dX1_takeOut_35 rfl ?_
    by_cases ex : x = c
    · have e : (l.take (i + 1)).filter (fun j => decide (j ≠ c)) = (l.take i).filter (fun j => decide (j ≠ c)) := by
        rw [htk, List.filter_append]
        simp [ex]
      refine zr_icmp_eq 50 dX1_takeOut_36 (by decide) (fun hp36 => ?_) (fun h => absurd (by rw [ex]) h)
      refine zr_iinc dX1_takeOut_50 rfl (kc_inc (i)) rfl ?_
      refine zr_goto 20 dX1_takeOut_53 (by decide) ?_
      rw [← e]
      refine ih σ1 ⟨hf, fun j hj => h1 j (by omega), ?_⟩
      rw [e]
      exact h2
    · have e : (l.take (i + 1)).filter (fun j => decide (j ≠ c)) = (l.take i).filter (fun j => decide (j ≠ c)) ++ [x] := by
        rw [htk, List.filter_append]
        simp [ex]
      have el : ((l.take (i + 1)).filter (fun j => decide (j ≠ c))).length = ((l.take i).filter (fun j => decide (j ≠ c))).length + 1 := by rw [e]; simp
      generalize hfe : (l.take i).filter (fun j => decide (j ≠ c)) = f at *
      refine zr_icmp_eq 50 dX1_takeOut_36 (by decide) (fun h => absurd ((nI_eq (by omega) (by omega)).mp h) ex) (fun hp36 => ?_)
      refine zr_aload_n dX1_takeOut_39 rfl ?_
      refine zr_iload dX1_takeOut_40 rfl ?_
      refine zr_aload_n dX1_takeOut_42 rfl ?_
      refine zr_iload dX1_takeOut_43 rfl ?_
      refine zt_ildN dX1_takeOut_45 rfl rfl (by omega) (hri) ?_
      refine zt_istN dX1_takeOut_46 rfl rfl rfl (by omega) ?_
      refine zr_iinc dX1_takeOut_47 rfl (kc_inc (f.length)) rfl ?_
      refine zr_iinc dX1_takeOut_50 rfl (kc_inc (i)) rfl ?_
      refine zr_goto 20 dX1_takeOut_53 (by decide) ?_
      rw [← el]
      refine ih _ ⟨fun k hk => (gz_wr_ne hk).trans (hf k hk), fun j hj => ?_, fun j hj => ?_⟩
      · rw [gz_wr_eq, pk_un (by omega)]
        exact h1 j (by omega)
      · rw [gz_wr_eq, e]
        rw [el] at hj
        by_cases ej : j = f.length
        · have := gd_right f [x] 0
          rw [Nat.add_zero] at this
          rw [ej, this]
          simp [upd]
        · rw [pk_un ej, gd_left (by omega)]
          exact h2 j (by omega)
theorem ca_insert_1 (L : Nat) (σ : gz_Mm) (l : List Nat) (hl : l.length < 20) (rs : σ 28 1 = nI l.length) (rr : ∀ i, i < l.length → σ 26 i = nI (l.getD i 0)) (c p t : Nat) (hc : c < 20) (hp : p ≤ l.length) (ht : t < 2) :
    gz_Gi 0 yX1_insert cX1_insert 7 (some .int) L [.ref 23, .int (nI 1), .int (nI c), .int (nI p), .int (nI t)] σ (fun v σ' => v = nI (l.length + 1) ∧ (∀ k, k ≠ 26 → k ≠ 28 → k ≠ 29 → k ≠ 30 → σ' k = σ k) ∧ (σ' 28 = upd (σ 28) 1 (nI (l.length + 1)) ∧ σ' 29 = upd (σ 29) c (nI 1) ∧ σ' 30 = upd (σ 30) c (nI t)) ∧ ∀ i, i < l.length + 1 → σ' 26 i = nI ((l.insertIdx p c).getD i 0)) := by
  refine gz_Gi.of rfl rfl (fun Q hQ => ?_)
  refine zr_aload_n dX1_insert_0 rfl ?_
  refine zt_getr zg_X1_11 dX1_insert_1 rfl rfl rfl ?_
  refine zr_iload_n dX1_insert_4 rfl ?_
  refine zt_aldN (t := 26) dX1_insert_5 rfl rfl (by decide) (rfl) ?_
  refine zr_astore dX1_insert_6 (by decide) rfl ?_
  refine zr_aload_n dX1_insert_8 rfl ?_
  refine zt_getr zg_X1_16 dX1_insert_9 rfl rfl rfl ?_
  refine zr_iload_n dX1_insert_12 rfl ?_
  refine zt_ildN dX1_insert_13 rfl rfl (by decide) (rs) ?_
  refine zr_istore dX1_insert_14 (by decide) rfl ?_
  refine zl_dn (τ := gz_Mm) p (fun i q => (∀ k, k ≠ 26 → q k = σ k) ∧ (∀ j, j ≤ i → q 26 j = σ 26 j) ∧ ∀ j, i < j → j ≤ l.length → q 26 j = σ 26 (j - 1)) (fun i q => i ≤ l.length → gz_R 0 yX1_insert cX1_insert 7 (some .int) 0 0 16 [some (.ref 23), some (.int (nI 1)), some (.int (nI c)), some (.int (nI p)), some (.int (nI t)), some (.ref 26), some (.int (nI i))] [] (gz_mk L q) Q) ?_ ?_ l.length σ hp ⟨fun _ _ => rfl, fun _ _ => rfl, fun j h1 h2 => absurd h1 (by omega)⟩ (Nat.le_refl _)
  · rintro σ1 ⟨hf, h1, h2⟩ _
    refine zr_iload dX1_insert_16 rfl ?_
    refine zr_iload_n dX1_insert_18 rfl ?_
    refine zr_icmp_le 40 dX1_insert_19 (by decide) (fun hp19 => ?_) (fun h => absurd (Int32.le_refl _) h)
    refine zr_aload dX1_insert_40 rfl ?_
    refine zr_iload_n dX1_insert_42 rfl ?_
    refine zr_iload_n dX1_insert_43 rfl ?_
    refine zt_istN dX1_insert_44 rfl rfl rfl (by omega) ?_
    refine zr_aload_n dX1_insert_45 rfl ?_
    refine zt_getr zg_X1_20 dX1_insert_46 rfl rfl rfl ?_
    refine zr_iload_n dX1_insert_49 rfl ?_
    refine zr_iload_n dX1_insert_50 rfl ?_
    refine zt_istN dX1_insert_51 rfl rfl rfl (hc) ?_
    refine zr_aload_n dX1_insert_52 rfl ?_
    refine zt_getr zg_X1_23 dX1_insert_53 rfl rfl rfl ?_
    refine zr_iload_n dX1_insert_56 rfl ?_
    refine zr_iload dX1_insert_57 rfl ?_
    refine zt_zstN dX1_insert_59 rfl rfl rfl (hc) ((by rcases (show t = 0 ∨ t = 1 by omega) with e | e <;> rw [e] <;> rfl)) ?_
    refine zr_aload_n dX1_insert_60 rfl ?_
    refine zt_getr zg_X1_16 dX1_insert_61 rfl rfl rfl ?_
    refine zr_iload_n dX1_insert_64 rfl ?_
    refine zr_dup2 dX1_insert_65 rfl rfl ?_
    refine zt_ildN dX1_insert_66 rfl rfl (by decide) ((by simp [gz_wr]; rw [hf 28 (by decide)]; exact rs : _ = nI l.length)) ?_
    refine zr_iconst (v := 1) dX1_insert_67 kc_iconst_1 ?_
    refine zr_iadd dX1_insert_68 ?_
    refine zr_top (nI_1 _) ?_
    refine zt_istN dX1_insert_69 rfl rfl rfl (by decide) ?_
    refine zr_aload_n dX1_insert_70 rfl ?_
    refine zt_getr zg_X1_16 dX1_insert_71 rfl rfl rfl ?_
    refine zr_iload_n dX1_insert_74 rfl ?_
    refine zt_ildN dX1_insert_75 rfl rfl (by decide) ((by simp [gz_wr, upd] : _ = nI (l.length + 1))) ?_
    refine zr_iret dX1_insert_76 rfl (hQ _ _ ⟨rfl, fun k a1 a2 a3 a4 => ?_, ⟨?_, ?_, ?_⟩, fun i hi => ?_⟩)
    · rw [gz_wr_ne a2, gz_wr_ne a4, gz_wr_ne a3, gz_wr_ne a1]
      exact hf k a1
    · rw [gz_wr_eq, gz_wr_ne (by decide), gz_wr_ne (by decide), gz_wr_ne (by decide), hf 28 (by decide)]
    · rw [gz_wr_ne (by decide), gz_wr_ne (by decide), gz_wr_eq, gz_wr_ne (by decide), hf 29 (by decide)]
    · rw [gz_wr_ne (by decide), gz_wr_eq, gz_wr_ne (by decide), gz_wr_ne (by decide), hf 30 (by decide)]
    · rw [gz_wr_ne (by decide), gz_wr_ne (by decide), gz_wr_ne (by decide), gz_wr_eq, gd_ins hp]
      by_cases e1 : i < p
      · rw [if_pos e1, pk_un (by omega), h1 i (by omega)]
        exact rr i (by omega)
      · rw [if_neg e1]
        by_cases e2 : i = p
        · rw [if_pos e2, e2]
          simp [upd]
        · rw [if_neg e2, pk_un e2, h2 i (by omega) (by omega)]
          exact rr (i - 1) (by omega)
  · rintro i σ1 hi ⟨hf, h1, h2⟩ ih hil
    refine zr_iload dX1_insert_16 rfl ?_
    refine zr_iload_n dX1_insert_18 rfl ?_
    refine zr_icmp_le 40 dX1_insert_19 (by decide) (fun h => absurd ((nI_leI (by omega) (by omega)).mp h) (by omega)) (fun hp19 => ?_)
    refine zr_aload dX1_insert_22 rfl ?_
    refine zr_iload dX1_insert_24 rfl ?_
    refine zr_aload dX1_insert_26 rfl ?_
    refine zr_iload dX1_insert_28 rfl ?_
    refine zr_iconst (v := 1) dX1_insert_30 kc_iconst_1 ?_
    refine zr_isub dX1_insert_31 ?_
    refine zr_top (nI_pred i) ?_
    refine zt_ildN dX1_insert_32 rfl rfl (by omega) (rfl) ?_
    refine zt_istN dX1_insert_33 rfl rfl rfl (by omega) ?_
    refine zr_iinc (v := nI i) dX1_insert_34 rfl (kc_dec i) rfl ?_
    refine zr_goto 16 dX1_insert_37 (by decide) ?_
    refine ih _ ⟨fun k hk => (gz_wr_ne hk).trans (hf k hk), fun j hj => ?_, fun j hj1 hj2 => ?_⟩ (by omega)
    · rw [gz_wr_eq, pk_un (by omega)]
      exact h1 j (by omega)
    · rw [gz_wr_eq]
      by_cases e : j = i + 1
      · rw [e]
        simp only [upd, if_true]
        exact h1 i (by omega)
      · rw [pk_un e]
        exact h2 j (by omega) hj2
theorem ca_takeOut_1 (L : Nat) (σ : gz_Mm) (l : List Nat) (hl : l.length ≤ 20) (rs : σ 28 1 = nI l.length) (rr : ∀ i, i < l.length → σ 26 i = nI (l.getD i 0)) (hl2 : ∀ c, c ∈ l → c < 20) (c : Nat) (hc : c < 20) (ho : σ 29 c = nI 1) :
    gz_Gv 0 yX1_takeOut cX1_takeOut 6 none L [.ref 23, .int (nI c)] σ (fun σ' => (∀ k, k ≠ 26 → k ≠ 28 → k ≠ 29 → σ' k = σ k) ∧ (σ' 28 = upd (σ 28) 1 (nI (l.filter (fun j => decide (j ≠ c))).length) ∧ σ' 29 = upd (σ 29) c (-1)) ∧ ∀ i, i < (l.filter (fun j => decide (j ≠ c))).length → σ' 26 i = nI ((l.filter (fun j => decide (j ≠ c))).getD i 0)) := by
  refine gz_Gv.of rfl rfl (fun Q hQ => ?_)
  refine zr_aload_n dX1_takeOut_0 rfl ?_
  refine zt_getr zg_X1_20 dX1_takeOut_1 rfl rfl rfl ?_
  refine zr_iload_n dX1_takeOut_4 rfl ?_
  refine zt_ildN dX1_takeOut_5 rfl rfl (hc) (ho) ?_
  refine zr_istore_n dX1_takeOut_6 (by decide) rfl ?_
  refine zr_aload_n dX1_takeOut_7 rfl ?_
  refine zt_getr zg_X1_11 dX1_takeOut_8 rfl rfl rfl ?_
  refine zr_iload_n dX1_takeOut_11 rfl ?_
  refine zt_aldN (t := 26) dX1_takeOut_12 rfl rfl (by decide) (rfl) ?_
  refine zr_astore_n dX1_takeOut_13 (by decide) rfl ?_
  refine zr_iconst (v := 0) dX1_takeOut_14 kc_iconst_0 ?_
  refine zr_istore dX1_takeOut_15 (by decide) rfl ?_
  refine zr_iconst (v := 0) dX1_takeOut_17 kc_iconst_0 ?_
  refine zr_istore dX1_takeOut_18 (by decide) rfl ?_
  refine zl_up (τ := gz_Mm) l.length (fun i q => (∀ k, k ≠ 26 → q k = σ k) ∧ (∀ j, i ≤ j → q 26 j = σ 26 j) ∧ ∀ j, j < ((l.take i).filter (fun j => decide (j ≠ c))).length → q 26 j = nI (((l.take i).filter (fun j => decide (j ≠ c))).getD j 0)) (fun i q => gz_R 0 yX1_takeOut cX1_takeOut 6 none 0 0 20 [some (.ref 23), some (.int (nI c)), some (.int (nI 1)), some (.ref 26), some (.int (nI ((l.take i).filter (fun j => decide (j ≠ c))).length)), some (.int (nI i))] [] (gz_mk L q) Q) ?_ ?_ 0 σ (Nat.zero_le _) ⟨fun _ _ => rfl, fun _ _ => rfl, fun j hj => absurd hj (Nat.not_lt_zero j)⟩
  · rintro σ1 ⟨hf, h1, h2⟩
    rw [List.take_length] at *
    refine zr_iload dX1_takeOut_20 rfl ?_
    refine zr_aload_n dX1_takeOut_22 rfl ?_
    refine zt_getr zg_X1_16 dX1_takeOut_23 rfl rfl rfl ?_
    refine zr_iload_n dX1_takeOut_26 rfl ?_
    refine zt_ildN dX1_takeOut_27 rfl rfl (by decide) ((congrFun (hf 28 (by decide)) 1).trans rs) ?_
    refine zr_icmp_ge 56 dX1_takeOut_28 (by decide) (fun hp28 => ?_) (fun h => absurd (Int32.le_refl _) h)
    refine zr_aload_n dX1_takeOut_56 rfl ?_
    refine zt_getr zg_X1_16 dX1_takeOut_57 rfl rfl rfl ?_
    refine zr_iload_n dX1_takeOut_60 rfl ?_
    refine zr_iload dX1_takeOut_61 rfl ?_
    refine zt_istN dX1_takeOut_63 rfl rfl rfl (by decide) ?_
    refine zr_aload_n dX1_takeOut_64 rfl ?_
    refine zt_getr zg_X1_20 dX1_takeOut_65 rfl rfl rfl ?_
    refine zr_iload_n dX1_takeOut_68 rfl ?_
    refine zr_iconst (v := (-1)) dX1_takeOut_69 kc_iconst_m1 ?_
    refine zt_istN dX1_takeOut_70 rfl rfl rfl (hc) ?_
    refine zr_vret dX1_takeOut_71 rfl (hQ _ ⟨fun k a1 a2 a3 => ?_, ⟨?_, ?_⟩, fun i hi => ?_⟩)
    · rw [gz_wr_ne a3, gz_wr_ne a2]
      exact hf k a1
    · rw [gz_wr_ne (by decide), gz_wr_eq, hf 28 (by decide)]
    · rw [gz_wr_eq, gz_wr_ne (by decide), hf 29 (by decide)]
    · rw [gz_wr_ne (by decide), gz_wr_ne (by decide)]
      exact h2 i hi
  · rintro i σ1 hi ⟨hf, h1, h2⟩ ih
    have hri := (h1 i (Nat.le_refl _)).trans (rr i hi)
    have htk := ls_take hi
    have hm := hl2 _ (ls_mem hi)
    generalize l.getD i 0 = x at hri htk hm
    have hfl : ((l.take i).filter (fun j => decide (j ≠ c))).length ≤ i := Nat.le_trans (List.length_filter_le _ _) (by rw [List.length_take]; omega)
    refine zr_iload dX1_takeOut_20 rfl ?_
    refine zr_aload_n dX1_takeOut_22 rfl ?_
    refine zt_getr zg_X1_16 dX1_takeOut_23 rfl rfl rfl ?_
    refine zr_iload_n dX1_takeOut_26 rfl ?_
    refine zt_ildN dX1_takeOut_27 rfl rfl (by decide) ((congrFun (hf 28 (by decide)) 1).trans rs) ?_
    refine zr_icmp_ge 56 dX1_takeOut_28 (by decide) (fun h => absurd h (nI_ge hi (by omega))) (fun hp28 => ?_)
    refine zr_aload_n dX1_takeOut_31 rfl ?_
    refine zr_iload dX1_takeOut_32 rfl ?_
    refine zt_ildN dX1_takeOut_34 rfl rfl (by omega) (hri) ?_
    refine zr_iload_n dX1_takeOut_35 rfl ?_
    by_cases ex : x = c
    · have e : (l.take (i + 1)).filter (fun j => decide (j ≠ c)) = (l.take i).filter (fun j => decide (j ≠ c)) := by
        rw [htk, List.filter_append]
        simp [ex]
      refine zr_icmp_eq 50 dX1_takeOut_36 (by decide) (fun hp36 => ?_) (fun h => absurd (by rw [ex]) h)
      refine zr_iinc dX1_takeOut_50 rfl (kc_inc (i)) rfl ?_
      refine zr_goto 20 dX1_takeOut_53 (by decide) ?_
      rw [← e]
      refine ih σ1 ⟨hf, fun j hj => h1 j (by omega), ?_⟩
      rw [e]
      exact h2
    · have e : (l.take (i + 1)).filter (fun j => decide (j ≠ c)) = (l.take i).filter (fun j => decide (j ≠ c)) ++ [x] := by
        rw [htk, List.filter_append]
        simp [ex]
      have el : ((l.take (i + 1)).filter (fun j => decide (j ≠ c))).length = ((l.take i).filter (fun j => decide (j ≠ c))).length + 1 := by rw [e]; simp
      generalize hfe : (l.take i).filter (fun j => decide (j ≠ c)) = f at *
      refine zr_icmp_eq 50 dX1_takeOut_36 (by decide) (fun h => absurd ((nI_eq (by omega) (by omega)).mp h) ex) (fun hp36 => ?_)
      refine zr_aload_n dX1_takeOut_39 rfl ?_
      refine zr_iload dX1_takeOut_40 rfl ?_
      refine zr_aload_n dX1_takeOut_42 rfl ?_
      refine zr_iload dX1_takeOut_43 rfl ?_
      refine zt_ildN dX1_takeOut_45 rfl rfl (by omega) (hri) ?_
      refine zt_istN dX1_takeOut_46 rfl rfl rfl (by omega) ?_
      refine zr_iinc dX1_takeOut_47 rfl (kc_inc (f.length)) rfl ?_
      refine zr_iinc dX1_takeOut_50 rfl (kc_inc (i)) rfl ?_
      refine zr_goto 20 dX1_takeOut_53 (by decide) ?_
      rw [← el]
      refine ih _ ⟨fun k hk => (gz_wr_ne hk).trans (hf k hk), fun j hj => ?_, fun j hj => ?_⟩
      · rw [gz_wr_eq, pk_un (by omega)]
        exact h1 j (by omega)
      · rw [gz_wr_eq, e]
        rw [el] at hj
        by_cases ej : j = f.length
        · have := gd_right f [x] 0
          rw [Nat.add_zero] at this
          rw [ej, this]
          simp [upd]
        · rw [pk_un ej, gd_left (by omega)]
          exact h2 j (by omega)
theorem ca_insert_2 (L : Nat) (σ : gz_Mm) (l : List Nat) (hl : l.length < 20) (rs : σ 28 2 = nI l.length) (rr : ∀ i, i < l.length → σ 27 i = nI (l.getD i 0)) (c p t : Nat) (hc : c < 20) (hp : p ≤ l.length) (ht : t < 2) :
    gz_Gi 0 yX1_insert cX1_insert 7 (some .int) L [.ref 23, .int (nI 2), .int (nI c), .int (nI p), .int (nI t)] σ (fun v σ' => v = nI (l.length + 1) ∧ (∀ k, k ≠ 27 → k ≠ 28 → k ≠ 29 → k ≠ 30 → σ' k = σ k) ∧ (σ' 28 = upd (σ 28) 2 (nI (l.length + 1)) ∧ σ' 29 = upd (σ 29) c (nI 2) ∧ σ' 30 = upd (σ 30) c (nI t)) ∧ ∀ i, i < l.length + 1 → σ' 27 i = nI ((l.insertIdx p c).getD i 0)) := by
  refine gz_Gi.of rfl rfl (fun Q hQ => ?_)
  refine zr_aload_n dX1_insert_0 rfl ?_
  refine zt_getr zg_X1_11 dX1_insert_1 rfl rfl rfl ?_
  refine zr_iload_n dX1_insert_4 rfl ?_
  refine zt_aldN (t := 27) dX1_insert_5 rfl rfl (by decide) (rfl) ?_
  refine zr_astore dX1_insert_6 (by decide) rfl ?_
  refine zr_aload_n dX1_insert_8 rfl ?_
  refine zt_getr zg_X1_16 dX1_insert_9 rfl rfl rfl ?_
  refine zr_iload_n dX1_insert_12 rfl ?_
  refine zt_ildN dX1_insert_13 rfl rfl (by decide) (rs) ?_
  refine zr_istore dX1_insert_14 (by decide) rfl ?_
  refine zl_dn (τ := gz_Mm) p (fun i q => (∀ k, k ≠ 27 → q k = σ k) ∧ (∀ j, j ≤ i → q 27 j = σ 27 j) ∧ ∀ j, i < j → j ≤ l.length → q 27 j = σ 27 (j - 1)) (fun i q => i ≤ l.length → gz_R 0 yX1_insert cX1_insert 7 (some .int) 0 0 16 [some (.ref 23), some (.int (nI 2)), some (.int (nI c)), some (.int (nI p)), some (.int (nI t)), some (.ref 27), some (.int (nI i))] [] (gz_mk L q) Q) ?_ ?_ l.length σ hp ⟨fun _ _ => rfl, fun _ _ => rfl, fun j h1 h2 => absurd h1 (by omega)⟩ (Nat.le_refl _)
  · rintro σ1 ⟨hf, h1, h2⟩ _
    refine zr_iload dX1_insert_16 rfl ?_
    refine zr_iload_n dX1_insert_18 rfl ?_
    refine zr_icmp_le 40 dX1_insert_19 (by decide) (fun hp19 => ?_) (fun h => absurd (Int32.le_refl _) h)
    refine zr_aload dX1_insert_40 rfl ?_
    refine zr_iload_n dX1_insert_42 rfl ?_
    refine zr_iload_n dX1_insert_43 rfl ?_
    refine zt_istN dX1_insert_44 rfl rfl rfl (by omega) ?_
    refine zr_aload_n dX1_insert_45 rfl ?_
    refine zt_getr zg_X1_20 dX1_insert_46 rfl rfl rfl ?_
    refine zr_iload_n dX1_insert_49 rfl ?_
    refine zr_iload_n dX1_insert_50 rfl ?_
    refine zt_istN dX1_insert_51 rfl rfl rfl (hc) ?_
    refine zr_aload_n dX1_insert_52 rfl ?_
    refine zt_getr zg_X1_23 dX1_insert_53 rfl rfl rfl ?_
    refine zr_iload_n dX1_insert_56 rfl ?_
    refine zr_iload dX1_insert_57 rfl ?_
    refine zt_zstN dX1_insert_59 rfl rfl rfl (hc) ((by rcases (show t = 0 ∨ t = 1 by omega) with e | e <;> rw [e] <;> rfl)) ?_
    refine zr_aload_n dX1_insert_60 rfl ?_
    refine zt_getr zg_X1_16 dX1_insert_61 rfl rfl rfl ?_
    refine zr_iload_n dX1_insert_64 rfl ?_
    refine zr_dup2 dX1_insert_65 rfl rfl ?_
    refine zt_ildN dX1_insert_66 rfl rfl (by decide) ((by simp [gz_wr]; rw [hf 28 (by decide)]; exact rs : _ = nI l.length)) ?_
    refine zr_iconst (v := 1) dX1_insert_67 kc_iconst_1 ?_
    refine zr_iadd dX1_insert_68 ?_
    refine zr_top (nI_1 _) ?_
    refine zt_istN dX1_insert_69 rfl rfl rfl (by decide) ?_
    refine zr_aload_n dX1_insert_70 rfl ?_
    refine zt_getr zg_X1_16 dX1_insert_71 rfl rfl rfl ?_
    refine zr_iload_n dX1_insert_74 rfl ?_
    refine zt_ildN dX1_insert_75 rfl rfl (by decide) ((by simp [gz_wr, upd] : _ = nI (l.length + 1))) ?_
    refine zr_iret dX1_insert_76 rfl (hQ _ _ ⟨rfl, fun k a1 a2 a3 a4 => ?_, ⟨?_, ?_, ?_⟩, fun i hi => ?_⟩)
    · rw [gz_wr_ne a2, gz_wr_ne a4, gz_wr_ne a3, gz_wr_ne a1]
      exact hf k a1
    · rw [gz_wr_eq, gz_wr_ne (by decide), gz_wr_ne (by decide), gz_wr_ne (by decide), hf 28 (by decide)]
    · rw [gz_wr_ne (by decide), gz_wr_ne (by decide), gz_wr_eq, gz_wr_ne (by decide), hf 29 (by decide)]
    · rw [gz_wr_ne (by decide), gz_wr_eq, gz_wr_ne (by decide), gz_wr_ne (by decide), hf 30 (by decide)]
    · rw [gz_wr_ne (by decide), gz_wr_ne (by decide), gz_wr_ne (by decide), gz_wr_eq, gd_ins hp]
      by_cases e1 : i < p
      · rw [if_pos e1, pk_un (by omega), h1 i (by omega)]
        exact rr i (by omega)
      · rw [if_neg e1]
        by_cases e2 : i = p
        · rw [if_pos e2, e2]
          simp [upd]
        · rw [if_neg e2, pk_un e2, h2 i (by omega) (by omega)]
          exact rr (i - 1) (by omega)
  · rintro i σ1 hi ⟨hf, h1, h2⟩ ih hil
    refine zr_iload dX1_insert_16 rfl ?_
    refine zr_iload_n dX1_insert_18 rfl ?_
    refine zr_icmp_le 40 dX1_insert_19 (by decide) (fun h => absurd ((nI_leI (by omega) (by omega)).mp h) (by omega)) (fun hp19 => ?_)
    refine zr_aload dX1_insert_22 rfl ?_
    refine zr_iload dX1_insert_24 rfl ?_
    refine zr_aload dX1_insert_26 rfl ?_
    refine zr_iload dX1_insert_28 rfl ?_
    refine zr_iconst (v := 1) dX1_insert_30 kc_iconst_1 ?_
    refine zr_isub dX1_insert_31 ?_
    refine zr_top (nI_pred i) ?_
    refine zt_ildN dX1_insert_32 rfl rfl (by omega) (rfl) ?_
    refine zt_istN dX1_insert_33 rfl rfl rfl (by omega) ?_
    refine zr_iinc (v := nI i) dX1_insert_34 rfl (kc_dec i) rfl ?_
    refine zr_goto 16 dX1_insert_37 (by decide) ?_
    refine ih _ ⟨fun k hk => (gz_wr_ne hk).trans (hf k hk), fun j hj => ?_, fun j hj1 hj2 => ?_⟩ (by omega)
    · rw [gz_wr_eq, pk_un (by omega)]
      exact h1 j (by omega)
    · rw [gz_wr_eq]
      by_cases e : j = i + 1
      · rw [e]
        simp only [upd, if_true]
        exact h1 i (by omega)
      · rw [pk_un e]
        exact h2 j (by omega) hj2
theorem ca_takeOut_2 (L : Nat) (σ : gz_Mm) (l : List Nat) (hl : l.length ≤ 20) (rs : σ 28 2 = nI l.length) (rr : ∀ i, i < l.length → σ 27 i = nI (l.getD i 0)) (hl2 : ∀ c, c ∈ l → c < 20) (c : Nat) (hc : c < 20) (ho : σ 29 c = nI 2) :
    gz_Gv 0 yX1_takeOut cX1_takeOut 6 none L [.ref 23, .int (nI c)] σ (fun σ' => (∀ k, k ≠ 27 → k ≠ 28 → k ≠ 29 → σ' k = σ k) ∧ (σ' 28 = upd (σ 28) 2 (nI (l.filter (fun j => decide (j ≠ c))).length) ∧ σ' 29 = upd (σ 29) c (-1)) ∧ ∀ i, i < (l.filter (fun j => decide (j ≠ c))).length → σ' 27 i = nI ((l.filter (fun j => decide (j ≠ c))).getD i 0)) := by
  refine gz_Gv.of rfl rfl (fun Q hQ => ?_)
  refine zr_aload_n dX1_takeOut_0 rfl ?_
  refine zt_getr zg_X1_20 dX1_takeOut_1 rfl rfl rfl ?_
  refine zr_iload_n dX1_takeOut_4 rfl ?_
  refine zt_ildN dX1_takeOut_5 rfl rfl (hc) (ho) ?_
  refine zr_istore_n dX1_takeOut_6 (by decide) rfl ?_
  refine zr_aload_n dX1_takeOut_7 rfl ?_
  refine zt_getr zg_X1_11 dX1_takeOut_8 rfl rfl rfl ?_
  refine zr_iload_n dX1_takeOut_11 rfl ?_
  refine zt_aldN (t := 27) dX1_takeOut_12 rfl rfl (by decide) (rfl) ?_
  refine zr_astore_n dX1_takeOut_13 (by decide) rfl ?_
  refine zr_iconst (v := 0) dX1_takeOut_14 kc_iconst_0 ?_
  refine zr_istore dX1_takeOut_15 (by decide) rfl ?_
  refine zr_iconst (v := 0) dX1_takeOut_17 kc_iconst_0 ?_
  refine zr_istore dX1_takeOut_18 (by decide) rfl ?_
  refine zl_up (τ := gz_Mm) l.length (fun i q => (∀ k, k ≠ 27 → q k = σ k) ∧ (∀ j, i ≤ j → q 27 j = σ 27 j) ∧ ∀ j, j < ((l.take i).filter (fun j => decide (j ≠ c))).length → q 27 j = nI (((l.take i).filter (fun j => decide (j ≠ c))).getD j 0)) (fun i q => gz_R 0 yX1_takeOut cX1_takeOut 6 none 0 0 20 [some (.ref 23), some (.int (nI c)), some (.int (nI 2)), some (.ref 27), some (.int (nI ((l.take i).filter (fun j => decide (j ≠ c))).length)), some (.int (nI i))] [] (gz_mk L q) Q) ?_ ?_ 0 σ (Nat.zero_le _) ⟨fun _ _ => rfl, fun _ _ => rfl, fun j hj => absurd hj (Nat.not_lt_zero j)⟩
  · rintro σ1 ⟨hf, h1, h2⟩
    rw [List.take_length] at *
    refine zr_iload dX1_takeOut_20 rfl ?_
    refine zr_aload_n dX1_takeOut_22 rfl ?_
    refine zt_getr zg_X1_16 dX1_takeOut_23 rfl rfl rfl ?_
    refine zr_iload_n dX1_takeOut_26 rfl ?_
    refine zt_ildN dX1_takeOut_27 rfl rfl (by decide) ((congrFun (hf 28 (by decide)) 2).trans rs) ?_
    refine zr_icmp_ge 56 dX1_takeOut_28 (by decide) (fun hp28 => ?_) (fun h => absurd (Int32.le_refl _) h)
    refine zr_aload_n dX1_takeOut_56 rfl ?_
    refine zt_getr zg_X1_16 dX1_takeOut_57 rfl rfl rfl ?_
    refine zr_iload_n dX1_takeOut_60 rfl ?_
    refine zr_iload dX1_takeOut_61 rfl ?_
    refine zt_istN dX1_takeOut_63 rfl rfl rfl (by decide) ?_
    refine zr_aload_n dX1_takeOut_64 rfl ?_
    refine zt_getr zg_X1_20 dX1_takeOut_65 rfl rfl rfl ?_
    refine zr_iload_n dX1_takeOut_68 rfl ?_
    refine zr_iconst (v := (-1)) dX1_takeOut_69 kc_iconst_m1 ?_
    refine zt_istN dX1_takeOut_70 rfl rfl rfl (hc) ?_
    refine zr_vret dX1_takeOut_71 rfl (hQ _ ⟨fun k a1 a2 a3 => ?_, ⟨?_, ?_⟩, fun i hi => ?_⟩)
    · rw [gz_wr_ne a3, gz_wr_ne a2]
      exact hf k a1
    · rw [gz_wr_ne (by decide), gz_wr_eq, hf 28 (by decide)]
    · rw [gz_wr_eq, gz_wr_ne (by decide), hf 29 (by decide)]
    · rw [gz_wr_ne (by decide), gz_wr_ne (by decide)]
      exact h2 i hi
  · rintro i σ1 hi ⟨hf, h1, h2⟩ ih
    have hri := (h1 i (Nat.le_refl _)).trans (rr i hi)
    have htk := ls_take hi
    have hm := hl2 _ (ls_mem hi)
    generalize l.getD i 0 = x at hri htk hm
    have hfl : ((l.take i).filter (fun j => decide (j ≠ c))).length ≤ i := Nat.le_trans (List.length_filter_le _ _) (by rw [List.length_take]; omega)
    refine zr_iload dX1_takeOut_20 rfl ?_
    refine zr_aload_n dX1_takeOut_22 rfl ?_
    refine zt_getr zg_X1_16 dX1_takeOut_23 rfl rfl rfl ?_
    refine zr_iload_n dX1_takeOut_26 rfl ?_
    refine zt_ildN dX1_takeOut_27 rfl rfl (by decide) ((congrFun (hf 28 (by decide)) 2).trans rs) ?_
    refine zr_icmp_ge 56 dX1_takeOut_28 (by decide) (fun h => absurd h (nI_ge hi (by omega))) (fun hp28 => ?_)
    refine zr_aload_n dX1_takeOut_31 rfl ?_
    refine zr_iload dX1_takeOut_32 rfl ?_
    refine zt_ildN dX1_takeOut_34 rfl rfl (by omega) (hri) ?_
    refine zr_iload_n dX1_takeOut_35 rfl ?_
    by_cases ex : x = c
    · have e : (l.take (i + 1)).filter (fun j => decide (j ≠ c)) = (l.take i).filter (fun j => decide (j ≠ c)) := by
        rw [htk, List.filter_append]
        simp [ex]
      refine zr_icmp_eq 50 dX1_takeOut_36 (by decide) (fun hp36 => ?_) (fun h => absurd (by rw [ex]) h)
      refine zr_iinc dX1_takeOut_50 rfl (kc_inc (i)) rfl ?_
      refine zr_goto 20 dX1_takeOut_53 (by decide) ?_
      rw [← e]
      refine ih σ1 ⟨hf, fun j hj => h1 j (by omega), ?_⟩
      rw [e]
      exact h2
    · have e : (l.take (i + 1)).filter (fun j => decide (j ≠ c)) = (l.take i).filter (fun j => decide (j ≠ c)) ++ [x] := by
        rw [htk, List.filter_append]
        simp [ex]
      have el : ((l.take (i + 1)).filter (fun j => decide (j ≠ c))).length = ((l.take i).filter (fun j => decide (j ≠ c))).length + 1 := by rw [e]; simp
      generalize hfe : (l.take i).filter (fun j => decide (j ≠ c)) = f at *
      refine zr_icmp_eq 50 dX1_takeOut_36 (by decide) (fun h => absurd ((nI_eq (by omega) (by omega)).mp h) ex) (fun hp36 => ?_)
      refine zr_aload_n dX1_takeOut_39 rfl ?_
      refine zr_iload dX1_takeOut_40 rfl ?_
      refine zr_aload_n dX1_takeOut_42 rfl ?_
      refine zr_iload dX1_takeOut_43 rfl ?_
      refine zt_ildN dX1_takeOut_45 rfl rfl (by omega) (hri) ?_
      refine zt_istN dX1_takeOut_46 rfl rfl rfl (by omega) ?_
      refine zr_iinc dX1_takeOut_47 rfl (kc_inc (f.length)) rfl ?_
      refine zr_iinc dX1_takeOut_50 rfl (kc_inc (i)) rfl ?_
      refine zr_goto 20 dX1_takeOut_53 (by decide) ?_
      rw [← el]
      refine ih _ ⟨fun k hk => (gz_wr_ne hk).trans (hf k hk), fun j hj => ?_, fun j hj => ?_⟩
      · rw [gz_wr_eq, pk_un (by omega)]
        exact h1 j (by omega)
      · rw [gz_wr_eq, e]
        rw [el] at hj
        by_cases ej : j = f.length
        · have := gd_right f [x] 0
          rw [Nat.add_zero] at this
          rw [ej, this]
          simp [upd]
        · rw [pk_un ej, gd_left (by omega)]
          exact h2 j (by omega)
