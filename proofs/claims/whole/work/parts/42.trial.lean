/-! ===== Trial ===== -/
def rx_T (σ : gz_Mm) (C : sp_T) : Prop := σ 36 2 = nI (C 9 4) ∧ ∀ t, t < C 9 4 → σ 37 t = nI (C 10 t) ∧ σ 38 t = nI (C 11 t)
/-- the trial's own machine is in order -/
def rx_R (σ : gz_Mm) : Prop := (∃ m, rx_m σ 42 m ∧ sp_wm m) ∧ σ 42 5 = 0
/-- .. and has seen test t without a stuck line -/
def rx_S (σ : gz_Mm) (C : sp_T) (K : sp_K) (t : Nat) : Prop := rx_R σ ∧ σ 41 5 = nI (C 10 t) ∧ σ 41 6 = nI (C 11 t) ∧ σ 47 2 = nI (C 9 3) ∧ σ 47 3 = nI (sp_len K) ∧ (∀ i, i < C 9 3 → σ 48 i = sp_sO C K 0 0 t i) ∧ ∀ i, i < sp_len K → σ 49 i = sp_sU C K 0 0 t i
theorem sp_b_nar (b : Bool) : narrow .boolean (.int (sp_b b)) = .int (sp_b b) := by cases b <;> rfl
theorem rx_m.unstick {σ : gz_Mm} {m : sp_T} (h : rx_m σ 42 m) : rx_m (gz_wr σ 43 5 (-1)) 42 (sp_w m 2 0 0) := by
  obtain ⟨a1, a2, a3, a4, a5, a6, a7, a8, a9⟩ := h
  unfold rx_m
  rw [gz_wr_ne (a := 42) (by omega), gz_wr_ne (a := 42 + 2) (by omega), gz_wr_ne (a := 42 + 3) (by omega), show 42 + 1 = 43 from rfl, gz_wr_eq]
  simp [sp_w, upd]
  exact ⟨a1, a2, rfl, a5, a6, a7, a8, a9⟩
theorem rx_m.stick {σ : gz_Mm} {m : sp_T} (h : rx_m σ 42 m) (l v : Nat) : rx_m (gz_wr (gz_wr σ 43 5 (nI l)) 43 6 (nI v)) 42 (sp_w (sp_w m 2 0 (l + 1)) 2 1 v) := by
  obtain ⟨a1, a2, a3, a4, a5, a6, a7, a8, a9⟩ := h
  unfold rx_m
  rw [gz_wr_ne (a := 42) (by omega), gz_wr_ne (a := 42) (by omega), gz_wr_ne (a := 42 + 2) (by omega), gz_wr_ne (a := 42 + 2) (by omega), gz_wr_ne (a := 42 + 3) (by omega), gz_wr_ne (a := 42 + 3) (by omega), show 42 + 1 = 43 from rfl, gz_wr_eq, gz_wr_eq]
  simp [sp_w, upd]
  exact ⟨a1, a2, (pk_m1 l).symm, a5, a6, a7, a8, a9⟩
theorem sp_wm.unstick {m : sp_T} (h : sp_wm m) : sp_wm (sp_w m 2 0 0) := by
  obtain ⟨a1, a2, a3, a4, a5⟩ := h
  unfold sp_wm
  simp [sp_w]
  exact ⟨a1, a2, a5⟩
theorem sp_wm.stick {m : sp_T} (h : sp_wm m) {l v : Nat} (hl : l < 80) (hv : v ≤ 1) : sp_wm (sp_w (sp_w m 2 0 (l + 1)) 2 1 v) := by
  obtain ⟨a1, a2, a3, a4, a5⟩ := h
  unfold sp_wm
  simp [sp_w]
  exact ⟨a1, a2, by omega, hv, a5⟩
theorem sp_wm.fresh {m : sp_T} (h : sp_wm m) : sp_wm (sp_w (sp_w (sp_row m 1 (fun _ => 2)) 2 2 0) 2 3 4) := sp_w_wm2 (sp_w_wm2 (sp_row_wm1 h (fun _ => Nat.le_refl 2)) (by omega) (by omega) (by omega) (by omega) (by omega) (by omega) (by omega)) (by omega) (by omega) (by omega) (by omega) (by omega) (by omega) (by omega)
theorem ca_startWith (L : Nat) (σ : gz_Mm) (C : sp_T) (K : sp_K) (hC : sp_wf C) (hK : sp_wk C K) (rC : rx_C σ C) (rK : rx_K σ C K) (rT : rx_T σ C) (rR : rx_R σ) (t : Nat) (ht : t < C 9 4) :
    gz_Gv 5 yX7_startWith cX7_startWith 2 none L [.ref 41, .int (nI t)] σ (fun σ' => (∀ k, (k < 40 ∨ 49 < k) → σ' k = σ k) ∧ rx_S σ' C K t) := by
  obtain ⟨⟨m, rM, hm⟩, r5⟩ := rR
  obtain ⟨b1, b2⟩ := rT.2 t ht
  have h20 := hC.1.2.2.2.2
  obtain ⟨t1, t2⟩ := hC.2.2.2.2 t ht
  refine gz_Gv.of rfl rfl (fun Q hQ => ?_)
  refine zr_aload_n dX7_startWith_0 rfl ?_
  refine zr_aload_n dX7_startWith_1 rfl ?_
  refine zt_getr zg_X7_27 dX7_startWith_2 rfl rfl rfl ?_
  refine zt_getr zg_X7_31 dX7_startWith_5 rfl rfl rfl ?_
  refine zr_iload_n dX7_startWith_8 rfl ?_
  refine zt_ildN dX7_startWith_9 rfl rfl (by omega) (b1) ?_
  refine zt_put zp_X7_37 dX7_startWith_10 rfl rfl rfl rfl ?_
  refine zr_aload_n dX7_startWith_13 rfl ?_
  refine zr_aload_n dX7_startWith_14 rfl ?_
  refine zt_getr zg_X7_27 dX7_startWith_15 rfl rfl rfl ?_
  refine zt_getr zg_X7_40 dX7_startWith_18 rfl rfl rfl ?_
  refine zr_iload_n dX7_startWith_21 rfl ?_
  refine zt_ildN dX7_startWith_22 rfl rfl (by omega) (((congrFun (gz_wr_ne (by decide)) t).trans b2)) ?_
  refine zt_put zp_X7_43 dX7_startWith_23 rfl rfl rfl rfl ?_
  refine zr_aload_n dX7_startWith_26 rfl ?_
  refine zt_getr zg_X7_19 dX7_startWith_27 rfl rfl rfl ?_
  refine zt_getr zg_X7_45 dX7_startWith_30 rfl rfl rfl ?_
  refine zt_callVv (As := []) (ca_unstick_42 L _) zc_X7_51 rfl dX7_startWith_33 rfl rfl rfl rfl rfl rfl ?_
  generalize hσ1 : gz_wr (gz_wr σ 41 5 (nI (C 10 t))) 41 6 (nI (C 11 t)) = σ1
  have g1 : ∀ k, k ≠ 41 → σ1 k = σ k := fun k hk => by rw [← hσ1, gz_wr_ne hk, gz_wr_ne hk]
  have g41 : σ1 41 5 = nI (C 10 t) ∧ σ1 41 6 = nI (C 11 t) := by rw [← hσ1]; simp [gz_wr, upd]
  have rM1 : rx_m σ1 42 m := rM.kept (fun k h1 h2 => g1 k (by omega))
  have rM2 := rM1.unstick
  have g2 : ∀ k, k ≠ 41 → k ≠ 43 → gz_wr σ1 43 5 (-1) k = σ k := fun k h1 h2 => (gz_wr_ne h2).trans (g1 k h1)
  refine zr_aload_n dX7_startWith_36 rfl ?_
  refine zt_getr zg_X7_19 dX7_startWith_37 rfl rfl rfl ?_
  refine zt_cVv (As := []) (ca_restart_42 L _ _ rM2) zc_X7_56 rfl dX7_startWith_40 rfl rfl rfl rfl rfl rfl (fun σ3 h3 => ?_)
  obtain ⟨rM3, ⟨p5, p7⟩, f3⟩ := h3
  have g3 : ∀ k, k < 41 ∨ 46 < k → σ3 k = σ k := fun k hk => (f3 k (by omega)).trans (g2 k (by omega) (by omega))
  have wm3 := hm.unstick.fresh
  have q41 : σ3 41 = σ1 41 := (f3 41 (by decide)).trans (gz_wr_ne (by decide))
  refine zr_aload_n dX7_startWith_43 rfl ?_
  refine zt_getr zg_X7_23 dX7_startWith_44 rfl rfl rfl ?_
  refine zr_aload_n dX7_startWith_47 rfl ?_
  refine zt_getr zg_X7_19 dX7_startWith_48 rfl rfl rfl ?_
  refine zr_aload_n dX7_startWith_51 rfl ?_
  refine zt_geti zg_X7_37 dX7_startWith_52 rfl rfl rfl ?_
  refine zr_top ((congrFun q41 5).trans g41.1) ?_
  refine zr_aload_n dX7_startWith_55 rfl ?_
  refine zt_geti zg_X7_43 dX7_startWith_56 rfl rfl rfl ?_
  refine zr_top ((congrFun q41 6).trans g41.2) ?_
  refine zr_aload_n dX7_startWith_59 rfl ?_
  refine zt_getr zg_X7_10 dX7_startWith_60 rfl rfl rfl ?_
  refine zt_cVi (As := [_, _, _, _]) (ca_run_1 L σ3 C _ K hC wm3 hK (rC.kept (fun k h1 h2 => g3 k (by omega))) (rK.kept (fun k h1 h2 => g3 k (by omega))) rM3 0 (C 10 t) (C 11 t) (by decide) (p5.trans ((congrFun (g2 42 (by decide) (by decide)) 5).trans r5)) (by omega) (by omega)) zc_X7_59 rfl dX7_startWith_63 rfl rfl rfl rfl rfl rfl (fun r4 σ4 h4 => ?_)
  refine zr_pop dX7_startWith_66 rfl ?_
  obtain ⟨-, M4, f4, s1, s2, s3, s4⟩ := h4
  obtain ⟨u1, u2⟩ := sp_seen (m := sp_w (sp_w (sp_row (sp_w m 2 0 0) 1 (fun _ => 2)) 2 2 0) 2 3 4) hC hK 0 t 0 0 (by simp [sp_w]) (fun c hc => by simp [sp_w, sp_row]) (by simp [sp_w, sp_row]) (fun q => absurd rfl q)
  refine zr_vret dX7_startWith_67 rfl (hQ _ ⟨fun k hk => ?_, ⟨⟨_, M4.2.2.1, M4.2.2.2.1⟩, M4.2.2.2.2.1⟩, ?_, ?_, s1, s2, fun i hi => (s3 i hi).trans (u1 i hi), fun i hi => (s4 i hi).trans (u2 i hi)⟩)
  · exact (f4 k (by omega) (by omega) (by omega) (by omega) (by omega)).trans (g3 k (by omega))
  · rw [f4 41 (by decide) (by decide) (by decide) (by decide) (by decide), q41]
    exact g41.1
  · rw [f4 41 (by decide) (by decide) (by decide) (by decide) (by decide), q41]
    exact g41.2
theorem ca_reveals (L : Nat) (σ : gz_Mm) (C : sp_T) (K : sp_K) (hC : sp_wf C) (hK : sp_wk C K) (rC : rx_C σ C) (rK : rx_K σ C K) (t : Nat) (ht : t < C 9 4) (rS : rx_S σ C K t) (l v : Nat) (hl : l < C 9 0) (hv : v ≤ 1) :
    gz_Gi 5 yX7_reveals cX7_reveals 3 (some .boolean) L [.ref 41, .int (nI l), .int (nI v)] σ (fun r σ' => r = sp_b (sp_shows C K t l v) ∧ (∀ k, (k < 40 ∨ 52 < k) → σ' k = σ k) ∧ rx_S σ' C K t) := by
  obtain ⟨⟨⟨m, rM, hm⟩, r5⟩, e5, e6, w1, w2, w3, w4⟩ := rS
  have h20 := hC.1.2.2.2.2
  have h80 := hC.1.1
  obtain ⟨t1, t2⟩ := hC.2.2.2.2 t ht
  refine gz_Gi.of rfl rfl (fun Q hQ => ?_)
  refine zr_aload_n dX7_reveals_0 rfl ?_
  refine zt_getr zg_X7_19 dX7_reveals_1 rfl rfl rfl ?_
  refine zt_getr zg_X7_45 dX7_reveals_4 rfl rfl rfl ?_
  refine zr_iload_n dX7_reveals_7 rfl ?_
  refine zr_iload_n dX7_reveals_8 rfl ?_
  refine zt_callVv (As := [_, _]) (ca_stickAt_42 L _ _ _) zc_X7_65 rfl dX7_reveals_9 rfl rfl rfl rfl rfl rfl ?_
  have rM2 := rM.stick l v
  generalize hσ2 : gz_wr (gz_wr σ 43 5 (nI l)) 43 6 (nI v) = σ2 at rM2
  have g2 : ∀ k, k ≠ 43 → σ2 k = σ k := fun k hk => by rw [← hσ2, gz_wr_ne hk, gz_wr_ne hk]
  refine zr_aload_n dX7_reveals_12 rfl ?_
  refine zt_getr zg_X7_19 dX7_reveals_13 rfl rfl rfl ?_
  refine zt_cVv (As := []) (ca_restart_42 L _ _ rM2) zc_X7_56 rfl dX7_reveals_16 rfl rfl rfl rfl rfl rfl (fun σ3 h3 => ?_)
  obtain ⟨rM3, ⟨p5, p7⟩, f3⟩ := h3
  have g3 : ∀ k, k < 42 ∨ 46 < k → σ3 k = σ k := fun k hk => (f3 k (by omega)).trans (g2 k (by omega))
  have wm3 := (hm.stick (l := l) (v := v) (by omega) hv).fresh
  refine zr_aload_n dX7_reveals_19 rfl ?_
  refine zt_getr zg_X7_23 dX7_reveals_20 rfl rfl rfl ?_
  refine zr_aload_n dX7_reveals_23 rfl ?_
  refine zt_getr zg_X7_19 dX7_reveals_24 rfl rfl rfl ?_
  refine zr_aload_n dX7_reveals_27 rfl ?_
  refine zt_geti zg_X7_37 dX7_reveals_28 rfl rfl rfl ?_
  refine zr_top ((congrFun (g3 41 (by decide)) 5).trans e5) ?_
  refine zr_aload_n dX7_reveals_31 rfl ?_
  refine zt_geti zg_X7_43 dX7_reveals_32 rfl rfl rfl ?_
  refine zr_top ((congrFun (g3 41 (by decide)) 6).trans e6) ?_
  refine zr_aload_n dX7_reveals_35 rfl ?_
  refine zt_getr zg_X7_16 dX7_reveals_36 rfl rfl rfl ?_
  refine zt_cVi (As := [_, _, _, _]) (ca_run_2 L σ3 C _ K hC wm3 hK (rC.kept (fun k h1 h2 => g3 k (by omega))) (rK.kept (fun k h1 h2 => g3 k (by omega))) rM3 0 (C 10 t) (C 11 t) (by decide) (p5.trans ((congrFun (g2 42 (by decide)) 5).trans r5)) (by omega) (by omega)) zc_X7_59 rfl dX7_reveals_39 rfl rfl rfl rfl rfl rfl (fun r4 σ4 h4 => ?_)
  refine zr_pop dX7_reveals_42 rfl ?_
  obtain ⟨-, M4, f4, s1, s2, s3, s4⟩ := h4
  obtain ⟨u1, u2⟩ := sp_seen (m := sp_w (sp_w (sp_row (sp_w (sp_w m 2 0 (l + 1)) 2 1 v) 1 (fun _ => 2)) 2 2 0) 2 3 4) hC hK 0 t (l + 1) v (by simp [sp_w]) (fun c hc => by simp [sp_w, sp_row]) (by simp [sp_w, sp_row]) (fun q => by simp [sp_w, sp_row])
  have k4 : ∀ k, k = 41 ∨ k = 47 ∨ k = 48 ∨ k = 49 → σ4 k = σ k := fun k hk => (f4 k (by omega) (by omega) (by omega) (by omega) (by omega)).trans (g3 k (by omega))
  have hln := sp_len_le hC hK
  have es : (sp_df (σ4 48) (σ4 51) (C 9 3) || sp_df (σ4 49) (σ4 52) (sp_len K)) = sp_shows C K t l v := by
    unfold sp_shows
    rw [k4 48 (by omega), k4 49 (by omega), sp_df_congr (n := C 9 3) (fun i hi => ⟨w3 i hi, (s3 i hi).trans (u1 i hi)⟩), sp_df_congr (n := sp_len K) (fun i hi => ⟨w4 i hi, (s4 i hi).trans (u2 i hi)⟩)]
  refine zr_aload_n dX7_reveals_43 rfl ?_
  refine zt_getr zg_X7_10 dX7_reveals_44 rfl rfl rfl ?_
  refine zr_aload_n dX7_reveals_47 rfl ?_
  refine zt_getr zg_X7_16 dX7_reveals_48 rfl rfl rfl ?_
  refine zt_callVi (As := [_]) (ca_known L σ4 (C 9 3) (sp_len K) hC.1.2.2.2.1 hln.2 ((congrFun (k4 47 (by omega)) 2).trans w1) ((congrFun (k4 47 (by omega)) 3).trans w2)) zc_X7_69 rfl dX7_reveals_51 rfl rfl rfl rfl rfl rfl ?_
  refine zr_zret dX7_reveals_54 rfl (sp_b_nar _) (hQ _ _ ⟨by rw [es], fun k hk => ?_, ⟨⟨_, M4.2.2.1, M4.2.2.2.1⟩, M4.2.2.2.2.1⟩, ?_⟩)
  · exact (f4 k (by omega) (by omega) (by omega) (by omega) (by omega)).trans (g3 k (by omega))
  · rw [k4 41 (by omega), k4 47 (by omega), k4 48 (by omega), k4 49 (by omega)]
    exact ⟨e5, e6, w1, w2, w3, w4⟩
/-! the combinations -/
def sp_mq (C : sp_T) (b : Nat) : sp_T := fun a i => if a = 0 then b / 2 ^ i % 2 else if a = 1 then b / 2 ^ (C 9 1) / 2 ^ i % 2 else 0
def sp_sm (C : sp_T) (l m : Nat) : Nat → Nat
  | 0 => 0
  | n + 1 => sp_sm C l m n + (if sp_val C (sp_mq C n) l = sp_val C (sp_mq C n) m then 1 else 0)
theorem sp_sm_le (C : sp_T) (l m : Nat) : ∀ n, sp_sm C l m n ≤ n
  | 0 => Nat.le_refl 0
  | n + 1 => by
    have := sp_sm_le C l m n
    unfold sp_sm
    split <;> omega
theorem nI_max (l m : Nat) (hl : l < 1000) (hm : m < 1000) : (if nI l < nI m then nI m else nI l) = nI (if l < m then m else l) := by
  by_cases h : l < m
  · rw [if_pos h, if_pos (nI_lt h (by omega))]
  · rw [if_neg h, if_neg (nI_nlt (by omega) (by omega))]
theorem nI_shl {k : Nat} (hk : k ≤ 10) : (1 : Int32) <<< (nI k &&& 31) = nI (2 ^ k) := by
  have h2 : 2 ^ k ≤ 2 ^ 10 := Nat.pow_le_pow_right (by decide) hk
  have := pk_shlN (n := 1) (nI k &&& 31) k (bt_s k (by omega)) (by omega)
  rw [Nat.one_mul] at this
  exact this
theorem ca_countAlike (L : Nat) (σ : gz_Mm) (C : sp_T) (hC : sp_wf C) (rC : rx_C σ C) (rR : rx_R σ) (h10 : C 9 1 + C 9 2 ≤ 10) (l m : Nat) (hl : l < C 9 0) (hm : m < C 9 0) :
    gz_Gi 3 yX7_countAlike cX7_countAlike 8 (some .int) L [.ref 41, .int (nI l), .int (nI m)] σ (fun r σ' => r = nI (sp_sm C l m (2 ^ (C 9 1 + C 9 2))) ∧ (∀ k, (k < 42 ∨ 46 < k) → σ' k = σ k) ∧ rx_R σ') := by
  obtain ⟨⟨m0, rM, hwm⟩, r5⟩ := rR
  have h80 := hC.1.1
  have hp2 : 2 ^ (C 9 1 + C 9 2) ≤ 2 ^ 10 := Nat.pow_le_pow_right (by decide) h10
  refine gz_Gi.of rfl rfl (fun Q hQ => ?_)
  refine zr_aload_n dX7_countAlike_0 rfl ?_
  refine zt_getr zg_X7_19 dX7_countAlike_1 rfl rfl rfl ?_
  refine zt_getr zg_X7_45 dX7_countAlike_4 rfl rfl rfl ?_
  refine zr_astore_n dX7_countAlike_7 (by decide) rfl ?_
  refine zr_aload_n dX7_countAlike_8 rfl ?_
  refine zt_callVv (As := []) (ca_unstick_42 L _) zc_X7_51 rfl dX7_countAlike_9 rfl rfl rfl rfl rfl rfl ?_
  have rM2 := rM.unstick
  have g2 : ∀ k, k ≠ 43 → gz_wr σ 43 5 (-1) k = σ k := fun k hk => gz_wr_ne hk
  generalize gz_wr σ 43 5 (-1) = σ2 at rM2 g2
  refine zr_aload_n dX7_countAlike_12 rfl ?_
  refine zt_getr zg_X7_73 dX7_countAlike_13 rfl rfl rfl ?_
  refine zt_geti zg_X7_77 dX7_countAlike_16 rfl rfl rfl ?_
  refine zr_top ((congrFun (g2 12 (by decide)) 1).trans rC.1.2.1) ?_
  refine zr_istore dX7_countAlike_19 (by decide) rfl ?_
  refine zr_iconst (v := 1) dX7_countAlike_21 kc_iconst_1 ?_
  refine zr_iload dX7_countAlike_22 rfl ?_
  refine zr_aload_n dX7_countAlike_24 rfl ?_
  refine zt_getr zg_X7_73 dX7_countAlike_25 rfl rfl rfl ?_
  refine zt_geti zg_X7_82 dX7_countAlike_28 rfl rfl rfl ?_
  refine zr_top ((congrFun (g2 12 (by decide)) 2).trans rC.1.2.2.1) ?_
  refine zr_iadd dX7_countAlike_31 ?_
  refine zr_top (nI_add _ _) ?_
  refine zr_ishl dX7_countAlike_32 ?_
  refine zr_top (nI_shl h10) ?_
  refine zr_istore dX7_countAlike_33 (by decide) rfl ?_
  refine zr_iconst (v := 0) dX7_countAlike_35 kc_iconst_0 ?_
  refine zr_istore dX7_countAlike_36 (by decide) rfl ?_
  refine zr_iconst (v := 0) dX7_countAlike_38 kc_iconst_0 ?_
  refine zr_istore dX7_countAlike_39 (by decide) rfl ?_
  refine zl_up (τ := gz_Mm) (2 ^ (C 9 1 + C 9 2)) (fun i t => (∃ m1, rx_m t 42 m1 ∧ sp_wm m1 ∧ m1 2 0 = 0) ∧ t 42 5 = 0 ∧ ∀ k, (k < 42 ∨ 46 < k) → t k = σ k) (fun i t => gz_R 3 yX7_countAlike cX7_countAlike 8 (some .int) 0 0 41 [some (.ref 41), some (.int (nI l)), some (.int (nI m)), some (.ref 43), some (.int (nI (C 9 1))), some (.int (nI (2 ^ (C 9 1 + C 9 2)))), some (.int (nI (sp_sm C l m i))), some (.int (nI i))] [] (gz_mk L t) Q) ?_ ?_ 0 σ2 (Nat.zero_le _) ⟨⟨_, rM2, hwm.unstick, by simp [sp_w]⟩, (congrFun (g2 42 (by decide)) 5).trans r5, fun k hk => g2 k (by omega)⟩
  · rintro σ3 ⟨⟨m1, h1, h2, -⟩, h3, h4⟩
    refine zr_iload dX7_countAlike_41 rfl ?_
    refine zr_iload dX7_countAlike_43 rfl ?_
    refine zr_icmp_ge 98 dX7_countAlike_45 (by decide) (fun h => ?_) (fun h => ?_)
    · refine zr_iload dX7_countAlike_98 rfl ?_
      exact zr_iret dX7_countAlike_100 rfl (hQ _ _ ⟨rfl, h4, ⟨m1, h1, h2⟩, h3⟩)
    · exact absurd (Int32.le_refl _) h
  · rintro i σ3 hi ⟨⟨m1, h1, h2, h0⟩, h3, h4⟩ ih
    have hsl := sp_sm_le C l m i
    refine zr_iload dX7_countAlike_41 rfl ?_
    refine zr_iload dX7_countAlike_43 rfl ?_
    refine zr_icmp_ge 98 dX7_countAlike_45 (by decide) (fun h => ?_) (fun h => ?_)
    · exact absurd h (nI_ge hi (by omega))
    · have rC3 : rx_C σ3 C := rC.kept (fun k h1 h2 => h4 k (by omega))
      refine zr_aload_n dX7_countAlike_48 rfl ?_
      refine zr_iload dX7_countAlike_49 rfl ?_
      refine zt_cVv (As := [_]) (ca_setInputs_42 L σ3 C m1 hC rC3 h1 i (by omega)) zc_X7_85 rfl dX7_countAlike_51 rfl rfl rfl rfl rfl rfl (fun σ4 h5 => ?_)
      obtain ⟨f5, r5'⟩ := h5
      have rC4 : rx_C σ4 C := rC3.kept (fun k h1 h2 => f5 k (by omega))
      have hdiv : i / 2 ^ (C 9 1) ≤ i := Nat.div_le_self _ _
      refine zr_aload_n dX7_countAlike_54 rfl ?_
      refine zr_iload dX7_countAlike_55 rfl ?_
      refine zr_iload dX7_countAlike_57 rfl ?_
      refine zr_ishr dX7_countAlike_59 ?_
      refine zr_top (pk_shrN (by omega) _ (C 9 1) (bt_s _ (by omega))) ?_
      refine zt_cVv (As := [_]) (ca_setCells_42 L σ4 C _ hC rC4 r5' (i / 2 ^ (C 9 1)) (by omega)) zc_X7_89 rfl dX7_countAlike_60 rfl rfl rfl rfl rfl rfl (fun σ5 h6 => ?_)
      obtain ⟨f6, r6⟩ := h6
      have rC5 : rx_C σ5 C := rC4.kept (fun k h1 h2 => f6 k (by omega))
      have wm5 : sp_wm (sp_sce C (sp_sin C m1 i) (i / 2 ^ (C 9 1))) := sp_sce_wm (sp_sin_wm h2)
      have hmx : (if l < m then m else l) + 1 ≤ C 9 0 := by split <;> omega
      refine zr_aload_n dX7_countAlike_63 rfl ?_
      refine zr_iload_n dX7_countAlike_64 rfl ?_
      refine zr_iload_n dX7_countAlike_65 rfl ?_
      refine zr_max zc_X7_92 dX7_countAlike_66 rfl rfl ?_
      refine zr_top (nI_max l m (by omega) (by omega)) ?_
      refine zr_iconst (v := 1) dX7_countAlike_69 kc_iconst_1 ?_
      refine zr_iadd dX7_countAlike_70 ?_
      refine zr_top (nI_1 _) ?_
      refine zt_cVv (As := [_]) (ca_settle_42 L σ5 C _ hC wm5 rC5 r6 _ hmx) zc_X7_98 rfl dX7_countAlike_71 rfl rfl rfl rfl rfl rfl (fun σ6 h7 => ?_)
      obtain ⟨f7, v7⟩ := h7
      have eq : sp_E C (sp_sce C (sp_sin C m1 i) (i / 2 ^ (C 9 1))) (sp_mq C i) := ⟨fun j hj => by simp [sp_sce, sp_sin, sp_row, sp_mq, hj], fun c hc => by simp [sp_sce, sp_row, sp_mq, hc], by simp [sp_sce, sp_sin, sp_row, sp_mq, h0], fun q => absurd (by simpa [sp_sce, sp_sin, sp_row] using h0) q⟩
      have v7l := (v7 l (by split <;> omega)).trans (congrArg nI (eq.val hC hl))
      have v7m := (v7 m (by split <;> omega)).trans (congrArg nI (eq.val hC hm))
      have rest : (∃ m1, rx_m σ6 42 m1 ∧ sp_wm m1 ∧ m1 2 0 = 0) ∧ σ6 42 5 = 0 ∧ ∀ k, (k < 42 ∨ 46 < k) → σ6 k = σ k := by
        refine ⟨⟨_, r6.kept (fun k h1 h2 => f7 k (by omega)), wm5, by simpa [sp_sce, sp_sin, sp_row] using h0⟩, ?_, fun k hk => ?_⟩
        · rw [f7 42 (by decide), f6 42 (by decide), f5 42 (by decide)]
          exact h3
        · rw [f7 k (by omega), f6 k (by omega), f5 k (by omega)]
          exact h4 k hk
      have bl := sp_val_le (C := C) wm5 l
      have bm := sp_val_le (C := C) wm5 m
      rw [eq.val hC hl] at bl
      rw [eq.val hC hm] at bm
      refine zr_aload_n dX7_countAlike_74 rfl ?_
      refine zt_getr zg_X7_101 dX7_countAlike_75 rfl rfl rfl ?_
      refine zr_iload_n dX7_countAlike_78 rfl ?_
      refine zt_ildN dX7_countAlike_79 rfl rfl (by omega) (v7l) ?_
      refine zr_aload_n dX7_countAlike_80 rfl ?_
      refine zt_getr zg_X7_101 dX7_countAlike_81 rfl rfl rfl ?_
      refine zr_iload_n dX7_countAlike_84 rfl ?_
      refine zt_ildN dX7_countAlike_85 rfl rfl (by omega) (v7m) ?_
      refine zr_icmp_ne 92 dX7_countAlike_86 (by decide) (fun hc => ?_) (fun hc => ?_)
      · have e : sp_sm C l m (i + 1) = sp_sm C l m i := by
          have : ¬ sp_val C (sp_mq C i) l = sp_val C (sp_mq C i) m := fun q => hc (by rw [q])
          simp [sp_sm, this]
        refine zr_iinc dX7_countAlike_92 rfl (kc_inc (i)) rfl ?_
        refine zr_goto 41 dX7_countAlike_95 (by decide) ?_
        rw [← e]
        exact ih σ6 rest
      · have e : sp_sm C l m (i + 1) = sp_sm C l m i + 1 := by
          have : sp_val C (sp_mq C i) l = sp_val C (sp_mq C i) m := (nI_eq (by omega) (by omega)).mp hc
          simp [sp_sm, this]
        refine zr_iinc dX7_countAlike_89 rfl (kc_inc (sp_sm C l m i)) rfl ?_
        refine zr_iinc dX7_countAlike_92 rfl (kc_inc (i)) rfl ?_
        refine zr_goto 41 dX7_countAlike_95 (by decide) ?_
        rw [← e]
        exact ih σ6 rest
