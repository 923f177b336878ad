/-! ===== what a call leaves alone, and the picture at the start ===== -/
theorem ap_X.fr {σ σ' : gz_Mm} {S : ap_S} (h : ap_X σ S) (hk : ∀ k, 11 ≤ k → k < 57 → σ' k = σ k) : ap_X σ' S := by
  obtain ⟨C, K, m, tg, tk, no, nu, fO, fU⟩ := S
  obtain ⟨⟨h1, h2, h3⟩, ⟨h4, h5⟩, h6, ⟨⟨m2, h7, h7b⟩, h8⟩, h9, h10, h11, h12, h13⟩ := h
  refine ⟨⟨h1.kept (fun k q1 q2 => hk k (by omega) (by omega)), h2.kept (fun k q1 q2 => hk k (by omega) (by omega)), h3.kept (fun k q1 q2 => hk k (by omega) (by omega))⟩, ⟨?_, ?_⟩, h6.kept (fun k q1 q2 => hk k (by omega) (by omega)) rfl (fun _ => rfl) (fun _ => rfl), ⟨⟨m2, h7.kept (fun k q1 q2 => hk k (by omega) (by omega)), h7b⟩, ?_⟩, ?_, ?_, ?_, ?_, ?_⟩
  · rw [hk 31 (by omega) (by omega)]; exact h4
  · rw [hk 31 (by omega) (by omega)]; exact h5
  · rw [hk 42 (by omega) (by omega)]; exact h8
  · rw [hk 18 (by omega) (by omega)]; exact h9
  · rw [hk 53 (by omega) (by omega)]; exact h10
  · rw [hk 53 (by omega) (by omega)]; exact h11
  · rw [hk 54 (by omega) (by omega)]; exact h12
  · rw [hk 55 (by omega) (by omega)]; exact h13
theorem am_X.fr {σ σ' : gz_Mm} {S : ap_S} (h : am_X σ S) (hk : ∀ k, 57 ≤ k → σ' k = σ k) : am_X σ' S := by
  obtain ⟨C, K, m, tg, tk, no, nu, fO, fU⟩ := S
  have h' := h
  obtain ⟨⟨h1, h2, h3⟩, -⟩ := h'
  refine am_X.circ h (h1.kept (fun j _ => by rw [hk 57 (by omega)]) (fun k q1 q2 _ _ _ _ => hk k (by omega))) (h2.kept (fun k q => hk k (by omega))) (h3.kept (fun j _ => by rw [hk 57 (by omega)]) (hk 72 (by omega)) (hk 73 (by omega))) (fun j _ => by rw [hk 57 (by omega)]) (hk 78 (by omega)) (hk 79 (by omega))
/-- the script's cell is older than all that a call may write -/
theorem gz_Gi.keep {d : Nat} {y : MethodName} {cc : ByteArray} {nL : Nat} {rt : Option FieldType} {L : Nat} {av : List Value} {σ : gz_Mm} {P : Int32 → gz_Mm → Prop} (hM : gz_Gi d y cc nL rt L av σ P) (hP : ∀ v σ' σ'', P v σ' → (∀ k, k ≠ 10 → σ'' k = σ' k) → P v σ'') : gz_Gi d y cc nL rt L av σ (fun v σ' => P v σ' ∧ σ' 10 = σ 10) := by
  intro l D N0 ta
  refine MetFree.mono (hM l D N0 ta) (fun _ _ q => q) (fun _ _ _ _ _ q => q) (fun a s o t hpre q => ?_)
  obtain ⟨⟨⟨r, h', h1, ⟨v, σ', e1, e2, hP1⟩, hW⟩, hF⟩, L0, hfe, hA⟩ := q
  subst e2
  have hal : s.vm.Alike t.vm := hfe.2.1.alike
  have hpW := hpre.2.2
  have hs : (gz_SH L)[10]? = some (.inl (.int, L, none)) := rfl
  have hne : ∀ k, k ≠ 10 → (fun k => if k = 10 then σ 10 else σ' k) k = σ' k := fun k hk => if_neg hk
  refine ⟨⟨⟨r, gz_mk L (fun k => if k = 10 then σ 10 else σ' k), h1, ⟨v, _, e1, rfl, hP v σ' _ hP1 hne, if_pos rfl⟩, ?_⟩, hF⟩, L0, hfe, hA⟩
  have e3 := gz_mk_set (σ := σ') (σ' := fun k => if k = 10 then σ 10 else σ' k) hs hne
  have e4 : (gz_inst (Sum.inl (.int, L, none)) ((fun k => if k = 10 then σ 10 else σ' k) 10) : gz_AC) = .inl (.int, L, σ 10) := rfl
  rw [e4] at e3
  rw [← e3]
  have c10 := hpW.2.2.2 10 _ (gz_mk_get (σ := σ) hs)
  have ead : gz_ad N0 ta 10 = ta 10 := rfl
  have hlt : ta 10 < s.heap.size := by
    obtain ⟨cell, g1, -⟩ := c10
    exact (Array.getElem?_eq_some_iff.mp g1).1
  have hold : t.heap[ta 10]? = s.heap[ta 10]? := hF.2 (ta 10) hlt (Nat.not_le.mpr (hpW.2.2.1 10 (by decide)))
  refine ⟨by rw [List.length_set]; exact hW.1, by rw [List.length_set]; exact hW.2.1, hW.2.2.1, fun k c hk => ?_⟩
  by_cases e : k = 10
  · subst e
    have hl : 10 < (gz_mk L σ').length := (List.getElem?_eq_some_iff.mp (gz_mk_get (σ := σ') hs)).1
    rw [List.getElem?_set_self hl] at hk
    cases hk
    exact (gz_cell.kept c10 hold).moved hal
  · rw [List.getElem?_set_ne (Ne.symm e)] at hk
    exact hW.2.2.2 k c hk
theorem ap_P.keep {σ : gz_Mm} {p : Int32 × ap_S} (v : Int32) (σ' σ'' : gz_Mm) (h : ap_P σ p v σ') (hk : ∀ k, k ≠ 10 → σ'' k = σ' k) : ap_P σ p v σ'' :=
  ⟨h.1, h.2.1.fr (fun k q1 _ => hk k (by omega)), fun k q => (hk k (by omega)).trans (h.2.2 k q)⟩
theorem fw_count (S : ap_S) (hw : ap_wf S) (w : Int32) : ap_wf (fa_count w S).2 := hw
theorem fw_line (S : ap_S) (hw : ap_wf S) (l w : Int32) : ap_wf (fa_line l w S).2 := hw
theorem fw_link (S : ap_S) (hw : ap_wf S) (k i : Int32) : ap_wf (fa_link k i S).2 := hw
theorem fw_state (S : ap_S) (hw : ap_wf S) (w : Int32) : ap_wf (fa_state w S).2 := hw
theorem fw_seen (S : ap_S) (hw : ap_wf S) (w i : Int32) : ap_wf (fa_seen w i S).2 := hw
theorem fw_shows (S : ap_S) (hw : ap_wf S) (t l v : Int32) : ap_wf (fa_shows t l v S).2 := hw
theorem fw_shownBy (S : ap_S) (hw : ap_wf S) (l v : Int32) : ap_wf (fa_shownBy l v S).2 := hw
theorem fw_covers (S : ap_S) (hw : ap_wf S) : ap_wf (fa_covers S).2 := hw
theorem fw_same (S : ap_S) (hw : ap_wf S) (l n : Int32) : ap_wf (fa_same l n S).2 := hw
/-- the memory behind both constructors -/
def gs_0 (xs : Nat → Int32) : gz_Mm := fun a => match a with
  | 10 => xs
  | 29 => gn_f 20 (-1) (fun _ => 0)
  | 31 => fun j => match j with | 2 => 4 | _ => 0
  | 32 => fun j => match j with | 5 => -1 | _ => 0
  | 34 => gn_f 20 2 (fun _ => 0)
  | 42 => fun j => match j with | 2 => 4 | _ => 0
  | 43 => fun j => match j with | 5 => -1 | _ => 0
  | 45 => gn_f 20 2 (fun _ => 0)
  | 57 => fun j => match j with | 21 => -1 | 24 => 4 | _ => 0
  | _ => fun _ => 0
def gk_0 (L : Nat) (xs : Nat → Int32) : gz_AH := (gz_mk L (fun a => match a with | 10 => xs | _ => fun _ => 0)).take 11
theorem gk_0_mk (L : Nat) (xs : Nat → Int32) : gk_0 L xs ++ gi_8 ++ gi_9 57 = gz_mk L (gs_0 xs) := rfl
def ss_m : sp_T := fun a j => match a, j with | 1, _ => 2 | 2, 3 => 4 | _, _ => 0
def ss_0 : ap_S := (fun _ _ => 0, fun _ => [], ss_m, 0, 0, 0, 0, fun _ => 0, fun _ => 0)
theorem ss_wm : sp_wm ss_m := ⟨fun i => Nat.zero_le _, fun c => Nat.le_refl 2, Nat.zero_le _, fun h => absurd rfl h, Nat.zero_le _, by decide, Nat.zero_le _, Nat.zero_le _, by decide⟩
theorem ss_wf : ap_wf ss_0 := ⟨⟨⟨by decide, by decide, by decide, by decide, by decide⟩, fun l h => absurd h (Nat.not_lt_zero _), fun l h => absurd h (Nat.not_lt_zero _), fun l h => absurd h (Nat.not_lt_zero _), fun l h => absurd h (Nat.not_lt_zero _)⟩, ⟨List.nodup_nil, fun c h => absurd h List.not_mem_nil⟩, ss_wm, by decide, by decide, by decide, fun _ _ => rfl, fun _ _ => rfl⟩
theorem gn_f_at {n i : Nat} {x : Int32} {f : Nat → Int32} (h : i < n) : gn_f n x f i = x := if_pos h
theorem ss_X (xs : Nat → Int32) : ap_X (gs_0 xs) ss_0 := by
  refine ⟨⟨?_, ?_, ?_⟩, ⟨rfl, rfl⟩, ⟨rfl, fun t h => absurd h (Nat.not_lt_zero _)⟩, ⟨⟨ss_m, ?_, ss_wm⟩, rfl⟩, fun _ _ => rfl, rfl, rfl, fun i h => absurd h (Nat.not_lt_zero _), fun i h => absurd h (Nat.not_lt_zero _)⟩
  · exact ⟨⟨rfl, rfl, rfl, rfl⟩, fun l h => absurd h (Nat.not_lt_zero _), fun l h => absurd h (Nat.not_lt_zero _), fun l h => absurd h (Nat.not_lt_zero _)⟩
  · exact ⟨fun k _ => ⟨rfl, fun i h => absurd h (Nat.not_lt_zero _)⟩, fun c h => absurd h List.not_mem_nil, fun c hc => ⟨fun _ => (gn_f_at (n := 20) (x := -1) (f := fun _ => 0) hc : _), fun k _ h => absurd h List.not_mem_nil⟩⟩
  · exact ⟨fun i _ => rfl, fun i hi => (gn_f_at (n := 20) (x := 2) (f := fun _ => 0) hi : _), rfl, fun h => absurd rfl h, rfl, rfl, rfl, rfl, rfl⟩
  · exact ⟨fun i _ => rfl, fun i hi => (gn_f_at (n := 20) (x := 2) (f := fun _ => 0) hi : _), rfl, fun h => absurd rfl h, rfl, rfl, rfl, rfl, rfl⟩
theorem ss_M (xs : Nat → Int32) : am_X (gs_0 xs) ss_0 := by
  refine ⟨⟨?_, ?_, ?_⟩, ⟨rfl, rfl⟩, rfl, rfl, fun i h => absurd h (Nat.not_lt_zero _), fun i h => absurd h (Nat.not_lt_zero _)⟩
  · exact ⟨⟨rfl, rfl, rfl, rfl, rfl⟩, fun l h => absurd h (Nat.not_lt_zero _), fun l h => absurd h (Nat.not_lt_zero _), fun l h => absurd h (Nat.not_lt_zero _), fun l h => absurd h (Nat.not_lt_zero _)⟩
  · exact ⟨fun k _ => ⟨rfl, fun i h => absurd h (Nat.not_lt_zero _)⟩, fun c h => absurd h List.not_mem_nil, fun c hc => absurd hc (Nat.not_lt_zero _)⟩
  · exact ⟨fun i _ => rfl, fun i hi => absurd hi (Nat.not_lt_zero _), rfl, fun h => absurd rfl h, rfl, rfl, rfl, rfl, rfl⟩
