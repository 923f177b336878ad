/-! ===== what a drive shows depends on the holds, on what is stuck, and on the test alone ===== -/
def sp_N (m : sp_T) (s o r : Nat) : sp_T := fun a i => if a = 2 ∧ i = 2 then s else if a = 2 ∧ i = 3 then o else if a = 2 ∧ i = 4 then r else m a i
theorem sp_N_0 (m : sp_T) (s o r i : Nat) : sp_N m s o r 0 i = m 0 i := by simp [sp_N]
theorem sp_N_1 (m : sp_T) (s o r i : Nat) : sp_N m s o r 1 i = m 1 i := by simp [sp_N]
theorem sp_N_20 (m : sp_T) (s o r : Nat) : sp_N m s o r 2 0 = m 2 0 := by simp [sp_N]
theorem sp_N_21 (m : sp_T) (s o r : Nat) : sp_N m s o r 2 1 = m 2 1 := by simp [sp_N]
theorem sp_N_22 (m : sp_T) (s o r : Nat) : sp_N m s o r 2 2 = s := by simp [sp_N]
theorem sp_N_23 (m : sp_T) (s o r : Nat) : sp_N m s o r 2 3 = o := by simp [sp_N]
theorem sp_N_24 (m : sp_T) (s o r : Nat) : sp_N m s o r 2 4 = r := by simp [sp_N]
theorem sp_N_w2 (m : sp_T) (s o r s' : Nat) : sp_w (sp_N m s o r) 2 2 s' = sp_N m s' o r := by
  funext a i
  simp only [sp_w, sp_N]
  by_cases h : a = 2 ∧ i = 2
  · simp [h]
  · simp [h]
theorem sp_N_w3 (m : sp_T) (s o r o' : Nat) : sp_w (sp_N m s o r) 2 3 o' = sp_N m s o' r := by
  funext a i
  simp only [sp_w, sp_N]
  by_cases h : a = 2 ∧ i = 3
  · simp [h]
  · simp [h]
theorem sp_N_w4 (m : sp_T) (s o r r' : Nat) : sp_w (sp_N m s o r) 2 4 r' = sp_N m s o r' := by
  funext a i
  simp only [sp_w, sp_N]
  by_cases h : a = 2 ∧ i = 4
  · simp [h]
  · simp [h]
theorem sp_N_self (m : sp_T) : sp_N m (m 2 2) (m 2 3) (m 2 4) = m := by
  funext a i
  simp only [sp_N]
  split
  · next h => rw [h.1, h.2]
  split
  · next h => rw [h.1, h.2]
  split
  · next h => rw [h.1, h.2]
  rfl
theorem sp_one_N (C m : sp_T) (v : Nat → Nat) (l s o r : Nat) : sp_one C (sp_N m s o r) v l = sp_one C m v l := by
  simp only [sp_one, sp_N_0, sp_N_1, sp_N_20, sp_N_21]
theorem sp_vals_N (C m : sp_T) (s o r : Nat) : ∀ n, sp_vals C (sp_N m s o r) n = sp_vals C m n
  | 0 => rfl
  | n + 1 => by
    funext j
    simp only [sp_vals]
    rw [sp_vals_N C m s o r n, sp_one_N]
theorem sp_val_N (C m : sp_T) (s o r l : Nat) : sp_val C (sp_N m s o r) l = sp_val C m l := by
  unfold sp_val
  rw [sp_vals_N]
theorem sp_clk_N (C m : sp_T) (s o r b : Nat) : sp_clk C (sp_N m s o r) b = sp_N (sp_clk C m b) s o r := by
  funext a i
  simp only [sp_clk, sp_val_N]
  by_cases h : a = 1 ∧ i < C 9 2 ∧ b / 2 ^ C 6 i % 2 = 1
  · simp [sp_N, sp_clk, h]
  · simp [sp_N, sp_clk, h]
theorem tk_0 (C : sp_T) (K : sp_K) (tg : Nat) (m : sp_T) (o r lead x : Nat) : (sp_tk C K tg (sp_N m 0 o r) lead x).2 = sp_N m (sp_nx 0 lead) 4 r := by
  simp only [sp_tk, sp_do, sp_N_22, if_true, sp_N_w3, sp_N_w2]
theorem tk_1 (C : sp_T) (K : sp_K) (tg : Nat) (m : sp_T) (o r lead x : Nat) : (sp_tk C K tg (sp_N m 1 o r) lead x).2 = sp_N m (sp_nx 1 lead) o r := by
  simp [sp_tk, sp_do, sp_N_22, sp_N_w2]
theorem tk_2 (C : sp_T) (K : sp_K) (tg : Nat) (m : sp_T) (o r lead x : Nat) : (sp_tk C K tg (sp_N m 2 o r) lead x).2 = sp_N m (sp_nx 2 lead) o r := by
  simp [sp_tk, sp_do, sp_N_22, sp_N_w2]
theorem tk_9 (C : sp_T) (K : sp_K) (tg : Nat) (m : sp_T) (o r lead x : Nat) : (sp_tk C K tg (sp_N m 9 o r) lead x).2 = sp_N m (sp_nx 9 lead) o r := by
  simp [sp_tk, sp_do, sp_N_22, sp_N_w2]
theorem tk_12 (C : sp_T) (K : sp_K) (tg : Nat) (m : sp_T) (o r lead x : Nat) : (sp_tk C K tg (sp_N m 12 o r) lead x).2 = sp_N m (sp_nx 12 lead) o r := by
  simp [sp_tk, sp_do, sp_N_22, sp_N_w2]
theorem tk_10 (C : sp_T) (K : sp_K) (tg : Nat) (m : sp_T) (o r lead x : Nat) : (sp_tk C K tg (sp_N m 10 o r) lead x).2 = sp_N m (sp_nx 10 lead) o 1 := by
  simp [sp_tk, sp_do, sp_N_22, sp_N_w2, sp_N_w4]
theorem tk_11 (C : sp_T) (K : sp_K) (tg : Nat) (m : sp_T) (o r lead x : Nat) : (sp_tk C K tg (sp_N m 11 o r) lead x).2 = sp_N m (sp_nx 11 lead) o (r / 2 + 4 * x) := by
  simp [sp_tk, sp_do, sp_N_22, sp_N_24, sp_N_w2, sp_N_w4]
theorem tk_15 (C : sp_T) (K : sp_K) (tg : Nat) (m : sp_T) (o r lead x : Nat) : (sp_tk C K tg (sp_N m 15 o r) lead x).2 = sp_N m (sp_nx 15 lead) r r := by
  simp [sp_tk, sp_do, sp_N_22, sp_N_24, sp_N_w2, sp_N_w3]
theorem tk_3 (C : sp_T) (K : sp_K) (tg : Nat) (m : sp_T) (o r lead x : Nat) (ho : o < 4) : (sp_tk C K tg (sp_N m 3 o r) lead x).2 = sp_N (sp_clk C m 7) (sp_nx 3 lead) o r := by
  simp [sp_tk, sp_do, sp_cat, sp_N_22, sp_N_23, ho, sp_clk_N, sp_N_w2]
theorem sp_open (C : sp_T) (K : sp_K) (tg : Nat) (m : sp_T) (o r : Nat) : sp_it C K tg sp_fo 17 (sp_N m 0 o r) = sp_N (sp_clk C m 7) 4 3 3 := by
  have h1 : sp_it C K tg sp_fo 1 (sp_N m 0 o r) = sp_N m 0 4 r := (congrArg (fun z => (sp_tk C K tg z 1 0).2) (rfl : sp_it C K tg sp_fo 0 (sp_N m 0 o r) = sp_N m 0 o r)).trans (tk_0 C K tg m o r 1 0)
  have h2 : sp_it C K tg sp_fo 2 (sp_N m 0 o r) = sp_N m 0 4 r := (congrArg (fun z => (sp_tk C K tg z 1 0).2) h1).trans (tk_0 C K tg m 4 r 1 0)
  have h3 : sp_it C K tg sp_fo 3 (sp_N m 0 o r) = sp_N m 0 4 r := (congrArg (fun z => (sp_tk C K tg z 1 0).2) h2).trans (tk_0 C K tg m 4 r 1 0)
  have h4 : sp_it C K tg sp_fo 4 (sp_N m 0 o r) = sp_N m 0 4 r := (congrArg (fun z => (sp_tk C K tg z 1 0).2) h3).trans (tk_0 C K tg m 4 r 1 0)
  have h5 : sp_it C K tg sp_fo 5 (sp_N m 0 o r) = sp_N m 0 4 r := (congrArg (fun z => (sp_tk C K tg z 1 0).2) h4).trans (tk_0 C K tg m 4 r 1 0)
  have h6 : sp_it C K tg sp_fo 6 (sp_N m 0 o r) = sp_N m 1 4 r := (congrArg (fun z => (sp_tk C K tg z 0 0).2) h5).trans (tk_0 C K tg m 4 r 0 0)
  have h7 : sp_it C K tg sp_fo 7 (sp_N m 0 o r) = sp_N m 2 4 r := (congrArg (fun z => (sp_tk C K tg z 1 0).2) h6).trans (tk_1 C K tg m 4 r 1 0)
  have h8 : sp_it C K tg sp_fo 8 (sp_N m 0 o r) = sp_N m 9 4 r := (congrArg (fun z => (sp_tk C K tg z 1 0).2) h7).trans (tk_2 C K tg m 4 r 1 0)
  have h9 : sp_it C K tg sp_fo 9 (sp_N m 0 o r) = sp_N m 10 4 r := (congrArg (fun z => (sp_tk C K tg z 0 0).2) h8).trans (tk_9 C K tg m 4 r 0 0)
  have h10 : sp_it C K tg sp_fo 10 (sp_N m 0 o r) = sp_N m 11 4 1 := (congrArg (fun z => (sp_tk C K tg z 0 0).2) h9).trans (tk_10 C K tg m 4 r 0 0)
  have h11 : sp_it C K tg sp_fo 11 (sp_N m 0 o r) = sp_N m 11 4 4 := (congrArg (fun z => (sp_tk C K tg z 0 1).2) h10).trans (tk_11 C K tg m 4 1 0 1)
  have h12 : sp_it C K tg sp_fo 12 (sp_N m 0 o r) = sp_N m 11 4 6 := (congrArg (fun z => (sp_tk C K tg z 0 1).2) h11).trans (tk_11 C K tg m 4 4 0 1)
  have h13 : sp_it C K tg sp_fo 13 (sp_N m 0 o r) = sp_N m 12 4 3 := (congrArg (fun z => (sp_tk C K tg z 1 0).2) h12).trans (tk_11 C K tg m 4 6 1 0)
  have h14 : sp_it C K tg sp_fo 14 (sp_N m 0 o r) = sp_N m 15 4 3 := (congrArg (fun z => (sp_tk C K tg z 1 0).2) h13).trans (tk_12 C K tg m 4 3 1 0)
  have h15 : sp_it C K tg sp_fo 15 (sp_N m 0 o r) = sp_N m 2 3 3 := (congrArg (fun z => (sp_tk C K tg z 1 0).2) h14).trans (tk_15 C K tg m 4 3 1 0)
  have h16 : sp_it C K tg sp_fo 16 (sp_N m 0 o r) = sp_N m 3 3 3 := (congrArg (fun z => (sp_tk C K tg z 0 0).2) h15).trans (tk_2 C K tg m 3 3 0 0)
  have h17 : sp_it C K tg sp_fo 17 (sp_N m 0 o r) = sp_N (sp_clk C m 7) 4 3 3 := (congrArg (fun z => (sp_tk C K tg z 0 0).2) h16).trans (tk_3 C K tg m 3 3 0 0 (by decide))
  exact h17
/-- two machines alike in all that a drive's end can show -/
def sp_E (C m m' : sp_T) : Prop := (∀ i, i < C 9 1 → m 0 i = m' 0 i) ∧ (∀ c, c < C 9 2 → m 1 c = m' 1 c) ∧ m 2 0 = m' 2 0 ∧ (m 2 0 ≠ 0 → m 2 1 = m' 2 1)
theorem sp_E.val {C m m' : sp_T} (hC : sp_wf C) (h : sp_E C m m') : ∀ {l : Nat}, l < C 9 0 → sp_val C m l = sp_val C m' l := by
  intro l
  induction l using Nat.strongRecOn with
  | ind l ih =>
    intro hl
    rw [sp_val_eq hC hl, sp_val_eq hC hl]
    unfold sp_one
    rw [← h.2.2.1]
    split
    · next e => exact h.2.2.2 (by omega)
    · rcases hC.2.1 l hl with ⟨g1, g2⟩ | ⟨g1, g2⟩ | ⟨g1, g2, g3, g4, g5⟩
      · rw [if_pos g1, if_pos g1]
        exact h.1 _ g2
      · rw [if_neg (by omega), if_pos g1, if_neg (by omega), if_pos g1]
        exact h.2.1 _ g2
      · rw [if_neg (by omega), if_neg (by omega), if_neg (by omega), if_neg (by omega)]
        rw [ih _ g3 (by omega), ih _ g4 (by omega), ih _ g5 (by omega)]
theorem sp_E.clk {C m m' : sp_T} (hC : sp_wf C) (h : sp_E C m m') (b : Nat) : sp_E C (sp_clk C m b) (sp_clk C m' b) := by
  refine ⟨fun i hi => by simpa [sp_clk] using h.1 i hi, fun c hc => ?_, by simpa [sp_clk] using h.2.2.1, by simpa [sp_clk] using h.2.2.2⟩
  simp only [sp_clk]
  rw [h.val hC (hC.2.2.1 c hc).2.2.1, h.2.1 c hc]
theorem sp_E.cv {C m m' : sp_T} (h : sp_E C m m') {c : Nat} (hc : c < C 9 2) : sp_cv C m c = sp_cv C m' c := by
  unfold sp_cv
  rw [← h.2.2.1]
  split
  · exact h.2.2.2 (by omega)
  · exact h.2.1 c hc
theorem sp_E.out {C m m' : sp_T} (h : sp_E C m m') {l : List Nat} (hl : ∀ c, c ∈ l → c < C 9 2) (v : Nat) : sp_out (sp_cv C m) l v = sp_out (sp_cv C m') l v := sp_out_congr l v (fun c hc => h.cv (hl c hc))
theorem sp_sh_at {C : sp_T} {cv : Nat → Nat} {j : Nat} : ∀ (l : List Nat) (v : Nat) (f g : Nat → Nat), f j = g j → sp_sh C cv l v f j = sp_sh C cv l v g j
  | [], _, _, _, h => h
  | c :: r, v, f, g, h => sp_sh_at r (cv c) _ _ (by
      show (if j = c then _ else f j) = (if j = c then _ else g j)
      rw [h])
theorem sp_E.shift {C m m' : sp_T} (h : sp_E C m m') {l : List Nat} (hl : ∀ c, c ∈ l → c < C 9 2) (v : Nat) : sp_E C (sp_row m 1 (sp_sh C (sp_cv C m) l v (m 1))) (sp_row m' 1 (sp_sh C (sp_cv C m') l v (m' 1))) := by
  refine ⟨fun i hi => h.1 i hi, fun c hc => ?_, h.2.2.1, h.2.2.2⟩
  show sp_sh C (sp_cv C m) l v (m 1) c = sp_sh C (sp_cv C m') l v (m' 1) c
  rw [sp_sh_congr l v (m 1) (fun c hc => h.cv (hl c hc))]
  exact sp_sh_at l v _ _ (h.2.1 c hc)
/-- a tick with the order 3, in the states that a drive goes through -/
theorem sp_E.tick {C m m' : sp_T} {K : sp_K} (hC : sp_wf C) (hK : sp_wk C K) (h : sp_E C m m') {s : Nat} (hs : m 2 2 = s) (hs' : m' 2 2 = s) (h3 : m 2 3 = 3) (h3' : m' 2 3 = 3) (hq : s = 1 ∨ s = 2 ∨ s = 3 ∨ s = 4 ∨ s = 5 ∨ s = 8) (tg tg' lead x : Nat) :
    (sp_tk C K tg m lead x).1 = (sp_tk C K tg' m' lead x).1 ∧ sp_E C (sp_tk C K tg m lead x).2 (sp_tk C K tg' m' lead x).2 ∧ (sp_tk C K tg m lead x).2 2 2 = sp_nx s lead ∧ (sp_tk C K tg' m' lead x).2 2 2 = sp_nx s lead ∧ (sp_tk C K tg m lead x).2 2 3 = 3 ∧ (sp_tk C K tg' m' lead x).2 2 3 = 3 := by
  have wE : ∀ {a b : sp_T} {n : Nat}, sp_E C a b → sp_E C (sp_w a 2 2 n) (sp_w b 2 2 n) := fun {a b n} q => ⟨fun i hi => by simpa [sp_w] using q.1 i hi, fun c hc => by simpa [sp_w] using q.2.1 c hc, by simpa [sp_w] using q.2.2.1, by simpa [sp_w] using q.2.2.2⟩
  have plain : ∀ _ : s = 1 ∨ s = 2 ∨ s = 5 ∨ s = 8, sp_do C K tg m x = (-1, m) ∧ sp_do C K tg' m' x = (-1, m') := by
    rintro (q | q | q | q) <;> subst q <;> simp [sp_do, hs, hs']
  unfold sp_tk
  rw [hs, hs']
  rcases (show (s = 1 ∨ s = 2 ∨ s = 5 ∨ s = 8) ∨ s = 3 ∨ s = 4 by omega) with q | q | q
  · obtain ⟨e1, e2⟩ := plain q
    rw [e1, e2]
    dsimp only
    refine ⟨rfl, wE h, sp_w_eq, sp_w_eq, ?_, ?_⟩
    · rw [sp_w_ne (by omega)]; exact h3
    · rw [sp_w_ne (by omega)]; exact h3'
  · subst q
    have e1 : sp_do C K tg m x = (-1, sp_clk C m 7) := by simp [sp_do, hs, sp_cat, h3]
    have e2 : sp_do C K tg' m' x = (-1, sp_clk C m' 7) := by simp [sp_do, hs', sp_cat, h3']
    rw [e1, e2]
    dsimp only
    refine ⟨rfl, wE (h.clk hC 7), sp_w_eq, sp_w_eq, ?_, ?_⟩
    · rw [sp_w_ne (by omega)]; simpa [sp_clk] using h3
    · rw [sp_w_ne (by omega)]; simpa [sp_clk] using h3'
  · subst q
    have e1 : sp_do C K tg m x = (nI (sp_out (sp_cv C m) (sp_all K) x), sp_row m 1 (sp_sh C (sp_cv C m) (sp_all K) x (m 1))) := by simp [sp_do, hs, sp_so, h3]
    have e2 : sp_do C K tg' m' x = (nI (sp_out (sp_cv C m') (sp_all K) x), sp_row m' 1 (sp_sh C (sp_cv C m') (sp_all K) x (m' 1))) := by simp [sp_do, hs', sp_so, h3']
    rw [e1, e2]
    dsimp only
    refine ⟨by rw [h.out hK.2 x], wE (h.shift hK.2 x), sp_w_eq, sp_w_eq, ?_, ?_⟩
    · rw [sp_w_ne (by omega)]; simpa [sp_row] using h3
    · rw [sp_w_ne (by omega)]; simpa [sp_row] using h3'
/-- machines in step: state s, order 3 -/
def sp_I (C m m' : sp_T) (s : Nat) : Prop := sp_E C m m' ∧ m 2 2 = s ∧ m' 2 2 = s ∧ m 2 3 = 3 ∧ m' 2 3 = 3
theorem sp_I.tick {C m m' : sp_T} {K : sp_K} (hC : sp_wf C) (hK : sp_wk C K) {s : Nat} (h : sp_I C m m' s) (hq : s = 1 ∨ s = 2 ∨ s = 3 ∨ s = 4 ∨ s = 5 ∨ s = 8) (tg tg' lead x : Nat) : (sp_tk C K tg m lead x).1 = (sp_tk C K tg' m' lead x).1 ∧ sp_I C (sp_tk C K tg m lead x).2 (sp_tk C K tg' m' lead x).2 (sp_nx s lead) := by
  obtain ⟨a, b, c, d, e⟩ := h
  obtain ⟨q1, q2, q3, q4, q5, q6⟩ := a.tick hC hK b c d e hq tg tg' lead x
  exact ⟨q1, q2, q3, q4, q5, q6⟩
theorem sp_I.loop {C m m' : sp_T} {K : sp_K} (hC : sp_wf C) (hK : sp_wk C K) (tg tg' : Nat) (f : Nat → Nat × Nat) (hf : ∀ i, (f i).1 = sp_la (sp_len K) i) (h : sp_I C m m' 4) : ∀ i, i ≤ sp_len K → sp_I C (sp_it C K tg f i m) (sp_it C K tg' f i m') (if i = sp_len K then 5 else 4)
  | 0, _ => by
    have := sp_len_le hC hK
    rw [if_neg (by omega)]
    exact h
  | i + 1, hi => by
    have ih := sp_I.loop hC hK tg tg' f hf h i (by omega)
    rw [if_neg (by omega)] at ih
    have := (ih.tick hC hK (by omega) tg tg' (f i).1 (f i).2).2
    rw [hf i] at this
    have e : sp_nx 4 (sp_la (sp_len K) i) = if i + 1 = sp_len K then 5 else 4 := by
      unfold sp_la
      split <;> rfl
    rw [e, ← hf i] at this
    exact this
theorem sp_indep {C m m' : sp_T} {K : sp_K} (hC : sp_wf C) (hK : sp_wk C K) (tg tg' ib cb : Nat) (hs : m 2 2 = 0) (hs' : m' 2 2 = 0) (h1 : ∀ c, c < C 9 2 → m 1 c = m' 1 c) (h0 : m 2 0 = m' 2 0) (hv : m 2 0 ≠ 0 → m 2 1 = m' 2 1) :
    (∀ l, l < C 9 0 → sp_val C (sp_mC C K tg m ib cb) l = sp_val C (sp_mC C K tg' m' ib cb) l) ∧ ∀ i, i < sp_len K → sp_ou C K tg m ib cb i = sp_ou C K tg' m' ib cb i := by
  have e0 : sp_E C (sp_sin C m ib) (sp_sin C m' ib) := by
    refine ⟨fun i hi => ?_, fun c hc => h1 c hc, h0, hv⟩
    simp [sp_sin, sp_row, hi]
  have eA : ∀ (n : sp_T) (t : Nat), n 2 2 = 0 → sp_mA C K t n ib = sp_N (sp_clk C (sp_sin C n ib) 7) 4 3 3 := by
    intro n t hn
    unfold sp_mA
    have e : sp_sin C n ib = sp_N (sp_sin C n ib) 0 ((sp_sin C n ib) 2 3) ((sp_sin C n ib) 2 4) := by
      have := sp_N_self (sp_sin C n ib)
      rw [show (sp_sin C n ib) 2 2 = 0 from hn] at this
      exact this.symm
    rw [e, sp_open]
    rw [← e]
  have iA : sp_I C (sp_mA C K tg m ib) (sp_mA C K tg' m' ib) 4 := by
    rw [eA m tg hs, eA m' tg' hs']
    have := e0.clk hC 7
    refine ⟨⟨fun i hi => ?_, fun c hc => ?_, ?_, ?_⟩, sp_N_22 _ _ _ _, sp_N_22 _ _ _ _, sp_N_23 _ _ _ _, sp_N_23 _ _ _ _⟩
    · rw [sp_N_0, sp_N_0]; exact this.1 i hi
    · rw [sp_N_1, sp_N_1]; exact this.2.1 c hc
    · rw [sp_N_20, sp_N_20]; exact this.2.2.1
    · rw [sp_N_20, sp_N_21, sp_N_21]; exact this.2.2.2
  have iB := sp_I.loop hC hK tg tg' (sp_fl C K cb) (fun i => rfl) iA (sp_len K) (Nat.le_refl _)
  rw [if_pos rfl] at iB
  have i1 := (iB.tick hC hK (by omega) tg tg' 1 0).2
  have i2 := (i1.tick hC hK (by decide) tg tg' 1 0).2
  have i3 := (i2.tick hC hK (by decide) tg tg' 0 0).2
  have iC : sp_I C (sp_mC C K tg m ib cb) (sp_mC C K tg' m' ib cb) 3 := i3
  have iD := (iC.tick hC hK (by decide) tg tg' 0 0).2
  refine ⟨fun l hl => iC.1.val hC hl, fun i hi => ?_⟩
  have iE := sp_I.loop hC hK tg tg' (sp_fu K) (fun i => rfl) iD i (by omega)
  rw [if_neg (by omega)] at iE
  exact (iE.tick hC hK (by omega) tg tg' _ 0).1
/-- a machine as a test begins with: holds 2, state 0, order 4; s0: the stuck line + 1, s1: at -/
def sp_mz (s0 s1 : Nat) : sp_T := fun a i => if a = 1 then 2 else if a = 2 ∧ i = 0 then s0 else if a = 2 ∧ i = 1 then s1 else if a = 2 ∧ i = 3 then 4 else 0
def sp_sO (C : sp_T) (K : sp_K) (s0 s1 t i : Nat) : Int32 := nI (sp_val C (sp_mC C K 0 (sp_mz s0 s1) (C 10 t) (C 11 t)) (C 8 i))
def sp_sU (C : sp_T) (K : sp_K) (s0 s1 t i : Nat) : Int32 := sp_ou C K 0 (sp_mz s0 s1) (C 10 t) (C 11 t) i
/-- test t shows line l stuck at v -/
def sp_shows (C : sp_T) (K : sp_K) (t l v : Nat) : Bool := sp_df (sp_sO C K 0 0 t) (sp_sO C K (l + 1) v t) (C 9 3) || sp_df (sp_sU C K 0 0 t) (sp_sU C K (l + 1) v t) (sp_len K)
theorem sp_seen {C m : sp_T} {K : sp_K} (hC : sp_wf C) (hK : sp_wk C K) (tg t s0 s1 : Nat) (hs : m 2 2 = 0) (h1 : ∀ c, c < C 9 2 → m 1 c = 2) (h0 : m 2 0 = s0) (hv : s0 ≠ 0 → m 2 1 = s1) :
    (∀ i, i < C 9 3 → nI (sp_val C (sp_mC C K tg m (C 10 t) (C 11 t)) (C 8 i)) = sp_sO C K s0 s1 t i) ∧ ∀ i, i < sp_len K → sp_ou C K tg m (C 10 t) (C 11 t) i = sp_sU C K s0 s1 t i := by
  obtain ⟨a, b⟩ := sp_indep (m' := sp_mz s0 s1) hC hK tg 0 (C 10 t) (C 11 t) hs (by simp [sp_mz]) (fun c hc => by rw [h1 c hc]; simp [sp_mz]) (by rw [h0]; simp [sp_mz]) (fun q => by rw [hv (by omega)]; simp [sp_mz])
  exact ⟨fun i hi => by rw [a _ (hC.2.2.2.1 i hi)]; rfl, b⟩
