/-! ===== the picture stays well formed ===== -/
def sp_zz (C m : sp_T) : Prop := (∀ i, C 9 1 ≤ i → m 0 i = 0) ∧ ∀ c, C 9 2 ≤ c → m 1 c = 2
theorem sp_zz.w2 {C m : sp_T} (h : sp_zz C m) (j x : Nat) : sp_zz C (sp_w m 2 j x) := ⟨fun i hi => (sp_w_ne (by omega)).trans (h.1 i hi), fun c hc => (sp_w_ne (by omega)).trans (h.2 c hc)⟩
theorem sp_zz.clk {C m : sp_T} (h : sp_zz C m) (b : Nat) : sp_zz C (sp_clk C m b) := ⟨fun i hi => by simp [sp_clk]; exact h.1 i hi, fun c hc => by
  unfold sp_clk
  rw [if_neg (by omega)]
  exact h.2 c hc⟩
theorem sp_zz.sh {C m : sp_T} (h : sp_zz C m) (cv : Nat → Nat) (l : List Nat) (hl : ∀ c, c ∈ l → c < C 9 2) (v : Nat) : sp_zz C (sp_row m 1 (sp_sh C cv l v (m 1))) := ⟨fun i hi => h.1 i hi, fun c hc => by
  show sp_sh C cv l v (m 1) c = 2
  rw [sp_sh_out C cv l v (m 1) (fun q => by have := hl c q; omega)]
  exact h.2 c hc⟩
theorem sp_zz.sin {C m : sp_T} (h : sp_zz C m) (b : Nat) : sp_zz C (sp_sin C m b) := ⟨fun i hi => by
  show (if i < C 9 1 then _ else m 0 i) = 0
  rw [if_neg (by omega)]
  exact h.1 i hi, fun c hc => h.2 c hc⟩
theorem sp_zz.tk {C m : sp_T} {K : sp_K} (hK : sp_wk C K) (h : sp_zz C m) (hm : sp_wm m) (tg lead x : Nat) : sp_zz C (sp_tk C K tg m lead x).2 := by
  refine sp_zz.w2 ?_ 2 _
  unfold sp_do
  split
  · exact h.w2 _ _
  split
  · unfold sp_cat
    split
    · exact h.clk _
    split
    · exact h.w2 _ _
    split
    · exact h.clk _
    · exact h.w2 _ _
  split
  · unfold sp_so
    split
    · next q => exact h.sh _ _ (fun c hc => hK.2 c (sp_all_mem q hc)) _
    split
    · exact h.sh _ _ hK.2 _
    split
    · exact h.w2 _ _
    · exact h.w2 _ _
  split
  · exact h.w2 _ _
  split
  · exact h.w2 _ _
  split
  · exact h.w2 _ _
  · exact h
theorem sp_it_ok {C : sp_T} {K : sp_K} (hK : sp_wk C K) (tg : Nat) (htg : tg < 65536) (f : Nat → Nat × Nat) (hf : ∀ i, (f i).1 ≤ 1 ∧ (f i).2 ≤ 1) {m : sp_T} (h : sp_zz C m ∧ sp_wm m) : ∀ n, sp_zz C (sp_it C K tg f n m) ∧ sp_wm (sp_it C K tg f n m)
  | 0 => h
  | n + 1 => by
    obtain ⟨a, b⟩ := sp_it_ok hK tg htg f hf h n
    exact ⟨a.tk hK b tg _ _, sp_tk_wm b htg (hf n).1 (hf n).2⟩
theorem sp_gd1 : ∀ (l : List Nat) (i : Nat), (∀ a, a ∈ l → a ≤ 1) → l.getD i 0 ≤ 1
  | [], i, _ => by simp
  | a :: r, 0, h => h a List.mem_cons_self
  | a :: r, i + 1, h => sp_gd1 r i (fun b hb => h b (List.mem_cons_of_mem _ hb))
theorem sp_mF_ok {C : sp_T} {K : sp_K} (hK : sp_wk C K) (tg : Nat) (htg : tg < 65536) {m : sp_T} (h : sp_zz C m) (hm : sp_wm m) (ib cb : Nat) : sp_zz C (sp_mF C K tg m ib cb) ∧ sp_wm (sp_mF C K tg m ib cb) := by
  have h1 := sp_it_ok (f := sp_fo) hK tg htg (fun i => ⟨sp_gd1 _ _ (by decide), sp_gd1 _ _ (by decide)⟩) ⟨h.sin ib, sp_sin_wm (C := C) (b := ib) hm⟩ 17
  have h2 := sp_it_ok (f := sp_fl C K cb) hK tg htg (fun i => ⟨sp_la_le _ _, sp_lo_le _ _ _ _⟩) h1 (sp_len K)
  have h3 := sp_it_ok (f := sp_f3) hK tg htg (fun i => ⟨sp_gd1 _ _ (by decide), Nat.zero_le _⟩) h2 3
  have h4 : sp_zz C (sp_mD C K tg m ib cb) ∧ sp_wm (sp_mD C K tg m ib cb) := ⟨h3.1.tk hK h3.2 tg 0 0, sp_tk_wm h3.2 htg (by decide) (by decide)⟩
  have h5 := sp_it_ok (f := sp_fu K) hK tg htg (fun i => ⟨sp_la_le _ _, Nat.zero_le _⟩) h4 (sp_len K)
  have h6 : sp_zz C (sp_tk C K tg (sp_it C K tg (sp_fu K) (sp_len K) (sp_mD C K tg m ib cb)) 1 0).2 ∧ sp_wm (sp_tk C K tg (sp_it C K tg (sp_fu K) (sp_len K) (sp_mD C K tg m ib cb)) 1 0).2 := ⟨h5.1.tk hK h5.2 tg 1 0, sp_tk_wm h5.2 htg (by decide) (by decide)⟩
  exact ⟨h6.1.tk hK h6.2 tg 0 0, sp_tk_wm h6.2 htg (by decide) (by decide)⟩
theorem fw_input (S : ap_S) (hw : ap_wf S) : ap_wf (fa_input S).2 := by
  obtain ⟨C, K, m, tg, tk, no, nu, fO, fU⟩ := S
  have hw0 := hw
  obtain ⟨hC, hK, hm, htg, hno, hnu, hz0, hz2⟩ := hw
  unfold fa_input
  dsimp only
  split
  · exact hw0
  next q =>
  obtain ⟨⟨b1, b2, b3, b4, b5⟩, l1, l2, l3, l4⟩ := hC
  refine ⟨⟨⟨by simp [sp_w]; omega, by simp [sp_w]; omega, by simpa [sp_w] using b3, by simpa [sp_w] using b4, by simpa [sp_w] using b5⟩, fun l hl => ?_, fun c hc => ?_, fun i hi => ?_, fun t ht => ?_⟩, ?_, hm, htg, hno, hnu, fun i hi => ?_, fun c hc => ?_⟩
  · by_cases e : l = C 9 0
    · left
      simp [sp_w, e]
    · have hl' : l < C 9 0 := by simp [sp_w] at hl; omega
      have := l1 l hl'
      simp [sp_w, e]
      omega
  · have := l2 c (by simpa [sp_w] using hc)
    simp [sp_w]
    omega
  · have := l3 i (by simpa [sp_w] using hi)
    simp [sp_w]
    omega
  · have := l4 t (by simpa [sp_w] using ht)
    simpa [sp_w] using this
  · exact ⟨hK.1, fun c hc => by simpa [sp_w] using hK.2 c hc⟩
  · simp [sp_w] at hi
    exact hz0 i (by omega)
  · simp [sp_w] at hc
    exact hz2 c hc
theorem fw_gate (S : ap_S) (hw : ap_wf S) (op a b c : Int32) : ap_wf (fa_gate op a b c S).2 := by
  obtain ⟨C, K, m, tg, tk, no, nu, fO, fU⟩ := S
  have hw0 := hw
  obtain ⟨hC, hK, hm, htg, hno, hnu, hz0, hz2⟩ := hw
  unfold fa_gate
  dsimp only
  split
  · exact hw0
  next ho =>
  split
  · exact hw0
  next hs =>
  split
  · exact hw0
  next q =>
  obtain ⟨⟨b1, b2, b3, b4, b5⟩, l1, l2, l3, l4⟩ := hC
  obtain ⟨j, hj, rfl, ej⟩ := ap_v_t (n := 7) (by simpa using ho) (by decide)
  have ha : ap_v a (C 9 0) = true := by
    cases h : ap_v a (C 9 0) with
    | true => rfl
    | false => exact absurd (Or.inl h) hs
  obtain ⟨x1, hx1, rfl, e1⟩ := ap_v_t ha (by omega)
  have h2 : (if nI j = 3 then ap_i (nI x1) else ap_i b) < C 9 0 := by
    split
    · rw [e1]
      exact hx1
    · next n3 =>
      have hb : ap_v b (C 9 0) = true := by
        cases h : ap_v b (C 9 0) with
        | true => rfl
        | false => exact absurd (Or.inr (Or.inl ⟨n3, h⟩)) hs
      obtain ⟨x2, hx2, rfl, e2⟩ := ap_v_t hb (by omega)
      rw [e2]
      exact hx2
  have h3 : (if nI j = 4 then ap_i c else ap_i (nI x1)) < C 9 0 := by
    split
    · next n4 =>
      have hb : ap_v c (C 9 0) = true := by
        cases h : ap_v c (C 9 0) with
        | true => rfl
        | false => exact absurd (Or.inr (Or.inr ⟨n4, h⟩)) hs
      obtain ⟨x2, hx2, rfl, e2⟩ := ap_v_t hb (by omega)
      rw [e2]
      exact hx2
    · rw [e1]
      exact hx1
  rw [ej, e1] at *
  generalize (if nI j = 3 then x1 else ap_i b) = y2 at *
  generalize (if nI j = 4 then ap_i c else x1) = y3 at *
  refine ⟨⟨⟨by simp [sp_w]; omega, by simpa [sp_w] using b2, by simpa [sp_w] using b3, by simpa [sp_w] using b4, by simpa [sp_w] using b5⟩, fun l hl => ?_, fun c hc => ?_, fun i hi => ?_, fun t ht => ?_⟩, ?_, hm, htg, hno, hnu, fun i hi => ?_, fun c hc => ?_⟩
  · by_cases e : l = C 9 0
    · right
      right
      simp [sp_w, e]
      omega
    · have hl' : l < C 9 0 := by simp [sp_w] at hl; omega
      have := l1 l hl'
      simp [sp_w, e]
      omega
  · have := l2 c (by simpa [sp_w] using hc)
    simp [sp_w]
    omega
  · have := l3 i (by simpa [sp_w] using hi)
    simp [sp_w]
    omega
  · have := l4 t (by simpa [sp_w] using ht)
    simpa [sp_w] using this
  · exact ⟨hK.1, fun c hc => by simpa [sp_w] using hK.2 c hc⟩
  · simp [sp_w] at hi
    exact hz0 i (by omega)
  · simp [sp_w] at hc
    exact hz2 c hc
theorem fw_cell (S : ap_S) (hw : ap_wf S) (d : Int32) : ap_wf (fa_cell d S).2 := by
  obtain ⟨C, K, m, tg, tk, no, nu, fO, fU⟩ := S
  have hw0 := hw
  obtain ⟨hC, hK, hm, htg, hno, hnu, hz0, hz2⟩ := hw
  unfold fa_cell
  dsimp only
  split
  · exact hw0
  next ho =>
  split
  · exact hw0
  next q =>
  obtain ⟨⟨b1, b2, b3, b4, b5⟩, l1, l2, l3, l4⟩ := hC
  obtain ⟨j, hj, rfl, ej⟩ := ap_v_t (n := 3) (by simpa using ho) (by decide)
  rw [ej]
  refine ⟨⟨⟨by simp [sp_w]; omega, by simpa [sp_w] using b2, by simp [sp_w]; omega, by simpa [sp_w] using b4, by simpa [sp_w] using b5⟩, fun l hl => ?_, fun c hc => ?_, fun i hi => ?_, fun t ht => ?_⟩, ?_, hm, htg, hno, hnu, fun i hi => ?_, fun c hc => ?_⟩
  · by_cases e : l = C 9 0
    · right
      left
      simp [sp_w, e]
    · have hl' : l < C 9 0 := by simp [sp_w] at hl; omega
      have := l1 l hl'
      simp [sp_w, e]
      omega
  · by_cases e : c = C 9 2
    · simp [sp_w, e]
      omega
    · have hc' : c < C 9 2 := by simp [sp_w] at hc; omega
      have := l2 c hc'
      simp [sp_w, e]
      omega
  · have := l3 i (by simpa [sp_w] using hi)
    simp [sp_w]
    omega
  · have := l4 t (by simpa [sp_w] using ht)
    simpa [sp_w] using this
  · exact ⟨hK.1, fun c hc => by have := hK.2 c hc; simp [sp_w]; omega⟩
  · simp [sp_w] at hi
    exact hz0 i (by omega)
  · simp [sp_w] at hc
    exact hz2 c (by omega)
theorem fw_source (S : ap_S) (hw : ap_wf S) (c l : Int32) : ap_wf (fa_source c l S).2 := by
  obtain ⟨C, K, m, tg, tk, no, nu, fO, fU⟩ := S
  have hw0 := hw
  obtain ⟨hC, hK, hm, htg, hno, hnu, hz0, hz2⟩ := hw
  unfold fa_source
  dsimp only
  split
  · exact hw0
  next q =>
  obtain ⟨⟨b1, b2, b3, b4, b5⟩, l1, l2, l3, l4⟩ := hC
  have h2 : ap_v l (C 9 0) = true := by
    cases h : ap_v l (C 9 0) with
    | true => rfl
    | false => exact absurd (Or.inr h) q
  obtain ⟨z, hz, rfl, ez⟩ := ap_v_t h2 (by omega)
  rw [ez]
  generalize ap_i c = x
  refine ⟨⟨⟨by simpa [sp_w] using b1, by simpa [sp_w] using b2, by simpa [sp_w] using b3, by simpa [sp_w] using b4, by simpa [sp_w] using b5⟩, fun l hl => ?_, fun c hc => ?_, fun i hi => ?_, fun t ht => ?_⟩, ?_, hm, htg, hno, hnu, fun i hi => ?_, fun c hc => ?_⟩
  · have := l1 l (by simpa [sp_w] using hl)
    simpa [sp_w] using this
  · have := l2 c (by simpa [sp_w] using hc)
    by_cases e : c = x
    · simp [sp_w, e]
      rw [← e]
      omega
    · simp [sp_w, e]
      omega
  · have := l3 i (by simpa [sp_w] using hi)
    simpa [sp_w] using this
  · have := l4 t (by simpa [sp_w] using ht)
    simpa [sp_w] using this
  · exact ⟨hK.1, fun c hc => by simpa [sp_w] using hK.2 c hc⟩
  · simp [sp_w] at hi
    exact hz0 i (by omega)
  · simp [sp_w] at hc
    exact hz2 c hc
theorem fw_output (S : ap_S) (hw : ap_wf S) (l : Int32) : ap_wf (fa_output l S).2 := by
  obtain ⟨C, K, m, tg, tk, no, nu, fO, fU⟩ := S
  have hw0 := hw
  obtain ⟨hC, hK, hm, htg, hno, hnu, hz0, hz2⟩ := hw
  unfold fa_output
  dsimp only
  split
  · exact hw0
  next q1 =>
  split
  · exact hw0
  split
  · exact hw0
  next q =>
  obtain ⟨⟨b1, b2, b3, b4, b5⟩, l1, l2, l3, l4⟩ := hC
  obtain ⟨z, hz, rfl, ez⟩ := ap_v_t (x := l) (n := C 9 0) (by simpa using q1) (by omega)
  rw [ez]
  refine ⟨⟨⟨by simpa [sp_w] using b1, by simpa [sp_w] using b2, by simpa [sp_w] using b3, by simp [sp_w]; omega, by simpa [sp_w] using b5⟩, fun l hl => ?_, fun c hc => ?_, fun i hi => ?_, fun t ht => ?_⟩, ?_, hm, htg, hno, hnu, fun i hi => ?_, fun c hc => ?_⟩
  · have := l1 l (by simpa [sp_w] using hl)
    simpa [sp_w] using this
  · have := l2 c (by simpa [sp_w] using hc)
    simpa [sp_w] using this
  · by_cases e : i = C 9 3
    · simp [sp_w, e]
      omega
    · have := l3 i (by simp [sp_w] at hi; omega)
      simp [sp_w, e]
      omega
  · have := l4 t (by simpa [sp_w] using ht)
    simpa [sp_w] using this
  · exact ⟨hK.1, fun c hc => by simpa [sp_w] using hK.2 c hc⟩
  · simp [sp_w] at hi
    exact hz0 i (by omega)
  · simp [sp_w] at hc
    exact hz2 c hc
theorem fw_test (S : ap_S) (hw : ap_wf S) (a b : Int32) : ap_wf (fa_test a b S).2 := by
  obtain ⟨C, K, m, tg, tk, no, nu, fO, fU⟩ := S
  have hw0 := hw
  obtain ⟨hC, hK, hm, htg, hno, hnu, hz0, hz2⟩ := hw
  unfold fa_test
  dsimp only
  split
  · exact hw0
  next q1 =>
  split
  · exact hw0
  next q =>
  obtain ⟨⟨b1, b2, b3, b4, b5⟩, l1, l2, l3, l4⟩ := hC
  have hp1 : 2 ^ (C 9 1) ≤ 2 ^ 8 := Nat.pow_le_pow_right (by decide) b2
  have hp2 : 2 ^ (C 9 2) ≤ 2 ^ 20 := Nat.pow_le_pow_right (by decide) b3
  have g1 : ap_v a (2 ^ (C 9 1)) = true := by
    cases h : ap_v a (2 ^ (C 9 1)) with
    | true => rfl
    | false => exact absurd (Or.inl h) q1
  have g2 : ap_v b (2 ^ (C 9 2)) = true := by
    cases h : ap_v b (2 ^ (C 9 2)) with
    | true => rfl
    | false => exact absurd (Or.inr h) q1
  obtain ⟨x, hx, rfl, ex⟩ := ap_v_t g1 (by omega)
  obtain ⟨z, hz, rfl, ez⟩ := ap_v_t g2 (by omega)
  rw [ex, ez]
  refine ⟨⟨⟨by simpa [sp_w] using b1, by simpa [sp_w] using b2, by simpa [sp_w] using b3, by simpa [sp_w] using b4, by simp [sp_w]; omega⟩, fun l hl => ?_, fun c hc => ?_, fun i hi => ?_, fun t ht => ?_⟩, ?_, hm, htg, hno, hnu, fun i hi => ?_, fun c hc => ?_⟩
  · have := l1 l (by simpa [sp_w] using hl)
    simpa [sp_w] using this
  · have := l2 c (by simpa [sp_w] using hc)
    simpa [sp_w] using this
  · have := l3 i (by simpa [sp_w] using hi)
    simpa [sp_w] using this
  · by_cases e : t = C 9 4
    · simp [sp_w, e]
      omega
    · have := l4 t (by simp [sp_w] at ht; omega)
      simp [sp_w, e]
      exact this
  · exact ⟨hK.1, fun c hc => by simpa [sp_w] using hK.2 c hc⟩
  · simp [sp_w] at hi
    exact hz0 i (by omega)
  · simp [sp_w] at hc
    exact hz2 c hc
theorem sp_wm.w01 {m : sp_T} (hm : sp_wm m) (a x z : Nat) (ha : a = 0 ∨ a = 1) (hz : z ≤ 2) : sp_wm (sp_w m a x z) := by
  obtain ⟨a1, a2, a3, a4, a5, a6, a7, a8, a9⟩ := hm
  have e : ∀ i, sp_w m a x z 2 i = m 2 i := fun i => sp_w_ne (by omega)
  unfold sp_wm
  simp only [e]
  refine ⟨fun i => ?_, fun i => ?_, a3, a4, a5, a6, a7, a8, a9⟩
  · unfold sp_w
    split
    · exact hz
    · exact a1 i
  · unfold sp_w
    split
    · exact hz
    · exact a2 i
theorem fw_set (S : ap_S) (hw : ap_wf S) (i v : Int32) : ap_wf (fa_set i v S).2 := by
  obtain ⟨C, K, m, tg, tk, no, nu, fO, fU⟩ := S
  have hw0 := hw
  obtain ⟨hC, hK, hm, htg, hno, hnu, hz0, hz2⟩ := hw
  unfold fa_set
  dsimp only
  split
  · exact hw0
  next q1 =>
  split
  · exact hw0
  next q2 =>
  have h8 := hC.1.2.1
  obtain ⟨x, hx, rfl, ex⟩ := ap_v_t (x := i) (n := C 9 1) (by simpa using q1) (by omega)
  obtain ⟨z, hz, rfl, ez⟩ := ap_v_t (x := v) (n := 3) (by simpa using q2) (by omega)
  rw [ex, ez]
  exact ⟨hC, hK, hm.w01 0 x z (by omega) (by omega), htg, hno, hnu, fun i hi => (sp_w_ne (by omega)).trans (hz0 i hi), fun c hc => (sp_w_ne (by omega)).trans (hz2 c hc)⟩
theorem fw_hold (S : ap_S) (hw : ap_wf S) (i v : Int32) : ap_wf (fa_hold i v S).2 := by
  obtain ⟨C, K, m, tg, tk, no, nu, fO, fU⟩ := S
  have hw0 := hw
  obtain ⟨hC, hK, hm, htg, hno, hnu, hz0, hz2⟩ := hw
  unfold fa_hold
  dsimp only
  split
  · exact hw0
  next q1 =>
  split
  · exact hw0
  next q2 =>
  have h20 := hC.1.2.2.1
  obtain ⟨x, hx, rfl, ex⟩ := ap_v_t (x := i) (n := C 9 2) (by simpa using q1) (by omega)
  obtain ⟨z, hz, rfl, ez⟩ := ap_v_t (x := v) (n := 3) (by simpa using q2) (by omega)
  rw [ex, ez]
  exact ⟨hC, hK, hm.w01 1 x z (by omega) (by omega), htg, hno, hnu, fun i hi => (sp_w_ne (by omega)).trans (hz0 i hi), fun c hc => (sp_w_ne (by omega)).trans (hz2 c hc)⟩
theorem fw_clock (S : ap_S) (hw : ap_wf S) (d : Int32) : ap_wf (fa_clock d S).2 := by
  obtain ⟨C, K, m, tg, tk, no, nu, fO, fU⟩ := S
  have hw0 := hw
  obtain ⟨hC, hK, hm, htg, hno, hnu, hz⟩ := hw
  unfold fa_clock
  dsimp only
  split
  · exact hw0
  · exact ⟨hC, hK, sp_clk_wm hm, htg, hno, hnu, sp_zz.clk (C := C) (m := m) hz _⟩
theorem fw_stick (S : ap_S) (hw : ap_wf S) (l v : Int32) : ap_wf (fa_stick l v S).2 := by
  obtain ⟨C, K, m, tg, tk, no, nu, fO, fU⟩ := S
  have hw0 := hw
  obtain ⟨hC, hK, hm, htg, hno, hnu, hz⟩ := hw
  have h80 := hC.1.1
  unfold fa_stick
  dsimp only
  split
  · exact ⟨hC, hK, hm.unstick, htg, hno, hnu, sp_zz.w2 (C := C) (m := m) hz _ _⟩
  split
  · exact hw0
  next q1 =>
  split
  · exact hw0
  next q2 =>
  obtain ⟨x, hx, rfl, ex⟩ := ap_v_t (x := l) (n := C 9 0) (by simpa using q1) (by omega)
  obtain ⟨z, hz', rfl, ez⟩ := ap_v_t (x := v) (n := 2) (by simpa using q2) (by omega)
  rw [ex, ez]
  exact ⟨hC, hK, hm.stick (by omega) (by omega), htg, hno, hnu, (sp_zz.w2 (C := C) (m := m) hz _ _).w2 _ _⟩
theorem fw_chain (S : ap_S) (hw : ap_wf S) (k c i : Int32) (t : Nat) (ht : t < 2) : ap_wf (fa_chain k c i t S).2 := by
  obtain ⟨C, K, m, tg, tk, no, nu, fO, fU⟩ := S
  have hw0 := hw
  obtain ⟨hC, hK, hm, htg, hno, hnu, hz0, hz2⟩ := hw
  have h20 := hC.1.2.2.1
  unfold fa_chain
  dsimp only
  split
  · exact hw0
  next q1 =>
  split
  · exact hw0
  next q2 =>
  split
  · exact hw0
  next q3 =>
  have g1 : ap_v k 3 = true := by
    cases h : ap_v k 3 with
    | true => rfl
    | false => exact absurd (Or.inl h) q1
  have g2 : ap_v c (C 9 2) = true := by
    cases h : ap_v c (C 9 2) with
    | true => rfl
    | false => exact absurd (Or.inr h) q1
  obtain ⟨x, hx, rfl, ex⟩ := ap_v_t g1 (by omega)
  obtain ⟨y, hy, rfl, ey⟩ := ap_v_t g2 (by omega)
  rw [ex] at q2
  rw [ey] at q3
  rw [ex, ey]
  have hlen := hK.lenk hx
  obtain ⟨z, hz', rfl, ez⟩ := ap_v_t (x := i) (n := (K x).length + 1) (by simpa using q2) (by omega)
  rw [ez]
  exact ⟨hC.w12 y t (by omega), hK.ins hx hy q3 (by omega), hm, htg, hno, hnu, fun i hi => hz0 i (by rw [sp_w_ne (by omega)] at hi; exact hi), fun c hc => hz2 c (by rw [sp_w_ne (by omega)] at hc; exact hc)⟩
theorem fw_unchain (S : ap_S) (hw : ap_wf S) (c : Int32) : ap_wf (fa_unchain c S).2 := by
  obtain ⟨C, K, m, tg, tk, no, nu, fO, fU⟩ := S
  have hw0 := hw
  obtain ⟨hC, hK, hm, htg, hno, hnu, hz⟩ := hw
  unfold fa_unchain
  dsimp only
  split
  · exact hw0
  split
  · exact hw0
  · exact ⟨hC, hK.del _, hm, htg, hno, hnu, hz⟩
theorem fw_stitch (S : ap_S) (hw : ap_wf S) : ap_wf (fa_stitch S).2 := by
  obtain ⟨C, K, m, tg, tk, no, nu, fO, fU⟩ := S
  obtain ⟨hC, hK, hm, htg, hno, hnu, hz0, hz2⟩ := hw
  obtain ⟨a1, a2, a3, -⟩ := sp_st_ok hC hK (C 9 2) (Nat.le_refl _)
  exact ⟨a1, a2, hm, htg, hno, hnu, fun i hi => hz0 i (Nat.le_trans (Nat.le_of_eq (a3 9 1 (by decide)).symm) hi), fun c hc => hz2 c (Nat.le_trans (Nat.le_of_eq (a3 9 2 (by decide)).symm) hc)⟩
theorem fw_shift (S : ap_S) (hw : ap_wf S) (k v : Int32) : ap_wf (fa_shift k v S).2 := by
  obtain ⟨C, K, m, tg, tk, no, nu, fO, fU⟩ := S
  have hw0 := hw
  obtain ⟨hC, hK, hm, htg, hno, hnu, hz⟩ := hw
  unfold fa_shift
  dsimp only
  split
  · exact hw0
  next q1 =>
  split
  · exact hw0
  next q2 =>
  obtain ⟨x, hx, rfl, ex⟩ := ap_v_t (x := k) (n := 3) (by simpa using q1) (by omega)
  obtain ⟨z, hz', rfl, ez⟩ := ap_v_t (x := v) (n := 3) (by simpa using q2) (by omega)
  rw [ex, ez]
  exact ⟨hC, hK, sp_row_wm1 hm (sp_sh_le (sp_cv_le hm) _ _ _ (by omega) hm.2.1), htg, hno, hnu, sp_zz.sh (C := C) (m := m) hz _ _ (fun c hc => hK.2 c (sp_all_mem hx hc)) _⟩
theorem fw_tag (S : ap_S) (hw : ap_wf S) (v : Int32) : ap_wf (fa_tag v S).2 := by
  obtain ⟨C, K, m, tg, tk, no, nu, fO, fU⟩ := S
  obtain ⟨hC, hK, hm, htg, hno, hnu, hz⟩ := hw
  exact ⟨hC, hK, hm, Nat.mod_lt _ (by decide), hno, hnu, hz⟩
theorem fw_tick (S : ap_S) (hw : ap_wf S) (lead x : Int32) : ap_wf (fa_tick lead x S).2 := by
  obtain ⟨C, K, m, tg, tk, no, nu, fO, fU⟩ := S
  have hw0 := hw
  obtain ⟨hC, hK, hm, htg, hno, hnu, hz⟩ := hw
  unfold fa_tick
  dsimp only
  split
  · exact hw0
  next q1 =>
  have g1 : ap_v lead 2 = true := by
    cases h : ap_v lead 2 with
    | true => rfl
    | false => exact absurd (Or.inl h) q1
  have g2 : ap_v x 2 = true := by
    cases h : ap_v x 2 with
    | true => rfl
    | false => exact absurd (Or.inr h) q1
  obtain ⟨a, ha, rfl, ea⟩ := ap_v_t g1 (by omega)
  obtain ⟨b, hb, rfl, eb⟩ := ap_v_t g2 (by omega)
  rw [ea, eb]
  exact ⟨hC, hK, sp_tk_wm hm htg (by omega) (by omega), htg, hno, hnu, sp_zz.tk (C := C) (m := m) hK hz hm _ _ _⟩
theorem fw_drive (S : ap_S) (hw : ap_wf S) (t : Int32) : ap_wf (fa_drive t S).2 := by
  obtain ⟨C, K, m, tg, tk, no, nu, fO, fU⟩ := S
  have hw0 := hw
  obtain ⟨hC, hK, hm, htg, hno, hnu, hz⟩ := hw
  unfold fa_drive
  dsimp only
  split
  · exact hw0
  · obtain ⟨a, b⟩ := sp_mF_ok hK tg htg hz hm (C 10 (ap_i t)) (C 11 (ap_i t))
    exact ⟨hC, hK, b, htg, hC.1.2.2.2.1, (sp_len_le hC hK).2, a⟩
