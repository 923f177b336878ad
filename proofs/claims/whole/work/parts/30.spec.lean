/-! ===== the mathematics: a circuit C (tables of numbers), its chains K, a machine m (inputs, holds, the controller's numbers) =====
C 0 l kind, C 1 l number or OP, C 2 .. C 4 l sources, C 5 c line of cell c, C 6 c domain, C 7 c source, C 8 i output line, C 9: 0 lines 1 inputs 2 cells 3 outputs 4 tests, C 10 t, C 11 t bits of tests, C 12 c turned
m 0 i input, m 1 c hold, m 2: 0 stuck line + 1 (0: none), 1 stuck at, 2 state, 3 order, 4 row, 5 aside, 6 tag's row -/
abbrev sp_T : Type := Nat → Nat → Nat
def sp_w (C : sp_T) (a j x : Nat) : sp_T := fun b i => if b = a ∧ i = j then x else C b i
theorem sp_w_eq {C : sp_T} {a j x : Nat} : sp_w C a j x a j = x := by simp [sp_w]
theorem sp_w_ne {C : sp_T} {a j x b i : Nat} (h : ¬ (b = a ∧ i = j)) : sp_w C a j x b i = C b i := by simp [sp_w, h]
def sp_not (a : Nat) : Nat := if a = 2 then 2 else 1 - a
def sp_and (a b : Nat) : Nat := if a = 0 ∨ b = 0 then 0 else if a = 1 ∧ b = 1 then 1 else 2
def sp_gate (op a b c : Nat) : Nat :=
  if op = 0 then sp_and a b else if op = 1 then sp_not (sp_and (sp_not a) (sp_not b)) else if op = 2 then (if a = 2 ∨ b = 2 then 2 else if a = b then 0 else 1)
  else if op = 3 then sp_not a else if op = 4 then (if a = 0 then b else if a = 1 then c else if b = c then b else 2) else if op = 5 then sp_not (sp_and a b) else sp_and (sp_not a) (sp_not b)
/-- a line's value, given those ahead of it -/
def sp_one (C m : sp_T) (v : Nat → Nat) (l : Nat) : Nat :=
  if l + 1 = m 2 0 then m 2 1 else if C 0 l = 0 then m 0 (C 1 l) else if C 0 l = 2 then m 1 (C 1 l) else sp_gate (C 1 l) (v (C 2 l)) (v (C 3 l)) (v (C 4 l))
def sp_vals (C m : sp_T) : Nat → Nat → Nat
  | 0 => fun _ => 0
  | n + 1 => fun j => if j = n then sp_one C m (sp_vals C m n) n else sp_vals C m n j
def sp_val (C m : sp_T) (l : Nat) : Nat := sp_vals C m (l + 1) l
/-- the circuit's own bounds -/
def sp_wf (C : sp_T) : Prop :=
  (C 9 0 ≤ 80 ∧ C 9 1 ≤ 8 ∧ C 9 2 ≤ 20 ∧ C 9 3 ≤ 8 ∧ C 9 4 ≤ 20) ∧
  (∀ l, l < C 9 0 → (C 0 l = 0 ∧ C 1 l < C 9 1) ∨ (C 0 l = 2 ∧ C 1 l < C 9 2) ∨ (C 0 l = 1 ∧ C 1 l ≤ 6 ∧ C 2 l < l ∧ C 3 l < l ∧ C 4 l < l)) ∧
  (∀ c, c < C 9 2 → C 5 c < C 9 0 ∧ C 6 c ≤ 2 ∧ C 7 c < C 9 0 ∧ C 12 c ≤ 1) ∧
  (∀ i, i < C 9 3 → C 8 i < C 9 0) ∧ (∀ t, t < C 9 4 → C 10 t < 256 ∧ C 11 t < 1048576)
def sp_wm (m : sp_T) : Prop :=
  (∀ i, m 0 i ≤ 2) ∧ (∀ c, m 1 c ≤ 2) ∧ m 2 0 ≤ 80 ∧ (m 2 0 ≠ 0 → m 2 1 ≤ 1) ∧ m 2 2 ≤ 15 ∧ m 2 3 ≤ 7 ∧ m 2 4 ≤ 7 ∧ m 2 5 ≤ 1 ∧ m 2 6 < 65536
theorem sp_vals_lt (C m : sp_T) {j : Nat} : ∀ n, j < n → sp_vals C m n j = sp_val C m j
  | 0, h => absurd h (Nat.not_lt_zero j)
  | n + 1, h => by
    by_cases e : j = n
    · subst e
      rfl
    · show (if j = n then _ else sp_vals C m n j) = _
      rw [if_neg e]
      exact sp_vals_lt C m n (by omega)
theorem sp_gate_3 (a b c b' c' : Nat) : sp_gate 3 a b c = sp_gate 3 a b' c' := rfl
theorem sp_one_congr {C m : sp_T} {v w : Nat → Nat} {l : Nat} (h : ∀ j, j < l → v j = w j) (hw : C 0 l = 0 ∨ C 0 l = 2 ∨ (C 2 l < l ∧ C 3 l < l ∧ C 4 l < l)) : sp_one C m v l = sp_one C m w l := by
  unfold sp_one
  rcases hw with hw | hw | ⟨h1, h2, h3⟩
  · simp [hw]
  · simp [hw]
  · rw [h _ h1, h _ h2, h _ h3]
theorem sp_src {C : sp_T} (hC : sp_wf C) {l : Nat} (hl : l < C 9 0) : C 0 l = 0 ∨ C 0 l = 2 ∨ (C 2 l < l ∧ C 3 l < l ∧ C 4 l < l) := by
  rcases hC.2.1 l hl with h | h | h
  · exact Or.inl h.1
  · exact Or.inr (Or.inl h.1)
  · exact Or.inr (Or.inr h.2.2)
theorem sp_val_eq {C m : sp_T} (hC : sp_wf C) {l : Nat} (hl : l < C 9 0) : sp_val C m l = sp_one C m (sp_val C m) l := by
  unfold sp_val
  show (if l = l then sp_one C m (sp_vals C m l) l else _) = _
  rw [if_pos rfl]
  exact sp_one_congr (fun j hj => sp_vals_lt C m l hj) (sp_src hC hl)
theorem sp_not_le {a : Nat} (h : a ≤ 2) : sp_not a ≤ 2 := by unfold sp_not; split <;> omega
theorem sp_and_le (a b : Nat) : sp_and a b ≤ 2 := by unfold sp_and; split; · omega
                                                     split <;> omega
theorem sp_gate_le {op a b c : Nat} (ha : a ≤ 2) (hb : b ≤ 2) (hc : c ≤ 2) : sp_gate op a b c ≤ 2 := by
  unfold sp_gate
  have h1 := sp_and_le a b
  have h2 := sp_and_le (sp_not a) (sp_not b)
  have h3 := sp_not_le h1
  have h4 := sp_not_le h2
  have h5 := sp_not_le ha
  repeat' split
  all_goals omega
theorem sp_one_le {C m : sp_T} (hm : sp_wm m) {v : Nat → Nat} {l : Nat} (hv : ∀ j, v j ≤ 2) : sp_one C m v l ≤ 2 := by
  unfold sp_one
  split
  · have := hm.2.2.2.1 (by omega)
    omega
  · split
    · exact hm.1 _
    · split
      · exact hm.2.1 _
      · exact sp_gate_le (hv _) (hv _) (hv _)
theorem sp_vals_le {C m : sp_T} (hm : sp_wm m) : ∀ n j, sp_vals C m n j ≤ 2
  | 0, j => by simp [sp_vals]
  | n + 1, j => by
    show (if j = n then _ else _) ≤ 2
    split
    · exact sp_one_le hm (sp_vals_le hm n)
    · exact sp_vals_le hm n j
theorem sp_val_le {C m : sp_T} (hm : sp_wm m) (l : Nat) : sp_val C m l ≤ 2 := sp_vals_le hm _ _
/-! the class's cells: the circuit at 12 .. 30 -/
def rx_C (σ : gz_Mm) (C : sp_T) : Prop :=
  (σ 12 0 = nI (C 9 0) ∧ σ 12 1 = nI (C 9 1) ∧ σ 12 2 = nI (C 9 2) ∧ σ 12 3 = nI (C 9 3)) ∧
  (∀ l, l < C 9 0 → σ 13 l = nI (C 0 l) ∧ σ 14 l = nI (C 1 l) ∧ (C 0 l = 1 → σ 15 l = nI (C 2 l) ∧ (C 1 l ≠ 3 → σ 16 l = nI (C 3 l)) ∧ (C 1 l = 4 → σ 17 l = nI (C 4 l)))) ∧
  (∀ c, c < C 9 2 → σ 19 c = nI (C 5 c) ∧ σ 20 c = nI (C 6 c) ∧ σ 21 c = nI (C 7 c)) ∧ (∀ i, i < C 9 3 → σ 22 i = nI (C 8 i))
/-- the machine at base c: controller c, board c + 1, given c + 2, held c + 3, value c + 4 -/
def rx_m (σ : gz_Mm) (c : Nat) (m : sp_T) : Prop :=
  (∀ i, i < 8 → σ (c + 2) i = nI (m 0 i)) ∧ (∀ i, i < 20 → σ (c + 3) i = nI (m 1 i)) ∧ σ (c + 1) 5 = nI (m 2 0) + (-1) ∧ (m 2 0 ≠ 0 → σ (c + 1) 6 = nI (m 2 1)) ∧
  σ c 1 = nI (m 2 2) ∧ σ c 2 = nI (m 2 3) ∧ σ c 3 = nI (m 2 4) ∧ σ c 4 = nI (m 2 5) ∧ σ c 6 = nI (m 2 6)
theorem nI_m1 (l k : Nat) (hl : l < 1000) (hk : k < 1000) : nI l = nI k + (-1) ↔ l + 1 = k := by
  constructor
  · intro h
    have h2 : nI l + 1 = nI k := by rw [h]; simp [Int32.add_assoc]
    rw [nI_1] at h2
    exact (nI_eq (by omega) (by omega)).mp h2
  · intro h
    subst h
    exact (pk_m1 l).symm
/-! clocking -/
def sp_clk (C m : sp_T) (b : Nat) : sp_T := fun a i => if a = 1 ∧ i < C 9 2 ∧ b / 2 ^ (C 6 i) % 2 = 1 then sp_val C m (C 7 i) else m a i
def sp_cnt (C : sp_T) (b : Nat) : Nat → Nat
  | 0 => 0
  | n + 1 => sp_cnt C b n + (if b / 2 ^ (C 6 n) % 2 = 1 then 1 else 0)
theorem sp_cnt_le (C : sp_T) (b : Nat) : ∀ n, sp_cnt C b n ≤ n
  | 0 => Nat.le_refl 0
  | n + 1 => by
    have := sp_cnt_le C b n
    unfold sp_cnt
    split <;> omega
theorem sp_clk_wm {C m : sp_T} {b : Nat} (hm : sp_wm m) : sp_wm (sp_clk C m b) := by
  obtain ⟨h1, h2, h3, h4, h5⟩ := hm
  have e : ∀ a i, a ≠ 1 → sp_clk C m b a i = m a i := fun a i ha => by simp [sp_clk, ha]
  refine ⟨fun i => by rw [e 0 i (by decide)]; exact h1 i, fun c => ?_, ?_⟩
  · unfold sp_clk
    split
    · exact sp_val_le ⟨h1, h2, h3, h4, h5⟩ _
    · exact h2 c
  · simp only [e 2 _ (by decide)]
    exact ⟨h3, h4, h5⟩
theorem bt_clk : ∀ b, b < 8 → ∀ d, d < 3 → ((nI b >>> (nI d &&& 31)) &&& 1) = nI (b / 2 ^ d % 2) := by decide
theorem bt_s : ∀ n, n < 32 → ((nI n &&& 31).toBitVec.smod 32).toNat = n := by decide
theorem bt_bit {b i : Nat} (hb : b < 2 ^ 31) (hi : i < 32) : ((nI b >>> (nI i &&& 31)) &&& 1) = nI (b / 2 ^ i % 2) := by
  rw [pk_shrN hb _ i (bt_s i hi)]
  exact pk_andN (m := 1) (Nat.lt_of_le_of_lt (Nat.div_le_self _ _) (by omega)) 1 rfl
/-- the machine with another row of numbers -/
def sp_row (m : sp_T) (a : Nat) (f : Nat → Nat) : sp_T := fun b i => if b = a then f i else m b i
/-! shifting: cv the cells' values ahead -/
def sp_cv (C m : sp_T) (c : Nat) : Nat := if C 5 c + 1 = m 2 0 then m 2 1 else m 1 c
def sp_in (C : sp_T) (c v : Nat) : Nat := if C 12 c = 1 then sp_not v else v
def sp_sh (C : sp_T) (cv : Nat → Nat) : List Nat → Nat → (Nat → Nat) → (Nat → Nat)
  | [], _, h => h
  | c :: r, v, h => sp_sh C cv r (cv c) (fun j => if j = c then sp_in C c v else h j)
def sp_out (cv : Nat → Nat) : List Nat → Nat → Nat
  | [], v => v
  | c :: r, _ => sp_out cv r (cv c)
theorem sp_sh_app (C : sp_T) (cv : Nat → Nat) : ∀ (l1 l2 : List Nat) (v : Nat) (h : Nat → Nat), sp_sh C cv (l1 ++ l2) v h = sp_sh C cv l2 (sp_out cv l1 v) (sp_sh C cv l1 v h)
  | [], l2, v, h => rfl
  | c :: r, l2, v, h => sp_sh_app C cv r l2 (cv c) _
theorem sp_out_app (cv : Nat → Nat) : ∀ (l1 l2 : List Nat) (v : Nat), sp_out cv (l1 ++ l2) v = sp_out cv l2 (sp_out cv l1 v)
  | [], l2, v => rfl
  | c :: r, l2, v => sp_out_app cv r l2 (cv c)
theorem sp_sh_out (C : sp_T) (cv : Nat → Nat) {j : Nat} : ∀ (l : List Nat) (v : Nat) (h : Nat → Nat), j ∉ l → sp_sh C cv l v h j = h j
  | [], v, h, _ => rfl
  | c :: r, v, h, hj => by
    show sp_sh C cv r (cv c) _ j = h j
    rw [sp_sh_out C cv r _ _ (fun q => hj (List.mem_cons_of_mem _ q))]
    exact if_neg (fun (q : j = c) => hj (by rw [q]; exact List.mem_cons_self))
theorem sp_cv_le {C m : sp_T} (hm : sp_wm m) (c : Nat) : sp_cv C m c ≤ 2 := by
  unfold sp_cv
  split
  · have := hm.2.2.2.1 (by omega)
    omega
  · exact hm.2.1 c
theorem sp_in_le {C : sp_T} {c v : Nat} (h : v ≤ 2) : sp_in C c v ≤ 2 := by
  unfold sp_in
  split
  · exact sp_not_le h
  · exact h
theorem sp_out_le {cv : Nat → Nat} (hc : ∀ c, cv c ≤ 2) : ∀ (l : List Nat) (v : Nat), v ≤ 2 → sp_out cv l v ≤ 2
  | [], v, h => h
  | c :: r, v, _ => sp_out_le hc r _ (hc c)
theorem sp_sh_le {C : sp_T} {cv : Nat → Nat} (hc : ∀ c, cv c ≤ 2) : ∀ (l : List Nat) (v : Nat) (h : Nat → Nat), v ≤ 2 → (∀ j, h j ≤ 2) → ∀ j, sp_sh C cv l v h j ≤ 2
  | [], v, h, _, h2, j => h2 j
  | c :: r, v, h, h1, h2, j => sp_sh_le hc r (cv c) _ (hc c) (fun i => by
      show (if i = c then sp_in C c v else h i) ≤ 2
      split
      · exact sp_in_le h1
      · exact h2 i) j
/-! the chains: lists of cells -/
abbrev sp_K : Type := Nat → List Nat
def sp_all (K : sp_K) : List Nat := K 0 ++ (K 1 ++ K 2)
def sp_wk (C : sp_T) (K : sp_K) : Prop := (sp_all K).Nodup ∧ ∀ c, c ∈ sp_all K → c < C 9 2
def rx_K (σ : gz_Mm) (C : sp_T) (K : sp_K) : Prop :=
  (∀ k, k < 3 → σ 28 k = nI (K k).length ∧ ∀ i, i < (K k).length → σ (25 + k) i = nI ((K k).getD i 0)) ∧ (∀ c, c ∈ sp_all K → σ 30 c = nI (C 12 c)) ∧
  (∀ c, c < 20 → (c ∉ sp_all K → σ 29 c = -1) ∧ ∀ k, k < 3 → c ∈ K k → σ 29 c = nI k)
theorem nodup_len : ∀ (n : Nat) (l : List Nat), l.Nodup → (∀ c, c ∈ l → c < n) → l.length ≤ n
  | 0, l, _, h => by
    cases l with
    | nil => exact Nat.le_refl 0
    | cons a t => exact absurd (h a List.mem_cons_self) (Nat.not_lt_zero _)
  | n + 1, l, hn, h => by
    by_cases hm : n ∈ l
    · have h1 := nodup_len n (l.erase n) (hn.erase n) (fun c hc => by
        have h3 := (hn.mem_erase_iff).mp hc
        have h2 := h c h3.2
        omega)
      rw [List.length_erase_of_mem hm] at h1
      omega
    · have h1 := nodup_len n l hn (fun c hc => by
        have h2 := h c hc
        have h3 : c ≠ n := fun e => hm (e ▸ hc)
        omega)
      omega
theorem sp_wk.len {C : sp_T} {K : sp_K} (h : sp_wk C K) : (sp_all K).length ≤ C 9 2 := nodup_len _ _ h.1 h.2
theorem sp_all_mem {K : sp_K} {c k : Nat} (hk : k < 3) (h : c ∈ K k) : c ∈ sp_all K := by
  unfold sp_all
  rcases (show k = 0 ∨ k = 1 ∨ k = 2 by omega) with rfl | rfl | rfl <;> simp [h]
theorem sp_all_len (K : sp_K) : (sp_all K).length = (K 0).length + ((K 1).length + (K 2).length) := by simp [sp_all]
theorem sp_wk.lenk {C : sp_T} {K : sp_K} (h : sp_wk C K) {k : Nat} (hk : k < 3) : (K k).length ≤ C 9 2 := by
  have := h.len
  rw [sp_all_len] at this
  rcases (show k = 0 ∨ k = 1 ∨ k = 2 by omega) with rfl | rfl | rfl <;> omega
theorem sp_wk.nodk {C : sp_T} {K : sp_K} (h : sp_wk C K) {k : Nat} (hk : k < 3) : (K k).Nodup := by
  have h1 := h.1
  unfold sp_all at h1
  rw [List.nodup_append, List.nodup_append] at h1
  rcases (show k = 0 ∨ k = 1 ∨ k = 2 by omega) with rfl | rfl | rfl
  · exact h1.1
  · exact h1.2.1.1
  · exact h1.2.1.2.1
def sp_sin (C m : sp_T) (b : Nat) : sp_T := sp_row m 0 (fun i => if i < C 9 1 then b / 2 ^ i % 2 else m 0 i)
def sp_sce (C m : sp_T) (b : Nat) : sp_T := sp_row m 1 (fun c => if c < C 9 2 then b / 2 ^ c % 2 else m 1 c)
theorem sp_row_wm0 {m : sp_T} {f : Nat → Nat} (hm : sp_wm m) (hf : ∀ i, f i ≤ 2) : sp_wm (sp_row m 0 f) := ⟨fun i => hf i, fun c => hm.2.1 c, hm.2.2⟩
theorem sp_row_wm1 {m : sp_T} {f : Nat → Nat} (hm : sp_wm m) (hf : ∀ i, f i ≤ 2) : sp_wm (sp_row m 1 f) := ⟨fun i => hm.1 i, fun c => hf c, hm.2.2⟩
theorem sp_sin_wm {C m : sp_T} {b : Nat} (hm : sp_wm m) : sp_wm (sp_sin C m b) := sp_row_wm0 hm (fun i => by
  show (if i < C 9 1 then _ else _) ≤ 2
  split
  · have := Nat.mod_lt (b / 2 ^ i) (show 2 > 0 by decide)
    omega
  · exact hm.1 i)
theorem sp_sce_wm {C m : sp_T} {b : Nat} (hm : sp_wm m) : sp_wm (sp_sce C m b) := sp_row_wm1 hm (fun i => by
  show (if i < C 9 2 then _ else _) ≤ 2
  split
  · have := Nat.mod_lt (b / 2 ^ i) (show 2 > 0 by decide)
    omega
  · exact hm.2.1 i)
/-- the machine's cells, given that only the rows of inputs and holds have changed -/
theorem rx_m.rows {σ σ' : gz_Mm} {c : Nat} {m m' : sp_T} (h : rx_m σ c m) (h0 : σ' c = σ c) (h1 : σ' (c + 1) = σ (c + 1)) (g : ∀ i, i < 8 → σ' (c + 2) i = nI (m' 0 i)) (k : ∀ i, i < 20 → σ' (c + 3) i = nI (m' 1 i)) (e : ∀ i, m' 2 i = m 2 i) : rx_m σ' c m' := by
  obtain ⟨a1, a2, a3, a4, a5, a6, a7, a8, a9⟩ := h
  unfold rx_m
  rw [h0, h1]
  simp only [e]
  exact ⟨g, k, a3, a4, a5, a6, a7, a8, a9⟩
theorem rx_m.kept {σ σ' : gz_Mm} {c : Nat} {m : sp_T} (h : rx_m σ c m) (hf : ∀ k, c ≤ k → k ≤ c + 3 → σ' k = σ k) : rx_m σ' c m := by
  unfold rx_m at h ⊢
  rw [hf c (by omega) (by omega), hf (c + 1) (by omega) (by omega), hf (c + 2) (by omega) (by omega), hf (c + 3) (by omega) (by omega)]
  exact h
theorem rx_C.kept {σ σ' : gz_Mm} {C : sp_T} (h : rx_C σ C) (hf : ∀ k, 12 ≤ k → k ≤ 22 → σ' k = σ k) : rx_C σ' C := by
  unfold rx_C at h ⊢
  rw [hf 12 (by omega) (by omega), hf 13 (by omega) (by omega), hf 14 (by omega) (by omega), hf 15 (by omega) (by omega), hf 16 (by omega) (by omega), hf 17 (by omega) (by omega), hf 19 (by omega) (by omega), hf 20 (by omega) (by omega), hf 21 (by omega) (by omega), hf 22 (by omega) (by omega)]
  exact h
theorem rx_K.kept {σ σ' : gz_Mm} {C : sp_T} {K : sp_K} (h : rx_K σ C K) (hf : ∀ k, 25 ≤ k → k ≤ 30 → σ' k = σ k) : rx_K σ' C K := by
  obtain ⟨h1, h2, h3⟩ := h
  refine ⟨fun k hk => ?_, fun c hc => by rw [hf 30 (by omega) (by omega)]; exact h2 c hc, fun c hc => by rw [hf 29 (by omega) (by omega)]; exact h3 c hc⟩
  rw [hf 28 (by omega) (by omega), hf (25 + k) (by omega) (by omega)]
  exact h1 k hk
/-! the controller -/
def sp_nx (s lead : Nat) : Nat := if lead = 0 then ([1, 1, 3, 4, 4, 6, 6, 4, 1, 10, 11, 11, 13, 13, 11, 1] : List Nat).getD s 0 else ([0, 2, 9, 5, 5, 8, 7, 8, 2, 0, 12, 12, 15, 14, 15, 2] : List Nat).getD s 0
def sp_cat (C : sp_T) (tg : Nat) (m : sp_T) : sp_T := if m 2 3 < 4 then sp_clk C m 7 else if m 2 3 = 4 then sp_w m 2 6 tg else if m 2 3 = 5 then sp_clk C m 1 else sp_w m 2 5 0
def sp_so (C : sp_T) (K : sp_K) (m : sp_T) (x : Nat) : Nat × sp_T :=
  if m 2 3 < 3 then (sp_out (sp_cv C m) (K (m 2 3)) x, sp_row m 1 (sp_sh C (sp_cv C m) (K (m 2 3)) x (m 1)))
  else if m 2 3 = 3 then (sp_out (sp_cv C m) (sp_all K) x, sp_row m 1 (sp_sh C (sp_cv C m) (sp_all K) x (m 1)))
  else if m 2 3 = 4 then (m 2 6 % 2, sp_w m 2 6 (m 2 6 / 2 + 32768 * x))
  else (m 2 5, sp_w m 2 5 x)
/-- what the state does: the answer, and the machine behind it -/
def sp_do (C : sp_T) (K : sp_K) (tg : Nat) (m : sp_T) (x : Nat) : Int32 × sp_T :=
  if m 2 2 = 0 then (-1, sp_w m 2 3 4) else if m 2 2 = 3 then (-1, sp_cat C tg m) else if m 2 2 = 4 then (nI (sp_so C K m x).1, (sp_so C K m x).2)
  else if m 2 2 = 10 then (-1, sp_w m 2 4 1) else if m 2 2 = 11 then (nI (m 2 4 % 2), sp_w m 2 4 (m 2 4 / 2 + 4 * x)) else if m 2 2 = 15 then (-1, sp_w m 2 3 (m 2 4)) else (-1, m)
def sp_tk (C : sp_T) (K : sp_K) (tg : Nat) (m : sp_T) (lead x : Nat) : Int32 × sp_T := ((sp_do C K tg m x).1, sp_w (sp_do C K tg m x).2 2 2 (sp_nx (m 2 2) lead))
theorem sp_nx_le : ∀ s, s < 16 → ∀ l, l < 2 → sp_nx s l ≤ 15 := by decide
theorem sp_w_wm2 {m : sp_T} {j x : Nat} (hm : sp_wm m) (h2 : j = 2 → x ≤ 15) (h3 : j = 3 → x ≤ 7) (h4 : j = 4 → x ≤ 7) (h5 : j = 5 → x ≤ 1) (h6 : j = 6 → x < 65536) (h0 : j ≠ 0) (h1 : j ≠ 1) : sp_wm (sp_w m 2 j x) := by
  obtain ⟨a1, a2, a3, a4, a5, a6, a7, a8, a9⟩ := hm
  have e0 : ∀ i, sp_w m 2 j x 0 i = m 0 i := fun i => sp_w_ne (by omega)
  have e1 : ∀ i, sp_w m 2 j x 1 i = m 1 i := fun i => sp_w_ne (by omega)
  have e2 : ∀ i, i ≠ j → sp_w m 2 j x 2 i = m 2 i := fun i hi => sp_w_ne (by omega)
  have e3 : ∀ i, i = j → sp_w m 2 j x 2 i = x := fun i hi => by rw [hi]; exact sp_w_eq
  refine ⟨fun i => by rw [e0]; exact a1 i, fun i => by rw [e1]; exact a2 i, by rw [e2 0 (by omega)]; exact a3, by rw [e2 0 (by omega), e2 1 (by omega)]; exact a4, ?_, ?_, ?_, ?_, ?_⟩
  · by_cases e : 2 = j
    · rw [e3 2 e]; exact h2 e.symm
    · rw [e2 2 e]; exact a5
  · by_cases e : 3 = j
    · rw [e3 3 e]; exact h3 e.symm
    · rw [e2 3 e]; exact a6
  · by_cases e : 4 = j
    · rw [e3 4 e]; exact h4 e.symm
    · rw [e2 4 e]; exact a7
  · by_cases e : 5 = j
    · rw [e3 5 e]; exact h5 e.symm
    · rw [e2 5 e]; exact a8
  · by_cases e : 6 = j
    · rw [e3 6 e]; exact h6 e.symm
    · rw [e2 6 e]; exact a9
theorem sp_cat_wm {C m : sp_T} {tg : Nat} (hm : sp_wm m) (ht : tg < 65536) : sp_wm (sp_cat C tg m) := by
  unfold sp_cat
  split
  · exact sp_clk_wm hm
  split
  · exact sp_w_wm2 hm (by omega) (by omega) (by omega) (by omega) (by omega) (by omega) (by omega)
  split
  · exact sp_clk_wm hm
  · exact sp_w_wm2 hm (by omega) (by omega) (by omega) (by omega) (by omega) (by omega) (by omega)
theorem sp_so_wm {C m : sp_T} {K : sp_K} {x : Nat} (hm : sp_wm m) (hx : x ≤ 1) : sp_wm (sp_so C K m x).2 := by
  unfold sp_so
  have hcv := sp_cv_le (C := C) hm
  split
  · exact sp_row_wm1 hm (sp_sh_le hcv _ _ _ (by omega) hm.2.1)
  split
  · exact sp_row_wm1 hm (sp_sh_le hcv _ _ _ (by omega) hm.2.1)
  split
  · have := hm.2.2.2.2.2.2.2.2
    exact sp_w_wm2 hm (by omega) (by omega) (by omega) (by omega) (by omega) (by omega) (by omega)
  · exact sp_w_wm2 hm (by omega) (by omega) (by omega) (by omega) (by omega) (by omega) (by omega)
theorem sp_do_wm {C m : sp_T} {K : sp_K} {tg x : Nat} (hm : sp_wm m) (ht : tg < 65536) (hx : x ≤ 1) : sp_wm (sp_do C K tg m x).2 := by
  unfold sp_do
  have hr := hm.2.2.2.2.2.2.1
  split
  · exact sp_w_wm2 hm (by omega) (by omega) (by omega) (by omega) (by omega) (by omega) (by omega)
  split
  · exact sp_cat_wm hm ht
  split
  · exact sp_so_wm hm hx
  split
  · exact sp_w_wm2 hm (by omega) (by omega) (by omega) (by omega) (by omega) (by omega) (by omega)
  split
  · exact sp_w_wm2 hm (by omega) (by omega) (by omega) (by omega) (by omega) (by omega) (by omega)
  split
  · exact sp_w_wm2 hm (by omega) (by omega) (by omega) (by omega) (by omega) (by omega) (by omega)
  · exact hm
theorem sp_tk_wm {C m : sp_T} {K : sp_K} {tg lead x : Nat} (hm : sp_wm m) (ht : tg < 65536) (hl : lead ≤ 1) (hx : x ≤ 1) : sp_wm (sp_tk C K tg m lead x).2 := by
  have h := sp_nx_le (m 2 2) (Nat.lt_succ_of_le hm.2.2.2.2.1) lead (by omega)
  exact sp_w_wm2 (sp_do_wm hm ht hx) (fun _ => h) (by omega) (by omega) (by omega) (by omega) (by omega) (by omega)
/-- a number of the controller written -/
theorem rx_m.ctl {σ : gz_Mm} {c : Nat} {m : sp_T} (h : rx_m σ c m) (j n : Nat) (hj : j = 1 ∨ j = 2 ∨ j = 3 ∨ j = 4 ∨ j = 6) : rx_m (gz_wr σ c j (nI n)) c (sp_w m 2 (if j = 6 then 6 else j + 1) n) := by
  obtain ⟨a1, a2, a3, a4, a5, a6, a7, a8, a9⟩ := h
  unfold rx_m
  rw [gz_wr_ne (a := c + 1) (by omega), gz_wr_ne (a := c + 2) (by omega), gz_wr_ne (a := c + 3) (by omega), gz_wr_eq]
  rcases hj with rfl | rfl | rfl | rfl | rfl <;> simp [sp_w, upd] <;> exact ⟨a1, a2, a3, a4, by first | assumption | exact ⟨by assumption, by assumption, by assumption, by assumption⟩⟩
theorem sp_clk0 (C m : sp_T) : sp_clk C m 0 = m := by
  funext a i
  simp [sp_clk]
theorem sp_out_congr {cv cv' : Nat → Nat} : ∀ (l : List Nat) (v : Nat), (∀ c, c ∈ l → cv c = cv' c) → sp_out cv l v = sp_out cv' l v
  | [], _, _ => rfl
  | c :: r, v, h => by
    show sp_out cv r (cv c) = sp_out cv' r (cv' c)
    rw [h c List.mem_cons_self]
    exact sp_out_congr r _ (fun d hd => h d (List.mem_cons_of_mem _ hd))
theorem sp_sh_congr {C : sp_T} {cv cv' : Nat → Nat} : ∀ (l : List Nat) (v : Nat) (f : Nat → Nat), (∀ c, c ∈ l → cv c = cv' c) → sp_sh C cv l v f = sp_sh C cv' l v f
  | [], _, _, _ => rfl
  | c :: r, v, f, h => by
    show sp_sh C cv r (cv c) _ = sp_sh C cv' r (cv' c) _
    rw [h c List.mem_cons_self]
    exact sp_sh_congr r _ _ (fun d hd => h d (List.mem_cons_of_mem _ hd))
theorem sp_row_row (m : sp_T) (a : Nat) (f g : Nat → Nat) : sp_row (sp_row m a f) a g = sp_row m a g := by
  funext b i
  simp only [sp_row]
  split <;> rfl
/-- one chain behind another -/
theorem sp_seq {C m : sp_T} {l1 l2 : List Nat} {v : Nat} (hd : ∀ c, c ∈ l2 → c ∉ l1) :
    sp_out (sp_cv C (sp_row m 1 (sp_sh C (sp_cv C m) l1 v (m 1)))) l2 (sp_out (sp_cv C m) l1 v) = sp_out (sp_cv C m) (l1 ++ l2) v ∧
    sp_sh C (sp_cv C (sp_row m 1 (sp_sh C (sp_cv C m) l1 v (m 1)))) l2 (sp_out (sp_cv C m) l1 v) (sp_sh C (sp_cv C m) l1 v (m 1)) = sp_sh C (sp_cv C m) (l1 ++ l2) v (m 1) := by
  have h : ∀ c, c ∈ l2 → sp_cv C (sp_row m 1 (sp_sh C (sp_cv C m) l1 v (m 1))) c = sp_cv C m c := fun c hc => by
    simp only [sp_cv, sp_row, show ¬ (2 : Nat) = 1 by decide, if_false, if_true]
    rw [sp_sh_out C _ _ _ _ (hd c hc)]
  rw [sp_out_app, sp_sh_app]
  exact ⟨sp_out_congr _ _ h, sp_sh_congr _ _ _ h⟩
theorem sp_wk.d01 {C : sp_T} {K : sp_K} (h : sp_wk C K) : ∀ c, c ∈ K 1 → c ∉ K 0 := by
  have h1 := h.1
  unfold sp_all at h1
  rw [List.nodup_append] at h1
  intro c hc h0
  exact h1.2.2 c h0 c (List.mem_append_left _ hc) rfl
theorem sp_wk.d012 {C : sp_T} {K : sp_K} (h : sp_wk C K) : ∀ c, c ∈ K 2 → c ∉ K 0 ++ K 1 := by
  have h1 := h.1
  unfold sp_all at h1
  rw [← List.append_assoc, List.nodup_append] at h1
  intro c hc h0
  exact h1.2.2 c h0 c hc rfl
theorem sp_do_st (C : sp_T) (K : sp_K) (tg : Nat) (m : sp_T) (x : Nat) : (sp_do C K tg m x).2 2 2 = m 2 2 := by
  unfold sp_do
  split
  · simp [sp_w]
  split
  · unfold sp_cat
    split
    · simp [sp_clk]
    split
    · simp [sp_w]
    split
    · simp [sp_clk]
    · simp [sp_w]
  split
  · unfold sp_so
    split
    · simp [sp_row]
    split
    · simp [sp_row]
    split
    · simp [sp_w]
    · simp [sp_w]
  split
  · simp [sp_w]
  split
  · simp [sp_w]
  split
  · simp [sp_w]
  · rfl
theorem rx_m.free {σ : gz_Mm} {c : Nat} {m : sp_T} (h : rx_m σ c m) (j : Nat) (x : Int32) (hj : j = 5 ∨ j = 7) : rx_m (gz_wr σ c j x) c m := by
  obtain ⟨a1, a2, a3, a4, a5, a6, a7, a8, a9⟩ := h
  unfold rx_m
  rw [gz_wr_ne (a := c + 1) (by omega), gz_wr_ne (a := c + 2) (by omega), gz_wr_ne (a := c + 3) (by omega), gz_wr_eq]
  rcases hj with rfl | rfl <;> simp [upd] <;> exact ⟨a1, a2, a3, a4, a5, a6, a7, a8, a9⟩
/-! driving -/
def sp_turn (C : sp_T) : List Nat → Nat
  | [] => 0
  | c :: r => (C 12 c + sp_turn C r) % 2
theorem sp_turn_lt (C : sp_T) : ∀ l, sp_turn C l < 2
  | [] => Nat.zero_lt_two
  | c :: r => Nat.mod_lt _ (by decide)
theorem sp_turn_app (C : sp_T) (c : Nat) : ∀ l, sp_turn C (l ++ [c]) = (sp_turn C l + C 12 c) % 2
  | [] => by simp [sp_turn]
  | d :: r => by
    show (C 12 d + sp_turn C (r ++ [c])) % 2 = ((C 12 d + sp_turn C r) % 2 + C 12 c) % 2
    rw [sp_turn_app C c r]
    omega
def sp_ld (C : sp_T) (K : sp_K) (cb p : Nat) : Nat := (cb / 2 ^ ((sp_all K).getD p 0) % 2 + sp_turn C ((sp_all K).take (p + 1))) % 2
def sp_lo (C : sp_T) (K : sp_K) (cb i : Nat) : Nat := if (sp_all K).length = 0 then 0 else sp_ld C K cb ((sp_all K).length - 1 - i)
theorem sp_lo_le (C : sp_T) (K : sp_K) (cb i : Nat) : sp_lo C K cb i ≤ 1 := by
  unfold sp_lo
  split
  · omega
  · have := Nat.mod_lt (cb / 2 ^ ((sp_all K).getD ((sp_all K).length - 1 - i) 0) % 2 + sp_turn C ((sp_all K).take ((sp_all K).length - 1 - i + 1))) (show 2 > 0 by decide)
    unfold sp_ld
    omega
def sp_len (K : sp_K) : Nat := if (sp_all K).length = 0 then 1 else (sp_all K).length
def sp_la (n i : Nat) : Nat := if i + 1 = n then 1 else 0
def sp_it (C : sp_T) (K : sp_K) (tg : Nat) (f : Nat → Nat × Nat) : Nat → sp_T → sp_T
  | 0, m => m
  | n + 1, m => (sp_tk C K tg (sp_it C K tg f n m) (f n).1 (f n).2).2
def sp_fo (i : Nat) : Nat × Nat := (([1, 1, 1, 1, 1, 0, 1, 1, 0, 0, 0, 0, 1, 1, 1, 0, 0] : List Nat).getD i 0, ([0, 0, 0, 0, 0, 0, 0, 0, 0, 0, 1, 1, 0, 0, 0, 0, 0] : List Nat).getD i 0)
def sp_fl (C : sp_T) (K : sp_K) (cb i : Nat) : Nat × Nat := (sp_la (sp_len K) i, sp_lo C K cb i)
def sp_f3 (i : Nat) : Nat × Nat := (([1, 1, 0] : List Nat).getD i 0, 0)
def sp_fu (K : sp_K) (i : Nat) : Nat × Nat := (sp_la (sp_len K) i, 0)
def sp_mA (C : sp_T) (K : sp_K) (tg : Nat) (m : sp_T) (ib : Nat) : sp_T := sp_it C K tg sp_fo 17 (sp_sin C m ib)
def sp_mB (C : sp_T) (K : sp_K) (tg : Nat) (m : sp_T) (ib cb : Nat) : sp_T := sp_it C K tg (sp_fl C K cb) (sp_len K) (sp_mA C K tg m ib)
def sp_mC (C : sp_T) (K : sp_K) (tg : Nat) (m : sp_T) (ib cb : Nat) : sp_T := sp_it C K tg sp_f3 3 (sp_mB C K tg m ib cb)
def sp_mD (C : sp_T) (K : sp_K) (tg : Nat) (m : sp_T) (ib cb : Nat) : sp_T := (sp_tk C K tg (sp_mC C K tg m ib cb) 0 0).2
def sp_mE (C : sp_T) (K : sp_K) (tg : Nat) (m : sp_T) (ib cb i : Nat) : sp_T := sp_it C K tg (sp_fu K) i (sp_mD C K tg m ib cb)
def sp_ou (C : sp_T) (K : sp_K) (tg : Nat) (m : sp_T) (ib cb i : Nat) : Int32 := (sp_tk C K tg (sp_mE C K tg m ib cb i) (sp_la (sp_len K) i) 0).1
def sp_mF (C : sp_T) (K : sp_K) (tg : Nat) (m : sp_T) (ib cb : Nat) : sp_T := (sp_tk C K tg (sp_tk C K tg (sp_mE C K tg m ib cb (sp_len K)) 1 0).2 0 0).2
theorem sp_wk.len20 {C : sp_T} {K : sp_K} (hC : sp_wf C) (h : sp_wk C K) : (sp_all K).length ≤ 20 := by
  have := h.len
  have := hC.1.2.2.1
  omega
theorem sp_len_le {C : sp_T} {K : sp_K} (hC : sp_wf C) (h : sp_wk C K) : 1 ≤ sp_len K ∧ sp_len K ≤ 20 := by
  have := h.len20 hC
  unfold sp_len
  split <;> omega
