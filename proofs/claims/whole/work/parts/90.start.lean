/-! THE CLAIM OUT OF ONE WALK OF THE LAW'S BODY. Your part is whole_start (and what it stands on); all else here is the same for every law, but numbers. -/
def R_law : String := "ScanBenchLaw"
def lw_P (b : Addr) (xs : List Int32) (args : Array Value) (s : State) : Prop := args = #[.ref b] ∧ s.IntsAt b xs ∧ xs.length ≤ 2560 ∧ (Jvm.Cond.and given_1 narrow_1).before args s = true
def lw_Q (_ : Array Value) (s : State) (o : Outcome) (t : State) : Prop := o = .returned (some (.int 1)) ∧ Framed s o t [] 600000 7302250
def lw_Z (below : List Frame) (a : Array Value) (s : State) : State → Prop := fun t => ∃ o, t.status = .running ∧ Ended t below o ∧ lw_Q a s o t
/-- the law's own end, with 1 on the stack, nothing written that was there before, its room as the claim has it -/
theorem lw_ret {p : Program} {l : Launch} {e : Env} {s : State} {m : MethodId} {below : List Frame} {meth : Method} {c : Code} {b : Nat} (hx : p.tables.exec = Jvm.exec) (hb : c.code = code) (hr : meth.sig.returnType = ret) (hlocks : meth.locks = false) {pc : Nat} {H : Heap} {ls : Array Slot} (hdg : decode code pc = .ok (.ireturn, 1)) : W p l e room_1 s m #[Value.ref b] below meth c H [] 600000 7302250 (lw_Z below #[Value.ref b] s) (F0 m pc ls [.int 1]) := by
  intro T hT X
  obtain ⟨fs, hret, hrun, hended, hW, hframe⟩ := X.leave (v := some (.int 1)) (hlocks := hlocks) (fun h => by rw [hr] at h; cases h)
  have hmeth' : T.vm.method? m = some meth := X.method'
  refine ⟨T.setFrames fs, ?_, .returned (some (.int 1)), hrun, hended, rfl, ⟨_, rfl⟩, hW, hframe⟩
  jvm_step X.here [X.here.top, hx, hb, hdg, hmeth', hr, ret, narrow_b1]
  (try refine ⟨rfl, ?_⟩); (try refine ⟨rfl, ?_⟩)
  first | (intro acts; rw [hret _ acts rfl rfl rfl]) | rw [hret _ _ rfl rfl rfl]
  exact Steps.refl _
/-- what holds at the law's entry: the machine, the code, the tables' words (any of lw_tbl by 'hts w (by decide +kernel)'), the script of L ints xs at the cell b, what the Statement gives of the start (any of its parts by flat_of_before) -/
def lw_At (p : Program) (s : State) (m : MethodId) (meth : Method) (c : Code) (b L : Nat) (xs : Nat → Int32) : Prop :=
  p.tables.exec = Jvm.exec ∧ c.code = code ∧ meth.sig.returnType = ret ∧ c.maxLocals = 4 ∧ s.vm.findClass R_law = some m.cls ∧ (∀ w ∈ lw_tbl, w.before #[Value.ref b] s = true) ∧ va_X b L xs s s.heap ∧ b < s.heap.size ∧ meth.locks = false ∧ (Jvm.Cond.and given_1 narrow_1).before #[Value.ref b] s = true ∧ meth.name = x.name
theorem lw_room {s : State} {pl : Platform} {R R' : Room} (h : s.hasRoom pl R' = true) (h1 : R.locals ≤ R'.locals) (h2 : R.frames ≤ R'.frames) (h3 : R.cells ≤ R'.cells) (h4 : R.slots ≤ R'.slots) : s.hasRoom pl R = true := by
  unfold State.hasRoom at h ⊢
  simp only [Bool.and_eq_true, decide_eq_true_eq] at h ⊢
  obtain ⟨⟨⟨⟨a1, a2, a3, a4, a5, a6⟩, a7⟩, a8⟩, a9⟩ := h
  exact ⟨⟨⟨⟨by omega, by omega, by omega, by omega, by omega, a6⟩, by omega⟩, by omega⟩, a9⟩
theorem lw_same {s t : State} {L : List Loc} {k n : Nat} (h : s.sameButNew t L k n) (hL : ∀ q ∈ L, s.heap.size ≤ q.base) : s.sameButNew t [] k n := by
  obtain ⟨h1, h2, h3, h4, h5, h6⟩ := h
  refine ⟨h1, h2, h3, h4, h5, fun a c hc => ?_⟩
  obtain ⟨c', g1, g2, g3, g4⟩ := h6 a c hc
  refine ⟨c', g1, g2, g3, fun i _ => g4 i (fun hm => ?_)⟩
  have q1 : s.heap.size ≤ a := hL _ hm
  have q2 := (Array.getElem?_eq_some_iff.mp hc).1
  omega
theorem lw_cellT {D : va_G} {N0 : Nat} {ta : Nat → Nat} {U : State} {H : Heap} {t n : Nat} {tb : List Int32} {A : Nat → Prop} (h : va_T .int t n (fun i => .int (tb.getD i 0)) A U H) : gz_cell D N0 ta U H t (.inl (.int, n, fun j => tb.getD j 0)) := by
  obtain ⟨cell, g1, g2, g3, g4, g5, g6, -⟩ := h
  exact ⟨cell, g1, g2, g3, g4, g5, g6⟩
theorem lw_cellX {D : va_G} {N0 : Nat} {ta : Nat → Nat} {U : State} {H : Heap} {b L : Nat} {xs : Nat → Int32} (h : va_X b L xs U H) : gz_cell D N0 ta U H b (.inl (.int, L, xs)) := by
  obtain ⟨cell, g1, g2, g3, g4, g5⟩ := h
  exact ⟨cell, g1, g2, g3, Nat.le_of_eq g4.symm, by rw [g4], g5⟩
theorem lw_tlt {ty : FieldType} {t n : Nat} {f : Nat → Value} {A : Nat → Prop} {U : State} {H : Heap} (h : va_T ty t n f A U H) : t < H.size := by
  obtain ⟨cell, g1, -⟩ := h
  exact (Array.getElem?_eq_some_iff.mp g1).1
theorem lw_D {s : State} {args : Array Value} (hts : ∀ w ∈ gz_TB, w.before args s = true) : ∃ D : va_G, va_K D gz_cl [] s := by
  have h : ∀ c : Nat, ∃ x : ClassId × (Nat → Nat), ∀ q, gz_cl[c]? = some q → u_Kn s q.1 q.2.1 q.2.2 x.1 x.2 := by
    intro c
    match c with
    | 0 =>
      obtain ⟨cC, iS, h⟩ := u_known hts zk_X0 (hts _ zn_X0)
      exact ⟨(cC, iS), fun q hq => by cases Option.some.inj hq; exact h⟩
    | 1 =>
      obtain ⟨cC, iS, h⟩ := u_known hts zk_X1 (hts _ zn_X1)
      exact ⟨(cC, iS), fun q hq => by cases Option.some.inj hq; exact h⟩
    | 2 =>
      obtain ⟨cC, iS, h⟩ := u_known hts zk_X2 (hts _ zn_X2)
      exact ⟨(cC, iS), fun q hq => by cases Option.some.inj hq; exact h⟩
    | 3 =>
      obtain ⟨cC, iS, h⟩ := u_known hts zk_X3 (hts _ zn_X3)
      exact ⟨(cC, iS), fun q hq => by cases Option.some.inj hq; exact h⟩
    | 4 =>
      obtain ⟨cC, iS, h⟩ := u_known hts zk_X4 (hts _ zn_X4)
      exact ⟨(cC, iS), fun q hq => by cases Option.some.inj hq; exact h⟩
    | 5 =>
      obtain ⟨cC, iS, h⟩ := u_known hts zk_X5 (hts _ zn_X5)
      exact ⟨(cC, iS), fun q hq => by cases Option.some.inj hq; exact h⟩
    | 6 =>
      obtain ⟨cC, iS, h⟩ := u_known hts zk_X6 (hts _ zn_X6)
      exact ⟨(cC, iS), fun q hq => by cases Option.some.inj hq; exact h⟩
    | 7 =>
      obtain ⟨cC, iS, h⟩ := u_known hts zk_X7 (hts _ zn_X7)
      exact ⟨(cC, iS), fun q hq => by cases Option.some.inj hq; exact h⟩
    | 8 =>
      obtain ⟨cC, iS, h⟩ := u_known hts zk_X8 (hts _ zn_X8)
      exact ⟨(cC, iS), fun q hq => by cases Option.some.inj hq; exact h⟩
    | 9 =>
      obtain ⟨cC, iS, h⟩ := u_known hts zk_X9 (hts _ zn_X9)
      exact ⟨(cC, iS), fun q hq => by cases Option.some.inj hq; exact h⟩
    | c + 10 => exact ⟨(0, fun _ => 0), fun q hq => by cases (hq : none = some q)⟩
  obtain ⟨f, hf⟩ := Classical.axiomOfChoice h
  exact ⟨(fun c => (f c).1, fun c => (f c).2), fun c q hq => hf c q hq, fun k q hq => by cases hq⟩
def lw_tb0 : List Int32 := [0, 0, 0, 0, 1, 2, 0, 2, 2]
theorem lw_st0 {args : Array Value} {s : State} (hts : ∀ w ∈ lw_tbl, w.before args s = true) (hg : (Jvm.Cond.and given_1 narrow_1).before args s = true) : ∃ t : Nat, va_T .int t 9 (fun i => .int (lw_tb0.getD i 0)) (gz_A s.heap.size) s s.heap ∧ va_Z "ScanBench$Board" "AND_OF" "[I" (.ref t) (gz_A s.heap.size) s s.heap := by
  have hA : ∀ a : Nat, a < s.heap.size → ¬ gz_A s.heap.size a := fun a h q => absurd h (Nat.not_lt.mpr q)
  have hel : ∀ j, j < 9 → Cond.eq (.elem (.static "ScanBench$Board" "AND_OF" "[I") (.int (Int32.ofNat j))) (.int (lw_tb0.getD j 0)) ∈ flatC (Jvm.Cond.and given_1 narrow_1) := by decide +kernel
  obtain ⟨t, h1, h2⟩ := va_Tof (tm := .static "ScanBench$Board" "AND_OF" "[I") (ty := .int) (N := 9) (f := fun i => .int (lw_tb0.getD i 0)) (A := gz_A s.heap.size) (by decide) (flat_of_before _ hg _ (by decide +kernel)) (va_eqt (flat_of_before _ hg _ (by decide +kernel))) (fun j hj => va_eqt (flat_of_before _ hg _ (hel j hj))) hA
  exact ⟨t, h2, va_Zof (hts _ (List.mem_of_getElem? (i := 432) (by decide +kernel))) (hts _ (List.mem_of_getElem? (i := 39) (by decide +kernel))) h1 hA⟩
def lw_tb1 : List Int32 := [0, 1, 2, 1, 1, 1, 2, 1, 2]
theorem lw_st1 {args : Array Value} {s : State} (hts : ∀ w ∈ lw_tbl, w.before args s = true) (hg : (Jvm.Cond.and given_1 narrow_1).before args s = true) : ∃ t : Nat, va_T .int t 9 (fun i => .int (lw_tb1.getD i 0)) (gz_A s.heap.size) s s.heap ∧ va_Z "ScanBench$Board" "OR_OF" "[I" (.ref t) (gz_A s.heap.size) s s.heap := by
  have hA : ∀ a : Nat, a < s.heap.size → ¬ gz_A s.heap.size a := fun a h q => absurd h (Nat.not_lt.mpr q)
  have hel : ∀ j, j < 9 → Cond.eq (.elem (.static "ScanBench$Board" "OR_OF" "[I") (.int (Int32.ofNat j))) (.int (lw_tb1.getD j 0)) ∈ flatC (Jvm.Cond.and given_1 narrow_1) := by decide +kernel
  obtain ⟨t, h1, h2⟩ := va_Tof (tm := .static "ScanBench$Board" "OR_OF" "[I") (ty := .int) (N := 9) (f := fun i => .int (lw_tb1.getD i 0)) (A := gz_A s.heap.size) (by decide) (flat_of_before _ hg _ (by decide +kernel)) (va_eqt (flat_of_before _ hg _ (by decide +kernel))) (fun j hj => va_eqt (flat_of_before _ hg _ (hel j hj))) hA
  exact ⟨t, h2, va_Zof (hts _ (List.mem_of_getElem? (i := 434) (by decide +kernel))) (hts _ (List.mem_of_getElem? (i := 39) (by decide +kernel))) h1 hA⟩
def lw_tb2 : List Int32 := [0, 1, 2, 1, 0, 2, 2, 2, 2]
theorem lw_st2 {args : Array Value} {s : State} (hts : ∀ w ∈ lw_tbl, w.before args s = true) (hg : (Jvm.Cond.and given_1 narrow_1).before args s = true) : ∃ t : Nat, va_T .int t 9 (fun i => .int (lw_tb2.getD i 0)) (gz_A s.heap.size) s s.heap ∧ va_Z "ScanBench$Board" "XOR_OF" "[I" (.ref t) (gz_A s.heap.size) s s.heap := by
  have hA : ∀ a : Nat, a < s.heap.size → ¬ gz_A s.heap.size a := fun a h q => absurd h (Nat.not_lt.mpr q)
  have hel : ∀ j, j < 9 → Cond.eq (.elem (.static "ScanBench$Board" "XOR_OF" "[I") (.int (Int32.ofNat j))) (.int (lw_tb2.getD j 0)) ∈ flatC (Jvm.Cond.and given_1 narrow_1) := by decide +kernel
  obtain ⟨t, h1, h2⟩ := va_Tof (tm := .static "ScanBench$Board" "XOR_OF" "[I") (ty := .int) (N := 9) (f := fun i => .int (lw_tb2.getD i 0)) (A := gz_A s.heap.size) (by decide) (flat_of_before _ hg _ (by decide +kernel)) (va_eqt (flat_of_before _ hg _ (by decide +kernel))) (fun j hj => va_eqt (flat_of_before _ hg _ (hel j hj))) hA
  exact ⟨t, h2, va_Zof (hts _ (List.mem_of_getElem? (i := 436) (by decide +kernel))) (hts _ (List.mem_of_getElem? (i := 39) (by decide +kernel))) h1 hA⟩
def lw_tb3 : List Int32 := [1, 0, 2]
theorem lw_st3 {args : Array Value} {s : State} (hts : ∀ w ∈ lw_tbl, w.before args s = true) (hg : (Jvm.Cond.and given_1 narrow_1).before args s = true) : ∃ t : Nat, va_T .int t 3 (fun i => .int (lw_tb3.getD i 0)) (gz_A s.heap.size) s s.heap ∧ va_Z "ScanBench$Board" "INVERTED" "[I" (.ref t) (gz_A s.heap.size) s s.heap := by
  have hA : ∀ a : Nat, a < s.heap.size → ¬ gz_A s.heap.size a := fun a h q => absurd h (Nat.not_lt.mpr q)
  have hel : ∀ j, j < 3 → Cond.eq (.elem (.static "ScanBench$Board" "INVERTED" "[I") (.int (Int32.ofNat j))) (.int (lw_tb3.getD j 0)) ∈ flatC (Jvm.Cond.and given_1 narrow_1) := by decide +kernel
  obtain ⟨t, h1, h2⟩ := va_Tof (tm := .static "ScanBench$Board" "INVERTED" "[I") (ty := .int) (N := 3) (f := fun i => .int (lw_tb3.getD i 0)) (A := gz_A s.heap.size) (by decide) (flat_of_before _ hg _ (by decide +kernel)) (va_eqt (flat_of_before _ hg _ (by decide +kernel))) (fun j hj => va_eqt (flat_of_before _ hg _ (hel j hj))) hA
  exact ⟨t, h2, va_Zof (hts _ (List.mem_of_getElem? (i := 430) (by decide +kernel))) (hts _ (List.mem_of_getElem? (i := 39) (by decide +kernel))) h1 hA⟩
def lw_tb4 : List Int32 := [7, 7, 7, 7, 0, 1, 0, 0]
theorem lw_st4 {args : Array Value} {s : State} (hts : ∀ w ∈ lw_tbl, w.before args s = true) (hg : (Jvm.Cond.and given_1 narrow_1).before args s = true) : ∃ t : Nat, va_T .int t 8 (fun i => .int (lw_tb4.getD i 0)) (gz_A s.heap.size) s s.heap ∧ va_Z "ScanBench$Controller" "CLOCKED_BY_ORDER" "[I" (.ref t) (gz_A s.heap.size) s s.heap := by
  have hA : ∀ a : Nat, a < s.heap.size → ¬ gz_A s.heap.size a := fun a h q => absurd h (Nat.not_lt.mpr q)
  have hel : ∀ j, j < 8 → Cond.eq (.elem (.static "ScanBench$Controller" "CLOCKED_BY_ORDER" "[I") (.int (Int32.ofNat j))) (.int (lw_tb4.getD j 0)) ∈ flatC (Jvm.Cond.and given_1 narrow_1) := by decide +kernel
  obtain ⟨t, h1, h2⟩ := va_Tof (tm := .static "ScanBench$Controller" "CLOCKED_BY_ORDER" "[I") (ty := .int) (N := 8) (f := fun i => .int (lw_tb4.getD i 0)) (A := gz_A s.heap.size) (by decide) (flat_of_before _ hg _ (by decide +kernel)) (va_eqt (flat_of_before _ hg _ (by decide +kernel))) (fun j hj => va_eqt (flat_of_before _ hg _ (hel j hj))) hA
  exact ⟨t, h2, va_Zof (hts _ (List.mem_of_getElem? (i := 520) (by decide +kernel))) (hts _ (List.mem_of_getElem? (i := 38) (by decide +kernel))) h1 hA⟩
def lw_tb5 : List Int32 := [1, 1, 3, 4, 4, 6, 6, 4, 1, 10, 11, 11, 13, 13, 11, 1]
theorem lw_st5 {args : Array Value} {s : State} (hts : ∀ w ∈ lw_tbl, w.before args s = true) (hg : (Jvm.Cond.and given_1 narrow_1).before args s = true) : ∃ t : Nat, va_T .int t 16 (fun i => .int (lw_tb5.getD i 0)) (gz_A s.heap.size) s s.heap ∧ va_Z "ScanBench$Controller" "NEXT_BY_0" "[I" (.ref t) (gz_A s.heap.size) s s.heap := by
  have hA : ∀ a : Nat, a < s.heap.size → ¬ gz_A s.heap.size a := fun a h q => absurd h (Nat.not_lt.mpr q)
  have hel : ∀ j, j < 16 → Cond.eq (.elem (.static "ScanBench$Controller" "NEXT_BY_0" "[I") (.int (Int32.ofNat j))) (.int (lw_tb5.getD j 0)) ∈ flatC (Jvm.Cond.and given_1 narrow_1) := by decide +kernel
  obtain ⟨t, h1, h2⟩ := va_Tof (tm := .static "ScanBench$Controller" "NEXT_BY_0" "[I") (ty := .int) (N := 16) (f := fun i => .int (lw_tb5.getD i 0)) (A := gz_A s.heap.size) (by decide) (flat_of_before _ hg _ (by decide +kernel)) (va_eqt (flat_of_before _ hg _ (by decide +kernel))) (fun j hj => va_eqt (flat_of_before _ hg _ (hel j hj))) hA
  exact ⟨t, h2, va_Zof (hts _ (List.mem_of_getElem? (i := 544) (by decide +kernel))) (hts _ (List.mem_of_getElem? (i := 38) (by decide +kernel))) h1 hA⟩
def lw_tb6 : List Int32 := [0, 2, 9, 5, 5, 8, 7, 8, 2, 0, 12, 12, 15, 14, 15, 2]
theorem lw_st6 {args : Array Value} {s : State} (hts : ∀ w ∈ lw_tbl, w.before args s = true) (hg : (Jvm.Cond.and given_1 narrow_1).before args s = true) : ∃ t : Nat, va_T .int t 16 (fun i => .int (lw_tb6.getD i 0)) (gz_A s.heap.size) s s.heap ∧ va_Z "ScanBench$Controller" "NEXT_BY_1" "[I" (.ref t) (gz_A s.heap.size) s s.heap := by
  have hA : ∀ a : Nat, a < s.heap.size → ¬ gz_A s.heap.size a := fun a h q => absurd h (Nat.not_lt.mpr q)
  have hel : ∀ j, j < 16 → Cond.eq (.elem (.static "ScanBench$Controller" "NEXT_BY_1" "[I") (.int (Int32.ofNat j))) (.int (lw_tb6.getD j 0)) ∈ flatC (Jvm.Cond.and given_1 narrow_1) := by decide +kernel
  obtain ⟨t, h1, h2⟩ := va_Tof (tm := .static "ScanBench$Controller" "NEXT_BY_1" "[I") (ty := .int) (N := 16) (f := fun i => .int (lw_tb6.getD i 0)) (A := gz_A s.heap.size) (by decide) (flat_of_before _ hg _ (by decide +kernel)) (va_eqt (flat_of_before _ hg _ (by decide +kernel))) (fun j hj => va_eqt (flat_of_before _ hg _ (hel j hj))) hA
  exact ⟨t, h2, va_Zof (hts _ (List.mem_of_getElem? (i := 546) (by decide +kernel))) (hts _ (List.mem_of_getElem? (i := 38) (by decide +kernel))) h1 hA⟩
def lw_tb7 : List Int32 := [1, 1, 1, 1, 1, 0, 1, 1, 0, 0, 0, 0, 1, 1, 1, 0, 0]
theorem lw_st7 {args : Array Value} {s : State} (hts : ∀ w ∈ lw_tbl, w.before args s = true) (hg : (Jvm.Cond.and given_1 narrow_1).before args s = true) : ∃ t : Nat, va_T .int t 17 (fun i => .int (lw_tb7.getD i 0)) (gz_A s.heap.size) s s.heap ∧ va_Z "ScanBench$Driver" "OPEN_LEADS" "[I" (.ref t) (gz_A s.heap.size) s s.heap := by
  have hA : ∀ a : Nat, a < s.heap.size → ¬ gz_A s.heap.size a := fun a h q => absurd h (Nat.not_lt.mpr q)
  have hel : ∀ j, j < 17 → Cond.eq (.elem (.static "ScanBench$Driver" "OPEN_LEADS" "[I") (.int (Int32.ofNat j))) (.int (lw_tb7.getD j 0)) ∈ flatC (Jvm.Cond.and given_1 narrow_1) := by decide +kernel
  obtain ⟨t, h1, h2⟩ := va_Tof (tm := .static "ScanBench$Driver" "OPEN_LEADS" "[I") (ty := .int) (N := 17) (f := fun i => .int (lw_tb7.getD i 0)) (A := gz_A s.heap.size) (by decide) (flat_of_before _ hg _ (by decide +kernel)) (va_eqt (flat_of_before _ hg _ (by decide +kernel))) (fun j hj => va_eqt (flat_of_before _ hg _ (hel j hj))) hA
  exact ⟨t, h2, va_Zof (hts _ (List.mem_of_getElem? (i := 580) (by decide +kernel))) (hts _ (List.mem_of_getElem? (i := 41) (by decide +kernel))) h1 hA⟩
def lw_tb8 : List Int32 := [0, 0, 0, 0, 0, 0, 0, 0, 0, 0, 1, 1, 0, 0, 0, 0, 0]
theorem lw_st8 {args : Array Value} {s : State} (hts : ∀ w ∈ lw_tbl, w.before args s = true) (hg : (Jvm.Cond.and given_1 narrow_1).before args s = true) : ∃ t : Nat, va_T .int t 17 (fun i => .int (lw_tb8.getD i 0)) (gz_A s.heap.size) s s.heap ∧ va_Z "ScanBench$Driver" "OPEN_INS" "[I" (.ref t) (gz_A s.heap.size) s s.heap := by
  have hA : ∀ a : Nat, a < s.heap.size → ¬ gz_A s.heap.size a := fun a h q => absurd h (Nat.not_lt.mpr q)
  have hel : ∀ j, j < 17 → Cond.eq (.elem (.static "ScanBench$Driver" "OPEN_INS" "[I") (.int (Int32.ofNat j))) (.int (lw_tb8.getD j 0)) ∈ flatC (Jvm.Cond.and given_1 narrow_1) := by decide +kernel
  obtain ⟨t, h1, h2⟩ := va_Tof (tm := .static "ScanBench$Driver" "OPEN_INS" "[I") (ty := .int) (N := 17) (f := fun i => .int (lw_tb8.getD i 0)) (A := gz_A s.heap.size) (by decide) (flat_of_before _ hg _ (by decide +kernel)) (va_eqt (flat_of_before _ hg _ (by decide +kernel))) (fun j hj => va_eqt (flat_of_before _ hg _ (hel j hj))) hA
  exact ⟨t, h2, va_Zof (hts _ (List.mem_of_getElem? (i := 582) (by decide +kernel))) (hts _ (List.mem_of_getElem? (i := 41) (by decide +kernel))) h1 hA⟩
def lw_tb9 : List Int32 := [1, 1, 0]
theorem lw_st9 {args : Array Value} {s : State} (hts : ∀ w ∈ lw_tbl, w.before args s = true) (hg : (Jvm.Cond.and given_1 narrow_1).before args s = true) : ∃ t : Nat, va_T .int t 3 (fun i => .int (lw_tb9.getD i 0)) (gz_A s.heap.size) s s.heap ∧ va_Z "ScanBench$Driver" "LOADED_LEADS" "[I" (.ref t) (gz_A s.heap.size) s s.heap := by
  have hA : ∀ a : Nat, a < s.heap.size → ¬ gz_A s.heap.size a := fun a h q => absurd h (Nat.not_lt.mpr q)
  have hel : ∀ j, j < 3 → Cond.eq (.elem (.static "ScanBench$Driver" "LOADED_LEADS" "[I") (.int (Int32.ofNat j))) (.int (lw_tb9.getD j 0)) ∈ flatC (Jvm.Cond.and given_1 narrow_1) := by decide +kernel
  obtain ⟨t, h1, h2⟩ := va_Tof (tm := .static "ScanBench$Driver" "LOADED_LEADS" "[I") (ty := .int) (N := 3) (f := fun i => .int (lw_tb9.getD i 0)) (A := gz_A s.heap.size) (by decide) (flat_of_before _ hg _ (by decide +kernel)) (va_eqt (flat_of_before _ hg _ (by decide +kernel))) (fun j hj => va_eqt (flat_of_before _ hg _ (hel j hj))) hA
  exact ⟨t, h2, va_Zof (hts _ (List.mem_of_getElem? (i := 592) (by decide +kernel))) (hts _ (List.mem_of_getElem? (i := 41) (by decide +kernel))) h1 hA⟩
theorem lw_nw {s : State} {args : Array Value} (hts : ∀ w ∈ lw_tbl, w.before args s = true) : (va_Nw (.methodLinkNest "ScanBench" 9 yX2_init "ScanBench") s ∧ va_Nw (.methodLinkNest "ScanBench" 39 yX6_init "ScanBench") s ∧ va_Nw (.methodLinkNest "ScanBench$Trial" 9 yX5_init "ScanBench") s ∧ va_Nw (.methodLinkNest "ScanBench" 64 yX5_init "ScanBench") s) ∧ va_Nw (.arrayOver (.array .int)) s := by
  have h1 := hts _ (List.mem_of_getElem? (l := lw_tbl) (a := .methodLinkNest "ScanBench" 9 yX2_init "ScanBench") (i := 56) (by decide +kernel))
  have h2 := hts _ (List.mem_of_getElem? (l := lw_tbl) (a := .methodLinkNest "ScanBench" 39 yX6_init "ScanBench") (i := 242) (by decide +kernel))
  have h3 := hts _ (List.mem_of_getElem? (l := lw_tbl) (a := .methodLinkNest "ScanBench$Trial" 9 yX5_init "ScanBench") (i := 282) (by decide +kernel))
  have h4 := hts _ (List.mem_of_getElem? (l := lw_tbl) (a := .methodLinkNest "ScanBench" 64 yX5_init "ScanBench") (i := 328) (by decide +kernel))
  have h5 := hts _ (List.mem_of_getElem? (l := lw_tbl) (a := .arrayOver (.array .int)) (i := 137) (by decide +kernel))
  exact ⟨⟨h1, h2, h3, h4⟩, h5⟩
def lw_ta (b t0 t1 t2 t3 t4 t5 t6 t7 t8 t9 : Nat) : Nat → Nat := fun k => match k with
  | 0 => t0
  | 1 => t1
  | 2 => t2
  | 3 => t3
  | 4 => t4
  | 5 => t5
  | 6 => t6
  | 7 => t7
  | 8 => t8
  | 9 => t9
  | _ => b
theorem whole_start {p : Program} {e : Env} {s : State} {m : MethodId} {below : List Frame} {meth : Method} {c : Code} (l : Launch) {b L : Nat} {xs : Nat → Int32} (hL : L ≤ 2560) (C0 : lw_At p s m meth c b L xs) : W p l e room_1 s m #[Value.ref b] below meth c s.heap [] 0 0 (lw_Z below #[Value.ref b] s) (entryFrame m ([Value.ref b] : List Value).toArray 4) := by
  obtain ⟨c1, c2, c3, c4, c5, c6, c7, c8, c9, c10, c11⟩ := C0
  have hTB : ∀ w ∈ gz_TB, w.before #[Value.ref b] s = true := fun w hw => c6 w (List.mem_filter.mp hw).1
  obtain ⟨D, hD⟩ := lw_D hTB
  obtain ⟨t0, q0, z0⟩ := lw_st0 c6 c10
  obtain ⟨t1, q1, z1⟩ := lw_st1 c6 c10
  obtain ⟨t2, q2, z2⟩ := lw_st2 c6 c10
  obtain ⟨t3, q3, z3⟩ := lw_st3 c6 c10
  obtain ⟨t4, q4, z4⟩ := lw_st4 c6 c10
  obtain ⟨t5, q5, z5⟩ := lw_st5 c6 c10
  obtain ⟨t6, q6, z6⟩ := lw_st6 c6 c10
  obtain ⟨t7, q7, z7⟩ := lw_st7 c6 c10
  obtain ⟨t8, q8, z8⟩ := lw_st8 c6 c10
  obtain ⟨t9, q9, z9⟩ := lw_st9 c6 c10
  have hst : ∀ (j : Nat) (q : String × String), gz_st[j]? = some q → va_Z q.1 q.2 "[I" (.ref (lw_ta b t0 t1 t2 t3 t4 t5 t6 t7 t8 t9 j)) (gz_A s.heap.size) s s.heap := by
    intro j q hq
    match j, hq with
    | 0, hq => cases Option.some.inj hq; exact z0
    | 1, hq => cases Option.some.inj hq; exact z1
    | 2, hq => cases Option.some.inj hq; exact z2
    | 3, hq => cases Option.some.inj hq; exact z3
    | 4, hq => cases Option.some.inj hq; exact z4
    | 5, hq => cases Option.some.inj hq; exact z5
    | 6, hq => cases Option.some.inj hq; exact z6
    | 7, hq => cases Option.some.inj hq; exact z7
    | 8, hq => cases Option.some.inj hq; exact z8
    | 9, hq => cases Option.some.inj hq; exact z9
    | j + 10, hq => cases (hq : none = some q)
  have hX : gz_X D s.heap.size (lw_ta b t0 t1 t2 t3 t4 t5 t6 t7 t8 t9) s := ⟨hD, hst, lw_nw c6⟩
  have hlt : ∀ k : Nat, k < 11 → lw_ta b t0 t1 t2 t3 t4 t5 t6 t7 t8 t9 k < s.heap.size := by
    intro k hk
    match k, hk with
    | 0, _ => exact lw_tlt q0
    | 1, _ => exact lw_tlt q1
    | 2, _ => exact lw_tlt q2
    | 3, _ => exact lw_tlt q3
    | 4, _ => exact lw_tlt q4
    | 5, _ => exact lw_tlt q5
    | 6, _ => exact lw_tlt q6
    | 7, _ => exact lw_tlt q7
    | 8, _ => exact lw_tlt q8
    | 9, _ => exact lw_tlt q9
    | k + 10, _ => exact c8
  have hW : gz_W D s.heap.size (lw_ta b t0 t1 t2 t3 t4 t5 t6 t7 t8 t9) (gk_0 L xs) s s.heap := by
    refine ⟨rfl, Nat.le_refl 11, hlt, fun k cc hk => ?_⟩
    match k, hk with
    | 0, hk => cases Option.some.inj hk; exact lw_cellT q0
    | 1, hk => cases Option.some.inj hk; exact lw_cellT q1
    | 2, hk => cases Option.some.inj hk; exact lw_cellT q2
    | 3, hk => cases Option.some.inj hk; exact lw_cellT q3
    | 4, hk => cases Option.some.inj hk; exact lw_cellT q4
    | 5, hk => cases Option.some.inj hk; exact lw_cellT q5
    | 6, hk => cases Option.some.inj hk; exact lw_cellT q6
    | 7, hk => cases Option.some.inj hk; exact lw_cellT q7
    | 8, hk => cases Option.some.inj hk; exact lw_cellT q8
    | 9, hk => cases Option.some.inj hk; exact lw_cellT q9
    | 10, hk => cases Option.some.inj hk; exact lw_cellX c7
    | k + 11, hk => cases (hk : none = some cc)
  have hl := lv_entry ([Value.ref b] : List Value) (n := 4) (Nat.le_of_ble_eq_true rfl)
  rw [lg_entry_eq]
  generalize (lg_sl ([Value.ref b] : List Value) ++ List.replicate (4 - (lg_sl ([Value.ref b] : List Value)).length) Slot.unset).toArray = lsC at hl ⊢
  have hLs : gz_L s.heap.size (lw_ta b t0 t1 t2 t3 t4 t5 t6 t7 t8 t9) [some (.ref 10), none, none, none] lsC 4 := by
    refine ⟨hl.1, hl.2.1, rfl, fun i v hi => ?_⟩
    match i, hi with
    | 0, hi =>
      cases Option.some.inj (Option.some.inj hi)
      exact hl.2.2 (0, .ref b) List.mem_cons_self
    | 1, hi => cases (hi : some none = some (some v))
    | 2, hi => cases (hi : some none = some (some v))
    | 3, hi => cases (hi : some none = some (some v))
    | i + 4, hi => cases (hi : none = some (some v))
  have K := lw_body L hL xs l D s.heap.size (lw_ta b t0 t1 t2 t3 t4 t5 t6 t7 t8 t9) p e s m #[Value.ref b] below meth c s.heap [] lsC 0 0 600000 7302250 ⟨c1, c2, c3, c9, c4, hTB, c5, c11, hX⟩ va_S.rf hW hLs (Nat.le_of_eq (Nat.zero_add _)) (Nat.le_of_eq (Nat.zero_add _))
  intro T hT X
  obtain ⟨t, a1, o, b1, b2, b3, L0, b4, b5⟩ := K T hT ⟨X.1, X.2, X.3, X.4, lw_room X.5 (by decide) (by decide) (by decide) (by decide), X.6, X.7, X.8, X.9, X.10, X.11, X.12, X.13, X.14⟩
  obtain ⟨⟨r, h', e1, e2, -⟩, -⟩ := b3
  subst e2
  exact ⟨t, a1, o, b1, b2, e1, b4.1, b4.2.1, lw_same b4.2.2 b5⟩
set_option maxHeartbeats 4000000 in
theorem lw_walk (l : Launch) (b : Addr) (xs : List Int32) : MetFree l x (headSpec (Jvm.Cond.code x code maxLocals ret :: tables_1) room_1) (lw_P b xs) (fun _ _ _ _ _ => True) lw_Q := by
  refine MetFree.of_bodyS (code := code) (maxLocals := maxLocals) (ret := ret) (by decide) ?_ ?_
  · intro args s m h hn
    obtain ⟨meth, c, h1, h2, h3, h4, h5, h6, -, -⟩ := Cond.code_spec hn (atoms_spec (ws := Jvm.Cond.code x code maxLocals ret :: tables_1) h _ List.mem_cons_self)
    exact ⟨meth, c, h1, h2, h3, h4, h5, h6⟩
  · intro p e s m args below meth c s₁ B hml0 hP _
    obtain ⟨rfl, hx, hbd, hgv⟩ := hP
    obtain ⟨scr, harrAt, hlist, hof, hsmall⟩ := hx
    obtain ⟨hcb, hkn, -, -⟩ := State.arrayAt?_spec harrAt
    have hown : s.vm.findClass R_law = some m.cls := findClass_of_methodNamed B.named
    have hts0 : ∀ c ∈ (Jvm.Cond.code x code maxLocals ret :: tables_1), c.before #[Value.ref b] s = true := atoms_spec (ws := Jvm.Cond.code x code maxLocals ret :: tables_1) B.pre
    have hts : ∀ w ∈ lw_tbl, w.before #[Value.ref b] s = true := k2_hts_sels lw_privs (fun w hw => hts0 w (List.mem_cons_of_mem _ hw)) lw_privs_ok
    have hml : c.maxLocals = 4 := B.maxLocals_eq (hts0 _ List.mem_cons_self)
    have X₀ : Stand p l e room_1 s m #[Value.ref b] below meth c s₁ [] 0 0 := Stand.of_body B
    have hh0 : s₁.heap = s.heap := by rw [B.state]; rfl
    have hsz : scr.slots.size = xs.length := by rw [← Array.length_toList, hlist, List.length_map]
    have hval : ∀ j : Nat, j < xs.length → scr.slots[j]? = some (.int (xs.getD j 0)) := fun j hj => by
      rw [← Array.getElem?_toList, hlist]
      simp [hj]
    have hbl : b < s.heap.size := (Array.getElem?_eq_some_iff.mp hcb).1
    have hX : va_X b xs.length (fun j => xs.getD j 0) s s.heap := ⟨scr, hcb, hof, hkn, hsz, hval⟩
    have K : W p l e room_1 s m #[Value.ref b] below meth c s₁.heap [] 0 0 (lw_Z below #[Value.ref b] s) (entryFrame m ([Value.ref b] : List Value).toArray 4) := by
      rw [hh0]
      exact whole_start l hbd ⟨B.exec, B.bytes, B.returns, hml, hown, hts, hX, hbl, B.notSynchronized, hgv, (name_of_methodNamed B.named B.method).1⟩
    obtain ⟨t, a1, o, b1, b2, b3⟩ := K s₁ rfl X₀
    exact ⟨t, o, a1, b1, b2, b3⟩
theorem lw_pre_spec {args : Array Value} {s : State} (h : (Jvm.Cond.and given_1 narrow_1).before args s = true) (hr : rest_1_c.before args s = true) : ∃ (b : Addr) (xs : List Int32), lw_P b xs args s := by
  have hs := flat_of_before _ h
  have hq := flat_of_before _ hr
  have hc : (Cond.count 1).before args s = true := hs _ (by decide +kernel)
  have harr : (Cond.arrayOf (.arg 0) .int).before args s = true := hs _ (by decide +kernel)
  have hle : (Cond.le (.length (.arg 0)) (.int 2560)).before args s = true := hs _ (by decide +kernel)
  have hlen : (Cond.isInt (.length (.arg 0))).before args s = true := hq _ (by decide +kernel)
  have hall : (Cond.all (.arg 0) (.isInt (.elem (.arg 0) (.index 0)))).before args s = true := hq _ (by decide +kernel)
  obtain ⟨b, xs, hb, hx⟩ := State.ints_of_pre rfl harr hlen hall
  have hsm : xs.length < 2 ^ 31 := hx.choose_spec.2.2.2
  have hev : (Term.length (.arg 0)).eval args s none [] s = some (.int xs.length.toInt32) := hx.length_eval hb
  have hv := Cond.le_ints hev (show (Term.int 2560).eval args s none [] s = some (.int 2560) from rfl)
  have hd : xs.length.toInt32 ≤ 2560 := by
    simpa [Cond.before, Cond.holds, hv] using hle
  have hN : xs.length ≤ 2560 := (Int32.ofNat_le_ofNat hsm (by decide)).mp (show Int32.ofNat xs.length ≤ Int32.ofNat 2560 from hd)
  exact ⟨b, xs, Cond.one_arg hc (show args[0]? = some (.ref b) from hb), hx, hN, h⟩
theorem lw_comes (l : Launch) : Comes l x (Jvm.Cond.code x code maxLocals ret :: tables_1) room_1 (fun tb e args s => Calls_1 tb e args s ∧ rest_1 tb e args s ∧ Pre_1 tb e args s)
    (fun _ _ args s o t => lw_Q args s o t) := by
  intro p e ha hc hk s m args below hf hfit hheap happ hpre
  obtain ⟨b, xs, hP⟩ := lw_pre_spec hpre.2.2 hpre.2.1
  obtain ⟨k, o, h1, h2, h3, hQ⟩ := lw_walk l b xs p e ha hc hk s m args below hf ((Spec.applies_iff_loose hf).mp happ).1 hP trivial
  exact ⟨k, o, h1, h2, h3, hQ⟩
theorem lw_frame {s t : State} {o : Outcome} {args : Array Value} (h : Framed s o t [] 600000 7302250) :
    Framed s o t (fieldLocs frame_1_writes args s ++ arrayLocs frame_1_arrays args s ++ staticLocs frame_1_statics s) 600000 7302250 := h
theorem lw_limb (L : Cond) (hL : ∀ (args : Array Value) (s t : State), L.after args s (.returned (some (.int 1))) t = true) :
    ArmFor flags0 classFile x code maxLocals ret World_1 tables_1 room_1 Calls_1 rest_1 Pre_1
      (fun tb e a s o t => postC L tb e a s o t ∧ Framed s o t (fieldLocs frame_1_writes a s ++ arrayLocs frame_1_arrays a s ++ staticLocs frame_1_statics s) 600000 7302250) := by
  intro l _ _ _ p e ha hc hk s m args below hf hfit hheap happ hpre
  obtain ⟨k, o, h1, h2, h3, rfl, hF⟩ := lw_comes l p e ha hc hk s m args below hf hfit hheap happ hpre
  exact ⟨k, _, h1, h2, h3, hL args s _, lw_frame hF⟩
theorem i_vc : Claimed_1_1 ∧ Claimed_1_2 := ⟨lw_limb limb_1_1 (fun args s t => by simp [limb_1_1, Cond.after, Cond.holds, Cond.value]), lw_limb limb_1_2 (fun args s t => Cond.after_iff.mpr (by
  first | (rw [show limb_1_2 = Cond.eq .result (.int 1) from rfl, Cond.eq_ints (x := 1) (y := 1) rfl rfl]; simp; done) | (simp [limb_1_2, Cond.value, Term.eval]; done)))⟩
