/-! ===== new int[3][20] ===== -/
section ZM
variable {d : Nat} {y : MethodName} {cc : ByteArray} {nL : Nat} {rt : Option FieldType} {mc ms pc : Nat} {ls : List (Option Value)} {st : List Value} {h : gz_AH} {Q : Option Value → gz_AH → Prop}
theorem gz_outer (cA : ClassId) (h0 : Nat) : (Jvm.Free.Multi.outerC cA 3 h0 3).slots = #[.ref (h0 + 1), .ref (h0 + 2), .ref (h0 + 3)] := rfl
theorem gz_inner (comp : ClassId) : (Jvm.Free.Multi.innerC comp 20 (.int 0)).slots = Array.replicate 20 (.int 0) := rfl
theorem zr_mna {idx : Nat} (hw1 : Cond.classLink y.cls idx ("[" ++ (FieldType.array .int).toString) ∈ gz_TB) (hw2 : Cond.arrayClass .int ∈ gz_TB) (hd : decode cc pc = .ok (.multianewarray idx 2, 4)) (hmc : 4 ≤ mc) (hms : 63 ≤ ms)
    (kk : gz_R d y cc nL rt (mc - 4) (ms - 63) (pc + 4) ls (.ref h.length :: st) (h ++ [.inr (100, [.ref (h.length + 1), .ref (h.length + 2), .ref (h.length + 3)])] ++ [.inl (.int, 20, fun _ => 0)] ++ [.inl (.int, 20, fun _ => 0)] ++ [.inl (.int, 20, fun _ => 0)]) Q) : gz_R d y cc nL rt mc ms pc ls (.int 20 :: .int 3 :: st) h Q := by
  intro l D N0 ta p e s m args below meth c H locs lsC cells slots MC MS C S Wd L hc hs
  have hts := C.2.2.2.2.2.1
  have hover := C.2.2.2.2.2.2.2.2.2.2.2
  intro T hT X
  have e3 : (3 : Int32).toNatClampNeg = 3 := by decide
  have e20 : (20 : Int32).toNatClampNeg = 20 := by decide
  obtain ⟨vm₁, cA, comp, -, fA, fC, hO, hI, X', step⟩ := X.multianewarray2F (n := 3) (k := 20) (ty := .int) C.1 C.2.2.2.2.2.2.1 (hts _ hw1) hover (hts _ hw2) (g := F0 m pc lsC (.int 20 :: .int 3 :: st.map (gz_cv N0 ta))) rfl (by rw [C.2.1]; exact hd) rfl (by decide) (by decide) (by decide) (by decide) (by decide) rfl rfl (by rw [e3]; show cells + (1 + 3) ≤ MC; omega) (by rw [e3, e20]; show slots + (3 + 3 * 20) ≤ MS; omega)
  rw [e3, e20] at X' step
  have hdv : defaultValue .int = Value.int 0 := rfl
  rw [hdv] at X' step
  obtain ⟨f1, f2, -, -⟩ := Jvm.Free.Multi.fill_facts (T.setVm vm₁) cA comp 3 20 (.int 0) 3
  have hold := fun (x : Nat) (hx : x < (T.setVm vm₁).heap.size) => Jvm.Free.Multi.fill_old (T.setVm vm₁) cA comp 3 20 (.int 0) (a := x) hx 3
  have hrow := fun (j : Nat) (hj : j < 3) => Jvm.Free.Multi.fill_inner (T.setVm vm₁) cA comp 3 20 (.int 0) 3 j hj
  have hTh : (T.setVm vm₁).heap = H := hT
  generalize hF : Jvm.Free.Multi.fill (T.setVm vm₁) cA comp 3 20 (.int 0) 3 = F at X' step f1 f2 hold hrow
  rw [hTh] at f1 f2 hold hrow
  have hl11 := Wd.2.1
  have hsz := Wd.1
  have hadr : ∀ j : Nat, gz_ad N0 ta (h.length + j) = H.size + j := fun j => by
    unfold gz_ad
    rw [if_neg (by omega)]
    omega
  have hcin : ∀ j : Nat, j < 3 → gz_cell D N0 ta s F.heap (H.size + 1 + j) (.inl (.int, 20, fun _ => 0)) := fun j hj => by
    refine ⟨_, hrow j hj, (hI 20 (.int 0)).1, (hI 20 (.int 0)).2, ?_, ?_, fun i hi => ?_⟩
    · rw [gz_inner]; simp
    · rw [gz_inner, Array.size_replicate]
    · rw [gz_inner]; simp [hi]
  have hco : gz_cell D N0 ta s F.heap H.size (.inr (100, [.ref (h.length + 1), .ref (h.length + 2), .ref (h.length + 3)])) := by
    unfold gz_cell
    simp only [if_true]
    refine ⟨_, f2, (hO 3 H.size 3).1, (hO 3 H.size 3).2, ?_, fun j v hv => ?_⟩
    · rw [gz_outer]; rfl
    · rw [gz_outer]
      match j, hv with
      | 0, hv => cases hv; show _ = some (Value.ref (gz_ad N0 ta (h.length + 1))); rw [hadr]; rfl
      | 1, hv => cases hv; show _ = some (Value.ref (gz_ad N0 ta (h.length + 2))); rw [hadr]; rfl
      | 2, hv => cases hv; show _ = some (Value.ref (gz_ad N0 ta (h.length + 3))); rw [hadr]; rfl
      | j + 3, hv => simp at hv
  have hWd : gz_W D N0 ta (h ++ [.inr (100, [.ref (h.length + 1), .ref (h.length + 2), .ref (h.length + 3)])] ++ [.inl (.int, 20, fun _ => 0)] ++ [.inl (.int, 20, fun _ => 0)] ++ [.inl (.int, 20, fun _ => 0)]) s F.heap := by
    refine ⟨by simp only [List.length_append, List.length_singleton]; rw [f1]; omega, by simp only [List.length_append, List.length_singleton]; omega, Wd.2.2.1, fun k x hk => ?_⟩
    by_cases hkl : k < h.length
    · rw [List.append_assoc, List.append_assoc, List.append_assoc, List.getElem?_append_left hkl] at hk
      refine (Wd.2.2.2 k x hk).kept (hold _ ?_)
      unfold gz_ad
      by_cases e1 : k < 11
      · rw [if_pos e1]
        have := Wd.2.2.1 k e1
        omega
      · rw [if_neg e1]
        omega
    · rw [List.append_assoc, List.append_assoc, List.append_assoc, List.getElem?_append_right (by omega)] at hk
      obtain ⟨j, rfl⟩ : ∃ j, k = h.length + j := ⟨k - h.length, by omega⟩
      rw [hadr]
      rw [Nat.add_sub_cancel_left] at hk
      match j, hk with
      | 0, hk => cases hk; exact hco
      | 1, hk => cases hk; exact hcin 0 (by omega)
      | 2, hk => cases hk; exact hcin 1 (by omega)
      | 3, hk => cases hk; exact hcin 2 (by omega)
      | j + 4, hk => simp at hk
  have S1 : va_S (gz_A N0) s.heap F.heap locs := ⟨by rw [f1]; have := S.1; omega, fun x h1 h2 => (hold x (Nat.lt_of_lt_of_le h1 S.1)).trans (S.2.1 x h1 h2), S.2.2⟩
  obtain ⟨t, a1, b1⟩ := kk l D N0 ta p e s m args below meth c F.heap locs lsC (cells + 1 + 3) (slots + 3 + 3 * 20) MC MS C S1 hWd L (by omega) (by omega) F rfl X'
  refine ⟨t, step t ?_, b1⟩
  have e9 : T.heap.size = H.size := by rw [hT]
  rw [e9]
  have e8 : gz_cv N0 ta (.ref h.length) = .ref H.size := by show Value.ref (gz_ad N0 ta (h.length + 0)) = _; rw [hadr]; rfl
  rw [List.map_cons, e8] at a1
  exact a1
end ZM
