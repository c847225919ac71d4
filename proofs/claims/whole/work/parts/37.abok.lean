/-! ===== what each call does keeps the state in bounds ===== -/
theorem push_ok {a : Ab} (ok : AbOk a) : (push a).length ≤ 6 ∧ ∀ v ∈ push a, PvOk v := by
  unfold push
  refine ⟨by rw [List.length_take]; omega, fun v hv => ?_⟩
  rcases List.mem_cons.mp (List.mem_of_mem_take hv) with q | q
  · rw [q]; exact ok.2.1
  · exact ok.2.2.1.2 v q
theorem ok_type {a : Ab} (z : Int) (ok : AbOk a) : AbOk (sp_type z a).2 := by
  unfold sp_type
  split
  · exact ok
  · split
    · exact ok
    · refine ⟨⟨by rw [List.length_append, List.length_singleton]; omega, fun k hk => ?_⟩, ok.2⟩
      rw [List.length_append, List.length_singleton] at hk
      show 0 ≤ (a.1 ++ [z]).getD k 0 ∧ (a.1 ++ [z]).getD k 0 ≤ 255
      by_cases e : k < a.1.length
      · rw [List.getD_eq_getElem?_getD, List.getElem?_append_left e, ← List.getD_eq_getElem?_getD]; exact ok.1.2 k e
      · have : k = a.1.length := by omega
        subst this
        simp; omega
theorem ok_clear {a : Ab} (ok : AbOk a) : AbOk (sp_clear a).2 := ⟨⟨Nat.zero_le _, fun k hk => absurd hk (Nat.not_lt_zero k)⟩, ok.2⟩
theorem ok_begins {a : Ab} (o l r t : Int) (ok : AbOk a) : AbOk (sp_begins o l r t a).2 := by
  unfold sp_begins
  split
  · rename_i q
    refine ⟨ok.1, ⟨⟨q.1.1, q.1.2, q.2.1.1, q.2.1.2, q.2.2.1.1, q.2.2.1.2, q.2.2.2.1, q.2.2.2.2⟩, Nat.zero_le _, fun k hk => absurd hk (Nat.not_lt_zero k)⟩, push_ok ok, ok.2.2.2⟩
  · exact ok
theorem ok_packs {a : Ab} (s : Int) (ok : AbOk a) : AbOk (sp_packs s a).2 := by
  unfold sp_packs
  split
  · exact ok
  · split
    · exact ok
    · exact ⟨ok.1, ⟨ok.2.1.1, txOk_app ok.2.1.2 (by omega) (by omega) (by omega)⟩, push_ok ok, ok.2.2.2⟩
theorem ok_word {a : Ab} (ok : AbOk a) : AbOk (sp_word a).2 := by
  unfold sp_word
  split
  · exact ok
  · split
    · exact ok
    · rename_i q1 q2
      have hfo := fou_bd (lo := 97) (hi := 100) a.1 0
      have hall : ∀ z ∈ a.1, 97 ≤ z ∧ z ≤ 100 := by
        rcases hfo with q | q
        · exact q.2
        · omega
      have h := txOk_word ok.2.1.2 hall (by omega) a.1.length
      rw [List.take_length] at h
      exact ⟨⟨Nat.zero_le _, fun k hk => absurd hk (Nat.not_lt_zero k)⟩, ⟨ok.2.1.1, h⟩, push_ok ok, ok.2.2.2⟩
theorem ok_cuts {a : Ab} (n : Int) (ok : AbOk a) : AbOk (sp_cuts n a).2 := by
  unfold sp_cuts
  split
  · exact ok
  · split
    · exact ok
    · exact ⟨ok.1, ⟨ok.2.1.1, txOk_take ok.2.1.2 _⟩, push_ok ok, ok.2.2.2⟩
theorem ok_undo {a : Ab} (ok : AbOk a) : AbOk (sp_undo a).2 := by
  obtain ⟨lt, nw, un, i0, i1⟩ := a
  cases un with
  | nil => exact ok
  | cons v vs =>
    obtain ⟨h1, h2, ⟨h3, h4⟩, h5⟩ := ok
    exact ⟨h1, h4 v (List.mem_cons_self ..), ⟨by have : (v :: vs).length ≤ 6 := h3; rw [List.length_cons] at this; show vs.length ≤ 6; omega, fun w hw => h4 w (List.mem_cons_of_mem _ hw)⟩, h5⟩
theorem ok_keep {a : Ab} (k : Int) (ok : AbOk a) : AbOk (sp_keep k a).2 := by
  unfold sp_keep
  split
  · exact ⟨ok.1, ok.2.1, ok.2.2.1, fun v hv => by cases hv; exact ok.2.1, ok.2.2.2.2⟩
  · split
    · exact ⟨ok.1, ok.2.1, ok.2.2.1, ok.2.2.2.1, fun v hv => by cases hv; exact ok.2.1⟩
    · exact ok
theorem ok_back {a : Ab} (k : Int) (ok : AbOk a) : AbOk (sp_back k a).2 := by
  obtain ⟨lt, nw, un, i0, i1⟩ := a
  unfold sp_back
  split
  · cases i0 with
    | none => exact ok
    | some v => exact ⟨ok.1, ok.2.2.2.1 v rfl, ⟨Nat.zero_le _, fun v hv => absurd hv (by simp)⟩, ok.2.2.2⟩
  · split
    · cases i1 with
      | none => exact ok
      | some v => exact ⟨ok.1, ok.2.2.2.2 v rfl, ⟨Nat.zero_le _, fun v hv => absurd hv (by simp)⟩, ok.2.2.2⟩
    · exact ok
