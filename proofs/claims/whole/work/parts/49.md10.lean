/-! ===== the model: rows copied, keeps, undo, images ===== -/
def cpy (h : mH) (A : Nat) (b : Int) (B : Nat) (c k : Int) : mH := fun i z => if i = A ∧ b ≤ z ∧ z < b + k then h B (c + (z - b)) else h i z
theorem cpy_ni {h : mH} {A B : Nat} {b c k : Int} {i : Nat} (e : i ≠ A) : cpy h A b B c k i = h i := by
  funext z; unfold cpy; rw [if_neg (fun q => e q.1)]
theorem cpy_0 (h : mH) (A : Nat) (b : Int) (B : Nat) (c : Int) : cpy h A b B c ((0 : Nat) : Int) = h := by
  funext i z; unfold cpy; rw [if_neg (by omega)]
theorem cpy_in {h : mH} {A B : Nat} {b c k z : Int} (h1 : b ≤ z) (h2 : z < b + k) : cpy h A b B c k A z = h B (c + (z - b)) := by
  unfold cpy; rw [if_pos ⟨rfl, h1, h2⟩]
theorem cpy_out {h : mH} {A B : Nat} {b c k z : Int} (h1 : z < b ∨ b + k ≤ z) : cpy h A b B c k A z = h A z := by
  unfold cpy; rw [if_neg (by omega)]
theorem cpy_step {h : mH} {A B : Nat} {b c : Int} {k : Nat} : hset (cpy h A b B c (k : Int)) A (b + (k : Int)) (h B (c + (k : Int))) = cpy h A b B c ((k + 1 : Nat) : Int) := by
  funext i z
  unfold hset cpy
  by_cases e1 : i = A ∧ z = b + (k : Int)
  · rw [if_pos e1, if_pos (by omega), e1.2, show b + (k : Int) - b = (k : Int) by omega]
  · rw [if_neg e1]
    by_cases e2 : i = A ∧ b ≤ z ∧ z < b + (k : Int)
    · rw [if_pos e2, if_pos (by omega)]
    · rw [if_neg e2, if_neg (by omega)]
theorem NwS.copy {f g : Int → Int} {v : PV} (H : NwS f v) (hl : v.2.2.2.2.length ≤ 60) (e : ∀ k, 0 ≤ k → k < 65 → g k = f k) : NwS g v :=
  ⟨by rw [e 0 (by decide) (by decide)]; exact H.1, by rw [e 1 (by decide) (by decide)]; exact H.2.1, by rw [e 2 (by decide) (by decide)]; exact H.2.2.1, by rw [e 3 (by decide) (by decide)]; exact H.2.2.2.1, by rw [e 4 (by decide) (by decide)]; exact H.2.2.2.2.1, fun k hk => by rw [e _ (by omega) (by omega)]; exact H.2.2.2.2.2 k hk⟩

set_option maxHeartbeats 4000000 in
set_option maxRecDepth 100000 in
theorem md_keeps49 {x : mX} {h : mH} {Q : mH → Prop} {hs : List PV} {v : PV} {u : mV} (U : UnS h hs) (hl5 : hs.length ≤ 5) (hls : ∀ w ∈ hs, w.2.2.2.2.length ≤ 60) (N : NwS (h 53) v) (hl : v.2.2.2.2.length ≤ 60) (hQ : ∀ h', UnS h' (v :: hs) → (∀ i, i ≠ 52 → i ≠ 54 → h' i = h i) → (∀ z, z ≠ 2 → h' 52 z = h 52 z) → Q h') : Go x mtX10_keeps 49 [xR 52, u] [] h (qV Q) := by
  have e2 := U.1
  refine go_iconst dX10_keeps_49 ⟨by decide, by decide⟩ ?_
  refine go_istore_n 1 dX10_keeps_50 rfl (Nat.le_of_ble_eq_true rfl) rfl (by dsimp only [List.set]) ?_
  have key : Go x mtX10_keeps 51 [xR 52, xI ((0 : Nat) : Int)] [] (cpy h 54 (65 * (hs.length : Int)) 53 0 ((0 : Nat) : Int)) (qV Q) := by
    refine up_indN (P := fun k => Go x mtX10_keeps 51 [xR 52, xI (k : Int)] [] (cpy h 54 (65 * (hs.length : Int)) 53 0 (k : Int)) (qV Q)) 65 (fun k hk ih => ?_)
    by_cases hlt : k < 65
    · skip
      refine go_iload_n dX10_keeps_51 rfl ?_
      refine go_bipush dX10_keeps_52 (by decide +kernel) ⟨by decide, by decide⟩ ?_
      refine go_icmp_ge_f (tgt := 83) dX10_keeps_54 (by decide) (by omega) ?_
      refine go_aload_n dX10_keeps_57 rfl ?_
      refine gfX10_past (by first | assumption | rfl) flX10_13 dX10_keeps_58 ?_
      refine go_bipush dX10_keeps_61 (by decide +kernel) ⟨by decide, by decide⟩ ?_
      refine go_aload_n dX10_keeps_63 rfl ?_
      refine gfX10_undos (by first | assumption | rfl) flX10_171 dX10_keeps_64 ?_
      try simp (disch := decide) only [hset_eq, hset_nk, hset_ni, cpy_ni, e2]
      refine go_imul dX10_keeps_67 (by omega) (by omega) ?_
      refine go_iload_n dX10_keeps_68 rfl ?_
      refine go_iadd dX10_keeps_69 (by omega) (by omega) ?_
      refine go_aload_n dX10_keeps_70 rfl ?_
      refine gfX10_now (by first | assumption | rfl) flX10_7 dX10_keeps_71 ?_
      refine go_iload_n dX10_keeps_74 rfl ?_
      refine go_iaload (by first | assumption | rfl) dX10_keeps_75 (by omega) (by show (k : Int) < 65; omega) ?_
      rw [cpy_ni (show (53 : Nat) ≠ 54 by decide), show h 53 (k : Int) = h 53 (0 + (k : Int)) by rw [Int.zero_add]]
      refine go_iastore (by first | assumption | rfl) dX10_keeps_76 (by omega) (by show 65 * (hs.length : Int) + (k : Int) < 390; omega) ?_
      refine go_iinc dX10_keeps_77 rfl rfl rfl (by omega) (by omega) (by dsimp only [List.set]) ?_
      refine go_goto (tgt := 51) dX10_keeps_80 (by decide) ?_
      rw [cpy_step]
      exact ih hlt
    · have hie : k = 65 := by omega
      subst hie
      refine go_iload_n dX10_keeps_51 rfl ?_
      refine go_bipush dX10_keeps_52 (by decide +kernel) ⟨by decide, by decide⟩ ?_
      refine go_icmp_ge_t (tgt := 83) dX10_keeps_54 (by decide) (by omega) ?_
      refine go_aload_n dX10_keeps_83 rfl ?_
      first | refine go_dupR dX10_keeps_84 ?_ | refine go_dupI dX10_keeps_84 ?_
      refine gfX10_undos (by first | assumption | rfl) flX10_171 dX10_keeps_85 ?_
      try simp (disch := decide) only [hset_eq, hset_nk, hset_ni, cpy_ni, e2]
      refine go_iconst dX10_keeps_88 ⟨by decide, by decide⟩ ?_
      refine go_iadd dX10_keeps_89 (by omega) (by omega) ?_
      refine pfX10_undos (by first | assumption | rfl) flX10_171 dX10_keeps_90 ?_
      refine go_return dX10_keeps_93 rfl ?_
      refine hQ _ ⟨?_, fun j w hj => ?_⟩ (fun i q1 q2 => ?_) (fun z q => ?_)
      · rw [hset_eq, List.length_cons]; omega
      · rw [hset_ni (show (54 : Nat) ≠ 52 by decide), List.length_cons]
        cases j with
        | zero =>
          have hw : v = w := by simpa using hj
          subst hw
          refine N.copy hl (fun k q1 q2 => ?_)
          show cpy h 54 (65 * (hs.length : Int)) 53 0 ((65 : Nat) : Int) 54 _ = _
          rw [cpy_in (by omega) (by omega)]
          congr 1; omega
        | succ j =>
          have hj2 : hs[j]? = some w := by simpa using hj
          have hjl : j < hs.length := (List.getElem?_eq_some_iff.mp hj2).1
          refine (U.2 j w hj2).copy (hls w (List.mem_of_getElem? hj2)) (fun k q1 q2 => ?_)
          show cpy h 54 (65 * (hs.length : Int)) 53 0 ((65 : Nat) : Int) 54 _ = _
          rw [cpy_out (by omega)]
          congr 1; omega
      · rw [hset_ni q1, cpy_ni q2]
      · rw [hset_nk q, cpy_ni (by decide)]
  rw [cpy_0] at key
  exact key

set_option maxHeartbeats 4000000 in
set_option maxRecDepth 100000 in
theorem md_keepsU {x : mX} {h : mH} {Q : mH → Prop} {hs : List PV} {v : PV} (U : UnS h hs) (hl6 : hs.length ≤ 6) (hls : ∀ w ∈ hs, w.2.2.2.2.length ≤ 60) (N : NwS (h 53) v) (hl : v.2.2.2.2.length ≤ 60) (hQ : ∀ h', UnS h' (v :: hs.take 5) → (∀ i, i ≠ 52 → i ≠ 54 → h' i = h i) → (∀ z, z ≠ 2 → h' 52 z = h 52 z) → Q h') : CtV x mtX10_keeps [xR 52] h Q := by
  have e2 := U.1
  refine ct_go (ls := [xR 52, xU]) (by decide +kernel) (Nat.le_of_ble_eq_true rfl) rfl ?_
  refine go_aload_n dX10_keeps_0 rfl ?_
  refine gfX10_undos (by first | assumption | rfl) flX10_171 dX10_keeps_1 ?_
  try simp (disch := decide) only [hset_eq, hset_nk, hset_ni, e2]
  refine go_bipush dX10_keeps_4 (by decide +kernel) ⟨by decide, by decide⟩ ?_
  refine go_icmp_ne (tgt := 49) dX10_keeps_6 (by decide) (fun c6 => ?_) (fun c6 => ?_)
  · rw [List.take_of_length_le (show hs.length ≤ 5 by omega)] at hQ
    exact md_keeps49 U (by omega) hls N hl hQ
  · refine go_iconst dX10_keeps_9 ⟨by decide, by decide⟩ ?_
    refine go_istore_n 1 dX10_keeps_10 rfl (Nat.le_of_ble_eq_true rfl) rfl (by dsimp only [List.set]) ?_
    have key : Go x mtX10_keeps 11 [xR 52, xI ((0 : Nat) : Int)] [] (cpy h 54 0 54 65 ((0 : Nat) : Int)) (qV Q) := by
      refine up_indN (P := fun k => Go x mtX10_keeps 11 [xR 52, xI (k : Int)] [] (cpy h 54 0 54 65 (k : Int)) (qV Q)) 325 (fun k hk ih => ?_)
      by_cases hlt : k < 325
      · skip
        refine go_iload_n dX10_keeps_11 rfl ?_
        refine go_sipush dX10_keeps_12 (by decide +kernel) ⟨by decide, by decide⟩ ?_
        refine go_icmp_ge_f (tgt := 39) dX10_keeps_15 (by decide) (by omega) ?_
        refine go_aload_n dX10_keeps_18 rfl ?_
        refine gfX10_past (by first | assumption | rfl) flX10_13 dX10_keeps_19 ?_
        refine go_iload_n dX10_keeps_22 rfl ?_
        refine go_aload_n dX10_keeps_23 rfl ?_
        refine gfX10_past (by first | assumption | rfl) flX10_13 dX10_keeps_24 ?_
        refine go_iload_n dX10_keeps_27 rfl ?_
        refine go_bipush dX10_keeps_28 (by decide +kernel) ⟨by decide, by decide⟩ ?_
        refine go_iadd dX10_keeps_30 (by omega) (by omega) ?_
        refine go_iaload (by first | assumption | rfl) dX10_keeps_31 (by omega) (by show (k : Int) + 65 < 390; omega) ?_
        rw [cpy_out (by omega), show (k : Int) + 65 = 65 + (k : Int) by omega]
        refine go_iastore (by first | assumption | rfl) dX10_keeps_32 (by omega) (by show (k : Int) < 390; omega) ?_
        refine go_iinc dX10_keeps_33 rfl rfl rfl (by omega) (by omega) (by dsimp only [List.set]) ?_
        refine go_goto (tgt := 11) dX10_keeps_36 (by decide) ?_
        have e8 := cpy_step (h := h) (A := 54) (b := 0) (B := 54) (c := 65) (k := k)
        rw [Int.zero_add] at e8
        rw [e8]
        exact ih hlt
      · have hie : k = 325 := by omega
        subst hie
        refine go_iload_n dX10_keeps_11 rfl ?_
        refine go_sipush dX10_keeps_12 (by decide +kernel) ⟨by decide, by decide⟩ ?_
        refine go_icmp_ge_t (tgt := 39) dX10_keeps_15 (by decide) (by omega) ?_
        refine go_aload_n dX10_keeps_39 rfl ?_
        first | refine go_dupR dX10_keeps_40 ?_ | refine go_dupI dX10_keeps_40 ?_
        refine gfX10_undos (by first | assumption | rfl) flX10_171 dX10_keeps_41 ?_
        try simp (disch := decide) only [hset_eq, hset_nk, hset_ni, cpy_ni, e2]
        refine go_iconst dX10_keeps_44 ⟨by decide, by decide⟩ ?_
        refine go_isub dX10_keeps_45 (by omega) (by omega) ?_
        refine pfX10_undos (by first | assumption | rfl) flX10_171 dX10_keeps_46 ?_
        refine md_keeps49 (hs := hs.take 5) ⟨?_, fun j w hj => ?_⟩ (by rw [List.length_take]; omega) (fun w hw => hls w (List.mem_of_mem_take hw)) (by rw [hset_ni (by decide), cpy_ni (by decide)]; exact N) hl (fun h9 U9 F9 G9 => hQ h9 U9 (fun i q1 q2 => by rw [F9 i q1 q2, hset_ni q1, cpy_ni q2]) (fun z q => by rw [G9 z q, hset_nk q, cpy_ni (by decide)]))
        · rw [hset_eq, List.length_take]; omega
        · have hj5 : j < 5 := by
            have := (List.getElem?_eq_some_iff.mp hj).1
            rw [List.length_take] at this; omega
          rw [List.getElem?_take_of_lt hj5] at hj
          rw [hset_ni (show (54 : Nat) ≠ 52 by decide), List.length_take]
          refine (U.2 j w hj).copy (hls w (List.mem_of_getElem? hj)) (fun k q1 q2 => ?_)
          show cpy h 54 0 54 65 ((325 : Nat) : Int) 54 _ = _
          rw [cpy_in (by omega) (by omega)]
          congr 1; omega
    rw [cpy_0] at key
    exact key

theorem ok_len {a : Ab} (ok : AbOk a) : ∀ w ∈ a.2.2.1, w.2.2.2.2.length ≤ 60 := fun w hw => (ok.2.2.1.2 w hw).2.1
/-- the state is kept to be undone -/
theorem md_keeps {x : mX} {h : mH} {Q : mH → Prop} {a : Ab} (H : MdS h a) (ok : AbOk a) (hQ : ∀ h', MdS h' (a.1, a.2.1, push a, a.2.2.2) → FrM h h' → Q h') : CtV x mtX10_keeps [xR 52] h Q := by
  obtain ⟨L, N, U, ⟨I, J⟩, Z⟩ := H
  refine md_keepsU U ok.2.2.1.1 (ok_len ok) N ok.2.1.2.1 (fun h9 U9 F9 G9 => hQ h9 ⟨L.congr (G9 6 (by decide)) (F9 57 (by decide) (by decide)), by rw [F9 53 (by decide) (by decide)]; exact N, U9, ⟨I.congr (F9 56 (by decide) (by decide)) (F9 55 (by decide) (by decide)), J.congr (F9 56 (by decide) (by decide)) (F9 55 (by decide) (by decide))⟩, by rw [F9 59 (by decide) (by decide)]; exact Z⟩ (fun i q => F9 i (by omega) (by omega)))
/-- only the row now has changed -/
theorem MdS.now {h h' : mH} {a : Ab} {v : PV} (H : MdS h a) (F : ∀ i, i ≠ 53 → h' i = h i) (N' : NwS (h' 53) v) : MdS h' (a.1, v, a.2.2) := by
  obtain ⟨L, N, U, ⟨I, J⟩, Z⟩ := H
  have e52 := F 52 (by decide)
  exact ⟨L.congr (by rw [e52]) (F 57 (by decide)), N', U.congr (by rw [e52]) (F 54 (by decide)), ⟨I.congr (F 56 (by decide)) (F 55 (by decide)), J.congr (F 56 (by decide)) (F 55 (by decide))⟩, by rw [F 59 (by decide)]; exact Z⟩

set_option maxHeartbeats 4000000 in
set_option maxRecDepth 100000 in
theorem md_lays {x : mX} {h : mH} {Q : mH → Prop} {o l r t : Int} (hQ : ∀ h', NwS (h' 53) (o, l, r, t, []) → (∀ i, i ≠ 53 → h' i = h i) → Q h') : CtV x mtX10_lays [xR 52, xI o, xI l, xI r, xI t] h Q := by
  refine ct_go (ls := [xR 52, xI o, xI l, xI r, xI t]) (by decide +kernel) (Nat.le_of_ble_eq_true rfl) rfl ?_
  refine go_aload_n dX10_lays_0 rfl ?_
  refine gfX10_now (by first | assumption | rfl) flX10_7 dX10_lays_1 ?_
  refine go_iconst dX10_lays_4 ⟨by decide, by decide⟩ ?_
  refine go_iload_n dX10_lays_5 rfl ?_
  refine go_iastore (by first | assumption | rfl) dX10_lays_6 (by decide) (by decide) ?_
  refine go_aload_n dX10_lays_7 rfl ?_
  refine gfX10_now (by first | assumption | rfl) flX10_7 dX10_lays_8 ?_
  refine go_iconst dX10_lays_11 ⟨by decide, by decide⟩ ?_
  refine go_iload_n dX10_lays_12 rfl ?_
  refine go_iastore (by first | assumption | rfl) dX10_lays_13 (by decide) (by decide) ?_
  refine go_aload_n dX10_lays_14 rfl ?_
  refine gfX10_now (by first | assumption | rfl) flX10_7 dX10_lays_15 ?_
  refine go_iconst dX10_lays_18 ⟨by decide, by decide⟩ ?_
  refine go_iload_n dX10_lays_19 rfl ?_
  refine go_iastore (by first | assumption | rfl) dX10_lays_20 (by decide) (by decide) ?_
  refine go_aload_n dX10_lays_21 rfl ?_
  refine gfX10_now (by first | assumption | rfl) flX10_7 dX10_lays_22 ?_
  refine go_iconst dX10_lays_25 ⟨by decide, by decide⟩ ?_
  refine go_iload dX10_lays_26 rfl ?_
  refine go_iastore (by first | assumption | rfl) dX10_lays_28 (by decide) (by decide) ?_
  refine go_aload_n dX10_lays_29 rfl ?_
  refine gfX10_now (by first | assumption | rfl) flX10_7 dX10_lays_30 ?_
  refine go_iconst dX10_lays_33 ⟨by decide, by decide⟩ ?_
  refine go_iconst dX10_lays_34 ⟨by decide, by decide⟩ ?_
  refine go_iastore (by first | assumption | rfl) dX10_lays_35 (by decide) (by decide) ?_
  refine go_return dX10_lays_36 rfl ?_
  exact hQ _ ⟨by simp (disch := decide) only [hset_eq, hset_nk, hset_ni], by simp (disch := decide) only [hset_eq, hset_nk, hset_ni], by simp (disch := decide) only [hset_eq, hset_nk, hset_ni], by simp (disch := decide) only [hset_eq, hset_nk, hset_ni], by simp (disch := decide) only [hset_eq, hset_nk, hset_ni]; rfl, fun k hk => absurd hk (Nat.not_lt_zero k)⟩ (fun i q => by simp only [hset_ni q])

set_option maxHeartbeats 4000000 in
set_option maxRecDepth 100000 in
theorem md_appends {x : mX} {h : mH} {Q : mH → Prop} {v : PV} {s : Int} (N : NwS (h 53) v) (hl : v.2.2.2.2.length < 60) (hQ : ∀ h', NwS (h' 53) (v.1, v.2.1, v.2.2.1, v.2.2.2.1, v.2.2.2.2 ++ [s]) → (∀ i, i ≠ 53 → h' i = h i) → Q h') : CtV x mtX10_appends [xR 52, xI s] h Q := by
  have e4 := N.2.2.2.2.1
  refine ct_go (ls := [xR 52, xI s]) (by decide +kernel) (Nat.le_of_ble_eq_true rfl) rfl ?_
  refine go_aload_n dX10_appends_0 rfl ?_
  refine gfX10_now (by first | assumption | rfl) flX10_7 dX10_appends_1 ?_
  refine go_iconst dX10_appends_4 ⟨by decide, by decide⟩ ?_
  refine go_aload_n dX10_appends_5 rfl ?_
  refine gfX10_now (by first | assumption | rfl) flX10_7 dX10_appends_6 ?_
  refine go_iconst dX10_appends_9 ⟨by decide, by decide⟩ ?_
  refine go_iaload (by first | assumption | rfl) dX10_appends_10 (by decide) (by decide) ?_
  rw [e4]
  refine go_iadd dX10_appends_11 (by omega) (by omega) ?_
  refine go_iload_n dX10_appends_12 rfl ?_
  refine go_iastore (by first | assumption | rfl) dX10_appends_13 (by omega) (by show 5 + (v.2.2.2.2.length : Int) < 65; omega) ?_
  refine go_aload_n dX10_appends_14 rfl ?_
  refine gfX10_now (by first | assumption | rfl) flX10_7 dX10_appends_15 ?_
  refine go_iconst dX10_appends_18 ⟨by decide, by decide⟩ ?_
  refine go_dup2 dX10_appends_19 ?_
  refine go_iaload (by first | assumption | rfl) dX10_appends_20 (by decide) (by decide) ?_
  rw [hset_nk (show (4 : Int) ≠ 5 + (v.2.2.2.2.length : Int) by omega), e4]
  refine go_iconst dX10_appends_21 ⟨by decide, by decide⟩ ?_
  refine go_iadd dX10_appends_22 (by omega) (by omega) ?_
  refine go_iastore (by first | assumption | rfl) dX10_appends_23 (by decide) (by decide) ?_
  refine go_return dX10_appends_24 rfl ?_
  refine hQ _ ⟨?_, ?_, ?_, ?_, ?_, fun k hk => ?_⟩ (fun i q => by simp only [hset_ni q])
  · rw [hset_nk (by decide), hset_nk (show (0 : Int) ≠ 5 + (v.2.2.2.2.length : Int) by omega)]; exact N.1
  · rw [hset_nk (by decide), hset_nk (show (1 : Int) ≠ 5 + (v.2.2.2.2.length : Int) by omega)]; exact N.2.1
  · rw [hset_nk (by decide), hset_nk (show (2 : Int) ≠ 5 + (v.2.2.2.2.length : Int) by omega)]; exact N.2.2.1
  · rw [hset_nk (by decide), hset_nk (show (3 : Int) ≠ 5 + (v.2.2.2.2.length : Int) by omega)]; exact N.2.2.2.1
  · rw [hset_eq]; dsimp only; rw [List.length_append, List.length_singleton]; omega
  · dsimp only at hk ⊢
    rw [List.length_append, List.length_singleton] at hk
    rw [hset_nk (by omega)]
    by_cases e : k < v.2.2.2.2.length
    · rw [hset_nk (by omega), N.2.2.2.2.2 k e, List.getD_eq_getElem?_getD, List.getD_eq_getElem?_getD, List.getElem?_append_left e]
    · have : k = v.2.2.2.2.length := by omega
      subst this
      rw [hset_eq]; simp

set_option maxHeartbeats 4000000 in
set_option maxRecDepth 100000 in
theorem md_begins {x : mX} {h : mH} {Q : Int → mH → Prop} {o l r t : Int} {a : Ab} (H : MdS h a) (ok : AbOk a) (hQ : ∀ h', MdS h' (sp_begins o l r t a).2 → FrM h h' → Q (sp_begins o l r t a).1 h') : CtI x mtX10_begins [xR 52, xI o, xI l, xI r, xI t] h Q := by
  refine ct_go (ls := [xR 52, xI o, xI l, xI r, xI t, xU]) (by decide +kernel) (Nat.le_of_ble_eq_true rfl) rfl ?_
  refine go_iload_n dX10_begins_0 rfl ?_
  refine go_iconst dX10_begins_1 ⟨by decide, by decide⟩ ?_
  refine go_iconst dX10_begins_2 ⟨by decide, by decide⟩ ?_
  refine go_cS3I slX10_164 dX10_begins_3 (by decide) (Nat.le_of_ble_eq_true rfl) (md_within ?_)
  refine go_if_eq (tgt := 40) dX10_begins_6 (by decide) (fun c6 => ?_) (fun c6 => ?_)
  · refine go_iconst dX10_begins_40 ⟨by decide, by decide⟩ ?_
    refine go_ireturn dX10_begins_41 rfl ?_
    have e9 : sp_begins o l r t a = (-1, a) := by
      unfold sp_begins
      rw [if_neg]
      intro q
      first | (have k1 := if01 c37; omega) | (have k1 := if01 c26; omega) | (have k1 := if01 c16; omega) | (have k1 := if01 c6; omega)
    rw [e9] at hQ; exact hQ h H FrM.rf
  · refine go_iload_n dX10_begins_9 rfl ?_
    refine go_iconst dX10_begins_10 ⟨by decide, by decide⟩ ?_
    refine go_bipush dX10_begins_11 (by decide +kernel) ⟨by decide, by decide⟩ ?_
    refine go_cS3I slX10_164 dX10_begins_13 (by decide) (Nat.le_of_ble_eq_true rfl) (md_within ?_)
    refine go_if_eq (tgt := 40) dX10_begins_16 (by decide) (fun c16 => ?_) (fun c16 => ?_)
    · refine go_iconst dX10_begins_40 ⟨by decide, by decide⟩ ?_
      refine go_ireturn dX10_begins_41 rfl ?_
      have e9 : sp_begins o l r t a = (-1, a) := by
        unfold sp_begins
        rw [if_neg]
        intro q
        first | (have k1 := if01 c37; omega) | (have k1 := if01 c26; omega) | (have k1 := if01 c16; omega) | (have k1 := if01 c6; omega)
      rw [e9] at hQ; exact hQ h H FrM.rf
    · refine go_iload_n dX10_begins_19 rfl ?_
      refine go_iconst dX10_begins_20 ⟨by decide, by decide⟩ ?_
      refine go_bipush dX10_begins_21 (by decide +kernel) ⟨by decide, by decide⟩ ?_
      refine go_cS3I slX10_164 dX10_begins_23 (by decide) (Nat.le_of_ble_eq_true rfl) (md_within ?_)
      refine go_if_eq (tgt := 40) dX10_begins_26 (by decide) (fun c26 => ?_) (fun c26 => ?_)
      · refine go_iconst dX10_begins_40 ⟨by decide, by decide⟩ ?_
        refine go_ireturn dX10_begins_41 rfl ?_
        have e9 : sp_begins o l r t a = (-1, a) := by
          unfold sp_begins
          rw [if_neg]
          intro q
          first | (have k1 := if01 c37; omega) | (have k1 := if01 c26; omega) | (have k1 := if01 c16; omega) | (have k1 := if01 c6; omega)
        rw [e9] at hQ; exact hQ h H FrM.rf
      · refine go_iload dX10_begins_29 rfl ?_
        refine go_iconst dX10_begins_31 ⟨by decide, by decide⟩ ?_
        refine go_bipush dX10_begins_32 (by decide +kernel) ⟨by decide, by decide⟩ ?_
        refine go_cS3I slX10_164 dX10_begins_34 (by decide) (Nat.le_of_ble_eq_true rfl) (md_within ?_)
        refine go_if_ne (tgt := 42) dX10_begins_37 (by decide) (fun c37 => ?_) (fun c37 => ?_)
        · refine go_aload_n dX10_begins_42 rfl ?_
          refine go_cV0V (by first | assumption | rfl) vlX10_174 dX10_begins_43 (by decide) rfl rfl (by decide) (Nat.le_of_ble_eq_true rfl) (md_keeps H ok ?_)
          intro h1 H1 F1
          refine go_aload_n dX10_begins_46 rfl ?_
          refine gfX10_now (by first | assumption | rfl) flX10_7 dX10_begins_47 ?_
          refine go_iconst dX10_begins_50 ⟨by decide, by decide⟩ ?_
          refine go_iaload (by first | assumption | rfl) dX10_begins_51 (by decide) (by decide) ?_
          rw [H1.2.1.2.2.2.2.1]
          refine go_istore dX10_begins_52 (Nat.le_of_ble_eq_true rfl) rfl (by dsimp only [List.set]) ?_
          refine go_aload_n dX10_begins_54 rfl ?_
          refine go_iload_n dX10_begins_55 rfl ?_
          refine go_iload_n dX10_begins_56 rfl ?_
          refine go_iload_n dX10_begins_57 rfl ?_
          refine go_iload dX10_begins_58 rfl ?_
          refine go_cV4V (by first | assumption | rfl) vlX10_38 dX10_begins_60 (by decide) rfl rfl (by decide) (Nat.le_of_ble_eq_true rfl) (md_lays ?_)
          intro h2 N2 F2
          refine go_iload dX10_begins_63 rfl ?_
          refine go_ireturn dX10_begins_65 rfl ?_
          have e9 : sp_begins o l r t a = ((a.2.1.2.2.2.2.length : Int), (a.1, (o, l, r, t, []), push a, a.2.2.2)) := by unfold sp_begins; rw [if_pos ⟨if10 c6, if10 c16, if10 c26, if10 c37⟩]
          rw [e9] at hQ
          exact hQ h2 (H1.now F2 N2) (F1.tr (fun i q => F2 i (by omega)))
        · refine go_iconst dX10_begins_40 ⟨by decide, by decide⟩ ?_
          refine go_ireturn dX10_begins_41 rfl ?_
          have e9 : sp_begins o l r t a = (-1, a) := by
            unfold sp_begins
            rw [if_neg]
            intro q
            first | (have k1 := if01 c37; omega) | (have k1 := if01 c26; omega) | (have k1 := if01 c16; omega) | (have k1 := if01 c6; omega)
          rw [e9] at hQ; exact hQ h H FrM.rf

set_option maxHeartbeats 4000000 in
set_option maxRecDepth 100000 in
theorem md_packs {x : mX} {h : mH} {Q : Int → mH → Prop} {s : Int} {a : Ab} (H : MdS h a) (ok : AbOk a) (hQ : ∀ h', MdS h' (sp_packs s a).2 → FrM h h' → Q (sp_packs s a).1 h') : CtI x mtX10_packs [xR 52, xI s] h Q := by
  have hl := ok.2.1.2.1
  refine ct_go (ls := [xR 52, xI s]) (by decide +kernel) (Nat.le_of_ble_eq_true rfl) rfl ?_
  refine go_iload_n dX10_packs_0 rfl ?_
  refine go_iconst dX10_packs_1 ⟨by decide, by decide⟩ ?_
  refine go_iconst dX10_packs_2 ⟨by decide, by decide⟩ ?_
  refine go_cS3I slX10_164 dX10_packs_3 (by decide) (Nat.le_of_ble_eq_true rfl) (md_within ?_)
  refine go_if_ne (tgt := 12) dX10_packs_6 (by decide) (fun c6 => ?_) (fun c6 => ?_)
  · refine go_aload_n dX10_packs_12 rfl ?_
    refine gfX10_now (by first | assumption | rfl) flX10_7 dX10_packs_13 ?_
    refine go_iconst dX10_packs_16 ⟨by decide, by decide⟩ ?_
    refine go_iaload (by first | assumption | rfl) dX10_packs_17 (by decide) (by decide) ?_
    rw [H.2.1.2.2.2.2.1]
    refine go_bipush dX10_packs_18 (by decide +kernel) ⟨by decide, by decide⟩ ?_
    refine go_icmp_ne (tgt := 26) dX10_packs_20 (by decide) (fun c20 => ?_) (fun c20 => ?_)
    · have q := if10 c6
      have e9 : sp_packs s a = ((pdn a.2.1.1 (a.2.1.2.2.2.2 ++ [s]) a.2.1.2.2.2.2.length (pck a.2.1.1 a.2.1.2.1 a.2.1.2.2.1 a.2.1.2.2.2.1 (a.2.1.2.2.2.2 ++ [s]) a.2.1.2.2.2.2.length)).1, (a.1, (a.2.1.1, a.2.1.2.1, a.2.1.2.2.1, a.2.1.2.2.2.1, a.2.1.2.2.2.2 ++ [s]), push a, a.2.2.2)) := by unfold sp_packs; rw [if_neg (fun z => z q), if_neg (by omega)]
      have ok2 := ok_packs s ok
      rw [e9] at hQ ok2
      refine go_aload_n dX10_packs_26 rfl ?_
      refine go_cV0V (by first | assumption | rfl) vlX10_174 dX10_packs_27 (by decide) rfl rfl (by decide) (Nat.le_of_ble_eq_true rfl) (md_keeps H ok ?_)
      intro h1 H1 F1
      refine go_aload_n dX10_packs_30 rfl ?_
      refine go_iload_n dX10_packs_31 rfl ?_
      refine go_cV1V (by first | assumption | rfl) vlX10_177 dX10_packs_32 (by decide) rfl rfl (by decide) (Nat.le_of_ble_eq_true rfl) (md_appends (s := s) H1.2.1 (by dsimp only; omega) ?_)
      intro h2 N2 F2
      have H2 := H1.now F2 N2
      refine go_aload_n dX10_packs_35 rfl ?_
      refine go_cV0V (by first | assumption | rfl) vlX10_180 dX10_packs_36 (by decide) rfl rfl (by decide) (Nat.le_of_ble_eq_true rfl) (md_packsNow H2 ok2 ?_)
      intro h3 H3 P3 F3 K3
      refine go_aload_n dX10_packs_39 rfl ?_
      refine gfX10_found (by first | assumption | rfl) flX10_120 dX10_packs_40 ?_
      refine go_ireturn dX10_packs_43 rfl ?_
      have hln : (a.2.1.2.2.2.2 ++ [s]).length - 1 = a.2.1.2.2.2.2.length := by rw [List.length_append, List.length_singleton, Nat.add_sub_cancel]
      have K4 := K3 (by dsimp only; rw [List.length_append, List.length_singleton]; omega)
      dsimp only at K4
      rw [hln] at K4
      rw [K4]
      exact hQ h3 H3 (FrM.tr F1 (FrM.tr (fun i q => F2 i (by omega)) F3.m))
    · refine go_bipush dX10_packs_23 (by decide +kernel) ⟨by decide, by decide⟩ ?_
      refine go_ireturn dX10_packs_25 rfl ?_
      have q := if10 c6
      have e9 : sp_packs s a = (-6, a) := by unfold sp_packs; rw [if_neg (fun z => z q), if_pos (by omega)]
      rw [e9] at hQ; exact hQ h H FrM.rf
  · refine go_bipush dX10_packs_9 (by decide +kernel) ⟨by decide, by decide⟩ ?_
    refine go_ireturn dX10_packs_11 rfl ?_
    have q := if01 c6
    have e9 : sp_packs s a = (-5, a) := by unfold sp_packs; rw [if_pos q]
    rw [e9] at hQ; exact hQ h H FrM.rf
