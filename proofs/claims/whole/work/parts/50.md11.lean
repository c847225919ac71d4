/-! ===== the model: letters, cuts, undo, images ===== -/
/-- the model's own word for no wrong letter -/
def fo9 (z : Int) : Int := if z = -1 then -9 else z

set_option maxHeartbeats 4000000 in
set_option maxRecDepth 100000 in
theorem md_wrong {x : mX} {h : mH} {Q : Int → mH → Prop} {lt : List Int} {lo hi : Int} (L : LtS h lt) (hl : lt.length ≤ 200) (hQ : Q (fo9 (fou lo hi lt 0)) h) : CtI x mtX10_wrongLetter [xR 52, xI lo, xI hi] h Q := by
  have e6 := L.1
  refine ct_go (ls := [xR 52, xI lo, xI hi, xU]) (by decide +kernel) (Nat.le_of_ble_eq_true rfl) rfl ?_
  refine go_iconst dX10_wrongLetter_0 ⟨by decide, by decide⟩ ?_
  refine go_istore_n 3 dX10_wrongLetter_1 rfl (Nat.le_of_ble_eq_true rfl) rfl (by dsimp only [List.set]) ?_
  refine up_indN (P := fun n => fou lo hi (lt.drop n) n = fou lo hi lt 0 → Go x mtX10_wrongLetter 2 [xR 52, xI lo, xI hi, xI (n : Int)] [] h (qI Q)) lt.length (fun n hn ih K => ?_) rfl
  by_cases hlt : n < lt.length
  · skip
    refine go_iload_n dX10_wrongLetter_2 rfl ?_
    refine go_aload_n dX10_wrongLetter_3 rfl ?_
    refine gfX10_letters (by first | assumption | rfl) flX10_168 dX10_wrongLetter_4 ?_
    try simp (disch := decide) only [hset_eq, hset_nk, hset_ni, e6]
    refine go_icmp_ge_f (tgt := 32) dX10_wrongLetter_7 (by decide) (by omega) ?_
    refine go_aload_n dX10_wrongLetter_10 rfl ?_
    refine gfX10_text (by first | assumption | rfl) flX10_23 dX10_wrongLetter_11 ?_
    refine go_iload_n dX10_wrongLetter_14 rfl ?_
    refine go_iaload (by first | assumption | rfl) dX10_wrongLetter_15 (by omega) (by show (n : Int) < 200; omega) ?_
    rw [L.2 n hlt]
    refine go_iload_n dX10_wrongLetter_16 rfl ?_
    refine go_iload_n dX10_wrongLetter_17 rfl ?_
    refine go_cS3I slX10_164 dX10_wrongLetter_18 (by decide) (Nat.le_of_ble_eq_true rfl) (md_within ?_)
    refine go_if_ne (tgt := 26) dX10_wrongLetter_21 (by decide) (fun c21 => ?_) (fun c21 => ?_)
    · refine go_iinc dX10_wrongLetter_26 rfl rfl rfl (by omega) (by omega) (by dsimp only [List.set]) ?_
      refine go_goto (tgt := 2) dX10_wrongLetter_29 (by decide) ?_
      have q := if10 c21
      rw [drop_at hlt, fou, if_pos q] at K
      exact ih hlt K
    · refine go_iload_n dX10_wrongLetter_24 rfl ?_
      refine go_ireturn dX10_wrongLetter_25 rfl ?_
      have q := if01 c21
      rw [drop_at hlt, fou, if_neg q] at K
      rw [← K] at hQ
      unfold fo9 at hQ
      rw [if_neg (by omega)] at hQ
      exact hQ
  · have hie : n = lt.length := by omega
    subst hie
    refine go_iload_n dX10_wrongLetter_2 rfl ?_
    refine go_aload_n dX10_wrongLetter_3 rfl ?_
    refine gfX10_letters (by first | assumption | rfl) flX10_168 dX10_wrongLetter_4 ?_
    try simp (disch := decide) only [hset_eq, hset_nk, hset_ni, e6]
    refine go_icmp_ge_t (tgt := 32) dX10_wrongLetter_7 (by decide) (by omega) ?_
    refine go_bipush dX10_wrongLetter_32 (by decide +kernel) ⟨by decide, by decide⟩ ?_
    refine go_ireturn dX10_wrongLetter_34 rfl ?_
    rw [List.drop_eq_nil_of_le (Nat.le_refl _), fou] at K
    rw [← K] at hQ
    exact hQ

theorem fo9_c {lo hi : Int} (l : List Int) : (fo9 (fou lo hi l 0) = -9 ∧ fou lo hi l 0 = -1 ∧ ∀ z ∈ l, lo ≤ z ∧ z ≤ hi) ∨ (fo9 (fou lo hi l 0) ≠ -9 ∧ fo9 (fou lo hi l 0) = fou lo hi l 0 ∧ 0 ≤ fou lo hi l 0 ∧ fou lo hi l 0 < l.length) := by
  unfold fo9
  rcases fou_bd (lo := lo) (hi := hi) l 0 with q | q
  · rw [if_pos q.1]; exact Or.inl ⟨rfl, q⟩
  · rw [if_neg (by omega)]; exact Or.inr ⟨by omega, rfl, q.1, by omega⟩

set_option maxHeartbeats 4000000 in
set_option maxRecDepth 100000 in
theorem md_word {x : mX} {h : mH} {Q : Int → mH → Prop} {a : Ab} (H : MdS h a) (ok : AbOk a) (hQ : ∀ h', MdS h' (sp_word a).2 → FrM h h' → Q (sp_word a).1 h') : CtI x mtX10_word [xR 52] h Q := by
  have hl := ok.2.1.2.1
  have hl2 := ok.1.1
  have e6 := H.1.1
  have hfo := fo9_c (lo := 97) (hi := 100) a.1
  refine ct_go (ls := [xR 52, xU, xU]) (by decide +kernel) (Nat.le_of_ble_eq_true rfl) rfl ?_
  refine go_aload_n dX10_word_0 rfl ?_
  refine go_bipush dX10_word_1 (by decide +kernel) ⟨by decide, by decide⟩ ?_
  refine go_bipush dX10_word_3 (by decide +kernel) ⟨by decide, by decide⟩ ?_
  refine go_cV2I (by first | assumption | rfl) vlX10_183 dX10_word_5 (by decide) rfl rfl (by decide) (Nat.le_of_ble_eq_true rfl) (md_wrong H.1 hl2 ?_)
  refine go_istore_n 1 dX10_word_8 rfl (Nat.le_of_ble_eq_true rfl) rfl (by dsimp only [List.set]) ?_
  refine go_iload_n dX10_word_9 rfl ?_
  refine go_bipush dX10_word_10 (by decide +kernel) ⟨by decide, by decide⟩ ?_
  refine go_icmp_eq (tgt := 20) dX10_word_12 (by decide) (fun c12 => ?_) (fun c12 => ?_)
  · refine go_aload_n dX10_word_20 rfl ?_
    refine gfX10_now (by first | assumption | rfl) flX10_7 dX10_word_21 ?_
    refine go_iconst dX10_word_24 ⟨by decide, by decide⟩ ?_
    refine go_iaload (by first | assumption | rfl) dX10_word_25 (by decide) (by decide) ?_
    rw [H.2.1.2.2.2.2.1]
    refine go_aload_n dX10_word_26 rfl ?_
    refine gfX10_letters (by first | assumption | rfl) flX10_168 dX10_word_27 ?_
    try simp (disch := decide) only [hset_eq, hset_nk, hset_ni, e6]
    refine go_iadd dX10_word_30 (by omega) (by omega) ?_
    refine go_bipush dX10_word_31 (by decide +kernel) ⟨by decide, by decide⟩ ?_
    refine go_icmp_le (tgt := 39) dX10_word_33 (by decide) (fun c33 => ?_) (fun c33 => ?_)
    · refine go_aload_n dX10_word_39 rfl ?_
      refine go_cV0V (by first | assumption | rfl) vlX10_174 dX10_word_40 (by decide) rfl rfl (by decide) (Nat.le_of_ble_eq_true rfl) (md_keeps H ok ?_)
      intro h1 H1 F1
      refine go_iconst dX10_word_43 ⟨by decide, by decide⟩ ?_
      refine go_istore_n 2 dX10_word_44 rfl (Nat.le_of_ble_eq_true rfl) rfl (by dsimp only [List.set]) ?_
      rcases hfo with q | q
      rotate_left
      · exact absurd c12 q.1
      have e9 : sp_word a = ((a.1.length : Int), ([], (a.2.1.1, a.2.1.2.1, a.2.1.2.2.1, a.2.1.2.2.2.1, a.2.1.2.2.2.2 ++ a.1.map (fun z => z - 97)), push a, a.2.2.2)) := by unfold sp_word; rw [if_neg (by omega), if_neg (by omega)]
      rw [e9] at hQ
      refine up_indN (P := fun n => ∀ hh : mH, MdS hh (a.1, (a.2.1.1, a.2.1.2.1, a.2.1.2.2.1, a.2.1.2.2.2.1, a.2.1.2.2.2.2 ++ (a.1.take n).map (fun z => z - 97)), push a, a.2.2.2) → FrM h hh → Go x mtX10_word 45 [xR 52, xI (fo9 (fou 97 100 a.1 0)), xI (n : Int)] [] hh (qI Q)) a.1.length (fun n hn ih hh HH GG => ?_) h1 (by rw [List.take_zero, List.map_nil, List.append_nil]; exact H1) F1
      have E6 : hh 52 6 = (a.1.length : Int) := HH.1.1
      by_cases hlt : n < a.1.length
      · have hz := q.2.2 (a.1.getD n 0) (by rw [List.getD_eq_getElem?_getD, List.getElem?_eq_getElem hlt]; exact List.getElem_mem hlt)
        refine go_iload_n dX10_word_45 rfl ?_
        refine go_aload_n dX10_word_46 rfl ?_
        refine gfX10_letters (by first | assumption | rfl) flX10_168 dX10_word_47 ?_
        try simp (disch := decide) only [hset_eq, hset_nk, hset_ni, E6]
        refine go_icmp_ge_f (tgt := 72) dX10_word_50 (by decide) (by omega) ?_
        refine go_aload_n dX10_word_53 rfl ?_
        refine go_aload_n dX10_word_54 rfl ?_
        refine gfX10_text (by first | assumption | rfl) flX10_23 dX10_word_55 ?_
        refine go_iload_n dX10_word_58 rfl ?_
        refine go_iaload (by first | assumption | rfl) dX10_word_59 (by omega) (by show (n : Int) < 200; omega) ?_
        rw [HH.1.2 n hlt]
        dsimp only
        refine go_bipush dX10_word_60 (by decide +kernel) ⟨by decide, by decide⟩ ?_
        refine go_isub dX10_word_62 (by omega) (by omega) ?_
        refine go_cV1V (by first | assumption | rfl) vlX10_177 dX10_word_63 (by decide) rfl rfl (by decide) (Nat.le_of_ble_eq_true rfl) (md_appends (s := a.1.getD n 0 - 97) HH.2.1 (by dsimp only; rw [List.length_append, List.length_map, List.length_take]; omega) ?_)
        intro h2 N2 F2
        have H2 := HH.now F2 N2
        dsimp only at H2
        rw [← take_succ_map hlt] at H2
        refine go_iinc dX10_word_66 rfl rfl rfl (by omega) (by omega) (by dsimp only [List.set]) ?_
        refine go_goto (tgt := 45) dX10_word_69 (by decide) ?_
        exact ih hlt h2 H2 (fun i q => by rw [F2 i (by omega)]; exact GG i q)
      · have hie : n = a.1.length := by omega
        subst hie
        rw [List.take_length] at HH
        refine go_iload_n dX10_word_45 rfl ?_
        refine go_aload_n dX10_word_46 rfl ?_
        refine gfX10_letters (by first | assumption | rfl) flX10_168 dX10_word_47 ?_
        try simp (disch := decide) only [hset_eq, hset_nk, hset_ni, E6]
        refine go_icmp_ge_t (tgt := 72) dX10_word_50 (by decide) (by omega) ?_
        refine go_aload_n dX10_word_72 rfl ?_
        refine gfX10_letters (by first | assumption | rfl) flX10_168 dX10_word_73 ?_
        try simp (disch := decide) only [hset_eq, hset_nk, hset_ni, E6]
        refine go_istore_n 2 dX10_word_76 rfl (Nat.le_of_ble_eq_true rfl) rfl (by dsimp only [List.set]) ?_
        refine go_aload_n dX10_word_77 rfl ?_
        refine go_iconst dX10_word_78 ⟨by decide, by decide⟩ ?_
        refine pfX10_letters (by first | assumption | rfl) flX10_168 dX10_word_79 ?_
        refine go_iload_n dX10_word_82 rfl ?_
        refine go_ireturn dX10_word_83 rfl ?_
        have H9 : MdS (hset hh 52 6 0) ([], (a.2.1.1, a.2.1.2.1, a.2.1.2.2.1, a.2.1.2.2.2.1, a.2.1.2.2.2.2 ++ a.1.map (fun z => z - 97)), push a, a.2.2.2) := by
          obtain ⟨L, N, U, ⟨I, J⟩, Z⟩ := HH
          exact ⟨⟨by rw [hset_eq]; rfl, fun k hk => absurd hk (Nat.not_lt_zero k)⟩, by simp (disch := decide) only [hset_eq, hset_nk, hset_ni]; exact N, U.congr (by simp (disch := decide) only [hset_eq, hset_nk, hset_ni]) (by simp (disch := decide) only [hset_eq, hset_nk, hset_ni]), ⟨I.congr (by simp (disch := decide) only [hset_eq, hset_nk, hset_ni]) (by simp (disch := decide) only [hset_eq, hset_nk, hset_ni]), J.congr (by simp (disch := decide) only [hset_eq, hset_nk, hset_ni]) (by simp (disch := decide) only [hset_eq, hset_nk, hset_ni])⟩, by simp (disch := decide) only [hset_eq, hset_nk, hset_ni]; exact Z⟩
        exact hQ _ H9 (fun i q => by rw [hset_ni (by omega)]; exact GG i q)
    · refine go_bipush dX10_word_36 (by decide +kernel) ⟨by decide, by decide⟩ ?_
      refine go_ireturn dX10_word_38 rfl ?_
      rcases hfo with q | q
      · have e9 : sp_word a = (-3, a) := by unfold sp_word; rw [if_neg (by omega), if_pos (by omega)]
        rw [e9] at hQ
        exact hQ h H FrM.rf
      · exact absurd c12 q.1
  · refine go_bipush dX10_word_15 (by decide +kernel) ⟨by decide, by decide⟩ ?_
    refine go_iload_n dX10_word_17 rfl ?_
    refine go_isub dX10_word_18 (by omega) (by omega) ?_
    refine go_ireturn dX10_word_19 rfl ?_
    rcases hfo with q | q
    · exact absurd q.1 c12
    · have e9 : sp_word a = (-10 - fou 97 100 a.1 0, a) := by unfold sp_word; rw [if_pos q.2.2.1]
      rw [e9] at hQ
      rw [q.2.1]
      exact hQ h H FrM.rf

theorem NwS.cut {f g : Int → Int} {v : PV} {m : Nat} (N : NwS f v) (hm : m ≤ v.2.2.2.2.length) (e4 : g 4 = (m : Int)) (e : ∀ z, z ≠ 4 → g z = f z) : NwS g (v.1, v.2.1, v.2.2.1, v.2.2.2.1, v.2.2.2.2.take m) := by
  refine ⟨by rw [e 0 (by decide)]; exact N.1, by rw [e 1 (by decide)]; exact N.2.1, by rw [e 2 (by decide)]; exact N.2.2.1, by rw [e 3 (by decide)]; exact N.2.2.2.1, by rw [e4]; dsimp only; rw [List.length_take]; omega, fun k hk => ?_⟩
  dsimp only at hk ⊢
  rw [List.length_take] at hk
  rw [e _ (by omega), N.2.2.2.2.2 k (by omega), List.getD_eq_getElem?_getD, List.getD_eq_getElem?_getD, List.getElem?_take_of_lt (by omega)]

set_option maxHeartbeats 4000000 in
set_option maxRecDepth 100000 in
theorem md_cuts {x : mX} {h : mH} {Q : Int → mH → Prop} {n : Int} {a : Ab} (H : MdS h a) (ok : AbOk a) (hQ : ∀ h', MdS h' (sp_cuts n a).2 → FrM h h' → Q (sp_cuts n a).1 h') : CtI x mtX10_cuts [xR 52, xI n] h Q := by
  have hl := ok.2.1.2.1
  refine ct_go (ls := [xR 52, xI n]) (by decide +kernel) (Nat.le_of_ble_eq_true rfl) rfl ?_
  refine go_iload_n dX10_cuts_0 rfl ?_
  refine go_iconst dX10_cuts_1 ⟨by decide, by decide⟩ ?_
  refine go_icmp_ge (tgt := 7) dX10_cuts_2 (by decide) (fun c2 => ?_) (fun c2 => ?_)
  · refine go_iload_n dX10_cuts_7 rfl ?_
    refine go_aload_n dX10_cuts_8 rfl ?_
    refine gfX10_now (by first | assumption | rfl) flX10_7 dX10_cuts_9 ?_
    refine go_iconst dX10_cuts_12 ⟨by decide, by decide⟩ ?_
    refine go_iaload (by first | assumption | rfl) dX10_cuts_13 (by decide) (by decide) ?_
    rw [H.2.1.2.2.2.2.1]
    refine go_icmp_le (tgt := 20) dX10_cuts_14 (by decide) (fun c14 => ?_) (fun c14 => ?_)
    · refine go_aload_n dX10_cuts_20 rfl ?_
      refine go_cV0V (by first | assumption | rfl) vlX10_174 dX10_cuts_21 (by decide) rfl rfl (by decide) (Nat.le_of_ble_eq_true rfl) (md_keeps H ok ?_)
      intro h1 H1 F1
      have e4 := H1.2.1.2.2.2.2.1
      dsimp only at e4
      refine go_aload_n dX10_cuts_24 rfl ?_
      refine gfX10_now (by first | assumption | rfl) flX10_7 dX10_cuts_25 ?_
      refine go_iconst dX10_cuts_28 ⟨by decide, by decide⟩ ?_
      refine go_dup2 dX10_cuts_29 ?_
      refine go_iaload (by first | assumption | rfl) dX10_cuts_30 (by decide) (by decide) ?_
      rw [e4]
      refine go_iload_n dX10_cuts_31 rfl ?_
      refine go_isub dX10_cuts_32 (by omega) (by omega) ?_
      refine go_iastore (by first | assumption | rfl) dX10_cuts_33 (by decide) (by decide) ?_
      refine go_aload_n dX10_cuts_34 rfl ?_
      refine gfX10_now (by first | assumption | rfl) flX10_7 dX10_cuts_35 ?_
      refine go_iconst dX10_cuts_38 ⟨by decide, by decide⟩ ?_
      refine go_iaload (by first | assumption | rfl) dX10_cuts_39 (by decide) (by decide) ?_
      rw [hset_eq]
      refine go_ireturn dX10_cuts_40 rfl ?_
      have e9 : sp_cuts n a = ((a.2.1.2.2.2.2.length : Int) - n, (a.1, (a.2.1.1, a.2.1.2.1, a.2.1.2.2.1, a.2.1.2.2.2.1, a.2.1.2.2.2.2.take ((a.2.1.2.2.2.2.length : Int) - n).toNat), push a, a.2.2.2)) := by unfold sp_cuts; rw [if_neg (by omega), if_neg (by omega)]
      rw [e9] at hQ
      exact hQ _ (H1.now (fun i q => hset_ni q) (NwS.cut (m := ((a.2.1.2.2.2.2.length : Int) - n).toNat) H1.2.1 (by omega) (by rw [hset_eq]; omega) (fun z q => hset_nk q))) (F1.tr (fun i q => hset_ni (by omega)))
    · refine go_bipush dX10_cuts_17 (by decide +kernel) ⟨by decide, by decide⟩ ?_
      refine go_ireturn dX10_cuts_19 rfl ?_
      have e9 : sp_cuts n a = (-2, a) := by unfold sp_cuts; rw [if_neg (by omega), if_pos (by omega)]
      rw [e9] at hQ; exact hQ h H FrM.rf
  · refine go_iconst dX10_cuts_5 ⟨by decide, by decide⟩ ?_
    refine go_ireturn dX10_cuts_6 rfl ?_
    have e9 : sp_cuts n a = (-1, a) := by unfold sp_cuts; rw [if_pos (by omega)]
    rw [e9] at hQ; exact hQ h H FrM.rf

set_option maxHeartbeats 4000000 in
set_option maxRecDepth 100000 in
theorem md_undo {x : mX} {h : mH} {Q : Int → mH → Prop} {a : Ab} (H : MdS h a) (ok : AbOk a) (hQ : ∀ h', MdS h' (sp_undo a).2 → FrM h h' → Q (sp_undo a).1 h') : CtI x mtX10_undo [xR 52] h Q := by
  obtain ⟨lt, nw, un, im⟩ := a
  obtain ⟨L0, N0, U, R0⟩ := id H
  dsimp only at U
  refine ct_go (ls := [xR 52, xU]) (by decide +kernel) (Nat.le_of_ble_eq_true rfl) rfl ?_
  cases un with
  | nil =>
    have e2 : h 52 2 = 0 := U.1
    refine go_aload_n dX10_undo_0 rfl ?_
    refine gfX10_undos (by first | assumption | rfl) flX10_171 dX10_undo_1 ?_
    try simp (disch := decide) only [hset_eq, hset_nk, hset_ni, e2]
    refine go_if_ne_f (tgt := 10) dX10_undo_4 (by decide) (rfl) ?_
    refine go_bipush dX10_undo_7 (by decide +kernel) ⟨by decide, by decide⟩ ?_
    refine go_ireturn dX10_undo_9 rfl ?_
    exact hQ h H FrM.rf
  | cons v vs =>
    have e2 : h 52 2 = ((vs.length + 1 : Nat) : Int) := U.1
    have hlv : v.2.2.2.2.length ≤ 60 := (ok.2.2.1.2 v (List.mem_cons_self ..)).2.1
    have hvl : vs.length + 1 ≤ 6 := ok.2.2.1.1
    have hQ2 : ∀ h', MdS h' (lt, v, vs, im) → FrM h h' → Q (vs.length : Int) h' := hQ
    clear hQ
    have hQ := hQ2
    refine go_aload_n dX10_undo_0 rfl ?_
    refine gfX10_undos (by first | assumption | rfl) flX10_171 dX10_undo_1 ?_
    try simp (disch := decide) only [hset_eq, hset_nk, hset_ni, e2]
    refine go_if_ne_t (tgt := 10) dX10_undo_4 (by decide) (by omega) ?_
    refine go_aload_n dX10_undo_10 rfl ?_
    first | refine go_dupR dX10_undo_11 ?_ | refine go_dupI dX10_undo_11 ?_
    refine gfX10_undos (by first | assumption | rfl) flX10_171 dX10_undo_12 ?_
    try simp (disch := decide) only [hset_eq, hset_nk, hset_ni, e2]
    refine go_iconst dX10_undo_15 ⟨by decide, by decide⟩ ?_
    refine go_isub dX10_undo_16 (by omega) (by omega) ?_
    refine pfX10_undos (by first | assumption | rfl) flX10_171 dX10_undo_17 ?_
    refine go_iconst dX10_undo_20 ⟨by decide, by decide⟩ ?_
    refine go_istore_n 1 dX10_undo_21 rfl (Nat.le_of_ble_eq_true rfl) rfl (by dsimp only [List.set]) ?_
    rw [show (((vs.length + 1 : Nat) : Int)) - 1 = (vs.length : Int) by omega]
    obtain ⟨h1, hh1⟩ : ∃ h1, hset h 52 2 (vs.length : Int) = h1 := ⟨_, rfl⟩
    have E2 : h1 52 2 = (vs.length : Int) := by rw [← hh1, hset_eq]
    have E54 : h1 54 = h 54 := by rw [← hh1, hset_ni (by decide)]
    have F1 : FrM h h1 := fun i q => by rw [← hh1, hset_ni (by omega)]
    have H1 : MdS h1 (lt, nw, vs, im) := by
      obtain ⟨L, N, U, ⟨I, J⟩, Z⟩ := H
      rw [← hh1]
      refine ⟨L.congr (by simp (disch := decide) only [hset_eq, hset_nk, hset_ni]) (by simp (disch := decide) only [hset_eq, hset_nk, hset_ni]), by simp (disch := decide) only [hset_eq, hset_nk, hset_ni]; exact N, ⟨by rw [hset_eq], fun j w hj => ?_⟩, ⟨I.congr (by simp (disch := decide) only [hset_eq, hset_nk, hset_ni]) (by simp (disch := decide) only [hset_eq, hset_nk, hset_ni]), J.congr (by simp (disch := decide) only [hset_eq, hset_nk, hset_ni]) (by simp (disch := decide) only [hset_eq, hset_nk, hset_ni])⟩, by simp (disch := decide) only [hset_eq, hset_nk, hset_ni]; exact Z⟩
      have hz := U.2 (j + 1) w (by simpa using hj)
      rw [hset_ni (by decide)]
      have e7 : (((v :: vs).length : Int) - 1 - ((j + 1 : Nat) : Int)) = (vs.length : Int) - 1 - (j : Int) := by rw [List.length_cons]; omega
      dsimp only at hz
      rw [e7] at hz
      exact hz
    rw [hh1]
    have N9 : NwS (cpy h1 53 0 54 (65 * (vs.length : Int)) ((65 : Nat) : Int) 53) v := by
      refine (U.2 0 v (by simp)).copy hlv (fun k q1 q2 => ?_)
      rw [cpy_in (by omega) (by omega), E54, List.length_cons]
      congr 1; omega
    have key : Go x mtX10_undo 22 [xR 52, xI ((0 : Nat) : Int)] [] (cpy h1 53 0 54 (65 * (vs.length : Int)) ((0 : Nat) : Int)) (qI Q) := by
      refine up_indN (P := fun k => Go x mtX10_undo 22 [xR 52, xI (k : Int)] [] (cpy h1 53 0 54 (65 * (vs.length : Int)) (k : Int)) (qI Q)) 65 (fun k hk ih => ?_)
      by_cases hlt : k < 65
      · skip
        refine go_iload_n dX10_undo_22 rfl ?_
        refine go_bipush dX10_undo_23 (by decide +kernel) ⟨by decide, by decide⟩ ?_
        refine go_icmp_ge_f (tgt := 54) dX10_undo_25 (by decide) (by omega) ?_
        refine go_aload_n dX10_undo_28 rfl ?_
        refine gfX10_now (by first | assumption | rfl) flX10_7 dX10_undo_29 ?_
        refine go_iload_n dX10_undo_32 rfl ?_
        refine go_aload_n dX10_undo_33 rfl ?_
        refine gfX10_past (by first | assumption | rfl) flX10_13 dX10_undo_34 ?_
        refine go_bipush dX10_undo_37 (by decide +kernel) ⟨by decide, by decide⟩ ?_
        refine go_aload_n dX10_undo_39 rfl ?_
        refine gfX10_undos (by first | assumption | rfl) flX10_171 dX10_undo_40 ?_
        try simp (disch := decide) only [hset_eq, hset_nk, hset_ni, cpy_ni, E2]
        refine go_imul dX10_undo_43 (by omega) (by omega) ?_
        refine go_iload_n dX10_undo_44 rfl ?_
        refine go_iadd dX10_undo_45 (by omega) (by omega) ?_
        refine go_iaload (by first | assumption | rfl) dX10_undo_46 (by omega) (by show 65 * (vs.length : Int) + (k : Int) < 390; omega) ?_
        rw [cpy_ni (show (54 : Nat) ≠ 53 by decide)]
        refine go_iastore (by first | assumption | rfl) dX10_undo_47 (by omega) (by show (k : Int) < 65; omega) ?_
        refine go_iinc dX10_undo_48 rfl rfl rfl (by omega) (by omega) (by dsimp only [List.set]) ?_
        refine go_goto (tgt := 22) dX10_undo_51 (by decide) ?_
        have e8 := cpy_step (h := h1) (A := 53) (b := 0) (B := 54) (c := 65 * (vs.length : Int)) (k := k)
        rw [Int.zero_add] at e8
        rw [e8]
        exact ih hlt
      · have hie : k = 65 := by omega
        subst hie
        refine go_iload_n dX10_undo_22 rfl ?_
        refine go_bipush dX10_undo_23 (by decide +kernel) ⟨by decide, by decide⟩ ?_
        refine go_icmp_ge_t (tgt := 54) dX10_undo_25 (by decide) (by omega) ?_
        refine go_aload_n dX10_undo_54 rfl ?_
        refine gfX10_undos (by first | assumption | rfl) flX10_171 dX10_undo_55 ?_
        try simp (disch := decide) only [hset_eq, hset_nk, hset_ni, cpy_ni, E2]
        refine go_ireturn dX10_undo_58 rfl ?_
        exact hQ _ ((MdS.now (v := v) H1 (fun i q => cpy_ni q) N9)) (FrM.tr F1 (fun i q => cpy_ni (by omega)))
    rw [cpy_0] at key
    exact key

set_option maxHeartbeats 4000000 in
set_option maxRecDepth 100000 in
theorem md_keep {x : mX} {h : mH} {Q : Int → mH → Prop} {k : Int} {a : Ab} (H : MdS h a) (ok : AbOk a) (hQ : ∀ h', MdS h' (sp_keep k a).2 → FrM h h' → Q (sp_keep k a).1 h') : CtI x mtX10_keep [xR 52, xI k] h Q := by
  have hl := ok.2.1.2.1
  refine ct_go (ls := [xR 52, xI k, xU]) (by decide +kernel) (Nat.le_of_ble_eq_true rfl) rfl ?_
  refine go_iload_n dX10_keep_0 rfl ?_
  refine go_iconst dX10_keep_1 ⟨by decide, by decide⟩ ?_
  refine go_iconst dX10_keep_2 ⟨by decide, by decide⟩ ?_
  refine go_cS3I slX10_164 dX10_keep_3 (by decide) (Nat.le_of_ble_eq_true rfl) (md_within ?_)
  refine go_if_ne (tgt := 11) dX10_keep_6 (by decide) (fun c6 => ?_) (fun c6 => ?_)
  · refine go_iconst dX10_keep_11 ⟨by decide, by decide⟩ ?_
    refine go_istore_n 2 dX10_keep_12 rfl (Nat.le_of_ble_eq_true rfl) rfl (by dsimp only [List.set]) ?_
    have q := if10 c6
    rcases (show k = 0 ∨ k = 1 by omega) with rfl | rfl
    · skip
      have key : Go x mtX10_keep 13 [xR 52, xI 0, xI ((0 : Nat) : Int)] [] (cpy h 55 (65 * 0) 53 0 ((0 : Nat) : Int)) (qI Q) := by
        refine up_indN (P := fun k => Go x mtX10_keep 13 [xR 52, xI 0, xI (k : Int)] [] (cpy h 55 (65 * 0) 53 0 (k : Int)) (qI Q)) 65 (fun k hk ih => ?_)
        by_cases hlt : k < 65
        · skip
          refine go_iload_n dX10_keep_13 rfl ?_
          refine go_bipush dX10_keep_14 (by decide +kernel) ⟨by decide, by decide⟩ ?_
          refine go_icmp_ge_f (tgt := 42) dX10_keep_16 (by decide) (by omega) ?_
          refine go_aload_n dX10_keep_19 rfl ?_
          refine gfX10_images (by first | assumption | rfl) flX10_16 dX10_keep_20 ?_
          refine go_bipush dX10_keep_23 (by decide +kernel) ⟨by decide, by decide⟩ ?_
          refine go_iload_n dX10_keep_25 rfl ?_
          refine go_imul dX10_keep_26 (by decide) (by decide) ?_
          refine go_iload_n dX10_keep_27 rfl ?_
          refine go_iadd dX10_keep_28 (by omega) (by omega) ?_
          refine go_aload_n dX10_keep_29 rfl ?_
          refine gfX10_now (by first | assumption | rfl) flX10_7 dX10_keep_30 ?_
          refine go_iload_n dX10_keep_33 rfl ?_
          refine go_iaload (by first | assumption | rfl) dX10_keep_34 (by omega) (by show (k : Int) < 65; omega) ?_
          rw [cpy_ni (show (53 : Nat) ≠ 55 by decide), show h 53 (k : Int) = h 53 (0 + (k : Int)) by rw [Int.zero_add]]
          refine go_iastore (by first | assumption | rfl) dX10_keep_35 (by omega) (by show 65 * 0 + (k : Int) < 130; omega) ?_
          refine go_iinc dX10_keep_36 rfl rfl rfl (by omega) (by omega) (by dsimp only [List.set]) ?_
          refine go_goto (tgt := 13) dX10_keep_39 (by decide) ?_
          rw [cpy_step]
          exact ih hlt
        · have hie : k = 65 := by omega
          subst hie
          refine go_iload_n dX10_keep_13 rfl ?_
          refine go_bipush dX10_keep_14 (by decide +kernel) ⟨by decide, by decide⟩ ?_
          refine go_icmp_ge_t (tgt := 42) dX10_keep_16 (by decide) (by omega) ?_
          refine go_aload_n dX10_keep_42 rfl ?_
          refine gfX10_isKept (by first | assumption | rfl) flX10_19 dX10_keep_43 ?_
          refine go_iload_n dX10_keep_46 rfl ?_
          refine go_iconst dX10_keep_47 ⟨by decide, by decide⟩ ?_
          refine go_bastore (by first | assumption | rfl) dX10_keep_48 (by decide) (by decide) (by exact Or.inr rfl) ?_
          refine go_aload_n dX10_keep_49 rfl ?_
          refine gfX10_now (by first | assumption | rfl) flX10_7 dX10_keep_50 ?_
          refine go_iconst dX10_keep_53 ⟨by decide, by decide⟩ ?_
          refine go_iaload (by first | assumption | rfl) dX10_keep_54 (by decide) (by decide) ?_
          rw [hset_ni (show (53 : Nat) ≠ 56 by decide), cpy_ni (show (53 : Nat) ≠ 55 by decide), H.2.1.2.2.2.2.1]
          refine go_ireturn dX10_keep_55 rfl ?_
          have e9 : sp_keep 0 a = ((a.2.1.2.2.2.2.length : Int), (a.1, a.2.1, a.2.2.1, some a.2.1, a.2.2.2.2)) := rfl
          rw [e9] at hQ
          obtain ⟨L, N, U, ⟨I, J⟩, Z⟩ := H
          have Y : ImM (hset (cpy h 55 (65 * 0) 53 0 ((65 : Nat) : Int)) 56 0 1) 0 (some a.2.1) := by
            refine ⟨by rw [hset_eq]; rfl, fun v hv => ?_⟩
            cases hv
            refine N.copy hl (fun k q1 q2 => ?_)
            rw [hset_ni (by decide), cpy_in (by omega) (by omega)]
            congr 1; omega
          have X : ∀ im, ImM h 1 im → (∀ v, im = some v → v.2.2.2.2.length ≤ 60) → ImM (hset (cpy h 55 (65 * 0) 53 0 ((65 : Nat) : Int)) 56 0 1) 1 im := fun im O hh => by
            refine ⟨by rw [hset_nk (by decide), cpy_ni (by decide)]; exact O.1, fun v hv => (O.2 v hv).copy (hh v hv) (fun k q1 q2 => ?_)⟩
            rw [hset_ni (by decide), cpy_out (by omega)]
          refine hQ _ ⟨L.congr (by rw [hset_ni (by decide), cpy_ni (by decide)]) (by rw [hset_ni (by decide), cpy_ni (by decide)]), by rw [hset_ni (by decide), cpy_ni (by decide)]; exact N, U.congr (by rw [hset_ni (by decide), cpy_ni (by decide)]) (by rw [hset_ni (by decide), cpy_ni (by decide)]), ⟨Y, X _ J (fun v hv => (ok.2.2.2.2 v hv).2.1)⟩, by rw [hset_ni (by decide), cpy_ni (by decide)]; exact Z⟩ (fun i q => by rw [hset_ni (by omega), cpy_ni (by omega)])
      rw [cpy_0] at key
      exact key
    · skip
      have key : Go x mtX10_keep 13 [xR 52, xI 1, xI ((0 : Nat) : Int)] [] (cpy h 55 (65 * 1) 53 0 ((0 : Nat) : Int)) (qI Q) := by
        refine up_indN (P := fun k => Go x mtX10_keep 13 [xR 52, xI 1, xI (k : Int)] [] (cpy h 55 (65 * 1) 53 0 (k : Int)) (qI Q)) 65 (fun k hk ih => ?_)
        by_cases hlt : k < 65
        · skip
          refine go_iload_n dX10_keep_13 rfl ?_
          refine go_bipush dX10_keep_14 (by decide +kernel) ⟨by decide, by decide⟩ ?_
          refine go_icmp_ge_f (tgt := 42) dX10_keep_16 (by decide) (by omega) ?_
          refine go_aload_n dX10_keep_19 rfl ?_
          refine gfX10_images (by first | assumption | rfl) flX10_16 dX10_keep_20 ?_
          refine go_bipush dX10_keep_23 (by decide +kernel) ⟨by decide, by decide⟩ ?_
          refine go_iload_n dX10_keep_25 rfl ?_
          refine go_imul dX10_keep_26 (by decide) (by decide) ?_
          refine go_iload_n dX10_keep_27 rfl ?_
          refine go_iadd dX10_keep_28 (by omega) (by omega) ?_
          refine go_aload_n dX10_keep_29 rfl ?_
          refine gfX10_now (by first | assumption | rfl) flX10_7 dX10_keep_30 ?_
          refine go_iload_n dX10_keep_33 rfl ?_
          refine go_iaload (by first | assumption | rfl) dX10_keep_34 (by omega) (by show (k : Int) < 65; omega) ?_
          rw [cpy_ni (show (53 : Nat) ≠ 55 by decide), show h 53 (k : Int) = h 53 (0 + (k : Int)) by rw [Int.zero_add]]
          refine go_iastore (by first | assumption | rfl) dX10_keep_35 (by omega) (by show 65 * 1 + (k : Int) < 130; omega) ?_
          refine go_iinc dX10_keep_36 rfl rfl rfl (by omega) (by omega) (by dsimp only [List.set]) ?_
          refine go_goto (tgt := 13) dX10_keep_39 (by decide) ?_
          rw [cpy_step]
          exact ih hlt
        · have hie : k = 65 := by omega
          subst hie
          refine go_iload_n dX10_keep_13 rfl ?_
          refine go_bipush dX10_keep_14 (by decide +kernel) ⟨by decide, by decide⟩ ?_
          refine go_icmp_ge_t (tgt := 42) dX10_keep_16 (by decide) (by omega) ?_
          refine go_aload_n dX10_keep_42 rfl ?_
          refine gfX10_isKept (by first | assumption | rfl) flX10_19 dX10_keep_43 ?_
          refine go_iload_n dX10_keep_46 rfl ?_
          refine go_iconst dX10_keep_47 ⟨by decide, by decide⟩ ?_
          refine go_bastore (by first | assumption | rfl) dX10_keep_48 (by decide) (by decide) (by exact Or.inr rfl) ?_
          refine go_aload_n dX10_keep_49 rfl ?_
          refine gfX10_now (by first | assumption | rfl) flX10_7 dX10_keep_50 ?_
          refine go_iconst dX10_keep_53 ⟨by decide, by decide⟩ ?_
          refine go_iaload (by first | assumption | rfl) dX10_keep_54 (by decide) (by decide) ?_
          rw [hset_ni (show (53 : Nat) ≠ 56 by decide), cpy_ni (show (53 : Nat) ≠ 55 by decide), H.2.1.2.2.2.2.1]
          refine go_ireturn dX10_keep_55 rfl ?_
          have e9 : sp_keep 1 a = ((a.2.1.2.2.2.2.length : Int), (a.1, a.2.1, a.2.2.1, a.2.2.2.1, some a.2.1)) := rfl
          rw [e9] at hQ
          obtain ⟨L, N, U, ⟨I, J⟩, Z⟩ := H
          have Y : ImM (hset (cpy h 55 (65 * 1) 53 0 ((65 : Nat) : Int)) 56 1 1) 1 (some a.2.1) := by
            refine ⟨by rw [hset_eq]; rfl, fun v hv => ?_⟩
            cases hv
            refine N.copy hl (fun k q1 q2 => ?_)
            rw [hset_ni (by decide), cpy_in (by omega) (by omega)]
            congr 1; omega
          have X : ∀ im, ImM h 0 im → (∀ v, im = some v → v.2.2.2.2.length ≤ 60) → ImM (hset (cpy h 55 (65 * 1) 53 0 ((65 : Nat) : Int)) 56 1 1) 0 im := fun im O hh => by
            refine ⟨by rw [hset_nk (by decide), cpy_ni (by decide)]; exact O.1, fun v hv => (O.2 v hv).copy (hh v hv) (fun k q1 q2 => ?_)⟩
            rw [hset_ni (by decide), cpy_out (by omega)]
          refine hQ _ ⟨L.congr (by rw [hset_ni (by decide), cpy_ni (by decide)]) (by rw [hset_ni (by decide), cpy_ni (by decide)]), by rw [hset_ni (by decide), cpy_ni (by decide)]; exact N, U.congr (by rw [hset_ni (by decide), cpy_ni (by decide)]) (by rw [hset_ni (by decide), cpy_ni (by decide)]), ⟨X _ I (fun v hv => (ok.2.2.2.1 v hv).2.1), Y⟩, by rw [hset_ni (by decide), cpy_ni (by decide)]; exact Z⟩ (fun i q => by rw [hset_ni (by omega), cpy_ni (by omega)])
      rw [cpy_0] at key
      exact key
  · refine go_iconst dX10_keep_9 ⟨by decide, by decide⟩ ?_
    refine go_ireturn dX10_keep_10 rfl ?_
    have q := if01 c6
    have e9 : sp_keep k a = (-1, a) := by unfold sp_keep; rw [if_neg (by omega), if_neg (by omega)]
    rw [e9] at hQ; exact hQ h H FrM.rf

set_option maxHeartbeats 4000000 in
set_option maxRecDepth 100000 in
theorem md_back {x : mX} {h : mH} {Q : Int → mH → Prop} {k : Int} {a : Ab} (H : MdS h a) (ok : AbOk a) (hQ : ∀ h', MdS h' (sp_back k a).2 → FrM h h' → Q (sp_back k a).1 h') : CtI x mtX10_back [xR 52, xI k] h Q := by
  have hl := ok.2.1.2.1
  refine ct_go (ls := [xR 52, xI k, xU]) (by decide +kernel) (Nat.le_of_ble_eq_true rfl) rfl ?_
  refine go_iload_n dX10_back_0 rfl ?_
  refine go_iconst dX10_back_1 ⟨by decide, by decide⟩ ?_
  refine go_iconst dX10_back_2 ⟨by decide, by decide⟩ ?_
  refine go_cS3I slX10_164 dX10_back_3 (by decide) (Nat.le_of_ble_eq_true rfl) (md_within ?_)
  refine go_if_ne (tgt := 11) dX10_back_6 (by decide) (fun c6 => ?_) (fun c6 => ?_)
  · have q := if10 c6
    rcases (show k = 0 ∨ k = 1 by omega) with rfl | rfl
    · skip
      cases him : a.2.2.2.1 with
      | none =>
        have e56 : h 56 0 = 0 := by have z := H.2.2.2.1.1.1; rw [him] at z; exact z
        refine go_aload_n dX10_back_11 rfl ?_
        refine gfX10_isKept (by first | assumption | rfl) flX10_19 dX10_back_12 ?_
        refine go_iload_n dX10_back_15 rfl ?_
        refine go_baload (by first | assumption | rfl) dX10_back_16 (by decide) (by decide) ?_
        refine go_if_ne_f (tgt := 23) dX10_back_17 (by decide) (e56) ?_
        refine go_bipush dX10_back_20 (by decide +kernel) ⟨by decide, by decide⟩ ?_
        refine go_ireturn dX10_back_22 rfl ?_
        have e9 : sp_back 0 a = (-2, a) := by unfold sp_back; rw [if_pos rfl, him]
        rw [e9] at hQ; exact hQ h H FrM.rf
      | some v =>
        have e56 : h 56 0 = 1 := by have z := H.2.2.2.1.1.1; rw [him] at z; exact z
        have hlv : v.2.2.2.2.length ≤ 60 := (ok.2.2.2.1 v him).2.1
        have e9 : sp_back 0 a = ((v.2.2.2.2.length : Int), (a.1, v, [], a.2.2.2)) := by unfold sp_back; rw [if_pos rfl, him]
        rw [e9] at hQ
        have N9 : NwS (cpy h 53 0 55 (65 * 0) ((65 : Nat) : Int) 53) v := by
          refine (H.2.2.2.1.1.2 v him).copy hlv (fun k q1 q2 => ?_)
          rw [cpy_in (by omega) (by omega)]
          congr 1; omega
        refine go_aload_n dX10_back_11 rfl ?_
        refine gfX10_isKept (by first | assumption | rfl) flX10_19 dX10_back_12 ?_
        refine go_iload_n dX10_back_15 rfl ?_
        refine go_baload (by first | assumption | rfl) dX10_back_16 (by decide) (by decide) ?_
        refine go_if_ne_t (tgt := 23) dX10_back_17 (by decide) (by rw [e56]; decide) ?_
        refine go_iconst dX10_back_23 ⟨by decide, by decide⟩ ?_
        refine go_istore_n 2 dX10_back_24 rfl (Nat.le_of_ble_eq_true rfl) rfl (by dsimp only [List.set]) ?_
        have key : Go x mtX10_back 25 [xR 52, xI 0, xI ((0 : Nat) : Int)] [] (cpy h 53 0 55 (65 * 0) ((0 : Nat) : Int)) (qI Q) := by
          refine up_indN (P := fun k => Go x mtX10_back 25 [xR 52, xI 0, xI (k : Int)] [] (cpy h 53 0 55 (65 * 0) (k : Int)) (qI Q)) 65 (fun k hk ih => ?_)
          by_cases hlt : k < 65
          · skip
            refine go_iload_n dX10_back_25 rfl ?_
            refine go_bipush dX10_back_26 (by decide +kernel) ⟨by decide, by decide⟩ ?_
            refine go_icmp_ge_f (tgt := 54) dX10_back_28 (by decide) (by omega) ?_
            refine go_aload_n dX10_back_31 rfl ?_
            refine gfX10_now (by first | assumption | rfl) flX10_7 dX10_back_32 ?_
            refine go_iload_n dX10_back_35 rfl ?_
            refine go_aload_n dX10_back_36 rfl ?_
            refine gfX10_images (by first | assumption | rfl) flX10_16 dX10_back_37 ?_
            refine go_bipush dX10_back_40 (by decide +kernel) ⟨by decide, by decide⟩ ?_
            refine go_iload_n dX10_back_42 rfl ?_
            refine go_imul dX10_back_43 (by decide) (by decide) ?_
            refine go_iload_n dX10_back_44 rfl ?_
            refine go_iadd dX10_back_45 (by omega) (by omega) ?_
            refine go_iaload (by first | assumption | rfl) dX10_back_46 (by omega) (by show 65 * 0 + (k : Int) < 130; omega) ?_
            rw [cpy_ni (show (55 : Nat) ≠ 53 by decide)]
            refine go_iastore (by first | assumption | rfl) dX10_back_47 (by omega) (by show (k : Int) < 65; omega) ?_
            refine go_iinc dX10_back_48 rfl rfl rfl (by omega) (by omega) (by dsimp only [List.set]) ?_
            refine go_goto (tgt := 25) dX10_back_51 (by decide) ?_
            have e8 := cpy_step (h := h) (A := 53) (b := 0) (B := 55) (c := 65 * 0) (k := k)
            rw [Int.zero_add] at e8
            rw [e8]
            exact ih hlt
          · have hie : k = 65 := by omega
            subst hie
            refine go_iload_n dX10_back_25 rfl ?_
            refine go_bipush dX10_back_26 (by decide +kernel) ⟨by decide, by decide⟩ ?_
            refine go_icmp_ge_t (tgt := 54) dX10_back_28 (by decide) (by omega) ?_
            refine go_aload_n dX10_back_54 rfl ?_
            refine go_iconst dX10_back_55 ⟨by decide, by decide⟩ ?_
            refine pfX10_undos (by first | assumption | rfl) flX10_171 dX10_back_56 ?_
            refine go_aload_n dX10_back_59 rfl ?_
            refine gfX10_now (by first | assumption | rfl) flX10_7 dX10_back_60 ?_
            refine go_iconst dX10_back_63 ⟨by decide, by decide⟩ ?_
            refine go_iaload (by first | assumption | rfl) dX10_back_64 (by decide) (by decide) ?_
            rw [hset_ni (show (53 : Nat) ≠ 52 by decide), N9.2.2.2.2.1]
            refine go_ireturn dX10_back_65 rfl ?_
            have H9 := (MdS.now (v := v) H (h' := cpy h 53 0 55 (65 * 0) ((65 : Nat) : Int)) (fun i q => cpy_ni q) N9)
            obtain ⟨L, N, U, ⟨I, J⟩, Z⟩ := H9
            refine hQ _ ⟨L.congr (by simp (disch := decide) only [hset_eq, hset_nk, hset_ni]) (by simp (disch := decide) only [hset_eq, hset_nk, hset_ni]), by simp (disch := decide) only [hset_eq, hset_nk, hset_ni]; exact N, ⟨by rw [hset_eq]; rfl, fun j w hj => absurd hj (by simp)⟩, ⟨I.congr (by simp (disch := decide) only [hset_eq, hset_nk, hset_ni]) (by simp (disch := decide) only [hset_eq, hset_nk, hset_ni]), J.congr (by simp (disch := decide) only [hset_eq, hset_nk, hset_ni]) (by simp (disch := decide) only [hset_eq, hset_nk, hset_ni])⟩, by simp (disch := decide) only [hset_eq, hset_nk, hset_ni]; exact Z⟩ (fun i q => by rw [hset_ni (by omega), cpy_ni (by omega)])
        rw [cpy_0] at key
        exact key
    · skip
      cases him : a.2.2.2.2 with
      | none =>
        have e56 : h 56 1 = 0 := by have z := H.2.2.2.1.2.1; rw [him] at z; exact z
        refine go_aload_n dX10_back_11 rfl ?_
        refine gfX10_isKept (by first | assumption | rfl) flX10_19 dX10_back_12 ?_
        refine go_iload_n dX10_back_15 rfl ?_
        refine go_baload (by first | assumption | rfl) dX10_back_16 (by decide) (by decide) ?_
        refine go_if_ne_f (tgt := 23) dX10_back_17 (by decide) (e56) ?_
        refine go_bipush dX10_back_20 (by decide +kernel) ⟨by decide, by decide⟩ ?_
        refine go_ireturn dX10_back_22 rfl ?_
        have e9 : sp_back 1 a = (-2, a) := by unfold sp_back; rw [if_neg (by decide), if_pos rfl, him]
        rw [e9] at hQ; exact hQ h H FrM.rf
      | some v =>
        have e56 : h 56 1 = 1 := by have z := H.2.2.2.1.2.1; rw [him] at z; exact z
        have hlv : v.2.2.2.2.length ≤ 60 := (ok.2.2.2.2 v him).2.1
        have e9 : sp_back 1 a = ((v.2.2.2.2.length : Int), (a.1, v, [], a.2.2.2)) := by unfold sp_back; rw [if_neg (by decide), if_pos rfl, him]
        rw [e9] at hQ
        have N9 : NwS (cpy h 53 0 55 (65 * 1) ((65 : Nat) : Int) 53) v := by
          refine (H.2.2.2.1.2.2 v him).copy hlv (fun k q1 q2 => ?_)
          rw [cpy_in (by omega) (by omega)]
          congr 1; omega
        refine go_aload_n dX10_back_11 rfl ?_
        refine gfX10_isKept (by first | assumption | rfl) flX10_19 dX10_back_12 ?_
        refine go_iload_n dX10_back_15 rfl ?_
        refine go_baload (by first | assumption | rfl) dX10_back_16 (by decide) (by decide) ?_
        refine go_if_ne_t (tgt := 23) dX10_back_17 (by decide) (by rw [e56]; decide) ?_
        refine go_iconst dX10_back_23 ⟨by decide, by decide⟩ ?_
        refine go_istore_n 2 dX10_back_24 rfl (Nat.le_of_ble_eq_true rfl) rfl (by dsimp only [List.set]) ?_
        have key : Go x mtX10_back 25 [xR 52, xI 1, xI ((0 : Nat) : Int)] [] (cpy h 53 0 55 (65 * 1) ((0 : Nat) : Int)) (qI Q) := by
          refine up_indN (P := fun k => Go x mtX10_back 25 [xR 52, xI 1, xI (k : Int)] [] (cpy h 53 0 55 (65 * 1) (k : Int)) (qI Q)) 65 (fun k hk ih => ?_)
          by_cases hlt : k < 65
          · skip
            refine go_iload_n dX10_back_25 rfl ?_
            refine go_bipush dX10_back_26 (by decide +kernel) ⟨by decide, by decide⟩ ?_
            refine go_icmp_ge_f (tgt := 54) dX10_back_28 (by decide) (by omega) ?_
            refine go_aload_n dX10_back_31 rfl ?_
            refine gfX10_now (by first | assumption | rfl) flX10_7 dX10_back_32 ?_
            refine go_iload_n dX10_back_35 rfl ?_
            refine go_aload_n dX10_back_36 rfl ?_
            refine gfX10_images (by first | assumption | rfl) flX10_16 dX10_back_37 ?_
            refine go_bipush dX10_back_40 (by decide +kernel) ⟨by decide, by decide⟩ ?_
            refine go_iload_n dX10_back_42 rfl ?_
            refine go_imul dX10_back_43 (by decide) (by decide) ?_
            refine go_iload_n dX10_back_44 rfl ?_
            refine go_iadd dX10_back_45 (by omega) (by omega) ?_
            refine go_iaload (by first | assumption | rfl) dX10_back_46 (by omega) (by show 65 * 1 + (k : Int) < 130; omega) ?_
            rw [cpy_ni (show (55 : Nat) ≠ 53 by decide)]
            refine go_iastore (by first | assumption | rfl) dX10_back_47 (by omega) (by show (k : Int) < 65; omega) ?_
            refine go_iinc dX10_back_48 rfl rfl rfl (by omega) (by omega) (by dsimp only [List.set]) ?_
            refine go_goto (tgt := 25) dX10_back_51 (by decide) ?_
            have e8 := cpy_step (h := h) (A := 53) (b := 0) (B := 55) (c := 65 * 1) (k := k)
            rw [Int.zero_add] at e8
            rw [e8]
            exact ih hlt
          · have hie : k = 65 := by omega
            subst hie
            refine go_iload_n dX10_back_25 rfl ?_
            refine go_bipush dX10_back_26 (by decide +kernel) ⟨by decide, by decide⟩ ?_
            refine go_icmp_ge_t (tgt := 54) dX10_back_28 (by decide) (by omega) ?_
            refine go_aload_n dX10_back_54 rfl ?_
            refine go_iconst dX10_back_55 ⟨by decide, by decide⟩ ?_
            refine pfX10_undos (by first | assumption | rfl) flX10_171 dX10_back_56 ?_
            refine go_aload_n dX10_back_59 rfl ?_
            refine gfX10_now (by first | assumption | rfl) flX10_7 dX10_back_60 ?_
            refine go_iconst dX10_back_63 ⟨by decide, by decide⟩ ?_
            refine go_iaload (by first | assumption | rfl) dX10_back_64 (by decide) (by decide) ?_
            rw [hset_ni (show (53 : Nat) ≠ 52 by decide), N9.2.2.2.2.1]
            refine go_ireturn dX10_back_65 rfl ?_
            have H9 := (MdS.now (v := v) H (h' := cpy h 53 0 55 (65 * 1) ((65 : Nat) : Int)) (fun i q => cpy_ni q) N9)
            obtain ⟨L, N, U, ⟨I, J⟩, Z⟩ := H9
            refine hQ _ ⟨L.congr (by simp (disch := decide) only [hset_eq, hset_nk, hset_ni]) (by simp (disch := decide) only [hset_eq, hset_nk, hset_ni]), by simp (disch := decide) only [hset_eq, hset_nk, hset_ni]; exact N, ⟨by rw [hset_eq]; rfl, fun j w hj => absurd hj (by simp)⟩, ⟨I.congr (by simp (disch := decide) only [hset_eq, hset_nk, hset_ni]) (by simp (disch := decide) only [hset_eq, hset_nk, hset_ni]), J.congr (by simp (disch := decide) only [hset_eq, hset_nk, hset_ni]) (by simp (disch := decide) only [hset_eq, hset_nk, hset_ni])⟩, by simp (disch := decide) only [hset_eq, hset_nk, hset_ni]; exact Z⟩ (fun i q => by rw [hset_ni (by omega), cpy_ni (by omega)])
        rw [cpy_0] at key
        exact key
  · refine go_iconst dX10_back_9 ⟨by decide, by decide⟩ ?_
    refine go_ireturn dX10_back_10 rfl ?_
    have q := if01 c6
    have e9 : sp_back k a = (-1, a) := by unfold sp_back; rw [if_neg (by omega), if_neg (by omega)]
    rw [e9] at hQ; exact hQ h H FrM.rf
