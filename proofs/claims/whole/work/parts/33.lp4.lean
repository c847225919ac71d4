/-! ===== LongestPast: firstLetterOutside, word, count, chance, escapes, likeliest ===== -/
/-- the place of the first that lies outside; -1: none -/
def fou (lo hi : Int) : List Int → Nat → Int
  | [], _ => -1
  | z :: l, k => if lo ≤ z ∧ z ≤ hi then fou lo hi l (k + 1) else k
theorem fou_bd {lo hi : Int} : ∀ (l : List Int) (k : Nat), (fou lo hi l k = -1 ∧ ∀ z ∈ l, lo ≤ z ∧ z ≤ hi) ∨ (0 ≤ fou lo hi l k ∧ fou lo hi l k < k + l.length)
  | [], k => Or.inl ⟨rfl, fun z hz => by cases hz⟩
  | z :: l, k => by
    rw [fou]
    by_cases q : lo ≤ z ∧ z ≤ hi
    · rw [if_pos q]
      rcases fou_bd l (k + 1) with ⟨h1, h2⟩ | h
      · exact Or.inl ⟨h1, fun y hy => by rcases List.mem_cons.mp hy with rfl | hy; exact q; exact h2 y hy⟩
      · exact Or.inr ⟨h.1, by rw [List.length_cons]; omega⟩
    · rw [if_neg q]
      exact Or.inr ⟨by omega, by rw [List.length_cons]; omega⟩
theorem drop_at {T : List Int} {n : Nat} (h : n < T.length) : T.drop n = T.getD n 0 :: T.drop (n + 1) := by
  rw [List.drop_eq_getElem_cons h, List.getD_eq_getElem?_getD, List.getElem?_eq_getElem h]; rfl

set_option maxHeartbeats 4000000 in
set_option maxRecDepth 100000 in
theorem lp_outside {x : mX} {h : mH} {Q : Int → mH → Prop} {lt : List Int} {f m : Int} (R : RowL h 1 lt) (hl : lt.length ≤ 200) (hf : 0 ≤ f) (hf2 : f ≤ 1000) (hm : 0 ≤ m) (hm2 : m ≤ 1000) (hQ : Q (fou f (f + m - 1) lt 0) h) : CtI x mtX9_firstLetterOutside [xR 0, xI f, xI m] h Q := by
  refine ct_go (ls := [xR 0, xI f, xI m, xU]) (by decide +kernel) (Nat.le_of_ble_eq_true rfl) rfl ?_
  refine go_iconst dX9_firstLetterOutside_0 ⟨by decide, by decide⟩ ?_
  refine go_istore_n 3 dX9_firstLetterOutside_1 rfl (Nat.le_of_ble_eq_true rfl) rfl (by dsimp only [List.set]) ?_
  have key : fou f (f + m - 1) (lt.drop 0) 0 = fou f (f + m - 1) lt 0 → Go x mtX9_firstLetterOutside 2 [xR 0, xI f, xI m, xI ((0 : Nat) : Int)] [] h (qI Q) := by
    refine up_indN (P := fun n => fou f (f + m - 1) (lt.drop n) n = fou f (f + m - 1) lt 0 → Go x mtX9_firstLetterOutside 2 [xR 0, xI f, xI m, xI (n : Int)] [] h (qI Q)) lt.length (fun n hn ih hR => ?_)
    by_cases hlt : n < lt.length
    · skip
      refine go_iload_n dX9_firstLetterOutside_2 rfl ?_
      refine go_aload_n dX9_firstLetterOutside_3 rfl ?_
      refine gfX9_letters rfl flX9_14 dX9_firstLetterOutside_4 ?_
      refine gfX6_size rfl flX9_66 dX9_firstLetterOutside_7 ?_
      refine go_icmp_ge_f (tgt := 41) dX9_firstLetterOutside_10 (by decide) (by rw [R.1]; omega) ?_
      refine go_aload_n dX9_firstLetterOutside_13 rfl ?_
      refine gfX9_letters rfl flX9_14 dX9_firstLetterOutside_14 ?_
      refine go_iload_n dX9_firstLetterOutside_17 rfl ?_
      refine go_cV1I rfl vlX9_106 dX9_firstLetterOutside_18 (by decide) rfl rfl (by decide) (Nat.le_of_ble_eq_true rfl) (row_atL row1 (bs := lt) R hl ?_)
      rw [srF_nat hlt]
      refine go_iload_n dX9_firstLetterOutside_21 rfl ?_
      refine go_iload_n dX9_firstLetterOutside_22 rfl ?_
      refine go_iload_n dX9_firstLetterOutside_23 rfl ?_
      refine go_iadd dX9_firstLetterOutside_24 (by omega) (by omega) ?_
      refine go_iconst dX9_firstLetterOutside_25 ⟨by decide, by decide⟩ ?_
      refine go_isub dX9_firstLetterOutside_26 (by omega) (by omega) ?_
      refine go_cS3I slX9_73 dX9_firstLetterOutside_27 (by decide) (Nat.le_of_ble_eq_true rfl) (lp_isWithin ?_)
      refine go_if_ne (tgt := 35) dX9_firstLetterOutside_30 (by decide) (fun c30 => ?_) (fun c30 => ?_)
      · refine go_iinc dX9_firstLetterOutside_35 rfl rfl rfl (by omega) (by omega) (by dsimp only [List.set]) ?_
        refine go_goto (tgt := 2) dX9_firstLetterOutside_38 (by decide) ?_
        have q := if10 c30
        exact ih hlt (by rw [drop_at hlt, fou, if_pos (by omega)] at hR; exact hR)
      · refine go_iload_n dX9_firstLetterOutside_33 rfl ?_
        refine go_ireturn dX9_firstLetterOutside_34 rfl ?_
        have q := if01 c30
        rw [drop_at hlt, fou, if_neg (by omega)] at hR
        rw [hR]; exact hQ
    · have hne : n = lt.length := by omega
      subst hne
      refine go_iload_n dX9_firstLetterOutside_2 rfl ?_
      refine go_aload_n dX9_firstLetterOutside_3 rfl ?_
      refine gfX9_letters rfl flX9_14 dX9_firstLetterOutside_4 ?_
      refine gfX6_size rfl flX9_66 dX9_firstLetterOutside_7 ?_
      refine go_icmp_ge_t (tgt := 41) dX9_firstLetterOutside_10 (by decide) (by rw [R.1]; omega) ?_
      refine go_iconst dX9_firstLetterOutside_41 ⟨by decide, by decide⟩ ?_
      refine go_ireturn dX9_firstLetterOutside_42 rfl ?_
      rw [List.drop_length, fou] at hR
      rw [hR]; exact hQ
  exact key rfl

def sp_word (a : Ab) : Int × Ab := if 0 ≤ fou 97 100 a.1 0 then (-10 - fou 97 100 a.1 0, a) else if 60 < a.2.1.2.2.2.2.length + a.1.length then (-3, a) else ((a.1.length : Int), ([], (a.2.1.1, a.2.1.2.1, a.2.1.2.2.1, a.2.1.2.2.2.1, a.2.1.2.2.2.2 ++ a.1.map (fun z => z - 97)), push a, a.2.2.2))
theorem take_succ_map {T lt : List Int} {n : Nat} (h : n < lt.length) : T ++ (lt.take (n + 1)).map (fun z => z - 97) = (T ++ (lt.take n).map (fun z => z - 97)) ++ [lt.getD n 0 - 97] := by
  rw [List.take_succ, List.getElem?_eq_getElem h, List.map_append, List.append_assoc, List.getD_eq_getElem?_getD, List.getElem?_eq_getElem h]; rfl

theorem txOk_word {T lt : List Int} (hT : TxOk T) (hall : ∀ z ∈ lt, 97 ≤ z ∧ z ≤ 100) (hl : T.length + lt.length ≤ 60) : ∀ n : Nat, TxOk (T ++ (lt.take n).map (fun z => z - 97)) := by
  intro n
  refine ⟨by rw [List.length_append, List.length_map, List.length_take]; omega, fun k hk => ?_⟩
  by_cases e : k < T.length
  · rw [List.getD_eq_getElem?_getD, List.getElem?_append_left e, ← List.getD_eq_getElem?_getD]; exact hT.2 k e
  · rw [List.getD_eq_getElem?_getD, List.getElem?_append_right (by omega)]
    have hk2 : k - T.length < ((lt.take n).map (fun z => z - 97)).length := by rw [List.length_append] at hk; omega
    rw [List.getElem?_eq_getElem hk2, List.getElem_map]
    have hk3 : k - T.length < (lt.take n).length := by rw [List.length_map] at hk2; exact hk2
    have := hall _ (List.mem_of_mem_take (List.getElem_mem hk3))
    show 0 ≤ (lt.take n)[k - T.length] - 97 ∧ (lt.take n)[k - T.length] - 97 ≤ 3
    omega

set_option maxHeartbeats 4000000 in
set_option maxRecDepth 100000 in
theorem lp_word {x : mX} {h : mH} {Q : Int → mH → Prop} {a : Ab} (H : LpS h a) (ok : AbOk a) (hQ : ∀ h', LpS h' (sp_word a).2 → FrL h h' → Q (sp_word a).1 h') : CtI x mtX9_word [xR 0] h Q := by
  obtain ⟨R, P, Z, ⟨nx, D⟩, E, F⟩ := id H
  have hl := ok.2.1.2.1
  have hl2 := ok.1.1
  have hfo := fou_bd (lo := 97) (hi := 100) a.1 0
  refine ct_go (ls := [xR 0, xU, xU, xU]) (by decide +kernel) (Nat.le_of_ble_eq_true rfl) rfl ?_
  refine go_aload_n dX9_word_0 rfl ?_
  refine go_bipush dX9_word_1 (by decide +kernel) ⟨by decide, by decide⟩ ?_
  refine go_iconst dX9_word_3 ⟨by decide, by decide⟩ ?_
  refine go_cV2I rfl vlX9_102 dX9_word_4 (by decide) rfl rfl (by decide) (Nat.le_of_ble_eq_true rfl) (lp_outside R ok.1.1 (by decide) (by decide) (by decide) (by decide) ?_)
  rw [show (97 : Int) + 4 - 1 = 100 from rfl]
  refine go_istore_n 1 dX9_word_7 rfl (Nat.le_of_ble_eq_true rfl) rfl (by dsimp only [List.set]) ?_
  refine go_iload_n dX9_word_8 rfl ?_
  refine go_if_lt (tgt := 17) dX9_word_9 (by decide) (fun c9 => ?_) (fun c9 => ?_)
  · refine go_aload_n dX9_word_17 rfl ?_
    refine gfX9_letters rfl flX9_14 dX9_word_18 ?_
    refine gfX6_size rfl flX9_66 dX9_word_21 ?_
    rw [R.1]
    refine go_istore_n 2 dX9_word_24 rfl (Nat.le_of_ble_eq_true rfl) rfl (by dsimp only [List.set]) ?_
    refine go_aload_n dX9_word_25 rfl ?_
    refine gfX9_now rfl flX9_21 dX9_word_26 ?_
    refine gfX3_past rfl flX9_77 dX9_word_29 ?_
    refine gfX4_signs rfl flX9_80 dX9_word_32 ?_
    refine gfX6_size rfl flX9_66 dX9_word_35 ?_
    rw [P.2.1.1]
    refine go_iload_n dX9_word_38 rfl ?_
    refine go_iadd dX9_word_39 (by omega) (by omega) ?_
    refine go_bipush dX9_word_40 (by decide +kernel) ⟨by decide, by decide⟩ ?_
    refine go_icmp_le (tgt := 48) dX9_word_42 (by decide) (fun c42 => ?_) (fun c42 => ?_)
    · refine go_aload_n dX9_word_48 rfl ?_
      refine gfX9_history rfl flX9_38 dX9_word_49 ?_
      refine go_aload_n dX9_word_52 rfl ?_
      refine gfX9_now rfl flX9_21 dX9_word_53 ?_
      refine gfX3_past rfl flX9_77 dX9_word_56 ?_
      refine go_cV1V rfl vlX9_83 dX9_word_59 (by decide) rfl rfl (by decide) (Nat.le_of_ble_eq_true rfl) (hi_remembers (v := a.2.1) pk3.2.1 (by decide) (PkV.past P) hl D ?_)
      intro h1 nx1 D1 F1
      refine go_iconst dX9_word_62 ⟨by decide, by decide⟩ ?_
      refine go_istore_n 3 dX9_word_63 rfl (Nat.le_of_ble_eq_true rfl) rfl (by dsimp only [List.set]) ?_
      have hall : ∀ z ∈ a.1, 97 ≤ z ∧ z ≤ 100 := by rcases hfo with q | q; exact q.2; omega
      refine up_indN (P := fun n => ∀ hh : mH, PkV hh 3 (a.2.1.1, a.2.1.2.1, a.2.1.2.2.1, a.2.1.2.2.2.1, a.2.1.2.2.2.2 ++ (a.1.take n).map (fun z => z - 97)) → (∀ i, i < 3 ∨ (14 ≤ i ∧ i < 26) ∨ 46 ≤ i → hh i = h i) → HiS hh nx1 ((a.2.1 :: a.2.2.1).take 6) → (∀ i, 26 ≤ i → i < 46 → hh i = h1 i) → Go x mtX9_word 64 [xR 0, xI (fou 97 100 a.1 0), xI (a.1.length : Int), xI (n : Int)] [] hh (qI Q)) a.1.length (fun n hn ih hh PP FF D2 FI => ?_) h1 (by rw [List.take_zero, List.map_nil, List.append_nil]; exact P.congr (fun i q1 q2 => F1 i (by omega) trivial)) (fun i q => F1 i (by omega) trivial) D1 (fun _ _ _ => rfl)
      have hlT : (a.2.1.2.2.2.2 ++ (a.1.take n).map (fun z => z - 97)).length = a.2.1.2.2.2.2.length + n := by rw [List.length_append, List.length_map, List.length_take]; omega
      have hTn : TxOk (a.2.1.2.2.2.2 ++ (a.1.take n).map (fun z => z - 97)) := txOk_word ok.2.1.2 hall (by omega) n
      generalize hTe : a.2.1.2.2.2.2 ++ (a.1.take n).map (fun z => z - 97) = Tn at *
      by_cases hlt : n < a.1.length
      · have hz := hall (a.1.getD n 0) (by rw [List.getD_eq_getElem?_getD, List.getElem?_eq_getElem hlt]; exact List.getElem_mem hlt)
        refine go_iload_n dX9_word_64 rfl ?_
        refine go_iload_n dX9_word_65 rfl ?_
        refine go_icmp_ge_f (tgt := 107) dX9_word_66 (by decide) (by omega) ?_
        refine go_aload_n dX9_word_69 rfl ?_
        refine gfX9_now rfl flX9_21 dX9_word_70 ?_
        refine gfX3_past rfl flX9_77 dX9_word_73 ?_
        refine gfX4_signs rfl flX9_80 dX9_word_76 ?_
        refine go_aload_n dX9_word_79 rfl ?_
        refine gfX9_letters rfl flX9_14 dX9_word_80 ?_
        refine go_iload_n dX9_word_83 rfl ?_
        refine go_cV1I rfl vlX9_106 dX9_word_84 (by decide) rfl rfl (by decide) (Nat.le_of_ble_eq_true rfl) (row_atL row1 (bs := a.1) (R.congr (FF 1 (by omega)) (FF 2 (by omega))) ok.1.1 ?_)
        rw [srF_nat hlt]
        refine go_bipush dX9_word_87 (by decide +kernel) ⟨by decide, by decide⟩ ?_
        refine go_isub dX9_word_89 (by omega) (by omega) ?_
        refine go_cV1V rfl vlX9_63 dX9_word_90 (by decide) rfl rfl (by decide) (Nat.le_of_ble_eq_true rfl) (row_putsL (N := 60) (bs := Tn) pk3.2.1.2 PP.2.1 (by omega) ?_)
        intro h2 R2 F2
        have P2 := PkS.put ok.2.1.1.1 ok.2.1.1.2.2.2.2.2.2.1 PP R2 F2
        refine go_aload_n dX9_word_93 rfl ?_
        refine gfX9_now rfl flX9_21 dX9_word_94 ?_
        refine go_cV0I rfl vlX9_98 dX9_word_97 (by decide) rfl rfl (by decide) (Nat.le_of_ble_eq_true rfl) (pk_packsNext pk3 ok.2.1.1 (txOk_app hTn (by omega) (by omega) (by omega)) (by simp) P2 ?_)
        intro h3 P3 F3
        refine go_popI dX9_word_100 ?_
        refine go_iinc dX9_word_101 rfl rfl rfl (by omega) (by omega) (by dsimp only [List.set]) ?_
        refine go_goto (tgt := 64) dX9_word_104 (by decide) ?_
        refine ih hlt h3 ?_ (fun i q => by rw [F3 i (by omega), F2 i (by omega) (by omega), FF i q]) (D1.congr (fun i q1 q2 => by rw [F3 i (by omega), F2 i (by omega) (by omega), FI i q1 q2])) (fun i q1 q2 => by rw [F3 i (by omega), F2 i (by omega) (by omega), FI i q1 q2])
        rw [take_succ_map hlt, hTe]
        show PkS h3 3 _ _ _ _ (Tn ++ [a.1.getD n 0 - 97]) (Tn ++ [a.1.getD n 0 - 97]).length
        rw [List.length_append, List.length_singleton]
        exact P3
      · have hne : n = a.1.length := by omega
        subst hne
        refine go_iload_n dX9_word_64 rfl ?_
        refine go_iload_n dX9_word_65 rfl ?_
        refine go_icmp_ge_t (tgt := 107) dX9_word_66 (by decide) (by omega) ?_
        refine go_aload_n dX9_word_107 rfl ?_
        refine gfX9_letters rfl flX9_14 dX9_word_108 ?_
        refine go_iconst dX9_word_111 ⟨by decide, by decide⟩ ?_
        refine go_cV1V rfl vlX9_70 dX9_word_112 (by decide) rfl rfl (by decide) (Nat.le_of_ble_eq_true rfl) (row_shortens row1 (Int.le_refl 0) (by rw [FF 1 (by omega), R.1]; omega) ?_)
        refine go_iload_n dX9_word_115 rfl ?_
        refine go_ireturn dX9_word_116 rfl ?_
        have e9 : sp_word a = ((a.1.length : Int), ([], (a.2.1.1, a.2.1.2.1, a.2.1.2.2.1, a.2.1.2.2.2.1, a.2.1.2.2.2.2 ++ a.1.map (fun z => z - 97)), push a, a.2.2.2)) := by unfold sp_word; rw [if_neg (by omega), if_neg (by omega)]
        rw [e9] at hQ
        rw [List.take_length] at hTe
        have nF : ∀ i, i ≠ 1 → i < 3 ∨ (14 ≤ i ∧ i < 26) ∨ 46 ≤ i → hset hh 1 1 0 i = h i := fun i q0 q => by rw [hset_ni q0, FF i q]
        refine hQ _ ⟨⟨hset_eq _ _ _ _, fun k hk => absurd hk (by simp)⟩, ?_, Z.congr (fun i q1 q2 => nF i (by omega) (by omega)), ⟨nx1, D2.congr (fun i q1 q2 => hset_ni (by omega))⟩, E.congr (by rw [nF 0 (by decide) (by decide)]) (fun i q1 q2 => nF i (by omega) (by omega)), F.congr (by rw [nF 0 (by decide) (by decide)]) (fun i q1 q2 => nF i (by omega) (by omega))⟩ (fun i q => nF i (by omega) (by omega))
        show PkV (hset hh 1 1 0) 3 (a.2.1.1, a.2.1.2.1, a.2.1.2.2.1, a.2.1.2.2.2.1, a.2.1.2.2.2.2 ++ a.1.map (fun z => z - 97))
        rw [hTe]
        exact PP.congr (fun i q1 q2 => hset_ni (by omega))
    · refine go_bipush dX9_word_45 (by decide +kernel) ⟨by decide, by decide⟩ ?_
      refine go_ireturn dX9_word_47 rfl ?_
      have e9 : sp_word a = (-3, a) := by unfold sp_word; rw [if_neg (by omega), if_pos (by omega)]
      rw [e9] at hQ; exact hQ h H (fun _ _ => rfl)
  · refine go_bipush dX9_word_12 (by decide +kernel) ⟨by decide, by decide⟩ ?_
    refine go_iload_n dX9_word_14 rfl ?_
    refine go_isub dX9_word_15 (by omega) (by omega) ?_
    refine go_ireturn dX9_word_16 rfl ?_
    have e9 : sp_word a = (-10 - fou 97 100 a.1 0, a) := by unfold sp_word; rw [if_pos c9]
    rw [e9] at hQ; exact hQ h H (fun _ _ => rfl)
