/-! ===== LongestPast: packs, cuts, back, word ===== -/
theorem PkS.put {h h' : mH} {b : Nat} {o l r t s : Int} {T : List Int} (ho : 0 ≤ o) (ht : 0 ≤ t) (H : PkS h b o l r t T T.length) (R' : RowL h' (b + 1 + 1) (T ++ [s])) (F : FrR h h' (b + 1 + 1)) : PkS h' b o l r t (T ++ [s]) T.length := by
  obtain ⟨hPa, hR, e4, hC, e5, hG⟩ := H
  have ec : pck o l r t (T ++ [s]) T.length = pck o l r t T T.length := pck_congr ho ht _ (by simp) (Nat.le_refl _) (fun k hk => by rw [List.getD_eq_getElem?_getD, List.getD_eq_getElem?_getD, List.getElem?_append_left hk])
  unfold PkS
  rw [ec]
  have e6 := F (b + 6) (by omega) (by omega)
  refine ⟨by unfold PaS; rw [F _ (by omega) (by omega)]; exact hPa, R', by rw [F _ (by omega) (by omega)]; exact e4, ⟨by rw [F _ (by omega) (by omega)]; exact hC.1, by rw [F _ (by omega) (by omega)]; exact hC.2⟩, by rw [F _ (by omega) (by omega)]; exact e5, ⟨by rw [e6]; exact hG.1, by rw [e6]; exact hG.2.1, by rw [e6]; exact hG.2.2.1, by rw [e6]; exact hG.2.2.2.1, hG.2.2.2.2.congr (F _ (by omega) (by omega)) (F _ (by omega) (by omega))⟩⟩
def sp_packs (s : Int) (a : Ab) : Int × Ab := if ¬ (0 ≤ s ∧ s ≤ 3) then (-5, a) else if 60 ≤ a.2.1.2.2.2.2.length then (-6, a) else ((pdn a.2.1.1 (a.2.1.2.2.2.2 ++ [s]) a.2.1.2.2.2.2.length (pck a.2.1.1 a.2.1.2.1 a.2.1.2.2.1 a.2.1.2.2.2.1 (a.2.1.2.2.2.2 ++ [s]) a.2.1.2.2.2.2.length)).1, (a.1, (a.2.1.1, a.2.1.2.1, a.2.1.2.2.1, a.2.1.2.2.2.1, a.2.1.2.2.2.2 ++ [s]), push a, a.2.2.2))

set_option maxHeartbeats 4000000 in
set_option maxRecDepth 100000 in
theorem lp_packs {x : mX} {h : mH} {Q : Int → mH → Prop} {s : Int} {a : Ab} (H : LpS h a) (ok : AbOk a) (hQ : ∀ h', LpS h' (sp_packs s a).2 → FrL h h' → Q (sp_packs s a).1 h') : CtI x mtX9_packs [xR 0, xI s] h Q := by
  obtain ⟨R, P, Z, ⟨nx, D⟩, E, F⟩ := id H
  have hl := ok.2.1.2.1
  refine ct_go (ls := [xR 0, xI s]) (by decide +kernel) (Nat.le_of_ble_eq_true rfl) rfl ?_
  refine go_iload_n dX9_packs_0 rfl ?_
  refine go_cS1I slX9_94 dX9_packs_1 (by decide) (Nat.le_of_ble_eq_true rfl) (lp_isSign ?_)
  refine go_if_ne (tgt := 10) dX9_packs_4 (by decide) (fun c4 => ?_) (fun c4 => ?_)
  · refine go_aload_n dX9_packs_10 rfl ?_
    refine gfX9_now rfl flX9_21 dX9_packs_11 ?_
    refine gfX3_past rfl flX9_77 dX9_packs_14 ?_
    refine gfX4_signs rfl flX9_80 dX9_packs_17 ?_
    refine go_cV0I rfl vlX9_59 dX9_packs_20 (by decide) rfl rfl (by decide) (Nat.le_of_ble_eq_true rfl) (row_isFull pk3.2.1.2 ?_)
    rw [P.2.1.1]
    refine go_if_eq (tgt := 29) dX9_packs_23 (by decide) (fun c23 => ?_) (fun c23 => ?_)
    · have hlt : a.2.1.2.2.2.2.length < 60 := by rcases Nat.lt_or_ge a.2.1.2.2.2.2.length 60 with q | q; exact q; (rw [if_neg (by omega)] at c23; exact absurd c23 (by decide))
      have hs := if10 c4
      refine go_aload_n dX9_packs_29 rfl ?_
      refine gfX9_history rfl flX9_38 dX9_packs_30 ?_
      refine go_aload_n dX9_packs_33 rfl ?_
      refine gfX9_now rfl flX9_21 dX9_packs_34 ?_
      refine gfX3_past rfl flX9_77 dX9_packs_37 ?_
      refine go_cV1V rfl vlX9_83 dX9_packs_40 (by decide) rfl rfl (by decide) (Nat.le_of_ble_eq_true rfl) (hi_remembers (v := a.2.1) pk3.2.1 (by decide) (PkV.past P) hl D ?_)
      intro h1 nx1 D1 F1
      have P1 := P.congr (fun i q1 q2 => F1 i (by omega) trivial)
      refine go_aload_n dX9_packs_43 rfl ?_
      refine gfX9_now rfl flX9_21 dX9_packs_44 ?_
      refine gfX3_past rfl flX9_77 dX9_packs_47 ?_
      refine gfX4_signs rfl flX9_80 dX9_packs_50 ?_
      refine go_iload_n dX9_packs_53 rfl ?_
      refine go_cV1V rfl vlX9_63 dX9_packs_54 (by decide) rfl rfl (by decide) (Nat.le_of_ble_eq_true rfl) (row_putsL (N := 60) (bs := a.2.1.2.2.2.2) pk3.2.1.2 P1.2.1 hlt ?_)
      intro h2 R2 F2
      have P2 := PkS.put ok.2.1.1.1 ok.2.1.1.2.2.2.2.2.2.1 P1 R2 F2
      refine go_aload_n dX9_packs_57 rfl ?_
      refine gfX9_now rfl flX9_21 dX9_packs_58 ?_
      refine go_cV0I rfl vlX9_98 dX9_packs_61 (by decide) rfl rfl (by decide) (Nat.le_of_ble_eq_true rfl) (pk_packsNext pk3 ok.2.1.1 (txOk_app ok.2.1.2 hlt hs.1 hs.2) (by simp) P2 ?_)
      intro h3 P3 F3
      refine go_ireturn dX9_packs_64 rfl ?_
      unfold sp_packs at hQ
      rw [if_neg (fun q => q hs), if_neg (by omega)] at hQ
      have nF : ∀ i, i < 3 ∨ (14 ≤ i ∧ i < 26) ∨ 46 ≤ i → h3 i = h i := fun i q => by rw [F3 i (by omega), F2 i (by omega) (by omega), F1 i (by omega) trivial]
      refine hQ h3 ⟨R.congr (nF _ (by decide)) (nF _ (by decide)), ?_, Z.congr (fun i q1 q2 => nF i (by omega)), ⟨nx1, D1.congr (fun i q1 q2 => by rw [F3 i (by omega), F2 i (by omega) (by omega)])⟩, E.congr (by rw [nF 0 (by decide)]) (fun i q1 q2 => nF i (by omega)), F.congr (by rw [nF 0 (by decide)]) (fun i q1 q2 => nF i (by omega))⟩ (fun i q => nF i (by omega))
      show PkS h3 3 a.2.1.1 a.2.1.2.1 a.2.1.2.2.1 a.2.1.2.2.2.1 (a.2.1.2.2.2.2 ++ [s]) (a.2.1.2.2.2.2 ++ [s]).length
      rw [List.length_append, List.length_singleton]
      exact P3
    · refine go_bipush dX9_packs_26 (by decide +kernel) ⟨by decide, by decide⟩ ?_
      refine go_ireturn dX9_packs_28 rfl ?_
      have hs := if10 c4
      have hfull : 60 ≤ a.2.1.2.2.2.2.length := by rcases Nat.lt_or_ge a.2.1.2.2.2.2.length 60 with q | q; (rw [if_pos (by omega)] at c23; exact absurd rfl c23); exact q
      have e9 : sp_packs s a = (-6, a) := by unfold sp_packs; rw [if_neg (fun q => q hs), if_pos hfull]
      rw [e9] at hQ; exact hQ h H (fun _ _ => rfl)
  · refine go_bipush dX9_packs_7 (by decide +kernel) ⟨by decide, by decide⟩ ?_
    refine go_ireturn dX9_packs_9 rfl ?_
    have q := if01 c4
    have e9 : sp_packs s a = (-5, a) := by unfold sp_packs; rw [if_pos q]
    rw [e9] at hQ; exact hQ h H (fun _ _ => rfl)

theorem rowL_take {h : mH} {r : Nat} {T : List Int} {v : Nat} (H : RowL h r T) (hv : v ≤ T.length) : RowL (hset h r 1 (v : Int)) r (T.take v) := by
  refine ⟨by rw [hset_eq, List.length_take]; omega, fun k hk => ?_⟩
  rw [List.length_take] at hk
  rw [hset_ni (by omega), H.2 k (by omega), List.getD_eq_getElem?_getD, List.getD_eq_getElem?_getD, List.getElem?_take, if_pos (by omega)]
theorem txOk_take {T : List Int} (h : TxOk T) (v : Nat) : TxOk (T.take v) := by
  refine ⟨by rw [List.length_take]; have := h.1; omega, fun k hk => ?_⟩
  rw [List.length_take] at hk
  have := h.2 k (by omega)
  rw [List.getD_eq_getElem?_getD, List.getElem?_take, if_pos (by omega), ← List.getD_eq_getElem?_getD]
  exact this
def sp_cuts (n : Int) (a : Ab) : Int × Ab := if n < 1 then (-1, a) else if (a.2.1.2.2.2.2.length : Int) < n then (-2, a) else ((a.2.1.2.2.2.2.length : Int) - n, (a.1, (a.2.1.1, a.2.1.2.1, a.2.1.2.2.1, a.2.1.2.2.2.1, a.2.1.2.2.2.2.take ((a.2.1.2.2.2.2.length : Int) - n).toNat), push a, a.2.2.2))

set_option maxHeartbeats 4000000 in
set_option maxRecDepth 100000 in
theorem lp_cuts {x : mX} {h : mH} {Q : Int → mH → Prop} {n : Int} {a : Ab} (H : LpS h a) (ok : AbOk a) (hQ : ∀ h', LpS h' (sp_cuts n a).2 → FrL h h' → Q (sp_cuts n a).1 h') : CtI x mtX9_cuts [xR 0, xI n] h Q := by
  obtain ⟨R, P, Z, ⟨nx, D⟩, E, F⟩ := id H
  have hl := ok.2.1.2.1
  refine ct_go (ls := [xR 0, xI n]) (by decide +kernel) (Nat.le_of_ble_eq_true rfl) rfl ?_
  refine go_iload_n dX9_cuts_0 rfl ?_
  refine go_iconst dX9_cuts_1 ⟨by decide, by decide⟩ ?_
  refine go_icmp_ge (tgt := 7) dX9_cuts_2 (by decide) (fun c2 => ?_) (fun c2 => ?_)
  · refine go_iload_n dX9_cuts_7 rfl ?_
    refine go_aload_n dX9_cuts_8 rfl ?_
    refine gfX9_now rfl flX9_21 dX9_cuts_9 ?_
    refine gfX3_past rfl flX9_77 dX9_cuts_12 ?_
    refine gfX4_signs rfl flX9_80 dX9_cuts_15 ?_
    refine gfX6_size rfl flX9_66 dX9_cuts_18 ?_
    rw [P.2.1.1]
    refine go_icmp_le (tgt := 27) dX9_cuts_21 (by decide) (fun c21 => ?_) (fun c21 => ?_)
    · refine go_aload_n dX9_cuts_27 rfl ?_
      refine gfX9_history rfl flX9_38 dX9_cuts_28 ?_
      refine go_aload_n dX9_cuts_31 rfl ?_
      refine gfX9_now rfl flX9_21 dX9_cuts_32 ?_
      refine gfX3_past rfl flX9_77 dX9_cuts_35 ?_
      refine go_cV1V rfl vlX9_83 dX9_cuts_38 (by decide) rfl rfl (by decide) (Nat.le_of_ble_eq_true rfl) (hi_remembers (v := a.2.1) pk3.2.1 (by decide) (PkV.past P) hl D ?_)
      intro h1 nx1 D1 F1
      have P1 := P.congr (fun i q1 q2 => F1 i (by omega) trivial)
      refine go_aload_n dX9_cuts_41 rfl ?_
      refine gfX9_now rfl flX9_21 dX9_cuts_42 ?_
      refine gfX3_past rfl flX9_77 dX9_cuts_45 ?_
      refine gfX4_signs rfl flX9_80 dX9_cuts_48 ?_
      refine go_aload_n dX9_cuts_51 rfl ?_
      refine gfX9_now rfl flX9_21 dX9_cuts_52 ?_
      refine gfX3_past rfl flX9_77 dX9_cuts_55 ?_
      refine gfX4_signs rfl flX9_80 dX9_cuts_58 ?_
      refine gfX6_size rfl flX9_66 dX9_cuts_61 ?_
      rw [P1.2.1.1]
      refine go_iload_n dX9_cuts_64 rfl ?_
      refine go_isub dX9_cuts_65 (by omega) (by omega) ?_
      refine go_cV1V rfl vlX9_70 dX9_cuts_66 (by decide) rfl rfl (by decide) (Nat.le_of_ble_eq_true rfl) (row_shortens pk3.2.1.2 (by omega) (by rw [P1.2.1.1]; omega) ?_)
      obtain ⟨m, hm⟩ : ∃ m : Nat, (a.2.1.2.2.2.2.length : Int) - n = m := ⟨((a.2.1.2.2.2.2.length : Int) - n).toNat, by omega⟩
      rw [hm]
      have R2 := rowL_take (v := m) P1.2.1 (by omega)
      have F2 : ∀ i, i ≠ 5 → hset h1 (3 + 1 + 1) 1 (m : Int) i = h1 i := fun i q => hset_ni q
      generalize hset h1 (3 + 1 + 1) 1 (m : Int) = h2 at R2 F2
      refine go_aload_n dX9_cuts_69 rfl ?_
      refine gfX9_now rfl flX9_21 dX9_cuts_70 ?_
      refine go_cV0V rfl vlX9_91 dX9_cuts_73 (by decide) rfl rfl (by decide) (Nat.le_of_ble_eq_true rfl) (now_repack (v := (a.2.1.1, a.2.1.2.1, a.2.1.2.2.1, a.2.1.2.2.2.1, a.2.1.2.2.2.2.take m)) ⟨ok.2.1.1, txOk_take ok.2.1.2 m⟩ ⟨by unfold PaS; rw [F2 _ (by decide)]; exact P1.1, R2⟩ ⟨fun k hk => ?_, ?_, ?_⟩ ?_)
      · rw [F2 _ (by decide), F1 _ (by decide) trivial]; exact (PkS.z ok.2.1.1 ok.2.1.2 (Nat.le_refl _) P).1 k hk
      · rw [F2 _ (by decide), F1 _ (by decide) trivial]; exact (PkS.z ok.2.1.1 ok.2.1.2 (Nat.le_refl _) P).2.1
      · rw [R2.1]; omega
      intro h3 P3 F3
      refine go_aload_n dX9_cuts_76 rfl ?_
      refine gfX9_now rfl flX9_21 dX9_cuts_77 ?_
      refine gfX3_past rfl flX9_77 dX9_cuts_80 ?_
      refine gfX4_signs rfl flX9_80 dX9_cuts_83 ?_
      refine gfX6_size rfl flX9_66 dX9_cuts_86 ?_
      rw [P3.2.1.1]
      refine go_ireturn dX9_cuts_89 rfl ?_
      have e9 : sp_cuts n a = ((m : Int), (a.1, (a.2.1.1, a.2.1.2.1, a.2.1.2.2.1, a.2.1.2.2.2.1, a.2.1.2.2.2.2.take m), push a, a.2.2.2)) := by unfold sp_cuts; rw [if_neg (by omega), if_neg (by omega), hm, Int.toNat_natCast]
      rw [e9] at hQ
      have nF : ∀ i, i < 3 ∨ (14 ≤ i ∧ i < 26) ∨ 46 ≤ i → h3 i = h i := fun i q => by rw [F3 i (by omega), F2 i (by omega), F1 i (by omega) trivial]
      have el : ((List.take m a.2.1.2.2.2.2).length : Int) = (m : Int) := by rw [List.length_take]; omega
      show Q ((List.take m a.2.1.2.2.2.2).length : Int) h3
      rw [el]
      exact hQ h3 ⟨R.congr (nF _ (by decide)) (nF _ (by decide)), P3, Z.congr (fun i q1 q2 => nF i (by omega)), ⟨nx1, D1.congr (fun i q1 q2 => by rw [F3 i (by omega), F2 i (by omega)])⟩, E.congr (by rw [nF 0 (by decide)]) (fun i q1 q2 => nF i (by omega)), F.congr (by rw [nF 0 (by decide)]) (fun i q1 q2 => nF i (by omega))⟩ (fun i q => nF i (by omega))
    · refine go_bipush dX9_cuts_24 (by decide +kernel) ⟨by decide, by decide⟩ ?_
      refine go_ireturn dX9_cuts_26 rfl ?_
      have e9 : sp_cuts n a = (-2, a) := by unfold sp_cuts; rw [if_neg (by omega), if_pos (by omega)]
      rw [e9] at hQ; exact hQ h H (fun _ _ => rfl)
  · refine go_iconst dX9_cuts_5 ⟨by decide, by decide⟩ ?_
    refine go_ireturn dX9_cuts_6 rfl ?_
    have e9 : sp_cuts n a = (-1, a) := by unfold sp_cuts; rw [if_pos (by omega)]
    rw [e9] at hQ; exact hQ h H (fun _ _ => rfl)

def sp_back (k : Int) (a : Ab) : Int × Ab := if k = 0 then (match a.2.2.2.1 with | none => (-2, a) | some v => ((v.2.2.2.2.length : Int), (a.1, v, [], a.2.2.2))) else if k = 1 then (match a.2.2.2.2 with | none => (-2, a) | some v => ((v.2.2.2.2.length : Int), (a.1, v, [], a.2.2.2))) else (-1, a)

set_option maxHeartbeats 4000000 in
set_option maxRecDepth 100000 in
theorem lp_back {x : mX} {h : mH} {Q : Int → mH → Prop} {k : Int} {a : Ab} (H : LpS h a) (ok : AbOk a) (hQ : ∀ h', LpS h' (sp_back k a).2 → FrL h h' → Q (sp_back k a).1 h') : CtI x mtX9_back [xR 0, xI k] h Q := by
  obtain ⟨R, P, Z, ⟨nx, D⟩, E, F⟩ := id H
  refine ct_go (ls := [xR 0, xI k]) (by decide +kernel) (Nat.le_of_ble_eq_true rfl) rfl ?_
  obtain ⟨lt, v0, hs, im0, im1⟩ := a
  dsimp only at R P Z D E F
  by_cases k0 : k = 0
  · subst k0
    cases im0 with
    | none =>
      dsimp only [sp_back] at hQ
      rw [if_pos rfl] at hQ
      refine go_iload_n dX9_back_0 rfl ?_
      refine go_iconst dX9_back_1 ⟨by decide, by decide⟩ ?_
      refine go_iconst dX9_back_2 ⟨by decide, by decide⟩ ?_
      refine go_cS3I slX9_73 dX9_back_3 (by decide) (Nat.le_of_ble_eq_true rfl) (lp_isWithin ?_)
      rw [if_pos (by decide)]
      refine go_if_ne_t (tgt := 11) dX9_back_6 (by decide) (by decide) ?_
      refine go_iload_n dX9_back_11 rfl ?_
      refine go_if_ne_f (tgt := 25) dX9_back_12 (by decide) (rfl) ?_
      refine go_aload_n dX9_back_15 rfl ?_
      refine gfX9_firstKept rfl flX9_52 dX9_back_16 ?_
      refine go_if_ne_f (tgt := 35) dX9_back_19 (by decide) (E.1) ?_
      refine go_goto (tgt := 32) dX9_back_22 (by decide) ?_
      refine go_bipush dX9_back_32 (by decide +kernel) ⟨by decide, by decide⟩ ?_
      refine go_ireturn dX9_back_34 rfl ?_
      exact hQ h H (fun _ _ => rfl)
    | some v =>
      have hv : PvOk v := ok.2.2.2.1 v rfl
      dsimp only [sp_back] at hQ
      rw [if_pos rfl] at hQ
      refine go_iload_n dX9_back_0 rfl ?_
      refine go_iconst dX9_back_1 ⟨by decide, by decide⟩ ?_
      refine go_iconst dX9_back_2 ⟨by decide, by decide⟩ ?_
      refine go_cS3I slX9_73 dX9_back_3 (by decide) (Nat.le_of_ble_eq_true rfl) (lp_isWithin ?_)
      rw [if_pos (by decide)]
      refine go_if_ne_t (tgt := 11) dX9_back_6 (by decide) (by decide) ?_
      refine go_iload_n dX9_back_11 rfl ?_
      refine go_if_ne_f (tgt := 25) dX9_back_12 (by decide) (rfl) ?_
      refine go_aload_n dX9_back_15 rfl ?_
      refine gfX9_firstKept rfl flX9_52 dX9_back_16 ?_
      refine go_if_ne_t (tgt := 35) dX9_back_19 (by decide) (by rw [E.1]; simp) ?_
      refine go_aload_n dX9_back_35 rfl ?_
      refine gfX9_now rfl flX9_21 dX9_back_36 ?_
      refine gfX3_past rfl flX9_77 dX9_back_39 ?_
      refine go_iload_n dX9_back_42 rfl ?_
      refine go_if_ne_f (tgt := 53) dX9_back_43 (by decide) (rfl) ?_
      refine go_aload_n dX9_back_46 rfl ?_
      refine gfX9_firstImage rfl flX9_45 dX9_back_47 ?_
      refine go_goto (tgt := 57) dX9_back_50 (by decide) ?_
      refine go_cV1V rfl vlX9_164 dX9_back_57 (by decide) rfl rfl (by decide) (Nat.le_of_ble_eq_true rfl) (past_becomesP pk3.2.1 past46 (by decide) (E.2.2 v rfl) hv.2.1 (by rw [P.2.1.1]; omega) ?_)
      intro h1 V1 F1
      have Z1 : PkZ h1 3 := ⟨fun k hk => by rw [F1 _ (by decide) (by decide) (by decide)]; exact (PkS.z ok.2.1.1 ok.2.1.2 (Nat.le_refl _) P).1 k hk, by rw [F1 _ (by decide) (by decide) (by decide)]; exact (PkS.z ok.2.1.1 ok.2.1.2 (Nat.le_refl _) P).2.1, by rw [V1.2.1]; omega⟩
      refine go_aload_n dX9_back_60 rfl ?_
      refine gfX9_now rfl flX9_21 dX9_back_61 ?_
      refine go_cV0V rfl vlX9_91 dX9_back_64 (by decide) rfl rfl (by decide) (Nat.le_of_ble_eq_true rfl) (now_repack hv V1 Z1 ?_)
      intro h2 P2 F2
      refine go_aload_n dX9_back_67 rfl ?_
      refine gfX9_history rfl flX9_38 dX9_back_68 ?_
      refine go_cV0V rfl vlX9_180 dX9_back_71 (by decide) rfl rfl (by decide) (Nat.le_of_ble_eq_true rfl) (hi_losesAll (nx := nx) (hs := hs) (D.congr (fun i q1 q2 => by rw [F2 i (by omega), F1 i (by omega) (by omega) (by omega)])) ?_)
      intro h3 D3 F3
      refine go_aload_n dX9_back_74 rfl ?_
      refine gfX9_now rfl flX9_21 dX9_back_75 ?_
      refine gfX3_past rfl flX9_77 dX9_back_78 ?_
      refine gfX4_signs rfl flX9_80 dX9_back_81 ?_
      refine gfX6_size rfl flX9_66 dX9_back_84 ?_
      rw [F3 _ (by decide), P2.2.1.1]
      refine go_ireturn dX9_back_87 rfl ?_
      have nF : ∀ i, i < 3 ∨ (14 ≤ i ∧ i < 26) ∨ 27 ≤ i → h3 i = h i := fun i q => by rw [F3 i (by omega), F2 i (by omega), F1 i (by omega) (by omega) (by omega)]
      exact hQ h3 ⟨R.congr (nF _ (by decide)) (nF _ (by decide)), PkS.congr P2 (fun i q1 q2 => F3 i (by omega)), Z.congr (fun i q1 q2 => nF i (by omega)), ⟨nx, D3⟩, E.congr (by rw [nF 0 (by decide)]) (fun i q1 q2 => nF i (by omega)), F.congr (by rw [nF 0 (by decide)]) (fun i q1 q2 => nF i (by omega))⟩ (fun i q => nF i (by omega))
  · by_cases k1 : k = 1
    · subst k1
      cases im1 with
      | none =>
        dsimp only [sp_back] at hQ
        rw [if_neg (by decide), if_pos rfl] at hQ
        refine go_iload_n dX9_back_0 rfl ?_
        refine go_iconst dX9_back_1 ⟨by decide, by decide⟩ ?_
        refine go_iconst dX9_back_2 ⟨by decide, by decide⟩ ?_
        refine go_cS3I slX9_73 dX9_back_3 (by decide) (Nat.le_of_ble_eq_true rfl) (lp_isWithin ?_)
        rw [if_pos (by decide)]
        refine go_if_ne_t (tgt := 11) dX9_back_6 (by decide) (by decide) ?_
        refine go_iload_n dX9_back_11 rfl ?_
        refine go_if_ne_t (tgt := 25) dX9_back_12 (by decide) (by decide) ?_
        refine go_aload_n dX9_back_25 rfl ?_
        refine gfX9_secondKept rfl flX9_56 dX9_back_26 ?_
        refine go_if_ne_f (tgt := 35) dX9_back_29 (by decide) (F.1) ?_
        refine go_bipush dX9_back_32 (by decide +kernel) ⟨by decide, by decide⟩ ?_
        refine go_ireturn dX9_back_34 rfl ?_
        exact hQ h H (fun _ _ => rfl)
      | some v =>
        have hv : PvOk v := ok.2.2.2.2 v rfl
        dsimp only [sp_back] at hQ
        rw [if_neg (by decide), if_pos rfl] at hQ
        refine go_iload_n dX9_back_0 rfl ?_
        refine go_iconst dX9_back_1 ⟨by decide, by decide⟩ ?_
        refine go_iconst dX9_back_2 ⟨by decide, by decide⟩ ?_
        refine go_cS3I slX9_73 dX9_back_3 (by decide) (Nat.le_of_ble_eq_true rfl) (lp_isWithin ?_)
        rw [if_pos (by decide)]
        refine go_if_ne_t (tgt := 11) dX9_back_6 (by decide) (by decide) ?_
        refine go_iload_n dX9_back_11 rfl ?_
        refine go_if_ne_t (tgt := 25) dX9_back_12 (by decide) (by decide) ?_
        refine go_aload_n dX9_back_25 rfl ?_
        refine gfX9_secondKept rfl flX9_56 dX9_back_26 ?_
        refine go_if_ne_t (tgt := 35) dX9_back_29 (by decide) (by rw [F.1]; simp) ?_
        refine go_aload_n dX9_back_35 rfl ?_
        refine gfX9_now rfl flX9_21 dX9_back_36 ?_
        refine gfX3_past rfl flX9_77 dX9_back_39 ?_
        refine go_iload_n dX9_back_42 rfl ?_
        refine go_if_ne_t (tgt := 53) dX9_back_43 (by decide) (by decide) ?_
        refine go_aload_n dX9_back_53 rfl ?_
        refine gfX9_secondImage rfl flX9_49 dX9_back_54 ?_
        refine go_cV1V rfl vlX9_164 dX9_back_57 (by decide) rfl rfl (by decide) (Nat.le_of_ble_eq_true rfl) (past_becomesP pk3.2.1 past49 (by decide) (F.2.2 v rfl) hv.2.1 (by rw [P.2.1.1]; omega) ?_)
        intro h1 V1 F1
        have Z1 : PkZ h1 3 := ⟨fun k hk => by rw [F1 _ (by decide) (by decide) (by decide)]; exact (PkS.z ok.2.1.1 ok.2.1.2 (Nat.le_refl _) P).1 k hk, by rw [F1 _ (by decide) (by decide) (by decide)]; exact (PkS.z ok.2.1.1 ok.2.1.2 (Nat.le_refl _) P).2.1, by rw [V1.2.1]; omega⟩
        refine go_aload_n dX9_back_60 rfl ?_
        refine gfX9_now rfl flX9_21 dX9_back_61 ?_
        refine go_cV0V rfl vlX9_91 dX9_back_64 (by decide) rfl rfl (by decide) (Nat.le_of_ble_eq_true rfl) (now_repack hv V1 Z1 ?_)
        intro h2 P2 F2
        refine go_aload_n dX9_back_67 rfl ?_
        refine gfX9_history rfl flX9_38 dX9_back_68 ?_
        refine go_cV0V rfl vlX9_180 dX9_back_71 (by decide) rfl rfl (by decide) (Nat.le_of_ble_eq_true rfl) (hi_losesAll (nx := nx) (hs := hs) (D.congr (fun i q1 q2 => by rw [F2 i (by omega), F1 i (by omega) (by omega) (by omega)])) ?_)
        intro h3 D3 F3
        refine go_aload_n dX9_back_74 rfl ?_
        refine gfX9_now rfl flX9_21 dX9_back_75 ?_
        refine gfX3_past rfl flX9_77 dX9_back_78 ?_
        refine gfX4_signs rfl flX9_80 dX9_back_81 ?_
        refine gfX6_size rfl flX9_66 dX9_back_84 ?_
        rw [F3 _ (by decide), P2.2.1.1]
        refine go_ireturn dX9_back_87 rfl ?_
        have nF : ∀ i, i < 3 ∨ (14 ≤ i ∧ i < 26) ∨ 27 ≤ i → h3 i = h i := fun i q => by rw [F3 i (by omega), F2 i (by omega), F1 i (by omega) (by omega) (by omega)]
        exact hQ h3 ⟨R.congr (nF _ (by decide)) (nF _ (by decide)), PkS.congr P2 (fun i q1 q2 => F3 i (by omega)), Z.congr (fun i q1 q2 => nF i (by omega)), ⟨nx, D3⟩, E.congr (by rw [nF 0 (by decide)]) (fun i q1 q2 => nF i (by omega)), F.congr (by rw [nF 0 (by decide)]) (fun i q1 q2 => nF i (by omega))⟩ (fun i q => nF i (by omega))
    · have e9 : sp_back k (lt, v0, hs, im0, im1) = (-1, (lt, v0, hs, im0, im1)) := by unfold sp_back; rw [if_neg k0, if_neg k1]
      rw [e9] at hQ
      refine go_iload_n dX9_back_0 rfl ?_
      refine go_iconst dX9_back_1 ⟨by decide, by decide⟩ ?_
      refine go_iconst dX9_back_2 ⟨by decide, by decide⟩ ?_
      refine go_cS3I slX9_73 dX9_back_3 (by decide) (Nat.le_of_ble_eq_true rfl) (lp_isWithin ?_)
      rw [if_neg (by omega)]
      refine go_if_ne_f (tgt := 11) dX9_back_6 (by decide) (rfl) ?_
      refine go_iconst dX9_back_9 ⟨by decide, by decide⟩ ?_
      refine go_ireturn dX9_back_10 rfl ?_
      exact hQ h H (fun _ _ => rfl)
