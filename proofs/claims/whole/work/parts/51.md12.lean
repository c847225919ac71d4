/-! ===== the model: best, unpacks, unpacked, agrees ===== -/
set_option maxHeartbeats 4000000 in
set_option maxRecDepth 100000 in
theorem md_best {x : mX} {h : mH} {Q : Int → mH → Prop} {a : Ab} (H : MdS h a) (ok : AbOk a) (hQ : ∀ h', MdS h' a → FrM h h' → Q (sp_best a) h') : CtI x mtX10_best [xR 52] h Q := by
  unfold sp_best at hQ
  obtain ⟨L, hL⟩ : ∃ L, bst (bsf a) = L := ⟨_, rfl⟩
  refine ct_go (ls := [xR 52, xU, xU, xU, xU]) (by decide +kernel) (Nat.le_of_ble_eq_true rfl) rfl ?_
  refine go_iconst dX10_best_0 ⟨by decide, by decide⟩ ?_
  refine go_istore_n 1 dX10_best_1 rfl (Nat.le_of_ble_eq_true rfl) rfl (by dsimp only [List.set]) ?_
  refine go_iconst dX10_best_2 ⟨by decide, by decide⟩ ?_
  refine go_istore_n 2 dX10_best_3 rfl (Nat.le_of_ble_eq_true rfl) rfl (by dsimp only [List.set]) ?_
  refine go_iconst dX10_best_4 ⟨by decide, by decide⟩ ?_
  refine go_istore_n 3 dX10_best_5 rfl (Nat.le_of_ble_eq_true rfl) rfl (by dsimp only [List.set]) ?_
  have key : ∀ u : mV, Go x mtX10_best 6 [xR 52, xI (L 0).1, xI (L 0).2, xI ((0 : Nat) : Int), u] [] h (qI Q) := by
    refine up_indN (P := fun n => ∀ hh : mH, MdS hh a → FrM h hh → ∀ u : mV, Go x mtX10_best 6 [xR 52, xI (L n).1, xI (L n).2, xI (n : Int), u] [] hh (qI Q)) 4 (fun n hn ih hh HH FL u => ?_) h H FrM.rf
    by_cases hlt : n < 4
    · have hPn : PrOk (n : Int) a.2.1.2.1 a.2.1.2.2.1 a.2.1.2.2.2.1 := by have := ok.2.1.1; unfold PrOk at *; omega
      refine go_iload_n dX10_best_6 rfl ?_
      refine go_iconst dX10_best_7 ⟨by decide, by decide⟩ ?_
      refine go_icmp_ge_f (tgt := 66) dX10_best_8 (by decide) (by omega) ?_
      refine go_aload_n dX10_best_11 rfl ?_
      refine go_iload_n dX10_best_12 rfl ?_
      refine go_cV1V (by first | assumption | rfl) vlX10_161 dX10_best_13 (by decide) rfl rfl (by decide) (Nat.le_of_ble_eq_true rfl) (md_packsAll (o0 := a.2.1.1) (o := (n : Int)) hPn ok.2.1.2 HH.2.1 HH.2.2.2.2 ?_)
      intro h2 P2 F2 K2
      have hD := pck_D hPn ok.2.1.2 (Nat.le_refl _)
      have iv := pck_inv hPn ok.2.1.2 a.2.1.2.2.2.2.length (Nat.le_refl _)
      have H2 : MdS h2 a := HH.w F2 (by rw [P2.2.2.2.1]; exact iv.1.2)
      have z := ih hlt h2 H2 (FrM.tr FL F2.m)
      rw [show L (n + 1) = if n = 0 ∨ bsf a n < (L n).2 then ((n : Int), bsf a n) else L n by rw [← hL]; rfl] at z
      refine go_iload_n dX10_best_16 rfl ?_
      refine go_if_eq (tgt := 28) dX10_best_17 (by decide) (fun c17 => ?_) (fun c17 => ?_)
      · refine go_iconst dX10_best_28 ⟨by decide, by decide⟩ ?_
        refine go_goto (tgt := 33) dX10_best_29 (by decide) ?_
        rw [if_pos (by omega)] at z
        refine go_istore dX10_best_33 (Nat.le_of_ble_eq_true rfl) rfl (by dsimp only [List.set]) ?_
        refine go_iload dX10_best_35 rfl ?_
        refine go_if_eq_f (tgt := 44) dX10_best_37 (by decide) (by decide) ?_
        refine go_iload_n dX10_best_40 rfl ?_
        refine go_goto (tgt := 45) dX10_best_41 (by decide) ?_
        refine go_istore_n 1 dX10_best_45 rfl (Nat.le_of_ble_eq_true rfl) rfl (by dsimp only [List.set]) ?_
        refine go_iload dX10_best_46 rfl ?_
        refine go_if_eq_f (tgt := 58) dX10_best_48 (by decide) (by decide) ?_
        refine go_aload_n dX10_best_51 rfl ?_
        refine go_cV0I (by first | assumption | rfl) vlX10_200 dX10_best_52 (by decide) rfl rfl (by decide) (Nat.le_of_ble_eq_true rfl) (md_ended P2.2.2.2.2.2 (by omega) ?_)
        change Go x mtX10_best _ _ [xI (bsf a n)] h2 (qI Q)
        refine go_goto (tgt := 59) dX10_best_55 (by decide) ?_
        refine go_istore_n 2 dX10_best_59 rfl (Nat.le_of_ble_eq_true rfl) rfl (by dsimp only [List.set]) ?_
        refine go_iinc dX10_best_60 rfl rfl rfl (by omega) (by omega) (by dsimp only [List.set]) ?_
        refine go_goto (tgt := 6) dX10_best_63 (by decide) ?_
        exact z _
      · refine go_aload_n dX10_best_20 rfl ?_
        refine go_cV0I (by first | assumption | rfl) vlX10_200 dX10_best_21 (by decide) rfl rfl (by decide) (Nat.le_of_ble_eq_true rfl) (md_ended P2.2.2.2.2.2 (by omega) ?_)
        change Go x mtX10_best _ _ [xI (bsf a n)] h2 (qI Q)
        refine go_iload_n dX10_best_24 rfl ?_
        refine go_icmp_ge (tgt := 32) dX10_best_25 (by decide) (fun c25 => ?_) (fun c25 => ?_)
        · refine go_iconst dX10_best_32 ⟨by decide, by decide⟩ ?_
          rw [if_neg (by omega)] at z
          refine go_istore dX10_best_33 (Nat.le_of_ble_eq_true rfl) rfl (by dsimp only [List.set]) ?_
          refine go_iload dX10_best_35 rfl ?_
          refine go_if_eq_t (tgt := 44) dX10_best_37 (by decide) (rfl) ?_
          refine go_iload_n dX10_best_44 rfl ?_
          refine go_istore_n 1 dX10_best_45 rfl (Nat.le_of_ble_eq_true rfl) rfl (by dsimp only [List.set]) ?_
          refine go_iload dX10_best_46 rfl ?_
          refine go_if_eq_t (tgt := 58) dX10_best_48 (by decide) (rfl) ?_
          refine go_iload_n dX10_best_58 rfl ?_
          refine go_istore_n 2 dX10_best_59 rfl (Nat.le_of_ble_eq_true rfl) rfl (by dsimp only [List.set]) ?_
          refine go_iinc dX10_best_60 rfl rfl rfl (by omega) (by omega) (by dsimp only [List.set]) ?_
          refine go_goto (tgt := 6) dX10_best_63 (by decide) ?_
          exact z _
        · refine go_iconst dX10_best_28 ⟨by decide, by decide⟩ ?_
          refine go_goto (tgt := 33) dX10_best_29 (by decide) ?_
          rw [if_pos (by omega)] at z
          refine go_istore dX10_best_33 (Nat.le_of_ble_eq_true rfl) rfl (by dsimp only [List.set]) ?_
          refine go_iload dX10_best_35 rfl ?_
          refine go_if_eq_f (tgt := 44) dX10_best_37 (by decide) (by decide) ?_
          refine go_iload_n dX10_best_40 rfl ?_
          refine go_goto (tgt := 45) dX10_best_41 (by decide) ?_
          refine go_istore_n 1 dX10_best_45 rfl (Nat.le_of_ble_eq_true rfl) rfl (by dsimp only [List.set]) ?_
          refine go_iload dX10_best_46 rfl ?_
          refine go_if_eq_f (tgt := 58) dX10_best_48 (by decide) (by decide) ?_
          refine go_aload_n dX10_best_51 rfl ?_
          refine go_cV0I (by first | assumption | rfl) vlX10_200 dX10_best_52 (by decide) rfl rfl (by decide) (Nat.le_of_ble_eq_true rfl) (md_ended P2.2.2.2.2.2 (by omega) ?_)
          change Go x mtX10_best _ _ [xI (bsf a n)] h2 (qI Q)
          refine go_goto (tgt := 59) dX10_best_55 (by decide) ?_
          refine go_istore_n 2 dX10_best_59 rfl (Nat.le_of_ble_eq_true rfl) rfl (by dsimp only [List.set]) ?_
          refine go_iinc dX10_best_60 rfl rfl rfl (by omega) (by omega) (by dsimp only [List.set]) ?_
          refine go_goto (tgt := 6) dX10_best_63 (by decide) ?_
          exact z _
    · have hne : n = 4 := by omega
      subst hne
      refine go_iload_n dX10_best_6 rfl ?_
      refine go_iconst dX10_best_7 ⟨by decide, by decide⟩ ?_
      refine go_icmp_ge_t (tgt := 66) dX10_best_8 (by decide) (by omega) ?_
      refine go_iload_n dX10_best_66 rfl ?_
      refine go_ireturn dX10_best_67 rfl ?_
      rw [← hL]
      exact hQ hh HH FL
  rw [← hL] at key
  exact key _

set_option maxHeartbeats 4000000 in
set_option maxRecDepth 100000 in
theorem md_unpacks {x : mX} {h : mH} {Q : mH → Prop} {o l r t : Int} {T0 bs : List Int} {m : Nat} (hPr : PrOk o l r t) (nw : NwS (h 53) (o, l, r, t, T0)) (hz : ∀ k, k < 0 ∨ 340 ≤ k → h 59 k = 0) (S0 : SrS h bs) (hN : bs.length ≤ 2800) (hsf : ∀ k, srF bs k = 0 ∨ srF bs k = 1) (hm : m ≤ 60) (hQ : ∀ h', (∀ k : Nat, k < m → h' 58 k = (rdk o l r t (srF bs) m).1.getD k 0) → FrW h h' → (∀ k, k < 0 ∨ 340 ≤ k → h' 59 k = 0) → Q h') : CtV x mtX10_unpacks [xR 52, xI m] h Q := by
  obtain ⟨w1, w2, w3, w4, w5, w6, w7, w8⟩ := id hPr
  dsimp only [NwS] at nw
  refine ct_go (ls := [xR 52, xI m, xU]) (by decide +kernel) (Nat.le_of_ble_eq_true rfl) rfl ?_
  refine go_aload_n dX10_unpacks_0 rfl ?_
  refine go_aload_n dX10_unpacks_1 rfl ?_
  refine gfX10_now (by first | assumption | rfl) flX10_7 dX10_unpacks_2 ?_
  refine go_iconst dX10_unpacks_5 ⟨by decide, by decide⟩ ?_
  refine go_iaload (by first | assumption | rfl) dX10_unpacks_6 (by decide) (by decide) ?_
  rw [nw.1]
  refine go_iconst dX10_unpacks_7 ⟨by decide, by decide⟩ ?_
  refine go_cV2V (by first | assumption | rfl) vlX10_152 dX10_unpacks_8 (by decide) rfl rfl (by decide) (Nat.le_of_ble_eq_true rfl) (md_starts_r hz S0 hN hsf ?_)
  intro h1 A1 A2 A3 A4 A5 A6
  refine go_iconst dX10_unpacks_11 ⟨by decide, by decide⟩ ?_
  refine go_istore_n 2 dX10_unpacks_12 rfl (Nat.le_of_ble_eq_true rfl) rfl (by dsimp only [List.set]) ?_
  refine up_indN (P := fun n => ∀ hh : mH, hh 52 7 = o → hh 52 9 = (n : Int) → (∀ k : Nat, k < n → hh 58 k = (rdk o l r t (srF bs) n).1.getD k 0) → hh 59 = (rdk o l r t (srF bs) n).2.1 → hh 52 11 = (rdk o l r t (srF bs) n).2.2.1 → MR hh bs (rdk o l r t (srF bs) n).2.2.2 → FrW h hh → Go x mtX10_unpacks 13 [xR 52, xI m, xI (n : Int)] [] hh (qV Q)) m (fun n hn ih hh E1 E2 E3 E4 E5 E6 FW => ?_) h1 A1 A2 (fun k hk => absurd hk (Nat.not_lt_zero k)) A3 A4 A5 A6
  have F53 : hh 53 = h 53 := FW.1 53 (by decide) (by decide) (by decide) (by decide)
  by_cases hlt : n < m
  · have iv := rdk_inv (o := o) (l := l) (r := r) (t := t) hPr hsf n (by omega)
    have hlen := rdk_len o l r t (srF bs) n
    have rd := rdd_ok hsf hPr iv (by omega)
    have hrs := run_sr (by omega) E3
    have eT : (rdk o l r t (srF bs) (n + 1)).1 = rstT o (srF bs) (rdk o l r t (srF bs) n).1 (rdk o l r t (srF bs) n).2 := rfl
    have eS : (rdk o l r t (srF bs) (n + 1)).2 = rstS o l r t (srF bs) (rdk o l r t (srF bs) n).1 (rdk o l r t (srF bs) n).2 := rfl
    generalize hR : rdk o l r t (srF bs) n = R at *
    obtain ⟨T, S⟩ := R
    dsimp only at *
    have hctx := ctx_congr (o := o) (n := (n : Int)) hPr.1 (by omega) hrs
    unfold rstS at eS
    unfold rstT at eS eT
    obtain ⟨D, hDe⟩ : ∃ D, rdd o (srF bs) T S = D := ⟨_, rfl⟩
    rw [hDe] at rd eT eS
    have hD : dsc chR (rprt (srF bs)) S.1 (fun j : Nat => cxp (srF T) ((n : Int) - (j : Int)) j) (lng o (n : Int) + 1) 0 S.2.2 = D := by rw [← hDe]; unfold rdd; rw [hlen]
    rw [hlen] at rd eS
    have eT1 := eT
    have eS1 := eS
    have hus : ∀ k : Int, 0 ≤ k → k < (n : Int) + 1 → ups (hh 58) n (D.2.1 : Int) k = srF (T ++ [(D.2.1 : Int)]) k := fun k q1 q2 => by
      unfold ups
      by_cases e : k = (n : Int)
      · rw [if_pos e, e, srF_nat (by rw [List.length_append, List.length_singleton]; omega), ← hlen]; simp
      · rw [if_neg e, srF_app (by omega)]; exact hrs k q1 (by omega)
    refine go_iload_n dX10_unpacks_13 rfl ?_
    refine go_iload_n dX10_unpacks_14 rfl ?_
    refine go_icmp_ge_f (tgt := 34) dX10_unpacks_15 (by decide) (by omega) ?_
    refine go_aload_n dX10_unpacks_18 rfl ?_
    refine go_aload_n dX10_unpacks_19 rfl ?_
    refine go_bipush dX10_unpacks_20 (by decide +kernel) ⟨by decide, by decide⟩ ?_
    refine go_cV1I (by first | assumption | rfl) vlX10_155 dX10_unpacks_22 (by decide) rfl rfl (by decide) (Nat.le_of_ble_eq_true rfl) (md_goes_r (bs := bs) (c := S.2.2) (K := 100 * ((n : Int) + 1)) (sg := hh 58) (cs := S.1) (n := (n : Int)) (o := o) hN hsf (fun k => by have := iv.2.1.1 k; omega) (by omega) (by omega) (fun k q1 q2 => by rw [hrs k q1 q2]; exact srF_bd iv.1 q1 (by omega)) hPr.1 hPr.2.1 E6 (by rw [dOk_congr _ _ _ hctx]; exact rd.1) E1 E2 rfl E4 ?_)
    rw [dsc_congr _ _ _ hctx]
    skip
    intro h2 W2 F2 K2
    rw [hD] at W2 K2 ⊢
    refine go_cV1V (by first | assumption | rfl) vlX10_158 dX10_unpacks_25 (by decide) rfl rfl (by decide) (Nat.le_of_ble_eq_true rfl) (md_learns (o := o) (l := l) (r := r) (t := t) (n := (n : Int)) (f := D.1) hPr (by rw [F2.2 7 (by decide)]; exact E1) (by rw [F2.1 53 (by decide) (by decide), F53]; exact nw.2.1) (by rw [F2.1 53 (by decide) (by decide), F53]; exact nw.2.2.1) (by rw [F2.1 53 (by decide) (by decide), F53]; exact nw.2.2.2.1) (by rw [F2.2 9 (by decide)]; exact E2) K2 rd.2.2.2.2.2 (by rw [F2.1 59 (by decide) (by decide), E4]; exact iv.2.1) (by rw [F2.2 11 (by decide), E5]; exact iv.2.2.1) (by rw [F2.2 11 (by decide), E5]; have := iv.2.2.2.1; omega) (by omega) (by omega) (fun k q1 q2 => by rw [F2.1 58 (by decide) (by decide), hrs k q1 q2]; exact srF_bd iv.1 q1 (by omega)) (by omega) (by have := rd.2.1; omega) ?_)
    rw [F2.1 58 (by decide) (by decide), F2.1 59 (by decide) (by decide), E4, F2.2 11 (by decide), E5, lst_congr (sg' := srF (T ++ [(D.2.1 : Int)])) hPr.1 hPr.2.2.2.2.2.2.1 (by omega) hus, lfg_congr (sg' := srF (T ++ [(D.2.1 : Int)])) hPr.1 (by omega) (fun k q1 q2 => hus k q1 (by omega))]
    intro h3 R3 C3 N3 K3 F3 G3
    refine go_iinc dX10_unpacks_28 rfl rfl rfl (by omega) (by omega) (by dsimp only [List.set]) ?_
    refine go_goto (tgt := 13) dX10_unpacks_31 (by decide) ?_
    refine ih hlt h3 ?_ ?_ ?_ ?_ ?_ ?_ (FrW.tr FW (FrW.tr F2.w ⟨fun i q1 q2 q3 q4 => F3 i q1 q2 q3, fun z q => G3 z (by omega) (by omega)⟩))
    · rw [G3 7 (by decide) (by decide), F2.2 7 (by decide)]; exact E1
    · rw [N3]; rfl
    · intro k hk
      rw [R3, eT1]
      have q := hus k (by omega) (by omega)
      rw [q, srF_nat (by rw [List.length_append, List.length_singleton]; omega)]
    · rw [C3, eS1]
    · rw [K3, eS1]
    · rw [eS1]; exact W2.congr (fun z q1 q2 => G3 z (by omega) (by omega)) (F3 61 (by decide) (by decide) (by decide))
  · have hie : n = m := by omega
    subst hie
    refine go_iload_n dX10_unpacks_13 rfl ?_
    refine go_iload_n dX10_unpacks_14 rfl ?_
    refine go_icmp_ge_t (tgt := 34) dX10_unpacks_15 (by decide) (by omega) ?_
    refine go_return dX10_unpacks_34 rfl ?_
    have iv := rdk_inv (o := o) (l := l) (r := r) (t := t) hPr hsf n hm
    exact hQ hh E3 FW (by rw [E4]; exact iv.2.1.2)
