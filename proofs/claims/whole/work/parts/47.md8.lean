/-! ===== the model: starts, packsAll, unpacks ===== -/
/-- a row of 65: order, limit, room, tail, how many signs, the signs -/
def NwS (f : Int → Int) (v : PV) : Prop := f 0 = v.1 ∧ f 1 = v.2.1 ∧ f 2 = v.2.2.1 ∧ f 3 = v.2.2.2.1 ∧ f 4 = (v.2.2.2.2.length : Int) ∧ ∀ k : Nat, k < v.2.2.2.2.length → f (5 + (k : Int)) = v.2.2.2.2.getD k 0
/-- what all work leaves as it was -/
def FrW (h h' : mH) : Prop := (∀ i, i ≠ 52 → i ≠ 58 → i ≠ 59 → i ≠ 60 → h' i = h i) ∧ ∀ z, z = 2 ∨ z = 6 ∨ z = 19 → h' 52 z = h 52 z
theorem FrW.rf {h : mH} : FrW h h := ⟨fun _ _ _ _ _ => rfl, fun _ _ => rfl⟩
theorem FrW.tr {h h1 h2 : mH} (a : FrW h h1) (b : FrW h1 h2) : FrW h h2 := ⟨fun i q1 q2 q3 q4 => (b.1 i q1 q2 q3 q4).trans (a.1 i q1 q2 q3 q4), fun z q => (b.2 z q).trans (a.2 z q)⟩
theorem FrY.w {h h' : mH} (a : FrY h h') : FrW h h' := ⟨fun i q1 q2 q3 q4 => a.1 i q1 q4, fun z q => a.2 z (by omega)⟩
def MPk (h : mH) (o l r t : Int) (T : List Int) (n : Nat) : Prop := h 52 7 = o ∧ h 52 9 = (n : Int) ∧ (∀ k : Nat, k < n → h 58 k = T.getD k 0) ∧ h 59 = (pck o l r t T n).1 ∧ h 52 11 = (pck o l r t T n).2.1 ∧ MW h (pck o l r t T n).2.2

set_option maxHeartbeats 4000000 in
set_option maxRecDepth 100000 in
theorem md_starts_w {x : mX} {h : mH} {Q : mH → Prop} {o : Int} (hz : ∀ k, k < 0 ∨ 340 ≤ k → h 59 k = 0) (hQ : ∀ h', h' 52 7 = o → h' 52 9 = 0 → h' 59 = (fun _ => 0) → h' 52 11 = 0 → MW h' (0, 65535, 0, []) → FrW h h' → Q h') : CtV x mtX10_starts [xR 52, xI o, xI 0] h Q := by
  refine ct_go (ls := [xR 52, xI o, xI 0, xU]) (by decide +kernel) (Nat.le_of_ble_eq_true rfl) rfl ?_
  refine go_aload_n dX10_starts_0 rfl ?_
  refine go_iload_n dX10_starts_1 rfl ?_
  refine pfX10_order (by first | assumption | rfl) flX10_42 dX10_starts_2 ?_
  refine go_aload_n dX10_starts_5 rfl ?_
  refine go_iload_n dX10_starts_6 rfl ?_
  refine pfX10_mode (by first | assumption | rfl) flX10_46 dX10_starts_7 ?_
  refine go_aload_n dX10_starts_10 rfl ?_
  refine go_iconst dX10_starts_11 ⟨by decide, by decide⟩ ?_
  refine pfX10_many (by first | assumption | rfl) flX10_49 dX10_starts_12 ?_
  refine go_aload_n dX10_starts_15 rfl ?_
  refine go_iconst dX10_starts_16 ⟨by decide, by decide⟩ ?_
  refine pfX10_forgotten (by first | assumption | rfl) flX10_52 dX10_starts_17 ?_
  refine go_aload_n dX10_starts_20 rfl ?_
  refine go_iconst dX10_starts_21 ⟨by decide, by decide⟩ ?_
  refine pfX10_low (by first | assumption | rfl) flX10_55 dX10_starts_22 ?_
  refine go_aload_n dX10_starts_25 rfl ?_
  refine go_ldc dX10_starts_26 knX10_58 ⟨by decide, by decide⟩ ?_
  refine pfX10_high (by first | assumption | rfl) flX10_59 dX10_starts_28 ?_
  refine go_aload_n dX10_starts_31 rfl ?_
  refine go_iconst dX10_starts_32 ⟨by decide, by decide⟩ ?_
  refine pfX10_owed (by first | assumption | rfl) flX10_62 dX10_starts_33 ?_
  refine go_aload_n dX10_starts_36 rfl ?_
  refine go_iconst dX10_starts_37 ⟨by decide, by decide⟩ ?_
  refine pfX10_bitMany (by first | assumption | rfl) flX10_65 dX10_starts_38 ?_
  refine go_aload_n dX10_starts_41 rfl ?_
  refine go_iconst dX10_starts_42 ⟨by decide, by decide⟩ ?_
  refine pfX10_sourceAt (by first | assumption | rfl) flX10_68 dX10_starts_43 ?_
  refine go_aload_n dX10_starts_46 rfl ?_
  refine go_iconst dX10_starts_47 ⟨by decide, by decide⟩ ?_
  refine pfX10_value (by first | assumption | rfl) flX10_71 dX10_starts_48 ?_
  refine go_aload_n dX10_starts_51 rfl ?_
  refine go_cV0V (by first | assumption | rfl) vlX10_74 dX10_starts_52 (by decide) rfl rfl (by decide) (Nat.le_of_ble_eq_true rfl) (md_clears (by simp (disch := decide) only [hset_eq, hset_nk, hset_ni]; exact hz) ?_)
  intro h1 C1 F1
  have F52 := F1 52 (by decide)
  have F61 := F1 61 (by decide)
  have F60 := F1 60 (by decide)
  refine go_iconst dX10_starts_55 ⟨by decide, by decide⟩ ?_
  refine go_istore_n 3 dX10_starts_56 rfl (Nat.le_of_ble_eq_true rfl) rfl (by dsimp only [List.set]) ?_
  refine go_iload_n dX10_starts_57 rfl ?_
  refine go_bipush dX10_starts_58 (by decide +kernel) ⟨by decide, by decide⟩ ?_
  refine go_icmp_ge_f (tgt := 89) dX10_starts_60 (by decide) (by decide) ?_
  refine go_iload_n dX10_starts_63 rfl ?_
  refine go_iconst dX10_starts_64 ⟨by decide, by decide⟩ ?_
  refine go_icmp_ne_t (tgt := 89) dX10_starts_65 (by decide) (by decide) ?_
  refine go_return dX10_starts_89 rfl ?_
  refine hQ h1 ?_ ?_ C1 ?_ ⟨?_, ?_, ?_, ⟨?_, fun k hk => absurd hk (Nat.not_lt_zero k)⟩, ?_⟩ ?_
  · rw [F52]; simp (disch := decide) only [hset_eq, hset_nk, hset_ni]
  · rw [F52]; simp (disch := decide) only [hset_eq, hset_nk, hset_ni]
  · rw [F52]; simp (disch := decide) only [hset_eq, hset_nk, hset_ni]
  · rw [F52]; simp (disch := decide) only [hset_eq, hset_nk, hset_ni]
  · rw [F52]; simp (disch := decide) only [hset_eq, hset_nk, hset_ni]
  · rw [F52]; simp (disch := decide) only [hset_eq, hset_nk, hset_ni]; rfl
  · rw [F52]; simp (disch := decide) only [hset_eq, hset_nk, hset_ni]; rfl
  · rw [F52]; simp (disch := decide) only [hset_eq, hset_nk, hset_ni]
  · refine ⟨fun i q1 q2 q3 q4 => ?_, fun z q => ?_⟩
    · rw [F1 i q3]; simp only [hset_ni q1]
    · rw [F52]; simp (disch := omega) only [hset_nk]

set_option maxHeartbeats 4000000 in
set_option maxRecDepth 100000 in
theorem md_starts_r {x : mX} {h : mH} {Q : mH → Prop} {o : Int} {bs : List Int} (hz : ∀ k, k < 0 ∨ 340 ≤ k → h 59 k = 0) (S : SrS h bs) (hN : bs.length ≤ 2800) (hsf : ∀ k, srF bs k = 0 ∨ srF bs k = 1) (hQ : ∀ h', h' 52 7 = o → h' 52 9 = 0 → h' 59 = (fun _ => 0) → h' 52 11 = 0 → MR h' bs (0, 65535, 0, v16 (srF bs) 16, 16) → FrW h h' → Q h') : CtV x mtX10_starts [xR 52, xI o, xI 1] h Q := by
  refine ct_go (ls := [xR 52, xI o, xI 1, xU]) (by decide +kernel) (Nat.le_of_ble_eq_true rfl) rfl ?_
  refine go_aload_n dX10_starts_0 rfl ?_
  refine go_iload_n dX10_starts_1 rfl ?_
  refine pfX10_order (by first | assumption | rfl) flX10_42 dX10_starts_2 ?_
  refine go_aload_n dX10_starts_5 rfl ?_
  refine go_iload_n dX10_starts_6 rfl ?_
  refine pfX10_mode (by first | assumption | rfl) flX10_46 dX10_starts_7 ?_
  refine go_aload_n dX10_starts_10 rfl ?_
  refine go_iconst dX10_starts_11 ⟨by decide, by decide⟩ ?_
  refine pfX10_many (by first | assumption | rfl) flX10_49 dX10_starts_12 ?_
  refine go_aload_n dX10_starts_15 rfl ?_
  refine go_iconst dX10_starts_16 ⟨by decide, by decide⟩ ?_
  refine pfX10_forgotten (by first | assumption | rfl) flX10_52 dX10_starts_17 ?_
  refine go_aload_n dX10_starts_20 rfl ?_
  refine go_iconst dX10_starts_21 ⟨by decide, by decide⟩ ?_
  refine pfX10_low (by first | assumption | rfl) flX10_55 dX10_starts_22 ?_
  refine go_aload_n dX10_starts_25 rfl ?_
  refine go_ldc dX10_starts_26 knX10_58 ⟨by decide, by decide⟩ ?_
  refine pfX10_high (by first | assumption | rfl) flX10_59 dX10_starts_28 ?_
  refine go_aload_n dX10_starts_31 rfl ?_
  refine go_iconst dX10_starts_32 ⟨by decide, by decide⟩ ?_
  refine pfX10_owed (by first | assumption | rfl) flX10_62 dX10_starts_33 ?_
  refine go_aload_n dX10_starts_36 rfl ?_
  refine go_iconst dX10_starts_37 ⟨by decide, by decide⟩ ?_
  refine pfX10_bitMany (by first | assumption | rfl) flX10_65 dX10_starts_38 ?_
  refine go_aload_n dX10_starts_41 rfl ?_
  refine go_iconst dX10_starts_42 ⟨by decide, by decide⟩ ?_
  refine pfX10_sourceAt (by first | assumption | rfl) flX10_68 dX10_starts_43 ?_
  refine go_aload_n dX10_starts_46 rfl ?_
  refine go_iconst dX10_starts_47 ⟨by decide, by decide⟩ ?_
  refine pfX10_value (by first | assumption | rfl) flX10_71 dX10_starts_48 ?_
  refine go_aload_n dX10_starts_51 rfl ?_
  refine go_cV0V (by first | assumption | rfl) vlX10_74 dX10_starts_52 (by decide) rfl rfl (by decide) (Nat.le_of_ble_eq_true rfl) (md_clears (by simp (disch := decide) only [hset_eq, hset_nk, hset_ni]; exact hz) ?_)
  intro h1 C1 F1
  have F52 := F1 52 (by decide)
  have F61 := F1 61 (by decide)
  have F60 := F1 60 (by decide)
  refine go_iconst dX10_starts_55 ⟨by decide, by decide⟩ ?_
  refine go_istore_n 3 dX10_starts_56 rfl (Nat.le_of_ble_eq_true rfl) rfl (by dsimp only [List.set]) ?_
  refine up_indN (P := fun k => ∀ hh : mH, hh 52 21 = v16 (srF bs) k → hh 52 20 = (k : Int) → SrS hh bs → hh 52 7 = o → hh 52 9 = 0 → hh 59 = (fun _ => 0) → hh 52 11 = 0 → hh 52 12 = 0 → hh 52 13 = 65535 → hh 52 14 = 0 → hh 52 17 = 1 → FrW h hh → Go x mtX10_starts 57 [xR 52, xI o, xI 1, xI (k : Int)] [] hh (qV Q)) 16 (fun k hk ih hh E21 E20 S1 E7 E9 E59 E11 E12 E13 E14 E17 EF => ?_) h1 ?_ ?_ ?_ ?_ ?_ C1 ?_ ?_ ?_ ?_ ?_ ?_
  · have hb := v16_bd hsf k
    have hp := pow_le16 k hk
    have hs := hsf k
    by_cases hlt : k < 16
    · skip
      refine go_iload_n dX10_starts_57 rfl ?_
      refine go_bipush dX10_starts_58 (by decide +kernel) ⟨by decide, by decide⟩ ?_
      refine go_icmp_ge_f (tgt := 89) dX10_starts_60 (by decide) (by omega) ?_
      refine go_iload_n dX10_starts_63 rfl ?_
      refine go_iconst dX10_starts_64 ⟨by decide, by decide⟩ ?_
      refine go_icmp_ne_f (tgt := 89) dX10_starts_65 (by decide) (rfl) ?_
      refine go_aload_n dX10_starts_68 rfl ?_
      refine go_iconst dX10_starts_69 ⟨by decide, by decide⟩ ?_
      refine go_aload_n dX10_starts_70 rfl ?_
      refine gfX10_value (by first | assumption | rfl) flX10_71 dX10_starts_71 ?_
      try simp (disch := decide) only [hset_eq, hset_nk, hset_ni, E21]
      refine go_imul dX10_starts_74 (by omega) (by omega) ?_
      refine go_aload_n dX10_starts_75 rfl ?_
      refine go_cV0I (by first | assumption | rfl) vlX10_77 dX10_starts_76 (by decide) rfl rfl (by decide) (Nat.le_of_ble_eq_true rfl) (md_nextBit (bs := bs) S1 hN (by rw [E20]; omega) (by rw [E20]; omega) ?_)
      rw [E20]
      refine go_iadd dX10_starts_79 (by omega) (by omega) ?_
      refine pfX10_value (by first | assumption | rfl) flX10_71 dX10_starts_80 ?_
      refine go_iinc dX10_starts_83 rfl rfl rfl (by omega) (by omega) (by dsimp only [List.set]) ?_
      refine go_goto (tgt := 57) dX10_starts_86 (by decide) ?_
      refine ih hlt _ ?_ ?_ ?_ ?_ ?_ ?_ ?_ ?_ ?_ ?_ ?_ ?_
      · rw [hset_eq]; rfl
      · simp (disch := decide) only [hset_eq, hset_nk, hset_ni]; omega
      · exact S1.congr (by simp (disch := decide) only [hset_eq, hset_nk, hset_ni]) (by simp (disch := decide) only [hset_eq, hset_nk, hset_ni])
      · simp (disch := decide) only [hset_eq, hset_nk, hset_ni]; exact E7
      · simp (disch := decide) only [hset_eq, hset_nk, hset_ni]; exact E9
      · simp (disch := decide) only [hset_eq, hset_nk, hset_ni]; exact E59
      · simp (disch := decide) only [hset_eq, hset_nk, hset_ni]; exact E11
      · simp (disch := decide) only [hset_eq, hset_nk, hset_ni]; exact E12
      · simp (disch := decide) only [hset_eq, hset_nk, hset_ni]; exact E13
      · simp (disch := decide) only [hset_eq, hset_nk, hset_ni]; exact E14
      · simp (disch := decide) only [hset_eq, hset_nk, hset_ni]; exact E17
      · exact FrW.tr EF ⟨fun i q1 q2 q3 q4 => by simp only [hset_ni q1], fun z q => by simp (disch := omega) only [hset_nk]⟩
    · have hie : k = 16 := by omega
      subst hie
      refine go_iload_n dX10_starts_57 rfl ?_
      refine go_bipush dX10_starts_58 (by decide +kernel) ⟨by decide, by decide⟩ ?_
      refine go_icmp_ge_t (tgt := 89) dX10_starts_60 (by decide) (by omega) ?_
      refine go_return dX10_starts_89 rfl ?_
      exact hQ hh E7 E9 E59 E11 ⟨E12, E13, E14, E21, by rw [E20]; rfl, E17, S1⟩ EF
  · rw [F52]; simp (disch := decide) only [hset_eq, hset_nk, hset_ni]; rfl
  · rw [F52]; simp (disch := decide) only [hset_eq, hset_nk, hset_ni]; rfl
  · exact S.congr (by rw [F52]; simp (disch := decide) only [hset_eq, hset_nk, hset_ni]) (by rw [F61]; simp (disch := decide) only [hset_eq, hset_nk, hset_ni])
  · rw [F52]; simp (disch := decide) only [hset_eq, hset_nk, hset_ni]
  · rw [F52]; simp (disch := decide) only [hset_eq, hset_nk, hset_ni]
  · rw [F52]; simp (disch := decide) only [hset_eq, hset_nk, hset_ni]
  · rw [F52]; simp (disch := decide) only [hset_eq, hset_nk, hset_ni]
  · rw [F52]; simp (disch := decide) only [hset_eq, hset_nk, hset_ni]
  · rw [F52]; simp (disch := decide) only [hset_eq, hset_nk, hset_ni]
  · rw [F52]; simp (disch := decide) only [hset_eq, hset_nk, hset_ni]
  · refine ⟨fun i q1 q2 q3 q4 => ?_, fun z q => ?_⟩
    · rw [F1 i q3]; simp only [hset_ni q1]
    · rw [F52]; simp (disch := omega) only [hset_nk]

theorem MW.congr {h h' : mH} {c : Cd} (H : MW h c) (e : ∀ z, 12 ≤ z → z ≤ 17 → h' 52 z = h 52 z) (e6 : h' 60 = h 60) : MW h' c := ⟨by rw [e 12 (by decide) (by decide)]; exact H.1, by rw [e 13 (by decide) (by decide)]; exact H.2.1, by rw [e 14 (by decide) (by decide)]; exact H.2.2.1, H.2.2.2.1.congr (e 16 (by decide) (by decide)) e6, by rw [e 17 (by decide) (by decide)]; exact H.2.2.2.2⟩
theorem MR.congr {h h' : mH} {bs : List Int} {c : Rd} (H : MR h bs c) (e : ∀ z, 12 ≤ z → z ≤ 21 → h' 52 z = h 52 z) (e6 : h' 61 = h 61) : MR h' bs c := ⟨by rw [e 12 (by decide) (by decide)]; exact H.1, by rw [e 13 (by decide) (by decide)]; exact H.2.1, by rw [e 14 (by decide) (by decide)]; exact H.2.2.1, by rw [e 21 (by decide) (by decide)]; exact H.2.2.2.1, by rw [e 20 (by decide) (by decide)]; exact H.2.2.2.2.1, by rw [e 17 (by decide) (by decide)]; exact H.2.2.2.2.2.1, H.2.2.2.2.2.2.congr (e 19 (by decide) (by decide)) e6⟩
theorem run_sr {f : Int → Int} {T : List Int} {n : Nat} (hn : n ≤ T.length) (h : ∀ k : Nat, k < n → f k = T.getD k 0) : ∀ k : Int, 0 ≤ k → k < n → f k = srF T k := fun k q1 q2 => by
  have e := h k.toNat (by omega)
  rw [Int.toNat_of_nonneg q1] at e
  unfold srF
  rw [if_pos ⟨q1, by omega⟩]; exact e

set_option maxHeartbeats 4000000 in
set_option maxRecDepth 100000 in
theorem md_packsAll {x : mX} {h : mH} {Q : mH → Prop} {o0 o l r t : Int} {T : List Int} (hPr : PrOk o l r t) (hT : TxOk T) (nw : NwS (h 53) (o0, l, r, t, T)) (hz : ∀ k, k < 0 ∨ 340 ≤ k → h 59 k = 0) (hQ : ∀ h', MPk h' o l r t T T.length → FrW h h' → (0 < T.length → h' 52 24 = (pdn o T (T.length - 1) (pck o l r t T (T.length - 1))).1) → Q h') : CtV x mtX10_packsAll [xR 52, xI o] h Q := by
  have hTl := hT.1
  obtain ⟨w1, w2, w3, w4, w5, w6, w7, w8⟩ := id hPr
  dsimp only [NwS] at nw
  refine ct_go (ls := [xR 52, xI o, xU]) (by decide +kernel) (Nat.le_of_ble_eq_true rfl) rfl ?_
  refine go_aload_n dX10_packsAll_0 rfl ?_
  refine go_iload_n dX10_packsAll_1 rfl ?_
  refine go_iconst dX10_packsAll_2 ⟨by decide, by decide⟩ ?_
  refine go_cV2V (by first | assumption | rfl) vlX10_152 dX10_packsAll_3 (by decide) rfl rfl (by decide) (Nat.le_of_ble_eq_true rfl) (md_starts_w hz ?_)
  intro h1 A1 A2 A3 A4 A5 A6
  refine go_iconst dX10_packsAll_6 ⟨by decide, by decide⟩ ?_
  refine go_istore_n 2 dX10_packsAll_7 rfl (Nat.le_of_ble_eq_true rfl) rfl (by dsimp only [List.set]) ?_
  refine up_indN (P := fun n => ∀ hh : mH, MPk hh o l r t T n → FrW h hh → (0 < n → hh 52 24 = (pdn o T (n - 1) (pck o l r t T (n - 1))).1) → Go x mtX10_packsAll 8 [xR 52, xI o, xI (n : Int)] [] hh (qV Q)) T.length (fun n hn ih hh PP FW KK => ?_) h1 ⟨A1, A2, fun k hk => absurd hk (Nat.not_lt_zero k), A3, A4, A5⟩ A6 (fun q => absurd q (by decide))
  have F53 : hh 53 = h 53 := FW.1 53 (by decide) (by decide) (by decide) (by decide)
  by_cases hlt : n < T.length
  · have iv := pck_inv hPr hT n hn
    have pd := pdn_ok hPr hT hlt iv
    obtain ⟨P1, P2, P3, P4, P5, P6⟩ := id PP
    have hts := hT.2 n hlt
    have hrs := run_sr hn P3
    have hctx := ctx_congr (o := o) (n := (n : Int)) hPr.1 (by omega) hrs
    have hus : ∀ k : Int, 0 ≤ k → k < (n : Int) + 1 → ups (hh 58) n (T.getD n 0) k = srF T k := fun k q1 q2 => by
      unfold ups
      by_cases e : k = (n : Int)
      · rw [if_pos e, e, srF_nat hlt]
      · rw [if_neg e]; exact hrs k q1 (by omega)
    obtain ⟨S, hS⟩ : ∃ S, pck o l r t T n = S := ⟨_, rfl⟩
    rw [hS] at iv pd P4 P5 P6
    refine go_iload_n dX10_packsAll_8 rfl ?_
    refine go_aload_n dX10_packsAll_9 rfl ?_
    refine gfX10_now (by first | assumption | rfl) flX10_7 dX10_packsAll_10 ?_
    refine go_iconst dX10_packsAll_13 ⟨by decide, by decide⟩ ?_
    refine go_iaload (by first | assumption | rfl) dX10_packsAll_14 (by decide) (by decide) ?_
    rw [F53]
    refine go_icmp_ge_f (tgt := 40) dX10_packsAll_15 (by decide) (by rw [nw.2.2.2.2.1]; omega) ?_
    refine go_aload_n dX10_packsAll_18 rfl ?_
    refine go_aload_n dX10_packsAll_19 rfl ?_
    refine go_aload_n dX10_packsAll_20 rfl ?_
    refine gfX10_now (by first | assumption | rfl) flX10_7 dX10_packsAll_21 ?_
    refine go_iconst dX10_packsAll_24 ⟨by decide, by decide⟩ ?_
    refine go_iload_n dX10_packsAll_25 rfl ?_
    refine go_iadd dX10_packsAll_26 (by omega) (by omega) ?_
    refine go_iaload (by first | assumption | rfl) dX10_packsAll_27 (by omega) (by show 5 + (n : Int) < 65; omega) ?_
    rw [F53, nw.2.2.2.2.2 n hlt, show T.getD n 0 = (((T.getD n 0).toNat : Nat) : Int) by omega]
    refine go_cV1I (by first | assumption | rfl) vlX10_155 dX10_packsAll_28 (by decide) rfl rfl (by decide) (Nat.le_of_ble_eq_true rfl) (md_goes_w (s := (T.getD n 0).toNat) (c := S.2.2) (sg := hh 58) (cs := S.1) (n := (n : Int)) (o := o) (by omega) (fun k => by have := iv.1.1 k; omega) (by omega) (by omega) (fun k q1 q2 => by rw [hrs k q1 q2]; exact srF_bd hT q1 (by omega)) hPr.1 hPr.2.1 P6 (by rw [dOk_congr _ _ _ hctx]; exact pd.1) P1 P2 rfl P4 ?_)
    rw [dsc_congr _ _ _ hctx]
    change ∀ h', MW h' (pdn o T n S).2.2 → FrY hh h' → h' 52 24 = (pdn o T n S).1 → Go x mtX10_packsAll 31 [xR 52, xI o, xI (n : Int)] [xI ((pdn o T n S).2.1 : Nat), xR 52] h' (qV Q)
    rw [pd.2.1]
    intro h2 W2 F2 K2
    refine go_cV1V (by first | assumption | rfl) vlX10_158 dX10_packsAll_31 (by decide) rfl rfl (by decide) (Nat.le_of_ble_eq_true rfl) (md_learns (o := o) (l := l) (r := r) (t := t) (n := (n : Int)) (f := (pdn o T n S).1) hPr (by rw [F2.2 7 (by decide)]; exact P1) (by rw [F2.1 53 (by decide) (by decide), F53]; exact nw.2.1) (by rw [F2.1 53 (by decide) (by decide), F53]; exact nw.2.2.1) (by rw [F2.1 53 (by decide) (by decide), F53]; exact nw.2.2.2.1) (by rw [F2.2 9 (by decide)]; exact P2) K2 pd.2.2.2.2.2 (by rw [F2.1 59 (by decide) (by decide), P4]; exact iv.1) (by rw [F2.2 11 (by decide), P5]; exact iv.2.1) (by rw [F2.2 11 (by decide), P5]; have := iv.2.2.1; omega) (by omega) (by omega) (fun k q1 q2 => by rw [F2.1 58 (by decide) (by decide), hrs k q1 q2]; exact srF_bd hT q1 (by omega)) (by omega) (by omega) ?_)
    rw [F2.1 58 (by decide) (by decide), F2.1 59 (by decide) (by decide), P4, F2.2 11 (by decide), P5, show (((T.getD n 0).toNat : Nat) : Int) = T.getD n 0 by omega, lst_congr (sg' := srF T) hPr.1 hPr.2.2.2.2.2.2.1 (by omega) hus, lfg_congr (sg' := srF T) hPr.1 (by omega) (fun k q1 q2 => hus k q1 (by omega))]
    intro h3 R3 C3 N3 K3 F3 G3
    refine go_iinc dX10_packsAll_34 rfl rfl rfl (by omega) (by omega) (by dsimp only [List.set]) ?_
    refine go_goto (tgt := 8) dX10_packsAll_37 (by decide) ?_
    refine ih hlt h3 ⟨?_, ?_, ?_, ?_, ?_, ?_⟩ (FrW.tr FW (FrW.tr F2.w ⟨fun i q1 q2 q3 q4 => F3 i q1 q2 q3, fun z q => G3 z (by omega) (by omega)⟩)) (fun _ => ?_)
    · rw [G3 7 (by decide) (by decide), F2.2 7 (by decide)]; exact P1
    · rw [N3]; rfl
    · intro k hk
      rw [R3]
      have q := hus k (by omega) (by omega)
      rw [q, srF_nat (by omega)]
    · rw [C3, ← hS]; rfl
    · rw [K3, ← hS]; rfl
    · have e : (pck o l r t T (n + 1)).2.2 = (pdn o T n S).2.2 := by rw [← hS]; rfl
      rw [e]; exact W2.congr (fun z q1 q2 => G3 z (by omega) (by omega)) (F3 60 (by decide) (by decide) (by decide))
    · rw [G3 24 (by decide) (by decide), K2, Nat.add_sub_cancel, hS]
  · have hie : n = T.length := by omega
    subst hie
    refine go_iload_n dX10_packsAll_8 rfl ?_
    refine go_aload_n dX10_packsAll_9 rfl ?_
    refine gfX10_now (by first | assumption | rfl) flX10_7 dX10_packsAll_10 ?_
    refine go_iconst dX10_packsAll_13 ⟨by decide, by decide⟩ ?_
    refine go_iaload (by first | assumption | rfl) dX10_packsAll_14 (by decide) (by decide) ?_
    rw [F53]
    refine go_icmp_ge_t (tgt := 40) dX10_packsAll_15 (by decide) (by rw [nw.2.2.2.2.1]; omega) ?_
    refine go_return dX10_packsAll_40 rfl ?_
    exact hQ hh PP FW KK
