/-! ===== Range: chooses, startsReading, endsLike; Odds ===== -/
set_option maxHeartbeats 4000000 in
set_option maxRecDepth 100000 in
theorem rg_chooses_w {x : mX} {h : mH} {Q : Int → mH → Prop} {g t : Nat} {s : Int} (hg : isRg g) (ht : isStg t) (h5 : h g 5 = 0) (h4 : h g 4 = s) (h0 : 0 ≤ s) (h1 : s < 4) (hQ : Q (if 0 < h (t + 1) s then s else 4) h) : CtI x mtX5_chooses [xR g, xR t] h Q := by
  refine ct_go (ls := [xR g, xR t, xU, xU]) (by decide +kernel) (Nat.le_of_ble_eq_true rfl) rfl ?_
  refine go_aload_n dX5_chooses_0 rfl ?_
  refine gfX5_reading hg.1 flX5_34 dX5_chooses_1 ?_
  refine go_if_ne_f (tgt := 16) dX5_chooses_4 (by decide) (h5) ?_
  refine go_aload_n dX5_chooses_7 rfl ?_
  refine go_aload_n dX5_chooses_8 rfl ?_
  refine gfX5_wanted hg.1 flX5_31 dX5_chooses_9 ?_
  rw [h4]
  refine go_cV1I ht.1 vlX5_64 dX5_chooses_12 (by decide) rfl rfl (by decide) (Nat.le_of_ble_eq_true rfl) (st_choiceFor ht h0 h1 ?_)
  refine go_ireturn dX5_chooses_15 rfl ?_
  exact hQ

set_option maxHeartbeats 4000000 in
set_option maxRecDepth 100000 in
theorem rg_chooses_r {x : mX} {h : mH} {Q : Int → mH → Prop} {g t : Nat} {bs : List Int} {c : Rd} {K : Int} (hg : isRg g) (ht : isStg t) (H : RgR h g bs c) (hN : CdN c.1 c.2.1) (hV : RdV K c) (ht1 : 1 ≤ h t 1) (ht2 : h t 1 ≤ 5000) (hwd : ∀ s : Nat, s < 5 → 0 ≤ h (t + 1) (s : Int) ∧ h (t + 1) (s : Int) ≤ 1000) (hQ : Q ((chAt (fun s => h (t + 1) (s : Int)) (((c.2.2.2.1 - c.1 + 1) * h t 1 - 1) / (c.2.1 - c.1 + 1)) : Nat) : Int) h) : CtI x mtX5_chooses [xR g, xR t] h Q := by
  obtain ⟨lo, hi, ow, va, nr⟩ := c
  have e1 : h g 1 = lo := H.1
  have e2 : h g 2 = hi := H.2.1
  have e5 : h g 5 = 1 := H.2.2.2.1
  have e6 : h g 6 = va := H.2.2.2.2.1
  obtain ⟨n1, n2, n3⟩ := hN
  obtain ⟨v1, v2, v3⟩ := hV
  dsimp only at n1 n2 n3 v1 v2 hQ
  have z1 : 1 * 1 ≤ (va - lo + 1) * h t 1 := Int.mul_le_mul (by omega) ht1 (by decide) (by omega)
  have z2 : (va - lo + 1) * h t 1 ≤ 65536 * 5000 := Int.mul_le_mul (by omega) ht2 (by omega) (by decide)
  have m1 : -2147483648 ≤ (va - lo + 1) * h t 1 ∧ (va - lo + 1) * h t 1 < 2147483648 := by omega
  refine ct_go (ls := [xR g, xR t, xU, xU]) (by decide +kernel) (Nat.le_of_ble_eq_true rfl) rfl ?_
  refine go_aload_n dX5_chooses_0 rfl ?_
  refine gfX5_reading hg.1 flX5_34 dX5_chooses_1 ?_
  refine go_if_ne_t (tgt := 16) dX5_chooses_4 (by decide) (by omega) ?_
  refine go_aload_n dX5_chooses_16 rfl ?_
  refine gfX5_high hg.1 flX5_25 dX5_chooses_17 ?_
  rw [e2]
  refine go_aload_n dX5_chooses_20 rfl ?_
  refine gfX5_low hg.1 flX5_20 dX5_chooses_21 ?_
  rw [e1]
  refine go_isub dX5_chooses_24 (by omega) (by omega) ?_
  refine go_iconst dX5_chooses_25 ⟨by decide, by decide⟩ ?_
  refine go_iadd dX5_chooses_26 (by omega) (by omega) ?_
  refine go_istore_n 2 dX5_chooses_27 rfl (Nat.le_of_ble_eq_true rfl) rfl (by dsimp only [List.set]) ?_
  refine go_iload_n dX5_chooses_28 rfl ?_
  refine go_if_le_f (tgt := 55) dX5_chooses_29 (by decide) (by omega) ?_
  refine go_aload_n dX5_chooses_32 rfl ?_
  refine gfX5_value hg.1 flX5_38 dX5_chooses_33 ?_
  rw [e6]
  refine go_aload_n dX5_chooses_36 rfl ?_
  refine gfX5_low hg.1 flX5_20 dX5_chooses_37 ?_
  rw [e1]
  refine go_isub dX5_chooses_40 (by omega) (by omega) ?_
  refine go_iconst dX5_chooses_41 ⟨by decide, by decide⟩ ?_
  refine go_iadd dX5_chooses_42 (by omega) (by omega) ?_
  refine go_aload_n dX5_chooses_43 rfl ?_
  refine gfX7_total ht.1 flX5_69 dX5_chooses_44 ?_
  refine go_imul dX5_chooses_47 (by exact m1.1) (by exact m1.2) ?_
  refine go_iconst dX5_chooses_48 ⟨by decide, by decide⟩ ?_
  refine go_isub dX5_chooses_49 (by omega) (by omega) ?_
  refine go_iload_n dX5_chooses_50 rfl ?_
  refine go_idiv dX5_chooses_51 (by omega) (by omega) ?_
  refine go_goto (tgt := 56) dX5_chooses_52 (by decide) ?_
  refine go_istore_n 3 dX5_chooses_56 rfl (Nat.le_of_ble_eq_true rfl) rfl (by dsimp only [List.set]) ?_
  refine go_aload_n dX5_chooses_57 rfl ?_
  refine go_iload_n dX5_chooses_58 rfl ?_
  refine go_cV1I ht.1 vlX5_72 dX5_chooses_59 (by decide) rfl rfl (by decide) (Nat.le_of_ble_eq_true rfl) (st_choiceAt ht hwd ?_)
  refine go_ireturn dX5_chooses_62 rfl ?_
  exact hQ

def v16 (sf : Int → Int) : Nat → Int
  | 0 => 0
  | k + 1 => 2 * v16 sf k + sf k
theorem v16_bd {sf : Int → Int} (hsf : ∀ k, sf k = 0 ∨ sf k = 1) : ∀ k, 0 ≤ v16 sf k ∧ v16 sf k + 1 ≤ 2 ^ k
  | 0 => by simp [v16]
  | k + 1 => by
    have h1 := v16_bd hsf k
    have h2 := hsf k
    rw [v16, pow2_s]
    omega
theorem pow_le16 : ∀ k : Nat, k ≤ 16 → (2 : Int) ^ k ≤ 65536 := by decide +kernel

set_option maxHeartbeats 4000000 in
set_option maxRecDepth 100000 in
theorem rg_startsReading {x : mX} {h : mH} {Q : mH → Prop} {g : Nat} {bs : List Int} (hg : isRg g) (H : RowL h (g + 1) bs) (hN : bs.length ≤ 722) (hsf : ∀ k, srF bs k = 0 ∨ srF bs k = 1) (hQ : ∀ h', RgR h' g bs (0, 65535, 0, v16 (srF bs) 16, 16) → (∀ i, i ≠ g → h' i = h i) → Q h') : CtV x mtX5_startsReading [xR g] h Q := by
  refine ct_go (ls := [xR g, xU]) (by decide +kernel) (Nat.le_of_ble_eq_true rfl) rfl ?_
  refine go_aload_n dX5_startsReading_0 rfl ?_
  refine go_cV0V hg.1 vlX5_47 dX5_startsReading_1 (by decide) rfl rfl (by decide) (Nat.le_of_ble_eq_true rfl) (rg_isWhole hg ?_)
  refine go_aload_n dX5_startsReading_4 rfl ?_
  refine go_iconst dX5_startsReading_5 ⟨by decide, by decide⟩ ?_
  refine pfX5_reading hg.1 flX5_34 dX5_startsReading_6 (by first | exact Or.inl rfl | exact Or.inr rfl) ?_
  refine go_aload_n dX5_startsReading_9 rfl ?_
  refine go_iconst dX5_startsReading_10 ⟨by decide, by decide⟩ ?_
  refine pfX5_value hg.1 flX5_38 dX5_startsReading_11 ?_
  refine go_iconst dX5_startsReading_14 ⟨by decide, by decide⟩ ?_
  refine go_istore_n 1 dX5_startsReading_15 rfl (Nat.le_of_ble_eq_true rfl) rfl (by dsimp only [List.set]) ?_
  refine up_indN (P := fun s => ∀ hh : mH, hh g 6 = v16 (srF bs) s → hh g 1 = 0 → hh g 2 = 65535 → hh g 3 = 0 → hh g 5 = 1 → (∀ i, i ≠ g → hh i = h i) → Go x mtX5_startsReading 16 [xR g, xI s] [] hh (qV Q)) 16 (fun s hs ih hh E6 E1 E2 E3 E5 EF => ?_) _ (hset_eq _ _ _ _) ?_ ?_ ?_ ?_ (fun i q => by rw [hset_ni q, hset_ni q, hset_ni q, hset_ni q, hset_ni q])
  · have hb := v16_bd hsf s
    have hp := pow_le16 s hs
    by_cases hlt : s < 16
    · skip
      refine go_iload_n dX5_startsReading_16 rfl ?_
      refine go_bipush dX5_startsReading_17 (by decide +kernel) ⟨by decide, by decide⟩ ?_
      refine go_icmp_ge_f (tgt := 47) dX5_startsReading_19 (by decide) (by omega) ?_
      refine go_aload_n dX5_startsReading_22 rfl ?_
      refine go_iconst dX5_startsReading_23 ⟨by decide, by decide⟩ ?_
      refine go_aload_n dX5_startsReading_24 rfl ?_
      refine gfX5_value hg.1 flX5_38 dX5_startsReading_25 ?_
      rw [E6]
      refine go_imul dX5_startsReading_28 (by omega) (by omega) ?_
      refine go_aload_n dX5_startsReading_29 rfl ?_
      refine gfX5_bits hg.1 flX5_14 dX5_startsReading_30 ?_
      refine go_iload_n dX5_startsReading_33 rfl ?_
      refine go_cV1I hg.2.1 vlX5_50 dX5_startsReading_34 (by decide) rfl rfl (by decide) (Nat.le_of_ble_eq_true rfl) (row_atL hg.2 (bs := bs) (H.congr (EF (g + 1) (by omega)) (EF (g + 1 + 1) (by omega))) hN ?_)
      have hz := hsf s
      refine go_iadd dX5_startsReading_37 (by omega) (by omega) ?_
      refine pfX5_value hg.1 flX5_38 dX5_startsReading_38 ?_
      refine go_iinc dX5_startsReading_41 rfl rfl rfl (by omega) (by omega) (by dsimp only [List.set]) ?_
      refine go_goto (tgt := 16) dX5_startsReading_44 (by decide) ?_
      rw [show 2 * v16 (srF bs) s + srF bs (s : Int) = v16 (srF bs) (s + 1) from rfl]
      refine ih (by omega) _ (hset_eq _ _ _ _) (by rw [hset_nk (by decide)]; exact E1) (by rw [hset_nk (by decide)]; exact E2) (by rw [hset_nk (by decide)]; exact E3) (by rw [hset_nk (by decide)]; exact E5) (fun i q => by rw [hset_ni q]; exact EF i q)
    · have hie : s = 16 := by omega
      subst hie
      refine go_iload_n dX5_startsReading_16 rfl ?_
      refine go_bipush dX5_startsReading_17 (by decide +kernel) ⟨by decide, by decide⟩ ?_
      refine go_icmp_ge_t (tgt := 47) dX5_startsReading_19 (by decide) (by omega) ?_
      refine go_aload_n dX5_startsReading_47 rfl ?_
      refine go_bipush dX5_startsReading_48 (by decide +kernel) ⟨by decide, by decide⟩ ?_
      refine pfX5_nextRead hg.1 flX5_41 dX5_startsReading_50 ?_
      refine go_return dX5_startsReading_53 rfl ?_
      refine hQ _ ⟨?_, ?_, ?_, ?_, ?_, ?_, H.congr (by rw [hset_ni (by omega)]; exact EF _ (by omega)) (by rw [hset_ni (by omega)]; exact EF _ (by omega))⟩ (fun i q => by rw [hset_ni q]; exact EF i q)
      · rw [hset_nk (by decide)]; exact E1
      · rw [hset_nk (by decide)]; exact E2
      · rw [hset_nk (by decide)]; exact E3
      · rw [hset_nk (by decide)]; exact E5
      · rw [hset_nk (by decide)]; exact E6
      · exact hset_eq _ _ _ _
  · rw [hset_nk (by decide), hset_nk (by decide), hset_nk (by decide), hset_nk (by decide), hset_eq]
  · rw [hset_nk (by decide), hset_nk (by decide), hset_nk (by decide), hset_eq]
  · rw [hset_nk (by decide), hset_nk (by decide), hset_eq]
  · rw [hset_nk (by decide), hset_eq]

theorem cpRow_L {h : mH} {r o : Nat} {bs : List Int} (H : RowL h o bs) : RowL (cpRow h r o (h o 1)) r bs := by
  refine ⟨by unfold cpRow; rw [if_pos ⟨rfl, rfl⟩]; exact H.1, fun k hk => ?_⟩
  unfold cpRow
  rw [if_neg (by omega), if_pos ⟨rfl, by omega, by rw [H.1]; omega⟩]
  exact H.2 k hk
theorem cpRow_ne {h : mH} {r o : Nat} {n : Int} {i : Nat} (h1 : i ≠ r) (h2 : i ≠ r + 1) : cpRow h r o n i = h i := by
  funext b; unfold cpRow; rw [if_neg (by omega), if_neg (by omega)]
theorem row_copiesL {x : mX} {h : mH} {Q : mH → Prop} {r o N K : Nat} {bs : List Int} (hr : isRow r N) (hro : isRow o K) (hd : r + 2 ≤ o ∨ o + 2 ≤ r) (H : RowL h o bs) (h1 : bs.length ≤ N) (h2 : bs.length ≤ K) (hQ : ∀ h', RowL h' r bs → FrR h h' r → Q h') : CtV x mtX6_copies [xR r, xR o] h Q :=
  row_copies (n := h o 1) hr hro (by omega) (by omega) (by omega) rfl (by rw [H.1]; omega) (by rw [H.1]; omega) (by rw [H.1]; omega) (hQ _ (cpRow_L H) (fun i a b => cpRow_ne a b))

set_option maxHeartbeats 4000000 in
set_option maxRecDepth 100000 in
theorem rg_endsLike {x : mX} {h : mH} {Q : mH → Prop} {g o : Nat} {c : Cd} (hg : isRg g) (ho : isRg o) (hgo : g + 3 ≤ o ∨ o + 3 ≤ g) (H : RgW h o c) (hD : Dn c + 2 ≤ 722) (hQ : ∀ h', RowL h' (g + 1) (c.2.2.2 ++ (if c.1 < 16384 then 0 else 1) :: List.replicate (c.2.2.1 + 1) (1 - (if c.1 < 16384 then 0 else 1))) → (∀ i, i ≠ g → i ≠ g + 1 → i ≠ g + 2 → h' i = h i) → Q h') : CtV x mtX5_endsLike [xR g, xR o] h Q := by
  obtain ⟨lo, hi, ow, bs⟩ := c
  dsimp only at hQ
  refine ct_go (ls := [xR g, xR o]) (by decide +kernel) (Nat.le_of_ble_eq_true rfl) rfl ?_
  refine go_aload_n dX5_endsLike_0 rfl ?_
  refine gfX5_bits hg.1 flX5_14 dX5_endsLike_1 ?_
  refine go_aload_n dX5_endsLike_4 rfl ?_
  refine gfX5_bits ho.1 flX5_14 dX5_endsLike_5 ?_
  refine go_cV1V hg.2.1 vlX5_54 dX5_endsLike_8 (by decide) rfl rfl (by decide) (Nat.le_of_ble_eq_true rfl) (row_copiesL (bs := bs) hg.2 ho.2 (by omega) H.2.2.2.2 (by unfold Dn at hD; dsimp only at hD; omega) (by unfold Dn at hD; dsimp only at hD; omega) ?_)
  intro h1 H1 F1
  have q3 : h1 o 3 = (ow : Int) := by rw [F1 o (by omega) (by omega)]; exact H.2.2.1
  have q1 : h1 o 1 = lo := by rw [F1 o (by omega) (by omega)]; exact H.1
  have hD2 : bs.length + ow + 2 ≤ 722 := hD
  refine go_aload_n dX5_endsLike_11 rfl ?_
  refine go_iconst dX5_endsLike_12 ⟨by decide, by decide⟩ ?_
  refine pfX5_reading hg.1 flX5_34 dX5_endsLike_13 (by first | exact Or.inl rfl | exact Or.inr rfl) ?_
  refine go_aload_n dX5_endsLike_16 rfl ?_
  refine go_aload_n dX5_endsLike_17 rfl ?_
  refine gfX5_owed ho.1 flX5_28 dX5_endsLike_18 ?_
  rw [hset_ni (show o ≠ g by omega), q3]
  refine go_iconst dX5_endsLike_21 ⟨by decide, by decide⟩ ?_
  refine go_iadd dX5_endsLike_22 (by omega) (by omega) ?_
  refine pfX5_owed hg.1 flX5_28 dX5_endsLike_23 ?_
  refine go_aload_n dX5_endsLike_26 rfl ?_
  refine go_aload_n dX5_endsLike_27 rfl ?_
  refine gfX5_low ho.1 flX5_20 dX5_endsLike_28 ?_
  rw [hset_ni (show o ≠ g by omega), hset_ni (show o ≠ g by omega), q1]
  refine go_sipush dX5_endsLike_31 (by decide +kernel) ⟨by decide, by decide⟩ ?_
  refine go_icmp_ge (tgt := 41) dX5_endsLike_34 (by decide) (fun c34 => ?_) (fun c34 => ?_)
  · refine go_iconst dX5_endsLike_41 ⟨by decide, by decide⟩ ?_
    refine go_cV1V hg.1 vlX5_58 dX5_endsLike_42 (by decide) rfl rfl (by decide) (Nat.le_of_ble_eq_true rfl) (rg_writesBit (c := (h1 g 1, h1 g 2, ow + 1, bs)) hg ⟨?_, ?_, ?_, ?_, ?_⟩ (by exact Or.inr rfl) ?_ ?_)
    · rw [hset_nk (by decide), hset_nk (by decide)]
    · rw [hset_nk (by decide), hset_nk (by decide)]
    · rw [hset_eq]; rfl
    · rw [hset_nk (by decide), hset_eq]
    · exact H1.congr (by rw [hset_ni (by omega), hset_ni (by omega)]) (by rw [hset_ni (by omega), hset_ni (by omega)])
    · show bs.length + (ow + 1) + 1 ≤ 722; omega
    · intro h2 H2 F2
      refine go_return dX5_endsLike_45 rfl ?_
      rw [if_neg (by omega)] at hQ
      refine hQ _ H2.2.2.2.2 (fun i a b c => ?_)
      rw [F2.1 i a b c, hset_ni a, hset_ni a]
      exact F1 i b c
  · refine go_iconst dX5_endsLike_37 ⟨by decide, by decide⟩ ?_
    refine go_goto (tgt := 42) dX5_endsLike_38 (by decide) ?_
    refine go_cV1V hg.1 vlX5_58 dX5_endsLike_42 (by decide) rfl rfl (by decide) (Nat.le_of_ble_eq_true rfl) (rg_writesBit (c := (h1 g 1, h1 g 2, ow + 1, bs)) hg ⟨?_, ?_, ?_, ?_, ?_⟩ (by exact Or.inl rfl) ?_ ?_)
    · rw [hset_nk (by decide), hset_nk (by decide)]
    · rw [hset_nk (by decide), hset_nk (by decide)]
    · rw [hset_eq]; rfl
    · rw [hset_nk (by decide), hset_eq]
    · exact H1.congr (by rw [hset_ni (by omega), hset_ni (by omega)]) (by rw [hset_ni (by omega), hset_ni (by omega)])
    · show bs.length + (ow + 1) + 1 ≤ 722; omega
    · intro h2 H2 F2
      refine go_return dX5_endsLike_45 rfl ?_
      rw [if_pos (by omega)] at hQ
      refine hQ _ H2.2.2.2.2 (fun i a b c => ?_)
      rw [F2.1 i a b c, hset_ni a, hset_ni a]
      exact F1 i b c

def isOd (d : Nat) : Prop := kd d = 2

set_option maxHeartbeats 4000000 in
set_option maxRecDepth 100000 in
theorem od_wants {x : mX} {h : mH} {Q : mH → Prop} {d : Nat} {s : Int} (hd : isOd d) (hQ : Q (hset (hset (hset (hset h d 0 s) d 1 (-1)) d 2 1) d 3 1)) : CtV x mtX2_wants [xR d, xI s] h Q := by
  refine ct_go (ls := [xR d, xI s]) (by decide +kernel) (Nat.le_of_ble_eq_true rfl) rfl ?_
  refine go_aload_n dX2_wants_0 rfl ?_
  refine go_iload_n dX2_wants_1 rfl ?_
  refine pfX2_wanted hd flX2_9 dX2_wants_2 ?_
  refine go_aload_n dX2_wants_5 rfl ?_
  refine go_iconst dX2_wants_6 ⟨by decide, by decide⟩ ?_
  refine pfX2_escaped hd flX2_15 dX2_wants_7 ?_
  refine go_aload_n dX2_wants_10 rfl ?_
  refine go_lconst (z := 1) dX2_wants_11 (by decide +kernel) ⟨by decide, by decide⟩ ?_
  refine pfX2_upper hd flX2_18 dX2_wants_12 ?_
  refine go_aload_n dX2_wants_15 rfl ?_
  refine go_lconst (z := 1) dX2_wants_16 (by decide +kernel) ⟨by decide, by decide⟩ ?_
  refine pfX2_lower hd flX2_22 dX2_wants_17 ?_
  refine go_return dX2_wants_20 rfl ?_
  exact hQ

set_option maxHeartbeats 4000000 in
set_option maxRecDepth 100000 in
theorem od_chooses {x : mX} {h : mH} {Q : Int → mH → Prop} {d t : Nat} {s : Int} (hd : isOd d) (ht : isStg t) (e0 : h d 0 = s) (h0 : 0 ≤ s) (h1 : s < 4) (hQ : Q (if 0 < h (t + 1) s then s else 4) h) : CtI x mtX2_chooses [xR d, xR t] h Q := by
  refine ct_go (ls := [xR d, xR t]) (by decide +kernel) (Nat.le_of_ble_eq_true rfl) rfl ?_
  refine go_aload_n dX2_chooses_0 rfl ?_
  refine go_aload_n dX2_chooses_1 rfl ?_
  refine gfX2_wanted hd flX2_9 dX2_chooses_2 ?_
  rw [e0]
  refine go_cV1I ht.1 vlX2_25 dX2_chooses_5 (by decide) rfl rfl (by decide) (Nat.le_of_ble_eq_true rfl) (st_choiceFor ht h0 h1 ?_)
  refine go_ireturn dX2_chooses_8 rfl ?_
  exact hQ

set_option maxHeartbeats 4000000 in
set_option maxRecDepth 100000 in
theorem od_takes {x : mX} {h : mH} {Q : mH → Prop} {d : Nat} {b w t : Int} (hd : isOd d) (e1 : -1 ≤ h d 1) (e2 : h d 1 ≤ 1000) (m1 : inL (h d 2 * w)) (m2 : inL (h d 3 * t)) (hQ : Q (hset (hset (hset h d 1 (h d 1 + 1)) d 2 (h d 2 * w)) d 3 (h d 3 * t))) : CtV x mtX2_takes [xR d, xI b, xI w, xI t] h Q := by
  refine ct_go (ls := [xR d, xI b, xI w, xI t]) (by decide +kernel) (Nat.le_of_ble_eq_true rfl) rfl ?_
  refine go_aload_n dX2_takes_0 rfl ?_
  first | refine go_dupR dX2_takes_1 ?_ | refine go_dupI dX2_takes_1 ?_
  refine gfX2_escaped hd flX2_15 dX2_takes_2 ?_
  refine go_iconst dX2_takes_5 ⟨by decide, by decide⟩ ?_
  refine go_iadd dX2_takes_6 (by omega) (by omega) ?_
  refine pfX2_escaped hd flX2_15 dX2_takes_7 ?_
  refine go_aload_n dX2_takes_10 rfl ?_
  first | refine go_dupR dX2_takes_11 ?_ | refine go_dupI dX2_takes_11 ?_
  refine gfX2_upper hd flX2_18 dX2_takes_12 ?_
  rw [hset_nk (show (2 : Int) ≠ 1 by decide)]
  refine go_iload_n dX2_takes_15 rfl ?_
  refine go_i2l dX2_takes_16 ?_
  refine go_lmul dX2_takes_17 (m1) ?_
  refine pfX2_upper hd flX2_18 dX2_takes_18 ?_
  refine go_aload_n dX2_takes_21 rfl ?_
  first | refine go_dupR dX2_takes_22 ?_ | refine go_dupI dX2_takes_22 ?_
  refine gfX2_lower hd flX2_22 dX2_takes_23 ?_
  rw [hset_nk (show (3 : Int) ≠ 2 by decide), hset_nk (show (3 : Int) ≠ 1 by decide)]
  refine go_iload_n dX2_takes_26 rfl ?_
  refine go_i2l dX2_takes_27 ?_
  refine go_lmul dX2_takes_28 (m2) ?_
  refine pfX2_lower hd flX2_22 dX2_takes_29 ?_
  refine go_return dX2_takes_32 rfl ?_
  exact hQ
