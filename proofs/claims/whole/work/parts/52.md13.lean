/-! ===== the model: unpacked, agrees ===== -/
theorem MdS.src {h h' : mH} {a : Ab} (H : MdS h a) (F : ∀ i, i ≠ 52 → i ≠ 60 → i ≠ 61 → h' i = h i) (e2 : h' 52 2 = h 52 2) (e6 : h' 52 6 = h 52 6) : MdS h' a := by
  obtain ⟨L, N, U, ⟨I, J⟩, Z⟩ := H
  exact ⟨L.congr e6 (F 57 (by decide) (by decide) (by decide)), by rw [F 53 (by decide) (by decide) (by decide)]; exact N, U.congr e2 (F 54 (by decide) (by decide) (by decide)), ⟨I.congr (F 56 (by decide) (by decide) (by decide)) (F 55 (by decide) (by decide) (by decide)), J.congr (F 56 (by decide) (by decide) (by decide)) (F 55 (by decide) (by decide) (by decide))⟩, by rw [F 59 (by decide) (by decide) (by decide)]; exact Z⟩
theorem bts_at {lt : List Int} {k : Nat} (h : k < lt.length) : (bts lt).getD k 0 = lt.getD k 0 - 48 := by
  unfold bts
  rw [List.getD_eq_getElem?_getD, List.getD_eq_getElem?_getD, List.getElem?_map, List.getElem?_eq_getElem h]; rfl
theorem bts_len (lt : List Int) : (bts lt).length = lt.length := by unfold bts; rw [List.length_map]

set_option maxHeartbeats 4000000 in
set_option maxRecDepth 100000 in
theorem md_unpacked {x : mX} {h : mH} {Q : Int → mH → Prop} {i : Int} {a : Ab} (H : MdS h a) (ok : AbOk a) (hQ : ∀ h', MdS h' a → FrM h h' → Q (sp_unpacked i a) h') : CtI x mtX10_unpacked [xR 52, xI i] h Q := by
  have hl2 := ok.1.1
  have e6 := H.1.1
  have hfo := fo9_c (lo := 48) (hi := 49) a.1
  refine ct_go (ls := [xR 52, xI i, xU, xU]) (by decide +kernel) (Nat.le_of_ble_eq_true rfl) rfl ?_
  refine go_iload_n dX10_unpacked_0 rfl ?_
  refine go_iconst dX10_unpacked_1 ⟨by decide, by decide⟩ ?_
  refine go_bipush dX10_unpacked_2 (by decide +kernel) ⟨by decide, by decide⟩ ?_
  refine go_cS3I slX10_164 dX10_unpacked_4 (by decide) (Nat.le_of_ble_eq_true rfl) (md_within ?_)
  refine go_if_ne (tgt := 12) dX10_unpacked_7 (by decide) (fun c7 => ?_) (fun c7 => ?_)
  · refine go_aload_n dX10_unpacked_12 rfl ?_
    refine go_bipush dX10_unpacked_13 (by decide +kernel) ⟨by decide, by decide⟩ ?_
    refine go_bipush dX10_unpacked_15 (by decide +kernel) ⟨by decide, by decide⟩ ?_
    refine go_cV2I (by first | assumption | rfl) vlX10_183 dX10_unpacked_17 (by decide) rfl rfl (by decide) (Nat.le_of_ble_eq_true rfl) (md_wrong H.1 hl2 ?_)
    refine go_istore_n 2 dX10_unpacked_20 rfl (Nat.le_of_ble_eq_true rfl) rfl (by dsimp only [List.set]) ?_
    refine go_iload_n dX10_unpacked_21 rfl ?_
    refine go_bipush dX10_unpacked_22 (by decide +kernel) ⟨by decide, by decide⟩ ?_
    refine go_icmp_eq (tgt := 32) dX10_unpacked_24 (by decide) (fun c24 => ?_) (fun c24 => ?_)
    · refine go_aload_n dX10_unpacked_32 rfl ?_
      refine go_aload_n dX10_unpacked_33 rfl ?_
      refine gfX10_letters (by first | assumption | rfl) flX10_168 dX10_unpacked_34 ?_
      try simp (disch := decide) only [hset_eq, hset_nk, hset_ni, e6]
      refine pfX10_sourceMany (by first | assumption | rfl) flX10_81 dX10_unpacked_37 ?_
      refine go_iconst dX10_unpacked_40 ⟨by decide, by decide⟩ ?_
      refine go_istore_n 3 dX10_unpacked_41 rfl (Nat.le_of_ble_eq_true rfl) rfl (by dsimp only [List.set]) ?_
      have hi := if10 c7
      rcases hfo with q | q
      rotate_left
      · exact absurd c24 q.1
      have hsf := srF_01 (bts_01 q.2.2)
      refine up_indN (P := fun n => ∀ hh : mH, (∀ k : Nat, k < n → hh 61 k = (bts a.1).getD k 0) → (∀ i, i ≠ 52 → i ≠ 61 → hh i = h i) → (∀ z, z ≠ 19 → hh 52 z = h 52 z) → hh 52 19 = (a.1.length : Int) → Go x mtX10_unpacked 42 [xR 52, xI i, xI (fo9 (fou 48 49 a.1 0)), xI (n : Int)] [] hh (qI Q)) a.1.length (fun n hn ih hh K1 F1 G1 E19 => ?_) _ (fun k hk => absurd hk (Nat.not_lt_zero k)) (fun i q1 q2 => hset_ni q1) (fun z q => hset_nk q) (hset_eq _ _ _ _)
      have E6 : hh 52 6 = (a.1.length : Int) := (G1 6 (by decide)).trans e6
      have HH : MdS hh a := H.src (fun i q1 _ q2 => F1 i q1 q2) (G1 2 (by decide)) (G1 6 (by decide))
      by_cases hlt : n < a.1.length
      · have hz := q.2.2 (a.1.getD n 0) (by rw [List.getD_eq_getElem?_getD, List.getElem?_eq_getElem hlt]; exact List.getElem_mem hlt)
        refine go_iload_n dX10_unpacked_42 rfl ?_
        refine go_aload_n dX10_unpacked_43 rfl ?_
        refine gfX10_letters (by first | assumption | rfl) flX10_168 dX10_unpacked_44 ?_
        try simp (disch := decide) only [hset_eq, hset_nk, hset_ni, E6]
        refine go_icmp_ge_f (tgt := 71) dX10_unpacked_47 (by decide) (by omega) ?_
        refine go_aload_n dX10_unpacked_50 rfl ?_
        refine gfX10_source (by first | assumption | rfl) flX10_35 dX10_unpacked_51 ?_
        refine go_iload_n dX10_unpacked_54 rfl ?_
        refine go_aload_n dX10_unpacked_55 rfl ?_
        refine gfX10_text (by first | assumption | rfl) flX10_23 dX10_unpacked_56 ?_
        refine go_iload_n dX10_unpacked_59 rfl ?_
        refine go_iaload (by first | assumption | rfl) dX10_unpacked_60 (by omega) (by show (n : Int) < 200; omega) ?_
        rw [F1 57 (by decide) (by decide), H.1.2 n hlt]
        refine go_bipush dX10_unpacked_61 (by decide +kernel) ⟨by decide, by decide⟩ ?_
        refine go_isub dX10_unpacked_63 (by omega) (by omega) ?_
        refine go_iastore (by first | assumption | rfl) dX10_unpacked_64 (by omega) (by show (n : Int) < 2800; omega) ?_
        refine go_iinc dX10_unpacked_65 rfl rfl rfl (by omega) (by omega) (by dsimp only [List.set]) ?_
        refine go_goto (tgt := 42) dX10_unpacked_68 (by decide) ?_
        refine ih hlt _ (fun k hk => ?_) (fun i q1 q2 => by rw [hset_ni q2]; exact F1 i q1 q2) (fun z q => by rw [hset_ni (by decide)]; exact G1 z q) (by rw [hset_ni (by decide)]; exact E19)
        by_cases e : k = n
        · subst e; rw [hset_eq, bts_at hlt]
        · rw [hset_nk (by omega)]; exact K1 k (by omega)
      · have hie : n = a.1.length := by omega
        subst hie
        refine go_iload_n dX10_unpacked_42 rfl ?_
        refine go_aload_n dX10_unpacked_43 rfl ?_
        refine gfX10_letters (by first | assumption | rfl) flX10_168 dX10_unpacked_44 ?_
        try simp (disch := decide) only [hset_eq, hset_nk, hset_ni, E6]
        refine go_icmp_ge_t (tgt := 71) dX10_unpacked_47 (by decide) (by omega) ?_
        refine go_aload_n dX10_unpacked_71 rfl ?_
        refine go_iload_n dX10_unpacked_72 rfl ?_
        refine go_iconst dX10_unpacked_73 ⟨by decide, by decide⟩ ?_
        refine go_iadd dX10_unpacked_74 (by omega) (by omega) ?_
        rw [show i + 1 = ((i.toNat + 1 : Nat) : Int) by omega]
        refine go_cV1V rfl vlX10_203 dX10_unpacked_75 (by decide) rfl rfl (by decide) (Nat.le_of_ble_eq_true rfl) (md_unpacks (bs := bts a.1) ok.2.1.1 HH.2.1 HH.2.2.2.2 ⟨by rw [E19, bts_len], fun k hk => K1 k (by rw [bts_len] at hk; exact hk)⟩ (by rw [bts_len]; omega) hsf (by omega) ?_)
        intro h4 R4 F4 Z4
        refine go_aload_n dX10_unpacked_78 rfl ?_
        refine gfX10_run (by first | assumption | rfl) flX10_26 dX10_unpacked_79 ?_
        refine go_iload_n dX10_unpacked_82 rfl ?_
        refine go_iaload (by first | assumption | rfl) dX10_unpacked_83 (by omega) (by show i < 60; omega) ?_
        refine go_ireturn dX10_unpacked_84 rfl ?_
        have R5 := R4 i.toNat (by omega)
        rw [Int.toNat_of_nonneg hi.1, rdk_at _ (by omega)] at R5
        have e9 : sp_unpacked i a = rsg a.2.1.1 a.2.1.2.1 a.2.1.2.2.1 a.2.1.2.2.2.1 (srF (bts a.1)) i.toNat := by unfold sp_unpacked; rw [if_neg (by omega), if_neg (by omega)]
        rw [R5, ← e9]
        exact hQ h4 (HH.w F4 Z4) (FrM.tr (fun i q => F1 i (by omega) (by omega)) F4.m)
    · refine go_bipush dX10_unpacked_27 (by decide +kernel) ⟨by decide, by decide⟩ ?_
      refine go_iload_n dX10_unpacked_29 rfl ?_
      refine go_isub dX10_unpacked_30 (by omega) (by omega) ?_
      refine go_ireturn dX10_unpacked_31 rfl ?_
      have hi := if10 c7
      rcases hfo with q | q
      · exact absurd q.1 c24
      · have e9 : sp_unpacked i a = -10 - fou 48 49 a.1 0 := by unfold sp_unpacked; rw [if_neg (fun z => z hi), if_pos q.2.2.1]
        rw [q.2.1, ← e9]
        exact hQ h H FrM.rf
  · refine go_iconst dX10_unpacked_10 ⟨by decide, by decide⟩ ?_
    refine go_ireturn dX10_unpacked_11 rfl ?_
    have q := if01 c7
    have e9 : sp_unpacked i a = -1 := by unfold sp_unpacked; rw [if_pos q]
    rw [e9] at hQ; exact hQ h H FrM.rf

set_option maxHeartbeats 4000000 in
set_option maxRecDepth 100000 in
theorem md_agrees {x : mX} {h : mH} {Q : Int → mH → Prop} {a : Ab} (H : MdS h a) (ok : AbOk a) (hQ : ∀ h', MdS h' a → FrM h h' → Q (sp_agrees a) h') : CtI x mtX10_agrees [xR 52] h Q := by
  have hl := ok.2.1.2.1
  have hD := pck_D ok.2.1.1 ok.2.1.2 (Nat.le_refl _)
  have hDe : Dn (pkn a).2.2 ≤ 720 := hD
  have hN2 : (ebs (pkn a).2.2).length ≤ 2800 := by rw [ebs_len]; omega
  have hsf := srF_01 (bs := ebs (pkn a).2.2) (b01_put (pck_01 _) (ebt_01 _))
  unfold sp_agrees at hQ
  refine ct_go (ls := [xR 52, xU]) (by decide +kernel) (Nat.le_of_ble_eq_true rfl) rfl ?_
  refine go_aload_n dX10_agrees_0 rfl ?_
  refine go_cV0V (by first | assumption | rfl) vlX10_180 dX10_agrees_1 (by decide) rfl rfl (by decide) (Nat.le_of_ble_eq_true rfl) (md_packsNow H ok ?_)
  intro h1 H1 P1 F1 K1
  have W1 : MW h1 (pkn a).2.2 := P1.2.2.2.2.2
  obtain ⟨C, hC⟩ : ∃ C, (pkn a).2.2 = C := ⟨_, rfl⟩
  rw [hC] at W1 hN2 hsf hDe
  obtain ⟨lo, hi, ow, bs⟩ := C
  have e14 : h1 52 14 = (ow : Int) := W1.2.2.1
  have e12 : h1 52 12 = lo := W1.1
  have eB : BitL h1 bs := W1.2.2.2.1
  unfold Dn at hDe
  dsimp only at hDe
  refine go_aload_n dX10_agrees_4 rfl ?_
  first | refine go_dupR dX10_agrees_5 ?_ | refine go_dupI dX10_agrees_5 ?_
  refine gfX10_owed (by first | assumption | rfl) flX10_62 dX10_agrees_6 ?_
  try simp (disch := decide) only [hset_eq, hset_nk, hset_ni, e14, e12]
  refine go_iconst dX10_agrees_9 ⟨by decide, by decide⟩ ?_
  refine go_iadd dX10_agrees_10 (by omega) (by omega) ?_
  refine pfX10_owed (by first | assumption | rfl) flX10_62 dX10_agrees_11 ?_
  refine go_aload_n dX10_agrees_14 rfl ?_
  refine go_aload_n dX10_agrees_15 rfl ?_
  refine gfX10_low (by first | assumption | rfl) flX10_55 dX10_agrees_16 ?_
  try simp (disch := decide) only [hset_eq, hset_nk, hset_ni, e14, e12]
  refine go_sipush dX10_agrees_19 (by decide +kernel) ⟨by decide, by decide⟩ ?_
  refine go_icmp_ge (tgt := 29) dX10_agrees_22 (by decide) (fun c22 => ?_) (fun c22 => ?_)
  · refine go_iconst dX10_agrees_29 ⟨by decide, by decide⟩ ?_
    have eb : ebt (lo, hi, ow, bs) = 1 := by unfold ebt; rw [if_neg (by omega)]
    refine go_cV1V rfl vlX10_86 dX10_agrees_30 (by decide) rfl rfl (by decide) (Nat.le_of_ble_eq_true rfl) (md_puts (bs := bs) (ow := ow + 1) (b := 1) (eB.congr (by simp (disch := decide) only [hset_eq, hset_nk, hset_ni]) (by simp (disch := decide) only [hset_eq, hset_nk, hset_ni])) (by decide) (by simp (disch := decide) only [hset_eq, hset_nk, hset_ni]; rfl) (by omega) ?_)
    intro h2 B2 E14 F2 G2
    have eeb : bs ++ 1 :: List.replicate (ow + 1) (1 - 1) = ebs (pkn a).2.2 := by rw [hC]; unfold ebs; rw [eb]
    rw [eeb] at B2
    have E16 : h2 52 16 = ((ebs (pkn a).2.2).length : Int) := B2.1
    rw [← hC] at hN2 hsf
    refine go_aload_n dX10_agrees_33 rfl ?_
    refine go_aload_n dX10_agrees_34 rfl ?_
    refine gfX10_bitMany (by first | assumption | rfl) flX10_65 dX10_agrees_35 ?_
    try simp (disch := decide) only [hset_eq, hset_nk, hset_ni, E16]
    refine pfX10_sourceMany (by first | assumption | rfl) flX10_81 dX10_agrees_38 ?_
    refine go_iconst dX10_agrees_41 ⟨by decide, by decide⟩ ?_
    refine go_istore_n 1 dX10_agrees_42 rfl (Nat.le_of_ble_eq_true rfl) rfl (by dsimp only [List.set]) ?_
    refine up_indN (P := fun n => ∀ hh : mH, (∀ k : Nat, k < n → hh 61 k = (ebs (pkn a).2.2).getD k 0) → (∀ i, i ≠ 52 → i ≠ 61 → hh i = h2 i) → (∀ z, z ≠ 19 → hh 52 z = h2 52 z) → hh 52 19 = ((ebs (pkn a).2.2).length : Int) → Go x mtX10_agrees 43 [xR 52, xI (n : Int)] [] hh (qI Q)) (ebs (pkn a).2.2).length (fun n hn ih hh K3 F3 G3 E19 => ?_) _ (fun k hk => absurd hk (Nat.not_lt_zero k)) (fun i q1 q2 => hset_ni q1) (fun z q => hset_nk q) (hset_eq _ _ _ _)
    have E16 : hh 52 16 = ((ebs (pkn a).2.2).length : Int) := (G3 16 (by decide)).trans B2.1
    have HH : MdS hh a := H1.src (fun i q1 q2 q3 => by rw [F3 i q1 q3, F2 i q1 q2, hset_ni q1]) (by rw [G3 2 (by decide), G2 2 (by decide) (by decide), hset_nk (by decide)]) (by rw [G3 6 (by decide), G2 6 (by decide) (by decide), hset_nk (by decide)])
    by_cases hlt : n < (ebs (pkn a).2.2).length
    · skip
      refine go_iload_n dX10_agrees_43 rfl ?_
      refine go_aload_n dX10_agrees_44 rfl ?_
      refine gfX10_bitMany (by first | assumption | rfl) flX10_65 dX10_agrees_45 ?_
      try simp (disch := decide) only [hset_eq, hset_nk, hset_ni, E16]
      refine go_icmp_ge_f (tgt := 69) dX10_agrees_48 (by decide) (by omega) ?_
      refine go_aload_n dX10_agrees_51 rfl ?_
      refine gfX10_source (by first | assumption | rfl) flX10_35 dX10_agrees_52 ?_
      refine go_iload_n dX10_agrees_55 rfl ?_
      refine go_aload_n dX10_agrees_56 rfl ?_
      refine gfX10_bits (by first | assumption | rfl) flX10_32 dX10_agrees_57 ?_
      refine go_iload_n dX10_agrees_60 rfl ?_
      refine go_iaload (by first | assumption | rfl) dX10_agrees_61 (by omega) (by show (n : Int) < 2800; omega) ?_
      rw [F3 60 (by decide) (by decide), B2.2 n hlt]
      refine go_iastore (by first | assumption | rfl) dX10_agrees_62 (by omega) (by show (n : Int) < 2800; omega) ?_
      refine go_iinc dX10_agrees_63 rfl rfl rfl (by omega) (by omega) (by dsimp only [List.set]) ?_
      refine go_goto (tgt := 43) dX10_agrees_66 (by decide) ?_
      refine ih hlt _ (fun k hk => ?_) (fun i q1 q2 => by rw [hset_ni q2]; exact F3 i q1 q2) (fun z q => by rw [hset_ni (by decide)]; exact G3 z q) (by rw [hset_ni (by decide)]; exact E19)
      by_cases e : k = n
      · subst e; rw [hset_eq]
      · rw [hset_nk (by omega)]; exact K3 k (by omega)
    · have hie : n = (ebs (pkn a).2.2).length := by omega
      subst hie
      refine go_iload_n dX10_agrees_43 rfl ?_
      refine go_aload_n dX10_agrees_44 rfl ?_
      refine gfX10_bitMany (by first | assumption | rfl) flX10_65 dX10_agrees_45 ?_
      try simp (disch := decide) only [hset_eq, hset_nk, hset_ni, E16]
      refine go_icmp_ge_t (tgt := 69) dX10_agrees_48 (by decide) (by omega) ?_
      refine go_aload_n dX10_agrees_69 rfl ?_
      refine go_aload_n dX10_agrees_70 rfl ?_
      refine gfX10_now (by first | assumption | rfl) flX10_7 dX10_agrees_71 ?_
      refine go_iconst dX10_agrees_74 ⟨by decide, by decide⟩ ?_
      refine go_iaload (by first | assumption | rfl) dX10_agrees_75 (by decide) (by decide) ?_
      rw [HH.2.1.2.2.2.2.1]
      refine go_cV1V (by first | assumption | rfl) vlX10_203 dX10_agrees_76 (by decide) rfl rfl (by decide) (Nat.le_of_ble_eq_true rfl) (md_unpacks (bs := ebs (pkn a).2.2) ok.2.1.1 HH.2.1 HH.2.2.2.2 ⟨E19, K3⟩ hN2 hsf hl ?_)
      intro h5 R5 F5 Z5
      have H5 := HH.w F5 Z5
      have N5 := H5.2.1
      have G5 : FrM h h5 := FrM.tr F1.m (FrM.tr (fun i q => by rw [F2 i (by omega) (by omega), hset_ni (by omega)]) (FrM.tr (fun i q => F3 i (by omega) (by omega)) F5.m))
      refine go_iconst dX10_agrees_79 ⟨by decide, by decide⟩ ?_
      refine go_istore_n 1 dX10_agrees_80 rfl (Nat.le_of_ble_eq_true rfl) rfl (by dsimp only [List.set]) ?_
      refine up_indN (P := fun n => agr (agf a) a.2.1.2.2.2.2 (a.2.1.2.2.2.2.length - n) n = agr (agf a) a.2.1.2.2.2.2 a.2.1.2.2.2.2.length 0 → Go x mtX10_agrees 81 [xR 52, xI (n : Int)] [] h5 (qI Q)) a.2.1.2.2.2.2.length (fun n hn ih hag => ?_) rfl
      by_cases hlt : n < a.2.1.2.2.2.2.length
      · skip
        refine go_iload_n dX10_agrees_81 rfl ?_
        refine go_aload_n dX10_agrees_82 rfl ?_
        refine gfX10_now (by first | assumption | rfl) flX10_7 dX10_agrees_83 ?_
        refine go_iconst dX10_agrees_86 ⟨by decide, by decide⟩ ?_
        refine go_iaload (by first | assumption | rfl) dX10_agrees_87 (by decide) (by decide) ?_
        refine go_icmp_ge_f (tgt := 114) dX10_agrees_88 (by decide) (by rw [N5.2.2.2.2.1]; omega) ?_
        refine go_aload_n dX10_agrees_91 rfl ?_
        refine gfX10_run (by first | assumption | rfl) flX10_26 dX10_agrees_92 ?_
        refine go_iload_n dX10_agrees_95 rfl ?_
        refine go_iaload (by first | assumption | rfl) dX10_agrees_96 (by omega) (by show (n : Int) < 60; omega) ?_
        rw [R5 n hlt, rdk_at _ hlt, show rsg a.2.1.1 a.2.1.2.1 a.2.1.2.2.1 a.2.1.2.2.2.1 (srF (ebs (pkn a).2.2)) n = agf a n from rfl]
        refine go_aload_n dX10_agrees_97 rfl ?_
        refine gfX10_now (by first | assumption | rfl) flX10_7 dX10_agrees_98 ?_
        refine go_iconst dX10_agrees_101 ⟨by decide, by decide⟩ ?_
        refine go_iload_n dX10_agrees_102 rfl ?_
        refine go_iadd dX10_agrees_103 (by omega) (by omega) ?_
        refine go_iaload (by first | assumption | rfl) dX10_agrees_104 (by omega) (by show 5 + (n : Int) < 65; omega) ?_
        rw [N5.2.2.2.2.2 n hlt]
        refine go_icmp_ne (tgt := 114) dX10_agrees_105 (by decide) (fun c105 => ?_) (fun c105 => ?_)
        · refine go_iload_n dX10_agrees_114 rfl ?_
          refine go_ireturn dX10_agrees_115 rfl ?_
          rw [show a.2.1.2.2.2.2.length - n = (a.2.1.2.2.2.2.length - (n + 1)) + 1 by omega, agr, if_neg c105] at hag
          rw [← hag] at hQ
          exact hQ h5 H5 G5
        · refine go_iinc dX10_agrees_108 rfl rfl rfl (by omega) (by omega) (by dsimp only [List.set]) ?_
          refine go_goto (tgt := 81) dX10_agrees_111 (by decide) ?_
          refine ih hlt ?_
          rw [← hag, show a.2.1.2.2.2.2.length - n = (a.2.1.2.2.2.2.length - (n + 1)) + 1 by omega, agr, if_pos c105]
      · have hie : n = a.2.1.2.2.2.2.length := by omega
        subst hie
        refine go_iload_n dX10_agrees_81 rfl ?_
        refine go_aload_n dX10_agrees_82 rfl ?_
        refine gfX10_now (by first | assumption | rfl) flX10_7 dX10_agrees_83 ?_
        refine go_iconst dX10_agrees_86 ⟨by decide, by decide⟩ ?_
        refine go_iaload (by first | assumption | rfl) dX10_agrees_87 (by decide) (by decide) ?_
        refine go_icmp_ge_t (tgt := 114) dX10_agrees_88 (by decide) (by rw [N5.2.2.2.2.1]; omega) ?_
        refine go_iload_n dX10_agrees_114 rfl ?_
        refine go_ireturn dX10_agrees_115 rfl ?_
        rw [Nat.sub_self, agr] at hag
        rw [← hag] at hQ
        exact hQ h5 H5 G5
  · refine go_iconst dX10_agrees_25 ⟨by decide, by decide⟩ ?_
    refine go_goto (tgt := 30) dX10_agrees_26 (by decide) ?_
    have eb : ebt (lo, hi, ow, bs) = 0 := by unfold ebt; rw [if_pos (by omega)]
    refine go_cV1V rfl vlX10_86 dX10_agrees_30 (by decide) rfl rfl (by decide) (Nat.le_of_ble_eq_true rfl) (md_puts (bs := bs) (ow := ow + 1) (b := 0) (eB.congr (by simp (disch := decide) only [hset_eq, hset_nk, hset_ni]) (by simp (disch := decide) only [hset_eq, hset_nk, hset_ni])) (by decide) (by simp (disch := decide) only [hset_eq, hset_nk, hset_ni]; rfl) (by omega) ?_)
    intro h2 B2 E14 F2 G2
    have eeb : bs ++ 0 :: List.replicate (ow + 1) (1 - 0) = ebs (pkn a).2.2 := by rw [hC]; unfold ebs; rw [eb]
    rw [eeb] at B2
    have E16 : h2 52 16 = ((ebs (pkn a).2.2).length : Int) := B2.1
    rw [← hC] at hN2 hsf
    refine go_aload_n dX10_agrees_33 rfl ?_
    refine go_aload_n dX10_agrees_34 rfl ?_
    refine gfX10_bitMany (by first | assumption | rfl) flX10_65 dX10_agrees_35 ?_
    try simp (disch := decide) only [hset_eq, hset_nk, hset_ni, E16]
    refine pfX10_sourceMany (by first | assumption | rfl) flX10_81 dX10_agrees_38 ?_
    refine go_iconst dX10_agrees_41 ⟨by decide, by decide⟩ ?_
    refine go_istore_n 1 dX10_agrees_42 rfl (Nat.le_of_ble_eq_true rfl) rfl (by dsimp only [List.set]) ?_
    refine up_indN (P := fun n => ∀ hh : mH, (∀ k : Nat, k < n → hh 61 k = (ebs (pkn a).2.2).getD k 0) → (∀ i, i ≠ 52 → i ≠ 61 → hh i = h2 i) → (∀ z, z ≠ 19 → hh 52 z = h2 52 z) → hh 52 19 = ((ebs (pkn a).2.2).length : Int) → Go x mtX10_agrees 43 [xR 52, xI (n : Int)] [] hh (qI Q)) (ebs (pkn a).2.2).length (fun n hn ih hh K3 F3 G3 E19 => ?_) _ (fun k hk => absurd hk (Nat.not_lt_zero k)) (fun i q1 q2 => hset_ni q1) (fun z q => hset_nk q) (hset_eq _ _ _ _)
    have E16 : hh 52 16 = ((ebs (pkn a).2.2).length : Int) := (G3 16 (by decide)).trans B2.1
    have HH : MdS hh a := H1.src (fun i q1 q2 q3 => by rw [F3 i q1 q3, F2 i q1 q2, hset_ni q1]) (by rw [G3 2 (by decide), G2 2 (by decide) (by decide), hset_nk (by decide)]) (by rw [G3 6 (by decide), G2 6 (by decide) (by decide), hset_nk (by decide)])
    by_cases hlt : n < (ebs (pkn a).2.2).length
    · skip
      refine go_iload_n dX10_agrees_43 rfl ?_
      refine go_aload_n dX10_agrees_44 rfl ?_
      refine gfX10_bitMany (by first | assumption | rfl) flX10_65 dX10_agrees_45 ?_
      try simp (disch := decide) only [hset_eq, hset_nk, hset_ni, E16]
      refine go_icmp_ge_f (tgt := 69) dX10_agrees_48 (by decide) (by omega) ?_
      refine go_aload_n dX10_agrees_51 rfl ?_
      refine gfX10_source (by first | assumption | rfl) flX10_35 dX10_agrees_52 ?_
      refine go_iload_n dX10_agrees_55 rfl ?_
      refine go_aload_n dX10_agrees_56 rfl ?_
      refine gfX10_bits (by first | assumption | rfl) flX10_32 dX10_agrees_57 ?_
      refine go_iload_n dX10_agrees_60 rfl ?_
      refine go_iaload (by first | assumption | rfl) dX10_agrees_61 (by omega) (by show (n : Int) < 2800; omega) ?_
      rw [F3 60 (by decide) (by decide), B2.2 n hlt]
      refine go_iastore (by first | assumption | rfl) dX10_agrees_62 (by omega) (by show (n : Int) < 2800; omega) ?_
      refine go_iinc dX10_agrees_63 rfl rfl rfl (by omega) (by omega) (by dsimp only [List.set]) ?_
      refine go_goto (tgt := 43) dX10_agrees_66 (by decide) ?_
      refine ih hlt _ (fun k hk => ?_) (fun i q1 q2 => by rw [hset_ni q2]; exact F3 i q1 q2) (fun z q => by rw [hset_ni (by decide)]; exact G3 z q) (by rw [hset_ni (by decide)]; exact E19)
      by_cases e : k = n
      · subst e; rw [hset_eq]
      · rw [hset_nk (by omega)]; exact K3 k (by omega)
    · have hie : n = (ebs (pkn a).2.2).length := by omega
      subst hie
      refine go_iload_n dX10_agrees_43 rfl ?_
      refine go_aload_n dX10_agrees_44 rfl ?_
      refine gfX10_bitMany (by first | assumption | rfl) flX10_65 dX10_agrees_45 ?_
      try simp (disch := decide) only [hset_eq, hset_nk, hset_ni, E16]
      refine go_icmp_ge_t (tgt := 69) dX10_agrees_48 (by decide) (by omega) ?_
      refine go_aload_n dX10_agrees_69 rfl ?_
      refine go_aload_n dX10_agrees_70 rfl ?_
      refine gfX10_now (by first | assumption | rfl) flX10_7 dX10_agrees_71 ?_
      refine go_iconst dX10_agrees_74 ⟨by decide, by decide⟩ ?_
      refine go_iaload (by first | assumption | rfl) dX10_agrees_75 (by decide) (by decide) ?_
      rw [HH.2.1.2.2.2.2.1]
      refine go_cV1V (by first | assumption | rfl) vlX10_203 dX10_agrees_76 (by decide) rfl rfl (by decide) (Nat.le_of_ble_eq_true rfl) (md_unpacks (bs := ebs (pkn a).2.2) ok.2.1.1 HH.2.1 HH.2.2.2.2 ⟨E19, K3⟩ hN2 hsf hl ?_)
      intro h5 R5 F5 Z5
      have H5 := HH.w F5 Z5
      have N5 := H5.2.1
      have G5 : FrM h h5 := FrM.tr F1.m (FrM.tr (fun i q => by rw [F2 i (by omega) (by omega), hset_ni (by omega)]) (FrM.tr (fun i q => F3 i (by omega) (by omega)) F5.m))
      refine go_iconst dX10_agrees_79 ⟨by decide, by decide⟩ ?_
      refine go_istore_n 1 dX10_agrees_80 rfl (Nat.le_of_ble_eq_true rfl) rfl (by dsimp only [List.set]) ?_
      refine up_indN (P := fun n => agr (agf a) a.2.1.2.2.2.2 (a.2.1.2.2.2.2.length - n) n = agr (agf a) a.2.1.2.2.2.2 a.2.1.2.2.2.2.length 0 → Go x mtX10_agrees 81 [xR 52, xI (n : Int)] [] h5 (qI Q)) a.2.1.2.2.2.2.length (fun n hn ih hag => ?_) rfl
      by_cases hlt : n < a.2.1.2.2.2.2.length
      · skip
        refine go_iload_n dX10_agrees_81 rfl ?_
        refine go_aload_n dX10_agrees_82 rfl ?_
        refine gfX10_now (by first | assumption | rfl) flX10_7 dX10_agrees_83 ?_
        refine go_iconst dX10_agrees_86 ⟨by decide, by decide⟩ ?_
        refine go_iaload (by first | assumption | rfl) dX10_agrees_87 (by decide) (by decide) ?_
        refine go_icmp_ge_f (tgt := 114) dX10_agrees_88 (by decide) (by rw [N5.2.2.2.2.1]; omega) ?_
        refine go_aload_n dX10_agrees_91 rfl ?_
        refine gfX10_run (by first | assumption | rfl) flX10_26 dX10_agrees_92 ?_
        refine go_iload_n dX10_agrees_95 rfl ?_
        refine go_iaload (by first | assumption | rfl) dX10_agrees_96 (by omega) (by show (n : Int) < 60; omega) ?_
        rw [R5 n hlt, rdk_at _ hlt, show rsg a.2.1.1 a.2.1.2.1 a.2.1.2.2.1 a.2.1.2.2.2.1 (srF (ebs (pkn a).2.2)) n = agf a n from rfl]
        refine go_aload_n dX10_agrees_97 rfl ?_
        refine gfX10_now (by first | assumption | rfl) flX10_7 dX10_agrees_98 ?_
        refine go_iconst dX10_agrees_101 ⟨by decide, by decide⟩ ?_
        refine go_iload_n dX10_agrees_102 rfl ?_
        refine go_iadd dX10_agrees_103 (by omega) (by omega) ?_
        refine go_iaload (by first | assumption | rfl) dX10_agrees_104 (by omega) (by show 5 + (n : Int) < 65; omega) ?_
        rw [N5.2.2.2.2.2 n hlt]
        refine go_icmp_ne (tgt := 114) dX10_agrees_105 (by decide) (fun c105 => ?_) (fun c105 => ?_)
        · refine go_iload_n dX10_agrees_114 rfl ?_
          refine go_ireturn dX10_agrees_115 rfl ?_
          rw [show a.2.1.2.2.2.2.length - n = (a.2.1.2.2.2.2.length - (n + 1)) + 1 by omega, agr, if_neg c105] at hag
          rw [← hag] at hQ
          exact hQ h5 H5 G5
        · refine go_iinc dX10_agrees_108 rfl rfl rfl (by omega) (by omega) (by dsimp only [List.set]) ?_
          refine go_goto (tgt := 81) dX10_agrees_111 (by decide) ?_
          refine ih hlt ?_
          rw [← hag, show a.2.1.2.2.2.2.length - n = (a.2.1.2.2.2.2.length - (n + 1)) + 1 by omega, agr, if_pos c105]
      · have hie : n = a.2.1.2.2.2.2.length := by omega
        subst hie
        refine go_iload_n dX10_agrees_81 rfl ?_
        refine go_aload_n dX10_agrees_82 rfl ?_
        refine gfX10_now (by first | assumption | rfl) flX10_7 dX10_agrees_83 ?_
        refine go_iconst dX10_agrees_86 ⟨by decide, by decide⟩ ?_
        refine go_iaload (by first | assumption | rfl) dX10_agrees_87 (by decide) (by decide) ?_
        refine go_icmp_ge_t (tgt := 114) dX10_agrees_88 (by decide) (by rw [N5.2.2.2.2.1]; omega) ?_
        refine go_iload_n dX10_agrees_114 rfl ?_
        refine go_ireturn dX10_agrees_115 rfl ?_
        rw [Nat.sub_self, agr] at hag
        rw [← hag] at hQ
        exact hQ h5 H5 G5
