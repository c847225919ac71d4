/-! ===== LongestPast: best, unpacked, agrees ===== -/
def bst (f : Nat → Int) : Nat → Int × Int
  | 0 => (0, 0)
  | n + 1 => if n = 0 ∨ f n < (bst f n).2 then ((n : Int), f n) else bst f n
def bsf (a : Ab) (o : Nat) : Int := ((Dn (pck (o : Int) a.2.1.2.1 a.2.1.2.2.1 a.2.1.2.2.2.1 a.2.1.2.2.2.2 a.2.1.2.2.2.2.length).2.2 + 2 : Nat) : Int)
def sp_best (a : Ab) : Int := (bst (bsf a) 4).1

set_option maxHeartbeats 4000000 in
set_option maxRecDepth 100000 in
theorem lp_best {x : mX} {h : mH} {Q : Int → mH → Prop} {a : Ab} (H : LpS h a) (ok : AbOk a) (hQ : ∀ h', LpS h' a → FrL h h' → Q (sp_best a) h') : CtI x mtX9_best [xR 0] h Q := by
  have hl := ok.2.1.2.1
  unfold sp_best at hQ
  obtain ⟨L, hL⟩ : ∃ L, bst (bsf a) = L := ⟨_, rfl⟩
  refine ct_go (ls := [xR 0, xU, xU, xU, xU]) (by decide +kernel) (Nat.le_of_ble_eq_true rfl) rfl ?_
  refine go_iconst dX9_best_0 ⟨by decide, by decide⟩ ?_
  refine go_istore_n 1 dX9_best_1 rfl (Nat.le_of_ble_eq_true rfl) rfl (by dsimp only [List.set]) ?_
  refine go_iconst dX9_best_2 ⟨by decide, by decide⟩ ?_
  refine go_istore_n 2 dX9_best_3 rfl (Nat.le_of_ble_eq_true rfl) rfl (by dsimp only [List.set]) ?_
  refine go_iconst dX9_best_4 ⟨by decide, by decide⟩ ?_
  refine go_istore_n 3 dX9_best_5 rfl (Nat.le_of_ble_eq_true rfl) rfl (by dsimp only [List.set]) ?_
  have key : ∀ u : mV, Go x mtX9_best 6 [xR 0, xI (L 0).1, xI (L 0).2, xI ((0 : Nat) : Int), u] [] h (qI Q) := by
    refine up_indN (P := fun n => ∀ hh : mH, LpS hh a → FrL h hh → ∀ u : mV, Go x mtX9_best 6 [xR 0, xI (L n).1, xI (L n).2, xI (n : Int), u] [] hh (qI Q)) 4 (fun n hn ih hh HH FL u => ?_) h H (fun _ _ => rfl)
    obtain ⟨_, PP, ZZ, _⟩ := id HH
    by_cases hlt : n < 4
    · have hPn : PrOk (n : Int) a.2.1.2.1 a.2.1.2.2.1 a.2.1.2.2.2.1 := by have := ok.2.1.1; unfold PrOk at *; omega
      refine go_iload_n dX9_best_6 rfl ?_
      refine go_iconst dX9_best_7 ⟨by decide, by decide⟩ ?_
      refine go_icmp_gt_f (tgt := 79) dX9_best_8 (by decide) (by omega) ?_
      refine go_aload_n dX9_best_11 rfl ?_
      refine gfX9_trial rfl flX9_25 dX9_best_12 ?_
      refine gfX3_past rfl flX9_77 dX9_best_15 ?_
      refine go_aload_n dX9_best_18 rfl ?_
      refine gfX9_now rfl flX9_21 dX9_best_19 ?_
      refine gfX3_past rfl flX9_77 dX9_best_22 ?_
      refine go_cV1V rfl vlX9_164 dX9_best_25 (by decide) rfl rfl (by decide) (Nat.le_of_ble_eq_true rfl) (past_becomesP (v := a.2.1) pk14.2.1 pk3.2.1 (by decide) (PkV.past PP) hl ZZ.2.2 ?_)
      intro h1 V1 F1
      refine go_aload_n dX9_best_28 rfl ?_
      refine gfX9_trial rfl flX9_25 dX9_best_29 ?_
      refine gfX3_past rfl flX9_77 dX9_best_32 ?_
      refine go_iload_n dX9_best_35 rfl ?_
      refine pfX4_order rfl flX9_116 dX9_best_36 ?_
      refine go_aload_n dX9_best_39 rfl ?_
      refine gfX9_trial rfl flX9_25 dX9_best_40 ?_
      refine go_cV0V rfl vlX9_91 dX9_best_43 (by decide) rfl rfl (by decide) (Nat.le_of_ble_eq_true rfl) (pk_repacks (o := (n : Int)) (l := a.2.1.2.1) (r := a.2.1.2.2.1) (t := a.2.1.2.2.2.1) (T := a.2.1.2.2.2.2) pk14 hPn ok.2.1.2 ⟨?_, ?_, ?_, ?_⟩ (V1.2.congr (hset_ni (by decide)) (hset_ni (by decide))) ⟨fun k hk => ?_, ?_, ?_⟩ ?_)
      · exact hset_eq _ _ _ _
      · rw [hset_nk (by decide)]; exact V1.1.2.1
      · rw [hset_nk (by decide)]; exact V1.1.2.2.1
      · rw [hset_nk (by decide)]; exact V1.1.2.2.2
      · rw [hset_ni (by decide), F1 _ (by decide) (by decide) (by decide)]; exact ZZ.1 k hk
      · rw [hset_ni (by decide), F1 _ (by decide) (by decide) (by decide)]; exact ZZ.2.1
      · rw [hset_ni (by decide), V1.2.1]; omega
      intro h2 P2 F2
      have hD := pck_D hPn ok.2.1.2 (Nat.le_refl _)
      have H2 : LpS h2 a := HH.trial (fun i q => by rw [F2 i (by omega), hset_ni (by omega), F1 i (by omega) (by omega) (by omega)]) (PkS.z hPn ok.2.1.2 (Nat.le_refl _) P2)
      have FL2 : FrL h h2 := fun i q => by rw [F2 i (by omega), hset_ni (by omega), F1 i (by omega) (by omega) (by omega)]; exact FL i q
      refine go_aload_n dX9_best_46 rfl ?_
      refine gfX9_trial rfl flX9_25 dX9_best_47 ?_
      refine gfX3_range rfl flX9_134 dX9_best_50 ?_
      refine go_cV0I rfl vlX9_161 dX9_best_53 (by decide) rfl rfl (by decide) (Nat.le_of_ble_eq_true rfl) (rg_endedSize pk14.2.2.2.1 P2.2.2.2.2.2 (by omega) ?_)
      change Go x mtX9_best _ _ [xI (bsf a n)] h2 (qI Q)
      refine go_istore dX9_best_56 (Nat.le_of_ble_eq_true rfl) rfl (by dsimp only [List.set]) ?_
      refine go_iload_n dX9_best_58 rfl ?_
      refine go_if_eq (tgt := 68) dX9_best_59 (by decide) (fun c59 => ?_) (fun c59 => ?_)
      · refine go_iload_n dX9_best_68 rfl ?_
        refine go_istore_n 1 dX9_best_69 rfl (Nat.le_of_ble_eq_true rfl) rfl (by dsimp only [List.set]) ?_
        refine go_iload dX9_best_70 rfl ?_
        refine go_istore_n 2 dX9_best_72 rfl (Nat.le_of_ble_eq_true rfl) rfl (by dsimp only [List.set]) ?_
        refine go_iinc dX9_best_73 rfl rfl rfl (by omega) (by omega) (by dsimp only [List.set]) ?_
        refine go_goto (tgt := 6) dX9_best_76 (by decide) ?_
        have z := ih hlt h2 H2 FL2
        rw [show L (n + 1) = if n = 0 ∨ bsf a n < (L n).2 then ((n : Int), bsf a n) else L n by rw [← hL]; rfl] at z
        first | rw [if_pos (by omega)] at z | rw [if_neg (by omega)] at z
        exact z _
      · refine go_iload dX9_best_62 rfl ?_
        refine go_iload_n dX9_best_64 rfl ?_
        refine go_icmp_ge (tgt := 73) dX9_best_65 (by decide) (fun c65 => ?_) (fun c65 => ?_)
        · refine go_iinc dX9_best_73 rfl rfl rfl (by omega) (by omega) (by dsimp only [List.set]) ?_
          refine go_goto (tgt := 6) dX9_best_76 (by decide) ?_
          have z := ih hlt h2 H2 FL2
          rw [show L (n + 1) = if n = 0 ∨ bsf a n < (L n).2 then ((n : Int), bsf a n) else L n by rw [← hL]; rfl] at z
          first | rw [if_pos (by omega)] at z | rw [if_neg (by omega)] at z
          exact z _
        · refine go_iload_n dX9_best_68 rfl ?_
          refine go_istore_n 1 dX9_best_69 rfl (Nat.le_of_ble_eq_true rfl) rfl (by dsimp only [List.set]) ?_
          refine go_iload dX9_best_70 rfl ?_
          refine go_istore_n 2 dX9_best_72 rfl (Nat.le_of_ble_eq_true rfl) rfl (by dsimp only [List.set]) ?_
          refine go_iinc dX9_best_73 rfl rfl rfl (by omega) (by omega) (by dsimp only [List.set]) ?_
          refine go_goto (tgt := 6) dX9_best_76 (by decide) ?_
          have z := ih hlt h2 H2 FL2
          rw [show L (n + 1) = if n = 0 ∨ bsf a n < (L n).2 then ((n : Int), bsf a n) else L n by rw [← hL]; rfl] at z
          first | rw [if_pos (by omega)] at z | rw [if_neg (by omega)] at z
          exact z _
    · have hne : n = 4 := by omega
      subst hne
      refine go_iload_n dX9_best_6 rfl ?_
      refine go_iconst dX9_best_7 ⟨by decide, by decide⟩ ?_
      refine go_icmp_gt_t (tgt := 79) dX9_best_8 (by decide) (by omega) ?_
      refine go_iload_n dX9_best_79 rfl ?_
      refine go_ireturn dX9_best_80 rfl ?_
      rw [← hL]
      exact hQ hh HH FL
  rw [← hL] at key
  exact key _

def rdk (o l r t : Int) (sf : Int → Int) : Nat → List Int × RS
  | 0 => ([], (fun _ => 0, 0, (0, 65535, 0, v16 sf 16, 16)))
  | n + 1 => (rstT o sf (rdk o l r t sf n).1 (rdk o l r t sf n).2, rstS o l r t sf (rdk o l r t sf n).1 (rdk o l r t sf n).2)
theorem rdk_len (o l r t : Int) (sf : Int → Int) : ∀ n, (rdk o l r t sf n).1.length = n
  | 0 => rfl
  | n + 1 => by
    show (rstT o sf _ _).length = n + 1
    unfold rstT
    rw [List.length_append, List.length_singleton, rdk_len o l r t sf n]
theorem rdk_inv {o l r t : Int} {sf : Int → Int} (hPr : PrOk o l r t) (hsf : ∀ k, sf k = 0 ∨ sf k = 1) : ∀ n : Nat, n ≤ 60 → RInv l (rdk o l r t sf n).1 (rdk o l r t sf n).2
  | 0, _ => by
    have h1 := v16_bd hsf 16
    have h2 : (2 : Int) ^ 16 = 65536 := by decide
    rw [h2] at h1
    have hN : CdN 0 65535 := ⟨by decide, by decide, by decide⟩
    have hV : RdV (100 * 0) ((0, 65535, 0, v16 sf 16, 16) : Rd) := ⟨h1.1, by show v16 sf 16 ≤ 65535; omega, Int.le_refl 0, by show (0:Int) ≤ 100*0; decide, by show (0:Int) ≤ 16; decide, by show (16:Int) ≤ 100*0+16; decide⟩
    exact ⟨⟨Nat.zero_le _, fun k hk => absurd hk (by simp [rdk])⟩, csOk_zero hPr.2.2.1, Int.le_refl _, Int.le_refl _, hN, hV⟩
  | n + 1, hn => rst_inv hsf hPr (rdk_inv hPr hsf n (by omega)) (by rw [rdk_len]; omega)
def rsg (o l r t : Int) (sf : Int → Int) (n : Nat) : Int := ((rdd o sf (rdk o l r t sf n).1 (rdk o l r t sf n).2).2.1 : Int)
theorem rdk_at {o l r t : Int} {sf : Int → Int} {i : Nat} : ∀ n : Nat, i < n → (rdk o l r t sf n).1.getD i 0 = rsg o l r t sf i
  | 0, h => absurd h (Nat.not_lt_zero i)
  | n + 1, h => by
    show (rstT o sf _ _).getD i 0 = _
    unfold rstT
    by_cases e : i < n
    · rw [List.getD_eq_getElem?_getD, List.getElem?_append_left (by rw [rdk_len]; exact e), ← List.getD_eq_getElem?_getD]
      exact rdk_at n e
    · have : i = n := by omega
      subst this
      rw [List.getD_eq_getElem?_getD, List.getElem?_append_right (by rw [rdk_len]; omega), rdk_len, Nat.sub_self]; rfl
theorem srF_01 {bs : List Int} (h : ∀ z ∈ bs, z = 0 ∨ z = 1) : ∀ k, srF bs k = 0 ∨ srF bs k = 1 := by
  intro k
  unfold srF
  split
  · rename_i q
    rw [List.getD_eq_getElem?_getD, List.getElem?_eq_getElem (show k.toNat < bs.length by omega)]
    exact h _ (List.getElem_mem _)
  · exact Or.inl rfl
/-- a letter's bit -/
def bts (lt : List Int) : List Int := lt.map (fun z => z - 48)
def sp_unpacked (i : Int) (a : Ab) : Int := if ¬ (0 ≤ i ∧ i ≤ 59) then -1 else if 0 ≤ fou 48 49 a.1 0 then -10 - fou 48 49 a.1 0 else rsg a.2.1.1 a.2.1.2.1 a.2.1.2.2.1 a.2.1.2.2.2.1 (srF (bts a.1)) i.toNat
theorem bts_01 {lt : List Int} (h : ∀ z ∈ lt, 48 ≤ z ∧ z ≤ 49) : ∀ z ∈ bts lt, z = 0 ∨ z = 1 := by
  intro z hz
  obtain ⟨y, hy, rfl⟩ := List.mem_map.mp hz
  have := h y hy
  omega
theorem take_succ_bts {lt : List Int} {n : Nat} (h : n < lt.length) : bts (lt.take (n + 1)) = bts (lt.take n) ++ [lt.getD n 0 - 48] := by
  unfold bts
  rw [List.take_succ, List.getElem?_eq_getElem h, List.map_append, List.getD_eq_getElem?_getD, List.getElem?_eq_getElem h]; rfl
/-- the trial packer reads: from a packer begun anew whose bits are laid -/
theorem rdS_start {h1 h2 : mH} {o l r t : Int} {bs : List Int} (P : PaS h1 (14 + 1) o l r t) (R : RowL h1 (14 + 1 + 1) []) (e4 : h1 14 4 = 0) (C : CtxS h1 (14 + 4) (fun _ => 0)) (e5 : h1 14 5 = 0) (G : RgR h2 (14 + 6) bs (0, 65535, 0, v16 (srF bs) 16, 16)) (F : ∀ i, i ≠ 14 + 6 → h2 i = h1 i) : RdS h2 14 o l r t bs (rdk o l r t (srF bs) 0).1 (rdk o l r t (srF bs) 0).2 :=
  ⟨by unfold PaS; rw [F _ (by decide)]; exact P, R.congr (F _ (by decide)) (F _ (by decide)), by rw [F _ (by decide)]; exact e4, ⟨by rw [F _ (by decide)]; exact C.1, by rw [F _ (by decide)]; exact C.2⟩, by rw [F _ (by decide)]; exact e5, G⟩
theorem RdS.z {h : mH} {b : Nat} {o l r t : Int} {bs T : List Int} {S : RS} (iv : RInv l T S) (H : RdS h b o l r t bs T S) : PkZ h b := by
  obtain ⟨hPa, hR, e4, hC, e5, hG⟩ := H
  exact ⟨fun k hk => by rw [hC.1]; exact iv.2.1.2 k hk, by rw [hG.2.2.2.2.2.2.1]; omega, by rw [hR.1]; omega⟩

set_option maxHeartbeats 4000000 in
set_option maxRecDepth 100000 in
theorem lp_unpacked {x : mX} {h : mH} {Q : Int → mH → Prop} {i : Int} {a : Ab} (H : LpS h a) (ok : AbOk a) (hQ : ∀ h', LpS h' a → FrL h h' → Q (sp_unpacked i a) h') : CtI x mtX9_unpacked [xR 0, xI i] h Q := by
  obtain ⟨R, P, Z, ⟨nx, D⟩, E, F⟩ := id H
  have hl := ok.2.1.2.1
  have hl2 := ok.1.1
  have hfo := fou_bd (lo := 48) (hi := 49) a.1 0
  refine ct_go (ls := [xR 0, xI i, xU, xU]) (by decide +kernel) (Nat.le_of_ble_eq_true rfl) rfl ?_
  refine go_iload_n dX9_unpacked_0 rfl ?_
  refine go_iconst dX9_unpacked_1 ⟨by decide, by decide⟩ ?_
  refine go_bipush dX9_unpacked_2 (by decide +kernel) ⟨by decide, by decide⟩ ?_
  refine go_cS3I slX9_73 dX9_unpacked_4 (by decide) (Nat.le_of_ble_eq_true rfl) (lp_isWithin ?_)
  refine go_if_ne (tgt := 12) dX9_unpacked_7 (by decide) (fun c7 => ?_) (fun c7 => ?_)
  · refine go_aload_n dX9_unpacked_12 rfl ?_
    refine go_bipush dX9_unpacked_13 (by decide +kernel) ⟨by decide, by decide⟩ ?_
    refine go_iconst dX9_unpacked_15 ⟨by decide, by decide⟩ ?_
    refine go_cV2I rfl vlX9_102 dX9_unpacked_16 (by decide) rfl rfl (by decide) (Nat.le_of_ble_eq_true rfl) (lp_outside R ok.1.1 (by decide) (by decide) (by decide) (by decide) ?_)
    rw [show (48 : Int) + 2 - 1 = 49 from rfl]
    refine go_istore_n 2 dX9_unpacked_19 rfl (Nat.le_of_ble_eq_true rfl) rfl (by dsimp only [List.set]) ?_
    refine go_iload_n dX9_unpacked_20 rfl ?_
    refine go_if_lt (tgt := 29) dX9_unpacked_21 (by decide) (fun c21 => ?_) (fun c21 => ?_)
    · refine go_aload_n dX9_unpacked_29 rfl ?_
      refine gfX9_trial rfl flX9_25 dX9_unpacked_30 ?_
      refine go_aload_n dX9_unpacked_33 rfl ?_
      refine gfX9_now rfl flX9_21 dX9_unpacked_34 ?_
      refine gfX3_past rfl flX9_77 dX9_unpacked_37 ?_
      refine go_cV1V rfl vlX9_167 dX9_unpacked_40 (by decide) rfl rfl (by decide) (Nat.le_of_ble_eq_true rfl) (pk_startsLike pk14 pk3.2.1 (by decide) P.1 Z ?_)
      intro h1 P1 F1
      refine go_iconst dX9_unpacked_43 ⟨by decide, by decide⟩ ?_
      refine go_istore_n 3 dX9_unpacked_44 rfl (Nat.le_of_ble_eq_true rfl) rfl (by dsimp only [List.set]) ?_
      have hi := if10 c7
      have hall : ∀ z ∈ a.1, 48 ≤ z ∧ z ≤ 49 := by rcases hfo with q | q; exact q.2; omega
      have hsf := srF_01 (bts_01 hall)
      have hN722 : (bts a.1).length ≤ 722 := by unfold bts; rw [List.length_map]; omega
      refine up_indN (P := fun n => ∀ hh : mH, RowL hh (14 + 6 + 1) (bts (a.1.take n)) → (∀ i, i < 14 ∨ 25 ≤ i → hh i = h i) → (∀ i, 14 ≤ i → i < 25 → i ≠ 14 + 6 + 1 → i ≠ 14 + 6 + 1 + 1 → hh i = h1 i) → Go x mtX9_unpacked 45 [xR 0, xI i, xI (fou 48 49 a.1 0), xI (n : Int)] [] hh (qI Q)) a.1.length (fun n hn ih hh BB FF FT => ?_) h1 P1.2.2.2.2.2.2.2.2.2 (fun i q => F1 i (by omega)) (fun _ _ _ _ _ => rfl)
      by_cases hlt : n < a.1.length
      · have hz := hall (a.1.getD n 0) (by rw [List.getD_eq_getElem?_getD, List.getElem?_eq_getElem hlt]; exact List.getElem_mem hlt)
        refine go_iload_n dX9_unpacked_45 rfl ?_
        refine go_aload_n dX9_unpacked_46 rfl ?_
        refine gfX9_letters rfl flX9_14 dX9_unpacked_47 ?_
        refine gfX6_size rfl flX9_66 dX9_unpacked_50 ?_
        refine go_icmp_ge_f (tgt := 86) dX9_unpacked_53 (by decide) (by rw [FF 1 (by omega), R.1]; omega) ?_
        refine go_aload_n dX9_unpacked_56 rfl ?_
        refine gfX9_trial rfl flX9_25 dX9_unpacked_57 ?_
        refine gfX3_range rfl flX9_134 dX9_unpacked_60 ?_
        refine gfX5_bits rfl flX9_138 dX9_unpacked_63 ?_
        refine go_aload_n dX9_unpacked_66 rfl ?_
        refine gfX9_letters rfl flX9_14 dX9_unpacked_67 ?_
        refine go_iload_n dX9_unpacked_70 rfl ?_
        refine go_cV1I rfl vlX9_106 dX9_unpacked_71 (by decide) rfl rfl (by decide) (Nat.le_of_ble_eq_true rfl) (row_atL row1 (bs := a.1) (R.congr (FF 1 (by omega)) (FF 2 (by omega))) ok.1.1 ?_)
        rw [srF_nat hlt]
        refine go_bipush dX9_unpacked_74 (by decide +kernel) ⟨by decide, by decide⟩ ?_
        refine go_isub dX9_unpacked_76 (by omega) (by omega) ?_
        refine go_cV1V rfl vlX9_63 dX9_unpacked_77 (by decide) rfl rfl (by decide) (Nat.le_of_ble_eq_true rfl) (row_putsL (N := 722) (bs := bts (a.1.take n)) pk14.2.2.2.1.2 BB (by unfold bts; rw [List.length_map, List.length_take]; omega) ?_)
        intro h2 B2 F2
        refine go_iinc dX9_unpacked_80 rfl rfl rfl (by omega) (by omega) (by dsimp only [List.set]) ?_
        refine go_goto (tgt := 45) dX9_unpacked_83 (by decide) ?_
        refine ih hlt h2 (by rw [take_succ_bts hlt]; exact B2) (fun i q => by rw [F2 i (by omega) (by omega), FF i q]) (fun i q1 q2 q3 q4 => by rw [F2 i (by omega) (by omega), FT i q1 q2 q3 q4])
      · have hne : n = a.1.length := by omega
        subst hne
        rw [List.take_length] at BB
        refine go_iload_n dX9_unpacked_45 rfl ?_
        refine go_aload_n dX9_unpacked_46 rfl ?_
        refine gfX9_letters rfl flX9_14 dX9_unpacked_47 ?_
        refine gfX6_size rfl flX9_66 dX9_unpacked_50 ?_
        refine go_icmp_ge_t (tgt := 86) dX9_unpacked_53 (by decide) (by rw [FF 1 (by omega), R.1]; omega) ?_
        refine go_aload_n dX9_unpacked_86 rfl ?_
        refine gfX9_trial rfl flX9_25 dX9_unpacked_87 ?_
        refine gfX3_range rfl flX9_134 dX9_unpacked_90 ?_
        refine go_cV0V rfl vlX9_170 dX9_unpacked_93 (by decide) rfl rfl (by decide) (Nat.le_of_ble_eq_true rfl) (rg_startsReading pk14.2.2.2.1 BB hN722 hsf ?_)
        intro h3 G3 F3
        have S3 := rdS_start (by unfold PaS; rw [FT _ (by decide) (by decide) (by decide) (by decide)]; exact P1.1) (P1.2.1.congr (FT _ (by decide) (by decide) (by decide) (by decide)) (FT _ (by decide) (by decide) (by decide) (by decide))) (by rw [FT _ (by decide) (by decide) (by decide) (by decide)]; exact P1.2.2.1) ⟨by rw [FT _ (by decide) (by decide) (by decide) (by decide)]; exact P1.2.2.2.1.1, by rw [FT _ (by decide) (by decide) (by decide) (by decide)]; exact P1.2.2.2.1.2⟩ (by rw [FT _ (by decide) (by decide) (by decide) (by decide)]; exact P1.2.2.2.2.1) G3 F3
        refine go_iconst dX9_unpacked_96 ⟨by decide, by decide⟩ ?_
        refine go_istore_n 3 dX9_unpacked_97 rfl (Nat.le_of_ble_eq_true rfl) rfl (by dsimp only [List.set]) ?_
        refine up_indN (P := fun n => ∀ hh : mH, RdS hh 14 a.2.1.1 a.2.1.2.1 a.2.1.2.2.1 a.2.1.2.2.2.1 (bts a.1) (rdk a.2.1.1 a.2.1.2.1 a.2.1.2.2.1 a.2.1.2.2.2.1 (srF (bts a.1)) n).1 (rdk a.2.1.1 a.2.1.2.1 a.2.1.2.2.1 a.2.1.2.2.2.1 (srF (bts a.1)) n).2 → (∀ i, i < 14 ∨ 25 ≤ i → hh i = h i) → Go x mtX9_unpacked 98 [xR 0, xI i, xI (fou 48 49 a.1 0), xI (n : Int)] [] hh (qI Q)) i.toNat (fun n hn ihn hh SS GG => ?_) h3 S3 (fun i q => by rw [F3 i (by omega), FF i q])
        have ivn := rdk_inv (o := a.2.1.1) (l := a.2.1.2.1) (r := a.2.1.2.2.1) (t := a.2.1.2.2.2.1) ok.2.1.1 hsf n (by omega)
        by_cases hlt : n < i.toNat
        · skip
          refine go_iload_n dX9_unpacked_98 rfl ?_
          refine go_iload_n dX9_unpacked_99 rfl ?_
          refine go_icmp_ge_f (tgt := 117) dX9_unpacked_100 (by decide) (by omega) ?_
          refine go_aload_n dX9_unpacked_103 rfl ?_
          refine gfX9_trial rfl flX9_25 dX9_unpacked_104 ?_
          refine go_cV0I rfl vlX9_173 dX9_unpacked_107 (by decide) rfl rfl (by decide) (Nat.le_of_ble_eq_true rfl) (pk_readsNext pk14 ok.2.1.1 hN722 hsf ivn (by rw [rdk_len]; omega) SS ?_)
          intro h4 S4 F4
          refine go_popI dX9_unpacked_110 ?_
          refine go_iinc dX9_unpacked_111 rfl rfl rfl (by omega) (by omega) (by dsimp only [List.set]) ?_
          refine go_goto (tgt := 98) dX9_unpacked_114 (by decide) ?_
          exact ihn hlt h4 S4 (fun i q => by rw [F4 i (by omega), GG i q])
        · have hni : n = i.toNat := by omega
          subst hni
          refine go_iload_n dX9_unpacked_98 rfl ?_
          refine go_iload_n dX9_unpacked_99 rfl ?_
          refine go_icmp_ge_t (tgt := 117) dX9_unpacked_100 (by decide) (by omega) ?_
          refine go_aload_n dX9_unpacked_117 rfl ?_
          refine gfX9_trial rfl flX9_25 dX9_unpacked_118 ?_
          refine go_cV0I rfl vlX9_173 dX9_unpacked_121 (by decide) rfl rfl (by decide) (Nat.le_of_ble_eq_true rfl) (pk_readsNext pk14 ok.2.1.1 hN722 hsf ivn (by rw [rdk_len]; omega) SS ?_)
          intro h4 S4 F4
          refine go_ireturn dX9_unpacked_124 rfl ?_
          have e9 : sp_unpacked i a = rsg a.2.1.1 a.2.1.2.1 a.2.1.2.2.1 a.2.1.2.2.2.1 (srF (bts a.1)) i.toNat := by unfold sp_unpacked; rw [if_neg (by omega), if_neg (by omega)]
          rw [e9] at hQ
          have iv4 := rdk_inv (o := a.2.1.1) (l := a.2.1.2.1) (r := a.2.1.2.2.1) (t := a.2.1.2.2.2.1) ok.2.1.1 hsf (i.toNat + 1) (by omega)
          exact hQ h4 (H.trial (fun i q => by rw [F4 i (by omega), GG i (by omega)]) (RdS.z iv4 S4)) (fun i q => by rw [F4 i (by omega), GG i (by omega)])
    · refine go_bipush dX9_unpacked_24 (by decide +kernel) ⟨by decide, by decide⟩ ?_
      refine go_iload_n dX9_unpacked_26 rfl ?_
      refine go_isub dX9_unpacked_27 (by omega) (by omega) ?_
      refine go_ireturn dX9_unpacked_28 rfl ?_
      have q := if10 c7
      have e9 : sp_unpacked i a = -10 - fou 48 49 a.1 0 := by unfold sp_unpacked; rw [if_neg (fun z => z q), if_pos c21]
      rw [e9] at hQ; exact hQ h H (fun _ _ => rfl)
  · refine go_iconst dX9_unpacked_10 ⟨by decide, by decide⟩ ?_
    refine go_ireturn dX9_unpacked_11 rfl ?_
    have q := if01 c7
    have e9 : sp_unpacked i a = -1 := by unfold sp_unpacked; rw [if_pos q]
    rw [e9] at hQ; exact hQ h H (fun _ _ => rfl)
