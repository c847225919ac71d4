/-! ===== Range.takes ===== -/
theorem les_0 {lo hi : Int} (h : hi < 32768) : les lo hi = 0 := by unfold les; rw [if_pos h]
theorem les_H {lo hi : Int} (h : 32768 ≤ hi) (h2 : 32768 ≤ lo) : les lo hi = 32768 := by unfold les; rw [if_neg (by omega), if_pos h2]
theorem les_Q {lo hi : Int} (h : 32768 ≤ hi) (h2 : lo < 32768) (h3 : 16384 ≤ lo) (h4 : hi < 49152) : les lo hi = 16384 := by unfold les; rw [if_neg (by omega), if_neg (by omega), if_pos ⟨h3, h4⟩]
theorem les_N {lo hi : Int} (h : 32768 ≤ hi) (h2 : lo < 32768) (h3 : lo < 16384 ∨ 49152 ≤ hi) : les lo hi = -9 := by unfold les; rw [if_neg (by omega), if_neg (by omega), if_neg (by omega)]
theorem stp_0 {lo hi : Int} {ow : Nat} {bs : List Int} (h : les lo hi = 0) : stp (lo, hi, ow, bs) = (2 * (lo - 0), 2 * (hi - 0) + 1, 0, bs ++ 0 :: List.replicate ow (1 - 0)) := by
  unfold stp; simp only [h]; rfl
theorem stp_H {lo hi : Int} {ow : Nat} {bs : List Int} (h : les lo hi = 32768) : stp (lo, hi, ow, bs) = (2 * (lo - 32768), 2 * (hi - 32768) + 1, 0, bs ++ 1 :: List.replicate ow (1 - 1)) := by
  unfold stp; simp only [h]; rfl
theorem stp_Q {lo hi : Int} {ow : Nat} {bs : List Int} (h : les lo hi = 16384) : stp (lo, hi, ow, bs) = (2 * (lo - 16384), 2 * (hi - 16384) + 1, ow + 1, bs) := by
  unfold stp; simp only [h]; rfl
theorem rgw_dbl {h : mH} {g : Nat} {lo hi L : Int} {ow : Nat} {bs : List Int} (H : RgW h g (lo, hi, ow, bs)) : RgW (hset (hset h g 1 (2 * (h g 1 - L))) g 2 (2 * (h g 2 - L) + 1)) g (2 * (lo - L), 2 * (hi - L) + 1, ow, bs) ∧ FrG h (hset (hset h g 1 (2 * (h g 1 - L))) g 2 (2 * (h g 2 - L) + 1)) g := by
  obtain ⟨e1, e2, e3, e5, R⟩ := H
  refine ⟨⟨?_, ?_, ?_, ?_, R.congr (by rw [hset_ni (by omega), hset_ni (by omega)]) (by rw [hset_ni (by omega), hset_ni (by omega)])⟩, ⟨fun i q1 q2 q3 => by rw [hset_ni q1, hset_ni q1], ?_, ?_⟩⟩
  · rw [hset_nk (by decide), hset_eq, e1]
  · rw [hset_eq, e2]
  · rw [hset_nk (by decide), hset_nk (by decide)]; exact e3
  · rw [hset_nk (by decide), hset_nk (by decide)]; exact e5
  · rw [hset_nk (by decide), hset_nk (by decide)]
  · rw [hset_nk (by decide), hset_nk (by decide)]
theorem rgw_owe {h : mH} {g : Nat} {lo hi : Int} {ow : Nat} {bs : List Int} (H : RgW h g (lo, hi, ow, bs)) : RgW (hset h g 3 ((ow : Int) + 1)) g (lo, hi, ow + 1, bs) ∧ FrG h (hset h g 3 ((ow : Int) + 1)) g := by
  obtain ⟨e1, e2, e3, e5, R⟩ := H
  refine ⟨⟨?_, ?_, ?_, ?_, R.congr (by rw [hset_ni (by omega)]) (by rw [hset_ni (by omega)])⟩, ⟨fun i q1 q2 q3 => by rw [hset_ni q1], ?_, ?_⟩⟩
  · rw [hset_nk (by decide)]; exact e1
  · rw [hset_nk (by decide)]; exact e2
  · rw [hset_eq]; rfl
  · rw [hset_nk (by decide)]; exact e5
  · rw [hset_nk (by decide)]
  · rw [hset_nk (by decide)]
theorem pow2_s (k : Nat) : (2 : Int) ^ (k + 1) = 2 * 2 ^ k := by rw [Int.pow_succ, Int.mul_comm]

set_option maxHeartbeats 4000000 in
set_option maxRecDepth 100000 in
theorem rg_loop_w {x : mX} {Q : mH → Prop} {g : Nat} {b w t r : Int} (hg : isRg g) : ∀ (n k : Nat) (h : mH) (c : Cd), n + k = 17 → RgW h g c → CdB c.1 c.2.1 → 2 ^ k ≤ c.2.1 - c.1 + 1 → Dn (wdn n c) ≤ 722 → (∀ h', RgW h' g (wdn n c) → FrG h h' g → Q h') → Go x mtX5_takes 55 [xR g, xI b, xI w, xI t, xI r, xI k] [] h (qV Q)
  | 0, k, h, c, hnk, H, hB, hR, hD, hQ => by
    obtain ⟨b1, b2, b3⟩ := hB
    have : k = 17 := by omega
    subst this
    have e : (2 : Int) ^ 17 = 131072 := by decide
    rw [e] at hR
    omega
  | n + 1, k, h, (lo, hi, ow, bs), hnk, H, hB, hR, hD, hQ => by
    have ih := rg_loop_w (x := x) (Q := Q) (g := g) (b := b) (w := w) (t := t) (r := r) hg n
    obtain ⟨b1, b2, b3⟩ := id hB
    dsimp only at b1 b2 b3 hR
    have e1 : h g 1 = lo := H.1
    have e2 : h g 2 = hi := H.2.1
    have e3 : h g 3 = (ow : Int) := H.2.2.1
    have hD1 : les lo hi ≠ -9 → Dn (lo, hi, ow, bs) + 1 ≤ 722 := by
      intro q
      have q2 := wdn_D n (stp (lo, hi, ow, bs))
      rw [stp_D] at q2
      rw [wdn, if_neg q] at hD
      omega
    have how : (ow : Int) ≤ 722 := by
      have q2 := wdn_D (n + 1) (lo, hi, ow, bs)
      unfold Dn at q2 hD
      dsimp only at q2
      omega
    refine go_iload dX5_takes_55 rfl ?_
    refine go_bipush dX5_takes_57 (by decide +kernel) ⟨by decide, by decide⟩ ?_
    refine go_icmp_ge_f (tgt := 153) dX5_takes_59 (by decide) (by omega) ?_
    refine go_aload_n dX5_takes_62 rfl ?_
    refine gfX5_high hg.1 flX5_25 dX5_takes_63 ?_
    rw [e2]
    refine go_ldc dX5_takes_66 knX5_75 ⟨by decide, by decide⟩ ?_
    refine go_icmp_ge (tgt := 84) dX5_takes_68 (by decide) (fun c68 => ?_) (fun c68 => ?_)
    · refine go_aload_n dX5_takes_84 rfl ?_
      refine gfX5_low hg.1 flX5_20 dX5_takes_85 ?_
      rw [e1]
      refine go_ldc dX5_takes_88 knX5_75 ⟨by decide, by decide⟩ ?_
      refine go_icmp_lt (tgt := 107) dX5_takes_90 (by decide) (fun c90 => ?_) (fun c90 => ?_)
      · refine go_aload_n dX5_takes_107 rfl ?_
        refine gfX5_low hg.1 flX5_20 dX5_takes_108 ?_
        rw [e1]
        refine go_sipush dX5_takes_111 (by decide +kernel) ⟨by decide, by decide⟩ ?_
        refine go_icmp_lt (tgt := 146) dX5_takes_114 (by decide) (fun c114 => ?_) (fun c114 => ?_)
        · have hl := les_N c68 c90 (by omega)
          refine go_return dX5_takes_146 rfl ?_
          have hwd : wdn (n + 1) (lo, hi, ow, bs) = (lo, hi, ow, bs) := by rw [wdn, if_pos hl]
          rw [hwd] at hQ
          exact hQ _ H FrG.rf
        · refine go_aload_n dX5_takes_117 rfl ?_
          refine gfX5_high hg.1 flX5_25 dX5_takes_118 ?_
          rw [e2]
          refine go_ldc dX5_takes_121 knX5_79 ⟨by decide, by decide⟩ ?_
          refine go_icmp_ge (tgt := 146) dX5_takes_123 (by decide) (fun c123 => ?_) (fun c123 => ?_)
          · have hl := les_N c68 c90 (by omega)
            refine go_return dX5_takes_146 rfl ?_
            have hwd : wdn (n + 1) (lo, hi, ow, bs) = (lo, hi, ow, bs) := by rw [wdn, if_pos hl]
            rw [hwd] at hQ
            exact hQ _ H FrG.rf
          · have hl := les_Q c68 c90 c114 c123
            refine go_aload_n dX5_takes_126 rfl ?_
            first | refine go_dupR dX5_takes_127 ?_ | refine go_dupI dX5_takes_127 ?_
            refine gfX5_owed hg.1 flX5_28 dX5_takes_128 ?_
            rw [e3]
            refine go_iconst dX5_takes_131 ⟨by decide, by decide⟩ ?_
            refine go_iadd dX5_takes_132 (by omega) (by omega) ?_
            refine pfX5_owed hg.1 flX5_28 dX5_takes_133 ?_
            refine go_aload_n dX5_takes_136 rfl ?_
            refine go_sipush dX5_takes_137 (by decide +kernel) ⟨by decide, by decide⟩ ?_
            refine go_cV1V hg.1 vlX5_76 dX5_takes_140 (by decide) rfl rfl (by decide) (Nat.le_of_ble_eq_true rfl) (rg_doubles hg (rgw_owe H).1.2.2.2.1 (by rw [(rgw_owe H).1.1]; show -100000 ≤ lo - 16384; omega) (by rw [(rgw_owe H).1.1]; show lo - 16384 ≤ 100000; omega) (by rw [(rgw_owe H).1.2.1]; show -100000 ≤ hi - 16384; omega) (by rw [(rgw_owe H).1.2.1]; show hi - 16384 ≤ 100000; omega) ?_)
            have Z := rgw_dbl (L := 16384) (rgw_owe H).1
            have H9 := Z.1
            rw [← stp_Q hl] at H9
            have F9 := FrG.tr (rgw_owe H).2 Z.2
            refine go_goto (tgt := 147) dX5_takes_143 (by decide) ?_
            refine go_iinc dX5_takes_147 rfl rfl rfl (by omega) (by omega) (by dsimp only [List.set]) ?_
            refine go_goto (tgt := 55) dX5_takes_150 (by decide) ?_
            have hB9 := stp_B (c := (lo, hi, ow, bs)) hB (by rw [hl]; decide)
            have hwd : wdn (n + 1) (lo, hi, ow, bs) = wdn n (stp (lo, hi, ow, bs)) := by rw [wdn, if_neg (by rw [hl]; decide)]
            rw [hwd] at hD hQ
            refine ih (k + 1) _ (stp (lo, hi, ow, bs)) (by omega) H9 hB9.1 (by rw [hB9.2, pow2_s]; show 2 * 2 ^ k ≤ 2 * (hi - lo + 1); omega) hD (fun h9 a9 b9 => hQ h9 a9 (F9.tr b9))
      · have hl := les_H c68 c90
        refine go_aload_n dX5_takes_93 rfl ?_
        refine go_iconst dX5_takes_94 ⟨by decide, by decide⟩ ?_
        refine go_cV1V hg.1 vlX5_58 dX5_takes_95 (by decide) rfl rfl (by decide) (Nat.le_of_ble_eq_true rfl) (rg_writesBit hg H (Or.inr rfl) (by have := hD1 (by omega); omega) ?_)
        intro h2 H2 F2
        refine go_aload_n dX5_takes_98 rfl ?_
        refine go_ldc dX5_takes_99 knX5_75 ⟨by decide, by decide⟩ ?_
        refine go_cV1V hg.1 vlX5_76 dX5_takes_101 (by decide) rfl rfl (by decide) (Nat.le_of_ble_eq_true rfl) (rg_doubles hg H2.2.2.2.1 (by rw [H2.1]; show -100000 ≤ lo - 32768; omega) (by rw [H2.1]; show lo - 32768 ≤ 100000; omega) (by rw [H2.2.1]; show -100000 ≤ hi - 32768; omega) (by rw [H2.2.1]; show hi - 32768 ≤ 100000; omega) ?_)
        have Z := rgw_dbl (L := 32768) H2
        have H9 := Z.1
        rw [← stp_H hl] at H9
        have F9 := FrG.tr F2 Z.2
        refine go_goto (tgt := 147) dX5_takes_104 (by decide) ?_
        refine go_iinc dX5_takes_147 rfl rfl rfl (by omega) (by omega) (by dsimp only [List.set]) ?_
        refine go_goto (tgt := 55) dX5_takes_150 (by decide) ?_
        have hB9 := stp_B (c := (lo, hi, ow, bs)) hB (by rw [hl]; decide)
        have hwd : wdn (n + 1) (lo, hi, ow, bs) = wdn n (stp (lo, hi, ow, bs)) := by rw [wdn, if_neg (by rw [hl]; decide)]
        rw [hwd] at hD hQ
        refine ih (k + 1) _ (stp (lo, hi, ow, bs)) (by omega) H9 hB9.1 (by rw [hB9.2, pow2_s]; show 2 * 2 ^ k ≤ 2 * (hi - lo + 1); omega) hD (fun h9 a9 b9 => hQ h9 a9 (F9.tr b9))
    · have hl := les_0 (lo := lo) c68
      refine go_aload_n dX5_takes_71 rfl ?_
      refine go_iconst dX5_takes_72 ⟨by decide, by decide⟩ ?_
      refine go_cV1V hg.1 vlX5_58 dX5_takes_73 (by decide) rfl rfl (by decide) (Nat.le_of_ble_eq_true rfl) (rg_writesBit hg H (Or.inl rfl) (by have := hD1 (by omega); omega) ?_)
      intro h2 H2 F2
      refine go_aload_n dX5_takes_76 rfl ?_
      refine go_iconst dX5_takes_77 ⟨by decide, by decide⟩ ?_
      refine go_cV1V hg.1 vlX5_76 dX5_takes_78 (by decide) rfl rfl (by decide) (Nat.le_of_ble_eq_true rfl) (rg_doubles hg H2.2.2.2.1 (by rw [H2.1]; show -100000 ≤ lo - 0; omega) (by rw [H2.1]; show lo - 0 ≤ 100000; omega) (by rw [H2.2.1]; show -100000 ≤ hi - 0; omega) (by rw [H2.2.1]; show hi - 0 ≤ 100000; omega) ?_)
      have Z := rgw_dbl (L := 0) H2
      have H9 := Z.1
      rw [← stp_0 hl] at H9
      have F9 := FrG.tr F2 Z.2
      refine go_goto (tgt := 147) dX5_takes_81 (by decide) ?_
      refine go_iinc dX5_takes_147 rfl rfl rfl (by omega) (by omega) (by dsimp only [List.set]) ?_
      refine go_goto (tgt := 55) dX5_takes_150 (by decide) ?_
      have hB9 := stp_B (c := (lo, hi, ow, bs)) hB (by rw [hl]; decide)
      have hwd : wdn (n + 1) (lo, hi, ow, bs) = wdn n (stp (lo, hi, ow, bs)) := by rw [wdn, if_neg (by rw [hl]; decide)]
      rw [hwd] at hD hQ
      refine ih (k + 1) _ (stp (lo, hi, ow, bs)) (by omega) H9 hB9.1 (by rw [hB9.2, pow2_s]; show 2 * 2 ^ k ≤ 2 * (hi - lo + 1); omega) hD (fun h9 a9 b9 => hQ h9 a9 (F9.tr b9))

set_option maxHeartbeats 4000000 in
set_option maxRecDepth 100000 in
theorem rg_takes_w {x : mX} {h : mH} {Q : mH → Prop} {g : Nat} {c : Cd} {b w t : Int} (hg : isRg g) (H : RgW h g c) (hN : CdN c.1 c.2.1) (hb : 0 ≤ b) (hw : 1 ≤ w) (ht : b + w ≤ t) (ht2 : t ≤ 5000) (hD : Dn (prt c b w t) ≤ 722) (hQ : ∀ h', RgW h' g (prt c b w t) → FrG h h' g → Q h') : CtV x mtX5_takes [xR g, xI b, xI w, xI t] h Q := by
  obtain ⟨lo, hi, ow, bs⟩ := c
  have e1 : h g 1 = lo := H.1
  have e2 : h g 2 = hi := H.2.1
  dsimp only at hN
  have hP := prt_B hN hb hw ht ht2
  obtain ⟨n1, n2, n3⟩ := hN
  have r1 : hi - lo + 1 ≤ 65536 := by omega
  have m1 : -2147483648 ≤ (hi - lo + 1) * (b + w) ∧ (hi - lo + 1) * (b + w) < 2147483648 := by
    have z1 : 0 ≤ (hi - lo + 1) * (b + w) := Int.mul_nonneg (by omega) (by omega)
    have z2 : (hi - lo + 1) * (b + w) ≤ 65536 * 5000 := Int.mul_le_mul r1 (by omega) (by omega) (by decide)
    omega
  have m2 : -2147483648 ≤ (hi - lo + 1) * b ∧ (hi - lo + 1) * b < 2147483648 := by
    have z1 : 0 ≤ (hi - lo + 1) * b := Int.mul_nonneg (by omega) (by omega)
    have z2 : (hi - lo + 1) * b ≤ 65536 * 5000 := Int.mul_le_mul r1 (by omega) (by omega) (by decide)
    omega
  have m3 : 0 ≤ (hi - lo + 1) * (b + w) := Int.mul_nonneg (by omega) (by omega)
  have m4 : 0 ≤ (hi - lo + 1) * b := Int.mul_nonneg (by omega) (by omega)
  obtain ⟨p1, p2, p3⟩ := id hP
  have d1 : 0 ≤ (hi - lo + 1) * (b + w) / t := Int.ediv_nonneg m3 (by omega)
  have d2 : 0 ≤ (hi - lo + 1) * b / t := Int.ediv_nonneg m4 (by omega)
  refine ct_go (ls := [xR g, xI b, xI w, xI t, xU, xU]) (by decide +kernel) (Nat.le_of_ble_eq_true rfl) rfl ?_
  refine go_iload_n dX5_takes_0 rfl ?_
  refine go_if_gt_t (tgt := 5) dX5_takes_1 (by decide) (by omega) ?_
  refine go_aload_n dX5_takes_5 rfl ?_
  refine gfX5_high hg.1 flX5_25 dX5_takes_6 ?_
  rw [e2]
  refine go_aload_n dX5_takes_9 rfl ?_
  refine gfX5_low hg.1 flX5_20 dX5_takes_10 ?_
  rw [e1]
  refine go_isub dX5_takes_13 (by omega) (by omega) ?_
  refine go_iconst dX5_takes_14 ⟨by decide, by decide⟩ ?_
  refine go_iadd dX5_takes_15 (by omega) (by omega) ?_
  refine go_istore dX5_takes_16 (Nat.le_of_ble_eq_true rfl) rfl (by dsimp only [List.set]) ?_
  refine go_aload_n dX5_takes_18 rfl ?_
  refine go_aload_n dX5_takes_19 rfl ?_
  refine gfX5_low hg.1 flX5_20 dX5_takes_20 ?_
  rw [e1]
  refine go_iload dX5_takes_23 rfl ?_
  refine go_iload_n dX5_takes_25 rfl ?_
  refine go_iload_n dX5_takes_26 rfl ?_
  refine go_iadd dX5_takes_27 (by omega) (by omega) ?_
  refine go_imul dX5_takes_28 (by exact m1.1) (by exact m1.2) ?_
  refine go_iload_n dX5_takes_29 rfl ?_
  refine go_idiv dX5_takes_30 (by omega) (by omega) ?_
  refine go_iadd dX5_takes_31 (by omega) (by omega) ?_
  refine go_iconst dX5_takes_32 ⟨by decide, by decide⟩ ?_
  refine go_isub dX5_takes_33 (by omega) (by omega) ?_
  refine pfX5_high hg.1 flX5_25 dX5_takes_34 ?_
  refine go_aload_n dX5_takes_37 rfl ?_
  refine go_aload_n dX5_takes_38 rfl ?_
  refine gfX5_low hg.1 flX5_20 dX5_takes_39 ?_
  rw [hset_nk (show (1 : Int) ≠ 2 by decide), e1]
  refine go_iload dX5_takes_42 rfl ?_
  refine go_iload_n dX5_takes_44 rfl ?_
  refine go_imul dX5_takes_45 (by exact m2.1) (by exact m2.2) ?_
  refine go_iload_n dX5_takes_46 rfl ?_
  refine go_idiv dX5_takes_47 (by omega) (by omega) ?_
  refine go_iadd dX5_takes_48 (by omega) (by omega) ?_
  refine pfX5_low hg.1 flX5_20 dX5_takes_49 ?_
  refine go_iconst dX5_takes_52 ⟨by decide, by decide⟩ ?_
  refine go_istore dX5_takes_53 (Nat.le_of_ble_eq_true rfl) rfl (by dsimp only [List.set]) ?_
  refine rg_loop_w hg 17 0 _ (lo + (hi - lo + 1) * b / t, lo + (hi - lo + 1) * (b + w) / t - 1, ow, bs) rfl ⟨?_, ?_, ?_, ?_, ?_⟩ hP (by rw [Int.pow_zero]; dsimp only; omega) hD (fun h9 a9 b9 => hQ h9 a9 (FrG.tr ⟨fun i q1 q2 q3 => ?_, ?_, ?_⟩ b9))
  · exact hset_eq _ _ _ _
  · rw [hset_nk (by decide), hset_eq]
  · rw [hset_nk (by decide), hset_nk (by decide)]; exact H.2.2.1
  · rw [hset_nk (by decide), hset_nk (by decide)]; exact H.2.2.2.1
  · exact H.2.2.2.2.congr (by rw [hset_ni (by omega), hset_ni (by omega)]) (by rw [hset_ni (by omega), hset_ni (by omega)])
  · rw [hset_ni q1, hset_ni q1]
  · rw [hset_nk (by decide), hset_nk (by decide)]
  · rw [hset_nk (by decide), hset_nk (by decide)]

/-- a Range that is read -/
def RgR (h : mH) (g : Nat) (bs : List Int) (c : Rd) : Prop := h g 1 = c.1 ∧ h g 2 = c.2.1 ∧ h g 3 = c.2.2.1 ∧ h g 5 = 1 ∧ h g 6 = c.2.2.2.1 ∧ h g 7 = c.2.2.2.2 ∧ RowL h (g + 1) bs
theorem rgr_dbl {h : mH} {g : Nat} {lo hi ow va nr L : Int} {bs : List Int} (H : RgR h g bs (lo, hi, ow, va, nr)) : RgR (hset (hset (hset (hset h g 1 (2 * (h g 1 - L))) g 2 (2 * (h g 2 - L) + 1)) g 6 (2 * (h g 6 - L) + srF bs (h g 7))) g 7 (h g 7 + 1)) g bs (2 * (lo - L), 2 * (hi - L) + 1, ow, 2 * (va - L) + srF bs nr, nr + 1) ∧ FrG h (hset (hset (hset (hset h g 1 (2 * (h g 1 - L))) g 2 (2 * (h g 2 - L) + 1)) g 6 (2 * (h g 6 - L) + srF bs (h g 7))) g 7 (h g 7 + 1)) g := by
  obtain ⟨e1, e2, e3, e5, e6, e7, R⟩ := H
  refine ⟨⟨?_, ?_, ?_, ?_, ?_, ?_, R.congr (by rw [hset_ni (by omega), hset_ni (by omega), hset_ni (by omega), hset_ni (by omega)]) (by rw [hset_ni (by omega), hset_ni (by omega), hset_ni (by omega), hset_ni (by omega)])⟩, ⟨fun i q1 q2 q3 => by rw [hset_ni q1, hset_ni q1, hset_ni q1, hset_ni q1], ?_, ?_⟩⟩
  · rw [hset_nk (by decide), hset_nk (by decide), hset_nk (by decide), hset_eq, e1]
  · rw [hset_nk (by decide), hset_nk (by decide), hset_eq, e2]
  · rw [hset_nk (by decide), hset_nk (by decide), hset_nk (by decide), hset_nk (by decide)]; exact e3
  · rw [hset_nk (by decide), hset_nk (by decide), hset_nk (by decide), hset_nk (by decide)]; exact e5
  · rw [hset_nk (by decide), hset_eq, e6, e7]
  · rw [hset_eq, e7]
  · rw [hset_nk (by decide), hset_nk (by decide), hset_nk (by decide), hset_nk (by decide)]
  · rw [hset_nk (by decide), hset_nk (by decide), hset_nk (by decide), hset_nk (by decide)]
theorem rgr_owe {h : mH} {g : Nat} {lo hi ow va nr : Int} {bs : List Int} (H : RgR h g bs (lo, hi, ow, va, nr)) : RgR (hset h g 3 (ow + 1)) g bs (lo, hi, ow + 1, va, nr) ∧ FrG h (hset h g 3 (ow + 1)) g := by
  obtain ⟨e1, e2, e3, e5, e6, e7, R⟩ := H
  refine ⟨⟨?_, ?_, ?_, ?_, ?_, ?_, R.congr (by rw [hset_ni (by omega)]) (by rw [hset_ni (by omega)])⟩, ⟨fun i q1 q2 q3 => by rw [hset_ni q1], ?_, ?_⟩⟩
  · rw [hset_nk (by decide)]; exact e1
  · rw [hset_nk (by decide)]; exact e2
  · rw [hset_eq]
  · rw [hset_nk (by decide)]; exact e5
  · rw [hset_nk (by decide)]; exact e6
  · rw [hset_nk (by decide)]; exact e7
  · rw [hset_nk (by decide)]
  · rw [hset_nk (by decide)]
theorem rstp_L {lo hi ow va nr L : Int} {bs : List Int} (h : les lo hi = L) (hn : L ≠ 16384) : rstp (srF bs) (lo, hi, ow, va, nr) = (2 * (lo - L), 2 * (hi - L) + 1, ow, 2 * (va - L) + srF bs nr, nr + 1) := by
  unfold rstp; simp only [h, if_neg hn]
theorem rstp_Q {lo hi ow va nr : Int} {bs : List Int} (h : les lo hi = 16384) : rstp (srF bs) (lo, hi, ow, va, nr) = (2 * (lo - 16384), 2 * (hi - 16384) + 1, ow + 1, 2 * (va - 16384) + srF bs nr, nr + 1) := by
  unfold rstp; simp only [h]; rfl

set_option maxHeartbeats 4000000 in
set_option maxRecDepth 100000 in
theorem rg_loop_r {x : mX} {Q : mH → Prop} {g : Nat} {bs : List Int} {b w t r : Int} (hg : isRg g) (hN722 : bs.length ≤ 722) (hsf : ∀ k, srF bs k = 0 ∨ srF bs k = 1) : ∀ (n k : Nat) (h : mH) (K : Int) (c : Rd), n + k = 17 → RgR h g bs c → CdB c.1 c.2.1 → 2 ^ k ≤ c.2.1 - c.1 + 1 → RdV K c → K + n ≤ 90000 → (∀ h', RgR h' g bs (rdn (srF bs) n c) → FrG h h' g → Q h') → Go x mtX5_takes 55 [xR g, xI b, xI w, xI t, xI r, xI k] [] h (qV Q)
  | 0, k, h, K, c, hnk, H, hB, hR, hV, hK, hQ => by
    obtain ⟨b1, b2, b3⟩ := hB
    have : k = 17 := by omega
    subst this
    have e : (2 : Int) ^ 17 = 131072 := by decide
    rw [e] at hR
    omega
  | n + 1, k, h, K, (lo, hi, ow, va, nr), hnk, H, hB, hR, hV, hK, hQ => by
    have ih := rg_loop_r (x := x) (Q := Q) (g := g) (bs := bs) (b := b) (w := w) (t := t) (r := r) hg hN722 hsf n
    obtain ⟨b1, b2, b3⟩ := id hB
    obtain ⟨v1, v2, v3, v4, v5, v6⟩ := id hV
    dsimp only at b1 b2 b3 hR v1 v2 v3 v4 v5 v6
    have e1 : h g 1 = lo := H.1
    have e2 : h g 2 = hi := H.2.1
    have e3 : h g 3 = ow := H.2.2.1
    refine go_iload dX5_takes_55 rfl ?_
    refine go_bipush dX5_takes_57 (by decide +kernel) ⟨by decide, by decide⟩ ?_
    refine go_icmp_ge_f (tgt := 153) dX5_takes_59 (by decide) (by omega) ?_
    refine go_aload_n dX5_takes_62 rfl ?_
    refine gfX5_high hg.1 flX5_25 dX5_takes_63 ?_
    rw [e2]
    refine go_ldc dX5_takes_66 knX5_75 ⟨by decide, by decide⟩ ?_
    refine go_icmp_ge (tgt := 84) dX5_takes_68 (by decide) (fun c68 => ?_) (fun c68 => ?_)
    · refine go_aload_n dX5_takes_84 rfl ?_
      refine gfX5_low hg.1 flX5_20 dX5_takes_85 ?_
      rw [e1]
      refine go_ldc dX5_takes_88 knX5_75 ⟨by decide, by decide⟩ ?_
      refine go_icmp_lt (tgt := 107) dX5_takes_90 (by decide) (fun c90 => ?_) (fun c90 => ?_)
      · refine go_aload_n dX5_takes_107 rfl ?_
        refine gfX5_low hg.1 flX5_20 dX5_takes_108 ?_
        rw [e1]
        refine go_sipush dX5_takes_111 (by decide +kernel) ⟨by decide, by decide⟩ ?_
        refine go_icmp_lt (tgt := 146) dX5_takes_114 (by decide) (fun c114 => ?_) (fun c114 => ?_)
        · have hl := les_N c68 c90 (by omega)
          refine go_return dX5_takes_146 rfl ?_
          have hwd : rdn (srF bs) (n + 1) (lo, hi, ow, va, nr) = (lo, hi, ow, va, nr) := by rw [rdn, if_pos hl]
          rw [hwd] at hQ
          exact hQ _ H FrG.rf
        · refine go_aload_n dX5_takes_117 rfl ?_
          refine gfX5_high hg.1 flX5_25 dX5_takes_118 ?_
          rw [e2]
          refine go_ldc dX5_takes_121 knX5_79 ⟨by decide, by decide⟩ ?_
          refine go_icmp_ge (tgt := 146) dX5_takes_123 (by decide) (fun c123 => ?_) (fun c123 => ?_)
          · have hl := les_N c68 c90 (by omega)
            refine go_return dX5_takes_146 rfl ?_
            have hwd : rdn (srF bs) (n + 1) (lo, hi, ow, va, nr) = (lo, hi, ow, va, nr) := by rw [rdn, if_pos hl]
            rw [hwd] at hQ
            exact hQ _ H FrG.rf
          · have hl := les_Q c68 c90 c114 c123
            refine go_aload_n dX5_takes_126 rfl ?_
            first | refine go_dupR dX5_takes_127 ?_ | refine go_dupI dX5_takes_127 ?_
            refine gfX5_owed hg.1 flX5_28 dX5_takes_128 ?_
            rw [e3]
            refine go_iconst dX5_takes_131 ⟨by decide, by decide⟩ ?_
            refine go_iadd dX5_takes_132 (by omega) (by omega) ?_
            refine pfX5_owed hg.1 flX5_28 dX5_takes_133 ?_
            refine go_aload_n dX5_takes_136 rfl ?_
            refine go_sipush dX5_takes_137 (by decide +kernel) ⟨by decide, by decide⟩ ?_
            refine go_cV1V hg.1 vlX5_76 dX5_takes_140 (by decide) rfl rfl (by decide) (Nat.le_of_ble_eq_true rfl) (rg_doubles_r hg (bs := bs) (rgr_owe H).1.2.2.2.2.2.2 hN722 hsf (rgr_owe H).1.2.2.2.1 (by rw [(rgr_owe H).1.1]; show -100000 ≤ lo - 16384; omega) (by rw [(rgr_owe H).1.1]; show lo - 16384 ≤ 100000; omega) (by rw [(rgr_owe H).1.2.1]; show -100000 ≤ hi - 16384; omega) (by rw [(rgr_owe H).1.2.1]; show hi - 16384 ≤ 100000; omega) (by rw [(rgr_owe H).1.2.2.2.2.1]; show -100000 ≤ va - 16384; omega) (by rw [(rgr_owe H).1.2.2.2.2.1]; show va - 16384 ≤ 100000; omega) (by rw [(rgr_owe H).1.2.2.2.2.2.1]; show 0 ≤ nr; omega) (by rw [(rgr_owe H).1.2.2.2.2.2.1]; show nr ≤ 100000; omega) ?_)
            have Z := rgr_dbl (L := 16384) (rgr_owe H).1
            have H9 := Z.1
            rw [← rstp_Q hl] at H9
            have F9 := FrG.tr (rgr_owe H).2 Z.2
            refine go_goto (tgt := 147) dX5_takes_143 (by decide) ?_
            refine go_iinc dX5_takes_147 rfl rfl rfl (by omega) (by omega) (by dsimp only [List.set]) ?_
            refine go_goto (tgt := 55) dX5_takes_150 (by decide) ?_
            have hB9 := rstp_B (sf := srF bs) (c := (lo, hi, ow, va, nr)) hB (by rw [hl]; decide)
            have hwd : rdn (srF bs) (n + 1) (lo, hi, ow, va, nr) = rdn (srF bs) n (rstp (srF bs) (lo, hi, ow, va, nr)) := by rw [rdn, if_neg (by rw [hl]; decide)]
            rw [hwd] at hQ
            refine ih (k + 1) _ (K + 1) (rstp (srF bs) (lo, hi, ow, va, nr)) (by omega) H9 hB9.1 (by rw [hB9.2, pow2_s]; show 2 * 2 ^ k ≤ 2 * (hi - lo + 1); omega) (rstp_V hsf hV) (by omega) (fun h9 a9 b9 => hQ h9 a9 (F9.tr b9))
      · have hl := les_H c68 c90
        refine go_aload_n dX5_takes_93 rfl ?_
        refine go_iconst dX5_takes_94 ⟨by decide, by decide⟩ ?_
        refine go_cV1V hg.1 vlX5_58 dX5_takes_95 (by decide) rfl rfl (by decide) (Nat.le_of_ble_eq_true rfl) (rg_writesBit_r hg H.2.2.2.1 ?_)
        refine go_aload_n dX5_takes_98 rfl ?_
        refine go_ldc dX5_takes_99 knX5_75 ⟨by decide, by decide⟩ ?_
        refine go_cV1V hg.1 vlX5_76 dX5_takes_101 (by decide) rfl rfl (by decide) (Nat.le_of_ble_eq_true rfl) (rg_doubles_r hg (bs := bs) H.2.2.2.2.2.2 hN722 hsf H.2.2.2.1 (by rw [H.1]; show -100000 ≤ lo - 32768; omega) (by rw [H.1]; show lo - 32768 ≤ 100000; omega) (by rw [H.2.1]; show -100000 ≤ hi - 32768; omega) (by rw [H.2.1]; show hi - 32768 ≤ 100000; omega) (by rw [H.2.2.2.2.1]; show -100000 ≤ va - 32768; omega) (by rw [H.2.2.2.2.1]; show va - 32768 ≤ 100000; omega) (by rw [H.2.2.2.2.2.1]; show 0 ≤ nr; omega) (by rw [H.2.2.2.2.2.1]; show nr ≤ 100000; omega) ?_)
        have Z := rgr_dbl (L := 32768) H
        have H9 := Z.1
        rw [← rstp_L hl (by decide)] at H9
        have F9 := FrG.tr FrG.rf Z.2
        refine go_goto (tgt := 147) dX5_takes_104 (by decide) ?_
        refine go_iinc dX5_takes_147 rfl rfl rfl (by omega) (by omega) (by dsimp only [List.set]) ?_
        refine go_goto (tgt := 55) dX5_takes_150 (by decide) ?_
        have hB9 := rstp_B (sf := srF bs) (c := (lo, hi, ow, va, nr)) hB (by rw [hl]; decide)
        have hwd : rdn (srF bs) (n + 1) (lo, hi, ow, va, nr) = rdn (srF bs) n (rstp (srF bs) (lo, hi, ow, va, nr)) := by rw [rdn, if_neg (by rw [hl]; decide)]
        rw [hwd] at hQ
        refine ih (k + 1) _ (K + 1) (rstp (srF bs) (lo, hi, ow, va, nr)) (by omega) H9 hB9.1 (by rw [hB9.2, pow2_s]; show 2 * 2 ^ k ≤ 2 * (hi - lo + 1); omega) (rstp_V hsf hV) (by omega) (fun h9 a9 b9 => hQ h9 a9 (F9.tr b9))
    · have hl := les_0 (lo := lo) c68
      refine go_aload_n dX5_takes_71 rfl ?_
      refine go_iconst dX5_takes_72 ⟨by decide, by decide⟩ ?_
      refine go_cV1V hg.1 vlX5_58 dX5_takes_73 (by decide) rfl rfl (by decide) (Nat.le_of_ble_eq_true rfl) (rg_writesBit_r hg H.2.2.2.1 ?_)
      refine go_aload_n dX5_takes_76 rfl ?_
      refine go_iconst dX5_takes_77 ⟨by decide, by decide⟩ ?_
      refine go_cV1V hg.1 vlX5_76 dX5_takes_78 (by decide) rfl rfl (by decide) (Nat.le_of_ble_eq_true rfl) (rg_doubles_r hg (bs := bs) H.2.2.2.2.2.2 hN722 hsf H.2.2.2.1 (by rw [H.1]; show -100000 ≤ lo - 0; omega) (by rw [H.1]; show lo - 0 ≤ 100000; omega) (by rw [H.2.1]; show -100000 ≤ hi - 0; omega) (by rw [H.2.1]; show hi - 0 ≤ 100000; omega) (by rw [H.2.2.2.2.1]; show -100000 ≤ va - 0; omega) (by rw [H.2.2.2.2.1]; show va - 0 ≤ 100000; omega) (by rw [H.2.2.2.2.2.1]; show 0 ≤ nr; omega) (by rw [H.2.2.2.2.2.1]; show nr ≤ 100000; omega) ?_)
      have Z := rgr_dbl (L := 0) H
      have H9 := Z.1
      rw [← rstp_L hl (by decide)] at H9
      have F9 := FrG.tr FrG.rf Z.2
      refine go_goto (tgt := 147) dX5_takes_81 (by decide) ?_
      refine go_iinc dX5_takes_147 rfl rfl rfl (by omega) (by omega) (by dsimp only [List.set]) ?_
      refine go_goto (tgt := 55) dX5_takes_150 (by decide) ?_
      have hB9 := rstp_B (sf := srF bs) (c := (lo, hi, ow, va, nr)) hB (by rw [hl]; decide)
      have hwd : rdn (srF bs) (n + 1) (lo, hi, ow, va, nr) = rdn (srF bs) n (rstp (srF bs) (lo, hi, ow, va, nr)) := by rw [rdn, if_neg (by rw [hl]; decide)]
      rw [hwd] at hQ
      refine ih (k + 1) _ (K + 1) (rstp (srF bs) (lo, hi, ow, va, nr)) (by omega) H9 hB9.1 (by rw [hB9.2, pow2_s]; show 2 * 2 ^ k ≤ 2 * (hi - lo + 1); omega) (rstp_V hsf hV) (by omega) (fun h9 a9 b9 => hQ h9 a9 (F9.tr b9))

set_option maxHeartbeats 4000000 in
set_option maxRecDepth 100000 in
theorem rg_takes_r {x : mX} {h : mH} {Q : mH → Prop} {g : Nat} {bs : List Int} {K : Int} {c : Rd} {b w t : Int} (hg : isRg g) (H : RgR h g bs c) (hN722 : bs.length ≤ 722) (hsf : ∀ k, srF bs k = 0 ∨ srF bs k = 1) (hN : CdN c.1 c.2.1) (hV : RdV K c) (hK : K ≤ 80000) (hb : 0 ≤ b) (hw : 1 ≤ w) (ht : b + w ≤ t) (ht2 : t ≤ 5000) (hv1 : c.1 + (c.2.1 - c.1 + 1) * b / t ≤ c.2.2.2.1) (hv2 : c.2.2.2.1 ≤ c.1 + (c.2.1 - c.1 + 1) * (b + w) / t - 1) (hQ : ∀ h', RgR h' g bs (rprt (srF bs) c b w t) → FrG h h' g → Q h') : CtV x mtX5_takes [xR g, xI b, xI w, xI t] h Q := by
  obtain ⟨lo, hi, ow, va, nr⟩ := c
  have e1 : h g 1 = lo := H.1
  have e2 : h g 2 = hi := H.2.1
  dsimp only at hN
  have hP := prt_B hN hb hw ht ht2
  obtain ⟨n1, n2, n3⟩ := hN
  have r1 : hi - lo + 1 ≤ 65536 := by omega
  have m1 : -2147483648 ≤ (hi - lo + 1) * (b + w) ∧ (hi - lo + 1) * (b + w) < 2147483648 := by
    have z1 : 0 ≤ (hi - lo + 1) * (b + w) := Int.mul_nonneg (by omega) (by omega)
    have z2 : (hi - lo + 1) * (b + w) ≤ 65536 * 5000 := Int.mul_le_mul r1 (by omega) (by omega) (by decide)
    omega
  have m2 : -2147483648 ≤ (hi - lo + 1) * b ∧ (hi - lo + 1) * b < 2147483648 := by
    have z1 : 0 ≤ (hi - lo + 1) * b := Int.mul_nonneg (by omega) (by omega)
    have z2 : (hi - lo + 1) * b ≤ 65536 * 5000 := Int.mul_le_mul r1 (by omega) (by omega) (by decide)
    omega
  have m3 : 0 ≤ (hi - lo + 1) * (b + w) := Int.mul_nonneg (by omega) (by omega)
  have m4 : 0 ≤ (hi - lo + 1) * b := Int.mul_nonneg (by omega) (by omega)
  obtain ⟨p1, p2, p3⟩ := id hP
  have d1 : 0 ≤ (hi - lo + 1) * (b + w) / t := Int.ediv_nonneg m3 (by omega)
  have d2 : 0 ≤ (hi - lo + 1) * b / t := Int.ediv_nonneg m4 (by omega)
  dsimp only at hv1 hv2
  refine ct_go (ls := [xR g, xI b, xI w, xI t, xU, xU]) (by decide +kernel) (Nat.le_of_ble_eq_true rfl) rfl ?_
  refine go_iload_n dX5_takes_0 rfl ?_
  refine go_if_gt_t (tgt := 5) dX5_takes_1 (by decide) (by omega) ?_
  refine go_aload_n dX5_takes_5 rfl ?_
  refine gfX5_high hg.1 flX5_25 dX5_takes_6 ?_
  rw [e2]
  refine go_aload_n dX5_takes_9 rfl ?_
  refine gfX5_low hg.1 flX5_20 dX5_takes_10 ?_
  rw [e1]
  refine go_isub dX5_takes_13 (by omega) (by omega) ?_
  refine go_iconst dX5_takes_14 ⟨by decide, by decide⟩ ?_
  refine go_iadd dX5_takes_15 (by omega) (by omega) ?_
  refine go_istore dX5_takes_16 (Nat.le_of_ble_eq_true rfl) rfl (by dsimp only [List.set]) ?_
  refine go_aload_n dX5_takes_18 rfl ?_
  refine go_aload_n dX5_takes_19 rfl ?_
  refine gfX5_low hg.1 flX5_20 dX5_takes_20 ?_
  rw [e1]
  refine go_iload dX5_takes_23 rfl ?_
  refine go_iload_n dX5_takes_25 rfl ?_
  refine go_iload_n dX5_takes_26 rfl ?_
  refine go_iadd dX5_takes_27 (by omega) (by omega) ?_
  refine go_imul dX5_takes_28 (by exact m1.1) (by exact m1.2) ?_
  refine go_iload_n dX5_takes_29 rfl ?_
  refine go_idiv dX5_takes_30 (by omega) (by omega) ?_
  refine go_iadd dX5_takes_31 (by omega) (by omega) ?_
  refine go_iconst dX5_takes_32 ⟨by decide, by decide⟩ ?_
  refine go_isub dX5_takes_33 (by omega) (by omega) ?_
  refine pfX5_high hg.1 flX5_25 dX5_takes_34 ?_
  refine go_aload_n dX5_takes_37 rfl ?_
  refine go_aload_n dX5_takes_38 rfl ?_
  refine gfX5_low hg.1 flX5_20 dX5_takes_39 ?_
  rw [hset_nk (show (1 : Int) ≠ 2 by decide), e1]
  refine go_iload dX5_takes_42 rfl ?_
  refine go_iload_n dX5_takes_44 rfl ?_
  refine go_imul dX5_takes_45 (by exact m2.1) (by exact m2.2) ?_
  refine go_iload_n dX5_takes_46 rfl ?_
  refine go_idiv dX5_takes_47 (by omega) (by omega) ?_
  refine go_iadd dX5_takes_48 (by omega) (by omega) ?_
  refine pfX5_low hg.1 flX5_20 dX5_takes_49 ?_
  refine go_iconst dX5_takes_52 ⟨by decide, by decide⟩ ?_
  refine go_istore dX5_takes_53 (Nat.le_of_ble_eq_true rfl) rfl (by dsimp only [List.set]) ?_
  refine rg_loop_r hg hN722 hsf 17 0 _ K (lo + (hi - lo + 1) * b / t, lo + (hi - lo + 1) * (b + w) / t - 1, ow, va, nr) rfl ⟨?_, ?_, ?_, ?_, ?_, ?_, ?_⟩ hP (by rw [Int.pow_zero]; dsimp only; omega) ⟨hv1, hv2, hV.2.2⟩ (by omega) (fun h9 a9 b9 => hQ h9 a9 (FrG.tr ⟨fun i q1 q2 q3 => ?_, ?_, ?_⟩ b9))
  · exact hset_eq _ _ _ _
  · rw [hset_nk (by decide), hset_eq]
  · rw [hset_nk (by decide), hset_nk (by decide)]; exact H.2.2.1
  · rw [hset_nk (by decide), hset_nk (by decide)]; exact H.2.2.2.1
  · rw [hset_nk (by decide), hset_nk (by decide)]; exact H.2.2.2.2.1
  · rw [hset_nk (by decide), hset_nk (by decide)]; exact H.2.2.2.2.2.1
  · exact H.2.2.2.2.2.2.congr (by rw [hset_ni (by omega), hset_ni (by omega)]) (by rw [hset_ni (by omega), hset_ni (by omega)])
  · rw [hset_ni q1, hset_ni q1]
  · rw [hset_nk (by decide), hset_nk (by decide)]
  · rw [hset_nk (by decide), hset_nk (by decide)]
