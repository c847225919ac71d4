/-! ===== the model: part ===== -/
set_option maxHeartbeats 4000000 in
set_option maxRecDepth 100000 in
theorem md_loop_w {x : mX} {Q : mH → Prop} {b w t r : Int} : ∀ (n k : Nat) (h : mH) (c : Cd), n + k = 17 → MW h c → CdB c.1 c.2.1 → 2 ^ k ≤ c.2.1 - c.1 + 1 → Dn (wdn n c) ≤ 722 → (∀ h', MW h' (wdn n c) → FrX h h' → Q h') → Go x mtX10_part 81 [xR 52, xI b, xI w, xI t, xI r, xI 1] [] h (qV Q)
  | 0, k, h, c, hnk, H, hB, hR, hD, hQ => by
    obtain ⟨b1, b2, b3⟩ := hB
    have : k = 17 := by omega
    subst this
    have e : (2 : Int) ^ 17 = 131072 := by decide
    rw [e] at hR
    omega
  | n + 1, k, h, (lo, hi, ow, bs), hnk, H, hB, hR, hD, hQ => by
    have ih := md_loop_w (x := x) (Q := Q) (b := b) (w := w) (t := t) (r := r) n
    obtain ⟨b1, b2, b3⟩ := id hB
    dsimp only at b1 b2 b3 hR
    have q2 := wdn_D (n + 1) (lo, hi, ow, bs)
    refine go_iload dX10_part_81 rfl ?_
    refine go_if_eq_f (tgt := 95) dX10_part_83 (by decide) (by decide) ?_
    refine go_aload_n dX10_part_86 rfl ?_
    refine go_cV0I (by first | assumption | rfl) vlX10_97 dX10_part_87 (by decide) rfl rfl (by decide) (Nat.le_of_ble_eq_true rfl) (md_widens_w H hB (by omega) (fun hl => ?_) (fun hl h9 H9 F9 => ?_))
    · skip
      refine go_istore dX10_part_90 (Nat.le_of_ble_eq_true rfl) rfl (by dsimp only [List.set]) ?_
      refine go_goto (tgt := 81) dX10_part_92 (by decide) ?_
      refine go_iload dX10_part_81 rfl ?_
      refine go_if_eq_t (tgt := 95) dX10_part_83 (by decide) (rfl) ?_
      refine go_return dX10_part_95 rfl ?_
      have hwd : wdn (n + 1) (lo, hi, ow, bs) = (lo, hi, ow, bs) := by rw [wdn, if_pos hl]
      rw [hwd] at hQ
      exact hQ _ H FrX.rf
    · skip
      refine go_istore dX10_part_90 (Nat.le_of_ble_eq_true rfl) rfl (by dsimp only [List.set]) ?_
      refine go_goto (tgt := 81) dX10_part_92 (by decide) ?_
      have hB9 := stp_B (c := (lo, hi, ow, bs)) hB hl
      have hwd : wdn (n + 1) (lo, hi, ow, bs) = wdn n (stp (lo, hi, ow, bs)) := by rw [wdn, if_neg hl]
      rw [hwd] at hD hQ
      refine ih (k + 1) _ (stp (lo, hi, ow, bs)) (by omega) H9 hB9.1 (by rw [hB9.2, pow2_s]; show 2 * 2 ^ k ≤ 2 * (hi - lo + 1); omega) hD (fun h8 a8 b8 => hQ h8 a8 (F9.tr b8))

set_option maxHeartbeats 4000000 in
set_option maxRecDepth 100000 in
theorem md_part_w {x : mX} {h : mH} {Q : mH → Prop} {c : Cd} {b w t : Int} (H : MW h c) (hN : CdN c.1 c.2.1) (hb : 0 ≤ b) (hw : 1 ≤ w) (ht : b + w ≤ t) (ht2 : t ≤ 5000) (hD : Dn (prt c b w t) ≤ 722) (hQ : ∀ h', MW h' (prt c b w t) → FrX h h' → Q h') : CtV x mtX10_part [xR 52, xI b, xI w, xI t] h Q := by
  obtain ⟨lo, hi, ow, bs⟩ := c
  have e12 : h 52 12 = lo := H.1
  have e13 : h 52 13 = hi := H.2.1
  have e17 : h 52 17 = 0 := H.2.2.2.2
  dsimp only at hN
  have hP := prt_B hN hb hw ht ht2
  obtain ⟨n1, n2, n3⟩ := hN
  have r1 : hi - lo + 1 ≤ 65536 := by omega
  have m1 : -2147483648 ≤ (hi - lo + 1) * (b + w) ∧ (hi - lo + 1) * (b + w) < 2147483648 := by
    have z1 : 0 ≤ (hi - lo + 1) * (b + w) := Int.mul_nonneg (by omega) (by omega)
    have z2 : (hi - lo + 1) * (b + w) ≤ 65536 * 5000 := Int.mul_le_mul r1 (by omega) (by omega) (by decide)
    omega
  have m2 : -2147483648 ≤ (hi - lo + 1) * b ∧ (hi - lo + 1) * b < 2147483648 := by
    have z1 : 0 ≤ (hi - lo + 1) * b := Int.mul_nonneg (by omega) (by omega)
    have z2 : (hi - lo + 1) * b ≤ 65536 * 5000 := Int.mul_le_mul r1 (by omega) (by omega) (by decide)
    omega
  have m3 : 0 ≤ (hi - lo + 1) * (b + w) := Int.mul_nonneg (by omega) (by omega)
  have m4 : 0 ≤ (hi - lo + 1) * b := Int.mul_nonneg (by omega) (by omega)
  obtain ⟨p1, p2, p3⟩ := id hP
  have d1 : 0 ≤ (hi - lo + 1) * (b + w) / t := Int.ediv_nonneg m3 (by omega)
  have d2 : 0 ≤ (hi - lo + 1) * b / t := Int.ediv_nonneg m4 (by omega)
  refine ct_go (ls := [xR 52, xI b, xI w, xI t, xU, xU]) (by decide +kernel) (Nat.le_of_ble_eq_true rfl) rfl ?_
  refine go_aload_n dX10_part_0 rfl ?_
  refine gfX10_mode (by first | assumption | rfl) flX10_46 dX10_part_1 ?_
  try simp (disch := decide) only [hset_eq, hset_nk, hset_ni, e12, e13, e17]
  refine go_iconst dX10_part_4 ⟨by decide, by decide⟩ ?_
  refine go_icmp_ne_t (tgt := 31) dX10_part_5 (by decide) (by decide) ?_
  refine go_aload_n dX10_part_31 rfl ?_
  refine gfX10_high (by first | assumption | rfl) flX10_59 dX10_part_32 ?_
  try simp (disch := decide) only [hset_eq, hset_nk, hset_ni, e12, e13, e17]
  refine go_aload_n dX10_part_35 rfl ?_
  refine gfX10_low (by first | assumption | rfl) flX10_55 dX10_part_36 ?_
  try simp (disch := decide) only [hset_eq, hset_nk, hset_ni, e12, e13, e17]
  refine go_isub dX10_part_39 (by omega) (by omega) ?_
  refine go_iconst dX10_part_40 ⟨by decide, by decide⟩ ?_
  refine go_iadd dX10_part_41 (by omega) (by omega) ?_
  refine go_istore dX10_part_42 (Nat.le_of_ble_eq_true rfl) rfl (by dsimp only [List.set]) ?_
  refine go_aload_n dX10_part_44 rfl ?_
  refine go_aload_n dX10_part_45 rfl ?_
  refine gfX10_low (by first | assumption | rfl) flX10_55 dX10_part_46 ?_
  try simp (disch := decide) only [hset_eq, hset_nk, hset_ni, e12, e13, e17]
  refine go_iload dX10_part_49 rfl ?_
  refine go_iload_n dX10_part_51 rfl ?_
  refine go_iload_n dX10_part_52 rfl ?_
  refine go_iadd dX10_part_53 (by omega) (by omega) ?_
  refine go_imul dX10_part_54 (by exact m1.1) (by exact m1.2) ?_
  refine go_iload_n dX10_part_55 rfl ?_
  refine go_idiv dX10_part_56 (by omega) (by omega) ?_
  refine go_iadd dX10_part_57 (by omega) (by omega) ?_
  refine go_iconst dX10_part_58 ⟨by decide, by decide⟩ ?_
  refine go_isub dX10_part_59 (by omega) (by omega) ?_
  refine pfX10_high (by first | assumption | rfl) flX10_59 dX10_part_60 ?_
  refine go_aload_n dX10_part_63 rfl ?_
  refine go_aload_n dX10_part_64 rfl ?_
  refine gfX10_low (by first | assumption | rfl) flX10_55 dX10_part_65 ?_
  try simp (disch := decide) only [hset_eq, hset_nk, hset_ni, e12, e13, e17]
  refine go_iload dX10_part_68 rfl ?_
  refine go_iload_n dX10_part_70 rfl ?_
  refine go_imul dX10_part_71 (by exact m2.1) (by exact m2.2) ?_
  refine go_iload_n dX10_part_72 rfl ?_
  refine go_idiv dX10_part_73 (by omega) (by omega) ?_
  refine go_iadd dX10_part_74 (by omega) (by omega) ?_
  refine pfX10_low (by first | assumption | rfl) flX10_55 dX10_part_75 ?_
  refine go_iconst dX10_part_78 ⟨by decide, by decide⟩ ?_
  refine go_istore dX10_part_79 (Nat.le_of_ble_eq_true rfl) rfl (by dsimp only [List.set]) ?_
  refine md_loop_w 17 0 _ (lo + (hi - lo + 1) * b / t, lo + (hi - lo + 1) * (b + w) / t - 1, ow, bs) rfl ⟨?_, ?_, ?_, ?_, ?_⟩ hP (by rw [Int.pow_zero]; dsimp only; omega) hD (fun h9 a9 b9 => hQ h9 a9 (FrX.tr (FrX.st (FrX.st FrX.rf (by decide)) (by decide)) b9))
  · simp (disch := decide) only [hset_eq, hset_nk, hset_ni]
  · simp (disch := decide) only [hset_eq, hset_nk, hset_ni]
  · simp (disch := decide) only [hset_eq, hset_nk, hset_ni]; exact H.2.2.1
  · exact H.2.2.2.1.congr (by simp (disch := decide) only [hset_eq, hset_nk, hset_ni]) (by simp (disch := decide) only [hset_eq, hset_nk, hset_ni])
  · simp (disch := decide) only [hset_eq, hset_nk, hset_ni]; exact e17

set_option maxHeartbeats 4000000 in
set_option maxRecDepth 100000 in
theorem md_loop_r {x : mX} {Q : mH → Prop} {b w t r : Int} {bs : List Int} (hN : bs.length ≤ 2800) (hsf : ∀ k, srF bs k = 0 ∨ srF bs k = 1) : ∀ (n k : Nat) (h : mH) (K : Int) (c : Rd), n + k = 17 → MR h bs c → CdB c.1 c.2.1 → 2 ^ k ≤ c.2.1 - c.1 + 1 → RdV K c → K + n ≤ 90000 → (∀ h', MR h' bs (rdn (srF bs) n c) → FrX h h' → Q h') → Go x mtX10_part 81 [xR 52, xI b, xI w, xI t, xI r, xI 1] [] h (qV Q)
  | 0, k, h, K, c, hnk, H, hB, hR, hV, hK, hQ => by
    obtain ⟨b1, b2, b3⟩ := hB
    have : k = 17 := by omega
    subst this
    have e : (2 : Int) ^ 17 = 131072 := by decide
    rw [e] at hR
    omega
  | n + 1, k, h, K, (lo, hi, ow, va, nr), hnk, H, hB, hR, hV, hK, hQ => by
    have ih := md_loop_r (x := x) (Q := Q) (b := b) (w := w) (t := t) (r := r) hN hsf n
    obtain ⟨b1, b2, b3⟩ := id hB
    dsimp only at b1 b2 b3 hR
    refine go_iload dX10_part_81 rfl ?_
    refine go_if_eq_f (tgt := 95) dX10_part_83 (by decide) (by decide) ?_
    refine go_aload_n dX10_part_86 rfl ?_
    refine go_cV0I (by first | assumption | rfl) vlX10_97 dX10_part_87 (by decide) rfl rfl (by decide) (Nat.le_of_ble_eq_true rfl) (md_widens_r H hN hsf hB hV (by omega) (fun hl => ?_) (fun hl h9 H9 F9 => ?_))
    · skip
      refine go_istore dX10_part_90 (Nat.le_of_ble_eq_true rfl) rfl (by dsimp only [List.set]) ?_
      refine go_goto (tgt := 81) dX10_part_92 (by decide) ?_
      refine go_iload dX10_part_81 rfl ?_
      refine go_if_eq_t (tgt := 95) dX10_part_83 (by decide) (rfl) ?_
      refine go_return dX10_part_95 rfl ?_
      have hwd : rdn (srF bs) (n + 1) (lo, hi, ow, va, nr) = (lo, hi, ow, va, nr) := by rw [rdn, if_pos hl]
      rw [hwd] at hQ
      exact hQ _ H FrX.rf
    · skip
      refine go_istore dX10_part_90 (Nat.le_of_ble_eq_true rfl) rfl (by dsimp only [List.set]) ?_
      refine go_goto (tgt := 81) dX10_part_92 (by decide) ?_
      have hB9 := rstp_B (sf := srF bs) (c := (lo, hi, ow, va, nr)) hB hl
      have hV9 := rstp_V (c := (lo, hi, ow, va, nr)) hsf hV
      have hwd : rdn (srF bs) (n + 1) (lo, hi, ow, va, nr) = rdn (srF bs) n (rstp (srF bs) (lo, hi, ow, va, nr)) := by rw [rdn, if_neg hl]
      rw [hwd] at hQ
      refine ih (k + 1) _ (K + 1) (rstp (srF bs) (lo, hi, ow, va, nr)) (by omega) H9 hB9.1 (by rw [hB9.2, pow2_s]; show 2 * 2 ^ k ≤ 2 * (hi - lo + 1); omega) hV9 (by omega) (fun h8 a8 b8 => hQ h8 a8 (F9.tr b8))

set_option maxHeartbeats 4000000 in
set_option maxRecDepth 100000 in
theorem md_part_r {x : mX} {h : mH} {Q : mH → Prop} {bs : List Int} {K : Int} {c : Rd} {b w t : Int} (H : MR h bs c) (hN2 : bs.length ≤ 2800) (hsf : ∀ k, srF bs k = 0 ∨ srF bs k = 1) (hN : CdN c.1 c.2.1) (hV : RdV K c) (hK : K ≤ 80000) (hb : 0 ≤ b) (hw : 1 ≤ w) (ht : b + w ≤ t) (ht2 : t ≤ 5000) (hv1 : c.1 + (c.2.1 - c.1 + 1) * b / t ≤ c.2.2.2.1) (hv2 : c.2.2.2.1 ≤ c.1 + (c.2.1 - c.1 + 1) * (b + w) / t - 1) (hQ : ∀ h', MR h' bs (rprt (srF bs) c b w t) → FrX h h' → Q h') : CtV x mtX10_part [xR 52, xI b, xI w, xI t] h Q := by
  obtain ⟨lo, hi, ow, va, nr⟩ := c
  have e12 : h 52 12 = lo := H.1
  have e13 : h 52 13 = hi := H.2.1
  have e17 : h 52 17 = 1 := H.2.2.2.2.2.1
  dsimp only at hN
  have hP := prt_B hN hb hw ht ht2
  obtain ⟨n1, n2, n3⟩ := hN
  have r1 : hi - lo + 1 ≤ 65536 := by omega
  have m1 : -2147483648 ≤ (hi - lo + 1) * (b + w) ∧ (hi - lo + 1) * (b + w) < 2147483648 := by
    have z1 : 0 ≤ (hi - lo + 1) * (b + w) := Int.mul_nonneg (by omega) (by omega)
    have z2 : (hi - lo + 1) * (b + w) ≤ 65536 * 5000 := Int.mul_le_mul r1 (by omega) (by omega) (by decide)
    omega
  have m2 : -2147483648 ≤ (hi - lo + 1) * b ∧ (hi - lo + 1) * b < 2147483648 := by
    have z1 : 0 ≤ (hi - lo + 1) * b := Int.mul_nonneg (by omega) (by omega)
    have z2 : (hi - lo + 1) * b ≤ 65536 * 5000 := Int.mul_le_mul r1 (by omega) (by omega) (by decide)
    omega
  have m3 : 0 ≤ (hi - lo + 1) * (b + w) := Int.mul_nonneg (by omega) (by omega)
  have m4 : 0 ≤ (hi - lo + 1) * b := Int.mul_nonneg (by omega) (by omega)
  obtain ⟨p1, p2, p3⟩ := id hP
  have d1 : 0 ≤ (hi - lo + 1) * (b + w) / t := Int.ediv_nonneg m3 (by omega)
  have d2 : 0 ≤ (hi - lo + 1) * b / t := Int.ediv_nonneg m4 (by omega)
  refine ct_go (ls := [xR 52, xI b, xI w, xI t, xU, xU]) (by decide +kernel) (Nat.le_of_ble_eq_true rfl) rfl ?_
  refine go_aload_n dX10_part_0 rfl ?_
  refine gfX10_mode (by first | assumption | rfl) flX10_46 dX10_part_1 ?_
  try simp (disch := decide) only [hset_eq, hset_nk, hset_ni, e12, e13, e17]
  refine go_iconst dX10_part_4 ⟨by decide, by decide⟩ ?_
  refine go_icmp_ne_t (tgt := 31) dX10_part_5 (by decide) (by decide) ?_
  refine go_aload_n dX10_part_31 rfl ?_
  refine gfX10_high (by first | assumption | rfl) flX10_59 dX10_part_32 ?_
  try simp (disch := decide) only [hset_eq, hset_nk, hset_ni, e12, e13, e17]
  refine go_aload_n dX10_part_35 rfl ?_
  refine gfX10_low (by first | assumption | rfl) flX10_55 dX10_part_36 ?_
  try simp (disch := decide) only [hset_eq, hset_nk, hset_ni, e12, e13, e17]
  refine go_isub dX10_part_39 (by omega) (by omega) ?_
  refine go_iconst dX10_part_40 ⟨by decide, by decide⟩ ?_
  refine go_iadd dX10_part_41 (by omega) (by omega) ?_
  refine go_istore dX10_part_42 (Nat.le_of_ble_eq_true rfl) rfl (by dsimp only [List.set]) ?_
  refine go_aload_n dX10_part_44 rfl ?_
  refine go_aload_n dX10_part_45 rfl ?_
  refine gfX10_low (by first | assumption | rfl) flX10_55 dX10_part_46 ?_
  try simp (disch := decide) only [hset_eq, hset_nk, hset_ni, e12, e13, e17]
  refine go_iload dX10_part_49 rfl ?_
  refine go_iload_n dX10_part_51 rfl ?_
  refine go_iload_n dX10_part_52 rfl ?_
  refine go_iadd dX10_part_53 (by omega) (by omega) ?_
  refine go_imul dX10_part_54 (by exact m1.1) (by exact m1.2) ?_
  refine go_iload_n dX10_part_55 rfl ?_
  refine go_idiv dX10_part_56 (by omega) (by omega) ?_
  refine go_iadd dX10_part_57 (by omega) (by omega) ?_
  refine go_iconst dX10_part_58 ⟨by decide, by decide⟩ ?_
  refine go_isub dX10_part_59 (by omega) (by omega) ?_
  refine pfX10_high (by first | assumption | rfl) flX10_59 dX10_part_60 ?_
  refine go_aload_n dX10_part_63 rfl ?_
  refine go_aload_n dX10_part_64 rfl ?_
  refine gfX10_low (by first | assumption | rfl) flX10_55 dX10_part_65 ?_
  try simp (disch := decide) only [hset_eq, hset_nk, hset_ni, e12, e13, e17]
  refine go_iload dX10_part_68 rfl ?_
  refine go_iload_n dX10_part_70 rfl ?_
  refine go_imul dX10_part_71 (by exact m2.1) (by exact m2.2) ?_
  refine go_iload_n dX10_part_72 rfl ?_
  refine go_idiv dX10_part_73 (by omega) (by omega) ?_
  refine go_iadd dX10_part_74 (by omega) (by omega) ?_
  refine pfX10_low (by first | assumption | rfl) flX10_55 dX10_part_75 ?_
  refine go_iconst dX10_part_78 ⟨by decide, by decide⟩ ?_
  refine go_istore dX10_part_79 (Nat.le_of_ble_eq_true rfl) rfl (by dsimp only [List.set]) ?_
  refine md_loop_r hN2 hsf 17 0 _ K (lo + (hi - lo + 1) * b / t, lo + (hi - lo + 1) * (b + w) / t - 1, ow, va, nr) rfl ⟨?_, ?_, ?_, ?_, ?_, ?_, ?_⟩ hP (by rw [Int.pow_zero]; dsimp only; omega) ⟨hv1, hv2, hV.2.2⟩ (by omega) (fun h9 a9 b9 => hQ h9 a9 (FrX.tr (FrX.st (FrX.st FrX.rf (by decide)) (by decide)) b9))
  · simp (disch := decide) only [hset_eq, hset_nk, hset_ni]
  · simp (disch := decide) only [hset_eq, hset_nk, hset_ni]
  · simp (disch := decide) only [hset_eq, hset_nk, hset_ni]; exact H.2.2.1
  · simp (disch := decide) only [hset_eq, hset_nk, hset_ni]; exact H.2.2.2.1
  · simp (disch := decide) only [hset_eq, hset_nk, hset_ni]; exact H.2.2.2.2.1
  · simp (disch := decide) only [hset_eq, hset_nk, hset_ni]; exact e17
  · exact H.2.2.2.2.2.2.congr (by simp (disch := decide) only [hset_eq, hset_nk, hset_ni]) (by simp (disch := decide) only [hset_eq, hset_nk, hset_ni])

/-- the model weighs -/
def MO (h : mH) (c : Od) : Prop := h 52 22 = c.2.1 ∧ h 52 23 = c.2.2 ∧ h 52 17 = 2

set_option maxHeartbeats 4000000 in
set_option maxRecDepth 100000 in
theorem md_part_o {x : mX} {h : mH} {Q : mH → Prop} {c : Od} {b w t : Int} (H : MO h c) (m1 : inL (c.2.1 * w)) (m2 : inL (c.2.2 * t)) (hQ : ∀ h', MO h' (tkO c b w t) → FrX h h' → Q h') : CtV x mtX10_part [xR 52, xI b, xI w, xI t] h Q := by
  have e22 : h 52 22 = c.2.1 := H.1
  have e23 : h 52 23 = c.2.2 := H.2.1
  have e17 : h 52 17 = 2 := H.2.2
  refine ct_go (ls := [xR 52, xI b, xI w, xI t, xU, xU]) (by decide +kernel) (Nat.le_of_ble_eq_true rfl) rfl ?_
  refine go_aload_n dX10_part_0 rfl ?_
  refine gfX10_mode (by first | assumption | rfl) flX10_46 dX10_part_1 ?_
  try simp (disch := decide) only [hset_eq, hset_nk, hset_ni, e22, e23, e17]
  refine go_iconst dX10_part_4 ⟨by decide, by decide⟩ ?_
  refine go_icmp_ne_f (tgt := 31) dX10_part_5 (by decide) (rfl) ?_
  refine go_aload_n dX10_part_8 rfl ?_
  first | refine go_dupR dX10_part_9 ?_ | refine go_dupI dX10_part_9 ?_
  refine gfX10_upper (by first | assumption | rfl) flX10_90 dX10_part_10 ?_
  try simp (disch := decide) only [hset_eq, hset_nk, hset_ni, e22, e23, e17]
  refine go_iload_n dX10_part_13 rfl ?_
  refine go_i2l dX10_part_14 ?_
  refine go_lmul dX10_part_15 (m1) ?_
  refine pfX10_upper (by first | assumption | rfl) flX10_90 dX10_part_16 ?_
  refine go_aload_n dX10_part_19 rfl ?_
  first | refine go_dupR dX10_part_20 ?_ | refine go_dupI dX10_part_20 ?_
  refine gfX10_lower (by first | assumption | rfl) flX10_94 dX10_part_21 ?_
  try simp (disch := decide) only [hset_eq, hset_nk, hset_ni, e22, e23, e17]
  refine go_iload_n dX10_part_24 rfl ?_
  refine go_i2l dX10_part_25 ?_
  refine go_lmul dX10_part_26 (m2) ?_
  refine pfX10_lower (by first | assumption | rfl) flX10_94 dX10_part_27 ?_
  refine go_return dX10_part_30 rfl ?_
  refine hQ _ ⟨by simp (disch := decide) only [hset_eq, hset_nk, hset_ni]; rfl, by simp (disch := decide) only [hset_eq, hset_nk, hset_ni]; rfl, by simp (disch := decide) only [hset_eq, hset_nk, hset_ni]; exact e17⟩ (FrX.st (FrX.st FrX.rf (by decide)) (by decide))

/-! ===== the model: plain ===== -/
theorem shl_1 : ∀ s, s < 4 → (0 : Int) ≤ ((2 ^ s : Nat) : Int) - 1 ∧ ((2 ^ s : Nat) : Int) - 1 < 16 := by decide +kernel
theorem andm_ok : ∀ a, a < 16 → ∀ s, s < 4 → Int32.ofInt ((a : Nat) : Int) &&& Int32.ofInt (((2 ^ s : Nat) : Int) - 1) = Int32.ofInt ((a &&& (2 ^ s - 1) : Nat) : Int) := by decide +kernel
theorem andm_bd : ∀ a, a < 16 → ∀ s, s < 4 → a &&& (2 ^ s - 1) < 16 := by decide +kernel
def wP (sh k : Nat) : Int := 1 - b1 (hb sh k)
theorem tot_wP : ∀ sh, sh < 16 → ∀ s, s < 4 → tot (wP sh) s = (s : Int) - pc4 (sh &&& (2 ^ s - 1)) := by decide +kernel
theorem tot_wP4 : ∀ sh, sh < 16 → tot (wP sh) 4 = 4 - pc4 sh := by decide +kernel
theorem wE_wP {cs : Int → Int} {sh k : Nat} (hk : k < 4) : wE cs (-1) sh k = wP sh k := (st_plain (cs := cs) (sh := sh)).1 k hk
theorem tot_plain {cs : Int → Int} {sh s : Nat} (hs : s ≤ 4) : tot (wE cs (-1) sh) s = tot (wP sh) s := tot_congr (fun k hk => wE_wP (by omega))
theorem tot_plain5 {cs : Int → Int} {sh : Nat} : tot (wE cs (-1) sh) 5 = tot (wP sh) 4 := by
  rw [tot, (st_plain (cs := cs) (sh := sh)).2, tot_plain (Nat.le_refl _)]; omega

set_option maxHeartbeats 4000000 in
set_option maxRecDepth 100000 in
theorem md_plain_w {x : mX} {h : mH} {Q : Int → mH → Prop} {sh s : Nat} (hsh : sh < 16) (hs : s < 4) (hm : h 52 17 ≠ 1) (hP : ∀ {Q2 : mH → Prop}, (∀ h', Q s (hset h' 52 24 (-1)) → Q2 h') → CtV x mtX10_part [xR 52, xI (tot (wP sh) s), xI 1, xI (tot (wP sh) 4)] h Q2) : CtI x mtX10_plain [xR 52, xI s, xI sh] h Q := by
  refine ct_go (ls := [xR 52, xI s, xI sh, xU, xU, xU, xU]) (by decide +kernel) (Nat.le_of_ble_eq_true rfl) rfl ?_
  refine go_iconst dX10_plain_0 ⟨by decide, by decide⟩ ?_
  refine go_iload_n dX10_plain_1 rfl ?_
  refine go_cS1I slX10_109 dX10_plain_2 (by decide) (Nat.le_of_ble_eq_true rfl) (md_ones hsh ?_)
  have g4 := tot_wP4 sh hsh
  have g3 := pc4_bd sh
  refine go_isub dX10_plain_5 (by omega) (by omega) ?_
  refine go_istore_n 3 dX10_plain_6 rfl (Nat.le_of_ble_eq_true rfl) rfl (by dsimp only [List.set]) ?_
  refine go_aload_n dX10_plain_7 rfl ?_
  refine gfX10_mode (by first | assumption | rfl) flX10_46 dX10_plain_8 ?_
  refine go_iconst dX10_plain_11 ⟨by decide, by decide⟩ ?_
  refine go_icmp_ne_t (tgt := 23) dX10_plain_12 (by decide) (hm) ?_
  refine go_iconst dX10_plain_23 ⟨by decide, by decide⟩ ?_
  refine go_istore dX10_plain_24 (Nat.le_of_ble_eq_true rfl) rfl (by dsimp only [List.set]) ?_
  refine go_iload_n dX10_plain_26 rfl ?_
  refine go_istore dX10_plain_27 (Nat.le_of_ble_eq_true rfl) rfl (by dsimp only [List.set]) ?_
  refine go_iconst dX10_plain_29 ⟨by decide, by decide⟩ ?_
  refine go_istore dX10_plain_30 (Nat.le_of_ble_eq_true rfl) rfl (by dsimp only [List.set]) ?_
  refine go_iload dX10_plain_32 rfl ?_
  refine go_if_lt_f (tgt := 88) dX10_plain_34 (by decide) (by decide) ?_
  refine go_aload_n dX10_plain_37 rfl ?_
  refine gfX10_mode (by first | assumption | rfl) flX10_46 dX10_plain_38 ?_
  refine go_iconst dX10_plain_41 ⟨by decide, by decide⟩ ?_
  refine go_icmp_ne_t (tgt := 88) dX10_plain_42 (by decide) (hm) ?_
  refine go_aload_n dX10_plain_88 rfl ?_
  refine go_iload dX10_plain_89 rfl ?_
  refine go_iload_n dX10_plain_91 rfl ?_
  refine go_iconst dX10_plain_92 ⟨by decide, by decide⟩ ?_
  refine go_iload dX10_plain_93 rfl ?_
  refine go_ishl  dX10_plain_95 (shl_ok s hs) (inR_nat (by have := pow_bd s hs; omega)) ?_
  refine go_iconst dX10_plain_96 ⟨by decide, by decide⟩ ?_
  refine go_isub dX10_plain_97 (by have := shl_1 s hs; omega) (by have := shl_1 s hs; omega) ?_
  refine go_iand  dX10_plain_98 (andm_ok sh hsh s hs) (inR_nat (by have := andm_bd sh hsh s hs; omega)) ?_
  refine go_cS1I slX10_109 dX10_plain_99 (by decide) (Nat.le_of_ble_eq_true rfl) (md_ones (andm_bd sh hsh s hs) ?_)
  have g9 := tot_wP sh hsh s hs
  have g8 := pc4_bd (sh &&& (2 ^ s - 1))
  refine go_isub dX10_plain_102 (by omega) (by omega) ?_
  rw [← g9]
  refine go_iconst dX10_plain_103 ⟨by decide, by decide⟩ ?_
  refine go_iload_n dX10_plain_104 rfl ?_
  rw [← g4]
  refine go_cV3V rfl vlX10_116 dX10_plain_105 (by decide) rfl rfl (by decide) (Nat.le_of_ble_eq_true rfl) (hP (fun h9 k9 => ?_))
  refine go_aload_n dX10_plain_108 rfl ?_
  refine go_iconst dX10_plain_109 ⟨by decide, by decide⟩ ?_
  refine pfX10_found (by first | assumption | rfl) flX10_120 dX10_plain_110 ?_
  refine go_iload dX10_plain_113 rfl ?_
  refine go_ireturn dX10_plain_115 rfl ?_
  exact k9
