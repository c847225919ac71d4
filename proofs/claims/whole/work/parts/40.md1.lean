/-! ===== the model: small words ===== -/
theorem and10_ok : ∀ m, m < 16 → Int32.ofInt ((m : Nat) : Int) &&& Int32.ofInt 1 = Int32.ofInt (b1 (hb m 0)) := by decide +kernel
theorem inR_b1 (b : Bool) : inR (b1 b) := by have := b1_bd b; exact ⟨by omega, by omega⟩
theorem shr_n (m s : Nat) (hm : m < 16) (hs : s < 4) : inR ((m >>> s : Nat) : Int) := by have := shr_bd m hm s hs; exact inR_nat (by omega)

set_option maxHeartbeats 4000000 in
set_option maxRecDepth 100000 in
theorem md_within {x : mX} {h : mH} {Q : Int → mH → Prop} {z a b : Int} (hQ : Q (if a ≤ z ∧ z ≤ b then 1 else 0) h) : CtI x mtX10_within [xI z, xI a, xI b] h Q := by
  refine ct_go (ls := [xI z, xI a, xI b]) (by decide +kernel) (Nat.le_of_ble_eq_true rfl) rfl ?_
  refine go_iload_n dX10_within_0 rfl ?_
  refine go_iload_n dX10_within_1 rfl ?_
  refine go_icmp_lt (tgt := 14) dX10_within_2 (by decide) (fun c2 => ?_) (fun c2 => ?_)
  · refine go_iconst dX10_within_14 ⟨by decide, by decide⟩ ?_
    refine go_zreturn dX10_within_15 rfl (by first | exact Or.inl rfl | exact Or.inr rfl) ?_
    first | (rw [if_pos (by omega)] at hQ; exact hQ) | (rw [if_neg (by omega)] at hQ; exact hQ)
  · refine go_iload_n dX10_within_5 rfl ?_
    refine go_iload_n dX10_within_6 rfl ?_
    refine go_icmp_gt (tgt := 14) dX10_within_7 (by decide) (fun c7 => ?_) (fun c7 => ?_)
    · refine go_iconst dX10_within_14 ⟨by decide, by decide⟩ ?_
      refine go_zreturn dX10_within_15 rfl (by first | exact Or.inl rfl | exact Or.inr rfl) ?_
      first | (rw [if_pos (by omega)] at hQ; exact hQ) | (rw [if_neg (by omega)] at hQ; exact hQ)
    · refine go_iconst dX10_within_10 ⟨by decide, by decide⟩ ?_
      refine go_goto (tgt := 15) dX10_within_11 (by decide) ?_
      refine go_zreturn dX10_within_15 rfl (by first | exact Or.inl rfl | exact Or.inr rfl) ?_
      first | (rw [if_pos (by omega)] at hQ; exact hQ) | (rw [if_neg (by omega)] at hQ; exact hQ)

set_option maxHeartbeats 4000000 in
set_option maxRecDepth 100000 in
theorem md_isSign {x : mX} {h : mH} {Q : Int → mH → Prop} {z : Int} (hQ : Q (if 0 ≤ z ∧ z ≤ 3 then 1 else 0) h) : CtI x mtX10_isSign [xI z] h Q := by
  refine ct_go (ls := [xI z]) (by decide +kernel) (Nat.le_of_ble_eq_true rfl) rfl ?_
  refine go_iload_n dX10_isSign_0 rfl ?_
  refine go_iconst dX10_isSign_1 ⟨by decide, by decide⟩ ?_
  refine go_iconst dX10_isSign_2 ⟨by decide, by decide⟩ ?_
  refine go_cS3I slX10_164 dX10_isSign_3 (by decide) (Nat.le_of_ble_eq_true rfl) (md_within ?_)
  refine go_zreturn dX10_isSign_6 rfl (by split; exact Or.inr rfl; exact Or.inl rfl) ?_
  exact hQ

set_option maxHeartbeats 4000000 in
set_option maxRecDepth 100000 in
theorem md_lesser {x : mX} {h : mH} {Q : Int → mH → Prop} {a b : Int} (hQ : Q (if a < b then a else b) h) : CtI x mtX10_lesser [xI a, xI b] h Q := by
  refine ct_go (ls := [xI a, xI b]) (by decide +kernel) (Nat.le_of_ble_eq_true rfl) rfl ?_
  refine go_iload_n dX10_lesser_0 rfl ?_
  refine go_iload_n dX10_lesser_1 rfl ?_
  refine go_icmp_ge (tgt := 9) dX10_lesser_2 (by decide) (fun c2 => ?_) (fun c2 => ?_)
  · refine go_iload_n dX10_lesser_9 rfl ?_
    refine go_ireturn dX10_lesser_10 rfl ?_
    first | (rw [if_pos (by omega)] at hQ; exact hQ) | (rw [if_neg (by omega)] at hQ; exact hQ)
  · refine go_iload_n dX10_lesser_5 rfl ?_
    refine go_goto (tgt := 10) dX10_lesser_6 (by decide) ?_
    refine go_ireturn dX10_lesser_10 rfl ?_
    first | (rw [if_pos (by omega)] at hQ; exact hQ) | (rw [if_neg (by omega)] at hQ; exact hQ)

set_option maxHeartbeats 4000000 in
set_option maxRecDepth 100000 in
theorem md_has {x : mX} {h : mH} {Q : Int → mH → Prop} {m s : Nat} (hm : m < 16) (hs : s < 4) (hQ : Q (b1 (hb m s)) h) : CtI x mtX10_has [xI m, xI s] h Q := by
  have hb1 := b1_bd (hb m s)
  refine ct_go (ls := [xI m, xI s]) (by decide +kernel) (Nat.le_of_ble_eq_true rfl) rfl ?_
  refine go_iload_n dX10_has_0 rfl ?_
  refine go_iload_n dX10_has_1 rfl ?_
  refine go_ishr  dX10_has_2  (shr_ok m hm s hs) (shr_n m s hm hs) ?_
  refine go_iconst dX10_has_3 ⟨by decide, by decide⟩ ?_
  refine go_iand  dX10_has_4  (and1_ok m hm s hs) (inR_b1 _) ?_
  refine go_iconst dX10_has_5 ⟨by decide, by decide⟩ ?_
  refine go_icmp_ne (tgt := 13) dX10_has_6 (by decide) (fun c6 => ?_) (fun c6 => ?_)
  · refine go_iconst dX10_has_13 ⟨by decide, by decide⟩ ?_
    refine go_zreturn dX10_has_14 rfl (by first | exact Or.inl rfl | exact Or.inr rfl) ?_
    first | (rw [show b1 (hb m s) = 1 by omega] at hQ; exact hQ) | (rw [show b1 (hb m s) = 0 by omega] at hQ; exact hQ)
  · refine go_iconst dX10_has_9 ⟨by decide, by decide⟩ ?_
    refine go_goto (tgt := 14) dX10_has_10 (by decide) ?_
    refine go_zreturn dX10_has_14 rfl (by first | exact Or.inl rfl | exact Or.inr rfl) ?_
    first | (rw [show b1 (hb m s) = 1 by omega] at hQ; exact hQ) | (rw [show b1 (hb m s) = 0 by omega] at hQ; exact hQ)

set_option maxHeartbeats 4000000 in
set_option maxRecDepth 100000 in
theorem md_ones {x : mX} {h : mH} {Q : Int → mH → Prop} {m : Nat} (hm : m < 16) (hQ : Q (pc4 m) h) : CtI x mtX10_ones [xI m] h Q := by
  have g0 := b1_bd (hb m 0)
  have g1 := b1_bd (hb m 1)
  have g2 := b1_bd (hb m 2)
  have g3 := b1_bd (hb m 3)
  refine ct_go (ls := [xI m]) (by decide +kernel) (Nat.le_of_ble_eq_true rfl) rfl ?_
  refine go_iload_n dX10_ones_0 rfl ?_
  refine go_iconst dX10_ones_1 ⟨by decide, by decide⟩ ?_
  refine go_iand  dX10_ones_2 (and10_ok m hm) (inR_b1 _) ?_
  refine go_iload_n dX10_ones_3 rfl ?_
  refine go_iconst dX10_ones_4 ⟨by decide, by decide⟩ ?_
  refine go_ishr  dX10_ones_5 (shr_ok m hm 1 (by decide)) (shr_n m 1 hm (by decide)) ?_
  refine go_iconst dX10_ones_6 ⟨by decide, by decide⟩ ?_
  refine go_iand  dX10_ones_7 (and1_ok m hm 1 (by decide)) (inR_b1 _) ?_
  refine go_iadd dX10_ones_8 (by omega) (by omega) ?_
  refine go_iload_n dX10_ones_9 rfl ?_
  refine go_iconst dX10_ones_10 ⟨by decide, by decide⟩ ?_
  refine go_ishr  dX10_ones_11 (shr_ok m hm 2 (by decide)) (shr_n m 2 hm (by decide)) ?_
  refine go_iconst dX10_ones_12 ⟨by decide, by decide⟩ ?_
  refine go_iand  dX10_ones_13 (and1_ok m hm 2 (by decide)) (inR_b1 _) ?_
  refine go_iadd dX10_ones_14 (by omega) (by omega) ?_
  refine go_iload_n dX10_ones_15 rfl ?_
  refine go_iconst dX10_ones_16 ⟨by decide, by decide⟩ ?_
  refine go_ishr  dX10_ones_17 (shr_ok m hm 3 (by decide)) (shr_n m 3 hm (by decide)) ?_
  refine go_iconst dX10_ones_18 ⟨by decide, by decide⟩ ?_
  refine go_iand  dX10_ones_19 (and1_ok m hm 3 (by decide)) (inR_b1 _) ?_
  refine go_iadd dX10_ones_20 (by omega) (by omega) ?_
  refine go_ireturn dX10_ones_21 rfl ?_
  exact hQ

def cxn (sg : Int → Int) (a : Int) : Nat → Int
  | 0 => 0
  | n + 1 => 4 * cxn sg a n + sg (a + n)
def cxa : Nat → Int
  | 0 => 0
  | n + 1 => 4 * cxa n + 1
theorem cx_sum (sg : Int → Int) (a : Int) : ∀ n, cxa n + cxn sg a n = cxp sg a n
  | 0 => rfl
  | n + 1 => by rw [cxa, cxn, cxp, ← cx_sum sg a n]; omega
theorem cxa_bd : ∀ n, n ≤ 3 → 0 ≤ cxa n ∧ cxa n ≤ 21 := by decide +kernel
theorem cxn_bd {sg : Int → Int} {a : Int} : ∀ {n : Nat}, n ≤ 3 → (∀ k : Int, a ≤ k → k < a + n → 0 ≤ sg k ∧ sg k ≤ 3) → 0 ≤ cxn sg a n ∧ cxn sg a n ≤ 63
  | 0, _, _ => ⟨by simp [cxn], by simp [cxn]⟩
  | 1, _, h => by
    have h0 := h (a + (0 : Nat)) (by omega) (by omega)
    simp only [cxn]; omega
  | 2, _, h => by
    have h0 := h (a + (0 : Nat)) (by omega) (by omega)
    have h1 := h (a + (1 : Nat)) (by omega) (by omega)
    simp only [cxn]; omega
  | 3, _, h => by
    have h0 := h (a + (0 : Nat)) (by omega) (by omega)
    have h1 := h (a + (1 : Nat)) (by omega) (by omega)
    have h2 := h (a + (2 : Nat)) (by omega) (by omega)
    simp only [cxn]; omega

set_option maxHeartbeats 4000000 in
set_option maxRecDepth 100000 in
theorem md_context {x : mX} {h : mH} {Q : Int → mH → Prop} {e a : Int} {n : Nat} (hn : n ≤ 3) (ha : 0 ≤ a) (hae : a + n = e) (he : e ≤ 60) (hsg : ∀ k : Int, a ≤ k → k < e → 0 ≤ h 58 k ∧ h 58 k ≤ 3) (hQ : Q (4 * cxp (h 58) a n) h) : CtI x mtX10_context [xR 52, xI n, xI e] h Q := by
  refine ct_go (ls := [xR 52, xI n, xI e, xU, xU, xU]) (by decide +kernel) (Nat.le_of_ble_eq_true rfl) rfl ?_
  refine go_iconst dX10_context_0 ⟨by decide, by decide⟩ ?_
  refine go_istore_n 3 dX10_context_1 rfl (Nat.le_of_ble_eq_true rfl) rfl (by dsimp only [List.set]) ?_
  refine go_iconst dX10_context_2 ⟨by decide, by decide⟩ ?_
  refine go_istore dX10_context_3 (Nat.le_of_ble_eq_true rfl) rfl (by dsimp only [List.set]) ?_
  refine go_iload_n dX10_context_5 rfl ?_
  refine go_iload_n dX10_context_6 rfl ?_
  refine go_isub dX10_context_7 (by omega) (by omega) ?_
  refine go_istore dX10_context_8 (Nat.le_of_ble_eq_true rfl) rfl (by dsimp only [List.set]) ?_
  rw [show e - (n : Int) = a + ((0 : Nat) : Int) by omega]
  refine up_indN (P := fun s => Go x mtX10_context 10 [xR 52, xI n, xI e, xI (cxn (h 58) a s), xI (cxa s), xI (a + (s : Int))] [] h (qI Q)) n (fun s hs ih => ?_)
  have b1 := cxa_bd s (by omega)
  have b2 := cxn_bd (sg := h 58) (a := a) (n := s) (by omega) (fun k q1 q2 => hsg k q1 (by omega))
  by_cases hlt : s < n
  · have hsi := hsg (a + s) (by omega) (by omega)
    refine go_iload dX10_context_10 rfl ?_
    refine go_iload_n dX10_context_12 rfl ?_
    refine go_icmp_ge_f (tgt := 42) dX10_context_13 (by decide) (by omega) ?_
    refine go_iconst dX10_context_16 ⟨by decide, by decide⟩ ?_
    refine go_iload_n dX10_context_17 rfl ?_
    refine go_imul dX10_context_18 (by omega) (by omega) ?_
    refine go_aload_n dX10_context_19 rfl ?_
    refine gfX10_run rfl flX10_26 dX10_context_20 ?_
    refine go_iload dX10_context_23 rfl ?_
    refine go_iaload rfl dX10_context_25 (by omega) (by show a + (s : Int) < 60; omega) ?_
    refine go_iadd dX10_context_26 (by omega) (by omega) ?_
    refine go_istore_n 3 dX10_context_27 rfl (Nat.le_of_ble_eq_true rfl) rfl (by dsimp only [List.set]) ?_
    refine go_iconst dX10_context_28 ⟨by decide, by decide⟩ ?_
    refine go_iload dX10_context_29 rfl ?_
    refine go_imul dX10_context_31 (by omega) (by omega) ?_
    refine go_iconst dX10_context_32 ⟨by decide, by decide⟩ ?_
    refine go_iadd dX10_context_33 (by omega) (by omega) ?_
    refine go_istore dX10_context_34 (Nat.le_of_ble_eq_true rfl) rfl (by dsimp only [List.set]) ?_
    refine go_iinc dX10_context_36 rfl rfl rfl (by omega) (by omega) (by dsimp only [List.set]) ?_
    refine go_goto (tgt := 10) dX10_context_39 (by decide) ?_
    rw [show 4 * cxn (h 58) a s + h 58 (a + s) = cxn (h 58) a (s + 1) from rfl, show 4 * cxa s + 1 = cxa (s + 1) from rfl, show a + (s : Int) + 1 = a + ((s + 1 : Nat) : Int) by omega]
    exact ih hlt
  · have hie : s = n := by omega
    subst hie
    refine go_iload dX10_context_10 rfl ?_
    refine go_iload_n dX10_context_12 rfl ?_
    refine go_icmp_ge_t (tgt := 42) dX10_context_13 (by decide) (by omega) ?_
    refine go_iconst dX10_context_42 ⟨by decide, by decide⟩ ?_
    refine go_iload dX10_context_43 rfl ?_
    refine go_iload_n dX10_context_45 rfl ?_
    refine go_iadd dX10_context_46 (by omega) (by omega) ?_
    refine go_imul dX10_context_47 (by omega) (by omega) ?_
    refine go_ireturn dX10_context_48 rfl ?_
    rw [cx_sum]
    exact hQ

theorem wS_m {cs : Int → Int} {pl : Int} {sh s : Nat} (hpl : 0 ≤ pl) : wS cs pl sh s = if hb sh s = true then 0 else cs (4 * pl + s) := by
  unfold wS
  by_cases e : hb sh s = true
  · rw [if_pos e, if_pos e]
  · rw [if_neg e, if_neg e, if_neg (by omega)]
theorem b1_true {b : Bool} : b1 b = 1 ↔ b = true := by cases b <;> decide
theorem b1_false {b : Bool} : b1 b = 0 ↔ b = false := by cases b <;> decide
theorem b1_ne {b : Bool} (h : b1 b ≠ 0) : b = true := by revert h; cases b <;> decide
theorem or0_ok : ∀ m, m < 16 → Int32.ofInt ((m : Nat) : Int) ||| Int32.ofInt 0 = Int32.ofInt ((m : Nat) : Int) := by decide +kernel
theorem opn_lt16 (w : Nat → Int) (s : Nat) (hs : s ≤ 4) : opn w s < 16 := by
  have h1 := opn_lt w s
  have h2 : 2 ^ s ≤ 16 := Nat.pow_le_pow_right (n := 2) (by decide) hs
  omega

set_option maxHeartbeats 4000000 in
set_option maxRecDepth 100000 in
theorem md_openAt {x : mX} {h : mH} {Q : Int → mH → Prop} {pl : Int} {sh : Nat} (hpl : 0 ≤ pl) (hpl2 : pl ≤ 84) (hsh : sh < 16) (hQ : Q (opn (wS (h 59) pl sh) 4 : Nat) h) : CtI x mtX10_openAt [xR 52, xI (4 * pl), xI sh] h Q := by
  refine ct_go (ls := [xR 52, xI (4 * pl), xI sh, xU, xU]) (by decide +kernel) (Nat.le_of_ble_eq_true rfl) rfl ?_
  refine go_iconst dX10_openAt_0 ⟨by decide, by decide⟩ ?_
  refine go_istore_n 3 dX10_openAt_1 rfl (Nat.le_of_ble_eq_true rfl) rfl (by dsimp only [List.set]) ?_
  refine go_iconst dX10_openAt_2 ⟨by decide, by decide⟩ ?_
  refine go_istore dX10_openAt_3 (Nat.le_of_ble_eq_true rfl) rfl (by dsimp only [List.set]) ?_
  refine up_indN (P := fun s => Go x mtX10_openAt 5 [xR 52, xI (4 * pl), xI sh, xI (opn (wS (h 59) pl sh) s : Nat), xI (s : Int)] [] h (qI Q)) 4 (fun s hs ih => ?_)
  by_cases hlt : s < 4
  · skip
    refine go_iload dX10_openAt_5 rfl ?_
    refine go_iconst dX10_openAt_7 ⟨by decide, by decide⟩ ?_
    refine go_icmp_ge_f (tgt := 49) dX10_openAt_8 (by decide) (by omega) ?_
    refine go_iload_n dX10_openAt_11 rfl ?_
    refine go_aload_n dX10_openAt_12 rfl ?_
    refine gfX10_counts rfl flX10_29 dX10_openAt_13 ?_
    refine go_iload_n dX10_openAt_16 rfl ?_
    refine go_iload dX10_openAt_17 rfl ?_
    refine go_iadd dX10_openAt_19 (by omega) (by omega) ?_
    refine go_iaload rfl dX10_openAt_20 (by omega) (by show 4 * pl + (s : Int) < 340; omega) ?_
    refine go_if_le (tgt := 40) dX10_openAt_21 (by decide) (fun c21 => ?_) (fun c21 => ?_)
    · have hw : ¬ 0 < wS (h 59) pl sh s := by
        rw [wS_m hpl]
        first | (rw [if_pos (b1_ne c30)]; decide) | (split; decide; omega)
      refine go_iconst dX10_openAt_40 ⟨by decide, by decide⟩ ?_
      refine go_ior  dX10_openAt_41 (or0_ok _ (opn_lt16 _ _ (by omega))) (inR_nat (by have := opn_lt16 (wS (h 59) pl sh) s (by omega); omega)) ?_
      refine go_istore_n 3 dX10_openAt_42 rfl (Nat.le_of_ble_eq_true rfl) rfl (by dsimp only [List.set]) ?_
      refine go_iinc dX10_openAt_43 rfl rfl rfl (by omega) (by omega) (by dsimp only [List.set]) ?_
      refine go_goto (tgt := 5) dX10_openAt_46 (by decide) ?_
      rw [show opn (wS (h 59) pl sh) s = opn (wS (h 59) pl sh) (s + 1) by rw [opn, if_neg hw, Nat.add_zero]]
      exact ih hlt
    · refine go_iload_n dX10_openAt_24 rfl ?_
      refine go_iload dX10_openAt_25 rfl ?_
      refine go_cS2I slX10_101 dX10_openAt_27 (by decide) (Nat.le_of_ble_eq_true rfl) (md_has hsh hlt ?_)
      refine go_if_ne (tgt := 40) dX10_openAt_30 (by decide) (fun c30 => ?_) (fun c30 => ?_)
      · have hw : ¬ 0 < wS (h 59) pl sh s := by
          rw [wS_m hpl]
          first | (rw [if_pos (b1_ne c30)]; decide) | (split; decide; omega)
        refine go_iconst dX10_openAt_40 ⟨by decide, by decide⟩ ?_
        refine go_ior  dX10_openAt_41 (or0_ok _ (opn_lt16 _ _ (by omega))) (inR_nat (by have := opn_lt16 (wS (h 59) pl sh) s (by omega); omega)) ?_
        refine go_istore_n 3 dX10_openAt_42 rfl (Nat.le_of_ble_eq_true rfl) rfl (by dsimp only [List.set]) ?_
        refine go_iinc dX10_openAt_43 rfl rfl rfl (by omega) (by omega) (by dsimp only [List.set]) ?_
        refine go_goto (tgt := 5) dX10_openAt_46 (by decide) ?_
        rw [show opn (wS (h 59) pl sh) s = opn (wS (h 59) pl sh) (s + 1) by rw [opn, if_neg hw, Nat.add_zero]]
        exact ih hlt
      · have hw : 0 < wS (h 59) pl sh s := by rw [wS_m hpl, if_neg (by rw [b1_false.mp c30]; decide)]; exact c21
        refine go_iconst dX10_openAt_33 ⟨by decide, by decide⟩ ?_
        refine go_iload dX10_openAt_34 rfl ?_
        refine go_ishl  dX10_openAt_36 (shl_ok s hlt) (inR_nat (by have := pow_bd s hlt; omega)) ?_
        refine go_goto (tgt := 41) dX10_openAt_37 (by decide) ?_
        refine go_ior  dX10_openAt_41 (orp_ok s hlt _ (opn_lt _ _)) (inR_nat (by have := opn_lt (wS (h 59) pl sh) s; have := pow_bd s hlt; omega)) ?_
        refine go_istore_n 3 dX10_openAt_42 rfl (Nat.le_of_ble_eq_true rfl) rfl (by dsimp only [List.set]) ?_
        refine go_iinc dX10_openAt_43 rfl rfl rfl (by omega) (by omega) (by dsimp only [List.set]) ?_
        refine go_goto (tgt := 5) dX10_openAt_46 (by decide) ?_
        rw [show opn (wS (h 59) pl sh) s + 2 ^ s = opn (wS (h 59) pl sh) (s + 1) by rw [opn, if_pos hw]]
        exact ih hlt
  · have hie : s = 4 := by omega
    subst hie
    refine go_iload dX10_openAt_5 rfl ?_
    refine go_iconst dX10_openAt_7 ⟨by decide, by decide⟩ ?_
    refine go_icmp_ge_t (tgt := 49) dX10_openAt_8 (by decide) (by omega) ?_
    refine go_iload_n dX10_openAt_49 rfl ?_
    refine go_ireturn dX10_openAt_50 rfl ?_
    exact hQ

set_option maxHeartbeats 4000000 in
set_option maxRecDepth 100000 in
theorem md_sum {x : mX} {h : mH} {Q : Int → mH → Prop} {pl : Int} {op k : Nat} {w : Nat → Int} (hpl : 0 ≤ pl) (hpl2 : pl ≤ 84) (hop : op < 16) (hk : k ≤ 4) (hw1 : ∀ s : Nat, s < 4 → hb op s = true → h 59 (4 * pl + s) = w s) (hw0 : ∀ s : Nat, s < 4 → hb op s = false → w s = 0) (hwb : ∀ s : Nat, s < 4 → 0 ≤ w s ∧ w s ≤ 1000) (hQ : Q (tot w k) h) : CtI x mtX10_sum [xR 52, xI (4 * pl), xI op, xI k] h Q := by
  refine ct_go (ls := [xR 52, xI (4 * pl), xI op, xI k, xU, xU]) (by decide +kernel) (Nat.le_of_ble_eq_true rfl) rfl ?_
  refine go_iconst dX10_sum_0 ⟨by decide, by decide⟩ ?_
  refine go_istore dX10_sum_1 (Nat.le_of_ble_eq_true rfl) rfl (by dsimp only [List.set]) ?_
  refine go_iconst dX10_sum_3 ⟨by decide, by decide⟩ ?_
  refine go_istore dX10_sum_4 (Nat.le_of_ble_eq_true rfl) rfl (by dsimp only [List.set]) ?_
  refine up_indN (P := fun s => Go x mtX10_sum 6 [xR 52, xI (4 * pl), xI op, xI k, xI (tot w s), xI (s : Int)] [] h (qI Q)) k (fun s hs ih => ?_)
  have tb := tot_bd (w := w) (n := s) (B := 1000) (fun q hq => hwb q (by omega))
  by_cases hlt : s < k
  · skip
    refine go_iload dX10_sum_6 rfl ?_
    refine go_iload_n dX10_sum_8 rfl ?_
    refine go_icmp_ge_f (tgt := 45) dX10_sum_9 (by decide) (by omega) ?_
    refine go_iload dX10_sum_12 rfl ?_
    refine go_iload_n dX10_sum_14 rfl ?_
    refine go_iload dX10_sum_15 rfl ?_
    refine go_cS2I slX10_101 dX10_sum_17 (by decide) (Nat.le_of_ble_eq_true rfl) (md_has hop (by omega) ?_)
    refine go_if_eq (tgt := 35) dX10_sum_20 (by decide) (fun c20 => ?_) (fun c20 => ?_)
    · have hv : w s = 0 := hw0 s (by omega) (b1_false.mp c20)
      refine go_iconst dX10_sum_35 ⟨by decide, by decide⟩ ?_
      refine go_iadd dX10_sum_36 (by omega) (by omega) ?_
      refine go_istore dX10_sum_37 (Nat.le_of_ble_eq_true rfl) rfl (by dsimp only [List.set]) ?_
      refine go_iinc dX10_sum_39 rfl rfl rfl (by omega) (by omega) (by dsimp only [List.set]) ?_
      refine go_goto (tgt := 6) dX10_sum_42 (by decide) ?_
      first | (rw [hv, show tot w s + w s = tot w (s + 1) from rfl]; exact ih hlt) | (rw [show tot w s + 0 = tot w (s + 1) by rw [tot, hv]]; exact ih hlt)
    · have hv : h 59 (4 * pl + s) = w s := hw1 s (by omega) (b1_ne c20)
      have hbd := hwb s (by omega)
      refine go_aload_n dX10_sum_23 rfl ?_
      refine gfX10_counts rfl flX10_29 dX10_sum_24 ?_
      refine go_iload_n dX10_sum_27 rfl ?_
      refine go_iload dX10_sum_28 rfl ?_
      refine go_iadd dX10_sum_30 (by omega) (by omega) ?_
      refine go_iaload rfl dX10_sum_31 (by omega) (by show 4 * pl + (s : Int) < 340; omega) ?_
      refine go_goto (tgt := 36) dX10_sum_32 (by decide) ?_
      refine go_iadd dX10_sum_36 (by omega) (by omega) ?_
      refine go_istore dX10_sum_37 (Nat.le_of_ble_eq_true rfl) rfl (by dsimp only [List.set]) ?_
      refine go_iinc dX10_sum_39 rfl rfl rfl (by omega) (by omega) (by dsimp only [List.set]) ?_
      refine go_goto (tgt := 6) dX10_sum_42 (by decide) ?_
      first | (rw [hv, show tot w s + w s = tot w (s + 1) from rfl]; exact ih hlt) | (rw [show tot w s + 0 = tot w (s + 1) by rw [tot, hv]]; exact ih hlt)
  · have hie : s = k := by omega
    subst hie
    refine go_iload dX10_sum_6 rfl ?_
    refine go_iload_n dX10_sum_8 rfl ?_
    refine go_icmp_ge_t (tgt := 45) dX10_sum_9 (by decide) (by omega) ?_
    refine go_iload dX10_sum_45 rfl ?_
    refine go_ireturn dX10_sum_47 rfl ?_
    exact hQ

theorem chAt_of {w : Nat → Int} {v : Int} {s : Nat} (hs : s < 4) (hw : ∀ k, k < 4 → 0 ≤ w k) (h0 : tot w s ≤ v) (h1 : v < tot w (s + 1)) : chAt w v = s := by
  have g0 := hw 0 (by decide); have g1 := hw 1 (by decide); have g2 := hw 2 (by decide); have g3 := hw 3 (by decide)
  have e1 : tot w 1 = tot w 0 + w 0 := rfl
  have e2 : tot w 2 = tot w 1 + w 1 := rfl
  have e3 : tot w 3 = tot w 2 + w 2 := rfl
  have e4 : tot w 4 = tot w 3 + w 3 := rfl
  unfold chAt
  rcases (show s = 0 ∨ s = 1 ∨ s = 2 ∨ s = 3 by omega) with rfl | rfl | rfl | rfl
  · rw [if_pos h1]
  · rw [if_neg (by omega), if_pos h1]
  · rw [if_neg (by omega), if_neg (by omega), if_pos h1]
  · rw [if_neg (by omega), if_neg (by omega), if_neg (by omega), if_pos h1]
theorem chAt_4 {w : Nat → Int} {v : Int} (hw : ∀ k, k < 4 → 0 ≤ w k) (h0 : tot w 4 ≤ v) : chAt w v = 4 := by
  have g0 := hw 0 (by decide); have g1 := hw 1 (by decide); have g2 := hw 2 (by decide); have g3 := hw 3 (by decide)
  have e1 : tot w 1 = tot w 0 + w 0 := rfl
  have e2 : tot w 2 = tot w 1 + w 1 := rfl
  have e3 : tot w 3 = tot w 2 + w 2 := rfl
  have e4 : tot w 4 = tot w 3 + w 3 := rfl
  unfold chAt
  rw [if_neg (by omega), if_neg (by omega), if_neg (by omega), if_neg (by omega)]
/-- a choice as the model tells it -/
def chN (c : Nat) : Int := if c = 4 then -9 else (c : Int)

set_option maxHeartbeats 4000000 in
set_option maxRecDepth 100000 in
theorem md_signAt {x : mX} {h : mH} {Q : Int → mH → Prop} {pl v : Int} {op : Nat} {w : Nat → Int} (hpl : 0 ≤ pl) (hpl2 : pl ≤ 84) (hop : op < 16) (hw1 : ∀ s : Nat, s < 4 → hb op s = true → h 59 (4 * pl + s) = w s) (hw0 : ∀ s : Nat, s < 4 → hb op s = false → w s = 0) (hwb : ∀ s : Nat, s < 4 → 0 ≤ w s ∧ w s ≤ 1000) (hv0 : 0 ≤ v) (hQ : Q (chN (chAt w v)) h) : CtI x mtX10_signAt [xR 52, xI (4 * pl), xI op, xI v] h Q := by
  refine ct_go (ls := [xR 52, xI (4 * pl), xI op, xI v, xU]) (by decide +kernel) (Nat.le_of_ble_eq_true rfl) rfl ?_
  refine go_iconst dX10_signAt_0 ⟨by decide, by decide⟩ ?_
  refine go_istore dX10_signAt_1 (Nat.le_of_ble_eq_true rfl) rfl (by dsimp only [List.set]) ?_
  refine up_indN (P := fun s => tot w s ≤ v → Go x mtX10_signAt 3 [xR 52, xI (4 * pl), xI op, xI v, xI (s : Int)] [] h (qI Q)) 4 (fun s hs ih hv => ?_) hv0
  by_cases hlt : s < 4
  · skip
    refine go_iload dX10_signAt_3 rfl ?_
    refine go_iconst dX10_signAt_5 ⟨by decide, by decide⟩ ?_
    refine go_icmp_ge_f (tgt := 41) dX10_signAt_6 (by decide) (by omega) ?_
    refine go_iload_n dX10_signAt_9 rfl ?_
    refine go_iload dX10_signAt_10 rfl ?_
    refine go_cS2I slX10_101 dX10_signAt_12 (by decide) (Nat.le_of_ble_eq_true rfl) (md_has hop (by omega) ?_)
    refine go_if_eq (tgt := 35) dX10_signAt_15 (by decide) (fun c15 => ?_) (fun c15 => ?_)
    · have hv2 : tot w (s + 1) ≤ v := by
        first | (rw [tot, hw0 s (by omega) (b1_false.mp c15)]; omega) | omega
      refine go_iinc dX10_signAt_35 rfl rfl rfl (by omega) (by omega) (by dsimp only [List.set]) ?_
      refine go_goto (tgt := 3) dX10_signAt_38 (by decide) ?_
      exact ih hlt hv2
    · refine go_iload_n dX10_signAt_18 rfl ?_
      refine go_aload_n dX10_signAt_19 rfl ?_
      refine go_iload_n dX10_signAt_20 rfl ?_
      refine go_iload_n dX10_signAt_21 rfl ?_
      refine go_iload dX10_signAt_22 rfl ?_
      refine go_iconst dX10_signAt_24 ⟨by decide, by decide⟩ ?_
      refine go_iadd dX10_signAt_25 (by omega) (by omega) ?_
      refine go_cV3I rfl vlX10_105 dX10_signAt_26 (by decide) rfl rfl (by decide) (Nat.le_of_ble_eq_true rfl) (md_sum (k := s + 1) hpl hpl2 hop (by omega) hw1 hw0 hwb ?_)
      refine go_icmp_ge (tgt := 35) dX10_signAt_29 (by decide) (fun c29 => ?_) (fun c29 => ?_)
      · have hv2 : tot w (s + 1) ≤ v := by
          first | (rw [tot, hw0 s (by omega) (b1_false.mp c15)]; omega) | omega
        refine go_iinc dX10_signAt_35 rfl rfl rfl (by omega) (by omega) (by dsimp only [List.set]) ?_
        refine go_goto (tgt := 3) dX10_signAt_38 (by decide) ?_
        exact ih hlt hv2
      · refine go_iload dX10_signAt_32 rfl ?_
        refine go_ireturn dX10_signAt_34 rfl ?_
        have ec := chAt_of hlt (fun k hk => (hwb k hk).1) hv (by omega)
        rw [ec] at hQ
        unfold chN at hQ
        rw [if_neg (by omega)] at hQ
        exact hQ
  · have hie : s = 4 := by omega
    subst hie
    refine go_iload dX10_signAt_3 rfl ?_
    refine go_iconst dX10_signAt_5 ⟨by decide, by decide⟩ ?_
    refine go_icmp_ge_t (tgt := 41) dX10_signAt_6 (by decide) (by omega) ?_
    refine go_bipush dX10_signAt_41 (by decide +kernel) ⟨by decide, by decide⟩ ?_
    refine go_ireturn dX10_signAt_43 rfl ?_
    rw [chAt_4 (fun k hk => (hwb k hk).1) hv] at hQ
    exact hQ
