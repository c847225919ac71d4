/-! ===== Past, Contexts ===== -/
def isPast (p : Nat) : Prop := kd p = 4 ∧ isRow (p + 1) 60

set_option maxHeartbeats 4000000 in
set_option maxRecDepth 100000 in
theorem lp_longer {x : mX} {h : mH} {Q : Int → mH → Prop} {p s : Int} (hp : 0 ≤ p) (hp2 : p ≤ 1000) (hs : 0 ≤ s) (hs2 : s ≤ 3) (hQ : Q (4 * p + 1 + s) h) : CtI x mtX9_longerContext [xI p, xI s] h Q := by
  refine ct_go (ls := [xI p, xI s]) (by decide +kernel) (Nat.le_of_ble_eq_true rfl) rfl ?_
  refine go_iconst dX9_longerContext_0 ⟨by decide, by decide⟩ ?_
  refine go_iload_n dX9_longerContext_1 rfl ?_
  refine go_imul dX9_longerContext_2 (by omega) (by omega) ?_
  refine go_iconst dX9_longerContext_3 ⟨by decide, by decide⟩ ?_
  refine go_iadd dX9_longerContext_4 (by omega) (by omega) ?_
  refine go_iload_n dX9_longerContext_5 rfl ?_
  refine go_iadd dX9_longerContext_6 (by omega) (by omega) ?_
  refine go_ireturn dX9_longerContext_7 rfl ?_
  exact hQ

/-- order, limit, room, tail laid, no signs -/
def setH (h : mH) (p : Nat) (o l r t : Int) : mH := hset (hset (hset (hset (hset h p 0 o) p 1 l) p 2 r) p 3 t) (p + 1) 1 0

set_option maxHeartbeats 4000000 in
set_option maxRecDepth 100000 in
theorem past_setsOut {x : mX} {h : mH} {Q : mH → Prop} {p : Nat} {o l r t : Int} (hp : isPast p) (hs : 0 ≤ h (p + 1) 1) (hQ : Q (setH h p o l r t)) : CtV x mtX4_setsOut [xR p, xI o, xI l, xI r, xI t] h Q := by
  obtain ⟨k1, k2⟩ := hp
  refine ct_go (ls := [xR p, xI o, xI l, xI r, xI t]) (by decide +kernel) (Nat.le_of_ble_eq_true rfl) rfl ?_
  refine go_aload_n dX4_setsOut_0 rfl ?_
  refine go_iload_n dX4_setsOut_1 rfl ?_
  refine pfX4_order (by first | assumption | rfl) flX4_9 dX4_setsOut_2 ?_
  refine go_aload_n dX4_setsOut_5 rfl ?_
  refine go_iload_n dX4_setsOut_6 rfl ?_
  refine pfX4_limit (by first | assumption | rfl) flX4_15 dX4_setsOut_7 ?_
  refine go_aload_n dX4_setsOut_10 rfl ?_
  refine go_iload_n dX4_setsOut_11 rfl ?_
  refine pfX4_room (by first | assumption | rfl) flX4_18 dX4_setsOut_12 ?_
  refine go_aload_n dX4_setsOut_15 rfl ?_
  refine go_iload dX4_setsOut_16 rfl ?_
  refine pfX4_tail (by first | assumption | rfl) flX4_21 dX4_setsOut_18 ?_
  refine go_aload_n dX4_setsOut_21 rfl ?_
  refine gfX4_signs (by first | assumption | rfl) flX4_29 dX4_setsOut_22 ?_
  refine go_iconst dX4_setsOut_25 ⟨by decide, by decide⟩ ?_
  refine go_cV1V k2.1 vlX4_33 dX4_setsOut_26 (by decide) rfl rfl (by decide) (Nat.le_of_ble_eq_true rfl) (row_shortens k2 (Int.le_refl 0) (by rw [hset_ni (by omega), hset_ni (by omega), hset_ni (by omega), hset_ni (by omega)]; exact hs) ?_)
  refine go_return dX4_setsOut_29 rfl ?_
  exact hQ

/-- a past becomes as another -/
def becH (h : mH) (p q : Nat) : mH := cpRow (setH h p (h q 0) (h q 1) (h q 2) (h q 3)) (p + 1) (q + 1) (h (q + 1) 1)
theorem setH_ne {h : mH} {p : Nat} {o l r t : Int} {a : Nat} (h1 : a ≠ p) (h2 : a ≠ p + 1) : setH h p o l r t a = h a := by
  unfold setH
  rw [hset_ni h2, hset_ni h1, hset_ni h1, hset_ni h1, hset_ni h1]

set_option maxHeartbeats 4000000 in
set_option maxRecDepth 100000 in
theorem past_becomes {x : mX} {h : mH} {Q : mH → Prop} {p q : Nat} (hp : isPast p) (hq : isPast q) (hpq : p + 3 ≤ q ∨ q + 3 ≤ p) (hs : 0 ≤ h (p + 1) 1) (hs1 : 0 ≤ h (q + 1) 1) (hs2 : h (q + 1) 1 ≤ 60) (hQ : Q (becH h p q)) : CtV x mtX4_becomes [xR p, xR q] h Q := by
  refine ct_go (ls := [xR p, xR q]) (by decide +kernel) (Nat.le_of_ble_eq_true rfl) rfl ?_
  refine go_aload_n dX4_becomes_0 rfl ?_
  refine go_aload_n dX4_becomes_1 rfl ?_
  refine gfX4_order hq.1 flX4_9 dX4_becomes_2 ?_
  refine go_aload_n dX4_becomes_5 rfl ?_
  refine gfX4_limit hq.1 flX4_15 dX4_becomes_6 ?_
  refine go_aload_n dX4_becomes_9 rfl ?_
  refine gfX4_room hq.1 flX4_18 dX4_becomes_10 ?_
  refine go_aload_n dX4_becomes_13 rfl ?_
  refine gfX4_tail hq.1 flX4_21 dX4_becomes_14 ?_
  refine go_cV4V hp.1 vlX4_36 dX4_becomes_17 (by decide) rfl rfl (by decide) (Nat.le_of_ble_eq_true rfl) (past_setsOut hp hs ?_)
  refine go_aload_n dX4_becomes_20 rfl ?_
  refine gfX4_signs hp.1 flX4_29 dX4_becomes_21 ?_
  refine go_aload_n dX4_becomes_24 rfl ?_
  refine gfX4_signs hq.1 flX4_29 dX4_becomes_25 ?_
  refine go_cV1V hp.2.1 vlX4_40 dX4_becomes_28 (by decide) rfl rfl (by decide) (Nat.le_of_ble_eq_true rfl) (row_copies (n := h (q + 1) 1) hp.2 hq.2 (by omega) (by omega) (by omega) (by rw [setH_ne (by omega) (by omega)]) (by omega) (by omega) hs1 ?_)
  refine go_return dX4_becomes_31 rfl ?_
  exact hQ

set_option maxHeartbeats 4000000 in
set_option maxRecDepth 100000 in
theorem past_ctx {x : mX} {h : mH} {Q : Int → mH → Prop} {p : Nat} {e a : Int} {n : Nat} (hp : isPast p) (hn : n ≤ 3) (ha : 0 ≤ a) (hae : a + n = e) (he : e ≤ h (p + 1) 1) (hsz : h (p + 1) 1 ≤ 60) (hsg : ∀ k : Int, a ≤ k → k < e → 0 ≤ h (p + 2) k ∧ h (p + 2) k ≤ 3) (hQ : Q (cxp (h (p + 2)) a n) h) : CtI x mtX4_contextAhead [xR p, xI e, xI n] h Q := by
  refine ct_go (ls := [xR p, xI e, xI n, xU, xU]) (by decide +kernel) (Nat.le_of_ble_eq_true rfl) rfl ?_
  refine go_iconst dX4_contextAhead_0 ⟨by decide, by decide⟩ ?_
  refine go_istore_n 3 dX4_contextAhead_1 rfl (Nat.le_of_ble_eq_true rfl) rfl (by dsimp only [List.set]) ?_
  refine go_iload_n dX4_contextAhead_2 rfl ?_
  refine go_iload_n dX4_contextAhead_3 rfl ?_
  refine go_isub dX4_contextAhead_4 (by omega) (by omega) ?_
  refine go_istore dX4_contextAhead_5 (Nat.le_of_ble_eq_true rfl) rfl (by dsimp only [List.set]) ?_
  rw [show e - (n : Int) = a by omega]
  have key : Go x mtX4_contextAhead 7 [xR p, xI e, xI n, xI (cxp (h (p + 2)) a (a - a).toNat), xI a] [] h (qI Q) := by
    refine up_ind (P := fun i => Go x mtX4_contextAhead 7 [xR p, xI e, xI n, xI (cxp (h (p + 2)) a (i - a).toNat), xI i] [] h (qI Q)) (lo := a) (n := e) (by omega) (fun i hi0 hin ih => ?_)
    have hb := cxp_bd (sg := h (p + 2)) (a := a) (n := (i - a).toNat) (by omega) (fun k h1 h2 => hsg k h1 (by omega))
    by_cases hlt : i < e
    · have hsi : 0 ≤ h (p + 1 + 1) i ∧ h (p + 1 + 1) i ≤ 3 := hsg i hi0 hlt
      refine go_iload dX4_contextAhead_7 rfl ?_
      refine go_iload_n dX4_contextAhead_9 rfl ?_
      refine go_icmp_ge_f (tgt := 33) dX4_contextAhead_10 (by decide) (by omega) ?_
      refine go_iload_n dX4_contextAhead_13 rfl ?_
      refine go_aload_n dX4_contextAhead_14 rfl ?_
      refine gfX4_signs hp.1 flX4_29 dX4_contextAhead_15 ?_
      refine go_iload dX4_contextAhead_18 rfl ?_
      refine go_cV1I hp.2.1 vlX4_44 dX4_contextAhead_20 (by decide) rfl rfl (by decide) (Nat.le_of_ble_eq_true rfl) (row_at hp.2 (by omega) ?_)
      rw [if_pos (by omega)]
      refine go_cS2I slX4_48 dX4_contextAhead_23 (by decide) (Nat.le_of_ble_eq_true rfl) (lp_longer (by omega) (by omega) (by omega) (by omega) ?_)
      refine go_istore_n 3 dX4_contextAhead_26 rfl (Nat.le_of_ble_eq_true rfl) rfl (by dsimp only [List.set]) ?_
      refine go_iinc dX4_contextAhead_27 rfl rfl rfl (by omega) (by omega) (by dsimp only [List.set]) ?_
      refine go_goto (tgt := 7) dX4_contextAhead_30 (by decide) ?_
      have e1 : (i - a).toNat + 1 = (i + 1 - a).toNat := by omega
      have e2 : 4 * cxp (h (p + 2)) a (i - a).toNat + 1 + h (p + 1 + 1) i = cxp (h (p + 2)) a (i + 1 - a).toNat := by
        rw [← e1, cxp]
        rw [show a + ((i - a).toNat : Int) = i by omega]
      rw [e2]
      exact ih (by omega)
    · have hie : (i - a).toNat = n := by omega
      rw [hie]
      refine go_iload dX4_contextAhead_7 rfl ?_
      refine go_iload_n dX4_contextAhead_9 rfl ?_
      refine go_icmp_ge_t (tgt := 33) dX4_contextAhead_10 (by decide) (by omega) ?_
      refine go_iload_n dX4_contextAhead_33 rfl ?_
      refine go_ireturn dX4_contextAhead_34 rfl ?_
      exact hQ
  rw [show (a - a).toNat = 0 by omega] at key
  exact key

def isCtx (c : Nat) : Prop := kd c = 0 ∧ kd (c + 1) = 10 ∧ ln (c + 1) = 340
/-- all counts are 0 -/
def empH (h : mH) (c : Nat) (i : Int) : mH := fun a b => if a = c + 1 ∧ 0 ≤ b ∧ b < i then 0 else h a b

set_option maxHeartbeats 4000000 in
set_option maxRecDepth 100000 in
theorem ctx_empties {x : mX} {h : mH} {Q : mH → Prop} {c : Nat} (hc : isCtx c) (hQ : Q (hset (empH h c 340) c 1 0)) : CtV x mtX0_empties [xR c] h Q := by
  obtain ⟨k1, k2, k3⟩ := hc
  refine ct_go (ls := [xR c, xU]) (by decide +kernel) (Nat.le_of_ble_eq_true rfl) rfl ?_
  refine go_iconst dX0_empties_0 ⟨by decide, by decide⟩ ?_
  refine go_istore_n 1 dX0_empties_1 rfl (Nat.le_of_ble_eq_true rfl) rfl (by dsimp only [List.set]) ?_
  have e0 : h = empH h c 0 := by
    funext a b; unfold empH; rw [if_neg (by omega)]
  have key : Go x mtX0_empties 2 [xR c, xI 0] [] (empH h c 0) (qV Q) := by
    refine up_ind (P := fun i => Go x mtX0_empties 2 [xR c, xI i] [] (empH h c i) (qV Q)) (lo := 0) (n := 340) (by omega) (fun i hi0 hin ih => ?_)
    by_cases hlt : i < 340
    · skip
      refine go_iload_n dX0_empties_2 rfl ?_
      refine go_aload_n dX0_empties_3 rfl ?_
      refine gfX0_counts (by first | assumption | rfl) flX0_9 dX0_empties_4 ?_
      refine go_alen (Or.inl (by first | assumption | rfl)) dX0_empties_7 (⟨by omega, by omega⟩) ?_
      refine go_icmp_ge_f (tgt := 24) dX0_empties_8 (by decide) (by omega) ?_
      refine go_aload_n dX0_empties_11 rfl ?_
      refine gfX0_counts (by first | assumption | rfl) flX0_9 dX0_empties_12 ?_
      refine go_iload_n dX0_empties_15 rfl ?_
      refine go_iconst dX0_empties_16 ⟨by decide, by decide⟩ ?_
      refine go_iastore (by first | assumption | rfl) dX0_empties_17 (by omega) (by omega) ?_
      refine go_iinc dX0_empties_18 rfl rfl rfl (by omega) (by omega) (by dsimp only [List.set]) ?_
      refine go_goto (tgt := 2) dX0_empties_21 (by decide) ?_
      have e1 : hset (empH h c i) (c + 1) i 0 = empH h c (i + 1) := by
        funext a b
        unfold hset empH
        by_cases e1 : a = c + 1 ∧ b = i
        · rw [if_pos e1, if_pos (by omega)]
        · rw [if_neg e1]
          by_cases e2 : a = c + 1 ∧ 0 ≤ b ∧ b < i
          · rw [if_pos e2, if_pos (by omega)]
          · rw [if_neg e2, if_neg (by omega)]
      rw [e1]
      exact ih (by omega)
    · have hie : i = 340 := by omega
      subst hie
      refine go_iload_n dX0_empties_2 rfl ?_
      refine go_aload_n dX0_empties_3 rfl ?_
      refine gfX0_counts (by first | assumption | rfl) flX0_9 dX0_empties_4 ?_
      refine go_alen (Or.inl (by first | assumption | rfl)) dX0_empties_7 (⟨by omega, by omega⟩) ?_
      refine go_icmp_ge_t (tgt := 24) dX0_empties_8 (by decide) (by omega) ?_
      refine go_aload_n dX0_empties_24 rfl ?_
      refine go_iconst dX0_empties_25 ⟨by decide, by decide⟩ ?_
      refine pfX0_there (by first | assumption | rfl) flX0_15 dX0_empties_26 ?_
      refine go_return dX0_empties_29 rfl ?_
      exact hQ
  rw [← e0] at key
  exact key

set_option maxHeartbeats 4000000 in
set_option maxRecDepth 100000 in
theorem ctx_at {x : mX} {h : mH} {Q : Int → mH → Prop} {c : Nat} {p s : Int} (hc : isCtx c) (hp : 0 ≤ p) (hp2 : p ≤ 84) (hs : 0 ≤ s) (hs2 : s ≤ 3) (hQ : Q (h (c + 1) (4 * p + s)) h) : CtI x mtX0_at [xR c, xI p, xI s] h Q := by
  obtain ⟨k1, k2, k3⟩ := hc
  refine ct_go (ls := [xR c, xI p, xI s, xU]) (by decide +kernel) (Nat.le_of_ble_eq_true rfl) rfl ?_
  refine go_iconst dX0_at_0 ⟨by decide, by decide⟩ ?_
  refine go_iload_n dX0_at_1 rfl ?_
  refine go_imul dX0_at_2 (by omega) (by omega) ?_
  refine go_iload_n dX0_at_3 rfl ?_
  refine go_iadd dX0_at_4 (by omega) (by omega) ?_
  refine go_istore_n 3 dX0_at_5 rfl (Nat.le_of_ble_eq_true rfl) rfl (by dsimp only [List.set]) ?_
  refine go_iload_n dX0_at_6 rfl ?_
  refine go_if_lt_f (tgt := 28) dX0_at_7 (by decide) (by omega) ?_
  refine go_iload_n dX0_at_10 rfl ?_
  refine go_aload_n dX0_at_11 rfl ?_
  refine gfX0_counts (by first | assumption | rfl) flX0_9 dX0_at_12 ?_
  refine go_alen (Or.inl (by first | assumption | rfl)) dX0_at_15 (⟨by omega, by omega⟩) ?_
  refine go_icmp_ge_f (tgt := 28) dX0_at_16 (by decide) (by omega) ?_
  refine go_aload_n dX0_at_19 rfl ?_
  refine gfX0_counts (by first | assumption | rfl) flX0_9 dX0_at_20 ?_
  refine go_iload_n dX0_at_23 rfl ?_
  refine go_iaload (by first | assumption | rfl) dX0_at_24 (by omega) (by omega) ?_
  refine go_goto (tgt := 29) dX0_at_25 (by decide) ?_
  refine go_ireturn dX0_at_29 rfl ?_
  exact hQ
