/-! ===== Contexts.raises ===== -/
def thN (cs : Int → Int) (p : Int) : Int := if cs (4 * p) = 0 ∧ cs (4 * p + 1) = 0 ∧ cs (4 * p + 2) = 0 ∧ cs (4 * p + 3) = 0 then 1 else 0
/-- the counts of Contexts c, and how many are there, behind a raise -/
def raiH (h : mH) (c : Nat) (p s l : Int) : mH := fun a b => if a = c + 1 then rai (h (c + 1)) p s l b else if a = c ∧ b = 1 then h c 1 + thN (h (c + 1)) p else h a b
def hlvH (h : mH) (c : Nat) (p i : Int) : mH := fun a b => if a = c + 1 ∧ 4 * p ≤ b ∧ b < i then h a b / 2 else h a b
theorem hlv_step {h : mH} {c : Nat} {p i : Int} (hi : 4 * p ≤ i) : hset (hlvH h c p i) (c + 1) i (hlvH h c p i (c + 1) i / 2) = hlvH h c p (i + 1) := by
  funext a b
  unfold hset hlvH
  by_cases e1 : a = c + 1 ∧ b = i
  · rw [if_pos e1, if_neg (show ¬ (c + 1 = c + 1 ∧ 4 * p ≤ i ∧ i < i) by omega), if_pos (show a = c + 1 ∧ 4 * p ≤ b ∧ b < i + 1 by omega), e1.1, e1.2]
  · rw [if_neg e1]
    by_cases e2 : a = c + 1 ∧ 4 * p ≤ b ∧ b < i
    · rw [if_pos e2, if_pos (by omega)]
    · rw [if_neg e2, if_neg (by omega)]
theorem rai_H1 {h : mH} {c : Nat} {p s l : Int} (hne : h (c + 1) (4 * p + s) + 1 ≠ l) : hset (hset h c 1 (h c 1 + thN (h (c + 1)) p)) (c + 1) (4 * p + s) (h (c + 1) (4 * p + s) + 1) = raiH h c p s l := by
  funext a b
  unfold hset raiH rai
  by_cases e1 : a = c + 1
  · by_cases e2 : b = 4 * p + s
    · subst e1; subst e2
      rw [if_pos ⟨rfl, rfl⟩, if_pos rfl, if_neg hne, if_pos rfl]
    · rw [if_neg (by omega), if_neg (by omega), if_pos e1, if_neg hne, if_neg e2, e1]
  · rw [if_neg (by omega), if_neg e1]
theorem rai_H2 {h : mH} {c : Nat} {p s l : Int} (hs : 0 ≤ s) (hs2 : s ≤ 3) (he : h (c + 1) (4 * p + s) + 1 = l) : hlvH (hset (hset h c 1 (h c 1 + thN (h (c + 1)) p)) (c + 1) (4 * p + s) (h (c + 1) (4 * p + s) + 1)) c p (4 * p + 4) = raiH h c p s l := by
  funext a b
  unfold hlvH hset raiH rai
  by_cases e1 : a = c + 1
  · subst e1
    rw [if_pos rfl, if_pos he]
    by_cases e3 : 4 * p ≤ b ∧ b < 4 * p + 4
    · rw [if_pos ⟨rfl, e3⟩, if_pos e3]
      by_cases e2 : b = 4 * p + s
      · subst e2
        rw [if_pos ⟨rfl, rfl⟩, if_pos rfl]
      · rw [if_neg (by omega), if_neg (by omega), if_neg e2]
    · rw [if_neg (fun q => e3 q.2), if_neg e3, if_neg (by omega), if_neg (by omega)]
  · rw [if_neg (by omega), if_neg (by omega), if_neg e1]

set_option maxHeartbeats 4000000 in
set_option maxRecDepth 100000 in
theorem ctx_raises {x : mX} {h : mH} {Q : mH → Prop} {c : Nat} {p s l : Int} (hc : isCtx c) (hp : 0 ≤ p) (hp2 : p ≤ 84) (hs : 0 ≤ s) (hs2 : s ≤ 3) (hbd : ∀ k, 0 ≤ k → k < 340 → 0 ≤ h (c + 1) k ∧ h (c + 1) k ≤ 1000) (ht : 0 ≤ h c 1) (ht2 : h c 1 ≤ 1000) (hQ : Q (raiH h c p s l)) : CtV x mtX0_raises [xR c, xI p, xI s, xI l] h Q := by
  obtain ⟨k1, k2, k3⟩ := hc
  have J : ∀ u v : Int, Go x mtX0_raises 81 [xR c, xI p, xI s, xI l, xI (4 * p), xI u, xI v] [] (hset h c 1 (h c 1 + thN (h (c + 1)) p)) (qV Q) := by
    intro u v
    refine go_aload_n dX0_raises_81 rfl ?_
    refine gfX0_counts (by first | assumption | rfl) flX0_9 dX0_raises_82 ?_
    refine go_iload dX0_raises_85 rfl ?_
    refine go_iload_n dX0_raises_87 rfl ?_
    refine go_iadd dX0_raises_88 (by omega) (by omega) ?_
    refine go_dup2 dX0_raises_89 ?_
    refine go_iaload (by first | assumption | rfl) dX0_raises_90 (by omega) (by omega) ?_
    refine go_iconst dX0_raises_91 ⟨by decide, by decide⟩ ?_
    refine go_iadd dX0_raises_92 (by have := hbd (4 * p + s) (by omega) (by omega); rw [hset_ni (by omega)]; omega) (by have := hbd (4 * p + s) (by omega) (by omega); rw [hset_ni (by omega)]; omega) ?_
    rw [hset_ni (show c + 1 ≠ c by omega)]
    refine go_iastore (by first | assumption | rfl) dX0_raises_93 (by omega) (by omega) ?_
    refine go_aload_n dX0_raises_94 rfl ?_
    refine gfX0_counts (by first | assumption | rfl) flX0_9 dX0_raises_95 ?_
    refine go_iload dX0_raises_98 rfl ?_
    refine go_iload_n dX0_raises_100 rfl ?_
    refine go_iadd dX0_raises_101 (by omega) (by omega) ?_
    refine go_iaload (by first | assumption | rfl) dX0_raises_102 (by omega) (by omega) ?_
    rw [hset_eq]
    refine go_iload_n dX0_raises_103 rfl ?_
    refine go_icmp_eq (tgt := 108) dX0_raises_104 (by decide) (fun c104 => ?_) (fun c104 => ?_)
    · refine go_iload dX0_raises_108 rfl ?_
      refine go_istore dX0_raises_110 (Nat.le_of_ble_eq_true rfl) rfl (by dsimp only [List.set]) ?_
      have hnn : ∀ k, 0 ≤ k → k < 340 → 0 ≤ hset (hset h c 1 (h c 1 + thN (h (c + 1)) p)) (c + 1) (4 * p + s) (h (c + 1) (4 * p + s) + 1) (c + 1) k := by
        intro k hk0 hk1
        have := hbd k hk0 hk1
        by_cases e : k = 4 * p + s
        · rw [e, hset_eq]; rw [e] at this; omega
        · rw [hset_nk e, hset_ni (by omega)]; omega
      generalize hge : hset (hset h c 1 (h c 1 + thN (h (c + 1)) p)) (c + 1) (4 * p + s) (h (c + 1) (4 * p + s) + 1) = g at hnn ⊢
      have e0 : hlvH g c p (4 * p) = g := by
        funext a b; unfold hlvH; rw [if_neg (by omega)]
      have key : Go x mtX0_raises 112 [xR c, xI p, xI s, xI l, xI (4 * p), xI u, xI (4 * p)] [] (hlvH g c p (4 * p)) (qV Q) := by
        refine up_ind (P := fun i => Go x mtX0_raises 112 [xR c, xI p, xI s, xI l, xI (4 * p), xI u, xI i] [] (hlvH g c p i) (qV Q)) (lo := 4 * p) (n := 4 * p + 4) (by omega) (fun i hi0 hin ih => ?_)
        by_cases hlt : i < 4 * p + 4
        · skip
          refine go_iload dX0_raises_112 rfl ?_
          refine go_iload dX0_raises_114 rfl ?_
          refine go_iconst dX0_raises_116 ⟨by decide, by decide⟩ ?_
          refine go_iadd dX0_raises_117 (by omega) (by omega) ?_
          refine go_icmp_ge_f (tgt := 138) dX0_raises_118 (by decide) (by omega) ?_
          refine go_aload_n dX0_raises_121 rfl ?_
          refine gfX0_counts (by first | assumption | rfl) flX0_9 dX0_raises_122 ?_
          refine go_iload dX0_raises_125 rfl ?_
          refine go_dup2 dX0_raises_127 ?_
          refine go_iaload (by first | assumption | rfl) dX0_raises_128 (by omega) (by omega) ?_
          refine go_iconst dX0_raises_129 ⟨by decide, by decide⟩ ?_
          refine go_idiv dX0_raises_130 (by unfold hlvH; rw [if_neg (by omega)]; exact hnn i (by omega) (by omega)) (by omega) ?_
          refine go_iastore (by first | assumption | rfl) dX0_raises_131 (by omega) (by omega) ?_
          refine go_iinc dX0_raises_132 rfl rfl rfl (by omega) (by omega) (by dsimp only [List.set]) ?_
          refine go_goto (tgt := 112) dX0_raises_135 (by decide) ?_
          rw [hlv_step (by omega)]
          exact ih (by omega)
        · have hie : i = 4 * p + 4 := by omega
          subst hie
          refine go_iload dX0_raises_112 rfl ?_
          refine go_iload dX0_raises_114 rfl ?_
          refine go_iconst dX0_raises_116 ⟨by decide, by decide⟩ ?_
          refine go_iadd dX0_raises_117 (by omega) (by omega) ?_
          refine go_icmp_ge_t (tgt := 138) dX0_raises_118 (by decide) (by omega) ?_
          refine go_return dX0_raises_138 rfl ?_
          rw [← hge, rai_H2 hs hs2 (by omega)]
          exact hQ
      rw [e0] at key
      exact key
    · refine go_return dX0_raises_107 rfl ?_
      rw [rai_H1 c104]
      exact hQ
  have e2 : 4 * p + 1 + 1 = 4 * p + 2 := by omega
  have e3 : 4 * p + 2 + 1 = 4 * p + 3 := by omega
  have e4 : 4 * p + 3 + 1 = 4 * p + 4 := by omega
  have g0 := hbd (4 * p) (by omega) (by omega)
  have g1 := hbd (4 * p + 1) (by omega) (by omega)
  have g2 := hbd (4 * p + 2) (by omega) (by omega)
  have g3 := hbd (4 * p + 3) (by omega) (by omega)
  have hz1 : h (c + 1) (4 * p) + h (c + 1) (4 * p + 1) + h (c + 1) (4 * p + 2) + h (c + 1) (4 * p + 3) = 0 → h c 1 + 1 = h c 1 + thN (h (c + 1)) p := by
    intro q; unfold thN; rw [if_pos (by omega)]
  have hz0 : h (c + 1) (4 * p) + h (c + 1) (4 * p + 1) + h (c + 1) (4 * p + 2) + h (c + 1) (4 * p + 3) ≠ 0 → hset h c 1 (h c 1 + thN (h (c + 1)) p) = h := by
    intro q; unfold thN; rw [if_neg (by omega)]; exact hset_id (by omega)
  refine ct_go (ls := [xR c, xI p, xI s, xI l, xU, xU, xU]) (by decide +kernel) (Nat.le_of_ble_eq_true rfl) rfl ?_
  refine go_iconst dX0_raises_0 ⟨by decide, by decide⟩ ?_
  refine go_iload_n dX0_raises_1 rfl ?_
  refine go_imul dX0_raises_2 (by omega) (by omega) ?_
  refine go_istore dX0_raises_3 (Nat.le_of_ble_eq_true rfl) rfl (by dsimp only [List.set]) ?_
  refine go_iload dX0_raises_5 rfl ?_
  refine go_if_lt_f (tgt := 31) dX0_raises_7 (by decide) (by omega) ?_
  refine go_iload dX0_raises_10 rfl ?_
  refine go_aload_n dX0_raises_12 rfl ?_
  refine gfX0_counts (by first | assumption | rfl) flX0_9 dX0_raises_13 ?_
  refine go_alen (Or.inl (by first | assumption | rfl)) dX0_raises_16 (⟨by omega, by omega⟩) ?_
  refine go_iconst dX0_raises_17 ⟨by decide, by decide⟩ ?_
  refine go_isub dX0_raises_18 (by omega) (by omega) ?_
  refine go_icmp_gt_f (tgt := 31) dX0_raises_19 (by decide) (by omega) ?_
  refine go_iload_n dX0_raises_22 rfl ?_
  refine go_if_lt_f (tgt := 31) dX0_raises_23 (by decide) (by omega) ?_
  refine go_iload_n dX0_raises_26 rfl ?_
  refine go_iconst dX0_raises_27 ⟨by decide, by decide⟩ ?_
  refine go_icmp_lt_t (tgt := 32) dX0_raises_28 (by decide) (by omega) ?_
  refine go_iconst dX0_raises_32 ⟨by decide, by decide⟩ ?_
  refine go_istore dX0_raises_33 (Nat.le_of_ble_eq_true rfl) rfl (by dsimp only [List.set]) ?_
  refine go_iload dX0_raises_35 rfl ?_
  refine go_istore dX0_raises_37 (Nat.le_of_ble_eq_true rfl) rfl (by dsimp only [List.set]) ?_
  try simp only [e2, e3, e4]
  refine go_iload dX0_raises_39 rfl ?_
  refine go_iload dX0_raises_41 rfl ?_
  refine go_iconst dX0_raises_43 ⟨by decide, by decide⟩ ?_
  refine go_iadd dX0_raises_44 (by omega) (by omega) ?_
  refine go_icmp_ge_f (tgt := 66) dX0_raises_45 (by decide) (by omega) ?_
  refine go_iload dX0_raises_48 rfl ?_
  refine go_aload_n dX0_raises_50 rfl ?_
  refine gfX0_counts (by first | assumption | rfl) flX0_9 dX0_raises_51 ?_
  refine go_iload dX0_raises_54 rfl ?_
  refine go_iaload (by first | assumption | rfl) dX0_raises_56 (by omega) (by omega) ?_
  refine go_iadd dX0_raises_57 (by omega) (by omega) ?_
  refine go_istore dX0_raises_58 (Nat.le_of_ble_eq_true rfl) rfl (by dsimp only [List.set]) ?_
  refine go_iinc dX0_raises_60 rfl rfl rfl (by omega) (by omega) (by dsimp only [List.set]) ?_
  refine go_goto (tgt := 39) dX0_raises_63 (by decide) ?_
  try simp only [e2, e3, e4]
  refine go_iload dX0_raises_39 rfl ?_
  refine go_iload dX0_raises_41 rfl ?_
  refine go_iconst dX0_raises_43 ⟨by decide, by decide⟩ ?_
  refine go_iadd dX0_raises_44 (by omega) (by omega) ?_
  refine go_icmp_ge_f (tgt := 66) dX0_raises_45 (by decide) (by omega) ?_
  refine go_iload dX0_raises_48 rfl ?_
  refine go_aload_n dX0_raises_50 rfl ?_
  refine gfX0_counts (by first | assumption | rfl) flX0_9 dX0_raises_51 ?_
  refine go_iload dX0_raises_54 rfl ?_
  refine go_iaload (by first | assumption | rfl) dX0_raises_56 (by omega) (by omega) ?_
  refine go_iadd dX0_raises_57 (by omega) (by omega) ?_
  refine go_istore dX0_raises_58 (Nat.le_of_ble_eq_true rfl) rfl (by dsimp only [List.set]) ?_
  refine go_iinc dX0_raises_60 rfl rfl rfl (by omega) (by omega) (by dsimp only [List.set]) ?_
  refine go_goto (tgt := 39) dX0_raises_63 (by decide) ?_
  try simp only [e2, e3, e4]
  refine go_iload dX0_raises_39 rfl ?_
  refine go_iload dX0_raises_41 rfl ?_
  refine go_iconst dX0_raises_43 ⟨by decide, by decide⟩ ?_
  refine go_iadd dX0_raises_44 (by omega) (by omega) ?_
  refine go_icmp_ge_f (tgt := 66) dX0_raises_45 (by decide) (by omega) ?_
  refine go_iload dX0_raises_48 rfl ?_
  refine go_aload_n dX0_raises_50 rfl ?_
  refine gfX0_counts (by first | assumption | rfl) flX0_9 dX0_raises_51 ?_
  refine go_iload dX0_raises_54 rfl ?_
  refine go_iaload (by first | assumption | rfl) dX0_raises_56 (by omega) (by omega) ?_
  refine go_iadd dX0_raises_57 (by omega) (by omega) ?_
  refine go_istore dX0_raises_58 (Nat.le_of_ble_eq_true rfl) rfl (by dsimp only [List.set]) ?_
  refine go_iinc dX0_raises_60 rfl rfl rfl (by omega) (by omega) (by dsimp only [List.set]) ?_
  refine go_goto (tgt := 39) dX0_raises_63 (by decide) ?_
  try simp only [e2, e3, e4]
  refine go_iload dX0_raises_39 rfl ?_
  refine go_iload dX0_raises_41 rfl ?_
  refine go_iconst dX0_raises_43 ⟨by decide, by decide⟩ ?_
  refine go_iadd dX0_raises_44 (by omega) (by omega) ?_
  refine go_icmp_ge_f (tgt := 66) dX0_raises_45 (by decide) (by omega) ?_
  refine go_iload dX0_raises_48 rfl ?_
  refine go_aload_n dX0_raises_50 rfl ?_
  refine gfX0_counts (by first | assumption | rfl) flX0_9 dX0_raises_51 ?_
  refine go_iload dX0_raises_54 rfl ?_
  refine go_iaload (by first | assumption | rfl) dX0_raises_56 (by omega) (by omega) ?_
  refine go_iadd dX0_raises_57 (by omega) (by omega) ?_
  refine go_istore dX0_raises_58 (Nat.le_of_ble_eq_true rfl) rfl (by dsimp only [List.set]) ?_
  refine go_iinc dX0_raises_60 rfl rfl rfl (by omega) (by omega) (by dsimp only [List.set]) ?_
  refine go_goto (tgt := 39) dX0_raises_63 (by decide) ?_
  try simp only [e2, e3, e4]
  refine go_iload dX0_raises_39 rfl ?_
  refine go_iload dX0_raises_41 rfl ?_
  refine go_iconst dX0_raises_43 ⟨by decide, by decide⟩ ?_
  refine go_iadd dX0_raises_44 (by omega) (by omega) ?_
  refine go_icmp_ge_t (tgt := 66) dX0_raises_45 (by decide) (by omega) ?_
  refine go_iload dX0_raises_66 rfl ?_
  refine go_if_ne (tgt := 81) dX0_raises_68 (by decide) (fun c68 => ?_) (fun c68 => ?_)
  · first | (rw [hz1 (by omega)]; exact J _ _) | (rw [hz0 (by omega)] at J; exact J _ _)
  · refine go_aload_n dX0_raises_71 rfl ?_
    first | refine go_dupR dX0_raises_72 ?_ | refine go_dupI dX0_raises_72 ?_
    refine gfX0_there (by first | assumption | rfl) flX0_15 dX0_raises_73 ?_
    refine go_iconst dX0_raises_76 ⟨by decide, by decide⟩ ?_
    refine go_iadd dX0_raises_77 (by omega) (by omega) ?_
    refine pfX0_there (by first | assumption | rfl) flX0_15 dX0_raises_78 ?_
    first | (rw [hz1 (by omega)]; exact J _ _) | (rw [hz0 (by omega)] at J; exact J _ _)
