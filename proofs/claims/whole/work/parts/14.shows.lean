/-! ===== Stage.shows ===== -/
def shwH (h : mH) (t : Nat) (w : Nat → Int) (n : Nat) : mH := fun a b => if a = t + 1 ∧ 0 ≤ b ∧ b < n then w b.toNat else if a = t ∧ b = 3 then (opn w n : Int) else if a = t ∧ b = 1 then tot w n else h a b
/-- the Stage t behind shows: widths w 0 to w 4, open, total -/
def stgH (h : mH) (t : Nat) (w : Nat → Int) : mH := fun a b => if a = t + 1 ∧ 0 ≤ b ∧ b < 5 then w b.toNat else if a = t ∧ b = 3 then (opn w 4 : Int) else if a = t ∧ b = 1 then tot w 5 else h a b
theorem shw_step1 {h : mH} {t n : Nat} {w : Nat → Int} (hp : 0 < w n) : hset (hset (hset (shwH h t w n) t 3 ((opn w n + 2 ^ n : Nat) : Int)) (t + 1) n (w n)) t 1 (tot w n + w n) = shwH h t w (n + 1) := by
  funext a b
  unfold hset shwH
  rw [show opn w (n + 1) = opn w n + 2 ^ n by rw [opn, if_pos hp], show tot w (n + 1) = tot w n + w n from rfl]
  by_cases e1 : a = t ∧ b = 1
  · rw [if_pos e1, if_neg (by omega), if_neg (by omega), if_pos e1]
  · rw [if_neg e1]
    by_cases e2 : a = t + 1 ∧ b = n
    · rw [if_pos e2, if_pos (by omega), e2.2, Int.toNat_natCast]
    · rw [if_neg e2]
      by_cases e3 : a = t ∧ b = 3
      · rw [if_pos e3, if_neg (by omega), if_pos e3]
      · rw [if_neg e3]
        by_cases e4 : a = t + 1 ∧ 0 ≤ b ∧ b < n
        · rw [if_pos e4, if_pos (by omega)]
        · rw [if_neg e4, if_neg e3, if_neg e1, if_neg (by omega), if_neg e3, if_neg e1]
theorem shw_step0 {h : mH} {t n : Nat} {w : Nat → Int} (hp : ¬ 0 < w n) : hset (hset (shwH h t w n) (t + 1) n (w n)) t 1 (tot w n + w n) = shwH h t w (n + 1) := by
  funext a b
  unfold hset shwH
  rw [show opn w (n + 1) = opn w n by rw [opn, if_neg hp]; rfl, show tot w (n + 1) = tot w n + w n from rfl]
  by_cases e1 : a = t ∧ b = 1
  · rw [if_pos e1, if_neg (by omega), if_neg (by omega), if_pos e1]
  · rw [if_neg e1]
    by_cases e2 : a = t + 1 ∧ b = n
    · rw [if_pos e2, if_pos (by omega), e2.2, Int.toNat_natCast]
    · rw [if_neg e2]
      by_cases e4 : a = t + 1 ∧ 0 ≤ b ∧ b < n
      · rw [if_pos e4, if_pos (by omega)]
      · rw [if_neg e4, if_neg (show ¬ (a = t + 1 ∧ 0 ≤ b ∧ b < ((n + 1 : Nat) : Int)) by omega)]
        by_cases e3 : a = t ∧ b = 3
        · rw [if_pos e3, if_pos e3]
        · rw [if_neg e3, if_neg e3, if_neg e1, if_neg e1]
theorem shw_end {h : mH} {t : Nat} {w w' : Nat → Int} (hw : ∀ k, k < 4 → w' k = w k) : hset (hset (shwH h t w 4) (t + 1) 4 (w' 4)) t 1 (tot w 4 + w' 4) = stgH h t w' := by
  funext a b
  unfold hset shwH stgH
  rw [show tot w' 5 = tot w 4 + w' 4 by rw [tot, tot_congr hw], opn_congr hw]
  by_cases e1 : a = t ∧ b = 1
  · rw [if_pos e1, if_neg (by omega), if_neg (by omega), if_pos e1]
  · rw [if_neg e1]
    by_cases e2 : a = t + 1 ∧ b = 4
    · rw [if_pos e2, if_pos (by omega), e2.2]; rfl
    · rw [if_neg e2]
      by_cases e4 : a = t + 1 ∧ 0 ≤ b ∧ b < 4
      · rw [if_pos (show a = t + 1 ∧ 0 ≤ b ∧ b < ((4 : Nat) : Int) by omega), if_pos (show a = t + 1 ∧ 0 ≤ b ∧ b < 5 by omega), hw _ (by omega)]
      · rw [if_neg (show ¬ (a = t + 1 ∧ 0 ≤ b ∧ b < ((4 : Nat) : Int)) by omega), if_neg (show ¬ (a = t + 1 ∧ 0 ≤ b ∧ b < 5) by omega)]
        by_cases e3 : a = t ∧ b = 3
        · rw [if_pos e3, if_pos e3]
        · rw [if_neg e3, if_neg e3, if_neg e1, if_neg e1]
theorem wS_bd {cs : Int → Int} {pl : Int} {sh s : Nat} {B : Int} (hB : 1 ≤ B) (h : pl = -1 ∨ (0 ≤ cs (4 * pl + s) ∧ cs (4 * pl + s) ≤ B)) : 0 ≤ wS cs pl sh s ∧ wS cs pl sh s ≤ B := by
  unfold wS
  split
  · omega
  · split
    · omega
    · omega

set_option maxHeartbeats 8000000 in
set_option maxRecDepth 100000 in
theorem st_shows {x : mX} {h : mH} {Q : mH → Prop} {t c sh : Nat} {pl : Int} (ht : isStg t) (hc : isCtx c) (htc : t + 2 ≤ c ∨ c + 2 ≤ t) (h2 : h t 2 = sh) (hsh : sh < 16) (hpl : -1 ≤ pl) (hpl2 : pl ≤ 84) (hcs : ∀ s : Nat, s < 4 → pl = -1 ∨ (0 ≤ h (c + 1) (4 * pl + s) ∧ h (c + 1) (4 * pl + s) ≤ 1000)) (hQ : Q (stgH h t (wE (h (c + 1)) pl sh))) : CtV x mtX7_shows [xR t, xR c, xI pl] h Q := by
  obtain ⟨k1, k2, k3⟩ := ht
  generalize hwe : wS (h (c + 1)) pl sh = w
  have hwb : ∀ k, k < 4 → 0 ≤ w k ∧ w k ≤ 1000 := fun k hk => by rw [← hwe]; exact wS_bd (by decide) (hcs k hk)
  have J : ∀ u v : mV, Go x mtX7_shows 129 [xR t, xR c, xI pl, u, v] [xI (esc pl sh (opn w 4))] (shwH h t w 4) (qV Q) := by
    intro u v
    have eb := esc_bd pl sh (opn w 4)
    have tb := tot_bd (B := 1000) (n := 4) hwb
    have z1 : hset (shwH h t w 4) (t + 1) 4 (esc pl sh (opn w 4)) t 1 = tot w 4 := by
      rw [hset_ni (by omega)]; unfold shwH; rw [if_neg (by omega), if_neg (by omega), if_pos ⟨rfl, rfl⟩]
    have hQ : Q (hset (hset (shwH h t w 4) (t + 1) 4 (esc pl sh (opn w 4))) t 1 (tot w 4 + esc pl sh (opn w 4))) := by
      have e9 := shw_end (h := h) (t := t) (w := w) (w' := wE (h (c + 1)) pl sh) (fun k hk => by rw [wE_lt hk, hwe])
      rw [wE_4, hwe] at e9
      rw [e9]; exact hQ
    refine go_istore_n 3 dX7_shows_129 rfl (Nat.le_of_ble_eq_true rfl) rfl (by dsimp only [List.set]) ?_
    refine go_iconst dX7_shows_130 ⟨by decide, by decide⟩ ?_
    refine go_aload_n dX7_shows_131 rfl ?_
    refine gfX7_widths (by first | assumption | rfl) flX7_9 dX7_shows_132 ?_
    refine go_alen (Or.inl (by first | assumption | rfl)) dX7_shows_135 (⟨by omega, by omega⟩) ?_
    refine go_icmp_ge_f (tgt := 146) dX7_shows_136 (by decide) (by omega) ?_
    refine go_aload_n dX7_shows_139 rfl ?_
    refine gfX7_widths (by first | assumption | rfl) flX7_9 dX7_shows_140 ?_
    refine go_iconst dX7_shows_143 ⟨by decide, by decide⟩ ?_
    refine go_iload_n dX7_shows_144 rfl ?_
    refine go_iastore (by first | assumption | rfl) dX7_shows_145 (by omega) (by omega) ?_
    refine go_aload_n dX7_shows_146 rfl ?_
    first | refine go_dupR dX7_shows_147 ?_ | refine go_dupI dX7_shows_147 ?_
    refine gfX7_total (by first | assumption | rfl) flX7_15 dX7_shows_148 ?_
    rw [z1]
    refine go_iload_n dX7_shows_151 rfl ?_
    refine go_iadd dX7_shows_152 (by omega) (by omega) ?_
    refine pfX7_total (by first | assumption | rfl) flX7_15 dX7_shows_153 ?_
    refine go_return dX7_shows_156 rfl ?_
    exact hQ
  have key : ∀ u : mV, Go x mtX7_shows 12 [xR t, xR c, xI pl, xI 0, u] [] (shwH h t w 0) (qV Q) := by
    refine up_indN (P := fun s => ∀ u : mV, Go x mtX7_shows 12 [xR t, xR c, xI pl, xI s, u] [] (shwH h t w s) (qV Q)) 4 (fun s hs ih u => ?_)
    have q2 : shwH h t w s t 2 = sh := by unfold shwH; rw [if_neg (by omega), if_neg (by omega), if_neg (by omega), h2]
    have q3 : shwH h t w s t 3 = (opn w s : Int) := by unfold shwH; rw [if_neg (by omega), if_pos ⟨rfl, rfl⟩]
    have q1 : shwH h t w s t 1 = tot w s := by unfold shwH; rw [if_neg (by omega), if_neg (by omega), if_pos ⟨rfl, rfl⟩]
    have qc : shwH h t w s (c + 1) = h (c + 1) := by funext b; unfold shwH; rw [if_neg (by omega), if_neg (by omega), if_neg (by omega)]
    by_cases hs4 : s < 4
    · have hw := hwb s hs4
      have tb := tot_bd (B := 1000) (n := s) (fun k hk => hwb k (by omega))
      have hcs' := hcs s hs4
      have K : ∀ u : Int, Go x mtX7_shows 57 [xR t, xR c, xI pl, xI s, xI (w s)] [] (shwH h t w s) (qV Q) := by
        intro _
        have q1a : hset (hset (shwH h t w s) t 3 ((opn w s + 2 ^ s : Nat) : Int)) (t + 1) s (w s) t 1 = tot w s := by rw [hset_ni (by omega), hset_nk (by omega), q1]
        have q1b : hset (shwH h t w s) (t + 1) s (w s) t 1 = tot w s := by rw [hset_ni (by omega), q1]
        refine go_iload dX7_shows_57 rfl ?_
        refine go_if_le (tgt := 74) dX7_shows_59 (by decide) (fun c59 => ?_) (fun c59 => ?_)
        · refine go_aload_n dX7_shows_74 rfl ?_
          refine gfX7_widths (by first | assumption | rfl) flX7_9 dX7_shows_75 ?_
          refine go_iload_n dX7_shows_78 rfl ?_
          refine go_iload dX7_shows_79 rfl ?_
          refine go_iastore (by first | assumption | rfl) dX7_shows_81 (by omega) (by omega) ?_
          refine go_aload_n dX7_shows_82 rfl ?_
          first | refine go_dupR dX7_shows_83 ?_ | refine go_dupI dX7_shows_83 ?_
          refine gfX7_total (by first | assumption | rfl) flX7_15 dX7_shows_84 ?_
          first | rw [q1a] | rw [q1b]
          refine go_iload dX7_shows_87 rfl ?_
          refine go_iadd dX7_shows_89 (by omega) (by omega) ?_
          refine pfX7_total (by first | assumption | rfl) flX7_15 dX7_shows_90 ?_
          refine go_iinc dX7_shows_93 rfl rfl rfl (by omega) (by omega) (by dsimp only [List.set]) ?_
          refine go_goto (tgt := 12) dX7_shows_96 (by decide) ?_
          first | (rw [shw_step1 c59]; exact ih (by omega) _) | (rw [shw_step0 (by omega)]; exact ih (by omega) _)
        · refine go_aload_n dX7_shows_62 rfl ?_
          first | refine go_dupR dX7_shows_63 ?_ | refine go_dupI dX7_shows_63 ?_
          refine gfX7_open (by first | assumption | rfl) flX7_22 dX7_shows_64 ?_
          rw [q3]
          refine go_iconst dX7_shows_67 ⟨by decide, by decide⟩ ?_
          refine go_iload_n dX7_shows_68 rfl ?_
          refine go_ishl  dX7_shows_69 (shl_ok s hs4) (inR_nat (Nat.lt_of_le_of_lt (pow_bd s hs4) (by decide))) ?_
          refine go_ior  dX7_shows_70 (orp_ok s hs4 _ (opn_lt w s)) (inR_nat (by have := opn_lt w s; have := pow_bd s hs4; omega)) ?_
          refine pfX7_open (by first | assumption | rfl) flX7_22 dX7_shows_71 ?_
          refine go_aload_n dX7_shows_74 rfl ?_
          refine gfX7_widths (by first | assumption | rfl) flX7_9 dX7_shows_75 ?_
          refine go_iload_n dX7_shows_78 rfl ?_
          refine go_iload dX7_shows_79 rfl ?_
          refine go_iastore (by first | assumption | rfl) dX7_shows_81 (by omega) (by omega) ?_
          refine go_aload_n dX7_shows_82 rfl ?_
          first | refine go_dupR dX7_shows_83 ?_ | refine go_dupI dX7_shows_83 ?_
          refine gfX7_total (by first | assumption | rfl) flX7_15 dX7_shows_84 ?_
          first | rw [q1a] | rw [q1b]
          refine go_iload dX7_shows_87 rfl ?_
          refine go_iadd dX7_shows_89 (by omega) (by omega) ?_
          refine pfX7_total (by first | assumption | rfl) flX7_15 dX7_shows_90 ?_
          refine go_iinc dX7_shows_93 rfl rfl rfl (by omega) (by omega) (by dsimp only [List.set]) ?_
          refine go_goto (tgt := 12) dX7_shows_96 (by decide) ?_
          first | (rw [shw_step1 c59]; exact ih (by omega) _) | (rw [shw_step0 (by omega)]; exact ih (by omega) _)
      have hbb := b1_bd (hb sh s)
      have hw1 : b1 (hb sh s) ≠ 0 → w s = 0 := by
        intro q; rw [← hwe]; unfold wS; rw [if_pos (by cases hq : hb sh s <;> simp_all [b1])]
      have hw2 : b1 (hb sh s) = 0 → pl = -1 → w s = 1 := by
        intro q q2; rw [← hwe]; unfold wS; rw [if_neg (by intro z; rw [z] at q; simp [b1] at q), if_pos q2]
      have hw3 : b1 (hb sh s) = 0 → pl ≠ -1 → w s = shwH h t w s (c + 1) (4 * pl + s) := by
        intro q q2; rw [qc, ← hwe]; unfold wS; rw [if_neg (by intro z; rw [z] at q; simp [b1] at q), if_neg q2]
      have hcsq : pl ≠ -1 → 0 ≤ shwH h t w s (c + 1) (4 * pl + s) ∧ shwH h t w s (c + 1) (4 * pl + s) ≤ 1000 := by rw [qc]; omega
      refine go_iload_n dX7_shows_12 rfl ?_
      refine go_iconst dX7_shows_13 ⟨by decide, by decide⟩ ?_
      refine go_icmp_ge_f (tgt := 99) dX7_shows_14 (by decide) (by omega) ?_
      refine go_iload_n dX7_shows_17 rfl ?_
      refine go_aload_n dX7_shows_18 rfl ?_
      refine gfX7_widths (by first | assumption | rfl) flX7_9 dX7_shows_19 ?_
      refine go_alen (Or.inl (by first | assumption | rfl)) dX7_shows_22 (⟨by omega, by omega⟩) ?_
      refine go_icmp_ge_f (tgt := 99) dX7_shows_23 (by decide) (by omega) ?_
      refine go_iload_n dX7_shows_26 rfl ?_
      refine go_iconst dX7_shows_27 ⟨by decide, by decide⟩ ?_
      refine go_icmp_ne (tgt := 35) dX7_shows_28 (by decide) (fun c28 => ?_) (fun c28 => ?_)
      · refine go_aload_n dX7_shows_35 rfl ?_
        refine go_iload_n dX7_shows_36 rfl ?_
        refine go_iload_n dX7_shows_37 rfl ?_
        refine go_cV2I hc.1 vlX7_25 dX7_shows_38 (by decide) rfl rfl (by decide) (Nat.le_of_ble_eq_true rfl) (ctx_at hc (by omega) (by omega) (by omega) (by omega) ?_)
        refine go_istore dX7_shows_41 (Nat.le_of_ble_eq_true rfl) rfl (by dsimp only [List.set]) ?_
        refine go_aload_n dX7_shows_43 rfl ?_
        refine gfX7_shut (by first | assumption | rfl) flX7_19 dX7_shows_44 ?_
        rw [q2]
        refine go_iload_n dX7_shows_47 rfl ?_
        refine go_ishr  dX7_shows_48 (shr_ok sh hsh s hs4) (inR_nat (Nat.lt_trans (shr_bd sh hsh s hs4) (by decide))) ?_
        refine go_iconst dX7_shows_49 ⟨by decide, by decide⟩ ?_
        refine go_iand  dX7_shows_50 (and1_ok sh hsh s hs4) ⟨by have := b1_bd (hb sh s); omega, by have := b1_bd (hb sh s); omega⟩ ?_
        refine go_if_eq (tgt := 57) dX7_shows_51 (by decide) (fun c51 => ?_) (fun c51 => ?_)
        · first | (rw [hw1 (by omega)] at K; exact K 0) | (rw [hw2 (by omega) (by omega)] at K; exact K 0) | (rw [← hw3 (by omega) (by omega)]; exact K 0)
        · refine go_iconst dX7_shows_54 ⟨by decide, by decide⟩ ?_
          refine go_istore dX7_shows_55 (Nat.le_of_ble_eq_true rfl) rfl (by dsimp only [List.set]) ?_
          first | (rw [hw1 (by omega)] at K; exact K 0) | (rw [hw2 (by omega) (by omega)] at K; exact K 0) | (rw [← hw3 (by omega) (by omega)]; exact K 0)
      · refine go_iconst dX7_shows_31 ⟨by decide, by decide⟩ ?_
        refine go_goto (tgt := 41) dX7_shows_32 (by decide) ?_
        refine go_istore dX7_shows_41 (Nat.le_of_ble_eq_true rfl) rfl (by dsimp only [List.set]) ?_
        refine go_aload_n dX7_shows_43 rfl ?_
        refine gfX7_shut (by first | assumption | rfl) flX7_19 dX7_shows_44 ?_
        rw [q2]
        refine go_iload_n dX7_shows_47 rfl ?_
        refine go_ishr  dX7_shows_48 (shr_ok sh hsh s hs4) (inR_nat (Nat.lt_trans (shr_bd sh hsh s hs4) (by decide))) ?_
        refine go_iconst dX7_shows_49 ⟨by decide, by decide⟩ ?_
        refine go_iand  dX7_shows_50 (and1_ok sh hsh s hs4) ⟨by have := b1_bd (hb sh s); omega, by have := b1_bd (hb sh s); omega⟩ ?_
        refine go_if_eq (tgt := 57) dX7_shows_51 (by decide) (fun c51 => ?_) (fun c51 => ?_)
        · first | (rw [hw1 (by omega)] at K; exact K 0) | (rw [hw2 (by omega) (by omega)] at K; exact K 0) | (rw [← hw3 (by omega) (by omega)]; exact K 0)
        · refine go_iconst dX7_shows_54 ⟨by decide, by decide⟩ ?_
          refine go_istore dX7_shows_55 (Nat.le_of_ble_eq_true rfl) rfl (by dsimp only [List.set]) ?_
          first | (rw [hw1 (by omega)] at K; exact K 0) | (rw [hw2 (by omega) (by omega)] at K; exact K 0) | (rw [← hw3 (by omega) (by omega)]; exact K 0)
    · have hs5 : s = 4 := by omega
      subst hs5
      have he1 : pl = -1 ∨ opn w 4 ||| sh = 15 → esc pl sh (opn w 4) = 0 := by intro q; unfold esc; rw [if_pos q]
      have he2 : ¬ (pl = -1 ∨ opn w 4 ||| sh = 15) → esc pl sh (opn w 4) = pc4 (opn w 4) := by intro q; unfold esc; rw [if_neg q]
      refine go_iload_n dX7_shows_12 rfl ?_
      refine go_iconst dX7_shows_13 ⟨by decide, by decide⟩ ?_
      refine go_icmp_ge_t (tgt := 99) dX7_shows_14 (by decide) (by omega) ?_
      refine go_iload_n dX7_shows_99 rfl ?_
      refine go_iconst dX7_shows_100 ⟨by decide, by decide⟩ ?_
      refine go_icmp_eq (tgt := 118) dX7_shows_101 (by decide) (fun c101 => ?_) (fun c101 => ?_)
      · refine go_iconst dX7_shows_118 ⟨by decide, by decide⟩ ?_
        refine go_goto (tgt := 129) dX7_shows_119 (by decide) ?_
        first | (rw [he1 (by omega)] at J; exact J _ _) | (rw [he2 (by omega)] at J; exact J _ _)
      · refine go_aload_n dX7_shows_104 rfl ?_
        refine gfX7_open (by first | assumption | rfl) flX7_22 dX7_shows_105 ?_
        rw [q3]
        refine go_aload_n dX7_shows_108 rfl ?_
        refine gfX7_shut (by first | assumption | rfl) flX7_19 dX7_shows_109 ?_
        rw [q2]
        refine go_ior  dX7_shows_112 (orm_ok _ (opn_lt w 4) sh hsh) (inR_nat (Nat.lt_trans (orm_bd _ (opn_lt w 4) sh hsh) (by decide))) ?_
        refine go_bipush dX7_shows_113 (by decide +kernel) ⟨by decide, by decide⟩ ?_
        refine go_icmp_ne (tgt := 122) dX7_shows_115 (by decide) (fun c115 => ?_) (fun c115 => ?_)
        · refine go_aload_n dX7_shows_122 rfl ?_
          refine gfX7_open (by first | assumption | rfl) flX7_22 dX7_shows_123 ?_
          rw [q3]
          refine go_cS1I slX7_31 dX7_shows_126 (by decide) (Nat.le_of_ble_eq_true rfl) (j_bit (Nat.lt_of_lt_of_le (opn_lt w 4) (by decide)) ?_)
          first | (rw [he1 (by omega)] at J; exact J _ _) | (rw [he2 (by omega)] at J; exact J _ _)
        · refine go_iconst dX7_shows_118 ⟨by decide, by decide⟩ ?_
          refine go_goto (tgt := 129) dX7_shows_119 (by decide) ?_
          first | (rw [he1 (by omega)] at J; exact J _ _) | (rw [he2 (by omega)] at J; exact J _ _)
  have e0 : hset (hset h t 3 0) t 1 0 = shwH h t w 0 := by
    funext a b
    unfold hset shwH
    by_cases e1 : a = t ∧ b = 1
    · rw [if_pos e1, if_neg (by omega), if_neg (by omega), if_pos e1]; rfl
    · rw [if_neg e1, if_neg (show ¬ (a = t + 1 ∧ 0 ≤ b ∧ b < ((0 : Nat) : Int)) by omega)]
      by_cases e2 : a = t ∧ b = 3
      · rw [if_pos e2, if_pos e2]; rfl
      · rw [if_neg e2, if_neg e2, if_neg e1]
  refine ct_go (ls := [xR t, xR c, xI pl, xU, xU]) (by decide +kernel) (Nat.le_of_ble_eq_true rfl) rfl ?_
  refine go_aload_n dX7_shows_0 rfl ?_
  refine go_iconst dX7_shows_1 ⟨by decide, by decide⟩ ?_
  refine pfX7_open (by first | assumption | rfl) flX7_22 dX7_shows_2 ?_
  refine go_aload_n dX7_shows_5 rfl ?_
  refine go_iconst dX7_shows_6 ⟨by decide, by decide⟩ ?_
  refine pfX7_total (by first | assumption | rfl) flX7_15 dX7_shows_7 ?_
  refine go_iconst dX7_shows_10 ⟨by decide, by decide⟩ ?_
  refine go_istore_n 3 dX7_shows_11 rfl (Nat.le_of_ble_eq_true rfl) rfl (by dsimp only [List.set]) ?_
  rw [e0]
  exact key _
