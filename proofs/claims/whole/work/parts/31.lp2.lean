/-! ===== LongestPast: told, keep, back, undo, cuts, begins, packs ===== -/
def sp_told (w : Int) (a : Ab) : Int := if w = 0 then a.2.1.2.2.2.2.length else if w = 1 then thC (pkn a).1 85 else if w = 2 then (pkn a).2.1 else if w = 3 then (pkn a).2.2.2.2.2.length else if w = 4 then ((pkn a).2.2.2.2.1 : Int) else if w = 5 then (pkn a).2.2.1 else if w = 6 then (pkn a).2.2.2.1 else if w = 7 then a.2.1.1 else if w = 8 then a.2.1.2.1 else if w = 9 then a.2.1.2.2.1 else if w = 10 then a.2.1.2.2.2.1 else if w = 11 then a.1.length else if w = 12 then a.2.2.1.length else -1

set_option maxHeartbeats 4000000 in
set_option maxRecDepth 100000 in
theorem lp_told {x : mX} {h : mH} {Q : Int → mH → Prop} {w : Int} {a : Ab} (H : LpS h a) (hQ : Q (sp_told w a) h) : CtI x mtX9_told [xR 0, xI w] h Q := by
  obtain ⟨R, P, Z, ⟨nx, D⟩, E, F⟩ := id H
  refine ct_go (ls := [xR 0, xI w]) (by decide +kernel) (Nat.le_of_ble_eq_true rfl) rfl ?_
  refine go_iload_n dX9_told_0 rfl ?_
  by_cases q0 : w = 0
  · subst q0
    refine go_tsw_in (off := 67) (tgt := 68) dX9_told_1 (by decide) (by decide) rfl (by decide) ?_
    refine go_aload_n dX9_told_68 rfl ?_
    refine gfX9_now rfl flX9_21 dX9_told_69 ?_
    refine gfX3_past rfl flX9_77 dX9_told_72 ?_
    refine gfX4_signs rfl flX9_80 dX9_told_75 ?_
    refine gfX6_size rfl flX9_66 dX9_told_78 ?_
    refine go_ireturn dX9_told_81 rfl ?_
    rw [P.2.1.1]
    exact hQ
  by_cases q1 : w = 1
  · subst q1
    refine go_tsw_in (off := 81) (tgt := 82) dX9_told_1 (by decide) (by decide) rfl (by decide) ?_
    refine go_aload_n dX9_told_82 rfl ?_
    refine gfX9_now rfl flX9_21 dX9_told_83 ?_
    refine gfX3_contexts rfl flX9_126 dX9_told_86 ?_
    refine gfX0_there rfl flX9_183 dX9_told_89 ?_
    refine go_ireturn dX9_told_92 rfl ?_
    rw [P.2.2.2.1.2]
    exact hQ
  by_cases q2 : w = 2
  · subst q2
    refine go_tsw_in (off := 92) (tgt := 93) dX9_told_1 (by decide) (by decide) rfl (by decide) ?_
    refine go_aload_n dX9_told_93 rfl ?_
    refine gfX9_now rfl flX9_21 dX9_told_94 ?_
    refine gfX3_forgotten rfl flX9_186 dX9_told_97 ?_
    refine go_ireturn dX9_told_100 rfl ?_
    rw [P.2.2.2.2.1]
    exact hQ
  by_cases q3 : w = 3
  · subst q3
    refine go_tsw_in (off := 100) (tgt := 101) dX9_told_1 (by decide) (by decide) rfl (by decide) ?_
    refine go_aload_n dX9_told_101 rfl ?_
    refine gfX9_now rfl flX9_21 dX9_told_102 ?_
    refine gfX3_range rfl flX9_134 dX9_told_105 ?_
    refine gfX5_bits rfl flX9_138 dX9_told_108 ?_
    refine gfX6_size rfl flX9_66 dX9_told_111 ?_
    refine go_ireturn dX9_told_114 rfl ?_
    rw [P.2.2.2.2.2.2.2.2.2.1]
    exact hQ
  by_cases q4 : w = 4
  · subst q4
    refine go_tsw_in (off := 114) (tgt := 115) dX9_told_1 (by decide) (by decide) rfl (by decide) ?_
    refine go_aload_n dX9_told_115 rfl ?_
    refine gfX9_now rfl flX9_21 dX9_told_116 ?_
    refine gfX3_range rfl flX9_134 dX9_told_119 ?_
    refine gfX5_owed rfl flX9_189 dX9_told_122 ?_
    refine go_ireturn dX9_told_125 rfl ?_
    rw [P.2.2.2.2.2.2.2.1]
    exact hQ
  by_cases q5 : w = 5
  · subst q5
    refine go_tsw_in (off := 125) (tgt := 126) dX9_told_1 (by decide) (by decide) rfl (by decide) ?_
    refine go_aload_n dX9_told_126 rfl ?_
    refine gfX9_now rfl flX9_21 dX9_told_127 ?_
    refine gfX3_range rfl flX9_134 dX9_told_130 ?_
    refine gfX5_low rfl flX9_192 dX9_told_133 ?_
    refine go_ireturn dX9_told_136 rfl ?_
    rw [P.2.2.2.2.2.1]
    exact hQ
  by_cases q6 : w = 6
  · subst q6
    refine go_tsw_in (off := 136) (tgt := 137) dX9_told_1 (by decide) (by decide) rfl (by decide) ?_
    refine go_aload_n dX9_told_137 rfl ?_
    refine gfX9_now rfl flX9_21 dX9_told_138 ?_
    refine gfX3_range rfl flX9_134 dX9_told_141 ?_
    refine gfX5_high rfl flX9_195 dX9_told_144 ?_
    refine go_ireturn dX9_told_147 rfl ?_
    rw [P.2.2.2.2.2.2.1]
    exact hQ
  by_cases q7 : w = 7
  · subst q7
    refine go_tsw_in (off := 147) (tgt := 148) dX9_told_1 (by decide) (by decide) rfl (by decide) ?_
    refine go_aload_n dX9_told_148 rfl ?_
    refine gfX9_now rfl flX9_21 dX9_told_149 ?_
    refine gfX3_past rfl flX9_77 dX9_told_152 ?_
    refine gfX4_order rfl flX9_116 dX9_told_155 ?_
    refine go_ireturn dX9_told_158 rfl ?_
    rw [P.1.1]
    exact hQ
  by_cases q8 : w = 8
  · subst q8
    refine go_tsw_in (off := 158) (tgt := 159) dX9_told_1 (by decide) (by decide) rfl (by decide) ?_
    refine go_aload_n dX9_told_159 rfl ?_
    refine gfX9_now rfl flX9_21 dX9_told_160 ?_
    refine gfX3_past rfl flX9_77 dX9_told_163 ?_
    refine gfX4_limit rfl flX9_198 dX9_told_166 ?_
    refine go_ireturn dX9_told_169 rfl ?_
    rw [P.1.2.1]
    exact hQ
  by_cases q9 : w = 9
  · subst q9
    refine go_tsw_in (off := 169) (tgt := 170) dX9_told_1 (by decide) (by decide) rfl (by decide) ?_
    refine go_aload_n dX9_told_170 rfl ?_
    refine gfX9_now rfl flX9_21 dX9_told_171 ?_
    refine gfX3_past rfl flX9_77 dX9_told_174 ?_
    refine gfX4_room rfl flX9_201 dX9_told_177 ?_
    refine go_ireturn dX9_told_180 rfl ?_
    rw [P.1.2.2.1]
    exact hQ
  by_cases q10 : w = 10
  · subst q10
    refine go_tsw_in (off := 180) (tgt := 181) dX9_told_1 (by decide) (by decide) rfl (by decide) ?_
    refine go_aload_n dX9_told_181 rfl ?_
    refine gfX9_now rfl flX9_21 dX9_told_182 ?_
    refine gfX3_past rfl flX9_77 dX9_told_185 ?_
    refine gfX4_tail rfl flX9_204 dX9_told_188 ?_
    refine go_ireturn dX9_told_191 rfl ?_
    rw [P.1.2.2.2]
    exact hQ
  by_cases q11 : w = 11
  · subst q11
    refine go_tsw_in (off := 191) (tgt := 192) dX9_told_1 (by decide) (by decide) rfl (by decide) ?_
    refine go_aload_n dX9_told_192 rfl ?_
    refine gfX9_letters rfl flX9_14 dX9_told_193 ?_
    refine gfX6_size rfl flX9_66 dX9_told_196 ?_
    refine go_ireturn dX9_told_199 rfl ?_
    rw [R.1]
    exact hQ
  by_cases q12 : w = 12
  · subst q12
    refine go_tsw_in (off := 199) (tgt := 200) dX9_told_1 (by decide) (by decide) rfl (by decide) ?_
    refine go_aload_n dX9_told_200 rfl ?_
    refine gfX9_history rfl flX9_38 dX9_told_201 ?_
    refine gfX1_known rfl flX9_110 dX9_told_204 ?_
    refine go_ireturn dX9_told_207 rfl ?_
    rw [D.2.1]
    exact hQ
  refine go_tsw_out (tgt := 208) dX9_told_1 (by omega) (by decide) ?_
  refine go_iconst dX9_told_208 ⟨by decide, by decide⟩ ?_
  refine go_ireturn dX9_told_209 rfl ?_
  have e9 : sp_told w a = -1 := by unfold sp_told; rw [if_neg q0, if_neg q1, if_neg q2, if_neg q3, if_neg q4, if_neg q5, if_neg q6, if_neg q7, if_neg q8, if_neg q9, if_neg q10, if_neg q11, if_neg q12]
  rw [e9] at hQ; exact hQ

def sp_keep (k : Int) (a : Ab) : Int × Ab := if k = 0 then ((a.2.1.2.2.2.2.length : Int), (a.1, a.2.1, a.2.2.1, some a.2.1, a.2.2.2.2)) else if k = 1 then ((a.2.1.2.2.2.2.length : Int), (a.1, a.2.1, a.2.2.1, a.2.2.2.1, some a.2.1)) else (-1, a)
theorem PkV.past {h : mH} {b : Nat} {v : PV} (H : PkV h b v) : PastV h (b + 1) v := ⟨H.1, H.2.1⟩

set_option maxHeartbeats 4000000 in
set_option maxRecDepth 100000 in
theorem lp_keep {x : mX} {h : mH} {Q : Int → mH → Prop} {k : Int} {a : Ab} (H : LpS h a) (ok : AbOk a) (hQ : ∀ h', LpS h' (sp_keep k a).2 → FrL h h' → Q (sp_keep k a).1 h') : CtI x mtX9_keep [xR 0, xI k] h Q := by
  obtain ⟨R, P, Z, ⟨nx, D⟩, E, F⟩ := id H
  have hl := ok.2.1.2.1
  refine ct_go (ls := [xR 0, xI k]) (by decide +kernel) (Nat.le_of_ble_eq_true rfl) rfl ?_
  refine go_iload_n dX9_keep_0 rfl ?_
  refine go_iconst dX9_keep_1 ⟨by decide, by decide⟩ ?_
  refine go_iconst dX9_keep_2 ⟨by decide, by decide⟩ ?_
  refine go_cS3I slX9_73 dX9_keep_3 (by decide) (Nat.le_of_ble_eq_true rfl) (lp_isWithin ?_)
  refine go_if_ne (tgt := 11) dX9_keep_6 (by decide) (fun c6 => ?_) (fun c6 => ?_)
  · refine go_iload_n dX9_keep_11 rfl ?_
    refine go_if_ne (tgt := 37) dX9_keep_12 (by decide) (fun c12 => ?_) (fun c12 => ?_)
    · refine go_aload_n dX9_keep_37 rfl ?_
      refine gfX9_secondImage rfl flX9_49 dX9_keep_38 ?_
      refine go_aload_n dX9_keep_41 rfl ?_
      refine gfX9_now rfl flX9_21 dX9_keep_42 ?_
      refine gfX3_past rfl flX9_77 dX9_keep_45 ?_
      refine go_cV1V rfl vlX9_164 dX9_keep_48 (by decide) rfl rfl (by decide) (Nat.le_of_ble_eq_true rfl) (past_becomesP past49 pk3.2.1 (by decide) (PkV.past P) hl F.2.1 ?_)
      intro h1 P1 F1
      refine go_aload_n dX9_keep_51 rfl ?_
      refine go_iconst dX9_keep_52 ⟨by decide, by decide⟩ ?_
      refine pfX9_secondKept rfl flX9_56 dX9_keep_53 (by first | exact Or.inl rfl | exact Or.inr rfl) ?_
      refine go_aload_n dX9_keep_56 rfl ?_
      refine gfX9_now rfl flX9_21 dX9_keep_57 ?_
      refine gfX3_past rfl flX9_77 dX9_keep_60 ?_
      refine gfX4_signs rfl flX9_80 dX9_keep_63 ?_
      refine gfX6_size rfl flX9_66 dX9_keep_66 ?_
      rw [hset_ni (by decide), F1 (3 + 1 + 1) (by decide) (by decide) (by decide), P.2.1.1]
      refine go_ireturn dX9_keep_69 rfl ?_
      first
        | (have hk := c12
           have e9 : sp_keep k a = ((a.2.1.2.2.2.2.length : Int), (a.1, a.2.1, a.2.2.1, some a.2.1, a.2.2.2.2)) := by (unfold sp_keep; rw [if_pos hk])
           rw [e9] at hQ
           have nF : ∀ i, i ≠ 0 → i ≠ 46 → i ≠ 46 + 1 → i ≠ 46 + 2 → hset h1 0 7 1 i = h i := fun i q0 q1 q2 q3 => by rw [hset_ni q0, F1 i q1 q2 q3]
           have n0 : ∀ z, z ≠ 7 → hset h1 0 7 1 0 z = h 0 z := fun z q => by rw [hset_nk q, F1 0 (by decide) (by decide) (by decide)]
           refine hQ _ ⟨R.congr (nF _ (by decide) (by decide) (by decide) (by decide)) (nF _ (by decide) (by decide) (by decide) (by decide)), P.congr (fun i q1 q2 => nF i (by omega) (by omega) (by omega) (by omega)), Z.congr (fun i q1 q2 => nF i (by omega) (by omega) (by omega) (by omega)), ⟨nx, D.congr (fun i q1 q2 => nF i (by omega) (by omega) (by omega) (by omega))⟩, ⟨hset_eq _ _ _ _, by rw [hset_ni (by decide), P1.2.1]; omega, fun v hv => ?_⟩, F.congr (n0 8 (by decide)) (fun i q1 q2 => nF i (by omega) (by omega) (by omega) (by omega))⟩ (fun i q => nF i (by omega) (by omega) (by omega) (by omega))
           cases hv
           exact P1.congr (hset_ni (by decide)) (hset_ni (by decide)) (hset_ni (by decide)))
        | (have hk := c12
           have e9 : sp_keep k a = ((a.2.1.2.2.2.2.length : Int), (a.1, a.2.1, a.2.2.1, a.2.2.2.1, some a.2.1)) := by (unfold sp_keep; rw [if_neg hk, if_pos (by have : 0 ≤ k ∧ k ≤ 1 := (by rcases Classical.em (0 ≤ k ∧ k ≤ 1) with q | q; exact q; (rw [if_neg q] at c6; exact absurd rfl c6)); omega)])
           rw [e9] at hQ
           have nF : ∀ i, i ≠ 0 → i ≠ 49 → i ≠ 49 + 1 → i ≠ 49 + 2 → hset h1 0 8 1 i = h i := fun i q0 q1 q2 q3 => by rw [hset_ni q0, F1 i q1 q2 q3]
           have n0 : ∀ z, z ≠ 8 → hset h1 0 8 1 0 z = h 0 z := fun z q => by rw [hset_nk q, F1 0 (by decide) (by decide) (by decide)]
           refine hQ _ ⟨R.congr (nF _ (by decide) (by decide) (by decide) (by decide)) (nF _ (by decide) (by decide) (by decide) (by decide)), P.congr (fun i q1 q2 => nF i (by omega) (by omega) (by omega) (by omega)), Z.congr (fun i q1 q2 => nF i (by omega) (by omega) (by omega) (by omega)), ⟨nx, D.congr (fun i q1 q2 => nF i (by omega) (by omega) (by omega) (by omega))⟩, E.congr (n0 7 (by decide)) (fun i q1 q2 => nF i (by omega) (by omega) (by omega) (by omega)), ⟨hset_eq _ _ _ _, by rw [hset_ni (by decide), P1.2.1]; omega, fun v hv => ?_⟩⟩ (fun i q => nF i (by omega) (by omega) (by omega) (by omega))
           cases hv
           exact P1.congr (hset_ni (by decide)) (hset_ni (by decide)) (hset_ni (by decide)))
    · refine go_aload_n dX9_keep_15 rfl ?_
      refine gfX9_firstImage rfl flX9_45 dX9_keep_16 ?_
      refine go_aload_n dX9_keep_19 rfl ?_
      refine gfX9_now rfl flX9_21 dX9_keep_20 ?_
      refine gfX3_past rfl flX9_77 dX9_keep_23 ?_
      refine go_cV1V rfl vlX9_164 dX9_keep_26 (by decide) rfl rfl (by decide) (Nat.le_of_ble_eq_true rfl) (past_becomesP past46 pk3.2.1 (by decide) (PkV.past P) hl E.2.1 ?_)
      intro h1 P1 F1
      refine go_aload_n dX9_keep_29 rfl ?_
      refine go_iconst dX9_keep_30 ⟨by decide, by decide⟩ ?_
      refine pfX9_firstKept rfl flX9_52 dX9_keep_31 (by first | exact Or.inl rfl | exact Or.inr rfl) ?_
      refine go_goto (tgt := 56) dX9_keep_34 (by decide) ?_
      refine go_aload_n dX9_keep_56 rfl ?_
      refine gfX9_now rfl flX9_21 dX9_keep_57 ?_
      refine gfX3_past rfl flX9_77 dX9_keep_60 ?_
      refine gfX4_signs rfl flX9_80 dX9_keep_63 ?_
      refine gfX6_size rfl flX9_66 dX9_keep_66 ?_
      rw [hset_ni (by decide), F1 (3 + 1 + 1) (by decide) (by decide) (by decide), P.2.1.1]
      refine go_ireturn dX9_keep_69 rfl ?_
      first
        | (have hk := c12
           have e9 : sp_keep k a = ((a.2.1.2.2.2.2.length : Int), (a.1, a.2.1, a.2.2.1, some a.2.1, a.2.2.2.2)) := by (unfold sp_keep; rw [if_pos hk])
           rw [e9] at hQ
           have nF : ∀ i, i ≠ 0 → i ≠ 46 → i ≠ 46 + 1 → i ≠ 46 + 2 → hset h1 0 7 1 i = h i := fun i q0 q1 q2 q3 => by rw [hset_ni q0, F1 i q1 q2 q3]
           have n0 : ∀ z, z ≠ 7 → hset h1 0 7 1 0 z = h 0 z := fun z q => by rw [hset_nk q, F1 0 (by decide) (by decide) (by decide)]
           refine hQ _ ⟨R.congr (nF _ (by decide) (by decide) (by decide) (by decide)) (nF _ (by decide) (by decide) (by decide) (by decide)), P.congr (fun i q1 q2 => nF i (by omega) (by omega) (by omega) (by omega)), Z.congr (fun i q1 q2 => nF i (by omega) (by omega) (by omega) (by omega)), ⟨nx, D.congr (fun i q1 q2 => nF i (by omega) (by omega) (by omega) (by omega))⟩, ⟨hset_eq _ _ _ _, by rw [hset_ni (by decide), P1.2.1]; omega, fun v hv => ?_⟩, F.congr (n0 8 (by decide)) (fun i q1 q2 => nF i (by omega) (by omega) (by omega) (by omega))⟩ (fun i q => nF i (by omega) (by omega) (by omega) (by omega))
           cases hv
           exact P1.congr (hset_ni (by decide)) (hset_ni (by decide)) (hset_ni (by decide)))
        | (have hk := c12
           have e9 : sp_keep k a = ((a.2.1.2.2.2.2.length : Int), (a.1, a.2.1, a.2.2.1, a.2.2.2.1, some a.2.1)) := by (unfold sp_keep; rw [if_neg hk, if_pos (by have : 0 ≤ k ∧ k ≤ 1 := (by rcases Classical.em (0 ≤ k ∧ k ≤ 1) with q | q; exact q; (rw [if_neg q] at c6; exact absurd rfl c6)); omega)])
           rw [e9] at hQ
           have nF : ∀ i, i ≠ 0 → i ≠ 49 → i ≠ 49 + 1 → i ≠ 49 + 2 → hset h1 0 8 1 i = h i := fun i q0 q1 q2 q3 => by rw [hset_ni q0, F1 i q1 q2 q3]
           have n0 : ∀ z, z ≠ 8 → hset h1 0 8 1 0 z = h 0 z := fun z q => by rw [hset_nk q, F1 0 (by decide) (by decide) (by decide)]
           refine hQ _ ⟨R.congr (nF _ (by decide) (by decide) (by decide) (by decide)) (nF _ (by decide) (by decide) (by decide) (by decide)), P.congr (fun i q1 q2 => nF i (by omega) (by omega) (by omega) (by omega)), Z.congr (fun i q1 q2 => nF i (by omega) (by omega) (by omega) (by omega)), ⟨nx, D.congr (fun i q1 q2 => nF i (by omega) (by omega) (by omega) (by omega))⟩, E.congr (n0 7 (by decide)) (fun i q1 q2 => nF i (by omega) (by omega) (by omega) (by omega)), ⟨hset_eq _ _ _ _, by rw [hset_ni (by decide), P1.2.1]; omega, fun v hv => ?_⟩⟩ (fun i q => nF i (by omega) (by omega) (by omega) (by omega))
           cases hv
           exact P1.congr (hset_ni (by decide)) (hset_ni (by decide)) (hset_ni (by decide)))
  · refine go_iconst dX9_keep_9 ⟨by decide, by decide⟩ ?_
    refine go_ireturn dX9_keep_10 rfl ?_
    have e9 : sp_keep k a = (-1, a) := by
      have : ¬ (0 ≤ k ∧ k ≤ 1) := fun q => by rw [if_pos q] at c6; omega
      unfold sp_keep; rw [if_neg (by omega), if_neg (by omega)]
    rw [e9] at hQ; exact hQ h H (fun _ _ => rfl)

theorem now_repack {x : mX} {h : mH} {Q : mH → Prop} {v : PV} (ok : PvOk v) (hV : PastV h 4 v) (hz : PkZ h 3) (hQ : ∀ h', PkV h' 3 v → FrP 3 h h' → Q h') : CtV x mtX3_repacks [xR 3] h Q :=
  pk_repacks pk3 ok.1 ok.2 hV.1 hV.2 hz hQ

def sp_undo (a : Ab) : Int × Ab := match a.2.2.1 with
  | [] => (-2, a)
  | v :: hs => ((hs.length : Int), (a.1, v, hs, a.2.2.2))

set_option maxHeartbeats 4000000 in
set_option maxRecDepth 100000 in
theorem lp_undo {x : mX} {h : mH} {Q : Int → mH → Prop} {a : Ab} (H : LpS h a) (ok : AbOk a) (hQ : ∀ h', LpS h' (sp_undo a).2 → FrL h h' → Q (sp_undo a).1 h') : CtI x mtX9_undo [xR 0] h Q := by
  obtain ⟨R, P, Z, ⟨nx, D⟩, E, F⟩ := id H
  refine ct_go (ls := [xR 0]) (by decide +kernel) (Nat.le_of_ble_eq_true rfl) rfl ?_
  obtain ⟨lt, v0, hs, im⟩ := a
  cases hs with
  | nil =>
    dsimp only at D
    refine go_aload_n dX9_undo_0 rfl ?_
    refine gfX9_history rfl flX9_38 dX9_undo_1 ?_
    refine gfX1_known rfl flX9_110 dX9_undo_4 ?_
    refine go_if_ne_f (tgt := 13) dX9_undo_7 (by decide) (D.2.1) ?_
    refine go_bipush dX9_undo_10 (by decide +kernel) ⟨by decide, by decide⟩ ?_
    refine go_ireturn dX9_undo_12 rfl ?_
    exact hQ h H (fun _ _ => rfl)
  | cons v hs =>
    have hv : PvOk v := ok.2.2.1.2 v List.mem_cons_self
    dsimp only at D R P Z E F
    dsimp only [sp_undo] at hQ
    refine go_aload_n dX9_undo_0 rfl ?_
    refine gfX9_history rfl flX9_38 dX9_undo_1 ?_
    refine gfX1_known rfl flX9_110 dX9_undo_4 ?_
    refine go_if_ne_t (tgt := 13) dX9_undo_7 (by decide) (by rw [D.2.1, List.length_cons]; omega) ?_
    refine go_aload_n dX9_undo_13 rfl ?_
    refine gfX9_history rfl flX9_38 dX9_undo_14 ?_
    refine go_aload_n dX9_undo_17 rfl ?_
    refine gfX9_now rfl flX9_21 dX9_undo_18 ?_
    refine gfX3_past rfl flX9_77 dX9_undo_21 ?_
    refine go_cV1V rfl vlX9_113 dX9_undo_24 (by decide) rfl rfl (by decide) (Nat.le_of_ble_eq_true rfl) (hi_recalls pk3.2.1 (by decide) hv.2.1 (by rw [P.2.1.1]; omega) D ?_)
    intro h1 nx1 D1 V1 F1
    have Z1 : PkZ h1 3 := ⟨fun k hk => by rw [F1 _ (by decide) (by decide) (by decide) (by decide)]; exact (PkS.z ok.2.1.1 ok.2.1.2 (Nat.le_refl _) P).1 k hk, by rw [F1 _ (by decide) (by decide) (by decide) (by decide)]; exact (PkS.z ok.2.1.1 ok.2.1.2 (Nat.le_refl _) P).2.1, by rw [V1.2.1]; omega⟩
    refine go_aload_n dX9_undo_27 rfl ?_
    refine gfX9_now rfl flX9_21 dX9_undo_28 ?_
    refine go_cV0V rfl vlX9_91 dX9_undo_31 (by decide) rfl rfl (by decide) (Nat.le_of_ble_eq_true rfl) (now_repack hv V1 Z1 ?_)
    intro h2 P2 F2
    refine go_aload_n dX9_undo_34 rfl ?_
    refine gfX9_history rfl flX9_38 dX9_undo_35 ?_
    refine gfX1_known rfl flX9_110 dX9_undo_38 ?_
    rw [F2 26 (by decide), D1.2.1]
    refine go_ireturn dX9_undo_41 rfl ?_
    refine hQ h2 ⟨R.congr ?_ ?_, P2, Z.congr (fun i q1 q2 => ?_), ⟨nx1, D1.congr (fun i q1 q2 => F2 i (by omega))⟩, E.congr ?_ (fun i q1 q2 => ?_), F.congr ?_ (fun i q1 q2 => ?_)⟩ (fun i q => ?_)
    · rw [F2 1 (by decide), F1 1 (by decide) (by decide) (by decide) (by decide)]
    · rw [F2 _ (by decide), F1 _ (by decide) (by decide) (by decide) (by decide)]
    · rw [F2 i (by omega), F1 i (by omega) (by omega) (by omega) (by omega)]
    · rw [F2 0 (by decide), F1 0 (by decide) (by decide) (by decide) (by decide)]
    · rw [F2 i (by omega), F1 i (by omega) (by omega) (by omega) (by omega)]
    · rw [F2 0 (by decide), F1 0 (by decide) (by decide) (by decide) (by decide)]
    · rw [F2 i (by omega), F1 i (by omega) (by omega) (by omega) (by omega)]
    · rw [F2 i (by omega), F1 i (by omega) (by omega) (by omega) (by omega)]

def push (a : Ab) : List PV := (a.2.1 :: a.2.2.1).take 6
def sp_begins (o l r t : Int) (a : Ab) : Int × Ab := if (0 ≤ o ∧ o ≤ 3) ∧ (2 ≤ l ∧ l ≤ 15) ∧ (4 ≤ r ∧ r ≤ 60) ∧ (0 ≤ t ∧ t ≤ 9) then ((a.2.1.2.2.2.2.length : Int), (a.1, (o, l, r, t, []), push a, a.2.2.2)) else (-1, a)
theorem if10 {c : Prop} [Decidable c] (h : (if c then (1 : Int) else 0) ≠ 0) : c := by
  rcases Classical.em c with q | q
  · exact q
  · rw [if_neg q] at h; exact absurd rfl h
theorem if01 {c : Prop} [Decidable c] (h : (if c then (1 : Int) else 0) = 0) : ¬ c := fun q => by rw [if_pos q] at h; exact absurd h (by decide)

set_option maxHeartbeats 4000000 in
set_option maxRecDepth 100000 in
theorem lp_begins {x : mX} {h : mH} {Q : Int → mH → Prop} {o l r t : Int} {a : Ab} (H : LpS h a) (ok : AbOk a) (hQ : ∀ h', LpS h' (sp_begins o l r t a).2 → FrL h h' → Q (sp_begins o l r t a).1 h') : CtI x mtX9_begins [xR 0, xI o, xI l, xI r, xI t] h Q := by
  obtain ⟨R, P, Z, ⟨nx, D⟩, E, F⟩ := id H
  have hl := ok.2.1.2.1
  refine ct_go (ls := [xR 0, xI o, xI l, xI r, xI t, xU]) (by decide +kernel) (Nat.le_of_ble_eq_true rfl) rfl ?_
  refine go_iload_n dX9_begins_0 rfl ?_
  refine go_iconst dX9_begins_1 ⟨by decide, by decide⟩ ?_
  refine go_iconst dX9_begins_2 ⟨by decide, by decide⟩ ?_
  refine go_cS3I slX9_73 dX9_begins_3 (by decide) (Nat.le_of_ble_eq_true rfl) (lp_isWithin ?_)
  refine go_if_eq (tgt := 19) dX9_begins_6 (by decide) (fun c6 => ?_) (fun c6 => ?_)
  · refine go_iconst dX9_begins_19 ⟨by decide, by decide⟩ ?_
    refine go_ireturn dX9_begins_20 rfl ?_
    first
      | (have q := if01 c6
         have e9 : sp_begins o l r t a = (-1, a) := by (unfold sp_begins; rw [if_neg (by omega)])
         rw [e9] at hQ; exact hQ h H (fun _ _ => rfl))
      | (have q := if01 c16
         have e9 : sp_begins o l r t a = (-1, a) := by (unfold sp_begins; rw [if_neg (by omega)])
         rw [e9] at hQ; exact hQ h H (fun _ _ => rfl))
  · refine go_iload_n dX9_begins_9 rfl ?_
    refine go_iconst dX9_begins_10 ⟨by decide, by decide⟩ ?_
    refine go_bipush dX9_begins_11 (by decide +kernel) ⟨by decide, by decide⟩ ?_
    refine go_cS3I slX9_73 dX9_begins_13 (by decide) (Nat.le_of_ble_eq_true rfl) (lp_isWithin ?_)
    refine go_if_ne (tgt := 21) dX9_begins_16 (by decide) (fun c16 => ?_) (fun c16 => ?_)
    · refine go_iload_n dX9_begins_21 rfl ?_
      refine go_iconst dX9_begins_22 ⟨by decide, by decide⟩ ?_
      refine go_bipush dX9_begins_23 (by decide +kernel) ⟨by decide, by decide⟩ ?_
      refine go_cS3I slX9_73 dX9_begins_25 (by decide) (Nat.le_of_ble_eq_true rfl) (lp_isWithin ?_)
      refine go_if_eq (tgt := 42) dX9_begins_28 (by decide) (fun c28 => ?_) (fun c28 => ?_)
      · refine go_iconst dX9_begins_42 ⟨by decide, by decide⟩ ?_
        refine go_ireturn dX9_begins_43 rfl ?_
        first
          | (have q := if01 c28
             have e9 : sp_begins o l r t a = (-1, a) := by (unfold sp_begins; rw [if_neg (by omega)])
             rw [e9] at hQ; exact hQ h H (fun _ _ => rfl))
          | (have q := if01 c39
             have e9 : sp_begins o l r t a = (-1, a) := by (unfold sp_begins; rw [if_neg (by omega)])
             rw [e9] at hQ; exact hQ h H (fun _ _ => rfl))
      · refine go_iload dX9_begins_31 rfl ?_
        refine go_iconst dX9_begins_33 ⟨by decide, by decide⟩ ?_
        refine go_bipush dX9_begins_34 (by decide +kernel) ⟨by decide, by decide⟩ ?_
        refine go_cS3I slX9_73 dX9_begins_36 (by decide) (Nat.le_of_ble_eq_true rfl) (lp_isWithin ?_)
        refine go_if_ne (tgt := 44) dX9_begins_39 (by decide) (fun c39 => ?_) (fun c39 => ?_)
        · refine go_aload_n dX9_begins_44 rfl ?_
          refine gfX9_now rfl flX9_21 dX9_begins_45 ?_
          refine gfX3_past rfl flX9_77 dX9_begins_48 ?_
          refine gfX4_signs rfl flX9_80 dX9_begins_51 ?_
          refine gfX6_size rfl flX9_66 dX9_begins_54 ?_
          rw [P.2.1.1]
          refine go_istore dX9_begins_57 (Nat.le_of_ble_eq_true rfl) rfl (by dsimp only [List.set]) ?_
          have hPr : PrOk o l r t := by have q1 := if10 c6; have q2 := if10 c16; have q3 := if10 c28; have q4 := if10 c39; unfold PrOk; omega
          refine go_aload_n dX9_begins_59 rfl ?_
          refine gfX9_history rfl flX9_38 dX9_begins_60 ?_
          refine go_aload_n dX9_begins_63 rfl ?_
          refine gfX9_now rfl flX9_21 dX9_begins_64 ?_
          refine gfX3_past rfl flX9_77 dX9_begins_67 ?_
          refine go_cV1V rfl vlX9_83 dX9_begins_70 (by decide) rfl rfl (by decide) (Nat.le_of_ble_eq_true rfl) (hi_remembers (v := a.2.1) pk3.2.1 (by decide) (PkV.past P) hl D ?_)
          intro h1 nx1 D1 F1
          refine go_aload_n dX9_begins_73 rfl ?_
          refine gfX9_now rfl flX9_21 dX9_begins_74 ?_
          refine gfX3_past rfl flX9_77 dX9_begins_77 ?_
          refine go_iload_n dX9_begins_80 rfl ?_
          refine go_iload_n dX9_begins_81 rfl ?_
          refine go_iload_n dX9_begins_82 rfl ?_
          refine go_iload dX9_begins_83 rfl ?_
          refine go_cV4V rfl vlX9_87 dX9_begins_85 (by decide) rfl rfl (by decide) (Nat.le_of_ble_eq_true rfl) (past_setsOut pk3.2.1 (by rw [F1 _ (by decide) trivial, P.2.1.1]; omega) ?_)
          generalize he2 : setH h1 (3 + 1) o l r t = h2
          have F2 : ∀ i, i ≠ 4 → i ≠ 5 → h2 i = h1 i := fun i q1 q2 => by rw [← he2]; exact setH_ne q1 q2
          refine go_aload_n dX9_begins_88 rfl ?_
          refine gfX9_now rfl flX9_21 dX9_begins_89 ?_
          refine go_cV0V rfl vlX9_91 dX9_begins_92 (by decide) rfl rfl (by decide) (Nat.le_of_ble_eq_true rfl) (now_repack (v := (o, l, r, t, [])) ⟨hPr, ⟨Nat.zero_le _, fun k hk => absurd hk (by simp)⟩⟩ ⟨⟨?_, ?_, ?_, ?_⟩, ⟨?_, fun k hk => absurd hk (by simp)⟩⟩ ⟨fun k hk => ?_, ?_, ?_⟩ ?_)
          · rw [← he2]; unfold setH; rw [hset_ni (by decide), hset_nk (by decide), hset_nk (by decide), hset_nk (by decide), hset_eq]
          · rw [← he2]; unfold setH; rw [hset_ni (by decide), hset_nk (by decide), hset_nk (by decide), hset_eq]
          · rw [← he2]; unfold setH; rw [hset_ni (by decide), hset_nk (by decide), hset_eq]
          · rw [← he2]; unfold setH; rw [hset_ni (by decide), hset_eq]
          · rw [← he2]; unfold setH; rw [hset_eq]; rfl
          · rw [F2 _ (by decide) (by decide), F1 _ (by decide) trivial]; exact (PkS.z ok.2.1.1 ok.2.1.2 (Nat.le_refl _) P).1 k hk
          · rw [F2 _ (by decide) (by decide), F1 _ (by decide) trivial]; exact (PkS.z ok.2.1.1 ok.2.1.2 (Nat.le_refl _) P).2.1
          · rw [← he2]; unfold setH; rw [hset_eq]; exact Int.le_refl 0
          intro h3 P3 F3
          refine go_iload dX9_begins_95 rfl ?_
          refine go_ireturn dX9_begins_97 rfl ?_
          have e9 : sp_begins o l r t a = ((a.2.1.2.2.2.2.length : Int), (a.1, (o, l, r, t, []), push a, a.2.2.2)) := by
            obtain ⟨w1, w2, w3, w4, w5, w6, w7, w8⟩ := hPr
            unfold sp_begins; rw [if_pos (by omega)]
          rw [e9] at hQ
          have nF : ∀ i, i < 3 ∨ (14 ≤ i ∧ i < 26) ∨ 46 ≤ i → h3 i = h i := fun i q => by rw [F3 i (by omega), F2 i (by omega) (by omega), F1 i (by omega) trivial]
          refine hQ h3 ⟨R.congr (nF _ (by decide)) (nF _ (by decide)), P3, Z.congr (fun i q1 q2 => nF i (by omega)), ⟨nx1, D1.congr (fun i q1 q2 => by rw [F3 i (by omega), F2 i (by omega) (by omega)])⟩, E.congr (by rw [nF 0 (by decide)]) (fun i q1 q2 => nF i (by omega)), F.congr (by rw [nF 0 (by decide)]) (fun i q1 q2 => nF i (by omega))⟩ (fun i q => nF i (by omega))
        · refine go_iconst dX9_begins_42 ⟨by decide, by decide⟩ ?_
          refine go_ireturn dX9_begins_43 rfl ?_
          first
            | (have q := if01 c28
               have e9 : sp_begins o l r t a = (-1, a) := by (unfold sp_begins; rw [if_neg (by omega)])
               rw [e9] at hQ; exact hQ h H (fun _ _ => rfl))
            | (have q := if01 c39
               have e9 : sp_begins o l r t a = (-1, a) := by (unfold sp_begins; rw [if_neg (by omega)])
               rw [e9] at hQ; exact hQ h H (fun _ _ => rfl))
    · refine go_iconst dX9_begins_19 ⟨by decide, by decide⟩ ?_
      refine go_ireturn dX9_begins_20 rfl ?_
      first
        | (have q := if01 c6
           have e9 : sp_begins o l r t a = (-1, a) := by (unfold sp_begins; rw [if_neg (by omega)])
           rw [e9] at hQ; exact hQ h H (fun _ _ => rfl))
        | (have q := if01 c16
           have e9 : sp_begins o l r t a = (-1, a) := by (unfold sp_begins; rw [if_neg (by omega)])
           rw [e9] at hQ; exact hQ h H (fun _ _ => rfl))
