/-! ===== LongestPast: count, chance, escapes, likeliest ===== -/
abbrev okC (j x y z s o : Int) : Prop := (0 ≤ j ∧ j ≤ o) ∧ (0 ≤ s ∧ s ≤ 3) ∧ ((0 < j → 0 ≤ x ∧ x ≤ 3) ∧ (j ≤ 0 → x = 0)) ∧ ((1 < j → 0 ≤ y ∧ y ≤ 3) ∧ (j ≤ 1 → y = 0)) ∧ ((2 < j → 0 ≤ z ∧ z ≤ 3) ∧ (j ≤ 2 → z = 0))
def plC (j x y z : Int) : Int := if j = 0 then 0 else if j = 1 then 1 + x else if j = 2 then 5 + 4 * x + y else 21 + 16 * x + 4 * y + z
def sp_count (j x y z s : Int) (a : Ab) : Int := if okC j x y z s a.2.1.1 then (pkn a).1 (4 * plC j x y z + s) else -1

set_option maxHeartbeats 4000000 in
set_option maxRecDepth 100000 in
theorem lp_isCS1 {x : mX} {h : mH} {Q : Int → mH → Prop} {z : Int} (hQ : Q (if 0 ≤ z ∧ z ≤ 3 then 1 else 0) h) : CtI x mtX9_isContextSign [xI z, xI 1] h Q := by
  refine ct_go (ls := [xI z, xI 1]) (by decide +kernel) (Nat.le_of_ble_eq_true rfl) rfl ?_
  refine go_iload_n dX9_isContextSign_0 rfl ?_
  refine go_if_eq_f (tgt := 11) dX9_isContextSign_1 (by decide) (by decide) ?_
  refine go_iload_n dX9_isContextSign_4 rfl ?_
  refine go_cS1I slX9_94 dX9_isContextSign_5 (by decide) (Nat.le_of_ble_eq_true rfl) (lp_isSign ?_)
  refine go_goto (tgt := 20) dX9_isContextSign_8 (by decide) ?_
  refine go_zreturn dX9_isContextSign_20 rfl (by first | exact Or.inl rfl | exact Or.inr rfl | (split <;> first | exact Or.inl rfl | exact Or.inr rfl)) ?_
  exact hQ

set_option maxHeartbeats 4000000 in
set_option maxRecDepth 100000 in
theorem lp_isCS0 {x : mX} {h : mH} {Q : Int → mH → Prop} {z : Int} (hQ : Q (if z = 0 then 1 else 0) h) : CtI x mtX9_isContextSign [xI z, xI 0] h Q := by
  refine ct_go (ls := [xI z, xI 0]) (by decide +kernel) (Nat.le_of_ble_eq_true rfl) rfl ?_
  refine go_iload_n dX9_isContextSign_0 rfl ?_
  refine go_if_eq_t (tgt := 11) dX9_isContextSign_1 (by decide) (rfl) ?_
  refine go_iload_n dX9_isContextSign_11 rfl ?_
  refine go_if_ne (tgt := 19) dX9_isContextSign_12 (by decide) (fun c12 => ?_) (fun c12 => ?_)
  · refine go_iconst dX9_isContextSign_19 ⟨by decide, by decide⟩ ?_
    refine go_zreturn dX9_isContextSign_20 rfl (by first | exact Or.inl rfl | exact Or.inr rfl) ?_
    first | (rw [if_pos (by omega)] at hQ; exact hQ) | (rw [if_neg (by omega)] at hQ; exact hQ)
  · refine go_iconst dX9_isContextSign_15 ⟨by decide, by decide⟩ ?_
    refine go_goto (tgt := 20) dX9_isContextSign_16 (by decide) ?_
    refine go_zreturn dX9_isContextSign_20 rfl (by first | exact Or.inl rfl | exact Or.inr rfl) ?_
    first | (rw [if_pos (by omega)] at hQ; exact hQ) | (rw [if_neg (by omega)] at hQ; exact hQ)

set_option maxHeartbeats 4000000 in
set_option maxRecDepth 100000 in
theorem lp_count {x : mX} {h : mH} {Q : Int → mH → Prop} {j x1 y1 z1 s : Int} {a : Ab} (H : LpS h a) (ok : AbOk a) (hQ : Q (sp_count j x1 y1 z1 s a) h) : CtI x mtX9_count [xR 0, xI j, xI x1, xI y1, xI z1, xI s] h Q := by
  obtain ⟨R, P, Z, ⟨nx, D⟩, E, F⟩ := id H
  refine ct_go (ls := [xR 0, xI j, xI x1, xI y1, xI z1, xI s, xU]) (by decide +kernel) (Nat.le_of_ble_eq_true rfl) rfl ?_
  have hPr := ok.2.1.1
  obtain ⟨w1, w2, w3⟩ := hPr
  by_cases b0 : j < 0
  · have e9 : sp_count j x1 y1 z1 s a = -1 := by unfold sp_count; rw [if_neg (by unfold okC; omega)]
    rw [e9] at hQ
    refine go_iload_n dX9_count_0 rfl ?_
    refine go_if_lt_t (tgt := 26) dX9_count_1 (by decide) (b0) ?_
    refine go_iconst dX9_count_26 ⟨by decide, by decide⟩ ?_
    refine go_ireturn dX9_count_27 rfl ?_
    exact hQ
  · by_cases b1 : a.2.1.1 < j
    · have e9 : sp_count j x1 y1 z1 s a = -1 := by unfold sp_count; rw [if_neg (by unfold okC; omega)]
      rw [e9] at hQ
      refine go_iload_n dX9_count_0 rfl ?_
      refine go_if_lt_f (tgt := 26) dX9_count_1 (by decide) (by omega) ?_
      refine go_iload_n dX9_count_4 rfl ?_
      refine go_aload_n dX9_count_5 rfl ?_
      refine gfX9_now rfl flX9_21 dX9_count_6 ?_
      refine gfX3_past rfl flX9_77 dX9_count_9 ?_
      refine gfX4_order rfl flX9_116 dX9_count_12 ?_
      refine go_icmp_gt_t (tgt := 26) dX9_count_15 (by decide) (by rw [P.1.1]; omega) ?_
      refine go_iconst dX9_count_26 ⟨by decide, by decide⟩ ?_
      refine go_ireturn dX9_count_27 rfl ?_
      exact hQ
    · rcases (show j = 0 ∨ j = 1 ∨ j = 2 ∨ j = 3 by omega) with rfl | rfl | rfl | rfl
      · refine go_iload_n dX9_count_0 rfl ?_
        refine go_if_lt_f (tgt := 26) dX9_count_1 (by decide) (by decide) ?_
        refine go_iload_n dX9_count_4 rfl ?_
        refine go_aload_n dX9_count_5 rfl ?_
        refine gfX9_now rfl flX9_21 dX9_count_6 ?_
        refine gfX3_past rfl flX9_77 dX9_count_9 ?_
        refine gfX4_order rfl flX9_116 dX9_count_12 ?_
        refine go_icmp_gt_f (tgt := 26) dX9_count_15 (by decide) (by rw [P.1.1]; omega) ?_
        refine go_iload dX9_count_18 rfl ?_
        refine go_cS1I slX9_94 dX9_count_20 (by decide) (Nat.le_of_ble_eq_true rfl) (lp_isSign ?_)
        refine go_if_ne (tgt := 28) dX9_count_23 (by decide) (fun c23 => ?_) (fun c23 => ?_)
        · refine go_iload_n dX9_count_28 rfl ?_
          refine go_iload_n dX9_count_29 rfl ?_
          refine go_if_le_t (tgt := 37) dX9_count_30 (by decide) (by decide) ?_
          refine go_iconst dX9_count_37 ⟨by decide, by decide⟩ ?_
          refine go_cS2I slX9_119 dX9_count_38 (by decide) (Nat.le_of_ble_eq_true rfl) (lp_isCS0 ?_)
          refine go_if_eq (tgt := 79) dX9_count_41 (by decide) (fun c41 => ?_) (fun c41 => ?_)
          · refine go_iconst dX9_count_79 ⟨by decide, by decide⟩ ?_
            refine go_ireturn dX9_count_80 rfl ?_
            first
              | (have q := if01 c41
                 have e9 : sp_count 0 x1 y1 z1 s a = -1 := by (unfold sp_count; rw [if_neg (by unfold okC; omega)])
                 rw [e9] at hQ; exact hQ)
              | (have q := if01 c58
                 have e9 : sp_count 0 x1 y1 z1 s a = -1 := by (unfold sp_count; rw [if_neg (by unfold okC; omega)])
                 rw [e9] at hQ; exact hQ)
              | (have q := if01 c76
                 have e9 : sp_count 0 x1 y1 z1 s a = -1 := by (unfold sp_count; rw [if_neg (by unfold okC; omega)])
                 rw [e9] at hQ; exact hQ)
          · refine go_iload_n dX9_count_44 rfl ?_
            refine go_iload_n dX9_count_45 rfl ?_
            refine go_iconst dX9_count_46 ⟨by decide, by decide⟩ ?_
            refine go_icmp_le_t (tgt := 54) dX9_count_47 (by decide) (by decide) ?_
            refine go_iconst dX9_count_54 ⟨by decide, by decide⟩ ?_
            refine go_cS2I slX9_119 dX9_count_55 (by decide) (Nat.le_of_ble_eq_true rfl) (lp_isCS0 ?_)
            refine go_if_eq (tgt := 79) dX9_count_58 (by decide) (fun c58 => ?_) (fun c58 => ?_)
            · refine go_iconst dX9_count_79 ⟨by decide, by decide⟩ ?_
              refine go_ireturn dX9_count_80 rfl ?_
              first
                | (have q := if01 c41
                   have e9 : sp_count 0 x1 y1 z1 s a = -1 := by (unfold sp_count; rw [if_neg (by unfold okC; omega)])
                   rw [e9] at hQ; exact hQ)
                | (have q := if01 c58
                   have e9 : sp_count 0 x1 y1 z1 s a = -1 := by (unfold sp_count; rw [if_neg (by unfold okC; omega)])
                   rw [e9] at hQ; exact hQ)
                | (have q := if01 c76
                   have e9 : sp_count 0 x1 y1 z1 s a = -1 := by (unfold sp_count; rw [if_neg (by unfold okC; omega)])
                   rw [e9] at hQ; exact hQ)
            · refine go_iload dX9_count_61 rfl ?_
              refine go_iload_n dX9_count_63 rfl ?_
              refine go_iconst dX9_count_64 ⟨by decide, by decide⟩ ?_
              refine go_icmp_le_t (tgt := 72) dX9_count_65 (by decide) (by decide) ?_
              refine go_iconst dX9_count_72 ⟨by decide, by decide⟩ ?_
              refine go_cS2I slX9_119 dX9_count_73 (by decide) (Nat.le_of_ble_eq_true rfl) (lp_isCS0 ?_)
              refine go_if_ne (tgt := 81) dX9_count_76 (by decide) (fun c76 => ?_) (fun c76 => ?_)
              · have g1 := if10 c23
                have g2 := if10 c41
                have g3 := if10 c58
                have g4 := if10 c76
                refine go_iconst dX9_count_81 ⟨by decide, by decide⟩ ?_
                refine go_istore dX9_count_82 (Nat.le_of_ble_eq_true rfl) rfl (by dsimp only [List.set]) ?_
                refine go_iload_n dX9_count_84 rfl ?_
                refine go_if_le_t (tgt := 96) dX9_count_85 (by decide) (by decide) ?_
                refine go_iload_n dX9_count_96 rfl ?_
                refine go_iconst dX9_count_97 ⟨by decide, by decide⟩ ?_
                refine go_icmp_le_t (tgt := 109) dX9_count_98 (by decide) (by decide) ?_
                refine go_iload_n dX9_count_109 rfl ?_
                refine go_iconst dX9_count_110 ⟨by decide, by decide⟩ ?_
                refine go_icmp_le_t (tgt := 123) dX9_count_111 (by decide) (by decide) ?_
                refine go_aload_n dX9_count_123 rfl ?_
                refine gfX9_now rfl flX9_21 dX9_count_124 ?_
                refine gfX3_contexts rfl flX9_126 dX9_count_127 ?_
                refine go_iload dX9_count_130 rfl ?_
                refine go_iload dX9_count_132 rfl ?_
                refine go_cV2I rfl vlX9_130 dX9_count_134 (by decide) rfl rfl (by decide) (Nat.le_of_ble_eq_true rfl) (ctx_at pk3.2.2.1 (by omega) (by omega) (by omega) (by omega) ?_)
                rw [P.2.2.2.1.1]
                refine go_ireturn dX9_count_137 rfl ?_
                have e9 : sp_count 0 x1 y1 z1 s a = (pkn a).1 (4 * plC 0 x1 y1 z1 + s) := by unfold sp_count; rw [if_pos (by unfold okC; omega)]
                have e8 : plC 0 x1 y1 z1 = 0 := by unfold plC; rw [if_pos rfl]
                rw [e9, e8] at hQ; exact hQ
              · refine go_iconst dX9_count_79 ⟨by decide, by decide⟩ ?_
                refine go_ireturn dX9_count_80 rfl ?_
                first
                  | (have q := if01 c41
                     have e9 : sp_count 0 x1 y1 z1 s a = -1 := by (unfold sp_count; rw [if_neg (by unfold okC; omega)])
                     rw [e9] at hQ; exact hQ)
                  | (have q := if01 c58
                     have e9 : sp_count 0 x1 y1 z1 s a = -1 := by (unfold sp_count; rw [if_neg (by unfold okC; omega)])
                     rw [e9] at hQ; exact hQ)
                  | (have q := if01 c76
                     have e9 : sp_count 0 x1 y1 z1 s a = -1 := by (unfold sp_count; rw [if_neg (by unfold okC; omega)])
                     rw [e9] at hQ; exact hQ)
        · refine go_iconst dX9_count_26 ⟨by decide, by decide⟩ ?_
          refine go_ireturn dX9_count_27 rfl ?_
          have q := if01 c23
          have e9 : sp_count 0 x1 y1 z1 s a = -1 := by unfold sp_count; rw [if_neg (by unfold okC; omega)]
          rw [e9] at hQ; exact hQ
      · refine go_iload_n dX9_count_0 rfl ?_
        refine go_if_lt_f (tgt := 26) dX9_count_1 (by decide) (by decide) ?_
        refine go_iload_n dX9_count_4 rfl ?_
        refine go_aload_n dX9_count_5 rfl ?_
        refine gfX9_now rfl flX9_21 dX9_count_6 ?_
        refine gfX3_past rfl flX9_77 dX9_count_9 ?_
        refine gfX4_order rfl flX9_116 dX9_count_12 ?_
        refine go_icmp_gt_f (tgt := 26) dX9_count_15 (by decide) (by rw [P.1.1]; omega) ?_
        refine go_iload dX9_count_18 rfl ?_
        refine go_cS1I slX9_94 dX9_count_20 (by decide) (Nat.le_of_ble_eq_true rfl) (lp_isSign ?_)
        refine go_if_ne (tgt := 28) dX9_count_23 (by decide) (fun c23 => ?_) (fun c23 => ?_)
        · refine go_iload_n dX9_count_28 rfl ?_
          refine go_iload_n dX9_count_29 rfl ?_
          refine go_if_le_f (tgt := 37) dX9_count_30 (by decide) (by decide) ?_
          refine go_iconst dX9_count_33 ⟨by decide, by decide⟩ ?_
          refine go_goto (tgt := 38) dX9_count_34 (by decide) ?_
          refine go_cS2I slX9_119 dX9_count_38 (by decide) (Nat.le_of_ble_eq_true rfl) (lp_isCS1 ?_)
          refine go_if_eq (tgt := 79) dX9_count_41 (by decide) (fun c41 => ?_) (fun c41 => ?_)
          · refine go_iconst dX9_count_79 ⟨by decide, by decide⟩ ?_
            refine go_ireturn dX9_count_80 rfl ?_
            first
              | (have q := if01 c41
                 have e9 : sp_count 1 x1 y1 z1 s a = -1 := by (unfold sp_count; rw [if_neg (by unfold okC; omega)])
                 rw [e9] at hQ; exact hQ)
              | (have q := if01 c58
                 have e9 : sp_count 1 x1 y1 z1 s a = -1 := by (unfold sp_count; rw [if_neg (by unfold okC; omega)])
                 rw [e9] at hQ; exact hQ)
              | (have q := if01 c76
                 have e9 : sp_count 1 x1 y1 z1 s a = -1 := by (unfold sp_count; rw [if_neg (by unfold okC; omega)])
                 rw [e9] at hQ; exact hQ)
          · refine go_iload_n dX9_count_44 rfl ?_
            refine go_iload_n dX9_count_45 rfl ?_
            refine go_iconst dX9_count_46 ⟨by decide, by decide⟩ ?_
            refine go_icmp_le_t (tgt := 54) dX9_count_47 (by decide) (by decide) ?_
            refine go_iconst dX9_count_54 ⟨by decide, by decide⟩ ?_
            refine go_cS2I slX9_119 dX9_count_55 (by decide) (Nat.le_of_ble_eq_true rfl) (lp_isCS0 ?_)
            refine go_if_eq (tgt := 79) dX9_count_58 (by decide) (fun c58 => ?_) (fun c58 => ?_)
            · refine go_iconst dX9_count_79 ⟨by decide, by decide⟩ ?_
              refine go_ireturn dX9_count_80 rfl ?_
              first
                | (have q := if01 c41
                   have e9 : sp_count 1 x1 y1 z1 s a = -1 := by (unfold sp_count; rw [if_neg (by unfold okC; omega)])
                   rw [e9] at hQ; exact hQ)
                | (have q := if01 c58
                   have e9 : sp_count 1 x1 y1 z1 s a = -1 := by (unfold sp_count; rw [if_neg (by unfold okC; omega)])
                   rw [e9] at hQ; exact hQ)
                | (have q := if01 c76
                   have e9 : sp_count 1 x1 y1 z1 s a = -1 := by (unfold sp_count; rw [if_neg (by unfold okC; omega)])
                   rw [e9] at hQ; exact hQ)
            · refine go_iload dX9_count_61 rfl ?_
              refine go_iload_n dX9_count_63 rfl ?_
              refine go_iconst dX9_count_64 ⟨by decide, by decide⟩ ?_
              refine go_icmp_le_t (tgt := 72) dX9_count_65 (by decide) (by decide) ?_
              refine go_iconst dX9_count_72 ⟨by decide, by decide⟩ ?_
              refine go_cS2I slX9_119 dX9_count_73 (by decide) (Nat.le_of_ble_eq_true rfl) (lp_isCS0 ?_)
              refine go_if_ne (tgt := 81) dX9_count_76 (by decide) (fun c76 => ?_) (fun c76 => ?_)
              · have g1 := if10 c23
                have g2 := if10 c41
                have g3 := if10 c58
                have g4 := if10 c76
                refine go_iconst dX9_count_81 ⟨by decide, by decide⟩ ?_
                refine go_istore dX9_count_82 (Nat.le_of_ble_eq_true rfl) rfl (by dsimp only [List.set]) ?_
                refine go_iload_n dX9_count_84 rfl ?_
                refine go_if_le_f (tgt := 96) dX9_count_85 (by decide) (by decide) ?_
                refine go_iload dX9_count_88 rfl ?_
                refine go_iload_n dX9_count_90 rfl ?_
                refine go_cS2I slX9_123 dX9_count_91 (by decide) (Nat.le_of_ble_eq_true rfl) (lp_longer (by omega) (by omega) (by omega) (by omega) ?_)
                refine go_istore dX9_count_94 (Nat.le_of_ble_eq_true rfl) rfl (by dsimp only [List.set]) ?_
                refine go_iload_n dX9_count_96 rfl ?_
                refine go_iconst dX9_count_97 ⟨by decide, by decide⟩ ?_
                refine go_icmp_le_t (tgt := 109) dX9_count_98 (by decide) (by decide) ?_
                refine go_iload_n dX9_count_109 rfl ?_
                refine go_iconst dX9_count_110 ⟨by decide, by decide⟩ ?_
                refine go_icmp_le_t (tgt := 123) dX9_count_111 (by decide) (by decide) ?_
                refine go_aload_n dX9_count_123 rfl ?_
                refine gfX9_now rfl flX9_21 dX9_count_124 ?_
                refine gfX3_contexts rfl flX9_126 dX9_count_127 ?_
                refine go_iload dX9_count_130 rfl ?_
                refine go_iload dX9_count_132 rfl ?_
                refine go_cV2I rfl vlX9_130 dX9_count_134 (by decide) rfl rfl (by decide) (Nat.le_of_ble_eq_true rfl) (ctx_at pk3.2.2.1 (by omega) (by omega) (by omega) (by omega) ?_)
                rw [P.2.2.2.1.1]
                refine go_ireturn dX9_count_137 rfl ?_
                have e9 : sp_count 1 x1 y1 z1 s a = (pkn a).1 (4 * plC 1 x1 y1 z1 + s) := by unfold sp_count; rw [if_pos (by unfold okC; omega)]
                have e8 : plC 1 x1 y1 z1 = 4 * 0 + 1 + x1 := by unfold plC; rw [if_neg (by decide), if_pos rfl]; omega
                rw [e9, e8] at hQ; exact hQ
              · refine go_iconst dX9_count_79 ⟨by decide, by decide⟩ ?_
                refine go_ireturn dX9_count_80 rfl ?_
                first
                  | (have q := if01 c41
                     have e9 : sp_count 1 x1 y1 z1 s a = -1 := by (unfold sp_count; rw [if_neg (by unfold okC; omega)])
                     rw [e9] at hQ; exact hQ)
                  | (have q := if01 c58
                     have e9 : sp_count 1 x1 y1 z1 s a = -1 := by (unfold sp_count; rw [if_neg (by unfold okC; omega)])
                     rw [e9] at hQ; exact hQ)
                  | (have q := if01 c76
                     have e9 : sp_count 1 x1 y1 z1 s a = -1 := by (unfold sp_count; rw [if_neg (by unfold okC; omega)])
                     rw [e9] at hQ; exact hQ)
        · refine go_iconst dX9_count_26 ⟨by decide, by decide⟩ ?_
          refine go_ireturn dX9_count_27 rfl ?_
          have q := if01 c23
          have e9 : sp_count 1 x1 y1 z1 s a = -1 := by unfold sp_count; rw [if_neg (by unfold okC; omega)]
          rw [e9] at hQ; exact hQ
      · refine go_iload_n dX9_count_0 rfl ?_
        refine go_if_lt_f (tgt := 26) dX9_count_1 (by decide) (by decide) ?_
        refine go_iload_n dX9_count_4 rfl ?_
        refine go_aload_n dX9_count_5 rfl ?_
        refine gfX9_now rfl flX9_21 dX9_count_6 ?_
        refine gfX3_past rfl flX9_77 dX9_count_9 ?_
        refine gfX4_order rfl flX9_116 dX9_count_12 ?_
        refine go_icmp_gt_f (tgt := 26) dX9_count_15 (by decide) (by rw [P.1.1]; omega) ?_
        refine go_iload dX9_count_18 rfl ?_
        refine go_cS1I slX9_94 dX9_count_20 (by decide) (Nat.le_of_ble_eq_true rfl) (lp_isSign ?_)
        refine go_if_ne (tgt := 28) dX9_count_23 (by decide) (fun c23 => ?_) (fun c23 => ?_)
        · refine go_iload_n dX9_count_28 rfl ?_
          refine go_iload_n dX9_count_29 rfl ?_
          refine go_if_le_f (tgt := 37) dX9_count_30 (by decide) (by decide) ?_
          refine go_iconst dX9_count_33 ⟨by decide, by decide⟩ ?_
          refine go_goto (tgt := 38) dX9_count_34 (by decide) ?_
          refine go_cS2I slX9_119 dX9_count_38 (by decide) (Nat.le_of_ble_eq_true rfl) (lp_isCS1 ?_)
          refine go_if_eq (tgt := 79) dX9_count_41 (by decide) (fun c41 => ?_) (fun c41 => ?_)
          · refine go_iconst dX9_count_79 ⟨by decide, by decide⟩ ?_
            refine go_ireturn dX9_count_80 rfl ?_
            first
              | (have q := if01 c41
                 have e9 : sp_count 2 x1 y1 z1 s a = -1 := by (unfold sp_count; rw [if_neg (by unfold okC; omega)])
                 rw [e9] at hQ; exact hQ)
              | (have q := if01 c58
                 have e9 : sp_count 2 x1 y1 z1 s a = -1 := by (unfold sp_count; rw [if_neg (by unfold okC; omega)])
                 rw [e9] at hQ; exact hQ)
              | (have q := if01 c76
                 have e9 : sp_count 2 x1 y1 z1 s a = -1 := by (unfold sp_count; rw [if_neg (by unfold okC; omega)])
                 rw [e9] at hQ; exact hQ)
          · refine go_iload_n dX9_count_44 rfl ?_
            refine go_iload_n dX9_count_45 rfl ?_
            refine go_iconst dX9_count_46 ⟨by decide, by decide⟩ ?_
            refine go_icmp_le_f (tgt := 54) dX9_count_47 (by decide) (by decide) ?_
            refine go_iconst dX9_count_50 ⟨by decide, by decide⟩ ?_
            refine go_goto (tgt := 55) dX9_count_51 (by decide) ?_
            refine go_cS2I slX9_119 dX9_count_55 (by decide) (Nat.le_of_ble_eq_true rfl) (lp_isCS1 ?_)
            refine go_if_eq (tgt := 79) dX9_count_58 (by decide) (fun c58 => ?_) (fun c58 => ?_)
            · refine go_iconst dX9_count_79 ⟨by decide, by decide⟩ ?_
              refine go_ireturn dX9_count_80 rfl ?_
              first
                | (have q := if01 c41
                   have e9 : sp_count 2 x1 y1 z1 s a = -1 := by (unfold sp_count; rw [if_neg (by unfold okC; omega)])
                   rw [e9] at hQ; exact hQ)
                | (have q := if01 c58
                   have e9 : sp_count 2 x1 y1 z1 s a = -1 := by (unfold sp_count; rw [if_neg (by unfold okC; omega)])
                   rw [e9] at hQ; exact hQ)
                | (have q := if01 c76
                   have e9 : sp_count 2 x1 y1 z1 s a = -1 := by (unfold sp_count; rw [if_neg (by unfold okC; omega)])
                   rw [e9] at hQ; exact hQ)
            · refine go_iload dX9_count_61 rfl ?_
              refine go_iload_n dX9_count_63 rfl ?_
              refine go_iconst dX9_count_64 ⟨by decide, by decide⟩ ?_
              refine go_icmp_le_t (tgt := 72) dX9_count_65 (by decide) (by decide) ?_
              refine go_iconst dX9_count_72 ⟨by decide, by decide⟩ ?_
              refine go_cS2I slX9_119 dX9_count_73 (by decide) (Nat.le_of_ble_eq_true rfl) (lp_isCS0 ?_)
              refine go_if_ne (tgt := 81) dX9_count_76 (by decide) (fun c76 => ?_) (fun c76 => ?_)
              · have g1 := if10 c23
                have g2 := if10 c41
                have g3 := if10 c58
                have g4 := if10 c76
                refine go_iconst dX9_count_81 ⟨by decide, by decide⟩ ?_
                refine go_istore dX9_count_82 (Nat.le_of_ble_eq_true rfl) rfl (by dsimp only [List.set]) ?_
                refine go_iload_n dX9_count_84 rfl ?_
                refine go_if_le_f (tgt := 96) dX9_count_85 (by decide) (by decide) ?_
                refine go_iload dX9_count_88 rfl ?_
                refine go_iload_n dX9_count_90 rfl ?_
                refine go_cS2I slX9_123 dX9_count_91 (by decide) (Nat.le_of_ble_eq_true rfl) (lp_longer (by omega) (by omega) (by omega) (by omega) ?_)
                refine go_istore dX9_count_94 (Nat.le_of_ble_eq_true rfl) rfl (by dsimp only [List.set]) ?_
                refine go_iload_n dX9_count_96 rfl ?_
                refine go_iconst dX9_count_97 ⟨by decide, by decide⟩ ?_
                refine go_icmp_le_f (tgt := 109) dX9_count_98 (by decide) (by decide) ?_
                refine go_iload dX9_count_101 rfl ?_
                refine go_iload_n dX9_count_103 rfl ?_
                refine go_cS2I slX9_123 dX9_count_104 (by decide) (Nat.le_of_ble_eq_true rfl) (lp_longer (by omega) (by omega) (by omega) (by omega) ?_)
                refine go_istore dX9_count_107 (Nat.le_of_ble_eq_true rfl) rfl (by dsimp only [List.set]) ?_
                refine go_iload_n dX9_count_109 rfl ?_
                refine go_iconst dX9_count_110 ⟨by decide, by decide⟩ ?_
                refine go_icmp_le_t (tgt := 123) dX9_count_111 (by decide) (by decide) ?_
                refine go_aload_n dX9_count_123 rfl ?_
                refine gfX9_now rfl flX9_21 dX9_count_124 ?_
                refine gfX3_contexts rfl flX9_126 dX9_count_127 ?_
                refine go_iload dX9_count_130 rfl ?_
                refine go_iload dX9_count_132 rfl ?_
                refine go_cV2I rfl vlX9_130 dX9_count_134 (by decide) rfl rfl (by decide) (Nat.le_of_ble_eq_true rfl) (ctx_at pk3.2.2.1 (by omega) (by omega) (by omega) (by omega) ?_)
                rw [P.2.2.2.1.1]
                refine go_ireturn dX9_count_137 rfl ?_
                have e9 : sp_count 2 x1 y1 z1 s a = (pkn a).1 (4 * plC 2 x1 y1 z1 + s) := by unfold sp_count; rw [if_pos (by unfold okC; omega)]
                have e8 : plC 2 x1 y1 z1 = 4 * (4 * 0 + 1 + x1) + 1 + y1 := by unfold plC; rw [if_neg (by decide), if_neg (by decide), if_pos rfl]; omega
                rw [e9, e8] at hQ; exact hQ
              · refine go_iconst dX9_count_79 ⟨by decide, by decide⟩ ?_
                refine go_ireturn dX9_count_80 rfl ?_
                first
                  | (have q := if01 c41
                     have e9 : sp_count 2 x1 y1 z1 s a = -1 := by (unfold sp_count; rw [if_neg (by unfold okC; omega)])
                     rw [e9] at hQ; exact hQ)
                  | (have q := if01 c58
                     have e9 : sp_count 2 x1 y1 z1 s a = -1 := by (unfold sp_count; rw [if_neg (by unfold okC; omega)])
                     rw [e9] at hQ; exact hQ)
                  | (have q := if01 c76
                     have e9 : sp_count 2 x1 y1 z1 s a = -1 := by (unfold sp_count; rw [if_neg (by unfold okC; omega)])
                     rw [e9] at hQ; exact hQ)
        · refine go_iconst dX9_count_26 ⟨by decide, by decide⟩ ?_
          refine go_ireturn dX9_count_27 rfl ?_
          have q := if01 c23
          have e9 : sp_count 2 x1 y1 z1 s a = -1 := by unfold sp_count; rw [if_neg (by unfold okC; omega)]
          rw [e9] at hQ; exact hQ
      · refine go_iload_n dX9_count_0 rfl ?_
        refine go_if_lt_f (tgt := 26) dX9_count_1 (by decide) (by decide) ?_
        refine go_iload_n dX9_count_4 rfl ?_
        refine go_aload_n dX9_count_5 rfl ?_
        refine gfX9_now rfl flX9_21 dX9_count_6 ?_
        refine gfX3_past rfl flX9_77 dX9_count_9 ?_
        refine gfX4_order rfl flX9_116 dX9_count_12 ?_
        refine go_icmp_gt_f (tgt := 26) dX9_count_15 (by decide) (by rw [P.1.1]; omega) ?_
        refine go_iload dX9_count_18 rfl ?_
        refine go_cS1I slX9_94 dX9_count_20 (by decide) (Nat.le_of_ble_eq_true rfl) (lp_isSign ?_)
        refine go_if_ne (tgt := 28) dX9_count_23 (by decide) (fun c23 => ?_) (fun c23 => ?_)
        · refine go_iload_n dX9_count_28 rfl ?_
          refine go_iload_n dX9_count_29 rfl ?_
          refine go_if_le_f (tgt := 37) dX9_count_30 (by decide) (by decide) ?_
          refine go_iconst dX9_count_33 ⟨by decide, by decide⟩ ?_
          refine go_goto (tgt := 38) dX9_count_34 (by decide) ?_
          refine go_cS2I slX9_119 dX9_count_38 (by decide) (Nat.le_of_ble_eq_true rfl) (lp_isCS1 ?_)
          refine go_if_eq (tgt := 79) dX9_count_41 (by decide) (fun c41 => ?_) (fun c41 => ?_)
          · refine go_iconst dX9_count_79 ⟨by decide, by decide⟩ ?_
            refine go_ireturn dX9_count_80 rfl ?_
            first
              | (have q := if01 c41
                 have e9 : sp_count 3 x1 y1 z1 s a = -1 := by (unfold sp_count; rw [if_neg (by unfold okC; omega)])
                 rw [e9] at hQ; exact hQ)
              | (have q := if01 c58
                 have e9 : sp_count 3 x1 y1 z1 s a = -1 := by (unfold sp_count; rw [if_neg (by unfold okC; omega)])
                 rw [e9] at hQ; exact hQ)
              | (have q := if01 c76
                 have e9 : sp_count 3 x1 y1 z1 s a = -1 := by (unfold sp_count; rw [if_neg (by unfold okC; omega)])
                 rw [e9] at hQ; exact hQ)
          · refine go_iload_n dX9_count_44 rfl ?_
            refine go_iload_n dX9_count_45 rfl ?_
            refine go_iconst dX9_count_46 ⟨by decide, by decide⟩ ?_
            refine go_icmp_le_f (tgt := 54) dX9_count_47 (by decide) (by decide) ?_
            refine go_iconst dX9_count_50 ⟨by decide, by decide⟩ ?_
            refine go_goto (tgt := 55) dX9_count_51 (by decide) ?_
            refine go_cS2I slX9_119 dX9_count_55 (by decide) (Nat.le_of_ble_eq_true rfl) (lp_isCS1 ?_)
            refine go_if_eq (tgt := 79) dX9_count_58 (by decide) (fun c58 => ?_) (fun c58 => ?_)
            · refine go_iconst dX9_count_79 ⟨by decide, by decide⟩ ?_
              refine go_ireturn dX9_count_80 rfl ?_
              first
                | (have q := if01 c41
                   have e9 : sp_count 3 x1 y1 z1 s a = -1 := by (unfold sp_count; rw [if_neg (by unfold okC; omega)])
                   rw [e9] at hQ; exact hQ)
                | (have q := if01 c58
                   have e9 : sp_count 3 x1 y1 z1 s a = -1 := by (unfold sp_count; rw [if_neg (by unfold okC; omega)])
                   rw [e9] at hQ; exact hQ)
                | (have q := if01 c76
                   have e9 : sp_count 3 x1 y1 z1 s a = -1 := by (unfold sp_count; rw [if_neg (by unfold okC; omega)])
                   rw [e9] at hQ; exact hQ)
            · refine go_iload dX9_count_61 rfl ?_
              refine go_iload_n dX9_count_63 rfl ?_
              refine go_iconst dX9_count_64 ⟨by decide, by decide⟩ ?_
              refine go_icmp_le_f (tgt := 72) dX9_count_65 (by decide) (by decide) ?_
              refine go_iconst dX9_count_68 ⟨by decide, by decide⟩ ?_
              refine go_goto (tgt := 73) dX9_count_69 (by decide) ?_
              refine go_cS2I slX9_119 dX9_count_73 (by decide) (Nat.le_of_ble_eq_true rfl) (lp_isCS1 ?_)
              refine go_if_ne (tgt := 81) dX9_count_76 (by decide) (fun c76 => ?_) (fun c76 => ?_)
              · have g1 := if10 c23
                have g2 := if10 c41
                have g3 := if10 c58
                have g4 := if10 c76
                refine go_iconst dX9_count_81 ⟨by decide, by decide⟩ ?_
                refine go_istore dX9_count_82 (Nat.le_of_ble_eq_true rfl) rfl (by dsimp only [List.set]) ?_
                refine go_iload_n dX9_count_84 rfl ?_
                refine go_if_le_f (tgt := 96) dX9_count_85 (by decide) (by decide) ?_
                refine go_iload dX9_count_88 rfl ?_
                refine go_iload_n dX9_count_90 rfl ?_
                refine go_cS2I slX9_123 dX9_count_91 (by decide) (Nat.le_of_ble_eq_true rfl) (lp_longer (by omega) (by omega) (by omega) (by omega) ?_)
                refine go_istore dX9_count_94 (Nat.le_of_ble_eq_true rfl) rfl (by dsimp only [List.set]) ?_
                refine go_iload_n dX9_count_96 rfl ?_
                refine go_iconst dX9_count_97 ⟨by decide, by decide⟩ ?_
                refine go_icmp_le_f (tgt := 109) dX9_count_98 (by decide) (by decide) ?_
                refine go_iload dX9_count_101 rfl ?_
                refine go_iload_n dX9_count_103 rfl ?_
                refine go_cS2I slX9_123 dX9_count_104 (by decide) (Nat.le_of_ble_eq_true rfl) (lp_longer (by omega) (by omega) (by omega) (by omega) ?_)
                refine go_istore dX9_count_107 (Nat.le_of_ble_eq_true rfl) rfl (by dsimp only [List.set]) ?_
                refine go_iload_n dX9_count_109 rfl ?_
                refine go_iconst dX9_count_110 ⟨by decide, by decide⟩ ?_
                refine go_icmp_le_f (tgt := 123) dX9_count_111 (by decide) (by decide) ?_
                refine go_iload dX9_count_114 rfl ?_
                refine go_iload dX9_count_116 rfl ?_
                refine go_cS2I slX9_123 dX9_count_118 (by decide) (Nat.le_of_ble_eq_true rfl) (lp_longer (by omega) (by omega) (by omega) (by omega) ?_)
                refine go_istore dX9_count_121 (Nat.le_of_ble_eq_true rfl) rfl (by dsimp only [List.set]) ?_
                refine go_aload_n dX9_count_123 rfl ?_
                refine gfX9_now rfl flX9_21 dX9_count_124 ?_
                refine gfX3_contexts rfl flX9_126 dX9_count_127 ?_
                refine go_iload dX9_count_130 rfl ?_
                refine go_iload dX9_count_132 rfl ?_
                refine go_cV2I rfl vlX9_130 dX9_count_134 (by decide) rfl rfl (by decide) (Nat.le_of_ble_eq_true rfl) (ctx_at pk3.2.2.1 (by omega) (by omega) (by omega) (by omega) ?_)
                rw [P.2.2.2.1.1]
                refine go_ireturn dX9_count_137 rfl ?_
                have e9 : sp_count 3 x1 y1 z1 s a = (pkn a).1 (4 * plC 3 x1 y1 z1 + s) := by unfold sp_count; rw [if_pos (by unfold okC; omega)]
                have e8 : plC 3 x1 y1 z1 = 4 * (4 * (4 * 0 + 1 + x1) + 1 + y1) + 1 + z1 := by unfold plC; rw [if_neg (by decide), if_neg (by decide), if_neg (by decide)]; omega
                rw [e9, e8] at hQ; exact hQ
              · refine go_iconst dX9_count_79 ⟨by decide, by decide⟩ ?_
                refine go_ireturn dX9_count_80 rfl ?_
                first
                  | (have q := if01 c41
                     have e9 : sp_count 3 x1 y1 z1 s a = -1 := by (unfold sp_count; rw [if_neg (by unfold okC; omega)])
                     rw [e9] at hQ; exact hQ)
                  | (have q := if01 c58
                     have e9 : sp_count 3 x1 y1 z1 s a = -1 := by (unfold sp_count; rw [if_neg (by unfold okC; omega)])
                     rw [e9] at hQ; exact hQ)
                  | (have q := if01 c76
                     have e9 : sp_count 3 x1 y1 z1 s a = -1 := by (unfold sp_count; rw [if_neg (by unfold okC; omega)])
                     rw [e9] at hQ; exact hQ)
        · refine go_iconst dX9_count_26 ⟨by decide, by decide⟩ ?_
          refine go_ireturn dX9_count_27 rfl ?_
          have q := if01 c23
          have e9 : sp_count 3 x1 y1 z1 s a = -1 := by unfold sp_count; rw [if_neg (by unfold okC; omega)]
          rw [e9] at hQ; exact hQ

def wga (a : Ab) (s : Nat) : Int × Nat × Od := wgh a.2.1.1 a.2.1.2.2.2.2 (pkn a).1 s
def sp_chance (s w : Int) (a : Ab) : Int := if ¬ (0 ≤ s ∧ s ≤ 3) ∨ ¬ (0 ≤ w ∧ w ≤ 1) then -1 else (if w = 0 then (wga a s.toNat).2.2.2.1 else (wga a s.toNat).2.2.2.2) / gI (wga a s.toNat).2.2.2.1 (wga a s.toNat).2.2.2.2
def sp_escapes (s w : Int) (a : Ab) : Int := if ¬ (0 ≤ s ∧ s ≤ 3) ∨ ¬ (0 ≤ w ∧ w ≤ 1) then -5 else if w = 0 then (wga a s.toNat).2.2.1 else (wga a s.toNat).1

set_option maxHeartbeats 4000000 in
set_option maxRecDepth 100000 in
theorem lp_chance {x : mX} {h : mH} {Q : Int → mH → Prop} {s w : Int} {a : Ab} (H : LpS h a) (ok : AbOk a) (hQ : ∀ h', LpS h' a → FrL h h' → Q (sp_chance s w a) h') : CtI x mtX9_chance [xR 0, xI s, xI w] h Q := by
  obtain ⟨R, P, Z, ⟨nx, D⟩, E, F⟩ := id H
  have okc : CsOk (pkn a).1 a.2.1.2.1 := (pck_inv ok.2.1.1 ok.2.1.2 _ (Nat.le_refl _)).1
  refine ct_go (ls := [xR 0, xI s, xI w]) (by decide +kernel) (Nat.le_of_ble_eq_true rfl) rfl ?_
  refine go_iload_n dX9_chance_0 rfl ?_
  refine go_cS1I slX9_94 dX9_chance_1 (by decide) (Nat.le_of_ble_eq_true rfl) (lp_isSign ?_)
  refine go_if_eq (tgt := 16) dX9_chance_4 (by decide) (fun c4 => ?_) (fun c4 => ?_)
  · refine go_iconst dX9_chance_16 ⟨by decide, by decide⟩ ?_
    refine go_ireturn dX9_chance_17 rfl ?_
    first
      | (have q := if01 c4
         have e9 : sp_chance s w a = -1 := by (unfold sp_chance; rw [if_pos (Or.inl q)])
         rw [e9] at hQ; exact hQ h H (fun _ _ => rfl))
      | (have q := if01 c13
         have e9 : sp_chance s w a = -1 := by (unfold sp_chance; rw [if_pos (Or.inr q)])
         rw [e9] at hQ; exact hQ h H (fun _ _ => rfl))
  · refine go_iload_n dX9_chance_7 rfl ?_
    refine go_iconst dX9_chance_8 ⟨by decide, by decide⟩ ?_
    refine go_iconst dX9_chance_9 ⟨by decide, by decide⟩ ?_
    refine go_cS3I slX9_73 dX9_chance_10 (by decide) (Nat.le_of_ble_eq_true rfl) (lp_isWithin ?_)
    refine go_if_ne (tgt := 18) dX9_chance_13 (by decide) (fun c13 => ?_) (fun c13 => ?_)
    · have g1 := if10 c4
      have g2 := if10 c13
      have wok := wgh_ok (s := s.toNat) ok.2.1.1 ok.2.1.2 okc (by omega)
      refine go_aload_n dX9_chance_18 rfl ?_
      refine gfX9_now rfl flX9_21 dX9_chance_19 ?_
      refine go_aload_n dX9_chance_22 rfl ?_
      refine gfX9_odds rfl flX9_31 dX9_chance_23 ?_
      refine go_iload_n dX9_chance_26 rfl ?_
      refine go_cV2I rfl vlX9_143 dX9_chance_27 (by decide) rfl rfl (by decide) (Nat.le_of_ble_eq_true rfl) (pk_weighs (o := a.2.1.1) (l := a.2.1.2.1) (r := a.2.1.2.2.1) (t := a.2.1.2.2.2.1) (T := a.2.1.2.2.2.2) (cs := (pkn a).1) pk3 od25 (by decide) ok.2.1.1 ok.2.1.2 P.1 P.2.1 P.2.2.1 P.2.2.2.1 okc g1.1 g1.2 ?_)
      intro h1 O1 F1 B1
      refine go_popI dX9_chance_30 ?_
      refine go_aload_n dX9_chance_31 rfl ?_
      refine gfX9_odds rfl flX9_31 dX9_chance_32 ?_
      refine go_iload_n dX9_chance_35 rfl ?_
      refine go_if_ne (tgt := 49) dX9_chance_36 (by decide) (fun c36 => ?_) (fun c36 => ?_)
      · refine go_aload_n dX9_chance_49 rfl ?_
        refine gfX9_odds rfl flX9_31 dX9_chance_50 ?_
        refine gfX2_lower rfl flX9_151 dX9_chance_53 ?_
        first | rw [O1.2.2.2] | skip
        refine go_cV1I rfl vlX9_154 dX9_chance_56 (by decide) rfl rfl (by decide) (Nat.le_of_ble_eq_true rfl) (od_least od25 O1 wok.2.1 wok.2.2.1 wok.2.2.2.1 wok.2.2.2.2.1 (by omega) (by omega) ?_)
        refine go_ireturn dX9_chance_59 rfl ?_
        have H1 : LpS h1 a := H.odds (fun i q1 q2 q3 q4 => F1 i q1 q2 q3 q4) B1
        have FL : FrL h h1 := fun i q => F1 i (by omega) (by omega) (by omega) (by omega)
        first
          | (have e9 : sp_chance s w a = (wga a s.toNat).2.2.2.1 / gI (wga a s.toNat).2.2.2.1 (wga a s.toNat).2.2.2.2 := by (unfold sp_chance; rw [if_neg (by omega), if_pos (by omega)])
             rw [e9] at hQ; exact hQ h1 H1 FL)
          | (have e9 : sp_chance s w a = (wga a s.toNat).2.2.2.2 / gI (wga a s.toNat).2.2.2.1 (wga a s.toNat).2.2.2.2 := by (unfold sp_chance; rw [if_neg (by omega), if_neg (by omega)])
             rw [e9] at hQ; exact hQ h1 H1 FL)
      · refine go_aload_n dX9_chance_39 rfl ?_
        refine gfX9_odds rfl flX9_31 dX9_chance_40 ?_
        refine gfX2_upper rfl flX9_147 dX9_chance_43 ?_
        rw [O1.2.2.1]
        refine go_goto (tgt := 56) dX9_chance_46 (by decide) ?_
        first | rw [O1.2.2.2] | skip
        refine go_cV1I rfl vlX9_154 dX9_chance_56 (by decide) rfl rfl (by decide) (Nat.le_of_ble_eq_true rfl) (od_least od25 O1 wok.2.1 wok.2.2.1 wok.2.2.2.1 wok.2.2.2.2.1 (by omega) (by omega) ?_)
        refine go_ireturn dX9_chance_59 rfl ?_
        have H1 : LpS h1 a := H.odds (fun i q1 q2 q3 q4 => F1 i q1 q2 q3 q4) B1
        have FL : FrL h h1 := fun i q => F1 i (by omega) (by omega) (by omega) (by omega)
        first
          | (have e9 : sp_chance s w a = (wga a s.toNat).2.2.2.1 / gI (wga a s.toNat).2.2.2.1 (wga a s.toNat).2.2.2.2 := by (unfold sp_chance; rw [if_neg (by omega), if_pos (by omega)])
             rw [e9] at hQ; exact hQ h1 H1 FL)
          | (have e9 : sp_chance s w a = (wga a s.toNat).2.2.2.2 / gI (wga a s.toNat).2.2.2.1 (wga a s.toNat).2.2.2.2 := by (unfold sp_chance; rw [if_neg (by omega), if_neg (by omega)])
             rw [e9] at hQ; exact hQ h1 H1 FL)
    · refine go_iconst dX9_chance_16 ⟨by decide, by decide⟩ ?_
      refine go_ireturn dX9_chance_17 rfl ?_
      first
        | (have q := if01 c4
           have e9 : sp_chance s w a = -1 := by (unfold sp_chance; rw [if_pos (Or.inl q)])
           rw [e9] at hQ; exact hQ h H (fun _ _ => rfl))
        | (have q := if01 c13
           have e9 : sp_chance s w a = -1 := by (unfold sp_chance; rw [if_pos (Or.inr q)])
           rw [e9] at hQ; exact hQ h H (fun _ _ => rfl))

set_option maxHeartbeats 4000000 in
set_option maxRecDepth 100000 in
theorem lp_escapes {x : mX} {h : mH} {Q : Int → mH → Prop} {s w : Int} {a : Ab} (H : LpS h a) (ok : AbOk a) (hQ : ∀ h', LpS h' a → FrL h h' → Q (sp_escapes s w a) h') : CtI x mtX9_escapes [xR 0, xI s, xI w] h Q := by
  obtain ⟨R, P, Z, ⟨nx, D⟩, E, F⟩ := id H
  have okc : CsOk (pkn a).1 a.2.1.2.1 := (pck_inv ok.2.1.1 ok.2.1.2 _ (Nat.le_refl _)).1
  refine ct_go (ls := [xR 0, xI s, xI w, xU]) (by decide +kernel) (Nat.le_of_ble_eq_true rfl) rfl ?_
  refine go_iload_n dX9_escapes_0 rfl ?_
  refine go_cS1I slX9_94 dX9_escapes_1 (by decide) (Nat.le_of_ble_eq_true rfl) (lp_isSign ?_)
  refine go_if_eq (tgt := 16) dX9_escapes_4 (by decide) (fun c4 => ?_) (fun c4 => ?_)
  · refine go_bipush dX9_escapes_16 (by decide +kernel) ⟨by decide, by decide⟩ ?_
    refine go_ireturn dX9_escapes_18 rfl ?_
    first
      | (have q := if01 c4
         have e9 : sp_escapes s w a = -5 := by (unfold sp_escapes; rw [if_pos (Or.inl q)])
         rw [e9] at hQ; exact hQ h H (fun _ _ => rfl))
      | (have q := if01 c13
         have e9 : sp_escapes s w a = -5 := by (unfold sp_escapes; rw [if_pos (Or.inr q)])
         rw [e9] at hQ; exact hQ h H (fun _ _ => rfl))
  · refine go_iload_n dX9_escapes_7 rfl ?_
    refine go_iconst dX9_escapes_8 ⟨by decide, by decide⟩ ?_
    refine go_iconst dX9_escapes_9 ⟨by decide, by decide⟩ ?_
    refine go_cS3I slX9_73 dX9_escapes_10 (by decide) (Nat.le_of_ble_eq_true rfl) (lp_isWithin ?_)
    refine go_if_ne (tgt := 19) dX9_escapes_13 (by decide) (fun c13 => ?_) (fun c13 => ?_)
    · have g1 := if10 c4
      have g2 := if10 c13
      refine go_aload_n dX9_escapes_19 rfl ?_
      refine gfX9_now rfl flX9_21 dX9_escapes_20 ?_
      refine go_aload_n dX9_escapes_23 rfl ?_
      refine gfX9_odds rfl flX9_31 dX9_escapes_24 ?_
      refine go_iload_n dX9_escapes_27 rfl ?_
      refine go_cV2I rfl vlX9_143 dX9_escapes_28 (by decide) rfl rfl (by decide) (Nat.le_of_ble_eq_true rfl) (pk_weighs (o := a.2.1.1) (l := a.2.1.2.1) (r := a.2.1.2.2.1) (t := a.2.1.2.2.2.1) (T := a.2.1.2.2.2.2) (cs := (pkn a).1) pk3 od25 (by decide) ok.2.1.1 ok.2.1.2 P.1 P.2.1 P.2.2.1 P.2.2.2.1 okc g1.1 g1.2 ?_)
      intro h1 O1 F1 B1
      refine go_istore_n 3 dX9_escapes_31 rfl (Nat.le_of_ble_eq_true rfl) rfl (by dsimp only [List.set]) ?_
      refine go_iload_n dX9_escapes_32 rfl ?_
      refine go_if_ne (tgt := 46) dX9_escapes_33 (by decide) (fun c33 => ?_) (fun c33 => ?_)
      · refine go_iload_n dX9_escapes_46 rfl ?_
        refine go_ireturn dX9_escapes_47 rfl ?_
        have H1 : LpS h1 a := H.odds (fun i q1 q2 q3 q4 => F1 i q1 q2 q3 q4) B1
        have FL : FrL h h1 := fun i q => F1 i (by omega) (by omega) (by omega) (by omega)
        first
          | (have e9 : sp_escapes s w a = (wga a s.toNat).2.2.1 := by (unfold sp_escapes; rw [if_neg (by omega), if_pos (by omega)])
             rw [e9] at hQ; exact hQ h1 H1 FL)
          | (have e9 : sp_escapes s w a = (wga a s.toNat).1 := by (unfold sp_escapes; rw [if_neg (by omega), if_neg (by omega)])
             rw [e9] at hQ; exact hQ h1 H1 FL)
      · refine go_aload_n dX9_escapes_36 rfl ?_
        refine gfX9_odds rfl flX9_31 dX9_escapes_37 ?_
        refine gfX2_escaped rfl flX9_158 dX9_escapes_40 ?_
        rw [O1.2.1]
        refine go_goto (tgt := 47) dX9_escapes_43 (by decide) ?_
        refine go_ireturn dX9_escapes_47 rfl ?_
        have H1 : LpS h1 a := H.odds (fun i q1 q2 q3 q4 => F1 i q1 q2 q3 q4) B1
        have FL : FrL h h1 := fun i q => F1 i (by omega) (by omega) (by omega) (by omega)
        first
          | (have e9 : sp_escapes s w a = (wga a s.toNat).2.2.1 := by (unfold sp_escapes; rw [if_neg (by omega), if_pos (by omega)])
             rw [e9] at hQ; exact hQ h1 H1 FL)
          | (have e9 : sp_escapes s w a = (wga a s.toNat).1 := by (unfold sp_escapes; rw [if_neg (by omega), if_neg (by omega)])
             rw [e9] at hQ; exact hQ h1 H1 FL)
    · refine go_bipush dX9_escapes_16 (by decide +kernel) ⟨by decide, by decide⟩ ?_
      refine go_ireturn dX9_escapes_18 rfl ?_
      first
        | (have q := if01 c4
           have e9 : sp_escapes s w a = -5 := by (unfold sp_escapes; rw [if_pos (Or.inl q)])
           rw [e9] at hQ; exact hQ h H (fun _ _ => rfl))
        | (have q := if01 c13
           have e9 : sp_escapes s w a = -5 := by (unfold sp_escapes; rw [if_pos (Or.inr q)])
           rw [e9] at hQ; exact hQ h H (fun _ _ => rfl))

def lkc (f : Nat → Int × Int) : Nat → Int × Int × Int
  | 0 => (0, 0, 1)
  | s + 1 => if (lkc f s).2.1 * (f s).2 < (f s).1 * (lkc f s).2.2 then ((s : Int), (f s).1, (f s).2) else lkc f s
def sp_likeliest (a : Ab) : Int := (lkc (fun s => ((wga a s).2.2.2.1, (wga a s).2.2.2.2)) 4).1
theorem lkc_bd {f : Nat → Int × Int} {B : Int} (hB : 1 ≤ B) : ∀ n : Nat, (∀ s, s < n → (1 ≤ (f s).1 ∧ (f s).1 ≤ B) ∧ 1 ≤ (f s).2 ∧ (f s).2 ≤ B) → (0 ≤ (lkc f n).2.1 ∧ (lkc f n).2.1 ≤ B) ∧ (1 ≤ (lkc f n).2.2 ∧ (lkc f n).2.2 ≤ B) ∧ 0 ≤ (lkc f n).1 ∧ (lkc f n).1 ≤ n
  | 0, _ => by simp [lkc]; omega
  | n + 1, h => by
    have ih := lkc_bd hB n (fun s hs => h s (by omega))
    have h1 := h n (by omega)
    rw [lkc]
    split
    · dsimp only; omega
    · omega
theorem inL_prod {a b : Int} (ha : 0 ≤ a) (ha2 : a ≤ 777600000) (hb : 0 ≤ b) (hb2 : b ≤ 777600000) : inL (a * b) := by
  have h1 : 0 ≤ a * b := Int.mul_nonneg ha hb
  have h2 : a * b ≤ 777600000 * 777600000 := Int.mul_le_mul ha2 hb2 hb (by decide)
  exact ⟨by omega, by omega⟩

set_option maxHeartbeats 4000000 in
set_option maxRecDepth 100000 in
theorem lp_likeliest {x : mX} {h : mH} {Q : Int → mH → Prop} {a : Ab} (H : LpS h a) (ok : AbOk a) (hQ : ∀ h', LpS h' a → FrL h h' → Q (sp_likeliest a) h') : CtI x mtX9_likeliest [xR 0] h Q := by
  obtain ⟨R, P, Z, ⟨nx, D⟩, E, F⟩ := id H
  have okc : CsOk (pkn a).1 a.2.1.2.1 := (pck_inv ok.2.1.1 ok.2.1.2 _ (Nat.le_refl _)).1
  unfold sp_likeliest at hQ
  obtain ⟨L, hL⟩ : ∃ L, lkc (fun s => ((wga a s).2.2.2.1, (wga a s).2.2.2.2)) = L := ⟨_, rfl⟩
  refine ct_go (ls := [xR 0, xU, xU, xU, xU, xU, xU]) (by decide +kernel) (Nat.le_of_ble_eq_true rfl) rfl ?_
  refine go_iconst dX9_likeliest_0 ⟨by decide, by decide⟩ ?_
  refine go_istore_n 1 dX9_likeliest_1 rfl (Nat.le_of_ble_eq_true rfl) rfl (by dsimp only [List.set]) ?_
  refine go_lconst (z := 0) dX9_likeliest_2 (by decide +kernel) ⟨by decide, by decide⟩ ?_
  refine go_lstore_n 2 dX9_likeliest_3 rfl (Nat.le_of_ble_eq_true rfl) rfl (by dsimp only [List.set]) ?_
  refine go_lconst (z := 1) dX9_likeliest_4 (by decide +kernel) ⟨by decide, by decide⟩ ?_
  refine go_lstore dX9_likeliest_5 (Nat.le_of_ble_eq_true rfl) rfl (by dsimp only [List.set]) ?_
  refine go_iconst dX9_likeliest_7 ⟨by decide, by decide⟩ ?_
  refine go_istore dX9_likeliest_8 (Nat.le_of_ble_eq_true rfl) rfl (by dsimp only [List.set]) ?_
  have key : Go x mtX9_likeliest 10 [xR 0, xI (L 0).1, xL (L 0).2.1, xU, xL (L 0).2.2, xU, xI ((0 : Nat) : Int)] [] h (qI Q) := by
    refine up_indN (P := fun n => ∀ hh : mH, LpS hh a → FrL h hh → Go x mtX9_likeliest 10 [xR 0, xI (L n).1, xL (L n).2.1, xU, xL (L n).2.2, xU, xI (n : Int)] [] hh (qI Q)) 4 (fun n hn ih hh HH FL => ?_) h H (fun _ _ => rfl)
    obtain ⟨_, PP, _⟩ := id HH
    have lb := lkc_bd (f := fun s => ((wga a s).2.2.2.1, (wga a s).2.2.2.2)) (B := 777600000) (by decide) n (fun s hs => by have z := wgh_ok (s := s) ok.2.1.1 ok.2.1.2 okc (by omega); exact ⟨⟨z.2.1, z.2.2.1⟩, z.2.2.2.1, z.2.2.2.2.1⟩)
    rw [hL] at lb
    by_cases hlt : n < 4
    · have wok := wgh_ok (s := n) ok.2.1.1 ok.2.1.2 okc (by omega)
      refine go_iload dX9_likeliest_10 rfl ?_
      refine go_iconst dX9_likeliest_12 ⟨by decide, by decide⟩ ?_
      refine go_icmp_ge_f (tgt := 79) dX9_likeliest_13 (by decide) (by omega) ?_
      refine go_aload_n dX9_likeliest_16 rfl ?_
      refine gfX9_now rfl flX9_21 dX9_likeliest_17 ?_
      refine go_aload_n dX9_likeliest_20 rfl ?_
      refine gfX9_odds rfl flX9_31 dX9_likeliest_21 ?_
      refine go_iload dX9_likeliest_24 rfl ?_
      refine go_cV2I rfl vlX9_143 dX9_likeliest_26 (by decide) rfl rfl (by decide) (Nat.le_of_ble_eq_true rfl) (pk_weighs (o := a.2.1.1) (l := a.2.1.2.1) (r := a.2.1.2.2.1) (t := a.2.1.2.2.2.1) (T := a.2.1.2.2.2.2) (cs := (pkn a).1) pk3 od25 (by decide) ok.2.1.1 ok.2.1.2 PP.1 PP.2.1 PP.2.2.1 PP.2.2.2.1 okc (by omega) (by omega) ?_)
      rw [Int.toNat_natCast]
      intro h1 O1 F1 B1
      have H1 : LpS h1 a := HH.odds (fun i q1 q2 q3 q4 => F1 i q1 q2 q3 q4) B1
      have FL1 : FrL h h1 := fun i q => (F1 i (by omega) (by omega) (by omega) (by omega)).trans (FL i q)
      refine go_popI dX9_likeliest_29 ?_
      refine go_aload_n dX9_likeliest_30 rfl ?_
      refine gfX9_odds rfl flX9_31 dX9_likeliest_31 ?_
      refine gfX2_upper rfl flX9_147 dX9_likeliest_34 ?_
      rw [O1.2.2.1]
      refine go_lload dX9_likeliest_37 rfl ?_
      refine go_lmul dX9_likeliest_39 (inL_prod (by omega) wok.2.2.1 (by omega) (by omega)) ?_
      refine go_lload_n dX9_likeliest_40 rfl ?_
      refine go_aload_n dX9_likeliest_41 rfl ?_
      refine gfX9_odds rfl flX9_31 dX9_likeliest_42 ?_
      refine gfX2_lower rfl flX9_151 dX9_likeliest_45 ?_
      rw [O1.2.2.2]
      refine go_lmul dX9_likeliest_48 (inL_prod (by omega) (by omega) (by omega) wok.2.2.2.2.1) ?_
      refine go_lcmp dX9_likeliest_49 rfl ?_
      refine go_if_le (tgt := 73) dX9_likeliest_50 (by decide) (fun c50 => ?_) (fun c50 => ?_)
      · refine go_iinc dX9_likeliest_73 rfl rfl rfl (by omega) (by omega) (by dsimp only [List.set]) ?_
        refine go_goto (tgt := 10) dX9_likeliest_76 (by decide) ?_
        first
          | (have eL : L (n + 1) = ((n : Int), (wga a n).2.2.2.1, (wga a n).2.2.2.2) := by (rw [← hL, lkc, if_pos (by rw [hL]; have q := c50; split at q <;> first | assumption | (split at q <;> omega))])
             have z := ih hlt h1 H1 FL1
             rw [eL] at z
             exact z)
          | (have eL : L (n + 1) = L n := by (rw [← hL, lkc, if_neg (by rw [hL]; intro q2; have q := c50; rw [if_pos (show (L n).2.1 * (wgh a.2.1.1 a.2.1.2.2.2.2 (pkn a).1 n).2.2.2.2 < (wgh a.2.1.1 a.2.1.2.2.2.2 (pkn a).1 n).2.2.2.1 * (L n).2.2 from q2)] at q; omega)])
             have z := ih hlt h1 H1 FL1
             rw [eL] at z
             exact z)
      · refine go_iload dX9_likeliest_53 rfl ?_
        refine go_istore_n 1 dX9_likeliest_55 rfl (Nat.le_of_ble_eq_true rfl) rfl (by dsimp only [List.set]) ?_
        refine go_aload_n dX9_likeliest_56 rfl ?_
        refine gfX9_odds rfl flX9_31 dX9_likeliest_57 ?_
        refine gfX2_upper rfl flX9_147 dX9_likeliest_60 ?_
        rw [O1.2.2.1]
        refine go_lstore_n 2 dX9_likeliest_63 rfl (Nat.le_of_ble_eq_true rfl) rfl (by dsimp only [List.set]) ?_
        refine go_aload_n dX9_likeliest_64 rfl ?_
        refine gfX9_odds rfl flX9_31 dX9_likeliest_65 ?_
        refine gfX2_lower rfl flX9_151 dX9_likeliest_68 ?_
        rw [O1.2.2.2]
        refine go_lstore dX9_likeliest_71 (Nat.le_of_ble_eq_true rfl) rfl (by dsimp only [List.set]) ?_
        refine go_iinc dX9_likeliest_73 rfl rfl rfl (by omega) (by omega) (by dsimp only [List.set]) ?_
        refine go_goto (tgt := 10) dX9_likeliest_76 (by decide) ?_
        first
          | (have eL : L (n + 1) = ((n : Int), (wga a n).2.2.2.1, (wga a n).2.2.2.2) := by (rw [← hL, lkc, if_pos (by rw [hL]; have q := c50; split at q <;> first | assumption | (split at q <;> omega))])
             have z := ih hlt h1 H1 FL1
             rw [eL] at z
             exact z)
          | (have eL : L (n + 1) = L n := by (rw [← hL, lkc, if_neg (by rw [hL]; intro q2; have q := c50; rw [if_pos (show (L n).2.1 * (wgh a.2.1.1 a.2.1.2.2.2.2 (pkn a).1 n).2.2.2.2 < (wgh a.2.1.1 a.2.1.2.2.2.2 (pkn a).1 n).2.2.2.1 * (L n).2.2 from q2)] at q; omega)])
             have z := ih hlt h1 H1 FL1
             rw [eL] at z
             exact z)
    · have hne : n = 4 := by omega
      subst hne
      refine go_iload dX9_likeliest_10 rfl ?_
      refine go_iconst dX9_likeliest_12 ⟨by decide, by decide⟩ ?_
      refine go_icmp_ge_t (tgt := 79) dX9_likeliest_13 (by decide) (by omega) ?_
      refine go_iload_n dX9_likeliest_79 rfl ?_
      refine go_ireturn dX9_likeliest_80 rfl ?_
      rw [← hL]
      exact hQ hh HH FL
  rw [← hL] at key
  exact key
