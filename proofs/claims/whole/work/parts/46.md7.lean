/-! ===== the model: learns ===== -/
/-- a sign laid behind the run -/
def ups (sg : Int → Int) (n s : Int) : Int → Int := fun k => if k = n then s else sg k

set_option maxHeartbeats 4000000 in
set_option maxRecDepth 100000 in
theorem md_learns {x : mX} {h : mH} {Q : mH → Prop} {o l r t n s f : Int} (hPr : PrOk o l r t) (e7 : h 52 7 = o) (e53 : h 53 1 = l) (e53r : h 53 2 = r) (e53t : h 53 3 = t) (e9 : h 52 9 = n) (e24 : h 52 24 = f) (hf : f ≤ lng o n) (ok : CsOk (h 59) l) (b0 : 0 ≤ h 52 11) (b1 : h 52 11 ≤ 1000) (hn0 : 0 ≤ n) (hn : n + 1 ≤ 60) (hsg : ∀ k : Int, 0 ≤ k → k < n → 0 ≤ h 58 k ∧ h 58 k ≤ 3) (hs : 0 ≤ s) (hs2 : s ≤ 3) (hQ : ∀ h', h' 58 = ups (h 58) n s → h' 59 = lst (ups (h 58) n s) (h 59) o l r t n s f → h' 52 9 = n + 1 → h' 52 11 = h 52 11 + lfg (ups (h 58) n s) (h 59) o l r n s f → (∀ i, i ≠ 52 → i ≠ 58 → i ≠ 59 → h' i = h i) → (∀ z, z ≠ 9 → z ≠ 11 → h' 52 z = h 52 z) → Q h') : CtV x mtX10_learns [xR 52, xI s] h Q := by
  obtain ⟨w1, w2, w3, w4, w5, w6, w7, w8⟩ := id hPr
  have hln := lng_le (o := o) (n := n) w1 hn0
  have hmx : (mx0 f : Int) = if f < 0 then 0 else f := by unfold mx0; split <;> omega
  have hml : mx0 f ≤ lng o n := by split at hmx <;> omega
  have okL : CsOk (lc1 (h 58) (h 59) o l n s f) l := csOk_lc1 ok w3 w1 w2 hn0 hs hs2 hsg
  have hlc : lc1 (ups (h 58) n s) (h 59) o l n s f = lc1 (h 58) (h 59) o l n s f := lc1_congr w1 hn0 (fun k q1 q2 => by unfold ups; rw [if_neg (by omega)])
  have hsg2 : ∀ k : Int, 0 ≤ k → k < n + 1 → 0 ≤ ups (h 58) n s k ∧ ups (h 58) n s k ≤ 3 := fun k q1 q2 => by
    unfold ups
    by_cases e : k = n
    · rw [if_pos e]; exact ⟨hs, hs2⟩
    · rw [if_neg e]; exact hsg k q1 (by omega)
  have htb := tas_bd (t := t) (n := n + 1) w7 (by omega)
  have htl := thC_bd (lc1 (h 58) (h 59) o l n s f) 85
  have key : Go x mtX10_learns 16 [xR 52, xI s, xI ((mx0 f + 0 : Nat) : Int)] [] h (qV Q) := by
    refine up_indN (P := fun m => ∀ hh : mH, hh 59 = lrn (fun j : Nat => cxp (h 58) (n - (j : Int)) j) s l (mx0 f) m (h 59) → (∀ i, i ≠ 59 → hh i = h i) → Go x mtX10_learns 16 [xR 52, xI s, xI ((mx0 f + m : Nat) : Int)] [] hh (qV Q)) (lng o n + 1 - mx0 f) (fun m hm ihm hh C1 F1 => ?_) h rfl (fun _ _ => rfl)
    have E7 : hh 52 7 = o := by rw [F1 52 (by decide)]; exact e7
    have E9 : hh 52 9 = n := by rw [F1 52 (by decide)]; exact e9
    by_cases hlt : m < lng o n + 1 - mx0 f
    · have hpl := cxp_bd (sg := h 58) (a := n - ((mx0 f + m : Nat) : Int)) (n := mx0 f + m) (by omega) (fun k q1 q2 => hsg k (by omega) (by omega))
      have ok2 : CsOk (lrn (fun j : Nat => cxp (h 58) (n - (j : Int)) j) s l (mx0 f) m (h 59)) l := csOk_lrn ok w3 hs hs2 m (fun i _ hi => cxp_bd (by omega) (fun k q1 q2 => hsg k (by omega) (by omega)))
      refine go_iload_n dX10_learns_16 rfl ?_
      refine go_aload_n dX10_learns_17 rfl ?_
      refine gfX10_order (by first | assumption | rfl) flX10_42 dX10_learns_18 ?_
      try simp (disch := decide) only [hset_eq, hset_nk, hset_ni, E7, E9]
      refine go_aload_n dX10_learns_21 rfl ?_
      refine gfX10_many (by first | assumption | rfl) flX10_49 dX10_learns_22 ?_
      try simp (disch := decide) only [hset_eq, hset_nk, hset_ni, E7, E9]
      refine go_cS2I slX10_126 dX10_learns_25 (by decide) (Nat.le_of_ble_eq_true rfl) (md_lesser ?_)
      refine go_icmp_gt_f (tgt := 51) dX10_learns_28 (by decide) (by rw [lng_m hPr.1 hn0]; omega) ?_
      refine go_aload_n dX10_learns_31 rfl ?_
      refine go_aload_n dX10_learns_32 rfl ?_
      refine go_iload_n dX10_learns_33 rfl ?_
      refine go_aload_n dX10_learns_34 rfl ?_
      refine gfX10_many (by first | assumption | rfl) flX10_49 dX10_learns_35 ?_
      try simp (disch := decide) only [hset_eq, hset_nk, hset_ni, E7, E9]
      refine go_cV2I (by first | assumption | rfl) vlX10_130 dX10_learns_38 (by decide) rfl rfl (by decide) (Nat.le_of_ble_eq_true rfl) (md_context (n := mx0 f + m) (a := n - ((mx0 f + m : Nat) : Int)) (by omega) (by omega) (by omega) (by omega) (fun k q1 q2 => by rw [F1 58 (by decide)]; exact hsg k (by omega) q2) ?_)
      rw [F1 58 (by decide)]
      refine go_iload_n dX10_learns_41 rfl ?_
      refine go_cV2V (by first | assumption | rfl) vlX10_142 dX10_learns_42 (by decide) rfl rfl (by decide) (Nat.le_of_ble_eq_true rfl) (md_adds (l := l) (by rw [C1]; exact ok2) w4 (by rw [F1 53 (by decide)]; exact e53) hpl.1 hpl.2 hs hs2 ?_)
      intro h4 C4 F4
      refine go_iinc dX10_learns_45 rfl rfl rfl (by omega) (by omega) (by dsimp only [List.set]) ?_
      refine go_goto (tgt := 16) dX10_learns_48 (by decide) ?_
      rw [show ((mx0 f + m : Nat) : Int) + 1 = ((mx0 f + (m + 1) : Nat) : Int) by omega]
      exact ihm hlt h4 (by rw [C4, C1]; rw [lrn]) (fun i q => by rw [F4 i q]; exact F1 i q)
    · have hie : m = lng o n + 1 - mx0 f := by omega
      subst hie
      have C1b : hh 59 = lc1 (h 58) (h 59) o l n s f := C1
      clear C1
      have C1 := C1b
      refine go_iload_n dX10_learns_16 rfl ?_
      refine go_aload_n dX10_learns_17 rfl ?_
      refine gfX10_order (by first | assumption | rfl) flX10_42 dX10_learns_18 ?_
      try simp (disch := decide) only [hset_eq, hset_nk, hset_ni, E7, E9]
      refine go_aload_n dX10_learns_21 rfl ?_
      refine gfX10_many (by first | assumption | rfl) flX10_49 dX10_learns_22 ?_
      try simp (disch := decide) only [hset_eq, hset_nk, hset_ni, E7, E9]
      refine go_cS2I slX10_126 dX10_learns_25 (by decide) (Nat.le_of_ble_eq_true rfl) (md_lesser ?_)
      refine go_icmp_gt_t (tgt := 51) dX10_learns_28 (by decide) (by rw [lng_m hPr.1 hn0]; omega) ?_
      refine go_aload_n dX10_learns_51 rfl ?_
      refine gfX10_run (by first | assumption | rfl) flX10_26 dX10_learns_52 ?_
      refine go_aload_n dX10_learns_55 rfl ?_
      refine gfX10_many (by first | assumption | rfl) flX10_49 dX10_learns_56 ?_
      try simp (disch := decide) only [hset_eq, hset_nk, hset_ni, E7, E9]
      refine go_iload_n dX10_learns_59 rfl ?_
      refine go_iastore (by first | assumption | rfl) dX10_learns_60 (by omega) (by show n < 60; omega) ?_
      refine go_aload_n dX10_learns_61 rfl ?_
      first | refine go_dupR dX10_learns_62 ?_ | refine go_dupI dX10_learns_62 ?_
      refine gfX10_many (by first | assumption | rfl) flX10_49 dX10_learns_63 ?_
      try simp (disch := decide) only [hset_eq, hset_nk, hset_ni, E7, E9]
      refine go_iconst dX10_learns_66 ⟨by decide, by decide⟩ ?_
      refine go_iadd dX10_learns_67 (by omega) (by omega) ?_
      refine pfX10_many (by first | assumption | rfl) flX10_49 dX10_learns_68 ?_
      refine go_aload_n dX10_learns_71 rfl ?_
      have h58 : hset (hset hh 58 n s) 52 9 (n + 1) 58 = ups (h 58) n s := by
        funext k
        rw [hset_ni (by decide)]
        show (if 58 = 58 ∧ k = n then s else hh 58 k) = if k = n then s else h 58 k
        rw [F1 58 (by decide)]
        by_cases e : k = n
        · rw [if_pos ⟨rfl, e⟩, if_pos e]
        · rw [if_neg (fun q => e q.2), if_neg e]
      refine go_cV0I (by first | assumption | rfl) vlX10_146 dX10_learns_72 (by decide) rfl rfl (by decide) (Nat.le_of_ble_eq_true rfl) (md_there (l := l) (by simp (disch := decide) only [hset_eq, hset_nk, hset_ni]; rw [C1]; exact okL) ?_)
      simp (disch := decide) only [hset_eq, hset_nk, hset_ni]
      rw [C1]
      refine go_aload_n dX10_learns_75 rfl ?_
      refine gfX10_now (by first | assumption | rfl) flX10_7 dX10_learns_76 ?_
      refine go_iconst dX10_learns_79 ⟨by decide, by decide⟩ ?_
      refine go_iaload (by first | assumption | rfl) dX10_learns_80 (by decide) (by decide) ?_
      rw [show hset (hset hh 58 n s) 52 9 (n + 1) 53 = h 53 by rw [hset_ni (by decide), hset_ni (by decide), F1 53 (by decide)], e53r]
      refine go_icmp_le (tgt := 88) dX10_learns_81 (by decide) (fun c81 => ?_) (fun c81 => ?_)
      · refine go_return dX10_learns_88 rfl ?_
        have el : lst (ups (h 58) n s) (h 59) o l r t n s f = lc1 (h 58) (h 59) o l n s f := by unfold lst; rw [hlc, if_neg (by omega)]
        have ef : lfg (ups (h 58) n s) (h 59) o l r n s f = 0 := by unfold lfg; rw [hlc, if_neg (by omega)]
        refine hQ _ ?_ ?_ ?_ ?_ (fun i q1 q2 q3 => ?_) (fun z q1 q2 => ?_)
        · exact h58
        · rw [el]; simp (disch := decide) only [hset_eq, hset_nk, hset_ni]; exact C1
        · rw [hset_eq]
        · rw [ef]; simp (disch := decide) only [hset_eq, hset_nk, hset_ni]; rw [F1 52 (by decide), Int.add_zero]
        · rw [hset_ni q1, hset_ni q2, F1 i q3]
        · rw [hset_nk q1, hset_ni (by decide), F1 52 (by decide)]
      · refine go_aload_n dX10_learns_84 rfl ?_
        refine go_cV0V (by first | assumption | rfl) vlX10_149 dX10_learns_85 (by decide) rfl rfl (by decide) (Nat.le_of_ble_eq_true rfl) (md_forgets (o := o) (l := l) (r := r) (t := t) (n := n + 1) (a := tas t (n + 1)) (M := (n + 1 - tas t (n + 1)).toNat) hPr (by simp (disch := decide) only [hset_eq, hset_nk, hset_ni]; exact E7) (by simp (disch := decide) only [hset_eq, hset_nk, hset_ni]; rw [F1 53 (by decide)]; exact e53) (by simp (disch := decide) only [hset_eq, hset_nk, hset_ni]; rw [F1 53 (by decide)]; exact e53t) (by simp (disch := decide) only [hset_eq, hset_nk, hset_ni]) (by simp (disch := decide) only [hset_eq, hset_nk, hset_ni]; rw [C1]; exact okL.2) (by simp (disch := decide) only [hset_eq, hset_nk, hset_ni]; rw [F1 52 (by decide)]; exact b0) (by simp (disch := decide) only [hset_eq, hset_nk, hset_ni]; rw [F1 52 (by decide)]; exact b1) (by omega) (by omega) (fun k q1 q2 => by rw [h58]; exact hsg2 k q1 q2) rfl (by omega) ?_)
        intro h5 C5 K5 F5 G5
        refine go_return dX10_learns_88 rfl ?_
        rw [h58] at C5
        have el : lst (ups (h 58) n s) (h 59) o l r t n s f = frg (ups (h 58) n s) o l (tas t (n + 1)) (n + 1 - tas t (n + 1)).toNat (fun _ => 0) := by unfold lst; rw [hlc, if_pos (by omega)]
        have ef : lfg (ups (h 58) n s) (h 59) o l r n s f = 1 := by unfold lfg; rw [hlc, if_pos (by omega)]
        refine hQ h5 ?_ ?_ ?_ ?_ (fun i q1 q2 q3 => ?_) (fun z q1 q2 => ?_)
        · rw [F5 58 (by decide) (by decide), h58]
        · rw [el]; exact C5
        · rw [G5 9 (by decide), hset_eq]
        · rw [K5, ef]; simp (disch := decide) only [hset_eq, hset_nk, hset_ni]; rw [F1 52 (by decide)]
        · rw [F5 i q1 q3, hset_ni q1, hset_ni q2, F1 i q3]
        · rw [G5 z q2, hset_nk q1, hset_ni (by decide), F1 52 (by decide)]
  refine ct_go (ls := [xR 52, xI s, xU]) (by decide +kernel) (Nat.le_of_ble_eq_true rfl) rfl ?_
  refine go_aload_n dX10_learns_0 rfl ?_
  refine gfX10_found (by first | assumption | rfl) flX10_120 dX10_learns_1 ?_
  try simp (disch := decide) only [hset_eq, hset_nk, hset_ni, e24]
  refine go_if_ge (tgt := 11) dX10_learns_4 (by decide) (fun c4 => ?_) (fun c4 => ?_)
  · refine go_aload_n dX10_learns_11 rfl ?_
    refine gfX10_found (by first | assumption | rfl) flX10_120 dX10_learns_12 ?_
    try simp (disch := decide) only [hset_eq, hset_nk, hset_ni, e24]
    refine go_istore_n 2 dX10_learns_15 rfl (Nat.le_of_ble_eq_true rfl) rfl (by dsimp only [List.set]) ?_
    have e9k : ((mx0 f + 0 : Nat) : Int) = mx0 f := rfl
    first | (rw [show ((mx0 f + 0 : Nat) : Int) = 0 by rw [e9k, hmx, if_pos (by omega)]] at key; exact key) | (rw [show ((mx0 f + 0 : Nat) : Int) = f by rw [e9k, hmx, if_neg (by omega)]] at key; exact key)
  · refine go_iconst dX10_learns_7 ⟨by decide, by decide⟩ ?_
    refine go_goto (tgt := 15) dX10_learns_8 (by decide) ?_
    refine go_istore_n 2 dX10_learns_15 rfl (Nat.le_of_ble_eq_true rfl) rfl (by dsimp only [List.set]) ?_
    have e9k : ((mx0 f + 0 : Nat) : Int) = mx0 f := rfl
    first | (rw [show ((mx0 f + 0 : Nat) : Int) = 0 by rw [e9k, hmx, if_pos (by omega)]] at key; exact key) | (rw [show ((mx0 f + 0 : Nat) : Int) = f by rw [e9k, hmx, if_neg (by omega)]] at key; exact key)
