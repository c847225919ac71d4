/-! ===== the model: adds, there, clears, forgets, learns ===== -/
set_option maxHeartbeats 4000000 in
set_option maxRecDepth 100000 in
theorem md_adds {x : mX} {h : mH} {Q : mH → Prop} {p s l : Int} (ok : CsOk (h 59) l) (hl2 : l ≤ 15) (el : h 53 1 = l) (hp : 0 ≤ p) (hp2 : p ≤ 84) (hs : 0 ≤ s) (hs2 : s ≤ 3) (hQ : ∀ h', h' 59 = rai (h 59) p s l → (∀ i, i ≠ 59 → h' i = h i) → Q h') : CtV x mtX10_adds [xR 52, xI (4 * p), xI s] h Q := by
  have hv := ok.1 (4 * p + s)
  refine ct_go (ls := [xR 52, xI (4 * p), xI s, xU, xU]) (by decide +kernel) (Nat.le_of_ble_eq_true rfl) rfl ?_
  refine go_aload_n dX10_adds_0 rfl ?_
  refine gfX10_counts (by first | assumption | rfl) flX10_29 dX10_adds_1 ?_
  refine go_iload_n dX10_adds_4 rfl ?_
  refine go_iload_n dX10_adds_5 rfl ?_
  refine go_iadd dX10_adds_6 (by omega) (by omega) ?_
  refine go_dup2 dX10_adds_7 ?_
  refine go_iaload (by first | assumption | rfl) dX10_adds_8 (by omega) (by show 4 * p + s < 340; omega) ?_
  refine go_iconst dX10_adds_9 ⟨by decide, by decide⟩ ?_
  refine go_iadd dX10_adds_10 (by omega) (by omega) ?_
  refine go_iastore (by first | assumption | rfl) dX10_adds_11 (by omega) (by show 4 * p + s < 340; omega) ?_
  refine go_aload_n dX10_adds_12 rfl ?_
  refine gfX10_counts (by first | assumption | rfl) flX10_29 dX10_adds_13 ?_
  refine go_iload_n dX10_adds_16 rfl ?_
  refine go_iload_n dX10_adds_17 rfl ?_
  refine go_iadd dX10_adds_18 (by omega) (by omega) ?_
  refine go_iaload (by first | assumption | rfl) dX10_adds_19 (by omega) (by show 4 * p + s < 340; omega) ?_
  rw [hset_eq]
  refine go_aload_n dX10_adds_20 rfl ?_
  refine gfX10_now (by first | assumption | rfl) flX10_7 dX10_adds_21 ?_
  refine go_iconst dX10_adds_24 ⟨by decide, by decide⟩ ?_
  refine go_iaload (by first | assumption | rfl) dX10_adds_25 (by decide) (by decide) ?_
  rw [hset_ni (show (53 : Nat) ≠ 59 by decide), el]
  refine go_icmp_ne (tgt := 33) dX10_adds_26 (by decide) (fun c26 => ?_) (fun c26 => ?_)
  · refine go_iconst dX10_adds_33 ⟨by decide, by decide⟩ ?_
    refine go_istore_n 3 dX10_adds_34 rfl (Nat.le_of_ble_eq_true rfl) rfl (by dsimp only [List.set]) ?_
    refine go_iconst dX10_adds_35 ⟨by decide, by decide⟩ ?_
    refine go_istore dX10_adds_36 (Nat.le_of_ble_eq_true rfl) rfl (by dsimp only [List.set]) ?_
    refine go_iload dX10_adds_38 rfl ?_
    refine go_iconst dX10_adds_40 ⟨by decide, by decide⟩ ?_
    refine go_icmp_ge_f (tgt := 67) dX10_adds_41 (by decide) (by decide) ?_
    refine go_iload_n dX10_adds_44 rfl ?_
    refine go_if_eq_t (tgt := 67) dX10_adds_45 (by decide) (rfl) ?_
    refine go_return dX10_adds_67 rfl ?_
    refine hQ _ ?_ (fun j q => hset_ni q)
    funext k
    unfold rai hset
    rw [if_neg c26]
    by_cases e2 : k = 4 * p + s
    · rw [if_pos ⟨rfl, e2⟩, if_pos e2, e2]
    · rw [if_neg (fun q => e2 q.2), if_neg e2]
  · refine go_iconst dX10_adds_29 ⟨by decide, by decide⟩ ?_
    refine go_goto (tgt := 34) dX10_adds_30 (by decide) ?_
    refine go_istore_n 3 dX10_adds_34 rfl (Nat.le_of_ble_eq_true rfl) rfl (by dsimp only [List.set]) ?_
    refine go_iconst dX10_adds_35 ⟨by decide, by decide⟩ ?_
    refine go_istore dX10_adds_36 (Nat.le_of_ble_eq_true rfl) rfl (by dsimp only [List.set]) ?_
    have hel : h 59 (4 * p + s) + 1 = l := c26
    have e0 : hset h 59 (4 * p + s) (h 59 (4 * p + s) + 1) = hlvH (hset h 59 (4 * p + s) (h 59 (4 * p + s) + 1)) 58 p (4 * p + ((0 : Nat) : Int)) := by
      funext a b; unfold hlvH; rw [if_neg (by omega)]
    rw [e0]
    refine up_indN (P := fun i => Go x mtX10_adds 38 [xR 52, xI (4 * p), xI s, xI 1, xI (i : Int)] [] (hlvH (hset h 59 (4 * p + s) (h 59 (4 * p + s) + 1)) 58 p (4 * p + (i : Int))) (qV Q)) 4 (fun i hi ih => ?_)
    by_cases hlt : i < 4
    · have hnn : 0 ≤ hlvH (hset h 59 (4 * p + s) (h 59 (4 * p + s) + 1)) 58 p (4 * p + (i : Int)) 59 (4 * p + (i : Int)) := by
        have := ok.1 (4 * p + (i : Int))
        unfold hlvH hset
        rw [if_neg (by omega)]
        split <;> omega
      refine go_iload dX10_adds_38 rfl ?_
      refine go_iconst dX10_adds_40 ⟨by decide, by decide⟩ ?_
      refine go_icmp_ge_f (tgt := 67) dX10_adds_41 (by decide) (by omega) ?_
      refine go_iload_n dX10_adds_44 rfl ?_
      refine go_if_eq_f (tgt := 67) dX10_adds_45 (by decide) (by decide) ?_
      refine go_aload_n dX10_adds_48 rfl ?_
      refine gfX10_counts (by first | assumption | rfl) flX10_29 dX10_adds_49 ?_
      refine go_iload_n dX10_adds_52 rfl ?_
      refine go_iload dX10_adds_53 rfl ?_
      refine go_iadd dX10_adds_55 (by omega) (by omega) ?_
      refine go_dup2 dX10_adds_56 ?_
      refine go_iaload (by first | assumption | rfl) dX10_adds_57 (by omega) (by show 4 * p + (i : Int) < 340; omega) ?_
      refine go_iconst dX10_adds_58 ⟨by decide, by decide⟩ ?_
      refine go_idiv dX10_adds_59 (by exact hnn) (by decide) ?_
      refine go_iastore (by first | assumption | rfl) dX10_adds_60 (by omega) (by show 4 * p + (i : Int) < 340; omega) ?_
      refine go_iinc dX10_adds_61 rfl rfl rfl (by omega) (by omega) (by dsimp only [List.set]) ?_
      refine go_goto (tgt := 38) dX10_adds_64 (by decide) ?_
      rw [hlv_step (c := 58) (show 4 * p ≤ 4 * p + (i : Int) by omega), show 4 * p + (i : Int) + 1 = 4 * p + ((i + 1 : Nat) : Int) by omega]
      exact ih hlt
    · have hie : i = 4 := by omega
      subst hie
      refine go_iload dX10_adds_38 rfl ?_
      refine go_iconst dX10_adds_40 ⟨by decide, by decide⟩ ?_
      refine go_icmp_ge_t (tgt := 67) dX10_adds_41 (by decide) (by omega) ?_
      refine go_return dX10_adds_67 rfl ?_
      refine hQ _ ?_ (fun j q => ?_)
      · funext k
        show (if 59 = 58 + 1 ∧ 4 * p ≤ k ∧ k < 4 * p + ((4 : Nat) : Int) then hset h 59 (4 * p + s) (h 59 (4 * p + s) + 1) 59 k / 2 else hset h 59 (4 * p + s) (h 59 (4 * p + s) + 1) 59 k) = rai (h 59) p s l k
        unfold rai hset
        rw [if_pos hel]
        by_cases e1 : 4 * p ≤ k ∧ k < 4 * p + 4
        · rw [if_pos (by omega), if_pos e1]
          by_cases e2 : k = 4 * p + s
          · rw [if_pos ⟨rfl, e2⟩, if_pos e2, e2]
          · rw [if_neg (fun q => e2 q.2), if_neg e2]
        · rw [if_neg (by omega), if_neg e1, if_neg (by omega)]
      · funext k
        unfold hlvH
        rw [if_neg (by omega), hset_ni q]

theorem there_1 {cs : Int → Int} {l : Int} (ok : CsOk cs l) (k : Nat) : (opn (wS cs (k : Int) 0) 4 = 0 → thN cs k = 1) ∧ (opn (wS cs (k : Int) 0) 4 ≠ 0 → thN cs k = 0) := by
  have e : ∀ s : Nat, wS cs (k : Int) 0 s = cs (4 * (k : Int) + s) := fun s => by
    rw [wS_m (by omega), if_neg (by unfold hb; rw [Nat.zero_testBit]; decide)]
  have g0 := ok.1 (4 * (k : Int) + (0 : Nat)); have g1 := ok.1 (4 * (k : Int) + (1 : Nat)); have g2 := ok.1 (4 * (k : Int) + (2 : Nat)); have g3 := ok.1 (4 * (k : Int) + (3 : Nat))
  have eo : opn (wS cs (k : Int) 0) 4 = 0 + (if 0 < cs (4 * (k : Int) + (0 : Nat)) then 2 ^ 0 else 0) + (if 0 < cs (4 * (k : Int) + (1 : Nat)) then 2 ^ 1 else 0) + (if 0 < cs (4 * (k : Int) + (2 : Nat)) then 2 ^ 2 else 0) + (if 0 < cs (4 * (k : Int) + (3 : Nat)) then 2 ^ 3 else 0) := by
    rw [← e 0, ← e 1, ← e 2, ← e 3]; rfl
  rw [eo]
  have i0 : 4 * (k : Int) + ((0 : Nat) : Int) = 4 * (k : Int) := by omega
  have z0 : cs (4 * (k : Int)) = cs (4 * (k : Int) + (0 : Nat)) := by rw [i0]
  unfold thN
  constructor
  · intro q
    have h0 : ¬ 0 < cs (4 * (k : Int) + (0 : Nat)) := fun z => by rw [if_pos z] at q; omega
    have h1 : ¬ 0 < cs (4 * (k : Int) + (1 : Nat)) := fun z => by rw [if_pos z] at q; omega
    have h2 : ¬ 0 < cs (4 * (k : Int) + (2 : Nat)) := fun z => by rw [if_pos z] at q; omega
    have h3 : ¬ 0 < cs (4 * (k : Int) + (3 : Nat)) := fun z => by rw [if_pos z] at q; omega
    rw [if_pos ⟨by omega, by show cs (4 * (k : Int) + (1 : Nat)) = 0; omega, by show cs (4 * (k : Int) + (2 : Nat)) = 0; omega, by show cs (4 * (k : Int) + (3 : Nat)) = 0; omega⟩]
  · intro q
    rw [if_neg]
    rintro ⟨a0, a1, a2, a3⟩
    apply q
    have b1 : cs (4 * (k : Int) + (1 : Nat)) = 0 := a1
    have b2 : cs (4 * (k : Int) + (2 : Nat)) = 0 := a2
    have b3 : cs (4 * (k : Int) + (3 : Nat)) = 0 := a3
    rw [if_neg (by omega), if_neg (by omega), if_neg (by omega), if_neg (by omega)]

set_option maxHeartbeats 4000000 in
set_option maxRecDepth 100000 in
theorem md_there {x : mX} {h : mH} {Q : Int → mH → Prop} {l : Int} (ok : CsOk (h 59) l) (hQ : Q (thC (h 59) 85) h) : CtI x mtX10_there [xR 52] h Q := by
  refine ct_go (ls := [xR 52, xU, xU]) (by decide +kernel) (Nat.le_of_ble_eq_true rfl) rfl ?_
  refine go_iconst dX10_there_0 ⟨by decide, by decide⟩ ?_
  refine go_istore_n 1 dX10_there_1 rfl (Nat.le_of_ble_eq_true rfl) rfl (by dsimp only [List.set]) ?_
  refine go_iconst dX10_there_2 ⟨by decide, by decide⟩ ?_
  refine go_istore_n 2 dX10_there_3 rfl (Nat.le_of_ble_eq_true rfl) rfl (by dsimp only [List.set]) ?_
  refine up_indN (P := fun k => Go x mtX10_there 4 [xR 52, xI (thC (h 59) k), xI (k : Int)] [] h (qI Q)) 85 (fun k hk ih => ?_)
  have hb := thC_bd (h 59) k
  obtain ⟨h1y, h1n⟩ := there_1 ok k
  by_cases hlt : k < 85
  · skip
    refine go_iload_n dX10_there_4 rfl ?_
    refine go_bipush dX10_there_5 (by decide +kernel) ⟨by decide, by decide⟩ ?_
    refine go_icmp_ge_f (tgt := 35) dX10_there_7 (by decide) (by omega) ?_
    refine go_iload_n dX10_there_10 rfl ?_
    refine go_aload_n dX10_there_11 rfl ?_
    refine go_iconst dX10_there_12 ⟨by decide, by decide⟩ ?_
    refine go_iload_n dX10_there_13 rfl ?_
    refine go_imul dX10_there_14 (by omega) (by omega) ?_
    refine go_iconst dX10_there_15 ⟨by decide, by decide⟩ ?_
    refine go_cV2I (by first | assumption | rfl) vlX10_133 dX10_there_16 (by decide) rfl rfl (by decide) (Nat.le_of_ble_eq_true rfl) (md_openAt (pl := (k : Int)) (sh := 0) (by omega) (by omega) (by decide) ?_)
    refine go_if_eq (tgt := 26) dX10_there_19 (by decide) (fun c19 => ?_) (fun c19 => ?_)
    · refine go_iconst dX10_there_26 ⟨by decide, by decide⟩ ?_
      refine go_iadd dX10_there_27 (by omega) (by omega) ?_
      refine go_istore_n 1 dX10_there_28 rfl (Nat.le_of_ble_eq_true rfl) rfl (by dsimp only [List.set]) ?_
      refine go_iinc dX10_there_29 rfl rfl rfl (by omega) (by omega) (by dsimp only [List.set]) ?_
      refine go_goto (tgt := 4) dX10_there_32 (by decide) ?_
      first
        | (rw [show thC (h 59) k + 1 = thC (h 59) (k + 1) by rw [thC, h1n (by omega)]; omega]; exact ih hlt)
        | (rw [show thC (h 59) k + 0 = thC (h 59) (k + 1) by rw [thC, h1y (by omega)]; omega]; exact ih hlt)
    · refine go_iconst dX10_there_22 ⟨by decide, by decide⟩ ?_
      refine go_goto (tgt := 27) dX10_there_23 (by decide) ?_
      refine go_iadd dX10_there_27 (by omega) (by omega) ?_
      refine go_istore_n 1 dX10_there_28 rfl (Nat.le_of_ble_eq_true rfl) rfl (by dsimp only [List.set]) ?_
      refine go_iinc dX10_there_29 rfl rfl rfl (by omega) (by omega) (by dsimp only [List.set]) ?_
      refine go_goto (tgt := 4) dX10_there_32 (by decide) ?_
      first
        | (rw [show thC (h 59) k + 1 = thC (h 59) (k + 1) by rw [thC, h1n (by omega)]; omega]; exact ih hlt)
        | (rw [show thC (h 59) k + 0 = thC (h 59) (k + 1) by rw [thC, h1y (by omega)]; omega]; exact ih hlt)
  · have hie : k = 85 := by omega
    subst hie
    refine go_iload_n dX10_there_4 rfl ?_
    refine go_bipush dX10_there_5 (by decide +kernel) ⟨by decide, by decide⟩ ?_
    refine go_icmp_ge_t (tgt := 35) dX10_there_7 (by decide) (by omega) ?_
    refine go_iload_n dX10_there_35 rfl ?_
    refine go_ireturn dX10_there_36 rfl ?_
    exact hQ

set_option maxHeartbeats 4000000 in
set_option maxRecDepth 100000 in
theorem md_clears {x : mX} {h : mH} {Q : mH → Prop} (hz : ∀ k, k < 0 ∨ 340 ≤ k → h 59 k = 0) (hQ : ∀ h', h' 59 = (fun _ => 0) → (∀ i, i ≠ 59 → h' i = h i) → Q h') : CtV x mtX10_clears [xR 52] h Q := by
  refine ct_go (ls := [xR 52, xU]) (by decide +kernel) (Nat.le_of_ble_eq_true rfl) rfl ?_
  refine go_iconst dX10_clears_0 ⟨by decide, by decide⟩ ?_
  refine go_istore_n 1 dX10_clears_1 rfl (Nat.le_of_ble_eq_true rfl) rfl (by dsimp only [List.set]) ?_
  have e0 : h = empH h 58 ((0 : Nat) : Int) := by
    funext a b; unfold empH; rw [if_neg (by omega)]
  have key : Go x mtX10_clears 2 [xR 52, xI ((0 : Nat) : Int)] [] (empH h 58 ((0 : Nat) : Int)) (qV Q) := by
    refine up_indN (P := fun i => Go x mtX10_clears 2 [xR 52, xI (i : Int)] [] (empH h 58 (i : Int)) (qV Q)) 340 (fun i hi ih => ?_)
    by_cases hlt : i < 340
    · skip
      refine go_iload_n dX10_clears_2 rfl ?_
      refine go_sipush dX10_clears_3 (by decide +kernel) ⟨by decide, by decide⟩ ?_
      refine go_icmp_ge_f (tgt := 22) dX10_clears_6 (by decide) (by omega) ?_
      refine go_aload_n dX10_clears_9 rfl ?_
      refine gfX10_counts (by first | assumption | rfl) flX10_29 dX10_clears_10 ?_
      refine go_iload_n dX10_clears_13 rfl ?_
      refine go_iconst dX10_clears_14 ⟨by decide, by decide⟩ ?_
      refine go_iastore (by first | assumption | rfl) dX10_clears_15 (by omega) (by show (i : Int) < 340; omega) ?_
      refine go_iinc dX10_clears_16 rfl rfl rfl (by omega) (by omega) (by dsimp only [List.set]) ?_
      refine go_goto (tgt := 2) dX10_clears_19 (by decide) ?_
      have e1 : hset (empH h 58 (i : Int)) 59 (i : Int) 0 = empH h 58 ((i + 1 : Nat) : Int) := by
        funext a b
        unfold hset empH
        by_cases e1 : a = 59 ∧ b = (i : Int)
        · rw [if_pos e1, if_pos (by omega)]
        · rw [if_neg e1]
          by_cases e2 : a = 58 + 1 ∧ 0 ≤ b ∧ b < (i : Int)
          · rw [if_pos e2, if_pos (by omega)]
          · rw [if_neg e2, if_neg (by omega)]
      rw [e1]
      exact ih hlt
    · have hie : i = 340 := by omega
      subst hie
      refine go_iload_n dX10_clears_2 rfl ?_
      refine go_sipush dX10_clears_3 (by decide +kernel) ⟨by decide, by decide⟩ ?_
      refine go_icmp_ge_t (tgt := 22) dX10_clears_6 (by decide) (by omega) ?_
      refine go_return dX10_clears_22 rfl ?_
      refine hQ _ ?_ (fun i q => ?_)
      · funext k
        unfold empH
        by_cases e : 0 ≤ k ∧ k < ((340 : Nat) : Int)
        · rw [if_pos ⟨rfl, e⟩]
        · rw [if_neg (fun q => e q.2)]; exact hz k (by omega)
      · funext k; unfold empH; rw [if_neg (by omega)]
  rw [← e0] at key
  exact key

set_option maxHeartbeats 4000000 in
set_option maxRecDepth 100000 in
theorem md_forgets {x : mX} {h : mH} {Q : mH → Prop} {o l r t n a : Int} {M : Nat} (hPr : PrOk o l r t) (e7 : h 52 7 = o) (e53 : h 53 1 = l) (e53t : h 53 3 = t) (e9 : h 52 9 = n) (hz : ∀ k, k < 0 ∨ 340 ≤ k → h 59 k = 0) (b0 : 0 ≤ h 52 11) (b1 : h 52 11 ≤ 1000) (hn0 : 0 ≤ n) (hn : n ≤ 60) (hsg : ∀ k : Int, 0 ≤ k → k < n → 0 ≤ h 58 k ∧ h 58 k ≤ 3) (hae : tas t n = a) (hM : a + M = n) (hQ : ∀ h', h' 59 = frg (h 58) o l a M (fun _ => 0) → h' 52 11 = h 52 11 + 1 → (∀ i, i ≠ 52 → i ≠ 59 → h' i = h i) → (∀ z, z ≠ 11 → h' 52 z = h 52 z) → Q h') : CtV x mtX10_forgets [xR 52] h Q := by
  have hb := tas_bd (t := t) (n := n) hPr.2.2.2.2.2.2.1 hn0
  obtain ⟨w1, w2, w3, w4, w5, w6, w7, w8⟩ := id hPr
  refine ct_go (ls := [xR 52, xU, xU, xU]) (by decide +kernel) (Nat.le_of_ble_eq_true rfl) rfl ?_
  refine go_aload_n dX10_forgets_0 rfl ?_
  refine go_cV0V (by first | assumption | rfl) vlX10_74 dX10_forgets_1 (by decide) rfl rfl (by decide) (Nat.le_of_ble_eq_true rfl) (md_clears hz ?_)
  intro h1 C1 F1
  have E9 : h1 52 9 = n := by rw [F1 52 (by decide)]; exact e9
  have E11 : h1 52 11 = h 52 11 := by rw [F1 52 (by decide)]
  refine go_aload_n dX10_forgets_4 rfl ?_
  first | refine go_dupR dX10_forgets_5 ?_ | refine go_dupI dX10_forgets_5 ?_
  refine gfX10_forgotten (by first | assumption | rfl) flX10_52 dX10_forgets_6 ?_
  try simp (disch := decide) only [hset_eq, hset_nk, hset_ni, E9, E11]
  refine go_iconst dX10_forgets_9 ⟨by decide, by decide⟩ ?_
  refine go_iadd dX10_forgets_10 (by omega) (by omega) ?_
  refine pfX10_forgotten (by first | assumption | rfl) flX10_52 dX10_forgets_11 ?_
  refine go_aload_n dX10_forgets_14 rfl ?_
  refine gfX10_many (by first | assumption | rfl) flX10_49 dX10_forgets_15 ?_
  try simp (disch := decide) only [hset_eq, hset_nk, hset_ni, E9, E11]
  refine go_aload_n dX10_forgets_18 rfl ?_
  refine gfX10_now (by first | assumption | rfl) flX10_7 dX10_forgets_19 ?_
  refine go_iconst dX10_forgets_22 ⟨by decide, by decide⟩ ?_
  refine go_iaload (by first | assumption | rfl) dX10_forgets_23 (by decide) (by decide) ?_
  rw [hset_ni (show (53 : Nat) ≠ 52 by decide), F1 53 (by decide), e53t]
  refine go_aload_n dX10_forgets_24 rfl ?_
  refine gfX10_many (by first | assumption | rfl) flX10_49 dX10_forgets_25 ?_
  try simp (disch := decide) only [hset_eq, hset_nk, hset_ni, E9, E11]
  refine go_cS2I slX10_126 dX10_forgets_28 (by decide) (Nat.le_of_ble_eq_true rfl) (md_lesser ?_)
  skip
  refine go_isub dX10_forgets_31 (by split <;> omega) (by split <;> omega) ?_
  rw [show n - (if t < n then t else n) = a by rw [← hae]; unfold tas; split <;> split <;> omega]
  refine go_istore_n 1 dX10_forgets_32 rfl (Nat.le_of_ble_eq_true rfl) rfl (by dsimp only [List.set]) ?_
  refine go_iload_n dX10_forgets_33 rfl ?_
  refine go_istore_n 2 dX10_forgets_34 rfl (Nat.le_of_ble_eq_true rfl) rfl (by dsimp only [List.set]) ?_
  skip
  have key : Go x mtX10_forgets 35 [xR 52, xI a, xI (a + ((0 : Nat) : Int)), xU] [] (hset h1 52 11 (h 52 11 + 1)) (qV Q) := by
    refine up_indN (P := fun m => ∀ hh : mH, hh 59 = frg (h 58) o l a m (fun _ => 0) → (∀ i, i ≠ 52 → i ≠ 59 → hh i = h i) → (∀ z, z ≠ 11 → hh 52 z = h 52 z) → hh 52 11 = h 52 11 + 1 → ∀ u : mV, Go x mtX10_forgets 35 [xR 52, xI a, xI (a + (m : Int)), u] [] hh (qV Q)) M (fun m hm ihm hh C1 F1 G1 K1 u => ?_) _ ?_ (fun i q1 q2 => ?_) (fun z q => ?_) (hset_eq _ _ _ _) _
    · have E9 : hh 52 9 = n := (G1 9 (by decide)).trans e9
      by_cases hlt : m < M
      · skip
        refine go_iload_n dX10_forgets_35 rfl ?_
        refine go_aload_n dX10_forgets_36 rfl ?_
        refine gfX10_many (by first | assumption | rfl) flX10_49 dX10_forgets_37 ?_
        try simp (disch := decide) only [hset_eq, hset_nk, hset_ni, E9]
        refine go_icmp_ge_f (tgt := 87) dX10_forgets_40 (by decide) (by omega) ?_
        refine go_iconst dX10_forgets_43 ⟨by decide, by decide⟩ ?_
        refine go_istore_n 3 dX10_forgets_44 rfl (Nat.le_of_ble_eq_true rfl) rfl (by dsimp only [List.set]) ?_
        refine up_indN (P := fun j => ∀ h3 : mH, h3 59 = lrn (fun j : Nat => cxp (h 58) (a + (m : Int) - (j : Int)) j) (h 58 (a + (m : Int))) l 0 j (frg (h 58) o l a m (fun _ => 0)) → (∀ i, i ≠ 52 → i ≠ 59 → h3 i = h i) → (∀ z, z ≠ 11 → h3 52 z = h 52 z) → h3 52 11 = h 52 11 + 1 → Go x mtX10_forgets 45 [xR 52, xI a, xI (a + (m : Int)), xI (j : Int)] [] h3 (qV Q)) (lng o (m : Int) + 1) (fun j hj ihj h3 C2 F2 G2 K2 => ?_) hh C1 F1 G1 K1
        have E7 : h3 52 7 = o := (G2 7 (by decide)).trans e7
        have E9 : h3 52 9 = n := (G2 9 (by decide)).trans e9
        have e10 : a + (m : Int) - a = (m : Int) := by omega
        have hln := lng_le (o := o) (n := (m : Int)) hPr.1 (by omega)
        have hsm := hsg (a + (m : Int)) (by omega) (by omega)
        by_cases hjt : j < lng o (m : Int) + 1
        · have hpl := cxp_bd (sg := h 58) (a := a + (m : Int) - (j : Int)) (n := j) (by omega) (fun k q1 q2 => hsg k (by omega) (by omega))
          have ok1 := csOk_frg (sg := h 58) (o := o) (l := l) (a := a) (cs := fun _ => 0) (csOk_zero hPr.2.2.1) hPr.2.2.1 hPr.1 hPr.2.1 m (fun k q1 q2 => hsg k (by omega) (by omega))
          have ok2 : CsOk (lrn (fun j : Nat => cxp (h 58) (a + (m : Int) - (j : Int)) j) (h 58 (a + (m : Int))) l 0 j (frg (h 58) o l a m (fun _ => 0))) l := csOk_lrn ok1 hPr.2.2.1 hsm.1 hsm.2 j (fun i _ hi => cxp_bd (by omega) (fun k q1 q2 => hsg k (by omega) (by omega)))
          refine go_iload_n dX10_forgets_45 rfl ?_
          refine go_aload_n dX10_forgets_46 rfl ?_
          refine gfX10_order (by first | assumption | rfl) flX10_42 dX10_forgets_47 ?_
          try simp (disch := decide) only [hset_eq, hset_nk, hset_ni, E7, E9]
          refine go_iload_n dX10_forgets_50 rfl ?_
          refine go_iload_n dX10_forgets_51 rfl ?_
          refine go_isub dX10_forgets_52 (by omega) (by omega) ?_
          refine go_cS2I slX10_126 dX10_forgets_53 (by decide) (Nat.le_of_ble_eq_true rfl) (md_lesser ?_)
          refine go_icmp_gt_f (tgt := 81) dX10_forgets_56 (by decide) (by rw [e10, lng_m hPr.1 (by omega)]; omega) ?_
          refine go_aload_n dX10_forgets_59 rfl ?_
          refine go_aload_n dX10_forgets_60 rfl ?_
          refine go_iload_n dX10_forgets_61 rfl ?_
          refine go_iload_n dX10_forgets_62 rfl ?_
          refine go_cV2I (by first | assumption | rfl) vlX10_130 dX10_forgets_63 (by decide) rfl rfl (by decide) (Nat.le_of_ble_eq_true rfl) (md_context (n := j) (a := a + (m : Int) - (j : Int)) (by omega) (by omega) (by omega) (by omega) (fun k q1 q2 => by rw [F2 58 (by decide) (by decide)]; exact hsg k (by omega) (by omega)) ?_)
          rw [F2 58 (by decide) (by decide)]
          refine go_aload_n dX10_forgets_66 rfl ?_
          refine gfX10_run (by first | assumption | rfl) flX10_26 dX10_forgets_67 ?_
          refine go_iload_n dX10_forgets_70 rfl ?_
          refine go_iaload (by first | assumption | rfl) dX10_forgets_71 (by omega) (by show a + (m : Int) < 60; omega) ?_
          rw [F2 58 (by decide) (by decide)]
          refine go_cV2V (by first | assumption | rfl) vlX10_142 dX10_forgets_72 (by decide) rfl rfl (by decide) (Nat.le_of_ble_eq_true rfl) (md_adds (l := l) (by rw [C2]; exact ok2) hPr.2.2.2.1 (by rw [F2 53 (by decide) (by decide)]; exact e53) hpl.1 hpl.2 hsm.1 hsm.2 ?_)
          intro h4 C4 F4
          refine go_iinc dX10_forgets_75 rfl rfl rfl (by omega) (by omega) (by dsimp only [List.set]) ?_
          refine go_goto (tgt := 45) dX10_forgets_78 (by decide) ?_
          refine ihj (by omega) h4 (by rw [C4, C2]; rw [lrn, Nat.zero_add]) (fun i q1 q2 => by rw [F4 i q2]; exact F2 i q1 q2) (fun z q => by rw [F4 52 (by decide)]; exact G2 z q) (by rw [F4 52 (by decide)]; exact K2)
        · have hje : j = lng o (m : Int) + 1 := by omega
          subst hje
          refine go_iload_n dX10_forgets_45 rfl ?_
          refine go_aload_n dX10_forgets_46 rfl ?_
          refine gfX10_order (by first | assumption | rfl) flX10_42 dX10_forgets_47 ?_
          try simp (disch := decide) only [hset_eq, hset_nk, hset_ni, E7]
          refine go_iload_n dX10_forgets_50 rfl ?_
          refine go_iload_n dX10_forgets_51 rfl ?_
          refine go_isub dX10_forgets_52 (by omega) (by omega) ?_
          refine go_cS2I slX10_126 dX10_forgets_53 (by decide) (Nat.le_of_ble_eq_true rfl) (md_lesser ?_)
          refine go_icmp_gt_t (tgt := 81) dX10_forgets_56 (by decide) (by rw [e10, lng_m hPr.1 (by omega)]; omega) ?_
          refine go_iinc dX10_forgets_81 rfl rfl rfl (by omega) (by omega) (by dsimp only [List.set]) ?_
          refine go_goto (tgt := 35) dX10_forgets_84 (by decide) ?_
          rw [show a + (m : Int) + 1 = a + ((m + 1 : Nat) : Int) by omega]
          exact ihm hlt h3 C2 F2 G2 K2 _
      · have hie : m = M := by omega
        subst hie
        refine go_iload_n dX10_forgets_35 rfl ?_
        refine go_aload_n dX10_forgets_36 rfl ?_
        refine gfX10_many (by first | assumption | rfl) flX10_49 dX10_forgets_37 ?_
        try simp (disch := decide) only [hset_eq, hset_nk, hset_ni, E9]
        refine go_icmp_ge_t (tgt := 87) dX10_forgets_40 (by decide) (by omega) ?_
        refine go_return dX10_forgets_87 rfl ?_
        exact hQ hh C1 K1 F1 G1
    · rw [hset_ni (by decide), C1]; rfl
    · rw [hset_ni q1, F1 i q2]
    · rw [hset_nk q, F1 52 (by decide)]
  rw [show a + ((0 : Nat) : Int) = a by omega] at key
  exact key
