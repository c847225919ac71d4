/-! ===== History ===== -/
/-- order, limit, room, tail, text -/
abbrev PV : Type := Int × Int × Int × Int × List Int
def PastV (h : mH) (p : Nat) (v : PV) : Prop := PaS h p v.1 v.2.1 v.2.2.1 v.2.2.2.1 ∧ RowL h (p + 1) v.2.2.2.2
def PvOk (v : PV) : Prop := PrOk v.1 v.2.1 v.2.2.1 v.2.2.2.1 ∧ TxOk v.2.2.2.2
theorem PastV.congr {h h' : mH} {p : Nat} {v : PV} (H : PastV h p v) (e0 : h' p = h p) (e1 : h' (p + 1) = h (p + 1)) (e2 : h' (p + 2) = h (p + 2)) : PastV h' p v := ⟨by unfold PaS; rw [e0]; exact H.1, H.2.congr e1 e2⟩
theorem past_becomesP {x : mX} {h : mH} {Q : mH → Prop} {p q : Nat} {v : PV} (hp : isPast p) (hq : isPast q) (hd : p + 3 ≤ q ∨ q + 3 ≤ p) (H : PastV h q v) (hl : v.2.2.2.2.length ≤ 60) (hs : 0 ≤ h (p + 1) 1) (hQ : ∀ h', PastV h' p v → (∀ i, i ≠ p → i ≠ p + 1 → i ≠ p + 2 → h' i = h i) → Q h') : CtV x mtX4_becomes [xR p, xR q] h Q := by
  obtain ⟨⟨a0, a1, a2, a3⟩, R⟩ := H
  have hsr : RowL (setH h p (h q 0) (h q 1) (h q 2) (h q 3)) (q + 1) v.2.2.2.2 := R.congr (setH_ne (by omega) (by omega)) (setH_ne (by omega) (by omega))
  refine past_becomes hp hq hd hs (by rw [R.1]; omega) (by rw [R.1]; omega) (hQ _ ⟨?_, ?_⟩ (fun i b1 b2 b3 => ?_))
  · unfold becH PaS
    rw [cpRow_ne (by omega) (by omega)]
    unfold setH
    refine ⟨?_, ?_, ?_, ?_⟩
    · rw [hset_ni (by omega), hset_nk (by decide), hset_nk (by decide), hset_nk (by decide), hset_eq, a0]
    · rw [hset_ni (by omega), hset_nk (by decide), hset_nk (by decide), hset_eq, a1]
    · rw [hset_ni (by omega), hset_nk (by decide), hset_eq, a2]
    · rw [hset_ni (by omega), hset_eq, a3]
  · have := cpRow_L (r := p + 1) hsr
    rw [setH_ne (show q + 1 ≠ p by omega) (show q + 1 ≠ p + 1 by omega)] at this
    exact this
  · unfold becH
    rw [cpRow_ne b2 b3, setH_ne b1 b2]
theorem ring_past : ∀ k, k < 6 → isPast (28 + 3 * k) := by
  unfold isPast isRow
  decide +kernel
def rpos (nx j : Nat) : Nat := (nx + 5 - j) % 6
/-- what can be undone, the latest first, in a ring -/
def HiS (h : mH) (nx : Nat) (hs : List PV) : Prop := h 26 1 = (nx : Int) ∧ h 26 2 = (hs.length : Int) ∧ nx < 6 ∧ hs.length ≤ 6 ∧ (∀ k, k < 6 → 0 ≤ h (28 + 3 * k + 1) 1) ∧ ∀ (j : Nat) (v : PV), hs[j]? = some v → PastV h (28 + 3 * rpos nx j) v
theorem HiS.congr {h h' : mH} {nx : Nat} {hs : List PV} (H : HiS h nx hs) (e : ∀ i, 26 ≤ i → i < 46 → h' i = h i) : HiS h' nx hs := by
  obtain ⟨a1, a2, a3, a4, a5, a6⟩ := H
  refine ⟨by rw [e 26 (by decide) (by decide)]; exact a1, by rw [e 26 (by decide) (by decide)]; exact a2, a3, a4, fun k hk => by rw [e _ (by omega) (by omega)]; exact a5 k hk, fun j v hv => ?_⟩
  have hp : rpos nx j < 6 := Nat.mod_lt _ (by decide)
  exact (a6 j v hv).congr (e _ (by omega) (by omega)) (e _ (by omega) (by omega)) (e _ (by omega) (by omega))

set_option maxHeartbeats 4000000 in
set_option maxRecDepth 100000 in
theorem hi_remembers {x : mX} {h : mH} {Q : mH → Prop} {p nx : Nat} {hs : List PV} {v : PV} (hp : isPast p) (hpr : p + 3 ≤ 26 ∨ 46 ≤ p) (H : PastV h p v) (hl : v.2.2.2.2.length ≤ 60) (HH : HiS h nx hs) (hQ : ∀ h' nx', HiS h' nx' ((v :: hs).take 6) → (∀ i, (i < 26 ∨ 46 ≤ i) → True → h' i = h i) → Q h') : CtV x mtX1_remembers [xR 26, xR p] h Q := by
  obtain ⟨a1, a2, a3, a4, a5, a6⟩ := HH
  have e6 : ((ln (26 + 1) : Nat) : Int) = 6 := rfl
  have hpd : 28 + 3 * nx + 3 ≤ p ∨ p + 3 ≤ 28 + 3 * nx := by omega
  refine ct_go (ls := [xR 26, xR p]) (by decide +kernel) (Nat.le_of_ble_eq_true rfl) rfl ?_
  refine go_aload_n dX1_remembers_0 rfl ?_
  refine gfX1_next rfl flX1_17 dX1_remembers_1 ?_
  rw [a1]
  refine go_if_lt_f (tgt := 31) dX1_remembers_4 (by decide) (by omega) ?_
  refine go_aload_n dX1_remembers_7 rfl ?_
  refine gfX1_next rfl flX1_17 dX1_remembers_8 ?_
  rw [a1]
  refine go_aload_n dX1_remembers_11 rfl ?_
  refine gfX1_ring rfl flX1_11 dX1_remembers_12 ?_
  refine go_alen (Or.inr rfl) dX1_remembers_15 (⟨by rw [e6]; decide, by rw [e6]; decide⟩) ?_
  refine go_icmp_ge_f (tgt := 31) dX1_remembers_16 (by decide) (by rw [e6]; omega) ?_
  refine go_aload_n dX1_remembers_19 rfl ?_
  refine gfX1_ring rfl flX1_11 dX1_remembers_20 ?_
  refine go_aload_n dX1_remembers_23 rfl ?_
  refine gfX1_next rfl flX1_17 dX1_remembers_24 ?_
  rw [a1]
  refine go_aaload rfl dX1_remembers_27 (by omega) (by rw [e6]; omega) ?_
  refine go_ifnonnull (tgt := 32) dX1_remembers_28 (by decide) ?_
  refine go_aload_n dX1_remembers_32 rfl ?_
  refine gfX1_ring rfl flX1_11 dX1_remembers_33 ?_
  refine go_aload_n dX1_remembers_36 rfl ?_
  refine gfX1_next rfl flX1_17 dX1_remembers_37 ?_
  rw [a1]
  refine go_aaload rfl dX1_remembers_40 (by omega) (by rw [e6]; omega) ?_
  rw [Int.toNat_natCast]
  refine go_aload_n dX1_remembers_41 rfl ?_
  refine go_cV1V (ring_past nx a3).1 vlX1_25 dX1_remembers_42 (by decide) rfl rfl (by decide) (Nat.le_of_ble_eq_true rfl) (past_becomesP (ring_past nx a3) hp hpd H hl (a5 nx a3) ?_)
  intro h1 P1 F1
  have e1 : h1 26 1 = (nx : Int) := by rw [F1 26 (by omega) (by omega) (by omega)]; exact a1
  have e2 : h1 26 2 = (hs.length : Int) := by rw [F1 26 (by omega) (by omega) (by omega)]; exact a2
  have J : Go x mtX1_remembers 70 [xR 26, xR p] [xI (((nx + 1) % 6 : Nat) : Int), xR 26] h1 (qV Q) := by
    refine pfX1_next rfl flX1_17 dX1_remembers_70 ?_
    refine go_aload_n dX1_remembers_73 rfl ?_
    refine go_aload_n dX1_remembers_74 rfl ?_
    refine gfX1_known rfl flX1_21 dX1_remembers_75 ?_
    rw [hset_nk (show (2 : Int) ≠ 1 by decide), e2]
    refine go_iconst dX1_remembers_78 ⟨by decide, by decide⟩ ?_
    refine go_iadd dX1_remembers_79 (by omega) (by omega) ?_
    refine go_aload_n dX1_remembers_80 rfl ?_
    refine gfX1_ring rfl flX1_11 dX1_remembers_81 ?_
    refine go_alen (Or.inr rfl) dX1_remembers_84 (⟨by rw [e6]; decide, by rw [e6]; decide⟩) ?_
    rw [e6]
    refine go_min mmX1_29 dX1_remembers_85 (by decide) (Nat.le_of_ble_eq_true rfl) ?_
    refine pfX1_known rfl flX1_21 dX1_remembers_88 ?_
    refine go_return dX1_remembers_91 rfl ?_
    refine hQ _ ((nx + 1) % 6) ⟨?_, ?_, Nat.mod_lt _ (by decide), by rw [List.length_take]; omega, fun k hk => ?_, fun j w hw => ?_⟩ (fun i q1 q2 => ?_)
    · rw [hset_nk (by decide), hset_eq]
    · rw [hset_eq, List.length_take, List.length_cons]; split <;> omega
    · rw [hset_ni (by omega), hset_ni (by omega)]
      by_cases e : k = nx
      · subst e; rw [P1.2.1]; omega
      · rw [F1 _ (by omega) (by omega) (by omega)]; exact a5 k hk
    · have hP9 : ∀ q, 28 ≤ q → ∀ i, i = q ∨ i = q + 1 ∨ i = q + 2 → hset (hset h1 26 1 (((nx + 1) % 6 : Nat) : Int)) 26 2 (if (6 : Int) < (hs.length : Int) + 1 then 6 else (hs.length : Int) + 1) i = h1 i := fun q hq i hi => by rw [hset_ni (by omega), hset_ni (by omega)]
      rw [List.getElem?_take] at hw
      split at hw
      · rename_i hj6
        cases j with
        | zero =>
          have : w = v := by simpa using hw.symm
          subst this
          have ep : rpos ((nx + 1) % 6) 0 = nx := by unfold rpos; omega
          rw [ep]
          exact P1.congr (hP9 _ (by omega) _ (Or.inl rfl)) (hP9 _ (by omega) _ (Or.inr (Or.inl rfl))) (hP9 _ (by omega) _ (Or.inr (Or.inr rfl)))
        | succ j =>
          rw [List.getElem?_cons_succ] at hw
          have hjl : j < hs.length := (List.getElem?_eq_some_iff.mp hw).1
          have ep : rpos ((nx + 1) % 6) (j + 1) = rpos nx j := by unfold rpos; omega
          have en : rpos nx j ≠ nx := by unfold rpos; omega
          have el : rpos nx j < 6 := Nat.mod_lt _ (by decide)
          rw [ep]
          have Z := (a6 j w hw).congr (h' := h1) (F1 _ (by omega) (by omega) (by omega)) (F1 _ (by omega) (by omega) (by omega)) (F1 _ (by omega) (by omega) (by omega))
          exact Z.congr (hP9 _ (by omega) _ (Or.inl rfl)) (hP9 _ (by omega) _ (Or.inr (Or.inl rfl))) (hP9 _ (by omega) _ (Or.inr (Or.inr rfl)))
      · cases hw
    · rw [hset_ni (by omega), hset_ni (by omega), F1 i (by omega) (by omega) (by omega)]
  refine go_aload_n dX1_remembers_45 rfl ?_
  refine go_aload_n dX1_remembers_46 rfl ?_
  refine gfX1_next rfl flX1_17 dX1_remembers_47 ?_
  rw [e1]
  refine go_iconst dX1_remembers_50 ⟨by decide, by decide⟩ ?_
  refine go_iadd dX1_remembers_51 (by omega) (by omega) ?_
  refine go_aload_n dX1_remembers_52 rfl ?_
  refine gfX1_ring rfl flX1_11 dX1_remembers_53 ?_
  refine go_alen (Or.inr rfl) dX1_remembers_56 (⟨by rw [e6]; decide, by rw [e6]; decide⟩) ?_
  refine go_icmp_ge (tgt := 69) dX1_remembers_57 (by decide) (fun c57 => ?_) (fun c57 => ?_)
  · refine go_iconst dX1_remembers_69 ⟨by decide, by decide⟩ ?_
    first | (rw [show (((nx + 1) % 6 : Nat) : Int) = (nx : Int) + 1 by omega] at J; exact J) | (rw [show (((nx + 1) % 6 : Nat) : Int) = 0 by omega] at J; exact J)
  · refine go_aload_n dX1_remembers_60 rfl ?_
    refine gfX1_next rfl flX1_17 dX1_remembers_61 ?_
    rw [e1]
    refine go_iconst dX1_remembers_64 ⟨by decide, by decide⟩ ?_
    refine go_iadd dX1_remembers_65 (by omega) (by omega) ?_
    refine go_goto (tgt := 70) dX1_remembers_66 (by decide) ?_
    first | (rw [show (((nx + 1) % 6 : Nat) : Int) = (nx : Int) + 1 by omega] at J; exact J) | (rw [show (((nx + 1) % 6 : Nat) : Int) = 0 by omega] at J; exact J)

set_option maxHeartbeats 4000000 in
set_option maxRecDepth 100000 in
theorem hi_recalls {x : mX} {h : mH} {Q : mH → Prop} {p nx : Nat} {hs : List PV} {v : PV} (hp : isPast p) (hpr : p + 3 ≤ 26 ∨ 46 ≤ p) (hl : v.2.2.2.2.length ≤ 60) (hs0 : 0 ≤ h (p + 1) 1) (HH : HiS h nx (v :: hs)) (hQ : ∀ h' nx', HiS h' nx' hs → PastV h' p v → (∀ i, i ≠ p → i ≠ p + 1 → i ≠ p + 2 → i ≠ 26 → h' i = h i) → Q h') : CtV x mtX1_recalls [xR 26, xR p] h Q := by
  obtain ⟨a1, a2, a3, a4, a5, a6⟩ := HH
  rw [List.length_cons] at a2 a4
  have e6 : ((ln (26 + 1) : Nat) : Int) = 6 := rfl
  obtain ⟨lt, elt⟩ : ∃ lt, rpos nx 0 = lt := ⟨_, rfl⟩
  have hlt : lt < 6 := by rw [← elt]; exact Nat.mod_lt _ (by decide)
  have elt2 : (lt = nx - 1 ∧ 0 < nx) ∨ (lt = 5 ∧ nx = 0) := by unfold rpos at elt; omega
  have J : Go x mtX1_recalls 31 [xR 26, xR p, xU] [xI (lt : Int)] h (qV Q) := by
    refine go_istore_n 2 dX1_recalls_31 rfl (Nat.le_of_ble_eq_true rfl) rfl (by dsimp only [List.set]) ?_
    refine go_iload_n dX1_recalls_32 rfl ?_
    refine go_if_lt_f (tgt := 54) dX1_recalls_33 (by decide) (by omega) ?_
    refine go_iload_n dX1_recalls_36 rfl ?_
    refine go_aload_n dX1_recalls_37 rfl ?_
    refine gfX1_ring rfl flX1_11 dX1_recalls_38 ?_
    refine go_alen (Or.inr rfl) dX1_recalls_41 (⟨by rw [e6]; decide, by rw [e6]; decide⟩) ?_
    refine go_icmp_ge_f (tgt := 54) dX1_recalls_42 (by decide) (by rw [e6]; omega) ?_
    refine go_aload_n dX1_recalls_45 rfl ?_
    refine gfX1_ring rfl flX1_11 dX1_recalls_46 ?_
    refine go_iload_n dX1_recalls_49 rfl ?_
    refine go_aaload rfl dX1_recalls_50 (by omega) (by rw [e6]; omega) ?_
    refine go_ifnonnull (tgt := 55) dX1_recalls_51 (by decide) ?_
    refine go_aload_n dX1_recalls_55 rfl ?_
    refine go_aload_n dX1_recalls_56 rfl ?_
    refine gfX1_ring rfl flX1_11 dX1_recalls_57 ?_
    refine go_iload_n dX1_recalls_60 rfl ?_
    refine go_aaload rfl dX1_recalls_61 (by omega) (by rw [e6]; omega) ?_
    rw [Int.toNat_natCast]
    refine go_cV1V hp.1 vlX1_25 dX1_recalls_62 (by decide) rfl rfl (by decide) (Nat.le_of_ble_eq_true rfl) (past_becomesP hp (ring_past lt hlt) (by omega) (by rw [← elt]; exact a6 0 v rfl) hl hs0 ?_)
    intro h1 P1 F1
    refine go_aload_n dX1_recalls_65 rfl ?_
    refine go_iload_n dX1_recalls_66 rfl ?_
    refine pfX1_next rfl flX1_17 dX1_recalls_67 ?_
    refine go_aload_n dX1_recalls_70 rfl ?_
    first | refine go_dupR dX1_recalls_71 ?_ | refine go_dupI dX1_recalls_71 ?_
    refine gfX1_known rfl flX1_21 dX1_recalls_72 ?_
    rw [hset_nk (show (2 : Int) ≠ 1 by decide), show h1 26 2 = (hs.length : Int) + 1 by rw [F1 26 (by omega) (by omega) (by omega)]; exact a2]
    refine go_iconst dX1_recalls_75 ⟨by decide, by decide⟩ ?_
    refine go_isub dX1_recalls_76 (by omega) (by omega) ?_
    refine pfX1_known rfl flX1_21 dX1_recalls_77 ?_
    refine go_return dX1_recalls_80 rfl ?_
    refine hQ _ lt ⟨?_, ?_, hlt, by omega, fun k hk => ?_, fun j w hw => ?_⟩ (P1.congr (by rw [hset_ni (by omega), hset_ni (by omega)]) (by rw [hset_ni (by omega), hset_ni (by omega)]) (by rw [hset_ni (by omega), hset_ni (by omega)])) (fun i q1 q2 q3 q4 => ?_)
    · rw [hset_nk (by decide), hset_eq]
    · rw [hset_eq]; omega
    · rw [hset_ni (by omega), hset_ni (by omega), F1 _ (by omega) (by omega) (by omega)]; exact a5 k hk
    · have ep : rpos lt j = rpos nx (j + 1) := by have := (List.getElem?_eq_some_iff.mp hw).1; unfold rpos at elt ⊢; omega
      have el : rpos nx (j + 1) < 6 := Nat.mod_lt _ (by decide)
      rw [ep]
      exact (a6 (j + 1) w hw).congr (by rw [hset_ni (by omega), hset_ni (by omega), F1 _ (by omega) (by omega) (by omega)]) (by rw [hset_ni (by omega), hset_ni (by omega), F1 _ (by omega) (by omega) (by omega)]) (by rw [hset_ni (by omega), hset_ni (by omega), F1 _ (by omega) (by omega) (by omega)])
    · rw [hset_ni q4, hset_ni q4, F1 i q1 q2 q3]
  refine ct_go (ls := [xR 26, xR p, xU]) (by decide +kernel) (Nat.le_of_ble_eq_true rfl) rfl ?_
  refine go_aload_n dX1_recalls_0 rfl ?_
  refine gfX1_known rfl flX1_21 dX1_recalls_1 ?_
  rw [a2]
  refine go_if_gt_t (tgt := 8) dX1_recalls_4 (by decide) (by omega) ?_
  refine go_aload_n dX1_recalls_8 rfl ?_
  refine gfX1_next rfl flX1_17 dX1_recalls_9 ?_
  rw [a1]
  refine go_if_le (tgt := 24) dX1_recalls_12 (by decide) (fun c12 => ?_) (fun c12 => ?_)
  · refine go_aload_n dX1_recalls_24 rfl ?_
    refine gfX1_ring rfl flX1_11 dX1_recalls_25 ?_
    refine go_alen (Or.inr rfl) dX1_recalls_28 (⟨by rw [e6]; decide, by rw [e6]; decide⟩) ?_
    rw [e6]
    refine go_iconst dX1_recalls_29 ⟨by decide, by decide⟩ ?_
    refine go_isub dX1_recalls_30 (by omega) (by omega) ?_
    first | (rw [show (lt : Int) = (nx : Int) - 1 by omega] at J; exact J) | (rw [show (lt : Int) = 6 - 1 by omega] at J; exact J)
  · refine go_aload_n dX1_recalls_15 rfl ?_
    refine gfX1_next rfl flX1_17 dX1_recalls_16 ?_
    rw [a1]
    refine go_iconst dX1_recalls_19 ⟨by decide, by decide⟩ ?_
    refine go_isub dX1_recalls_20 (by omega) (by omega) ?_
    refine go_goto (tgt := 31) dX1_recalls_21 (by decide) ?_
    first | (rw [show (lt : Int) = (nx : Int) - 1 by omega] at J; exact J) | (rw [show (lt : Int) = 6 - 1 by omega] at J; exact J)

set_option maxHeartbeats 4000000 in
set_option maxRecDepth 100000 in
theorem hi_losesAll {x : mX} {h : mH} {Q : mH → Prop} {nx : Nat} {hs : List PV} (HH : HiS h nx hs) (hQ : ∀ h', HiS h' nx [] → (∀ i, i ≠ 26 → h' i = h i) → Q h') : CtV x mtX1_losesAll [xR 26] h Q := by
  refine ct_go (ls := [xR 26]) (by decide +kernel) (Nat.le_of_ble_eq_true rfl) rfl ?_
  refine go_aload_n dX1_losesAll_0 rfl ?_
  refine go_iconst dX1_losesAll_1 ⟨by decide, by decide⟩ ?_
  refine pfX1_known rfl flX1_21 dX1_losesAll_2 ?_
  refine go_return dX1_losesAll_5 rfl ?_
  obtain ⟨a1, a2, a3, a4, a5, a6⟩ := HH
  refine hQ _ ⟨by rw [hset_nk (by decide)]; exact a1, hset_eq _ _ _ _, a3, by decide, fun k hk => by rw [hset_ni (by omega)]; exact a5 k hk, fun j v hv => by simp at hv⟩ (fun i q => hset_ni q)
