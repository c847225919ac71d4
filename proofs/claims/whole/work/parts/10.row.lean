/-! ===== Row ===== -/
def isRow (r N : Nat) : Prop := kd r = 6 ∧ kd (r + 1) = 10 ∧ ln (r + 1) = N ∧ N ≤ 3000
theorem hset_id {h : mH} {i : Nat} {k v : Int} (e : h i k = v) : hset h i k v = h := by
  funext a b
  by_cases q : a = i ∧ b = k
  · obtain ⟨rfl, rfl⟩ := q; rw [hset_eq, e]
  · rw [hset_ne (by omega)]
/-- a row's contents: how many, and which -/
def RowIs (h : mH) (r N : Nat) (n : Int) (f : Int → Int) : Prop := h r 1 = n ∧ 0 ≤ n ∧ n ≤ N ∧ ∀ k, 0 ≤ k → k < n → h (r + 1) k = f k

set_option maxHeartbeats 4000000 in
set_option maxRecDepth 100000 in
theorem row_at {x : mX} {h : mH} {Q : Int → mH → Prop} {r N : Nat} {i : Int} (hr : isRow r N) (hs : h r 1 ≤ N) (hQ : Q (if 0 ≤ i ∧ i < h r 1 then h (r + 1) i else 0) h) : CtI x mtX6_at [xR r, xI i] h Q := by
  obtain ⟨k1, k2, k3, k4⟩ := hr
  refine ct_go (ls := [xR r, xI i]) (by decide +kernel) (Nat.le_of_ble_eq_true rfl) rfl ?_
  refine go_iload_n dX6_at_0 rfl ?_
  refine go_if_lt (tgt := 30) dX6_at_1 (by decide) (fun c1 => ?_) (fun c1 => ?_)
  · refine go_iconst dX6_at_30 ⟨by decide, by decide⟩ ?_
    refine go_ireturn dX6_at_31 rfl ?_
    first | (rw [if_neg (by omega)] at hQ; exact hQ) | (rw [if_pos (by omega)] at hQ; exact hQ) | (exfalso; omega)
  · refine go_iload_n dX6_at_4 rfl ?_
    refine go_aload_n dX6_at_5 rfl ?_
    refine gfX6_size (by first | assumption | rfl) flX6_7 dX6_at_6 ?_
    refine go_icmp_ge (tgt := 30) dX6_at_9 (by decide) (fun c9 => ?_) (fun c9 => ?_)
    · refine go_iconst dX6_at_30 ⟨by decide, by decide⟩ ?_
      refine go_ireturn dX6_at_31 rfl ?_
      first | (rw [if_neg (by omega)] at hQ; exact hQ) | (rw [if_pos (by omega)] at hQ; exact hQ) | (exfalso; omega)
    · refine go_iload_n dX6_at_12 rfl ?_
      refine go_aload_n dX6_at_13 rfl ?_
      refine gfX6_items (by first | assumption | rfl) flX6_19 dX6_at_14 ?_
      refine go_alen (Or.inl (by first | assumption | rfl)) dX6_at_17 (⟨by omega, by omega⟩) ?_
      refine go_icmp_ge (tgt := 30) dX6_at_18 (by decide) (fun c18 => ?_) (fun c18 => ?_)
      · refine go_iconst dX6_at_30 ⟨by decide, by decide⟩ ?_
        refine go_ireturn dX6_at_31 rfl ?_
        first | (rw [if_neg (by omega)] at hQ; exact hQ) | (rw [if_pos (by omega)] at hQ; exact hQ) | (exfalso; omega)
      · refine go_aload_n dX6_at_21 rfl ?_
        refine gfX6_items (by first | assumption | rfl) flX6_19 dX6_at_22 ?_
        refine go_iload_n dX6_at_25 rfl ?_
        refine go_iaload (by first | assumption | rfl) dX6_at_26 (by omega) (by omega) ?_
        refine go_goto (tgt := 31) dX6_at_27 (by decide) ?_
        refine go_ireturn dX6_at_31 rfl ?_
        first | (rw [if_neg (by omega)] at hQ; exact hQ) | (rw [if_pos (by omega)] at hQ; exact hQ) | (exfalso; omega)

set_option maxHeartbeats 4000000 in
set_option maxRecDepth 100000 in
theorem row_isFull {x : mX} {h : mH} {Q : Int → mH → Prop} {r N : Nat} (hr : isRow r N) (hQ : Q (if h r 1 < N then 0 else 1) h) : CtI x mtX6_isFull [xR r] h Q := by
  obtain ⟨k1, k2, k3, k4⟩ := hr
  refine ct_go (ls := [xR r]) (by decide +kernel) (Nat.le_of_ble_eq_true rfl) rfl ?_
  refine go_aload_n dX6_isFull_0 rfl ?_
  refine gfX6_size (by first | assumption | rfl) flX6_7 dX6_isFull_1 ?_
  refine go_aload_n dX6_isFull_4 rfl ?_
  refine gfX6_items (by first | assumption | rfl) flX6_19 dX6_isFull_5 ?_
  refine go_alen (Or.inl (by first | assumption | rfl)) dX6_isFull_8 (⟨by omega, by omega⟩) ?_
  refine go_icmp_lt (tgt := 16) dX6_isFull_9 (by decide) (fun c9 => ?_) (fun c9 => ?_)
  · refine go_iconst dX6_isFull_16 ⟨by decide, by decide⟩ ?_
    refine go_zreturn dX6_isFull_17 rfl (by first | exact Or.inl rfl | exact Or.inr rfl) ?_
    first | (rw [if_neg (by omega)] at hQ; exact hQ) | (rw [if_pos (by omega)] at hQ; exact hQ) | (exfalso; omega)
  · refine go_iconst dX6_isFull_12 ⟨by decide, by decide⟩ ?_
    refine go_goto (tgt := 17) dX6_isFull_13 (by decide) ?_
    refine go_zreturn dX6_isFull_17 rfl (by first | exact Or.inl rfl | exact Or.inr rfl) ?_
    first | (rw [if_neg (by omega)] at hQ; exact hQ) | (rw [if_pos (by omega)] at hQ; exact hQ) | (exfalso; omega)

set_option maxHeartbeats 4000000 in
set_option maxRecDepth 100000 in
theorem row_puts {x : mX} {h : mH} {Q : mH → Prop} {r N : Nat} {v : Int} (hr : isRow r N) (h0 : 0 ≤ h r 1) (hs : h r 1 < N) (hQ : Q (hset (hset h (r + 1) (h r 1) v) r 1 (h r 1 + 1))) : CtV x mtX6_puts [xR r, xI v] h Q := by
  obtain ⟨k1, k2, k3, k4⟩ := hr
  refine ct_go (ls := [xR r, xI v]) (by decide +kernel) (Nat.le_of_ble_eq_true rfl) rfl ?_
  refine go_aload_n dX6_puts_0 rfl ?_
  refine gfX6_size (by first | assumption | rfl) flX6_7 dX6_puts_1 ?_
  refine go_if_lt_f (tgt := 19) dX6_puts_4 (by decide) (h0) ?_
  refine go_aload_n dX6_puts_7 rfl ?_
  refine gfX6_size (by first | assumption | rfl) flX6_7 dX6_puts_8 ?_
  refine go_aload_n dX6_puts_11 rfl ?_
  refine gfX6_items (by first | assumption | rfl) flX6_19 dX6_puts_12 ?_
  refine go_alen (Or.inl (by first | assumption | rfl)) dX6_puts_15 (⟨by omega, by omega⟩) ?_
  refine go_icmp_lt_t (tgt := 20) dX6_puts_16 (by decide) (by omega) ?_
  refine go_aload_n dX6_puts_20 rfl ?_
  refine gfX6_items (by first | assumption | rfl) flX6_19 dX6_puts_21 ?_
  refine go_aload_n dX6_puts_24 rfl ?_
  refine gfX6_size (by first | assumption | rfl) flX6_7 dX6_puts_25 ?_
  refine go_iload_n dX6_puts_28 rfl ?_
  refine go_iastore (by first | assumption | rfl) dX6_puts_29 (by omega) (by omega) ?_
  refine go_aload_n dX6_puts_30 rfl ?_
  first | refine go_dupR dX6_puts_31 ?_ | refine go_dupI dX6_puts_31 ?_
  refine gfX6_size (by first | assumption | rfl) flX6_7 dX6_puts_32 ?_
  refine go_iconst dX6_puts_35 ⟨by decide, by decide⟩ ?_
  rw [hset_ni (show r ≠ r + 1 by omega)]
  refine go_iadd dX6_puts_36 (by omega) (by omega) ?_
  refine pfX6_size (by first | assumption | rfl) flX6_7 dX6_puts_37 ?_
  refine go_return dX6_puts_40 rfl ?_
  exact hQ

set_option maxHeartbeats 4000000 in
set_option maxRecDepth 100000 in
theorem row_shortens {x : mX} {h : mH} {Q : mH → Prop} {r N : Nat} {v : Int} (hr : isRow r N) (h0 : 0 ≤ v) (hs : v ≤ h r 1) (hQ : Q (hset h r 1 v)) : CtV x mtX6_shortens [xR r, xI v] h Q := by
  obtain ⟨k1, k2, k3, k4⟩ := hr
  refine ct_go (ls := [xR r, xI v]) (by decide +kernel) (Nat.le_of_ble_eq_true rfl) rfl ?_
  refine go_iload_n dX6_shortens_0 rfl ?_
  refine go_if_lt_f (tgt := 17) dX6_shortens_1 (by decide) (h0) ?_
  refine go_iload_n dX6_shortens_4 rfl ?_
  refine go_aload_n dX6_shortens_5 rfl ?_
  refine gfX6_size (by first | assumption | rfl) flX6_7 dX6_shortens_6 ?_
  refine go_icmp_ge (tgt := 17) dX6_shortens_9 (by decide) (fun c9 => ?_) (fun c9 => ?_)
  · refine go_return dX6_shortens_17 rfl ?_
    first | exact hQ | (rw [hset_id (by omega)] at hQ; exact hQ)
  · refine go_aload_n dX6_shortens_12 rfl ?_
    refine go_iload_n dX6_shortens_13 rfl ?_
    refine pfX6_size (by first | assumption | rfl) flX6_7 dX6_shortens_14 ?_
    refine go_return dX6_shortens_17 rfl ?_
    first | exact hQ | (rw [hset_id (by omega)] at hQ; exact hQ)

/-- a row becomes as another -/
def cpRow (h : mH) (r o : Nat) (n : Int) : mH := fun a b => if a = r ∧ b = 1 then n else if a = r + 1 ∧ 0 ≤ b ∧ b < n then h (o + 1) b else h a b
theorem cpRow_step {h : mH} {r o : Nat} {n : Int} (hn : 0 ≤ n) (ho : o ≠ r) : hset (hset (cpRow h r o n) (r + 1) n (h (o + 1) n)) r 1 (n + 1) = cpRow h r o (n + 1) := by
  funext a b
  unfold hset cpRow
  by_cases e1 : a = r ∧ b = 1
  · simp only [if_pos e1]
  · simp only [if_neg e1]
    by_cases e2 : a = r + 1 ∧ b = n
    · rw [if_pos e2, if_pos (by omega), e2.2]
    · rw [if_neg e2]
      by_cases e3 : a = r + 1 ∧ 0 ≤ b ∧ b < n
      · rw [if_pos e3, if_pos (by omega)]
      · rw [if_neg e3, if_neg (by omega)]

set_option maxHeartbeats 4000000 in
set_option maxRecDepth 100000 in
theorem row_copies_loop {x : mX} {h : mH} {Q : mH → Prop} {r o N K : Nat} {n : Int} (hr : isRow r N) (hro : isRow o K) (hne : o ≠ r) (hne2 : o ≠ r + 1) (hne3 : o + 1 ≠ r) (hn : h o 1 = n) (hnN : n ≤ N) (hnK : n ≤ K) (hn0 : 0 ≤ n) (hQ : Q (cpRow h r o n)) :
    ∀ (d : Nat) (i : Int), 0 ≤ i → i ≤ n → n - i ≤ d → Go x mtX6_copies 12 [xR r, xR o, xI n, xI i] [] (cpRow h r o i) (qV Q) := by
  intro d
  induction d with
  | zero =>
    intro i hi0 hin hd
    have : i = n := by omega
    subst this
    refine go_iload_n dX6_copies_12 rfl ?_
    refine go_iload_n dX6_copies_13 rfl ?_
    refine go_icmp_ge_t (tgt := 32) dX6_copies_14 (by decide) (by omega) ?_
    refine go_return dX6_copies_32 rfl ?_
    exact hQ
  | succ d ih =>
    intro i hi0 hin hd
    have hN3 := hr.2.2.2
    by_cases hlt : i < n
    · have e1 : cpRow h r o i o 1 = n := by unfold cpRow; rw [if_neg (by omega), if_neg (by omega), hn]
      have e2 : ∀ k, 0 ≤ k → k < n → cpRow h r o i (o + 1) k = h (o + 1) k := by intro k _ _; unfold cpRow; rw [if_neg (by omega), if_neg (by omega)]
      have e3 : cpRow h r o i r 1 = i := by unfold cpRow; rw [if_pos ⟨rfl, rfl⟩]
      refine go_iload_n dX6_copies_12 rfl ?_
      refine go_iload_n dX6_copies_13 rfl ?_
      refine go_icmp_ge_f (tgt := 32) dX6_copies_14 (by decide) (by omega) ?_
      refine go_aload_n dX6_copies_17 rfl ?_
      refine go_aload_n dX6_copies_18 rfl ?_
      refine go_iload_n dX6_copies_19 rfl ?_
      refine go_cV1I hro.1 vlX6_23 dX6_copies_20 (by decide) rfl rfl (by decide) (Nat.le_of_ble_eq_true rfl) (row_at hro (by rw [e1]; omega) ?_)
      rw [if_pos (by omega), e2 i hi0 (by omega)]
      refine go_cV1V hr.1 vlX6_27 dX6_copies_23 (by decide) rfl rfl (by decide) (Nat.le_of_ble_eq_true rfl) (row_puts hr (by rw [e3]; omega) (by rw [e3]; omega) ?_)
      rw [e3, cpRow_step hi0 hne]
      refine go_iinc dX6_copies_26 rfl rfl rfl (by omega) (by omega) (by dsimp only [List.set]) ?_
      refine go_goto (tgt := 12) dX6_copies_29 (by decide) ?_
      exact ih (i + 1) (by omega) (by omega) (by omega)
    · have : i = n := by omega
      subst this
      refine go_iload_n dX6_copies_12 rfl ?_
      refine go_iload_n dX6_copies_13 rfl ?_
      refine go_icmp_ge_t (tgt := 32) dX6_copies_14 (by decide) (by omega) ?_
      refine go_return dX6_copies_32 rfl ?_
      exact hQ

set_option maxHeartbeats 4000000 in
set_option maxRecDepth 100000 in
theorem row_copies {x : mX} {h : mH} {Q : mH → Prop} {r o N K : Nat} {n : Int} (hr : isRow r N) (hro : isRow o K) (hne : o ≠ r) (hne2 : o ≠ r + 1) (hne3 : o + 1 ≠ r) (hn : h o 1 = n) (hnN : n ≤ N) (hnK : n ≤ K) (hn0 : 0 ≤ n) (hQ : Q (cpRow h r o n)) : CtV x mtX6_copies [xR r, xR o] h Q := by
  refine ct_go (ls := [xR r, xR o, xU, xU]) (by decide +kernel) (Nat.le_of_ble_eq_true rfl) rfl ?_
  refine go_aload_n dX6_copies_0 rfl ?_
  refine gfX6_size hro.1 flX6_7 dX6_copies_1 ?_
  refine go_istore_n 2 dX6_copies_4 rfl (Nat.le_of_ble_eq_true rfl) rfl (by dsimp only [List.set]) ?_
  refine go_aload_n dX6_copies_5 rfl ?_
  refine go_iconst dX6_copies_6 ⟨by decide, by decide⟩ ?_
  refine pfX6_size hr.1 flX6_7 dX6_copies_7 ?_
  refine go_iconst dX6_copies_10 ⟨by decide, by decide⟩ ?_
  refine go_istore_n 3 dX6_copies_11 rfl (Nat.le_of_ble_eq_true rfl) rfl (by dsimp only [List.set]) ?_
  subst hn
  have e0 : hset h r 1 0 = cpRow h r o 0 := by
    funext a b
    unfold hset cpRow
    by_cases e1 : a = r ∧ b = 1
    · rw [if_pos e1, if_pos e1]
    · rw [if_neg e1, if_neg e1, if_neg (by omega)]
  rw [e0]
  exact row_copies_loop hr hro hne hne2 hne3 rfl hnN hnK hn0 hQ (h o 1).toNat 0 (by omega) (by omega) (by omega)
