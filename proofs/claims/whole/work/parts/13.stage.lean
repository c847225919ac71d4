/-! ===== Stage ===== -/
theorem up_indN {P : Nat → Prop} (n : Nat) (st : ∀ s, s ≤ n → (s < n → P (s + 1)) → P s) : P 0 := by
  have key : ∀ (d s : Nat), s ≤ n → n - s ≤ d → P s := by
    intro d
    induction d with
    | zero => intro s h1 h2; exact st s h1 (fun h => absurd h (by omega))
    | succ d ih => intro s h1 h2; exact st s h1 (fun h => ih (s + 1) (by omega) (by omega))
  exact key n 0 (Nat.zero_le _) (by omega)
theorem shr_ok : ∀ m, m < 16 → ∀ s, s < 4 → Int32.ofInt ((m : Nat) : Int) >>> (Int32.ofInt ((s : Nat) : Int) &&& 31) = Int32.ofInt ((m >>> s : Nat) : Int) := by decide +kernel
theorem shr_bd : ∀ m, m < 16 → ∀ s, s < 4 → m >>> s < 16 := by decide +kernel
theorem and1_ok : ∀ m, m < 16 → ∀ s, s < 4 → Int32.ofInt ((m >>> s : Nat) : Int) &&& Int32.ofInt 1 = Int32.ofInt (b1 (hb m s)) := by decide +kernel
theorem shl_ok : ∀ s, s < 4 → Int32.ofInt 1 <<< (Int32.ofInt ((s : Nat) : Int) &&& 31) = Int32.ofInt ((2 ^ s : Nat) : Int) := by decide +kernel
theorem orp_ok : ∀ s, s < 4 → ∀ m, m < 2 ^ s → Int32.ofInt ((m : Nat) : Int) ||| Int32.ofInt ((2 ^ s : Nat) : Int) = Int32.ofInt ((m + 2 ^ s : Nat) : Int) := by decide +kernel
theorem orm_ok : ∀ a, a < 16 → ∀ b, b < 16 → Int32.ofInt ((a : Nat) : Int) ||| Int32.ofInt ((b : Nat) : Int) = Int32.ofInt ((a ||| b : Nat) : Int) := by decide +kernel
theorem orm_bd : ∀ a, a < 16 → ∀ b, b < 16 → a ||| b < 16 := by decide +kernel
theorem pow_bd : ∀ s, s < 4 → 2 ^ s ≤ 8 := by decide +kernel
theorem pow_bd2 : ∀ s, s < 4 → 2 ^ (s + 1) ≤ 16 := by decide +kernel
theorem inR_nat {n : Nat} (h : n < 100000) : inR (n : Int) := ⟨by omega, by omega⟩
theorem b1_bd (b : Bool) : 0 ≤ b1 b ∧ b1 b ≤ 1 := by cases b <;> decide
theorem pc4_bd (m : Nat) : 0 ≤ pc4 m ∧ pc4 m ≤ 4 := by
  have h0 := b1_bd (hb m 0); have h1 := b1_bd (hb m 1); have h2 := b1_bd (hb m 2); have h3 := b1_bd (hb m 3)
  unfold pc4; omega
theorem tot_bd {w : Nat → Int} {B : Int} : ∀ {n : Nat}, (∀ k, k < n → 0 ≤ w k ∧ w k ≤ B) → 0 ≤ tot w n ∧ tot w n ≤ n * B
  | 0, _ => by simp [tot]
  | n + 1, h => by
    have h1 := tot_bd (n := n) (fun k hk => h k (by omega))
    have h2 := h n (by omega)
    rw [tot]
    have e : ((n + 1 : Nat) : Int) * B = (n : Int) * B + B := by rw [show ((n + 1 : Nat) : Int) = (n : Int) + 1 by omega, Int.add_mul, Int.one_mul]
    rw [e]; omega
theorem opn_congr {w w' : Nat → Int} : ∀ {n : Nat}, (∀ k, k < n → w k = w' k) → opn w n = opn w' n
  | 0, _ => rfl
  | n + 1, h => by rw [opn, opn, opn_congr (n := n) (fun k hk => h k (by omega)), h n (by omega)]
theorem wE_lt {cs : Int → Int} {pl : Int} {sh s : Nat} (h : s < 4) : wE cs pl sh s = wS cs pl sh s := by unfold wE; rw [if_neg (by omega)]
theorem wE_4 {cs : Int → Int} {pl : Int} {sh : Nat} : wE cs pl sh 4 = esc pl sh (opn (wS cs pl sh) 4) := by unfold wE; rw [if_pos rfl]
theorem esc_bd (pl : Int) (sh op : Nat) : 0 ≤ esc pl sh op ∧ esc pl sh op ≤ 4 := by
  unfold esc
  split
  · omega
  · exact pc4_bd op

set_option maxHeartbeats 4000000 in
set_option maxRecDepth 100000 in
theorem j_bit_0 {x : mX} {h : mH} {Q : Int → mH → Prop} (hQ : Q 0 h) : CtI x mtJ6_bitCount_0f7a4 [xI 0] h Q := by
  refine ct_go (ls := [xI 0]) (by decide +kernel) (Nat.le_of_ble_eq_true rfl) rfl ?_
  refine go_iload_n dJ6_bitCount_0f7a4_0 rfl ?_
  refine go_iload_n dJ6_bitCount_0f7a4_1 rfl ?_
  refine go_iconst dJ6_bitCount_0f7a4_2 ⟨by decide, by decide⟩ ?_
  refine go_iushr (z := 0) dJ6_bitCount_0f7a4_3 (by decide +kernel) ⟨by decide, by decide⟩ ?_
  refine go_ldcw dJ6_bitCount_0f7a4_4 knJ6_265 ⟨by decide, by decide⟩ ?_
  refine go_iand (z := 0) dJ6_bitCount_0f7a4_7 (by decide +kernel) ⟨by decide, by decide⟩ ?_
  refine go_isub dJ6_bitCount_0f7a4_8 (by decide) (by decide) ?_
  refine go_istore_n 0 dJ6_bitCount_0f7a4_9 rfl (Nat.le_of_ble_eq_true rfl) rfl (by dsimp only [List.set]) ?_
  refine go_iload_n dJ6_bitCount_0f7a4_10 rfl ?_
  refine go_ldcw dJ6_bitCount_0f7a4_11 knJ6_266 ⟨by decide, by decide⟩ ?_
  refine go_iand (z := 0) dJ6_bitCount_0f7a4_14 (by decide +kernel) ⟨by decide, by decide⟩ ?_
  refine go_iload_n dJ6_bitCount_0f7a4_15 rfl ?_
  refine go_iconst dJ6_bitCount_0f7a4_16 ⟨by decide, by decide⟩ ?_
  refine go_iushr (z := 0) dJ6_bitCount_0f7a4_17 (by decide +kernel) ⟨by decide, by decide⟩ ?_
  refine go_ldcw dJ6_bitCount_0f7a4_18 knJ6_266 ⟨by decide, by decide⟩ ?_
  refine go_iand (z := 0) dJ6_bitCount_0f7a4_21 (by decide +kernel) ⟨by decide, by decide⟩ ?_
  refine go_iadd dJ6_bitCount_0f7a4_22 (by decide) (by decide) ?_
  refine go_istore_n 0 dJ6_bitCount_0f7a4_23 rfl (Nat.le_of_ble_eq_true rfl) rfl (by dsimp only [List.set]) ?_
  refine go_iload_n dJ6_bitCount_0f7a4_24 rfl ?_
  refine go_iload_n dJ6_bitCount_0f7a4_25 rfl ?_
  refine go_iconst dJ6_bitCount_0f7a4_26 ⟨by decide, by decide⟩ ?_
  refine go_iushr (z := 0) dJ6_bitCount_0f7a4_27 (by decide +kernel) ⟨by decide, by decide⟩ ?_
  refine go_iadd dJ6_bitCount_0f7a4_28 (by decide) (by decide) ?_
  refine go_ldcw dJ6_bitCount_0f7a4_29 knJ6_267 ⟨by decide, by decide⟩ ?_
  refine go_iand (z := 0) dJ6_bitCount_0f7a4_32 (by decide +kernel) ⟨by decide, by decide⟩ ?_
  refine go_istore_n 0 dJ6_bitCount_0f7a4_33 rfl (Nat.le_of_ble_eq_true rfl) rfl (by dsimp only [List.set]) ?_
  refine go_iload_n dJ6_bitCount_0f7a4_34 rfl ?_
  refine go_iload_n dJ6_bitCount_0f7a4_35 rfl ?_
  refine go_bipush dJ6_bitCount_0f7a4_36 (by decide +kernel) ⟨by decide, by decide⟩ ?_
  refine go_iushr (z := 0) dJ6_bitCount_0f7a4_38 (by decide +kernel) ⟨by decide, by decide⟩ ?_
  refine go_iadd dJ6_bitCount_0f7a4_39 (by decide) (by decide) ?_
  refine go_istore_n 0 dJ6_bitCount_0f7a4_40 rfl (Nat.le_of_ble_eq_true rfl) rfl (by dsimp only [List.set]) ?_
  refine go_iload_n dJ6_bitCount_0f7a4_41 rfl ?_
  refine go_iload_n dJ6_bitCount_0f7a4_42 rfl ?_
  refine go_bipush dJ6_bitCount_0f7a4_43 (by decide +kernel) ⟨by decide, by decide⟩ ?_
  refine go_iushr (z := 0) dJ6_bitCount_0f7a4_45 (by decide +kernel) ⟨by decide, by decide⟩ ?_
  refine go_iadd dJ6_bitCount_0f7a4_46 (by decide) (by decide) ?_
  refine go_istore_n 0 dJ6_bitCount_0f7a4_47 rfl (Nat.le_of_ble_eq_true rfl) rfl (by dsimp only [List.set]) ?_
  refine go_iload_n dJ6_bitCount_0f7a4_48 rfl ?_
  refine go_bipush dJ6_bitCount_0f7a4_49 (by decide +kernel) ⟨by decide, by decide⟩ ?_
  refine go_iand (z := 0) dJ6_bitCount_0f7a4_51 (by decide +kernel) ⟨by decide, by decide⟩ ?_
  refine go_ireturn dJ6_bitCount_0f7a4_52 rfl ?_
  exact hQ

set_option maxHeartbeats 4000000 in
set_option maxRecDepth 100000 in
theorem j_bit_1 {x : mX} {h : mH} {Q : Int → mH → Prop} (hQ : Q 1 h) : CtI x mtJ6_bitCount_0f7a4 [xI 1] h Q := by
  refine ct_go (ls := [xI 1]) (by decide +kernel) (Nat.le_of_ble_eq_true rfl) rfl ?_
  refine go_iload_n dJ6_bitCount_0f7a4_0 rfl ?_
  refine go_iload_n dJ6_bitCount_0f7a4_1 rfl ?_
  refine go_iconst dJ6_bitCount_0f7a4_2 ⟨by decide, by decide⟩ ?_
  refine go_iushr (z := 0) dJ6_bitCount_0f7a4_3 (by decide +kernel) ⟨by decide, by decide⟩ ?_
  refine go_ldcw dJ6_bitCount_0f7a4_4 knJ6_265 ⟨by decide, by decide⟩ ?_
  refine go_iand (z := 0) dJ6_bitCount_0f7a4_7 (by decide +kernel) ⟨by decide, by decide⟩ ?_
  refine go_isub dJ6_bitCount_0f7a4_8 (by decide) (by decide) ?_
  refine go_istore_n 0 dJ6_bitCount_0f7a4_9 rfl (Nat.le_of_ble_eq_true rfl) rfl (by dsimp only [List.set]) ?_
  refine go_iload_n dJ6_bitCount_0f7a4_10 rfl ?_
  refine go_ldcw dJ6_bitCount_0f7a4_11 knJ6_266 ⟨by decide, by decide⟩ ?_
  refine go_iand (z := 1) dJ6_bitCount_0f7a4_14 (by decide +kernel) ⟨by decide, by decide⟩ ?_
  refine go_iload_n dJ6_bitCount_0f7a4_15 rfl ?_
  refine go_iconst dJ6_bitCount_0f7a4_16 ⟨by decide, by decide⟩ ?_
  refine go_iushr (z := 0) dJ6_bitCount_0f7a4_17 (by decide +kernel) ⟨by decide, by decide⟩ ?_
  refine go_ldcw dJ6_bitCount_0f7a4_18 knJ6_266 ⟨by decide, by decide⟩ ?_
  refine go_iand (z := 0) dJ6_bitCount_0f7a4_21 (by decide +kernel) ⟨by decide, by decide⟩ ?_
  refine go_iadd dJ6_bitCount_0f7a4_22 (by decide) (by decide) ?_
  refine go_istore_n 0 dJ6_bitCount_0f7a4_23 rfl (Nat.le_of_ble_eq_true rfl) rfl (by dsimp only [List.set]) ?_
  refine go_iload_n dJ6_bitCount_0f7a4_24 rfl ?_
  refine go_iload_n dJ6_bitCount_0f7a4_25 rfl ?_
  refine go_iconst dJ6_bitCount_0f7a4_26 ⟨by decide, by decide⟩ ?_
  refine go_iushr (z := 0) dJ6_bitCount_0f7a4_27 (by decide +kernel) ⟨by decide, by decide⟩ ?_
  refine go_iadd dJ6_bitCount_0f7a4_28 (by decide) (by decide) ?_
  refine go_ldcw dJ6_bitCount_0f7a4_29 knJ6_267 ⟨by decide, by decide⟩ ?_
  refine go_iand (z := 1) dJ6_bitCount_0f7a4_32 (by decide +kernel) ⟨by decide, by decide⟩ ?_
  refine go_istore_n 0 dJ6_bitCount_0f7a4_33 rfl (Nat.le_of_ble_eq_true rfl) rfl (by dsimp only [List.set]) ?_
  refine go_iload_n dJ6_bitCount_0f7a4_34 rfl ?_
  refine go_iload_n dJ6_bitCount_0f7a4_35 rfl ?_
  refine go_bipush dJ6_bitCount_0f7a4_36 (by decide +kernel) ⟨by decide, by decide⟩ ?_
  refine go_iushr (z := 0) dJ6_bitCount_0f7a4_38 (by decide +kernel) ⟨by decide, by decide⟩ ?_
  refine go_iadd dJ6_bitCount_0f7a4_39 (by decide) (by decide) ?_
  refine go_istore_n 0 dJ6_bitCount_0f7a4_40 rfl (Nat.le_of_ble_eq_true rfl) rfl (by dsimp only [List.set]) ?_
  refine go_iload_n dJ6_bitCount_0f7a4_41 rfl ?_
  refine go_iload_n dJ6_bitCount_0f7a4_42 rfl ?_
  refine go_bipush dJ6_bitCount_0f7a4_43 (by decide +kernel) ⟨by decide, by decide⟩ ?_
  refine go_iushr (z := 0) dJ6_bitCount_0f7a4_45 (by decide +kernel) ⟨by decide, by decide⟩ ?_
  refine go_iadd dJ6_bitCount_0f7a4_46 (by decide) (by decide) ?_
  refine go_istore_n 0 dJ6_bitCount_0f7a4_47 rfl (Nat.le_of_ble_eq_true rfl) rfl (by dsimp only [List.set]) ?_
  refine go_iload_n dJ6_bitCount_0f7a4_48 rfl ?_
  refine go_bipush dJ6_bitCount_0f7a4_49 (by decide +kernel) ⟨by decide, by decide⟩ ?_
  refine go_iand (z := 1) dJ6_bitCount_0f7a4_51 (by decide +kernel) ⟨by decide, by decide⟩ ?_
  refine go_ireturn dJ6_bitCount_0f7a4_52 rfl ?_
  exact hQ

set_option maxHeartbeats 4000000 in
set_option maxRecDepth 100000 in
theorem j_bit_2 {x : mX} {h : mH} {Q : Int → mH → Prop} (hQ : Q 1 h) : CtI x mtJ6_bitCount_0f7a4 [xI 2] h Q := by
  refine ct_go (ls := [xI 2]) (by decide +kernel) (Nat.le_of_ble_eq_true rfl) rfl ?_
  refine go_iload_n dJ6_bitCount_0f7a4_0 rfl ?_
  refine go_iload_n dJ6_bitCount_0f7a4_1 rfl ?_
  refine go_iconst dJ6_bitCount_0f7a4_2 ⟨by decide, by decide⟩ ?_
  refine go_iushr (z := 1) dJ6_bitCount_0f7a4_3 (by decide +kernel) ⟨by decide, by decide⟩ ?_
  refine go_ldcw dJ6_bitCount_0f7a4_4 knJ6_265 ⟨by decide, by decide⟩ ?_
  refine go_iand (z := 1) dJ6_bitCount_0f7a4_7 (by decide +kernel) ⟨by decide, by decide⟩ ?_
  refine go_isub dJ6_bitCount_0f7a4_8 (by decide) (by decide) ?_
  refine go_istore_n 0 dJ6_bitCount_0f7a4_9 rfl (Nat.le_of_ble_eq_true rfl) rfl (by dsimp only [List.set]) ?_
  refine go_iload_n dJ6_bitCount_0f7a4_10 rfl ?_
  refine go_ldcw dJ6_bitCount_0f7a4_11 knJ6_266 ⟨by decide, by decide⟩ ?_
  refine go_iand (z := 1) dJ6_bitCount_0f7a4_14 (by decide +kernel) ⟨by decide, by decide⟩ ?_
  refine go_iload_n dJ6_bitCount_0f7a4_15 rfl ?_
  refine go_iconst dJ6_bitCount_0f7a4_16 ⟨by decide, by decide⟩ ?_
  refine go_iushr (z := 0) dJ6_bitCount_0f7a4_17 (by decide +kernel) ⟨by decide, by decide⟩ ?_
  refine go_ldcw dJ6_bitCount_0f7a4_18 knJ6_266 ⟨by decide, by decide⟩ ?_
  refine go_iand (z := 0) dJ6_bitCount_0f7a4_21 (by decide +kernel) ⟨by decide, by decide⟩ ?_
  refine go_iadd dJ6_bitCount_0f7a4_22 (by decide) (by decide) ?_
  refine go_istore_n 0 dJ6_bitCount_0f7a4_23 rfl (Nat.le_of_ble_eq_true rfl) rfl (by dsimp only [List.set]) ?_
  refine go_iload_n dJ6_bitCount_0f7a4_24 rfl ?_
  refine go_iload_n dJ6_bitCount_0f7a4_25 rfl ?_
  refine go_iconst dJ6_bitCount_0f7a4_26 ⟨by decide, by decide⟩ ?_
  refine go_iushr (z := 0) dJ6_bitCount_0f7a4_27 (by decide +kernel) ⟨by decide, by decide⟩ ?_
  refine go_iadd dJ6_bitCount_0f7a4_28 (by decide) (by decide) ?_
  refine go_ldcw dJ6_bitCount_0f7a4_29 knJ6_267 ⟨by decide, by decide⟩ ?_
  refine go_iand (z := 1) dJ6_bitCount_0f7a4_32 (by decide +kernel) ⟨by decide, by decide⟩ ?_
  refine go_istore_n 0 dJ6_bitCount_0f7a4_33 rfl (Nat.le_of_ble_eq_true rfl) rfl (by dsimp only [List.set]) ?_
  refine go_iload_n dJ6_bitCount_0f7a4_34 rfl ?_
  refine go_iload_n dJ6_bitCount_0f7a4_35 rfl ?_
  refine go_bipush dJ6_bitCount_0f7a4_36 (by decide +kernel) ⟨by decide, by decide⟩ ?_
  refine go_iushr (z := 0) dJ6_bitCount_0f7a4_38 (by decide +kernel) ⟨by decide, by decide⟩ ?_
  refine go_iadd dJ6_bitCount_0f7a4_39 (by decide) (by decide) ?_
  refine go_istore_n 0 dJ6_bitCount_0f7a4_40 rfl (Nat.le_of_ble_eq_true rfl) rfl (by dsimp only [List.set]) ?_
  refine go_iload_n dJ6_bitCount_0f7a4_41 rfl ?_
  refine go_iload_n dJ6_bitCount_0f7a4_42 rfl ?_
  refine go_bipush dJ6_bitCount_0f7a4_43 (by decide +kernel) ⟨by decide, by decide⟩ ?_
  refine go_iushr (z := 0) dJ6_bitCount_0f7a4_45 (by decide +kernel) ⟨by decide, by decide⟩ ?_
  refine go_iadd dJ6_bitCount_0f7a4_46 (by decide) (by decide) ?_
  refine go_istore_n 0 dJ6_bitCount_0f7a4_47 rfl (Nat.le_of_ble_eq_true rfl) rfl (by dsimp only [List.set]) ?_
  refine go_iload_n dJ6_bitCount_0f7a4_48 rfl ?_
  refine go_bipush dJ6_bitCount_0f7a4_49 (by decide +kernel) ⟨by decide, by decide⟩ ?_
  refine go_iand (z := 1) dJ6_bitCount_0f7a4_51 (by decide +kernel) ⟨by decide, by decide⟩ ?_
  refine go_ireturn dJ6_bitCount_0f7a4_52 rfl ?_
  exact hQ

set_option maxHeartbeats 4000000 in
set_option maxRecDepth 100000 in
theorem j_bit_3 {x : mX} {h : mH} {Q : Int → mH → Prop} (hQ : Q 2 h) : CtI x mtJ6_bitCount_0f7a4 [xI 3] h Q := by
  refine ct_go (ls := [xI 3]) (by decide +kernel) (Nat.le_of_ble_eq_true rfl) rfl ?_
  refine go_iload_n dJ6_bitCount_0f7a4_0 rfl ?_
  refine go_iload_n dJ6_bitCount_0f7a4_1 rfl ?_
  refine go_iconst dJ6_bitCount_0f7a4_2 ⟨by decide, by decide⟩ ?_
  refine go_iushr (z := 1) dJ6_bitCount_0f7a4_3 (by decide +kernel) ⟨by decide, by decide⟩ ?_
  refine go_ldcw dJ6_bitCount_0f7a4_4 knJ6_265 ⟨by decide, by decide⟩ ?_
  refine go_iand (z := 1) dJ6_bitCount_0f7a4_7 (by decide +kernel) ⟨by decide, by decide⟩ ?_
  refine go_isub dJ6_bitCount_0f7a4_8 (by decide) (by decide) ?_
  refine go_istore_n 0 dJ6_bitCount_0f7a4_9 rfl (Nat.le_of_ble_eq_true rfl) rfl (by dsimp only [List.set]) ?_
  refine go_iload_n dJ6_bitCount_0f7a4_10 rfl ?_
  refine go_ldcw dJ6_bitCount_0f7a4_11 knJ6_266 ⟨by decide, by decide⟩ ?_
  refine go_iand (z := 2) dJ6_bitCount_0f7a4_14 (by decide +kernel) ⟨by decide, by decide⟩ ?_
  refine go_iload_n dJ6_bitCount_0f7a4_15 rfl ?_
  refine go_iconst dJ6_bitCount_0f7a4_16 ⟨by decide, by decide⟩ ?_
  refine go_iushr (z := 0) dJ6_bitCount_0f7a4_17 (by decide +kernel) ⟨by decide, by decide⟩ ?_
  refine go_ldcw dJ6_bitCount_0f7a4_18 knJ6_266 ⟨by decide, by decide⟩ ?_
  refine go_iand (z := 0) dJ6_bitCount_0f7a4_21 (by decide +kernel) ⟨by decide, by decide⟩ ?_
  refine go_iadd dJ6_bitCount_0f7a4_22 (by decide) (by decide) ?_
  refine go_istore_n 0 dJ6_bitCount_0f7a4_23 rfl (Nat.le_of_ble_eq_true rfl) rfl (by dsimp only [List.set]) ?_
  refine go_iload_n dJ6_bitCount_0f7a4_24 rfl ?_
  refine go_iload_n dJ6_bitCount_0f7a4_25 rfl ?_
  refine go_iconst dJ6_bitCount_0f7a4_26 ⟨by decide, by decide⟩ ?_
  refine go_iushr (z := 0) dJ6_bitCount_0f7a4_27 (by decide +kernel) ⟨by decide, by decide⟩ ?_
  refine go_iadd dJ6_bitCount_0f7a4_28 (by decide) (by decide) ?_
  refine go_ldcw dJ6_bitCount_0f7a4_29 knJ6_267 ⟨by decide, by decide⟩ ?_
  refine go_iand (z := 2) dJ6_bitCount_0f7a4_32 (by decide +kernel) ⟨by decide, by decide⟩ ?_
  refine go_istore_n 0 dJ6_bitCount_0f7a4_33 rfl (Nat.le_of_ble_eq_true rfl) rfl (by dsimp only [List.set]) ?_
  refine go_iload_n dJ6_bitCount_0f7a4_34 rfl ?_
  refine go_iload_n dJ6_bitCount_0f7a4_35 rfl ?_
  refine go_bipush dJ6_bitCount_0f7a4_36 (by decide +kernel) ⟨by decide, by decide⟩ ?_
  refine go_iushr (z := 0) dJ6_bitCount_0f7a4_38 (by decide +kernel) ⟨by decide, by decide⟩ ?_
  refine go_iadd dJ6_bitCount_0f7a4_39 (by decide) (by decide) ?_
  refine go_istore_n 0 dJ6_bitCount_0f7a4_40 rfl (Nat.le_of_ble_eq_true rfl) rfl (by dsimp only [List.set]) ?_
  refine go_iload_n dJ6_bitCount_0f7a4_41 rfl ?_
  refine go_iload_n dJ6_bitCount_0f7a4_42 rfl ?_
  refine go_bipush dJ6_bitCount_0f7a4_43 (by decide +kernel) ⟨by decide, by decide⟩ ?_
  refine go_iushr (z := 0) dJ6_bitCount_0f7a4_45 (by decide +kernel) ⟨by decide, by decide⟩ ?_
  refine go_iadd dJ6_bitCount_0f7a4_46 (by decide) (by decide) ?_
  refine go_istore_n 0 dJ6_bitCount_0f7a4_47 rfl (Nat.le_of_ble_eq_true rfl) rfl (by dsimp only [List.set]) ?_
  refine go_iload_n dJ6_bitCount_0f7a4_48 rfl ?_
  refine go_bipush dJ6_bitCount_0f7a4_49 (by decide +kernel) ⟨by decide, by decide⟩ ?_
  refine go_iand (z := 2) dJ6_bitCount_0f7a4_51 (by decide +kernel) ⟨by decide, by decide⟩ ?_
  refine go_ireturn dJ6_bitCount_0f7a4_52 rfl ?_
  exact hQ

set_option maxHeartbeats 4000000 in
set_option maxRecDepth 100000 in
theorem j_bit_4 {x : mX} {h : mH} {Q : Int → mH → Prop} (hQ : Q 1 h) : CtI x mtJ6_bitCount_0f7a4 [xI 4] h Q := by
  refine ct_go (ls := [xI 4]) (by decide +kernel) (Nat.le_of_ble_eq_true rfl) rfl ?_
  refine go_iload_n dJ6_bitCount_0f7a4_0 rfl ?_
  refine go_iload_n dJ6_bitCount_0f7a4_1 rfl ?_
  refine go_iconst dJ6_bitCount_0f7a4_2 ⟨by decide, by decide⟩ ?_
  refine go_iushr (z := 2) dJ6_bitCount_0f7a4_3 (by decide +kernel) ⟨by decide, by decide⟩ ?_
  refine go_ldcw dJ6_bitCount_0f7a4_4 knJ6_265 ⟨by decide, by decide⟩ ?_
  refine go_iand (z := 0) dJ6_bitCount_0f7a4_7 (by decide +kernel) ⟨by decide, by decide⟩ ?_
  refine go_isub dJ6_bitCount_0f7a4_8 (by decide) (by decide) ?_
  refine go_istore_n 0 dJ6_bitCount_0f7a4_9 rfl (Nat.le_of_ble_eq_true rfl) rfl (by dsimp only [List.set]) ?_
  refine go_iload_n dJ6_bitCount_0f7a4_10 rfl ?_
  refine go_ldcw dJ6_bitCount_0f7a4_11 knJ6_266 ⟨by decide, by decide⟩ ?_
  refine go_iand (z := 0) dJ6_bitCount_0f7a4_14 (by decide +kernel) ⟨by decide, by decide⟩ ?_
  refine go_iload_n dJ6_bitCount_0f7a4_15 rfl ?_
  refine go_iconst dJ6_bitCount_0f7a4_16 ⟨by decide, by decide⟩ ?_
  refine go_iushr (z := 1) dJ6_bitCount_0f7a4_17 (by decide +kernel) ⟨by decide, by decide⟩ ?_
  refine go_ldcw dJ6_bitCount_0f7a4_18 knJ6_266 ⟨by decide, by decide⟩ ?_
  refine go_iand (z := 1) dJ6_bitCount_0f7a4_21 (by decide +kernel) ⟨by decide, by decide⟩ ?_
  refine go_iadd dJ6_bitCount_0f7a4_22 (by decide) (by decide) ?_
  refine go_istore_n 0 dJ6_bitCount_0f7a4_23 rfl (Nat.le_of_ble_eq_true rfl) rfl (by dsimp only [List.set]) ?_
  refine go_iload_n dJ6_bitCount_0f7a4_24 rfl ?_
  refine go_iload_n dJ6_bitCount_0f7a4_25 rfl ?_
  refine go_iconst dJ6_bitCount_0f7a4_26 ⟨by decide, by decide⟩ ?_
  refine go_iushr (z := 0) dJ6_bitCount_0f7a4_27 (by decide +kernel) ⟨by decide, by decide⟩ ?_
  refine go_iadd dJ6_bitCount_0f7a4_28 (by decide) (by decide) ?_
  refine go_ldcw dJ6_bitCount_0f7a4_29 knJ6_267 ⟨by decide, by decide⟩ ?_
  refine go_iand (z := 1) dJ6_bitCount_0f7a4_32 (by decide +kernel) ⟨by decide, by decide⟩ ?_
  refine go_istore_n 0 dJ6_bitCount_0f7a4_33 rfl (Nat.le_of_ble_eq_true rfl) rfl (by dsimp only [List.set]) ?_
  refine go_iload_n dJ6_bitCount_0f7a4_34 rfl ?_
  refine go_iload_n dJ6_bitCount_0f7a4_35 rfl ?_
  refine go_bipush dJ6_bitCount_0f7a4_36 (by decide +kernel) ⟨by decide, by decide⟩ ?_
  refine go_iushr (z := 0) dJ6_bitCount_0f7a4_38 (by decide +kernel) ⟨by decide, by decide⟩ ?_
  refine go_iadd dJ6_bitCount_0f7a4_39 (by decide) (by decide) ?_
  refine go_istore_n 0 dJ6_bitCount_0f7a4_40 rfl (Nat.le_of_ble_eq_true rfl) rfl (by dsimp only [List.set]) ?_
  refine go_iload_n dJ6_bitCount_0f7a4_41 rfl ?_
  refine go_iload_n dJ6_bitCount_0f7a4_42 rfl ?_
  refine go_bipush dJ6_bitCount_0f7a4_43 (by decide +kernel) ⟨by decide, by decide⟩ ?_
  refine go_iushr (z := 0) dJ6_bitCount_0f7a4_45 (by decide +kernel) ⟨by decide, by decide⟩ ?_
  refine go_iadd dJ6_bitCount_0f7a4_46 (by decide) (by decide) ?_
  refine go_istore_n 0 dJ6_bitCount_0f7a4_47 rfl (Nat.le_of_ble_eq_true rfl) rfl (by dsimp only [List.set]) ?_
  refine go_iload_n dJ6_bitCount_0f7a4_48 rfl ?_
  refine go_bipush dJ6_bitCount_0f7a4_49 (by decide +kernel) ⟨by decide, by decide⟩ ?_
  refine go_iand (z := 1) dJ6_bitCount_0f7a4_51 (by decide +kernel) ⟨by decide, by decide⟩ ?_
  refine go_ireturn dJ6_bitCount_0f7a4_52 rfl ?_
  exact hQ

set_option maxHeartbeats 4000000 in
set_option maxRecDepth 100000 in
theorem j_bit_5 {x : mX} {h : mH} {Q : Int → mH → Prop} (hQ : Q 2 h) : CtI x mtJ6_bitCount_0f7a4 [xI 5] h Q := by
  refine ct_go (ls := [xI 5]) (by decide +kernel) (Nat.le_of_ble_eq_true rfl) rfl ?_
  refine go_iload_n dJ6_bitCount_0f7a4_0 rfl ?_
  refine go_iload_n dJ6_bitCount_0f7a4_1 rfl ?_
  refine go_iconst dJ6_bitCount_0f7a4_2 ⟨by decide, by decide⟩ ?_
  refine go_iushr (z := 2) dJ6_bitCount_0f7a4_3 (by decide +kernel) ⟨by decide, by decide⟩ ?_
  refine go_ldcw dJ6_bitCount_0f7a4_4 knJ6_265 ⟨by decide, by decide⟩ ?_
  refine go_iand (z := 0) dJ6_bitCount_0f7a4_7 (by decide +kernel) ⟨by decide, by decide⟩ ?_
  refine go_isub dJ6_bitCount_0f7a4_8 (by decide) (by decide) ?_
  refine go_istore_n 0 dJ6_bitCount_0f7a4_9 rfl (Nat.le_of_ble_eq_true rfl) rfl (by dsimp only [List.set]) ?_
  refine go_iload_n dJ6_bitCount_0f7a4_10 rfl ?_
  refine go_ldcw dJ6_bitCount_0f7a4_11 knJ6_266 ⟨by decide, by decide⟩ ?_
  refine go_iand (z := 1) dJ6_bitCount_0f7a4_14 (by decide +kernel) ⟨by decide, by decide⟩ ?_
  refine go_iload_n dJ6_bitCount_0f7a4_15 rfl ?_
  refine go_iconst dJ6_bitCount_0f7a4_16 ⟨by decide, by decide⟩ ?_
  refine go_iushr (z := 1) dJ6_bitCount_0f7a4_17 (by decide +kernel) ⟨by decide, by decide⟩ ?_
  refine go_ldcw dJ6_bitCount_0f7a4_18 knJ6_266 ⟨by decide, by decide⟩ ?_
  refine go_iand (z := 1) dJ6_bitCount_0f7a4_21 (by decide +kernel) ⟨by decide, by decide⟩ ?_
  refine go_iadd dJ6_bitCount_0f7a4_22 (by decide) (by decide) ?_
  refine go_istore_n 0 dJ6_bitCount_0f7a4_23 rfl (Nat.le_of_ble_eq_true rfl) rfl (by dsimp only [List.set]) ?_
  refine go_iload_n dJ6_bitCount_0f7a4_24 rfl ?_
  refine go_iload_n dJ6_bitCount_0f7a4_25 rfl ?_
  refine go_iconst dJ6_bitCount_0f7a4_26 ⟨by decide, by decide⟩ ?_
  refine go_iushr (z := 0) dJ6_bitCount_0f7a4_27 (by decide +kernel) ⟨by decide, by decide⟩ ?_
  refine go_iadd dJ6_bitCount_0f7a4_28 (by decide) (by decide) ?_
  refine go_ldcw dJ6_bitCount_0f7a4_29 knJ6_267 ⟨by decide, by decide⟩ ?_
  refine go_iand (z := 2) dJ6_bitCount_0f7a4_32 (by decide +kernel) ⟨by decide, by decide⟩ ?_
  refine go_istore_n 0 dJ6_bitCount_0f7a4_33 rfl (Nat.le_of_ble_eq_true rfl) rfl (by dsimp only [List.set]) ?_
  refine go_iload_n dJ6_bitCount_0f7a4_34 rfl ?_
  refine go_iload_n dJ6_bitCount_0f7a4_35 rfl ?_
  refine go_bipush dJ6_bitCount_0f7a4_36 (by decide +kernel) ⟨by decide, by decide⟩ ?_
  refine go_iushr (z := 0) dJ6_bitCount_0f7a4_38 (by decide +kernel) ⟨by decide, by decide⟩ ?_
  refine go_iadd dJ6_bitCount_0f7a4_39 (by decide) (by decide) ?_
  refine go_istore_n 0 dJ6_bitCount_0f7a4_40 rfl (Nat.le_of_ble_eq_true rfl) rfl (by dsimp only [List.set]) ?_
  refine go_iload_n dJ6_bitCount_0f7a4_41 rfl ?_
  refine go_iload_n dJ6_bitCount_0f7a4_42 rfl ?_
  refine go_bipush dJ6_bitCount_0f7a4_43 (by decide +kernel) ⟨by decide, by decide⟩ ?_
  refine go_iushr (z := 0) dJ6_bitCount_0f7a4_45 (by decide +kernel) ⟨by decide, by decide⟩ ?_
  refine go_iadd dJ6_bitCount_0f7a4_46 (by decide) (by decide) ?_
  refine go_istore_n 0 dJ6_bitCount_0f7a4_47 rfl (Nat.le_of_ble_eq_true rfl) rfl (by dsimp only [List.set]) ?_
  refine go_iload_n dJ6_bitCount_0f7a4_48 rfl ?_
  refine go_bipush dJ6_bitCount_0f7a4_49 (by decide +kernel) ⟨by decide, by decide⟩ ?_
  refine go_iand (z := 2) dJ6_bitCount_0f7a4_51 (by decide +kernel) ⟨by decide, by decide⟩ ?_
  refine go_ireturn dJ6_bitCount_0f7a4_52 rfl ?_
  exact hQ

set_option maxHeartbeats 4000000 in
set_option maxRecDepth 100000 in
theorem j_bit_6 {x : mX} {h : mH} {Q : Int → mH → Prop} (hQ : Q 2 h) : CtI x mtJ6_bitCount_0f7a4 [xI 6] h Q := by
  refine ct_go (ls := [xI 6]) (by decide +kernel) (Nat.le_of_ble_eq_true rfl) rfl ?_
  refine go_iload_n dJ6_bitCount_0f7a4_0 rfl ?_
  refine go_iload_n dJ6_bitCount_0f7a4_1 rfl ?_
  refine go_iconst dJ6_bitCount_0f7a4_2 ⟨by decide, by decide⟩ ?_
  refine go_iushr (z := 3) dJ6_bitCount_0f7a4_3 (by decide +kernel) ⟨by decide, by decide⟩ ?_
  refine go_ldcw dJ6_bitCount_0f7a4_4 knJ6_265 ⟨by decide, by decide⟩ ?_
  refine go_iand (z := 1) dJ6_bitCount_0f7a4_7 (by decide +kernel) ⟨by decide, by decide⟩ ?_
  refine go_isub dJ6_bitCount_0f7a4_8 (by decide) (by decide) ?_
  refine go_istore_n 0 dJ6_bitCount_0f7a4_9 rfl (Nat.le_of_ble_eq_true rfl) rfl (by dsimp only [List.set]) ?_
  refine go_iload_n dJ6_bitCount_0f7a4_10 rfl ?_
  refine go_ldcw dJ6_bitCount_0f7a4_11 knJ6_266 ⟨by decide, by decide⟩ ?_
  refine go_iand (z := 1) dJ6_bitCount_0f7a4_14 (by decide +kernel) ⟨by decide, by decide⟩ ?_
  refine go_iload_n dJ6_bitCount_0f7a4_15 rfl ?_
  refine go_iconst dJ6_bitCount_0f7a4_16 ⟨by decide, by decide⟩ ?_
  refine go_iushr (z := 1) dJ6_bitCount_0f7a4_17 (by decide +kernel) ⟨by decide, by decide⟩ ?_
  refine go_ldcw dJ6_bitCount_0f7a4_18 knJ6_266 ⟨by decide, by decide⟩ ?_
  refine go_iand (z := 1) dJ6_bitCount_0f7a4_21 (by decide +kernel) ⟨by decide, by decide⟩ ?_
  refine go_iadd dJ6_bitCount_0f7a4_22 (by decide) (by decide) ?_
  refine go_istore_n 0 dJ6_bitCount_0f7a4_23 rfl (Nat.le_of_ble_eq_true rfl) rfl (by dsimp only [List.set]) ?_
  refine go_iload_n dJ6_bitCount_0f7a4_24 rfl ?_
  refine go_iload_n dJ6_bitCount_0f7a4_25 rfl ?_
  refine go_iconst dJ6_bitCount_0f7a4_26 ⟨by decide, by decide⟩ ?_
  refine go_iushr (z := 0) dJ6_bitCount_0f7a4_27 (by decide +kernel) ⟨by decide, by decide⟩ ?_
  refine go_iadd dJ6_bitCount_0f7a4_28 (by decide) (by decide) ?_
  refine go_ldcw dJ6_bitCount_0f7a4_29 knJ6_267 ⟨by decide, by decide⟩ ?_
  refine go_iand (z := 2) dJ6_bitCount_0f7a4_32 (by decide +kernel) ⟨by decide, by decide⟩ ?_
  refine go_istore_n 0 dJ6_bitCount_0f7a4_33 rfl (Nat.le_of_ble_eq_true rfl) rfl (by dsimp only [List.set]) ?_
  refine go_iload_n dJ6_bitCount_0f7a4_34 rfl ?_
  refine go_iload_n dJ6_bitCount_0f7a4_35 rfl ?_
  refine go_bipush dJ6_bitCount_0f7a4_36 (by decide +kernel) ⟨by decide, by decide⟩ ?_
  refine go_iushr (z := 0) dJ6_bitCount_0f7a4_38 (by decide +kernel) ⟨by decide, by decide⟩ ?_
  refine go_iadd dJ6_bitCount_0f7a4_39 (by decide) (by decide) ?_
  refine go_istore_n 0 dJ6_bitCount_0f7a4_40 rfl (Nat.le_of_ble_eq_true rfl) rfl (by dsimp only [List.set]) ?_
  refine go_iload_n dJ6_bitCount_0f7a4_41 rfl ?_
  refine go_iload_n dJ6_bitCount_0f7a4_42 rfl ?_
  refine go_bipush dJ6_bitCount_0f7a4_43 (by decide +kernel) ⟨by decide, by decide⟩ ?_
  refine go_iushr (z := 0) dJ6_bitCount_0f7a4_45 (by decide +kernel) ⟨by decide, by decide⟩ ?_
  refine go_iadd dJ6_bitCount_0f7a4_46 (by decide) (by decide) ?_
  refine go_istore_n 0 dJ6_bitCount_0f7a4_47 rfl (Nat.le_of_ble_eq_true rfl) rfl (by dsimp only [List.set]) ?_
  refine go_iload_n dJ6_bitCount_0f7a4_48 rfl ?_
  refine go_bipush dJ6_bitCount_0f7a4_49 (by decide +kernel) ⟨by decide, by decide⟩ ?_
  refine go_iand (z := 2) dJ6_bitCount_0f7a4_51 (by decide +kernel) ⟨by decide, by decide⟩ ?_
  refine go_ireturn dJ6_bitCount_0f7a4_52 rfl ?_
  exact hQ

set_option maxHeartbeats 4000000 in
set_option maxRecDepth 100000 in
theorem j_bit_7 {x : mX} {h : mH} {Q : Int → mH → Prop} (hQ : Q 3 h) : CtI x mtJ6_bitCount_0f7a4 [xI 7] h Q := by
  refine ct_go (ls := [xI 7]) (by decide +kernel) (Nat.le_of_ble_eq_true rfl) rfl ?_
  refine go_iload_n dJ6_bitCount_0f7a4_0 rfl ?_
  refine go_iload_n dJ6_bitCount_0f7a4_1 rfl ?_
  refine go_iconst dJ6_bitCount_0f7a4_2 ⟨by decide, by decide⟩ ?_
  refine go_iushr (z := 3) dJ6_bitCount_0f7a4_3 (by decide +kernel) ⟨by decide, by decide⟩ ?_
  refine go_ldcw dJ6_bitCount_0f7a4_4 knJ6_265 ⟨by decide, by decide⟩ ?_
  refine go_iand (z := 1) dJ6_bitCount_0f7a4_7 (by decide +kernel) ⟨by decide, by decide⟩ ?_
  refine go_isub dJ6_bitCount_0f7a4_8 (by decide) (by decide) ?_
  refine go_istore_n 0 dJ6_bitCount_0f7a4_9 rfl (Nat.le_of_ble_eq_true rfl) rfl (by dsimp only [List.set]) ?_
  refine go_iload_n dJ6_bitCount_0f7a4_10 rfl ?_
  refine go_ldcw dJ6_bitCount_0f7a4_11 knJ6_266 ⟨by decide, by decide⟩ ?_
  refine go_iand (z := 2) dJ6_bitCount_0f7a4_14 (by decide +kernel) ⟨by decide, by decide⟩ ?_
  refine go_iload_n dJ6_bitCount_0f7a4_15 rfl ?_
  refine go_iconst dJ6_bitCount_0f7a4_16 ⟨by decide, by decide⟩ ?_
  refine go_iushr (z := 1) dJ6_bitCount_0f7a4_17 (by decide +kernel) ⟨by decide, by decide⟩ ?_
  refine go_ldcw dJ6_bitCount_0f7a4_18 knJ6_266 ⟨by decide, by decide⟩ ?_
  refine go_iand (z := 1) dJ6_bitCount_0f7a4_21 (by decide +kernel) ⟨by decide, by decide⟩ ?_
  refine go_iadd dJ6_bitCount_0f7a4_22 (by decide) (by decide) ?_
  refine go_istore_n 0 dJ6_bitCount_0f7a4_23 rfl (Nat.le_of_ble_eq_true rfl) rfl (by dsimp only [List.set]) ?_
  refine go_iload_n dJ6_bitCount_0f7a4_24 rfl ?_
  refine go_iload_n dJ6_bitCount_0f7a4_25 rfl ?_
  refine go_iconst dJ6_bitCount_0f7a4_26 ⟨by decide, by decide⟩ ?_
  refine go_iushr (z := 0) dJ6_bitCount_0f7a4_27 (by decide +kernel) ⟨by decide, by decide⟩ ?_
  refine go_iadd dJ6_bitCount_0f7a4_28 (by decide) (by decide) ?_
  refine go_ldcw dJ6_bitCount_0f7a4_29 knJ6_267 ⟨by decide, by decide⟩ ?_
  refine go_iand (z := 3) dJ6_bitCount_0f7a4_32 (by decide +kernel) ⟨by decide, by decide⟩ ?_
  refine go_istore_n 0 dJ6_bitCount_0f7a4_33 rfl (Nat.le_of_ble_eq_true rfl) rfl (by dsimp only [List.set]) ?_
  refine go_iload_n dJ6_bitCount_0f7a4_34 rfl ?_
  refine go_iload_n dJ6_bitCount_0f7a4_35 rfl ?_
  refine go_bipush dJ6_bitCount_0f7a4_36 (by decide +kernel) ⟨by decide, by decide⟩ ?_
  refine go_iushr (z := 0) dJ6_bitCount_0f7a4_38 (by decide +kernel) ⟨by decide, by decide⟩ ?_
  refine go_iadd dJ6_bitCount_0f7a4_39 (by decide) (by decide) ?_
  refine go_istore_n 0 dJ6_bitCount_0f7a4_40 rfl (Nat.le_of_ble_eq_true rfl) rfl (by dsimp only [List.set]) ?_
  refine go_iload_n dJ6_bitCount_0f7a4_41 rfl ?_
  refine go_iload_n dJ6_bitCount_0f7a4_42 rfl ?_
  refine go_bipush dJ6_bitCount_0f7a4_43 (by decide +kernel) ⟨by decide, by decide⟩ ?_
  refine go_iushr (z := 0) dJ6_bitCount_0f7a4_45 (by decide +kernel) ⟨by decide, by decide⟩ ?_
  refine go_iadd dJ6_bitCount_0f7a4_46 (by decide) (by decide) ?_
  refine go_istore_n 0 dJ6_bitCount_0f7a4_47 rfl (Nat.le_of_ble_eq_true rfl) rfl (by dsimp only [List.set]) ?_
  refine go_iload_n dJ6_bitCount_0f7a4_48 rfl ?_
  refine go_bipush dJ6_bitCount_0f7a4_49 (by decide +kernel) ⟨by decide, by decide⟩ ?_
  refine go_iand (z := 3) dJ6_bitCount_0f7a4_51 (by decide +kernel) ⟨by decide, by decide⟩ ?_
  refine go_ireturn dJ6_bitCount_0f7a4_52 rfl ?_
  exact hQ

set_option maxHeartbeats 4000000 in
set_option maxRecDepth 100000 in
theorem j_bit_8 {x : mX} {h : mH} {Q : Int → mH → Prop} (hQ : Q 1 h) : CtI x mtJ6_bitCount_0f7a4 [xI 8] h Q := by
  refine ct_go (ls := [xI 8]) (by decide +kernel) (Nat.le_of_ble_eq_true rfl) rfl ?_
  refine go_iload_n dJ6_bitCount_0f7a4_0 rfl ?_
  refine go_iload_n dJ6_bitCount_0f7a4_1 rfl ?_
  refine go_iconst dJ6_bitCount_0f7a4_2 ⟨by decide, by decide⟩ ?_
  refine go_iushr (z := 4) dJ6_bitCount_0f7a4_3 (by decide +kernel) ⟨by decide, by decide⟩ ?_
  refine go_ldcw dJ6_bitCount_0f7a4_4 knJ6_265 ⟨by decide, by decide⟩ ?_
  refine go_iand (z := 4) dJ6_bitCount_0f7a4_7 (by decide +kernel) ⟨by decide, by decide⟩ ?_
  refine go_isub dJ6_bitCount_0f7a4_8 (by decide) (by decide) ?_
  refine go_istore_n 0 dJ6_bitCount_0f7a4_9 rfl (Nat.le_of_ble_eq_true rfl) rfl (by dsimp only [List.set]) ?_
  refine go_iload_n dJ6_bitCount_0f7a4_10 rfl ?_
  refine go_ldcw dJ6_bitCount_0f7a4_11 knJ6_266 ⟨by decide, by decide⟩ ?_
  refine go_iand (z := 0) dJ6_bitCount_0f7a4_14 (by decide +kernel) ⟨by decide, by decide⟩ ?_
  refine go_iload_n dJ6_bitCount_0f7a4_15 rfl ?_
  refine go_iconst dJ6_bitCount_0f7a4_16 ⟨by decide, by decide⟩ ?_
  refine go_iushr (z := 1) dJ6_bitCount_0f7a4_17 (by decide +kernel) ⟨by decide, by decide⟩ ?_
  refine go_ldcw dJ6_bitCount_0f7a4_18 knJ6_266 ⟨by decide, by decide⟩ ?_
  refine go_iand (z := 1) dJ6_bitCount_0f7a4_21 (by decide +kernel) ⟨by decide, by decide⟩ ?_
  refine go_iadd dJ6_bitCount_0f7a4_22 (by decide) (by decide) ?_
  refine go_istore_n 0 dJ6_bitCount_0f7a4_23 rfl (Nat.le_of_ble_eq_true rfl) rfl (by dsimp only [List.set]) ?_
  refine go_iload_n dJ6_bitCount_0f7a4_24 rfl ?_
  refine go_iload_n dJ6_bitCount_0f7a4_25 rfl ?_
  refine go_iconst dJ6_bitCount_0f7a4_26 ⟨by decide, by decide⟩ ?_
  refine go_iushr (z := 0) dJ6_bitCount_0f7a4_27 (by decide +kernel) ⟨by decide, by decide⟩ ?_
  refine go_iadd dJ6_bitCount_0f7a4_28 (by decide) (by decide) ?_
  refine go_ldcw dJ6_bitCount_0f7a4_29 knJ6_267 ⟨by decide, by decide⟩ ?_
  refine go_iand (z := 1) dJ6_bitCount_0f7a4_32 (by decide +kernel) ⟨by decide, by decide⟩ ?_
  refine go_istore_n 0 dJ6_bitCount_0f7a4_33 rfl (Nat.le_of_ble_eq_true rfl) rfl (by dsimp only [List.set]) ?_
  refine go_iload_n dJ6_bitCount_0f7a4_34 rfl ?_
  refine go_iload_n dJ6_bitCount_0f7a4_35 rfl ?_
  refine go_bipush dJ6_bitCount_0f7a4_36 (by decide +kernel) ⟨by decide, by decide⟩ ?_
  refine go_iushr (z := 0) dJ6_bitCount_0f7a4_38 (by decide +kernel) ⟨by decide, by decide⟩ ?_
  refine go_iadd dJ6_bitCount_0f7a4_39 (by decide) (by decide) ?_
  refine go_istore_n 0 dJ6_bitCount_0f7a4_40 rfl (Nat.le_of_ble_eq_true rfl) rfl (by dsimp only [List.set]) ?_
  refine go_iload_n dJ6_bitCount_0f7a4_41 rfl ?_
  refine go_iload_n dJ6_bitCount_0f7a4_42 rfl ?_
  refine go_bipush dJ6_bitCount_0f7a4_43 (by decide +kernel) ⟨by decide, by decide⟩ ?_
  refine go_iushr (z := 0) dJ6_bitCount_0f7a4_45 (by decide +kernel) ⟨by decide, by decide⟩ ?_
  refine go_iadd dJ6_bitCount_0f7a4_46 (by decide) (by decide) ?_
  refine go_istore_n 0 dJ6_bitCount_0f7a4_47 rfl (Nat.le_of_ble_eq_true rfl) rfl (by dsimp only [List.set]) ?_
  refine go_iload_n dJ6_bitCount_0f7a4_48 rfl ?_
  refine go_bipush dJ6_bitCount_0f7a4_49 (by decide +kernel) ⟨by decide, by decide⟩ ?_
  refine go_iand (z := 1) dJ6_bitCount_0f7a4_51 (by decide +kernel) ⟨by decide, by decide⟩ ?_
  refine go_ireturn dJ6_bitCount_0f7a4_52 rfl ?_
  exact hQ

set_option maxHeartbeats 4000000 in
set_option maxRecDepth 100000 in
theorem j_bit_9 {x : mX} {h : mH} {Q : Int → mH → Prop} (hQ : Q 2 h) : CtI x mtJ6_bitCount_0f7a4 [xI 9] h Q := by
  refine ct_go (ls := [xI 9]) (by decide +kernel) (Nat.le_of_ble_eq_true rfl) rfl ?_
  refine go_iload_n dJ6_bitCount_0f7a4_0 rfl ?_
  refine go_iload_n dJ6_bitCount_0f7a4_1 rfl ?_
  refine go_iconst dJ6_bitCount_0f7a4_2 ⟨by decide, by decide⟩ ?_
  refine go_iushr (z := 4) dJ6_bitCount_0f7a4_3 (by decide +kernel) ⟨by decide, by decide⟩ ?_
  refine go_ldcw dJ6_bitCount_0f7a4_4 knJ6_265 ⟨by decide, by decide⟩ ?_
  refine go_iand (z := 4) dJ6_bitCount_0f7a4_7 (by decide +kernel) ⟨by decide, by decide⟩ ?_
  refine go_isub dJ6_bitCount_0f7a4_8 (by decide) (by decide) ?_
  refine go_istore_n 0 dJ6_bitCount_0f7a4_9 rfl (Nat.le_of_ble_eq_true rfl) rfl (by dsimp only [List.set]) ?_
  refine go_iload_n dJ6_bitCount_0f7a4_10 rfl ?_
  refine go_ldcw dJ6_bitCount_0f7a4_11 knJ6_266 ⟨by decide, by decide⟩ ?_
  refine go_iand (z := 1) dJ6_bitCount_0f7a4_14 (by decide +kernel) ⟨by decide, by decide⟩ ?_
  refine go_iload_n dJ6_bitCount_0f7a4_15 rfl ?_
  refine go_iconst dJ6_bitCount_0f7a4_16 ⟨by decide, by decide⟩ ?_
  refine go_iushr (z := 1) dJ6_bitCount_0f7a4_17 (by decide +kernel) ⟨by decide, by decide⟩ ?_
  refine go_ldcw dJ6_bitCount_0f7a4_18 knJ6_266 ⟨by decide, by decide⟩ ?_
  refine go_iand (z := 1) dJ6_bitCount_0f7a4_21 (by decide +kernel) ⟨by decide, by decide⟩ ?_
  refine go_iadd dJ6_bitCount_0f7a4_22 (by decide) (by decide) ?_
  refine go_istore_n 0 dJ6_bitCount_0f7a4_23 rfl (Nat.le_of_ble_eq_true rfl) rfl (by dsimp only [List.set]) ?_
  refine go_iload_n dJ6_bitCount_0f7a4_24 rfl ?_
  refine go_iload_n dJ6_bitCount_0f7a4_25 rfl ?_
  refine go_iconst dJ6_bitCount_0f7a4_26 ⟨by decide, by decide⟩ ?_
  refine go_iushr (z := 0) dJ6_bitCount_0f7a4_27 (by decide +kernel) ⟨by decide, by decide⟩ ?_
  refine go_iadd dJ6_bitCount_0f7a4_28 (by decide) (by decide) ?_
  refine go_ldcw dJ6_bitCount_0f7a4_29 knJ6_267 ⟨by decide, by decide⟩ ?_
  refine go_iand (z := 2) dJ6_bitCount_0f7a4_32 (by decide +kernel) ⟨by decide, by decide⟩ ?_
  refine go_istore_n 0 dJ6_bitCount_0f7a4_33 rfl (Nat.le_of_ble_eq_true rfl) rfl (by dsimp only [List.set]) ?_
  refine go_iload_n dJ6_bitCount_0f7a4_34 rfl ?_
  refine go_iload_n dJ6_bitCount_0f7a4_35 rfl ?_
  refine go_bipush dJ6_bitCount_0f7a4_36 (by decide +kernel) ⟨by decide, by decide⟩ ?_
  refine go_iushr (z := 0) dJ6_bitCount_0f7a4_38 (by decide +kernel) ⟨by decide, by decide⟩ ?_
  refine go_iadd dJ6_bitCount_0f7a4_39 (by decide) (by decide) ?_
  refine go_istore_n 0 dJ6_bitCount_0f7a4_40 rfl (Nat.le_of_ble_eq_true rfl) rfl (by dsimp only [List.set]) ?_
  refine go_iload_n dJ6_bitCount_0f7a4_41 rfl ?_
  refine go_iload_n dJ6_bitCount_0f7a4_42 rfl ?_
  refine go_bipush dJ6_bitCount_0f7a4_43 (by decide +kernel) ⟨by decide, by decide⟩ ?_
  refine go_iushr (z := 0) dJ6_bitCount_0f7a4_45 (by decide +kernel) ⟨by decide, by decide⟩ ?_
  refine go_iadd dJ6_bitCount_0f7a4_46 (by decide) (by decide) ?_
  refine go_istore_n 0 dJ6_bitCount_0f7a4_47 rfl (Nat.le_of_ble_eq_true rfl) rfl (by dsimp only [List.set]) ?_
  refine go_iload_n dJ6_bitCount_0f7a4_48 rfl ?_
  refine go_bipush dJ6_bitCount_0f7a4_49 (by decide +kernel) ⟨by decide, by decide⟩ ?_
  refine go_iand (z := 2) dJ6_bitCount_0f7a4_51 (by decide +kernel) ⟨by decide, by decide⟩ ?_
  refine go_ireturn dJ6_bitCount_0f7a4_52 rfl ?_
  exact hQ

set_option maxHeartbeats 4000000 in
set_option maxRecDepth 100000 in
theorem j_bit_10 {x : mX} {h : mH} {Q : Int → mH → Prop} (hQ : Q 2 h) : CtI x mtJ6_bitCount_0f7a4 [xI 10] h Q := by
  refine ct_go (ls := [xI 10]) (by decide +kernel) (Nat.le_of_ble_eq_true rfl) rfl ?_
  refine go_iload_n dJ6_bitCount_0f7a4_0 rfl ?_
  refine go_iload_n dJ6_bitCount_0f7a4_1 rfl ?_
  refine go_iconst dJ6_bitCount_0f7a4_2 ⟨by decide, by decide⟩ ?_
  refine go_iushr (z := 5) dJ6_bitCount_0f7a4_3 (by decide +kernel) ⟨by decide, by decide⟩ ?_
  refine go_ldcw dJ6_bitCount_0f7a4_4 knJ6_265 ⟨by decide, by decide⟩ ?_
  refine go_iand (z := 5) dJ6_bitCount_0f7a4_7 (by decide +kernel) ⟨by decide, by decide⟩ ?_
  refine go_isub dJ6_bitCount_0f7a4_8 (by decide) (by decide) ?_
  refine go_istore_n 0 dJ6_bitCount_0f7a4_9 rfl (Nat.le_of_ble_eq_true rfl) rfl (by dsimp only [List.set]) ?_
  refine go_iload_n dJ6_bitCount_0f7a4_10 rfl ?_
  refine go_ldcw dJ6_bitCount_0f7a4_11 knJ6_266 ⟨by decide, by decide⟩ ?_
  refine go_iand (z := 1) dJ6_bitCount_0f7a4_14 (by decide +kernel) ⟨by decide, by decide⟩ ?_
  refine go_iload_n dJ6_bitCount_0f7a4_15 rfl ?_
  refine go_iconst dJ6_bitCount_0f7a4_16 ⟨by decide, by decide⟩ ?_
  refine go_iushr (z := 1) dJ6_bitCount_0f7a4_17 (by decide +kernel) ⟨by decide, by decide⟩ ?_
  refine go_ldcw dJ6_bitCount_0f7a4_18 knJ6_266 ⟨by decide, by decide⟩ ?_
  refine go_iand (z := 1) dJ6_bitCount_0f7a4_21 (by decide +kernel) ⟨by decide, by decide⟩ ?_
  refine go_iadd dJ6_bitCount_0f7a4_22 (by decide) (by decide) ?_
  refine go_istore_n 0 dJ6_bitCount_0f7a4_23 rfl (Nat.le_of_ble_eq_true rfl) rfl (by dsimp only [List.set]) ?_
  refine go_iload_n dJ6_bitCount_0f7a4_24 rfl ?_
  refine go_iload_n dJ6_bitCount_0f7a4_25 rfl ?_
  refine go_iconst dJ6_bitCount_0f7a4_26 ⟨by decide, by decide⟩ ?_
  refine go_iushr (z := 0) dJ6_bitCount_0f7a4_27 (by decide +kernel) ⟨by decide, by decide⟩ ?_
  refine go_iadd dJ6_bitCount_0f7a4_28 (by decide) (by decide) ?_
  refine go_ldcw dJ6_bitCount_0f7a4_29 knJ6_267 ⟨by decide, by decide⟩ ?_
  refine go_iand (z := 2) dJ6_bitCount_0f7a4_32 (by decide +kernel) ⟨by decide, by decide⟩ ?_
  refine go_istore_n 0 dJ6_bitCount_0f7a4_33 rfl (Nat.le_of_ble_eq_true rfl) rfl (by dsimp only [List.set]) ?_
  refine go_iload_n dJ6_bitCount_0f7a4_34 rfl ?_
  refine go_iload_n dJ6_bitCount_0f7a4_35 rfl ?_
  refine go_bipush dJ6_bitCount_0f7a4_36 (by decide +kernel) ⟨by decide, by decide⟩ ?_
  refine go_iushr (z := 0) dJ6_bitCount_0f7a4_38 (by decide +kernel) ⟨by decide, by decide⟩ ?_
  refine go_iadd dJ6_bitCount_0f7a4_39 (by decide) (by decide) ?_
  refine go_istore_n 0 dJ6_bitCount_0f7a4_40 rfl (Nat.le_of_ble_eq_true rfl) rfl (by dsimp only [List.set]) ?_
  refine go_iload_n dJ6_bitCount_0f7a4_41 rfl ?_
  refine go_iload_n dJ6_bitCount_0f7a4_42 rfl ?_
  refine go_bipush dJ6_bitCount_0f7a4_43 (by decide +kernel) ⟨by decide, by decide⟩ ?_
  refine go_iushr (z := 0) dJ6_bitCount_0f7a4_45 (by decide +kernel) ⟨by decide, by decide⟩ ?_
  refine go_iadd dJ6_bitCount_0f7a4_46 (by decide) (by decide) ?_
  refine go_istore_n 0 dJ6_bitCount_0f7a4_47 rfl (Nat.le_of_ble_eq_true rfl) rfl (by dsimp only [List.set]) ?_
  refine go_iload_n dJ6_bitCount_0f7a4_48 rfl ?_
  refine go_bipush dJ6_bitCount_0f7a4_49 (by decide +kernel) ⟨by decide, by decide⟩ ?_
  refine go_iand (z := 2) dJ6_bitCount_0f7a4_51 (by decide +kernel) ⟨by decide, by decide⟩ ?_
  refine go_ireturn dJ6_bitCount_0f7a4_52 rfl ?_
  exact hQ

set_option maxHeartbeats 4000000 in
set_option maxRecDepth 100000 in
theorem j_bit_11 {x : mX} {h : mH} {Q : Int → mH → Prop} (hQ : Q 3 h) : CtI x mtJ6_bitCount_0f7a4 [xI 11] h Q := by
  refine ct_go (ls := [xI 11]) (by decide +kernel) (Nat.le_of_ble_eq_true rfl) rfl ?_
  refine go_iload_n dJ6_bitCount_0f7a4_0 rfl ?_
  refine go_iload_n dJ6_bitCount_0f7a4_1 rfl ?_
  refine go_iconst dJ6_bitCount_0f7a4_2 ⟨by decide, by decide⟩ ?_
  refine go_iushr (z := 5) dJ6_bitCount_0f7a4_3 (by decide +kernel) ⟨by decide, by decide⟩ ?_
  refine go_ldcw dJ6_bitCount_0f7a4_4 knJ6_265 ⟨by decide, by decide⟩ ?_
  refine go_iand (z := 5) dJ6_bitCount_0f7a4_7 (by decide +kernel) ⟨by decide, by decide⟩ ?_
  refine go_isub dJ6_bitCount_0f7a4_8 (by decide) (by decide) ?_
  refine go_istore_n 0 dJ6_bitCount_0f7a4_9 rfl (Nat.le_of_ble_eq_true rfl) rfl (by dsimp only [List.set]) ?_
  refine go_iload_n dJ6_bitCount_0f7a4_10 rfl ?_
  refine go_ldcw dJ6_bitCount_0f7a4_11 knJ6_266 ⟨by decide, by decide⟩ ?_
  refine go_iand (z := 2) dJ6_bitCount_0f7a4_14 (by decide +kernel) ⟨by decide, by decide⟩ ?_
  refine go_iload_n dJ6_bitCount_0f7a4_15 rfl ?_
  refine go_iconst dJ6_bitCount_0f7a4_16 ⟨by decide, by decide⟩ ?_
  refine go_iushr (z := 1) dJ6_bitCount_0f7a4_17 (by decide +kernel) ⟨by decide, by decide⟩ ?_
  refine go_ldcw dJ6_bitCount_0f7a4_18 knJ6_266 ⟨by decide, by decide⟩ ?_
  refine go_iand (z := 1) dJ6_bitCount_0f7a4_21 (by decide +kernel) ⟨by decide, by decide⟩ ?_
  refine go_iadd dJ6_bitCount_0f7a4_22 (by decide) (by decide) ?_
  refine go_istore_n 0 dJ6_bitCount_0f7a4_23 rfl (Nat.le_of_ble_eq_true rfl) rfl (by dsimp only [List.set]) ?_
  refine go_iload_n dJ6_bitCount_0f7a4_24 rfl ?_
  refine go_iload_n dJ6_bitCount_0f7a4_25 rfl ?_
  refine go_iconst dJ6_bitCount_0f7a4_26 ⟨by decide, by decide⟩ ?_
  refine go_iushr (z := 0) dJ6_bitCount_0f7a4_27 (by decide +kernel) ⟨by decide, by decide⟩ ?_
  refine go_iadd dJ6_bitCount_0f7a4_28 (by decide) (by decide) ?_
  refine go_ldcw dJ6_bitCount_0f7a4_29 knJ6_267 ⟨by decide, by decide⟩ ?_
  refine go_iand (z := 3) dJ6_bitCount_0f7a4_32 (by decide +kernel) ⟨by decide, by decide⟩ ?_
  refine go_istore_n 0 dJ6_bitCount_0f7a4_33 rfl (Nat.le_of_ble_eq_true rfl) rfl (by dsimp only [List.set]) ?_
  refine go_iload_n dJ6_bitCount_0f7a4_34 rfl ?_
  refine go_iload_n dJ6_bitCount_0f7a4_35 rfl ?_
  refine go_bipush dJ6_bitCount_0f7a4_36 (by decide +kernel) ⟨by decide, by decide⟩ ?_
  refine go_iushr (z := 0) dJ6_bitCount_0f7a4_38 (by decide +kernel) ⟨by decide, by decide⟩ ?_
  refine go_iadd dJ6_bitCount_0f7a4_39 (by decide) (by decide) ?_
  refine go_istore_n 0 dJ6_bitCount_0f7a4_40 rfl (Nat.le_of_ble_eq_true rfl) rfl (by dsimp only [List.set]) ?_
  refine go_iload_n dJ6_bitCount_0f7a4_41 rfl ?_
  refine go_iload_n dJ6_bitCount_0f7a4_42 rfl ?_
  refine go_bipush dJ6_bitCount_0f7a4_43 (by decide +kernel) ⟨by decide, by decide⟩ ?_
  refine go_iushr (z := 0) dJ6_bitCount_0f7a4_45 (by decide +kernel) ⟨by decide, by decide⟩ ?_
  refine go_iadd dJ6_bitCount_0f7a4_46 (by decide) (by decide) ?_
  refine go_istore_n 0 dJ6_bitCount_0f7a4_47 rfl (Nat.le_of_ble_eq_true rfl) rfl (by dsimp only [List.set]) ?_
  refine go_iload_n dJ6_bitCount_0f7a4_48 rfl ?_
  refine go_bipush dJ6_bitCount_0f7a4_49 (by decide +kernel) ⟨by decide, by decide⟩ ?_
  refine go_iand (z := 3) dJ6_bitCount_0f7a4_51 (by decide +kernel) ⟨by decide, by decide⟩ ?_
  refine go_ireturn dJ6_bitCount_0f7a4_52 rfl ?_
  exact hQ

set_option maxHeartbeats 4000000 in
set_option maxRecDepth 100000 in
theorem j_bit_12 {x : mX} {h : mH} {Q : Int → mH → Prop} (hQ : Q 2 h) : CtI x mtJ6_bitCount_0f7a4 [xI 12] h Q := by
  refine ct_go (ls := [xI 12]) (by decide +kernel) (Nat.le_of_ble_eq_true rfl) rfl ?_
  refine go_iload_n dJ6_bitCount_0f7a4_0 rfl ?_
  refine go_iload_n dJ6_bitCount_0f7a4_1 rfl ?_
  refine go_iconst dJ6_bitCount_0f7a4_2 ⟨by decide, by decide⟩ ?_
  refine go_iushr (z := 6) dJ6_bitCount_0f7a4_3 (by decide +kernel) ⟨by decide, by decide⟩ ?_
  refine go_ldcw dJ6_bitCount_0f7a4_4 knJ6_265 ⟨by decide, by decide⟩ ?_
  refine go_iand (z := 4) dJ6_bitCount_0f7a4_7 (by decide +kernel) ⟨by decide, by decide⟩ ?_
  refine go_isub dJ6_bitCount_0f7a4_8 (by decide) (by decide) ?_
  refine go_istore_n 0 dJ6_bitCount_0f7a4_9 rfl (Nat.le_of_ble_eq_true rfl) rfl (by dsimp only [List.set]) ?_
  refine go_iload_n dJ6_bitCount_0f7a4_10 rfl ?_
  refine go_ldcw dJ6_bitCount_0f7a4_11 knJ6_266 ⟨by decide, by decide⟩ ?_
  refine go_iand (z := 0) dJ6_bitCount_0f7a4_14 (by decide +kernel) ⟨by decide, by decide⟩ ?_
  refine go_iload_n dJ6_bitCount_0f7a4_15 rfl ?_
  refine go_iconst dJ6_bitCount_0f7a4_16 ⟨by decide, by decide⟩ ?_
  refine go_iushr (z := 2) dJ6_bitCount_0f7a4_17 (by decide +kernel) ⟨by decide, by decide⟩ ?_
  refine go_ldcw dJ6_bitCount_0f7a4_18 knJ6_266 ⟨by decide, by decide⟩ ?_
  refine go_iand (z := 2) dJ6_bitCount_0f7a4_21 (by decide +kernel) ⟨by decide, by decide⟩ ?_
  refine go_iadd dJ6_bitCount_0f7a4_22 (by decide) (by decide) ?_
  refine go_istore_n 0 dJ6_bitCount_0f7a4_23 rfl (Nat.le_of_ble_eq_true rfl) rfl (by dsimp only [List.set]) ?_
  refine go_iload_n dJ6_bitCount_0f7a4_24 rfl ?_
  refine go_iload_n dJ6_bitCount_0f7a4_25 rfl ?_
  refine go_iconst dJ6_bitCount_0f7a4_26 ⟨by decide, by decide⟩ ?_
  refine go_iushr (z := 0) dJ6_bitCount_0f7a4_27 (by decide +kernel) ⟨by decide, by decide⟩ ?_
  refine go_iadd dJ6_bitCount_0f7a4_28 (by decide) (by decide) ?_
  refine go_ldcw dJ6_bitCount_0f7a4_29 knJ6_267 ⟨by decide, by decide⟩ ?_
  refine go_iand (z := 2) dJ6_bitCount_0f7a4_32 (by decide +kernel) ⟨by decide, by decide⟩ ?_
  refine go_istore_n 0 dJ6_bitCount_0f7a4_33 rfl (Nat.le_of_ble_eq_true rfl) rfl (by dsimp only [List.set]) ?_
  refine go_iload_n dJ6_bitCount_0f7a4_34 rfl ?_
  refine go_iload_n dJ6_bitCount_0f7a4_35 rfl ?_
  refine go_bipush dJ6_bitCount_0f7a4_36 (by decide +kernel) ⟨by decide, by decide⟩ ?_
  refine go_iushr (z := 0) dJ6_bitCount_0f7a4_38 (by decide +kernel) ⟨by decide, by decide⟩ ?_
  refine go_iadd dJ6_bitCount_0f7a4_39 (by decide) (by decide) ?_
  refine go_istore_n 0 dJ6_bitCount_0f7a4_40 rfl (Nat.le_of_ble_eq_true rfl) rfl (by dsimp only [List.set]) ?_
  refine go_iload_n dJ6_bitCount_0f7a4_41 rfl ?_
  refine go_iload_n dJ6_bitCount_0f7a4_42 rfl ?_
  refine go_bipush dJ6_bitCount_0f7a4_43 (by decide +kernel) ⟨by decide, by decide⟩ ?_
  refine go_iushr (z := 0) dJ6_bitCount_0f7a4_45 (by decide +kernel) ⟨by decide, by decide⟩ ?_
  refine go_iadd dJ6_bitCount_0f7a4_46 (by decide) (by decide) ?_
  refine go_istore_n 0 dJ6_bitCount_0f7a4_47 rfl (Nat.le_of_ble_eq_true rfl) rfl (by dsimp only [List.set]) ?_
  refine go_iload_n dJ6_bitCount_0f7a4_48 rfl ?_
  refine go_bipush dJ6_bitCount_0f7a4_49 (by decide +kernel) ⟨by decide, by decide⟩ ?_
  refine go_iand (z := 2) dJ6_bitCount_0f7a4_51 (by decide +kernel) ⟨by decide, by decide⟩ ?_
  refine go_ireturn dJ6_bitCount_0f7a4_52 rfl ?_
  exact hQ

set_option maxHeartbeats 4000000 in
set_option maxRecDepth 100000 in
theorem j_bit_13 {x : mX} {h : mH} {Q : Int → mH → Prop} (hQ : Q 3 h) : CtI x mtJ6_bitCount_0f7a4 [xI 13] h Q := by
  refine ct_go (ls := [xI 13]) (by decide +kernel) (Nat.le_of_ble_eq_true rfl) rfl ?_
  refine go_iload_n dJ6_bitCount_0f7a4_0 rfl ?_
  refine go_iload_n dJ6_bitCount_0f7a4_1 rfl ?_
  refine go_iconst dJ6_bitCount_0f7a4_2 ⟨by decide, by decide⟩ ?_
  refine go_iushr (z := 6) dJ6_bitCount_0f7a4_3 (by decide +kernel) ⟨by decide, by decide⟩ ?_
  refine go_ldcw dJ6_bitCount_0f7a4_4 knJ6_265 ⟨by decide, by decide⟩ ?_
  refine go_iand (z := 4) dJ6_bitCount_0f7a4_7 (by decide +kernel) ⟨by decide, by decide⟩ ?_
  refine go_isub dJ6_bitCount_0f7a4_8 (by decide) (by decide) ?_
  refine go_istore_n 0 dJ6_bitCount_0f7a4_9 rfl (Nat.le_of_ble_eq_true rfl) rfl (by dsimp only [List.set]) ?_
  refine go_iload_n dJ6_bitCount_0f7a4_10 rfl ?_
  refine go_ldcw dJ6_bitCount_0f7a4_11 knJ6_266 ⟨by decide, by decide⟩ ?_
  refine go_iand (z := 1) dJ6_bitCount_0f7a4_14 (by decide +kernel) ⟨by decide, by decide⟩ ?_
  refine go_iload_n dJ6_bitCount_0f7a4_15 rfl ?_
  refine go_iconst dJ6_bitCount_0f7a4_16 ⟨by decide, by decide⟩ ?_
  refine go_iushr (z := 2) dJ6_bitCount_0f7a4_17 (by decide +kernel) ⟨by decide, by decide⟩ ?_
  refine go_ldcw dJ6_bitCount_0f7a4_18 knJ6_266 ⟨by decide, by decide⟩ ?_
  refine go_iand (z := 2) dJ6_bitCount_0f7a4_21 (by decide +kernel) ⟨by decide, by decide⟩ ?_
  refine go_iadd dJ6_bitCount_0f7a4_22 (by decide) (by decide) ?_
  refine go_istore_n 0 dJ6_bitCount_0f7a4_23 rfl (Nat.le_of_ble_eq_true rfl) rfl (by dsimp only [List.set]) ?_
  refine go_iload_n dJ6_bitCount_0f7a4_24 rfl ?_
  refine go_iload_n dJ6_bitCount_0f7a4_25 rfl ?_
  refine go_iconst dJ6_bitCount_0f7a4_26 ⟨by decide, by decide⟩ ?_
  refine go_iushr (z := 0) dJ6_bitCount_0f7a4_27 (by decide +kernel) ⟨by decide, by decide⟩ ?_
  refine go_iadd dJ6_bitCount_0f7a4_28 (by decide) (by decide) ?_
  refine go_ldcw dJ6_bitCount_0f7a4_29 knJ6_267 ⟨by decide, by decide⟩ ?_
  refine go_iand (z := 3) dJ6_bitCount_0f7a4_32 (by decide +kernel) ⟨by decide, by decide⟩ ?_
  refine go_istore_n 0 dJ6_bitCount_0f7a4_33 rfl (Nat.le_of_ble_eq_true rfl) rfl (by dsimp only [List.set]) ?_
  refine go_iload_n dJ6_bitCount_0f7a4_34 rfl ?_
  refine go_iload_n dJ6_bitCount_0f7a4_35 rfl ?_
  refine go_bipush dJ6_bitCount_0f7a4_36 (by decide +kernel) ⟨by decide, by decide⟩ ?_
  refine go_iushr (z := 0) dJ6_bitCount_0f7a4_38 (by decide +kernel) ⟨by decide, by decide⟩ ?_
  refine go_iadd dJ6_bitCount_0f7a4_39 (by decide) (by decide) ?_
  refine go_istore_n 0 dJ6_bitCount_0f7a4_40 rfl (Nat.le_of_ble_eq_true rfl) rfl (by dsimp only [List.set]) ?_
  refine go_iload_n dJ6_bitCount_0f7a4_41 rfl ?_
  refine go_iload_n dJ6_bitCount_0f7a4_42 rfl ?_
  refine go_bipush dJ6_bitCount_0f7a4_43 (by decide +kernel) ⟨by decide, by decide⟩ ?_
  refine go_iushr (z := 0) dJ6_bitCount_0f7a4_45 (by decide +kernel) ⟨by decide, by decide⟩ ?_
  refine go_iadd dJ6_bitCount_0f7a4_46 (by decide) (by decide) ?_
  refine go_istore_n 0 dJ6_bitCount_0f7a4_47 rfl (Nat.le_of_ble_eq_true rfl) rfl (by dsimp only [List.set]) ?_
  refine go_iload_n dJ6_bitCount_0f7a4_48 rfl ?_
  refine go_bipush dJ6_bitCount_0f7a4_49 (by decide +kernel) ⟨by decide, by decide⟩ ?_
  refine go_iand (z := 3) dJ6_bitCount_0f7a4_51 (by decide +kernel) ⟨by decide, by decide⟩ ?_
  refine go_ireturn dJ6_bitCount_0f7a4_52 rfl ?_
  exact hQ

set_option maxHeartbeats 4000000 in
set_option maxRecDepth 100000 in
theorem j_bit_14 {x : mX} {h : mH} {Q : Int → mH → Prop} (hQ : Q 3 h) : CtI x mtJ6_bitCount_0f7a4 [xI 14] h Q := by
  refine ct_go (ls := [xI 14]) (by decide +kernel) (Nat.le_of_ble_eq_true rfl) rfl ?_
  refine go_iload_n dJ6_bitCount_0f7a4_0 rfl ?_
  refine go_iload_n dJ6_bitCount_0f7a4_1 rfl ?_
  refine go_iconst dJ6_bitCount_0f7a4_2 ⟨by decide, by decide⟩ ?_
  refine go_iushr (z := 7) dJ6_bitCount_0f7a4_3 (by decide +kernel) ⟨by decide, by decide⟩ ?_
  refine go_ldcw dJ6_bitCount_0f7a4_4 knJ6_265 ⟨by decide, by decide⟩ ?_
  refine go_iand (z := 5) dJ6_bitCount_0f7a4_7 (by decide +kernel) ⟨by decide, by decide⟩ ?_
  refine go_isub dJ6_bitCount_0f7a4_8 (by decide) (by decide) ?_
  refine go_istore_n 0 dJ6_bitCount_0f7a4_9 rfl (Nat.le_of_ble_eq_true rfl) rfl (by dsimp only [List.set]) ?_
  refine go_iload_n dJ6_bitCount_0f7a4_10 rfl ?_
  refine go_ldcw dJ6_bitCount_0f7a4_11 knJ6_266 ⟨by decide, by decide⟩ ?_
  refine go_iand (z := 1) dJ6_bitCount_0f7a4_14 (by decide +kernel) ⟨by decide, by decide⟩ ?_
  refine go_iload_n dJ6_bitCount_0f7a4_15 rfl ?_
  refine go_iconst dJ6_bitCount_0f7a4_16 ⟨by decide, by decide⟩ ?_
  refine go_iushr (z := 2) dJ6_bitCount_0f7a4_17 (by decide +kernel) ⟨by decide, by decide⟩ ?_
  refine go_ldcw dJ6_bitCount_0f7a4_18 knJ6_266 ⟨by decide, by decide⟩ ?_
  refine go_iand (z := 2) dJ6_bitCount_0f7a4_21 (by decide +kernel) ⟨by decide, by decide⟩ ?_
  refine go_iadd dJ6_bitCount_0f7a4_22 (by decide) (by decide) ?_
  refine go_istore_n 0 dJ6_bitCount_0f7a4_23 rfl (Nat.le_of_ble_eq_true rfl) rfl (by dsimp only [List.set]) ?_
  refine go_iload_n dJ6_bitCount_0f7a4_24 rfl ?_
  refine go_iload_n dJ6_bitCount_0f7a4_25 rfl ?_
  refine go_iconst dJ6_bitCount_0f7a4_26 ⟨by decide, by decide⟩ ?_
  refine go_iushr (z := 0) dJ6_bitCount_0f7a4_27 (by decide +kernel) ⟨by decide, by decide⟩ ?_
  refine go_iadd dJ6_bitCount_0f7a4_28 (by decide) (by decide) ?_
  refine go_ldcw dJ6_bitCount_0f7a4_29 knJ6_267 ⟨by decide, by decide⟩ ?_
  refine go_iand (z := 3) dJ6_bitCount_0f7a4_32 (by decide +kernel) ⟨by decide, by decide⟩ ?_
  refine go_istore_n 0 dJ6_bitCount_0f7a4_33 rfl (Nat.le_of_ble_eq_true rfl) rfl (by dsimp only [List.set]) ?_
  refine go_iload_n dJ6_bitCount_0f7a4_34 rfl ?_
  refine go_iload_n dJ6_bitCount_0f7a4_35 rfl ?_
  refine go_bipush dJ6_bitCount_0f7a4_36 (by decide +kernel) ⟨by decide, by decide⟩ ?_
  refine go_iushr (z := 0) dJ6_bitCount_0f7a4_38 (by decide +kernel) ⟨by decide, by decide⟩ ?_
  refine go_iadd dJ6_bitCount_0f7a4_39 (by decide) (by decide) ?_
  refine go_istore_n 0 dJ6_bitCount_0f7a4_40 rfl (Nat.le_of_ble_eq_true rfl) rfl (by dsimp only [List.set]) ?_
  refine go_iload_n dJ6_bitCount_0f7a4_41 rfl ?_
  refine go_iload_n dJ6_bitCount_0f7a4_42 rfl ?_
  refine go_bipush dJ6_bitCount_0f7a4_43 (by decide +kernel) ⟨by decide, by decide⟩ ?_
  refine go_iushr (z := 0) dJ6_bitCount_0f7a4_45 (by decide +kernel) ⟨by decide, by decide⟩ ?_
  refine go_iadd dJ6_bitCount_0f7a4_46 (by decide) (by decide) ?_
  refine go_istore_n 0 dJ6_bitCount_0f7a4_47 rfl (Nat.le_of_ble_eq_true rfl) rfl (by dsimp only [List.set]) ?_
  refine go_iload_n dJ6_bitCount_0f7a4_48 rfl ?_
  refine go_bipush dJ6_bitCount_0f7a4_49 (by decide +kernel) ⟨by decide, by decide⟩ ?_
  refine go_iand (z := 3) dJ6_bitCount_0f7a4_51 (by decide +kernel) ⟨by decide, by decide⟩ ?_
  refine go_ireturn dJ6_bitCount_0f7a4_52 rfl ?_
  exact hQ

set_option maxHeartbeats 4000000 in
set_option maxRecDepth 100000 in
theorem j_bit_15 {x : mX} {h : mH} {Q : Int → mH → Prop} (hQ : Q 4 h) : CtI x mtJ6_bitCount_0f7a4 [xI 15] h Q := by
  refine ct_go (ls := [xI 15]) (by decide +kernel) (Nat.le_of_ble_eq_true rfl) rfl ?_
  refine go_iload_n dJ6_bitCount_0f7a4_0 rfl ?_
  refine go_iload_n dJ6_bitCount_0f7a4_1 rfl ?_
  refine go_iconst dJ6_bitCount_0f7a4_2 ⟨by decide, by decide⟩ ?_
  refine go_iushr (z := 7) dJ6_bitCount_0f7a4_3 (by decide +kernel) ⟨by decide, by decide⟩ ?_
  refine go_ldcw dJ6_bitCount_0f7a4_4 knJ6_265 ⟨by decide, by decide⟩ ?_
  refine go_iand (z := 5) dJ6_bitCount_0f7a4_7 (by decide +kernel) ⟨by decide, by decide⟩ ?_
  refine go_isub dJ6_bitCount_0f7a4_8 (by decide) (by decide) ?_
  refine go_istore_n 0 dJ6_bitCount_0f7a4_9 rfl (Nat.le_of_ble_eq_true rfl) rfl (by dsimp only [List.set]) ?_
  refine go_iload_n dJ6_bitCount_0f7a4_10 rfl ?_
  refine go_ldcw dJ6_bitCount_0f7a4_11 knJ6_266 ⟨by decide, by decide⟩ ?_
  refine go_iand (z := 2) dJ6_bitCount_0f7a4_14 (by decide +kernel) ⟨by decide, by decide⟩ ?_
  refine go_iload_n dJ6_bitCount_0f7a4_15 rfl ?_
  refine go_iconst dJ6_bitCount_0f7a4_16 ⟨by decide, by decide⟩ ?_
  refine go_iushr (z := 2) dJ6_bitCount_0f7a4_17 (by decide +kernel) ⟨by decide, by decide⟩ ?_
  refine go_ldcw dJ6_bitCount_0f7a4_18 knJ6_266 ⟨by decide, by decide⟩ ?_
  refine go_iand (z := 2) dJ6_bitCount_0f7a4_21 (by decide +kernel) ⟨by decide, by decide⟩ ?_
  refine go_iadd dJ6_bitCount_0f7a4_22 (by decide) (by decide) ?_
  refine go_istore_n 0 dJ6_bitCount_0f7a4_23 rfl (Nat.le_of_ble_eq_true rfl) rfl (by dsimp only [List.set]) ?_
  refine go_iload_n dJ6_bitCount_0f7a4_24 rfl ?_
  refine go_iload_n dJ6_bitCount_0f7a4_25 rfl ?_
  refine go_iconst dJ6_bitCount_0f7a4_26 ⟨by decide, by decide⟩ ?_
  refine go_iushr (z := 0) dJ6_bitCount_0f7a4_27 (by decide +kernel) ⟨by decide, by decide⟩ ?_
  refine go_iadd dJ6_bitCount_0f7a4_28 (by decide) (by decide) ?_
  refine go_ldcw dJ6_bitCount_0f7a4_29 knJ6_267 ⟨by decide, by decide⟩ ?_
  refine go_iand (z := 4) dJ6_bitCount_0f7a4_32 (by decide +kernel) ⟨by decide, by decide⟩ ?_
  refine go_istore_n 0 dJ6_bitCount_0f7a4_33 rfl (Nat.le_of_ble_eq_true rfl) rfl (by dsimp only [List.set]) ?_
  refine go_iload_n dJ6_bitCount_0f7a4_34 rfl ?_
  refine go_iload_n dJ6_bitCount_0f7a4_35 rfl ?_
  refine go_bipush dJ6_bitCount_0f7a4_36 (by decide +kernel) ⟨by decide, by decide⟩ ?_
  refine go_iushr (z := 0) dJ6_bitCount_0f7a4_38 (by decide +kernel) ⟨by decide, by decide⟩ ?_
  refine go_iadd dJ6_bitCount_0f7a4_39 (by decide) (by decide) ?_
  refine go_istore_n 0 dJ6_bitCount_0f7a4_40 rfl (Nat.le_of_ble_eq_true rfl) rfl (by dsimp only [List.set]) ?_
  refine go_iload_n dJ6_bitCount_0f7a4_41 rfl ?_
  refine go_iload_n dJ6_bitCount_0f7a4_42 rfl ?_
  refine go_bipush dJ6_bitCount_0f7a4_43 (by decide +kernel) ⟨by decide, by decide⟩ ?_
  refine go_iushr (z := 0) dJ6_bitCount_0f7a4_45 (by decide +kernel) ⟨by decide, by decide⟩ ?_
  refine go_iadd dJ6_bitCount_0f7a4_46 (by decide) (by decide) ?_
  refine go_istore_n 0 dJ6_bitCount_0f7a4_47 rfl (Nat.le_of_ble_eq_true rfl) rfl (by dsimp only [List.set]) ?_
  refine go_iload_n dJ6_bitCount_0f7a4_48 rfl ?_
  refine go_bipush dJ6_bitCount_0f7a4_49 (by decide +kernel) ⟨by decide, by decide⟩ ?_
  refine go_iand (z := 4) dJ6_bitCount_0f7a4_51 (by decide +kernel) ⟨by decide, by decide⟩ ?_
  refine go_ireturn dJ6_bitCount_0f7a4_52 rfl ?_
  exact hQ

theorem j_bit {x : mX} {h : mH} {Q : Int → mH → Prop} {m : Nat} (hm : m < 16) (hQ : Q (pc4 m) h) : CtI x mtJ6_bitCount_0f7a4 [xI m] h Q := by
  match m, hm with
  | 0, _ => exact j_bit_0 ((show pc4 0 = 0 by decide +kernel) ▸ hQ)
  | 1, _ => exact j_bit_1 ((show pc4 1 = 1 by decide +kernel) ▸ hQ)
  | 2, _ => exact j_bit_2 ((show pc4 2 = 1 by decide +kernel) ▸ hQ)
  | 3, _ => exact j_bit_3 ((show pc4 3 = 2 by decide +kernel) ▸ hQ)
  | 4, _ => exact j_bit_4 ((show pc4 4 = 1 by decide +kernel) ▸ hQ)
  | 5, _ => exact j_bit_5 ((show pc4 5 = 2 by decide +kernel) ▸ hQ)
  | 6, _ => exact j_bit_6 ((show pc4 6 = 2 by decide +kernel) ▸ hQ)
  | 7, _ => exact j_bit_7 ((show pc4 7 = 3 by decide +kernel) ▸ hQ)
  | 8, _ => exact j_bit_8 ((show pc4 8 = 1 by decide +kernel) ▸ hQ)
  | 9, _ => exact j_bit_9 ((show pc4 9 = 2 by decide +kernel) ▸ hQ)
  | 10, _ => exact j_bit_10 ((show pc4 10 = 2 by decide +kernel) ▸ hQ)
  | 11, _ => exact j_bit_11 ((show pc4 11 = 3 by decide +kernel) ▸ hQ)
  | 12, _ => exact j_bit_12 ((show pc4 12 = 2 by decide +kernel) ▸ hQ)
  | 13, _ => exact j_bit_13 ((show pc4 13 = 3 by decide +kernel) ▸ hQ)
  | 14, _ => exact j_bit_14 ((show pc4 14 = 3 by decide +kernel) ▸ hQ)
  | 15, _ => exact j_bit_15 ((show pc4 15 = 4 by decide +kernel) ▸ hQ)
  | m + 16, hm => exact absurd hm (by omega)

def isStg (t : Nat) : Prop := kd t = 7 ∧ kd (t + 1) = 10 ∧ ln (t + 1) = 5

set_option maxHeartbeats 4000000 in
set_option maxRecDepth 100000 in
theorem st_shutsNone {x : mX} {h : mH} {Q : mH → Prop} {t : Nat} (ht : isStg t) (hQ : Q (hset h t 2 0)) : CtV x mtX7_shutsNone [xR t] h Q := by
  obtain ⟨k1, k2, k3⟩ := ht
  refine ct_go (ls := [xR t]) (by decide +kernel) (Nat.le_of_ble_eq_true rfl) rfl ?_
  refine go_aload_n dX7_shutsNone_0 rfl ?_
  refine go_iconst dX7_shutsNone_1 ⟨by decide, by decide⟩ ?_
  refine pfX7_shut (by first | assumption | rfl) flX7_19 dX7_shutsNone_2 ?_
  refine go_return dX7_shutsNone_5 rfl ?_
  exact hQ

set_option maxHeartbeats 4000000 in
set_option maxRecDepth 100000 in
theorem st_shutsOpen {x : mX} {h : mH} {Q : mH → Prop} {t sh op : Nat} (ht : isStg t) (hsh : h t 2 = sh) (hop : h t 3 = op) (b1 : sh < 16) (b2 : op < 16) (hQ : Q (hset h t 2 ((sh ||| op : Nat) : Int))) : CtV x mtX7_shutsOpen [xR t] h Q := by
  obtain ⟨k1, k2, k3⟩ := ht
  refine ct_go (ls := [xR t]) (by decide +kernel) (Nat.le_of_ble_eq_true rfl) rfl ?_
  refine go_aload_n dX7_shutsOpen_0 rfl ?_
  first | refine go_dupR dX7_shutsOpen_1 ?_ | refine go_dupI dX7_shutsOpen_1 ?_
  refine gfX7_shut (by first | assumption | rfl) flX7_19 dX7_shutsOpen_2 ?_
  rw [hsh]
  refine go_aload_n dX7_shutsOpen_5 rfl ?_
  refine gfX7_open (by first | assumption | rfl) flX7_22 dX7_shutsOpen_6 ?_
  rw [hop]
  refine go_ior  dX7_shutsOpen_9 (orm_ok sh b1 op b2) (inR_nat (Nat.lt_trans (orm_bd sh b1 op b2) (by decide))) ?_
  refine pfX7_shut (by first | assumption | rfl) flX7_19 dX7_shutsOpen_10 ?_
  refine go_return dX7_shutsOpen_13 rfl ?_
  exact hQ

set_option maxHeartbeats 4000000 in
set_option maxRecDepth 100000 in
theorem st_width {x : mX} {h : mH} {Q : Int → mH → Prop} {t : Nat} {k : Int} (ht : isStg t) (h0 : 0 ≤ k) (h1 : k < 5) (hQ : Q (h (t + 1) k) h) : CtI x mtX7_width [xR t, xI k] h Q := by
  obtain ⟨k1, k2, k3⟩ := ht
  refine ct_go (ls := [xR t, xI k]) (by decide +kernel) (Nat.le_of_ble_eq_true rfl) rfl ?_
  refine go_iload_n dX7_width_0 rfl ?_
  refine go_if_lt_f (tgt := 22) dX7_width_1 (by decide) (h0) ?_
  refine go_iload_n dX7_width_4 rfl ?_
  refine go_aload_n dX7_width_5 rfl ?_
  refine gfX7_widths (by first | assumption | rfl) flX7_9 dX7_width_6 ?_
  refine go_alen (Or.inl (by first | assumption | rfl)) dX7_width_9 (⟨by omega, by omega⟩) ?_
  refine go_icmp_ge_f (tgt := 22) dX7_width_10 (by decide) (by omega) ?_
  refine go_aload_n dX7_width_13 rfl ?_
  refine gfX7_widths (by first | assumption | rfl) flX7_9 dX7_width_14 ?_
  refine go_iload_n dX7_width_17 rfl ?_
  refine go_iaload (by first | assumption | rfl) dX7_width_18 (by omega) (by omega) ?_
  refine go_goto (tgt := 23) dX7_width_19 (by decide) ?_
  refine go_ireturn dX7_width_23 rfl ?_
  exact hQ

set_option maxHeartbeats 4000000 in
set_option maxRecDepth 100000 in
theorem st_beginOf {x : mX} {h : mH} {Q : Int → mH → Prop} {t k : Nat} (ht : isStg t) (hk : k ≤ 5) (hwd : ∀ s : Nat, s < 5 → 0 ≤ h (t + 1) (s : Int) ∧ h (t + 1) (s : Int) ≤ 1000) (hQ : Q (tot (fun s => h (t + 1) (s : Int)) k) h) : CtI x mtX7_beginOf [xR t, xI k] h Q := by
  refine ct_go (ls := [xR t, xI k, xU, xU]) (by decide +kernel) (Nat.le_of_ble_eq_true rfl) rfl ?_
  refine go_iconst dX7_beginOf_0 ⟨by decide, by decide⟩ ?_
  refine go_istore_n 2 dX7_beginOf_1 rfl (Nat.le_of_ble_eq_true rfl) rfl (by dsimp only [List.set]) ?_
  refine go_iconst dX7_beginOf_2 ⟨by decide, by decide⟩ ?_
  refine go_istore_n 3 dX7_beginOf_3 rfl (Nat.le_of_ble_eq_true rfl) rfl (by dsimp only [List.set]) ?_
  refine up_indN (P := fun s => Go x mtX7_beginOf 4 [xR t, xI k, xI (tot (fun k => h (t + 1) (k : Int)) s), xI s] [] h (qI Q)) k (fun s hs ih => ?_)
  have hb := tot_bd (w := fun k => h (t + 1) (k : Int)) (B := 1000) (n := s) (fun j hj => hwd j (by omega))
  by_cases hlt : s < k
  · skip
    refine go_iload_n dX7_beginOf_4 rfl ?_
    refine go_iload_n dX7_beginOf_5 rfl ?_
    refine go_icmp_ge_f (tgt := 23) dX7_beginOf_6 (by decide) (by omega) ?_
    refine go_iload_n dX7_beginOf_9 rfl ?_
    refine go_aload_n dX7_beginOf_10 rfl ?_
    refine go_iload_n dX7_beginOf_11 rfl ?_
    refine go_cV1I ht.1 vlX7_37 dX7_beginOf_12 (by decide) rfl rfl (by decide) (Nat.le_of_ble_eq_true rfl) (st_width ht (by omega) (by omega) ?_)
    have hw := hwd s (by omega)
    refine go_iadd dX7_beginOf_15 (by omega) (by omega) ?_
    refine go_istore_n 2 dX7_beginOf_16 rfl (Nat.le_of_ble_eq_true rfl) rfl (by dsimp only [List.set]) ?_
    refine go_iinc dX7_beginOf_17 rfl rfl rfl (by omega) (by omega) (by dsimp only [List.set]) ?_
    refine go_goto (tgt := 4) dX7_beginOf_20 (by decide) ?_
    rw [show tot (fun k => h (t + 1) (k : Int)) s + h (t + 1) (s : Int) = tot (fun k => h (t + 1) (k : Int)) (s + 1) from rfl]
    exact ih (by omega)
  · have hie : s = k := by omega
    subst hie
    refine go_iload_n dX7_beginOf_4 rfl ?_
    refine go_iload_n dX7_beginOf_5 rfl ?_
    refine go_icmp_ge_t (tgt := 23) dX7_beginOf_6 (by decide) (by omega) ?_
    refine go_iload_n dX7_beginOf_23 rfl ?_
    refine go_ireturn dX7_beginOf_24 rfl ?_
    exact hQ

set_option maxHeartbeats 4000000 in
set_option maxRecDepth 100000 in
theorem st_choiceFor {x : mX} {h : mH} {Q : Int → mH → Prop} {t : Nat} {k : Int} (ht : isStg t) (h0 : 0 ≤ k) (h1 : k < 4) (hQ : Q (if 0 < h (t + 1) k then k else 4) h) : CtI x mtX7_choiceFor [xR t, xI k] h Q := by
  refine ct_go (ls := [xR t, xI k]) (by decide +kernel) (Nat.le_of_ble_eq_true rfl) rfl ?_
  refine go_aload_n dX7_choiceFor_0 rfl ?_
  refine go_iload_n dX7_choiceFor_1 rfl ?_
  refine go_cV1I ht.1 vlX7_37 dX7_choiceFor_2 (by decide) rfl rfl (by decide) (Nat.le_of_ble_eq_true rfl) (st_width ht h0 (by omega) ?_)
  refine go_if_le (tgt := 12) dX7_choiceFor_5 (by decide) (fun c5 => ?_) (fun c5 => ?_)
  · refine go_iconst dX7_choiceFor_12 ⟨by decide, by decide⟩ ?_
    refine go_ireturn dX7_choiceFor_13 rfl ?_
    first | (rw [if_neg (by omega)] at hQ; exact hQ) | (rw [if_pos (by omega)] at hQ; exact hQ)
  · refine go_iload_n dX7_choiceFor_8 rfl ?_
    refine go_goto (tgt := 13) dX7_choiceFor_9 (by decide) ?_
    refine go_ireturn dX7_choiceFor_13 rfl ?_
    first | (rw [if_neg (by omega)] at hQ; exact hQ) | (rw [if_pos (by omega)] at hQ; exact hQ)

/-- the first of the four whose part ends above v; else 4 -/
def chAt (w : Nat → Int) (v : Int) : Nat := if v < tot w 1 then 0 else if v < tot w 2 then 1 else if v < tot w 3 then 2 else if v < tot w 4 then 3 else 4

set_option maxHeartbeats 4000000 in
set_option maxRecDepth 100000 in
theorem st_choiceAt {x : mX} {h : mH} {Q : Int → mH → Prop} {t : Nat} {v : Int} (ht : isStg t) (hwd : ∀ s : Nat, s < 5 → 0 ≤ h (t + 1) (s : Int) ∧ h (t + 1) (s : Int) ≤ 1000) (hQ : Q ((chAt (fun s => h (t + 1) (s : Int)) v : Nat) : Int) h) : CtI x mtX7_choiceAt [xR t, xI v] h Q := by
  have w0 : 0 ≤ h (t + 1) 0 ∧ h (t + 1) 0 ≤ 1000 := hwd 0 (by decide)
  have w1 : 0 ≤ h (t + 1) 1 ∧ h (t + 1) 1 ≤ 1000 := hwd 1 (by decide)
  have w2 : 0 ≤ h (t + 1) 2 ∧ h (t + 1) 2 ≤ 1000 := hwd 2 (by decide)
  have w3 : 0 ≤ h (t + 1) 3 ∧ h (t + 1) 3 ≤ 1000 := hwd 3 (by decide)
  have t1 : tot (fun s => h (t + 1) (s : Int)) 1 = h (t + 1) 0 := Int.zero_add _
  have t2 : tot (fun s => h (t + 1) (s : Int)) 2 = h (t + 1) 0 + h (t + 1) 1 := by rw [tot, t1]; rfl
  have t3 : tot (fun s => h (t + 1) (s : Int)) 3 = h (t + 1) 0 + h (t + 1) 1 + h (t + 1) 2 := by rw [tot, t2]; rfl
  have t4 : tot (fun s => h (t + 1) (s : Int)) 4 = h (t + 1) 0 + h (t + 1) 1 + h (t + 1) 2 + h (t + 1) 3 := by rw [tot, t3]; rfl
  refine ct_go (ls := [xR t, xI v, xU, xU]) (by decide +kernel) (Nat.le_of_ble_eq_true rfl) rfl ?_
  refine go_iconst dX7_choiceAt_0 ⟨by decide, by decide⟩ ?_
  refine go_istore_n 2 dX7_choiceAt_1 rfl (Nat.le_of_ble_eq_true rfl) rfl (by dsimp only [List.set]) ?_
  refine go_iconst dX7_choiceAt_2 ⟨by decide, by decide⟩ ?_
  refine go_istore_n 3 dX7_choiceAt_3 rfl (Nat.le_of_ble_eq_true rfl) rfl (by dsimp only [List.set]) ?_
  refine go_iload_n dX7_choiceAt_4 rfl ?_
  refine go_iconst dX7_choiceAt_5 ⟨by decide, by decide⟩ ?_
  refine go_icmp_ge_f (tgt := 30) dX7_choiceAt_6 (by decide) (by omega) ?_
  refine go_iload_n dX7_choiceAt_9 rfl ?_
  refine go_aload_n dX7_choiceAt_10 rfl ?_
  refine go_iload_n dX7_choiceAt_11 rfl ?_
  refine go_cV1I ht.1 vlX7_37 dX7_choiceAt_12 (by decide) rfl rfl (by decide) (Nat.le_of_ble_eq_true rfl) (st_width ht (by omega) (by omega) ?_)
  try simp only [Int.zero_add, Int.reduceAdd]
  refine go_iadd dX7_choiceAt_15 (by omega) (by omega) ?_
  refine go_istore_n 2 dX7_choiceAt_16 rfl (Nat.le_of_ble_eq_true rfl) rfl (by dsimp only [List.set]) ?_
  refine go_iload_n dX7_choiceAt_17 rfl ?_
  refine go_iload_n dX7_choiceAt_18 rfl ?_
  refine go_icmp_ge (tgt := 24) dX7_choiceAt_19 (by decide) (fun c19 => ?_) (fun c19 => ?_)
  · refine go_iinc dX7_choiceAt_24 rfl rfl rfl (by omega) (by omega) (by dsimp only [List.set]) ?_
    refine go_goto (tgt := 4) dX7_choiceAt_27 (by decide) ?_
    refine go_iload_n dX7_choiceAt_4 rfl ?_
    refine go_iconst dX7_choiceAt_5 ⟨by decide, by decide⟩ ?_
    refine go_icmp_ge_f (tgt := 30) dX7_choiceAt_6 (by decide) (by omega) ?_
    refine go_iload_n dX7_choiceAt_9 rfl ?_
    refine go_aload_n dX7_choiceAt_10 rfl ?_
    refine go_iload_n dX7_choiceAt_11 rfl ?_
    refine go_cV1I ht.1 vlX7_37 dX7_choiceAt_12 (by decide) rfl rfl (by decide) (Nat.le_of_ble_eq_true rfl) (st_width ht (by omega) (by omega) ?_)
    try simp only [Int.zero_add, Int.reduceAdd]
    refine go_iadd dX7_choiceAt_15 (by omega) (by omega) ?_
    refine go_istore_n 2 dX7_choiceAt_16 rfl (Nat.le_of_ble_eq_true rfl) rfl (by dsimp only [List.set]) ?_
    refine go_iload_n dX7_choiceAt_17 rfl ?_
    refine go_iload_n dX7_choiceAt_18 rfl ?_
    refine go_icmp_ge (tgt := 24) dX7_choiceAt_19 (by decide) (fun c19 => ?_) (fun c19 => ?_)
    · refine go_iinc dX7_choiceAt_24 rfl rfl rfl (by omega) (by omega) (by dsimp only [List.set]) ?_
      refine go_goto (tgt := 4) dX7_choiceAt_27 (by decide) ?_
      refine go_iload_n dX7_choiceAt_4 rfl ?_
      refine go_iconst dX7_choiceAt_5 ⟨by decide, by decide⟩ ?_
      refine go_icmp_ge_f (tgt := 30) dX7_choiceAt_6 (by decide) (by omega) ?_
      refine go_iload_n dX7_choiceAt_9 rfl ?_
      refine go_aload_n dX7_choiceAt_10 rfl ?_
      refine go_iload_n dX7_choiceAt_11 rfl ?_
      refine go_cV1I ht.1 vlX7_37 dX7_choiceAt_12 (by decide) rfl rfl (by decide) (Nat.le_of_ble_eq_true rfl) (st_width ht (by omega) (by omega) ?_)
      try simp only [Int.zero_add, Int.reduceAdd]
      refine go_iadd dX7_choiceAt_15 (by omega) (by omega) ?_
      refine go_istore_n 2 dX7_choiceAt_16 rfl (Nat.le_of_ble_eq_true rfl) rfl (by dsimp only [List.set]) ?_
      refine go_iload_n dX7_choiceAt_17 rfl ?_
      refine go_iload_n dX7_choiceAt_18 rfl ?_
      refine go_icmp_ge (tgt := 24) dX7_choiceAt_19 (by decide) (fun c19 => ?_) (fun c19 => ?_)
      · refine go_iinc dX7_choiceAt_24 rfl rfl rfl (by omega) (by omega) (by dsimp only [List.set]) ?_
        refine go_goto (tgt := 4) dX7_choiceAt_27 (by decide) ?_
        refine go_iload_n dX7_choiceAt_4 rfl ?_
        refine go_iconst dX7_choiceAt_5 ⟨by decide, by decide⟩ ?_
        refine go_icmp_ge_f (tgt := 30) dX7_choiceAt_6 (by decide) (by omega) ?_
        refine go_iload_n dX7_choiceAt_9 rfl ?_
        refine go_aload_n dX7_choiceAt_10 rfl ?_
        refine go_iload_n dX7_choiceAt_11 rfl ?_
        refine go_cV1I ht.1 vlX7_37 dX7_choiceAt_12 (by decide) rfl rfl (by decide) (Nat.le_of_ble_eq_true rfl) (st_width ht (by omega) (by omega) ?_)
        try simp only [Int.zero_add, Int.reduceAdd]
        refine go_iadd dX7_choiceAt_15 (by omega) (by omega) ?_
        refine go_istore_n 2 dX7_choiceAt_16 rfl (Nat.le_of_ble_eq_true rfl) rfl (by dsimp only [List.set]) ?_
        refine go_iload_n dX7_choiceAt_17 rfl ?_
        refine go_iload_n dX7_choiceAt_18 rfl ?_
        refine go_icmp_ge (tgt := 24) dX7_choiceAt_19 (by decide) (fun c19 => ?_) (fun c19 => ?_)
        · refine go_iinc dX7_choiceAt_24 rfl rfl rfl (by omega) (by omega) (by dsimp only [List.set]) ?_
          refine go_goto (tgt := 4) dX7_choiceAt_27 (by decide) ?_
          refine go_iload_n dX7_choiceAt_4 rfl ?_
          refine go_iconst dX7_choiceAt_5 ⟨by decide, by decide⟩ ?_
          refine go_icmp_ge_t (tgt := 30) dX7_choiceAt_6 (by decide) (by omega) ?_
          refine go_iconst dX7_choiceAt_30 ⟨by decide, by decide⟩ ?_
          refine go_ireturn dX7_choiceAt_31 rfl ?_
          rw [show chAt (fun s => h (t + 1) (s : Int)) v = 4 by unfold chAt; rw [t1, t2, t3, t4]; rw [if_neg (by omega), if_neg (by omega), if_neg (by omega), if_neg (by omega)]] at hQ
          exact hQ
        · refine go_iload_n dX7_choiceAt_22 rfl ?_
          refine go_ireturn dX7_choiceAt_23 rfl ?_
          rw [show chAt (fun s => h (t + 1) (s : Int)) v = 3 by unfold chAt; rw [t1, t2, t3, t4]; rw [if_neg (by omega), if_neg (by omega), if_neg (by omega), if_pos (by omega)]] at hQ
          exact hQ
      · refine go_iload_n dX7_choiceAt_22 rfl ?_
        refine go_ireturn dX7_choiceAt_23 rfl ?_
        rw [show chAt (fun s => h (t + 1) (s : Int)) v = 2 by unfold chAt; rw [t1, t2, t3, t4]; rw [if_neg (by omega), if_neg (by omega), if_pos (by omega)]] at hQ
        exact hQ
    · refine go_iload_n dX7_choiceAt_22 rfl ?_
      refine go_ireturn dX7_choiceAt_23 rfl ?_
      rw [show chAt (fun s => h (t + 1) (s : Int)) v = 1 by unfold chAt; rw [t1, t2, t3, t4]; rw [if_neg (by omega), if_pos (by omega)]] at hQ
      exact hQ
  · refine go_iload_n dX7_choiceAt_22 rfl ?_
    refine go_ireturn dX7_choiceAt_23 rfl ?_
    rw [show chAt (fun s => h (t + 1) (s : Int)) v = 0 by unfold chAt; rw [t1, t2, t3, t4]; rw [if_pos (by omega)]] at hQ
    exact hQ
