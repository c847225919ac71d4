/-! ===== LongestPast: its state, the plain calls ===== -/
theorem pk3 : isPk 3 := by unfold isPk isPast isCtx isRg isStg isRow; decide +kernel
theorem pk14 : isPk 14 := by unfold isPk isPast isCtx isRg isStg isRow; decide +kernel
theorem row1 : isRow 1 200 := by unfold isRow; decide +kernel
theorem past46 : isPast 46 := by unfold isPast isRow; decide +kernel
theorem past49 : isPast 49 := by unfold isPast isRow; decide +kernel
theorem od25 : isOd 25 := rfl
/-- letters, what is so now, what can be undone, the two images -/
abbrev Ab : Type := List Int × PV × List PV × Option PV × Option PV
def AbOk (a : Ab) : Prop := (a.1.length ≤ 200 ∧ ∀ k : Nat, k < a.1.length → 0 ≤ a.1.getD k 0 ∧ a.1.getD k 0 ≤ 255) ∧ PvOk a.2.1 ∧ (a.2.2.1.length ≤ 6 ∧ ∀ v ∈ a.2.2.1, PvOk v) ∧ (∀ v, a.2.2.2.1 = some v → PvOk v) ∧ ∀ v, a.2.2.2.2 = some v → PvOk v
def ImS (h : mH) (p : Nat) (k : Int) (im : Option PV) : Prop := h 0 k = (if im.isSome = true then 1 else 0) ∧ 0 ≤ h (p + 1) 1 ∧ ∀ v, im = some v → PastV h p v
abbrev PkV (h : mH) (b : Nat) (v : PV) : Prop := PkS h b v.1 v.2.1 v.2.2.1 v.2.2.2.1 v.2.2.2.2 v.2.2.2.2.length
def LpS (h : mH) (a : Ab) : Prop := RowL h 1 a.1 ∧ PkV h 3 a.2.1 ∧ PkZ h 14 ∧ (∃ nx, HiS h nx a.2.2.1) ∧ ImS h 46 7 a.2.2.2.1 ∧ ImS h 49 8 a.2.2.2.2
def FrL (h h' : mH) : Prop := ∀ i, 52 ≤ i → h' i = h i
theorem PkS.congr {h h' : mH} {b : Nat} {o l r t : Int} {T : List Int} {n : Nat} (H : PkS h b o l r t T n) (e : ∀ i, b ≤ i → i < b + 11 → h' i = h i) : PkS h' b o l r t T n := by
  obtain ⟨hPa, hR, e4, hC, e5, hG⟩ := H
  have e6 := e (b + 6) (by omega) (by omega)
  refine ⟨by unfold PaS; rw [e _ (by omega) (by omega)]; exact hPa, hR.congr (e _ (by omega) (by omega)) (e _ (by omega) (by omega)), by rw [e _ (by omega) (by omega)]; exact e4, ⟨by rw [e _ (by omega) (by omega)]; exact hC.1, by rw [e _ (by omega) (by omega)]; exact hC.2⟩, by rw [e _ (by omega) (by omega)]; exact e5, ⟨by rw [e6]; exact hG.1, by rw [e6]; exact hG.2.1, by rw [e6]; exact hG.2.2.1, by rw [e6]; exact hG.2.2.2.1, hG.2.2.2.2.congr (e _ (by omega) (by omega)) (e _ (by omega) (by omega))⟩⟩
theorem PkS.congr6 {h h' : mH} {b : Nat} {o l r t : Int} {T : List Int} {n : Nat} (H : PkS h b o l r t T n) (e : ∀ i, b < i → i < b + 9 → h' i = h i) (eb : ∀ z, z ≠ 6 → h' b z = h b z) : PkS h' b o l r t T n := by
  obtain ⟨hPa, hR, e4, hC, e5, hG⟩ := H
  have e6 := e (b + 6) (by omega) (by omega)
  refine ⟨by unfold PaS; rw [e _ (by omega) (by omega)]; exact hPa, hR.congr (e _ (by omega) (by omega)) (e _ (by omega) (by omega)), by rw [eb 4 (by decide)]; exact e4, ⟨by rw [e _ (by omega) (by omega)]; exact hC.1, by rw [e _ (by omega) (by omega)]; exact hC.2⟩, by rw [eb 5 (by decide)]; exact e5, ⟨by rw [e6]; exact hG.1, by rw [e6]; exact hG.2.1, by rw [e6]; exact hG.2.2.1, by rw [e6]; exact hG.2.2.2.1, hG.2.2.2.2.congr (e _ (by omega) (by omega)) (e _ (by omega) (by omega))⟩⟩
theorem PkZ.congr {h h' : mH} {b : Nat} (H : PkZ h b) (e : ∀ i, b ≤ i → i < b + 11 → h' i = h i) : PkZ h' b := ⟨fun k hk => by rw [e _ (by omega) (by omega)]; exact H.1 k hk, by rw [e _ (by omega) (by omega)]; exact H.2.1, by rw [e _ (by omega) (by omega)]; exact H.2.2⟩
theorem ImS.congr {h h' : mH} {p : Nat} {k : Int} {im : Option PV} (H : ImS h p k im) (e0 : h' 0 k = h 0 k) (e : ∀ i, p ≤ i → i < p + 3 → h' i = h i) : ImS h' p k im := ⟨by rw [e0]; exact H.1, by rw [e _ (by omega) (by omega)]; exact H.2.1, fun v hv => (H.2.2 v hv).congr (e _ (by omega) (by omega)) (e _ (by omega) (by omega)) (e _ (by omega) (by omega))⟩
/-- only cells of the trial packer, of the odds, and what the packer now leaves behind have changed -/
theorem LpS.trial {h h' : mH} {a : Ab} (H : LpS h a) (e : ∀ i, i < 14 ∨ (25 < i ∧ i < 52) → h' i = h i) (z : PkZ h' 14) : LpS h' a := by
  obtain ⟨A, B, C, ⟨nx, D⟩, E, F⟩ := H
  exact ⟨A.congr (e _ (by omega)) (e _ (by omega)), B.congr (fun i q1 q2 => e i (by omega)), z, ⟨nx, D.congr (fun i q1 q2 => e i (by omega))⟩, E.congr (by rw [e 0 (by omega)]) (fun i q1 q2 => e i (by omega)), F.congr (by rw [e 0 (by omega)]) (fun i q1 q2 => e i (by omega))⟩
theorem LpS.odds {h h' : mH} {a : Ab} (H : LpS h a) (e : ∀ i, i ≠ 25 → i ≠ 3 → i ≠ 12 → i ≠ 13 → h' i = h i) (eb : ∀ z, z ≠ 6 → h' 3 z = h 3 z) : LpS h' a := by
  obtain ⟨A, B, C, ⟨nx, D⟩, E, F⟩ := H
  exact ⟨A.congr (e _ (by omega) (by omega) (by omega) (by omega)) (e _ (by omega) (by omega) (by omega) (by omega)), B.congr6 (fun i q1 q2 => e i (by omega) (by omega) (by omega) (by omega)) eb, C.congr (fun i q1 q2 => e i (by omega) (by omega) (by omega) (by omega)), ⟨nx, D.congr (fun i q1 q2 => e i (by omega) (by omega) (by omega) (by omega))⟩, E.congr (by rw [e 0 (by omega) (by omega) (by omega) (by omega)]) (fun i q1 q2 => e i (by omega) (by omega) (by omega) (by omega)), F.congr (by rw [e 0 (by omega) (by omega) (by omega) (by omega)]) (fun i q1 q2 => e i (by omega) (by omega) (by omega) (by omega))⟩

set_option maxHeartbeats 4000000 in
set_option maxRecDepth 100000 in
theorem lp_isWithin {x : mX} {h : mH} {Q : Int → mH → Prop} {z a b : Int} (hQ : Q (if a ≤ z ∧ z ≤ b then 1 else 0) h) : CtI x mtX9_isWithin [xI z, xI a, xI b] h Q := by
  refine ct_go (ls := [xI z, xI a, xI b]) (by decide +kernel) (Nat.le_of_ble_eq_true rfl) rfl ?_
  refine go_iload_n dX9_isWithin_0 rfl ?_
  refine go_iload_n dX9_isWithin_1 rfl ?_
  refine go_icmp_lt (tgt := 14) dX9_isWithin_2 (by decide) (fun c2 => ?_) (fun c2 => ?_)
  · refine go_iconst dX9_isWithin_14 ⟨by decide, by decide⟩ ?_
    refine go_zreturn dX9_isWithin_15 rfl (by first | exact Or.inl rfl | exact Or.inr rfl) ?_
    first | (rw [if_pos (by omega)] at hQ; exact hQ) | (rw [if_neg (by omega)] at hQ; exact hQ)
  · refine go_iload_n dX9_isWithin_5 rfl ?_
    refine go_iload_n dX9_isWithin_6 rfl ?_
    refine go_icmp_gt (tgt := 14) dX9_isWithin_7 (by decide) (fun c7 => ?_) (fun c7 => ?_)
    · refine go_iconst dX9_isWithin_14 ⟨by decide, by decide⟩ ?_
      refine go_zreturn dX9_isWithin_15 rfl (by first | exact Or.inl rfl | exact Or.inr rfl) ?_
      first | (rw [if_pos (by omega)] at hQ; exact hQ) | (rw [if_neg (by omega)] at hQ; exact hQ)
    · refine go_iconst dX9_isWithin_10 ⟨by decide, by decide⟩ ?_
      refine go_goto (tgt := 15) dX9_isWithin_11 (by decide) ?_
      refine go_zreturn dX9_isWithin_15 rfl (by first | exact Or.inl rfl | exact Or.inr rfl) ?_
      first | (rw [if_pos (by omega)] at hQ; exact hQ) | (rw [if_neg (by omega)] at hQ; exact hQ)

set_option maxHeartbeats 4000000 in
set_option maxRecDepth 100000 in
theorem lp_isSign {x : mX} {h : mH} {Q : Int → mH → Prop} {z : Int} (hQ : Q (if 0 ≤ z ∧ z ≤ 3 then 1 else 0) h) : CtI x mtX9_isSign [xI z] h Q := by
  refine ct_go (ls := [xI z]) (by decide +kernel) (Nat.le_of_ble_eq_true rfl) rfl ?_
  refine go_iload_n dX9_isSign_0 rfl ?_
  refine go_iconst dX9_isSign_1 ⟨by decide, by decide⟩ ?_
  refine go_iconst dX9_isSign_2 ⟨by decide, by decide⟩ ?_
  refine go_cS3I slX9_73 dX9_isSign_3 (by decide) (Nat.le_of_ble_eq_true rfl) (lp_isWithin ?_)
  refine go_zreturn dX9_isSign_6 rfl (by split <;> first | exact Or.inl rfl | exact Or.inr rfl) ?_
  exact hQ

def sp_type (z : Int) (a : Ab) : Int × Ab := if z < 0 ∨ 255 < z then (-1, a) else if 200 ≤ a.1.length then (-3, a) else ((a.1.length : Int) + 1, (a.1 ++ [z], a.2))
def sp_clear (a : Ab) : Int × Ab := ((a.1.length : Int), ([], a.2))

set_option maxHeartbeats 4000000 in
set_option maxRecDepth 100000 in
theorem lp_type {x : mX} {h : mH} {Q : Int → mH → Prop} {z : Int} {a : Ab} (H : LpS h a) (ok : AbOk a) (hQ : ∀ h', LpS h' (sp_type z a).2 → FrL h h' → Q (sp_type z a).1 h') : CtI x mtX9_type [xR 0, xI z] h Q := by
  obtain ⟨R, P, Z, ⟨nx, D⟩, E, F⟩ := id H
  have hl := ok.1.1
  refine ct_go (ls := [xR 0, xI z]) (by decide +kernel) (Nat.le_of_ble_eq_true rfl) rfl ?_
  refine go_iload_n dX9_type_0 rfl ?_
  refine go_if_lt (tgt := 11) dX9_type_1 (by decide) (fun c1 => ?_) (fun c1 => ?_)
  · refine go_iconst dX9_type_11 ⟨by decide, by decide⟩ ?_
    refine go_ireturn dX9_type_12 rfl ?_
    have e9 : sp_type z a = (-1, a) := by unfold sp_type; rw [if_pos (by omega)]
    rw [e9] at hQ
    exact hQ h H (fun _ _ => rfl)
  · refine go_iload_n dX9_type_4 rfl ?_
    refine go_sipush dX9_type_5 (by decide +kernel) ⟨by decide, by decide⟩ ?_
    refine go_icmp_le (tgt := 13) dX9_type_8 (by decide) (fun c8 => ?_) (fun c8 => ?_)
    · refine go_aload_n dX9_type_13 rfl ?_
      refine gfX9_letters rfl flX9_14 dX9_type_14 ?_
      refine go_cV0I rfl vlX9_59 dX9_type_17 (by decide) rfl rfl (by decide) (Nat.le_of_ble_eq_true rfl) (row_isFull row1 ?_)
      rw [R.1]
      refine go_if_eq (tgt := 26) dX9_type_20 (by decide) (fun c20 => ?_) (fun c20 => ?_)
      · have hnf : a.1.length < 200 := by rcases Nat.lt_or_ge a.1.length 200 with q | q; exact q; (rw [if_neg (by omega)] at c20; omega)
        refine go_aload_n dX9_type_26 rfl ?_
        refine gfX9_letters rfl flX9_14 dX9_type_27 ?_
        refine go_iload_n dX9_type_30 rfl ?_
        refine go_cV1V rfl vlX9_63 dX9_type_31 (by decide) rfl rfl (by decide) (Nat.le_of_ble_eq_true rfl) (row_putsL (N := 200) row1 R (by omega) ?_)
        intro h1 R1 F1
        refine go_aload_n dX9_type_34 rfl ?_
        refine gfX9_letters rfl flX9_14 dX9_type_35 ?_
        refine gfX6_size rfl flX9_66 dX9_type_38 ?_
        refine go_ireturn dX9_type_41 rfl ?_
        have e9 : sp_type z a = ((a.1.length : Int) + 1, (a.1 ++ [z], a.2)) := by unfold sp_type; rw [if_neg (by omega), if_neg (by omega)]
        rw [e9] at hQ
        rw [R1.1, List.length_append, List.length_singleton]
        refine hQ h1 ⟨R1, P.congr (fun i q1 q2 => F1 i (by omega) (by omega)), Z.congr (fun i q1 q2 => F1 i (by omega) (by omega)), ⟨nx, D.congr (fun i q1 q2 => F1 i (by omega) (by omega))⟩, E.congr (by rw [F1 0 (by omega) (by omega)]) (fun i q1 q2 => F1 i (by omega) (by omega)), F.congr (by rw [F1 0 (by omega) (by omega)]) (fun i q1 q2 => F1 i (by omega) (by omega))⟩ (fun i q => F1 i (by omega) (by omega))
      · refine go_bipush dX9_type_23 (by decide +kernel) ⟨by decide, by decide⟩ ?_
        refine go_ireturn dX9_type_25 rfl ?_
        have hfull : 200 ≤ a.1.length := by rcases Nat.lt_or_ge a.1.length 200 with q | q; (rw [if_pos (by omega)] at c20; exact absurd rfl c20); exact q
        have e9 : sp_type z a = (-3, a) := by unfold sp_type; rw [if_neg (by omega), if_pos hfull]
        rw [e9] at hQ
        exact hQ h H (fun _ _ => rfl)
    · refine go_iconst dX9_type_11 ⟨by decide, by decide⟩ ?_
      refine go_ireturn dX9_type_12 rfl ?_
      have e9 : sp_type z a = (-1, a) := by unfold sp_type; rw [if_pos (by omega)]
      rw [e9] at hQ
      exact hQ h H (fun _ _ => rfl)

set_option maxHeartbeats 4000000 in
set_option maxRecDepth 100000 in
theorem lp_clear {x : mX} {h : mH} {Q : Int → mH → Prop} {a : Ab} (H : LpS h a) (ok : AbOk a) (hQ : ∀ h', LpS h' (sp_clear a).2 → FrL h h' → Q (sp_clear a).1 h') : CtI x mtX9_clear [xR 0] h Q := by
  obtain ⟨R, P, Z, ⟨nx, D⟩, E, F⟩ := id H
  refine ct_go (ls := [xR 0, xU]) (by decide +kernel) (Nat.le_of_ble_eq_true rfl) rfl ?_
  refine go_aload_n dX9_clear_0 rfl ?_
  refine gfX9_letters rfl flX9_14 dX9_clear_1 ?_
  refine gfX6_size rfl flX9_66 dX9_clear_4 ?_
  rw [R.1]
  refine go_istore_n 1 dX9_clear_7 rfl (Nat.le_of_ble_eq_true rfl) rfl (by dsimp only [List.set]) ?_
  refine go_aload_n dX9_clear_8 rfl ?_
  refine gfX9_letters rfl flX9_14 dX9_clear_9 ?_
  refine go_iconst dX9_clear_12 ⟨by decide, by decide⟩ ?_
  refine go_cV1V rfl vlX9_70 dX9_clear_13 (by decide) rfl rfl (by decide) (Nat.le_of_ble_eq_true rfl) (row_shortens row1 (Int.le_refl 0) (by rw [R.1]; omega) ?_)
  refine go_iload_n dX9_clear_16 rfl ?_
  refine go_ireturn dX9_clear_17 rfl ?_
  have F1 : ∀ i, i ≠ 1 → hset h 1 1 0 i = h i := fun i q => hset_ni q
  refine hQ _ ⟨⟨hset_eq _ _ _ _, fun k hk => absurd hk (by simp [sp_clear])⟩, P.congr (fun i q1 q2 => F1 i (by omega)), Z.congr (fun i q1 q2 => F1 i (by omega)), ⟨nx, D.congr (fun i q1 q2 => F1 i (by omega))⟩, E.congr (by rw [F1 0 (by omega)]) (fun i q1 q2 => F1 i (by omega)), F.congr (by rw [F1 0 (by omega)]) (fun i q1 q2 => F1 i (by omega))⟩ (fun i q => F1 i (by omega))

def sp_sign (i : Int) (a : Ab) : Int := if 0 ≤ i ∧ i < a.2.1.2.2.2.2.length then srF a.2.1.2.2.2.2 i else -1
def pkn (a : Ab) : PS := pck a.2.1.1 a.2.1.2.1 a.2.1.2.2.1 a.2.1.2.2.2.1 a.2.1.2.2.2.2 a.2.1.2.2.2.2.length
def sp_bit (i : Int) (a : Ab) : Int := if i < 0 then -1 else if i < (pkn a).2.2.2.2.2.length then srF (pkn a).2.2.2.2.2 i else -9
def sp_length (a : Ab) : Int := ((Dn (pkn a).2.2 + 2 : Nat) : Int)

set_option maxHeartbeats 4000000 in
set_option maxRecDepth 100000 in
theorem lp_sign {x : mX} {h : mH} {Q : Int → mH → Prop} {i : Int} {a : Ab} (H : LpS h a) (ok : AbOk a) (hQ : Q (sp_sign i a) h) : CtI x mtX9_sign [xR 0, xI i] h Q := by
  obtain ⟨R, P, Z, ⟨nx, D⟩, E, F⟩ := id H
  have hl := ok.2.1.2.1
  refine ct_go (ls := [xR 0, xI i]) (by decide +kernel) (Nat.le_of_ble_eq_true rfl) rfl ?_
  refine go_iload_n dX9_sign_0 rfl ?_
  refine go_if_lt (tgt := 21) dX9_sign_1 (by decide) (fun c1 => ?_) (fun c1 => ?_)
  · refine go_iconst dX9_sign_21 ⟨by decide, by decide⟩ ?_
    refine go_ireturn dX9_sign_22 rfl ?_
    have e9 : sp_sign i a = -1 := by unfold sp_sign; rw [if_neg (by omega)]
    rw [e9] at hQ; exact hQ
  · refine go_iload_n dX9_sign_4 rfl ?_
    refine go_aload_n dX9_sign_5 rfl ?_
    refine gfX9_now rfl flX9_21 dX9_sign_6 ?_
    refine gfX3_past rfl flX9_77 dX9_sign_9 ?_
    refine gfX4_signs rfl flX9_80 dX9_sign_12 ?_
    refine gfX6_size rfl flX9_66 dX9_sign_15 ?_
    rw [P.2.1.1]
    refine go_icmp_lt (tgt := 23) dX9_sign_18 (by decide) (fun c18 => ?_) (fun c18 => ?_)
    · refine go_aload_n dX9_sign_23 rfl ?_
      refine gfX9_now rfl flX9_21 dX9_sign_24 ?_
      refine gfX3_past rfl flX9_77 dX9_sign_27 ?_
      refine gfX4_signs rfl flX9_80 dX9_sign_30 ?_
      refine go_iload_n dX9_sign_33 rfl ?_
      refine go_cV1I rfl vlX9_106 dX9_sign_34 (by decide) rfl rfl (by decide) (Nat.le_of_ble_eq_true rfl) (row_atL (bs := a.2.1.2.2.2.2) pk3.2.1.2 P.2.1 (by omega) ?_)
      refine go_ireturn dX9_sign_37 rfl ?_
      have e9 : sp_sign i a = srF a.2.1.2.2.2.2 i := by unfold sp_sign; rw [if_pos (by omega)]
      rw [e9] at hQ; exact hQ
    · refine go_iconst dX9_sign_21 ⟨by decide, by decide⟩ ?_
      refine go_ireturn dX9_sign_22 rfl ?_
      have e9 : sp_sign i a = -1 := by unfold sp_sign; rw [if_neg (by omega)]
      rw [e9] at hQ; exact hQ

set_option maxHeartbeats 4000000 in
set_option maxRecDepth 100000 in
theorem lp_bit {x : mX} {h : mH} {Q : Int → mH → Prop} {i : Int} {a : Ab} (H : LpS h a) (ok : AbOk a) (hQ : Q (sp_bit i a) h) : CtI x mtX9_bit [xR 0, xI i] h Q := by
  obtain ⟨R, P, Z, ⟨nx, D⟩, E, F⟩ := id H
  have hD := pck_D ok.2.1.1 ok.2.1.2 (Nat.le_refl _)
  refine ct_go (ls := [xR 0, xI i]) (by decide +kernel) (Nat.le_of_ble_eq_true rfl) rfl ?_
  refine go_iload_n dX9_bit_0 rfl ?_
  refine go_if_ge (tgt := 6) dX9_bit_1 (by decide) (fun c1 => ?_) (fun c1 => ?_)
  · refine go_iload_n dX9_bit_6 rfl ?_
    refine go_aload_n dX9_bit_7 rfl ?_
    refine gfX9_now rfl flX9_21 dX9_bit_8 ?_
    refine gfX3_range rfl flX9_134 dX9_bit_11 ?_
    refine gfX5_bits rfl flX9_138 dX9_bit_14 ?_
    refine gfX6_size rfl flX9_66 dX9_bit_17 ?_
    rw [P.2.2.2.2.2.2.2.2.2.1]
    refine go_icmp_ge (tgt := 40) dX9_bit_20 (by decide) (fun c20 => ?_) (fun c20 => ?_)
    · refine go_bipush dX9_bit_40 (by decide +kernel) ⟨by decide, by decide⟩ ?_
      refine go_ireturn dX9_bit_42 rfl ?_
      first
        | (have e9 : sp_bit i a = -9 := by (unfold sp_bit; rw [if_neg (by omega), if_neg (by unfold pkn; omega)])
           rw [e9] at hQ; exact hQ)
        | (have e9 : sp_bit i a = srF (pkn a).2.2.2.2.2 i := by (unfold sp_bit; rw [if_neg (by omega), if_pos (by unfold pkn; omega)])
           rw [e9] at hQ; exact hQ)
    · refine go_aload_n dX9_bit_23 rfl ?_
      refine gfX9_now rfl flX9_21 dX9_bit_24 ?_
      refine gfX3_range rfl flX9_134 dX9_bit_27 ?_
      refine gfX5_bits rfl flX9_138 dX9_bit_30 ?_
      refine go_iload_n dX9_bit_33 rfl ?_
      refine go_cV1I rfl vlX9_106 dX9_bit_34 (by decide) rfl rfl (by decide) (Nat.le_of_ble_eq_true rfl) (row_atL (bs := (pkn a).2.2.2.2.2) pk3.2.2.2.1.2 P.2.2.2.2.2.2.2.2.2 (by unfold Dn pkn at *; omega) ?_)
      refine go_goto (tgt := 42) dX9_bit_37 (by decide) ?_
      refine go_ireturn dX9_bit_42 rfl ?_
      first
        | (have e9 : sp_bit i a = -9 := by (unfold sp_bit; rw [if_neg (by omega), if_neg (by unfold pkn; omega)])
           rw [e9] at hQ; exact hQ)
        | (have e9 : sp_bit i a = srF (pkn a).2.2.2.2.2 i := by (unfold sp_bit; rw [if_neg (by omega), if_pos (by unfold pkn; omega)])
           rw [e9] at hQ; exact hQ)
  · refine go_iconst dX9_bit_4 ⟨by decide, by decide⟩ ?_
    refine go_ireturn dX9_bit_5 rfl ?_
    have e9 : sp_bit i a = -1 := by unfold sp_bit; rw [if_pos (by omega)]
    rw [e9] at hQ; exact hQ

set_option maxHeartbeats 4000000 in
set_option maxRecDepth 100000 in
theorem lp_length {x : mX} {h : mH} {Q : Int → mH → Prop} {a : Ab} (H : LpS h a) (ok : AbOk a) (hQ : Q (sp_length a) h) : CtI x mtX9_length [xR 0] h Q := by
  obtain ⟨R, P, Z, ⟨nx, D⟩, E, F⟩ := id H
  have hD := pck_D ok.2.1.1 ok.2.1.2 (Nat.le_refl _)
  refine ct_go (ls := [xR 0]) (by decide +kernel) (Nat.le_of_ble_eq_true rfl) rfl ?_
  refine go_aload_n dX9_length_0 rfl ?_
  refine gfX9_now rfl flX9_21 dX9_length_1 ?_
  refine gfX3_range rfl flX9_134 dX9_length_4 ?_
  refine go_cV0I rfl vlX9_161 dX9_length_7 (by decide) rfl rfl (by decide) (Nat.le_of_ble_eq_true rfl) (rg_endedSize pk3.2.2.2.1 P.2.2.2.2.2 (by omega) ?_)
  refine go_ireturn dX9_length_10 rfl ?_
  exact hQ
