/-! ===== Range ===== -/
def RowL (h : mH) (r : Nat) (bs : List Int) : Prop := h r 1 = bs.length ∧ ∀ k : Nat, k < bs.length → h (r + 1) k = bs.getD k 0
/-- all but a row is as it was -/
def FrR (h h' : mH) (r : Nat) : Prop := ∀ i, i ≠ r → i ≠ r + 1 → h' i = h i
theorem RowL.congr {h h' : mH} {r : Nat} {bs : List Int} (H : RowL h r bs) (e1 : h' r = h r) (e2 : h' (r + 1) = h (r + 1)) : RowL h' r bs := ⟨by rw [e1]; exact H.1, fun k hk => by rw [e2]; exact H.2 k hk⟩
theorem rowL_put {h : mH} {r : Nat} {bs : List Int} {v : Int} (H : RowL h r bs) : RowL (hset (hset h (r + 1) (h r 1) v) r 1 (h r 1 + 1)) r (bs ++ [v]) := by
  obtain ⟨h1, h2⟩ := H
  refine ⟨by rw [hset_eq, h1, List.length_append]; simp, fun k hk => ?_⟩
  rw [hset_ni (by omega), h1]
  rw [List.length_append, List.length_singleton] at hk
  by_cases e : k = bs.length
  · subst e
    rw [hset_eq]; simp
  · rw [hset_nk (by omega), h2 k (by omega), List.getD_eq_getElem?_getD, List.getD_eq_getElem?_getD, List.getElem?_append_left (by omega)]
theorem row_putsL {x : mX} {h : mH} {Q : mH → Prop} {r N : Nat} {v : Int} {bs : List Int} (hr : isRow r N) (H : RowL h r bs) (hN : bs.length < N) (hQ : ∀ h', RowL h' r (bs ++ [v]) → FrR h h' r → Q h') : CtV x mtX6_puts [xR r, xI v] h Q :=
  row_puts hr (by rw [H.1]; omega) (by rw [H.1]; omega) (hQ _ (rowL_put H) (fun i h1 h2 => by rw [hset_ni h1, hset_ni h2]))
def isRg (g : Nat) : Prop := kd g = 5 ∧ isRow (g + 1) 722
/-- a Range that is written: low, high, owed, the bits -/
def RgW (h : mH) (g : Nat) (c : Cd) : Prop := h g 1 = c.1 ∧ h g 2 = c.2.1 ∧ h g 3 = (c.2.2.1 : Int) ∧ h g 5 = 0 ∧ RowL h (g + 1) c.2.2.2
/-- what a Range's own methods leave as it was -/
def FrG (h h' : mH) (g : Nat) : Prop := (∀ i, i ≠ g → i ≠ g + 1 → i ≠ g + 2 → h' i = h i) ∧ h' g 4 = h g 4 ∧ h' g 5 = h g 5
theorem FrG.rf {h : mH} {g : Nat} : FrG h h g := ⟨fun _ _ _ _ => rfl, rfl, rfl⟩
theorem FrG.tr {h h1 h2 : mH} {g : Nat} (a : FrG h h1 g) (b : FrG h1 h2 g) : FrG h h2 g := ⟨fun i q1 q2 q3 => (b.1 i q1 q2 q3).trans (a.1 i q1 q2 q3), b.2.1.trans a.2.1, b.2.2.trans a.2.2⟩

set_option maxHeartbeats 4000000 in
set_option maxRecDepth 100000 in
theorem rg_writesBit {x : mX} {h : mH} {Q : mH → Prop} {g : Nat} {c : Cd} {b : Int} (hg : isRg g) (H : RgW h g c) (hb : b = 0 ∨ b = 1) (hD : Dn c + 1 ≤ 722) (hQ : ∀ h', RgW h' g (c.1, c.2.1, 0, c.2.2.2 ++ b :: List.replicate c.2.2.1 (1 - b)) → FrG h h' g → Q h') : CtV x mtX5_writesBit [xR g, xI b] h Q := by
  refine ct_go (ls := [xR g, xI b, xU]) (by decide +kernel) (Nat.le_of_ble_eq_true rfl) rfl ?_
  refine go_aload_n dX5_writesBit_0 rfl ?_
  refine gfX5_reading hg.1 flX5_34 dX5_writesBit_1 ?_
  refine go_if_eq_t (tgt := 8) dX5_writesBit_4 (by decide) (H.2.2.2.1) ?_
  refine go_aload_n dX5_writesBit_8 rfl ?_
  refine gfX5_bits hg.1 flX5_14 dX5_writesBit_9 ?_
  refine go_iload_n dX5_writesBit_12 rfl ?_
  refine go_cV1V hg.2.1 vlX5_80 dX5_writesBit_13 (by decide) rfl rfl (by decide) (Nat.le_of_ble_eq_true rfl) (row_putsL (N := 722) hg.2 H.2.2.2.2 (by unfold Dn at hD; omega) ?_)
  intro h1 H1 F1
  refine go_iconst dX5_writesBit_16 ⟨by decide, by decide⟩ ?_
  refine go_istore_n 2 dX5_writesBit_17 rfl (Nat.le_of_ble_eq_true rfl) rfl (by dsimp only [List.set]) ?_
  unfold Dn at hD
  refine up_indN (P := fun s => ∀ hh, RowL hh (g + 1) (c.2.2.2 ++ b :: List.replicate s (1 - b)) → FrR h hh (g + 1) → Go x mtX5_writesBit 18 [xR g, xI b, xI s] [] hh (qV Q)) c.2.2.1 (fun s hs ih hh Hs Fs => ?_) h1 H1 F1
  have e3 : hh g 3 = (c.2.2.1 : Int) := by rw [Fs g (by omega) (by omega)]; exact H.2.2.1
  by_cases hlt : s < c.2.2.1
  · skip
    refine go_iload_n dX5_writesBit_18 rfl ?_
    refine go_aload_n dX5_writesBit_19 rfl ?_
    refine gfX5_owed hg.1 flX5_28 dX5_writesBit_20 ?_
    rw [e3]
    refine go_icmp_ge_f (tgt := 49) dX5_writesBit_23 (by decide) (by omega) ?_
    refine go_iload_n dX5_writesBit_26 rfl ?_
    refine go_sipush dX5_writesBit_27 (by decide +kernel) ⟨by decide, by decide⟩ ?_
    refine go_icmp_ge_f (tgt := 49) dX5_writesBit_30 (by decide) (by omega) ?_
    refine go_aload_n dX5_writesBit_33 rfl ?_
    refine gfX5_bits hg.1 flX5_14 dX5_writesBit_34 ?_
    refine go_iconst dX5_writesBit_37 ⟨by decide, by decide⟩ ?_
    refine go_iload_n dX5_writesBit_38 rfl ?_
    refine go_isub dX5_writesBit_39 (by omega) (by omega) ?_
    refine go_cV1V hg.2.1 vlX5_80 dX5_writesBit_40 (by decide) rfl rfl (by decide) (Nat.le_of_ble_eq_true rfl) (row_putsL (N := 722) hg.2 Hs (by rw [List.length_append, List.length_cons, List.length_replicate]; omega) ?_)
    intro h2 H2 F2
    refine go_iinc dX5_writesBit_43 rfl rfl rfl (by omega) (by omega) (by dsimp only [List.set]) ?_
    refine go_goto (tgt := 18) dX5_writesBit_46 (by decide) ?_
    refine ih (by omega) h2 ?_ (fun i q1 q2 => (F2 i q1 q2).trans (Fs i q1 q2))
    rw [List.append_assoc, List.cons_append, ← List.replicate_succ'] at H2
    exact H2
  · have hie : s = c.2.2.1 := by omega
    subst hie
    refine go_iload_n dX5_writesBit_18 rfl ?_
    refine go_aload_n dX5_writesBit_19 rfl ?_
    refine gfX5_owed hg.1 flX5_28 dX5_writesBit_20 ?_
    rw [e3]
    refine go_icmp_ge_t (tgt := 49) dX5_writesBit_23 (by decide) (by omega) ?_
    refine go_aload_n dX5_writesBit_49 rfl ?_
    refine go_iconst dX5_writesBit_50 ⟨by decide, by decide⟩ ?_
    refine pfX5_owed hg.1 flX5_28 dX5_writesBit_51 ?_
    refine go_return dX5_writesBit_54 rfl ?_
    refine hQ _ ⟨?_, ?_, ?_, ?_, Hs.congr (hset_ni (by omega)) (hset_ni (by omega))⟩ ⟨fun i q1 q2 q3 => ?_, ?_, ?_⟩
    · rw [hset_nk (by decide), Fs g (by omega) (by omega)]; exact H.1
    · rw [hset_nk (by decide), Fs g (by omega) (by omega)]; exact H.2.1
    · exact hset_eq _ _ _ _
    · rw [hset_nk (by decide), Fs g (by omega) (by omega)]; exact H.2.2.2.1
    · rw [hset_ni q1, Fs i q2 q3]
    · rw [hset_nk (by decide), Fs g (by omega) (by omega)]
    · rw [hset_nk (by decide), Fs g (by omega) (by omega)]

set_option maxHeartbeats 4000000 in
set_option maxRecDepth 100000 in
theorem rg_writesBit_r {x : mX} {h : mH} {Q : mH → Prop} {g : Nat} {b : Int} (hg : isRg g) (h5 : h g 5 = 1) (hQ : Q h) : CtV x mtX5_writesBit [xR g, xI b] h Q := by
  refine ct_go (ls := [xR g, xI b, xU]) (by decide +kernel) (Nat.le_of_ble_eq_true rfl) rfl ?_
  refine go_aload_n dX5_writesBit_0 rfl ?_
  refine gfX5_reading hg.1 flX5_34 dX5_writesBit_1 ?_
  refine go_if_eq_f (tgt := 8) dX5_writesBit_4 (by decide) (by omega) ?_
  refine go_return dX5_writesBit_7 rfl ?_
  exact hQ

set_option maxHeartbeats 4000000 in
set_option maxRecDepth 100000 in
theorem rg_doubles {x : mX} {h : mH} {Q : mH → Prop} {g : Nat} {L : Int} (hg : isRg g) (h5 : h g 5 = 0) (b1 : -100000 ≤ h g 1 - L) (b2 : h g 1 - L ≤ 100000) (b3 : -100000 ≤ h g 2 - L) (b4 : h g 2 - L ≤ 100000) (hQ : Q (hset (hset h g 1 (2 * (h g 1 - L))) g 2 (2 * (h g 2 - L) + 1))) : CtV x mtX5_doubles [xR g, xI L] h Q := by
  refine ct_go (ls := [xR g, xI L]) (by decide +kernel) (Nat.le_of_ble_eq_true rfl) rfl ?_
  refine go_aload_n dX5_doubles_0 rfl ?_
  refine go_iconst dX5_doubles_1 ⟨by decide, by decide⟩ ?_
  refine go_aload_n dX5_doubles_2 rfl ?_
  refine gfX5_low hg.1 flX5_20 dX5_doubles_3 ?_
  refine go_iload_n dX5_doubles_6 rfl ?_
  refine go_isub dX5_doubles_7 (by omega) (by omega) ?_
  refine go_imul dX5_doubles_8 (by omega) (by omega) ?_
  refine pfX5_low hg.1 flX5_20 dX5_doubles_9 ?_
  refine go_aload_n dX5_doubles_12 rfl ?_
  refine go_iconst dX5_doubles_13 ⟨by decide, by decide⟩ ?_
  refine go_aload_n dX5_doubles_14 rfl ?_
  refine gfX5_high hg.1 flX5_25 dX5_doubles_15 ?_
  rw [hset_nk (show (2 : Int) ≠ 1 by decide)]
  refine go_iload_n dX5_doubles_18 rfl ?_
  refine go_isub dX5_doubles_19 (by omega) (by omega) ?_
  refine go_imul dX5_doubles_20 (by omega) (by omega) ?_
  refine go_iconst dX5_doubles_21 ⟨by decide, by decide⟩ ?_
  refine go_iadd dX5_doubles_22 (by omega) (by omega) ?_
  refine pfX5_high hg.1 flX5_25 dX5_doubles_23 ?_
  refine go_aload_n dX5_doubles_26 rfl ?_
  refine gfX5_reading hg.1 flX5_34 dX5_doubles_27 ?_
  refine go_if_ne_f (tgt := 34) dX5_doubles_30 (by decide) (by rw [hset_nk (by decide), hset_nk (by decide)]; exact h5) ?_
  refine go_return dX5_doubles_33 rfl ?_
  exact hQ

/-- what is read behind the bits' end is 0 -/
def srF (bs : List Int) (k : Int) : Int := if 0 ≤ k ∧ k < bs.length then bs.getD k.toNat 0 else 0
theorem row_atL {x : mX} {h : mH} {Q : Int → mH → Prop} {r N : Nat} {i : Int} {bs : List Int} (hr : isRow r N) (H : RowL h r bs) (hN : bs.length ≤ N) (hQ : Q (srF bs i) h) : CtI x mtX6_at [xR r, xI i] h Q := by
  refine row_at hr (by rw [H.1]; omega) ?_
  have e : (if 0 ≤ i ∧ i < h r 1 then h (r + 1) i else 0) = srF bs i := by
    unfold srF
    rw [H.1]
    by_cases q : 0 ≤ i ∧ i < (bs.length : Int)
    · rw [if_pos q, if_pos q]
      have := H.2 i.toNat (by omega)
      rw [Int.toNat_of_nonneg q.1] at this
      exact this
    · rw [if_neg q, if_neg q]
  rw [e]; exact hQ

set_option maxHeartbeats 4000000 in
set_option maxRecDepth 100000 in
theorem rg_doubles_r {x : mX} {h : mH} {Q : mH → Prop} {g : Nat} {L : Int} {bs : List Int} (hg : isRg g) (H : RowL h (g + 1) bs) (hN : bs.length ≤ 722) (hsf : ∀ k, srF bs k = 0 ∨ srF bs k = 1) (h5 : h g 5 = 1) (b1 : -100000 ≤ h g 1 - L) (b2 : h g 1 - L ≤ 100000) (b3 : -100000 ≤ h g 2 - L) (b4 : h g 2 - L ≤ 100000) (b5 : -100000 ≤ h g 6 - L) (b6 : h g 6 - L ≤ 100000) (b7 : 0 ≤ h g 7) (b8 : h g 7 ≤ 100000) (hQ : Q (hset (hset (hset (hset h g 1 (2 * (h g 1 - L))) g 2 (2 * (h g 2 - L) + 1)) g 6 (2 * (h g 6 - L) + srF bs (h g 7))) g 7 (h g 7 + 1))) : CtV x mtX5_doubles [xR g, xI L] h Q := by
  refine ct_go (ls := [xR g, xI L]) (by decide +kernel) (Nat.le_of_ble_eq_true rfl) rfl ?_
  refine go_aload_n dX5_doubles_0 rfl ?_
  refine go_iconst dX5_doubles_1 ⟨by decide, by decide⟩ ?_
  refine go_aload_n dX5_doubles_2 rfl ?_
  refine gfX5_low hg.1 flX5_20 dX5_doubles_3 ?_
  refine go_iload_n dX5_doubles_6 rfl ?_
  refine go_isub dX5_doubles_7 (by omega) (by omega) ?_
  refine go_imul dX5_doubles_8 (by omega) (by omega) ?_
  refine pfX5_low hg.1 flX5_20 dX5_doubles_9 ?_
  refine go_aload_n dX5_doubles_12 rfl ?_
  refine go_iconst dX5_doubles_13 ⟨by decide, by decide⟩ ?_
  refine go_aload_n dX5_doubles_14 rfl ?_
  refine gfX5_high hg.1 flX5_25 dX5_doubles_15 ?_
  rw [hset_nk (show (2 : Int) ≠ 1 by decide)]
  refine go_iload_n dX5_doubles_18 rfl ?_
  refine go_isub dX5_doubles_19 (by omega) (by omega) ?_
  refine go_imul dX5_doubles_20 (by omega) (by omega) ?_
  refine go_iconst dX5_doubles_21 ⟨by decide, by decide⟩ ?_
  refine go_iadd dX5_doubles_22 (by omega) (by omega) ?_
  refine pfX5_high hg.1 flX5_25 dX5_doubles_23 ?_
  refine go_aload_n dX5_doubles_26 rfl ?_
  refine gfX5_reading hg.1 flX5_34 dX5_doubles_27 ?_
  refine go_if_ne_t (tgt := 34) dX5_doubles_30 (by decide) (by rw [hset_nk (by decide), hset_nk (by decide)]; omega) ?_
  refine go_aload_n dX5_doubles_34 rfl ?_
  refine go_iconst dX5_doubles_35 ⟨by decide, by decide⟩ ?_
  refine go_aload_n dX5_doubles_36 rfl ?_
  refine gfX5_value hg.1 flX5_38 dX5_doubles_37 ?_
  rw [hset_nk (show (6 : Int) ≠ 2 by decide), hset_nk (show (6 : Int) ≠ 1 by decide)]
  refine go_iload_n dX5_doubles_40 rfl ?_
  refine go_isub dX5_doubles_41 (by omega) (by omega) ?_
  refine go_imul dX5_doubles_42 (by omega) (by omega) ?_
  refine go_aload_n dX5_doubles_43 rfl ?_
  refine gfX5_bits hg.1 flX5_14 dX5_doubles_44 ?_
  refine go_aload_n dX5_doubles_47 rfl ?_
  refine gfX5_nextRead hg.1 flX5_41 dX5_doubles_48 ?_
  rw [hset_nk (show (7 : Int) ≠ 2 by decide), hset_nk (show (7 : Int) ≠ 1 by decide)]
  refine go_cV1I hg.2.1 vlX5_50 dX5_doubles_51 (by decide) rfl rfl (by decide) (Nat.le_of_ble_eq_true rfl) (row_atL hg.2 (bs := bs) (H.congr (by rw [hset_ni (by omega), hset_ni (by omega)]) (by rw [hset_ni (by omega), hset_ni (by omega)])) hN ?_)
  have hz := hsf (h g 7)
  refine go_iadd dX5_doubles_54 (by omega) (by omega) ?_
  refine pfX5_value hg.1 flX5_38 dX5_doubles_55 ?_
  refine go_aload_n dX5_doubles_58 rfl ?_
  first | refine go_dupR dX5_doubles_59 ?_ | refine go_dupI dX5_doubles_59 ?_
  refine gfX5_nextRead hg.1 flX5_41 dX5_doubles_60 ?_
  rw [hset_nk (show (7 : Int) ≠ 6 by decide), hset_nk (show (7 : Int) ≠ 2 by decide), hset_nk (show (7 : Int) ≠ 1 by decide)]
  refine go_iconst dX5_doubles_63 ⟨by decide, by decide⟩ ?_
  refine go_iadd dX5_doubles_64 (by omega) (by omega) ?_
  refine pfX5_nextRead hg.1 flX5_41 dX5_doubles_65 ?_
  refine go_return dX5_doubles_68 rfl ?_
  exact hQ

set_option maxHeartbeats 4000000 in
set_option maxRecDepth 100000 in
theorem rg_isWhole {x : mX} {h : mH} {Q : mH → Prop} {g : Nat} (hg : isRg g) (hQ : Q (hset (hset (hset h g 1 0) g 2 65535) g 3 0)) : CtV x mtX5_isWhole [xR g] h Q := by
  refine ct_go (ls := [xR g]) (by decide +kernel) (Nat.le_of_ble_eq_true rfl) rfl ?_
  refine go_aload_n dX5_isWhole_0 rfl ?_
  refine go_iconst dX5_isWhole_1 ⟨by decide, by decide⟩ ?_
  refine pfX5_low hg.1 flX5_20 dX5_isWhole_2 ?_
  refine go_aload_n dX5_isWhole_5 rfl ?_
  refine go_ldc dX5_isWhole_6 knX5_24 ⟨by decide, by decide⟩ ?_
  refine pfX5_high hg.1 flX5_25 dX5_isWhole_8 ?_
  refine go_aload_n dX5_isWhole_11 rfl ?_
  refine go_iconst dX5_isWhole_12 ⟨by decide, by decide⟩ ?_
  refine pfX5_owed hg.1 flX5_28 dX5_isWhole_13 ?_
  refine go_return dX5_isWhole_16 rfl ?_
  exact hQ

set_option maxHeartbeats 4000000 in
set_option maxRecDepth 100000 in
theorem rg_wants {x : mX} {h : mH} {Q : mH → Prop} {g : Nat} {s : Int} (hg : isRg g) (hQ : Q (hset h g 4 s)) : CtV x mtX5_wants [xR g, xI s] h Q := by
  refine ct_go (ls := [xR g, xI s]) (by decide +kernel) (Nat.le_of_ble_eq_true rfl) rfl ?_
  refine go_aload_n dX5_wants_0 rfl ?_
  refine go_iload_n dX5_wants_1 rfl ?_
  refine pfX5_wanted hg.1 flX5_31 dX5_wants_2 ?_
  refine go_return dX5_wants_5 rfl ?_
  exact hQ

set_option maxHeartbeats 4000000 in
set_option maxRecDepth 100000 in
theorem rg_startsWriting {x : mX} {h : mH} {Q : mH → Prop} {g : Nat} (hg : isRg g) (h0 : 0 ≤ h (g + 1) 1) (hQ : ∀ h', RgW h' g (0, 65535, 0, []) → (∀ i, i ≠ g → i ≠ g + 1 → h' i = h i) → Q h') : CtV x mtX5_startsWriting [xR g] h Q := by
  refine ct_go (ls := [xR g]) (by decide +kernel) (Nat.le_of_ble_eq_true rfl) rfl ?_
  refine go_aload_n dX5_startsWriting_0 rfl ?_
  refine gfX5_bits hg.1 flX5_14 dX5_startsWriting_1 ?_
  refine go_iconst dX5_startsWriting_4 ⟨by decide, by decide⟩ ?_
  refine go_cV1V hg.2.1 vlX5_44 dX5_startsWriting_5 (by decide) rfl rfl (by decide) (Nat.le_of_ble_eq_true rfl) (row_shortens hg.2 (Int.le_refl 0) h0 ?_)
  refine go_aload_n dX5_startsWriting_8 rfl ?_
  refine go_cV0V hg.1 vlX5_47 dX5_startsWriting_9 (by decide) rfl rfl (by decide) (Nat.le_of_ble_eq_true rfl) (rg_isWhole hg ?_)
  refine go_aload_n dX5_startsWriting_12 rfl ?_
  refine go_iconst dX5_startsWriting_13 ⟨by decide, by decide⟩ ?_
  refine pfX5_reading hg.1 flX5_34 dX5_startsWriting_14 (by first | exact Or.inl rfl | exact Or.inr rfl) ?_
  refine go_return dX5_startsWriting_17 rfl ?_
  refine hQ _ ⟨?_, ?_, ?_, ?_, ?_, ?_⟩ (fun i q1 q2 => ?_)
  · rw [hset_nk (by decide), hset_nk (by decide), hset_nk (by decide), hset_eq]
  · rw [hset_nk (by decide), hset_nk (by decide), hset_eq]
  · rw [hset_nk (by decide), hset_eq]; rfl
  · exact hset_eq _ _ _ _
  · rw [hset_ni (by omega), hset_ni (by omega), hset_ni (by omega), hset_ni (by omega), hset_eq]; rfl
  · intro k hk; exact absurd hk (by simp)
  · rw [hset_ni q1, hset_ni q1, hset_ni q1, hset_ni q1, hset_ni q2]

set_option maxHeartbeats 4000000 in
set_option maxRecDepth 100000 in
theorem rg_endedSize {x : mX} {h : mH} {Q : Int → mH → Prop} {g : Nat} {c : Cd} (hg : isRg g) (H : RgW h g c) (hD : Dn c ≤ 722) (hQ : Q ((Dn c + 2 : Nat) : Int) h) : CtI x mtX5_endedSize [xR g] h Q := by
  refine ct_go (ls := [xR g]) (by decide +kernel) (Nat.le_of_ble_eq_true rfl) rfl ?_
  refine go_aload_n dX5_endedSize_0 rfl ?_
  refine gfX5_bits hg.1 flX5_14 dX5_endedSize_1 ?_
  refine gfX6_size hg.2.1 flX5_61 dX5_endedSize_4 ?_
  rw [H.2.2.2.2.1]
  refine go_aload_n dX5_endedSize_7 rfl ?_
  refine gfX5_owed hg.1 flX5_28 dX5_endedSize_8 ?_
  rw [H.2.2.1]
  unfold Dn at hD hQ
  refine go_iadd dX5_endedSize_11 (by omega) (by omega) ?_
  refine go_iconst dX5_endedSize_12 ⟨by decide, by decide⟩ ?_
  refine go_iadd dX5_endedSize_13 (by omega) (by omega) ?_
  refine go_ireturn dX5_endedSize_14 rfl ?_
  rw [show ((c.2.2.2.length + c.2.2.1 + 2 : Nat) : Int) = (c.2.2.2.length : Int) + (c.2.2.1 : Int) + 2 by omega] at hQ
  exact hQ
