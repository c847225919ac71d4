/-! ===== how many bits a sign can cost: pure ===== -/
theorem hb_opn {w : Nat → Int} {s : Nat} (hs : s < 4) : hb (opn w 4) s = decide (0 < w s) := by
  have e : opn w 4 = 0 + (if 0 < w 0 then 2 ^ 0 else 0) + (if 0 < w 1 then 2 ^ 1 else 0) + (if 0 < w 2 then 2 ^ 2 else 0) + (if 0 < w 3 then 2 ^ 3 else 0) := rfl
  rw [e]
  by_cases h0 : 0 < w 0 <;> by_cases h1 : 0 < w 1 <;> by_cases h2 : 0 < w 2 <;> by_cases h3 : 0 < w 3 <;>
    (simp only [h0, h1, h2, h3, if_true, if_false]
     match s, hs with
     | 0, _ => simp only [h0]; decide
     | 1, _ => simp only [h1]; decide
     | 2, _ => simp only [h2]; decide
     | 3, _ => simp only [h3]; decide)
theorem all15 : ∀ a, a < 16 → ∀ b, b < 16 → (a ||| b = 15 ↔ pc4 (a ||| b) = 4) := by decide +kernel
theorem pc4_or : ∀ a, a < 16 → ∀ b, b < 16 → a &&& b = 0 → pc4 (a ||| b) = pc4 a + pc4 b := by decide +kernel
theorem and0 : ∀ a, a < 16 → ∀ b, b < 16 → (a &&& b = 0 ↔ (b1 (hb a 0) + b1 (hb b 0) ≤ 1 ∧ b1 (hb a 1) + b1 (hb b 1) ≤ 1 ∧ b1 (hb a 2) + b1 (hb b 2) ≤ 1 ∧ b1 (hb a 3) + b1 (hb b 3) ≤ 1)) := by decide +kernel
theorem hb_or (a b s : Nat) : hb (a ||| b) s = (hb a s || hb b s) := Nat.testBit_or a b s
theorem b1_dec {c : Prop} [Decidable c] : b1 (decide c) = if c then 1 else 0 := by
  by_cases h : c <;> simp [b1, h]
def four (f : Nat → Int) : Int := f 0 + f 1 + f 2 + f 3
/-- what holds of the widths at a context -/
theorem st_facts {cs : Int → Int} {pl : Int} {sh : Nat} (hsh : sh < 16) (hpl : pl ≠ -1) (hc : ∀ k, 0 ≤ cs k ∧ cs k ≤ 14) :
    (∀ s, s < 4 → 0 ≤ wE cs pl sh s ∧ wE cs pl sh s ≤ 14 * b1 (hb (opn (wE cs pl sh) 4) s) ∧ b1 (hb (opn (wE cs pl sh) 4) s) ≤ wE cs pl sh s ∧ b1 (hb (opn (wE cs pl sh) 4) s) + b1 (hb sh s) ≤ 1) ∧
    ((wE cs pl sh 4 = 0 ∧ pc4 (opn (wE cs pl sh) 4) + pc4 sh = 4) ∨ (wE cs pl sh 4 = pc4 (opn (wE cs pl sh) 4) ∧ pc4 (opn (wE cs pl sh) 4) + pc4 sh ≤ 3)) := by
  have hS : ∀ s, s < 4 → 0 ≤ wE cs pl sh s ∧ wE cs pl sh s ≤ 14 * b1 (hb (opn (wE cs pl sh) 4) s) ∧ b1 (hb (opn (wE cs pl sh) 4) s) ≤ wE cs pl sh s ∧ b1 (hb (opn (wE cs pl sh) 4) s) + b1 (hb sh s) ≤ 1 := by
    intro s hs
    rw [hb_opn hs, b1_dec, wE_lt hs]
    have h1 := hc (4 * pl + s)
    unfold wS
    cases hz : hb sh s with
    | true => simp [b1]
    | false =>
      simp only [Bool.false_eq_true, if_false, if_neg hpl, b1]
      split <;> omega
  refine ⟨hS, ?_⟩
  have hop : opn (wE cs pl sh) 4 < 16 := opn_lt _ 4
  have hd : opn (wE cs pl sh) 4 &&& sh = 0 := (and0 _ hop _ hsh).mpr ⟨(hS 0 (by decide)).2.2.2, (hS 1 (by decide)).2.2.2, (hS 2 (by decide)).2.2.2, (hS 3 (by decide)).2.2.2⟩
  have hp := pc4_or _ hop _ hsh hd
  have e4 : wE cs pl sh 4 = esc pl sh (opn (wE cs pl sh) 4) := by
    rw [wE_4, opn_congr (w := wE cs pl sh) (w' := wS cs pl sh) (fun k hk => wE_lt hk)]
  generalize opn (wE cs pl sh) 4 = op at hop hp e4 ⊢
  rw [e4]
  unfold esc
  have ha := all15 op hop sh hsh
  by_cases q : op ||| sh = 15
  · rw [if_pos (Or.inr q)]
    exact Or.inl ⟨rfl, by rw [← hp]; exact ha.mp q⟩
  · rw [if_neg (by rintro (z | z); exact hpl z; exact q z)]
    refine Or.inr ⟨rfl, ?_⟩
    have hne : pc4 (op ||| sh) ≠ 4 := fun z => q (ha.mpr z)
    have hb4 := pc4_bd (op ||| sh)
    omega
theorem st_plain {cs : Int → Int} {sh : Nat} : (∀ s, s < 4 → wE cs (-1) sh s = 1 - b1 (hb sh s)) ∧ wE cs (-1) sh 4 = 0 := by
  refine ⟨fun s hs => ?_, ?_⟩
  · rw [wE_lt hs]
    unfold wS
    cases hz : hb sh s with
    | true => simp [b1]
    | false => simp [b1]
  · rw [wE_4]; unfold esc; rw [if_pos (Or.inl rfl)]
theorem tot5 (w : Nat → Int) : tot w 5 = w 0 + w 1 + w 2 + w 3 + w 4 := by
  show 0 + w 0 + w 1 + w 2 + w 3 + w 4 = _
  omega
theorem tot4 (w : Nat → Int) : tot w 4 = w 0 + w 1 + w 2 + w 3 := by
  show 0 + w 0 + w 1 + w 2 + w 3 = _
  omega
/-- what is left of 4096, with so many signs shut -/
def Kq (q : Int) : Int := if q ≤ 0 then 4096 else if q = 1 then 272 else if q = 2 then 18 else 1
theorem Kq_pos (q : Int) : 1 ≤ Kq q := by unfold Kq; split <;> (try split) <;> (try split) <;> omega
def chW (s : Nat) (_ : Cd) (w : Nat → Int) : Nat := if 0 < w s then s else 4
/-- the part that is taken for a sign that isn't shut: it isn't empty; how dear it is -/
theorem part_dear {cs : Int → Int} {pl : Int} {sh s : Nat} {c : Cd} (hs : s < 4) (hsh : sh < 16) (hns : hb sh s = false) (hc : ∀ k, 0 ≤ cs k ∧ cs k ≤ 14) (ht : 0 < tot (wE cs pl sh) 5) :
    1 ≤ wE cs pl sh (chW s c (wE cs pl sh)) ∧ 0 ≤ tot (wE cs pl sh) (chW s c (wE cs pl sh)) ∧ tot (wE cs pl sh) (chW s c (wE cs pl sh)) + wE cs pl sh (chW s c (wE cs pl sh)) ≤ tot (wE cs pl sh) 5 ∧ tot (wE cs pl sh) 5 ≤ 60 ∧ pc4 sh ≤ 3 ∧
    (chW s c (wE cs pl sh) = 4 → pl ≠ -1 → hb (sh ||| opn (wE cs pl sh) 4) s = false ∧ Kq (pc4 (sh ||| opn (wE cs pl sh) 4)) * tot (wE cs pl sh) 5 * 256 ≤ Kq (pc4 sh) * wE cs pl sh 4 * 255) ∧
    (chW s c (wE cs pl sh) ≠ 4 → tot (wE cs pl sh) 5 * 256 ≤ Kq (pc4 sh) * wE cs pl sh (chW s c (wE cs pl sh)) * 255 ∨ (tot (wE cs pl sh) (chW s c (wE cs pl sh)) = 0 ∧ wE cs pl sh (chW s c (wE cs pl sh)) = tot (wE cs pl sh) 5)) ∧ (pl = -1 → chW s c (wE cs pl sh) = s) := by
  have bz0 := b1_bd (hb sh 0); have bz1 := b1_bd (hb sh 1); have bz2 := b1_bd (hb sh 2); have bz3 := b1_bd (hb sh 3)
  have hzs : b1 (hb sh s) = 0 := by rw [hns]; rfl
  by_cases hpl : pl = -1
  · subst hpl
    obtain ⟨f1, f2⟩ := st_plain (cs := cs) (sh := sh)
    have g0 := f1 0 (by decide); have g1 := f1 1 (by decide); have g2 := f1 2 (by decide); have g3 := f1 3 (by decide)
    have gs := f1 s hs
    have hch : chW s c (wE cs (-1) sh) = s := by unfold chW; rw [if_pos (by omega)]
    rw [hch, tot5]
    rw [tot5] at ht
    have hpc : pc4 sh = b1 (hb sh 0) + b1 (hb sh 1) + b1 (hb sh 2) + b1 (hb sh 3) := rfl
    have hT : tot (wE cs (-1) sh) s + wE cs (-1) sh s ≤ wE cs (-1) sh 0 + wE cs (-1) sh 1 + wE cs (-1) sh 2 + wE cs (-1) sh 3 + wE cs (-1) sh 4 ∧ 0 ≤ tot (wE cs (-1) sh) s ∧ (pc4 sh = 3 → tot (wE cs (-1) sh) s = 0) ∧ pc4 sh ≤ 3 := by
      rcases (show s = 0 ∨ s = 1 ∨ s = 2 ∨ s = 3 by omega) with rfl | rfl | rfl | rfl <;> (first | (dsimp only [tot]; omega) | (simp only [tot, implies_true, true_and, and_true]; omega))
    obtain ⟨t1, t2, t3, t4⟩ := hT
    refine ⟨by omega, t2, t1, by omega, t4, fun q => absurd q (by omega), fun _ => ?_, fun _ => rfl⟩
    by_cases q3 : pc4 sh = 3
    · exact Or.inr ⟨t3 q3, by omega⟩
    · refine Or.inl ?_
      have : 18 ≤ Kq (pc4 sh) := by unfold Kq; split <;> (try split) <;> (try split) <;> omega
      rw [gs, hzs, Int.sub_zero, Int.mul_one]
      omega
  · obtain ⟨f1, f2⟩ := st_facts hsh hpl hc
    generalize hw : wE cs pl sh = w at *
    have g0 := f1 0 (by decide); have g1 := f1 1 (by decide); have g2 := f1 2 (by decide); have g3 := f1 3 (by decide)
    have bp0 := b1_bd (hb (opn w 4) 0); have bp1 := b1_bd (hb (opn w 4) 1); have bp2 := b1_bd (hb (opn w 4) 2); have bp3 := b1_bd (hb (opn w 4) 3)
    have hop : opn w 4 < 16 := opn_lt _ 4
    have hd : sh &&& opn w 4 = 0 := (and0 _ hsh _ hop).mpr ⟨by omega, by omega, by omega, by omega⟩
    have hpo := pc4_or _ hsh _ hop hd
    have hpc : pc4 sh = b1 (hb sh 0) + b1 (hb sh 1) + b1 (hb sh 2) + b1 (hb sh 3) := rfl
    have hpp : pc4 (opn w 4) = b1 (hb (opn w 4) 0) + b1 (hb (opn w 4) 1) + b1 (hb (opn w 4) 2) + b1 (hb (opn w 4) 3) := rfl
    have gs := f1 s hs
    rw [tot5] at ht ⊢
    by_cases hws : 0 < w s
    · have hch : chW s c w = s := by unfold chW; rw [if_pos hws]
      rw [hch]
      have hT : tot w s + w s ≤ w 0 + w 1 + w 2 + w 3 + w 4 ∧ 0 ≤ tot w s ∧ (pc4 sh = 3 → tot w s = 0 ∧ w s = w 0 + w 1 + w 2 + w 3 + w 4) ∧ pc4 sh ≤ 3 ∧ w 0 + w 1 + w 2 + w 3 + w 4 ≤ w s + 14 * (pc4 (opn w 4) - 1) + pc4 (opn w 4) := by
        rcases (show s = 0 ∨ s = 1 ∨ s = 2 ∨ s = 3 by omega) with rfl | rfl | rfl | rfl <;> (first | (dsimp only [tot]; omega) | (simp only [tot, implies_true, true_and, and_true]; omega))
      obtain ⟨t1, t2, t3, t4, t5⟩ := hT
      refine ⟨by omega, t2, t1, by omega, t4, fun q => absurd q (by omega), fun _ => ?_, fun q => absurd q hpl⟩
      by_cases q3 : pc4 sh = 3
      · exact Or.inr (t3 q3)
      · refine Or.inl ?_
        rcases (show pc4 sh = 0 ∨ pc4 sh = 1 ∨ pc4 sh = 2 by omega) with q | q | q
        · have : Kq (pc4 sh) = 4096 := by rw [q]; rfl
          rw [this]; omega
        · have : Kq (pc4 sh) = 272 := by rw [q]; rfl
          rw [this]; omega
        · have : Kq (pc4 sh) = 18 := by rw [q]; rfl
          rw [this]; omega
    · have hch : chW s c w = 4 := by unfold chW; rw [if_neg hws]
      rw [hch, tot4]
      have hT : pc4 sh ≤ 3 ∧ pc4 (opn w 4) + pc4 sh ≤ 3 ∧ 1 ≤ pc4 (opn w 4) ∧ w 0 + w 1 + w 2 + w 3 ≤ 14 * pc4 (opn w 4) := by
        rcases (show s = 0 ∨ s = 1 ∨ s = 2 ∨ s = 3 by omega) with rfl | rfl | rfl | rfl <;> omega
      obtain ⟨t1, t2, t3, t4⟩ := hT
      refine ⟨by omega, by omega, by omega, by omega, t1, fun _ _ => ⟨?_, ?_⟩, fun q => absurd rfl q, fun q => absurd q hpl⟩
      · rw [hb_or, hns]
        have : b1 (hb (opn w 4) s) = 0 := by omega
        cases hq : hb (opn w 4) s with
        | true => rw [hq] at this; simp [b1] at this
        | false => rfl
      · rw [hpo]
        have e4 : w 4 = pc4 (opn w 4) := by omega
        rw [e4]
        have hK : Kq (pc4 sh + pc4 (opn w 4)) * 15 * 256 ≤ Kq (pc4 sh) * 255 ∧ 1 ≤ Kq (pc4 sh + pc4 (opn w 4)) := by
          rcases (show (pc4 sh = 0 ∧ pc4 (opn w 4) = 1) ∨ (pc4 sh = 0 ∧ pc4 (opn w 4) = 2) ∨ (pc4 sh = 0 ∧ pc4 (opn w 4) = 3) ∨ (pc4 sh = 1 ∧ pc4 (opn w 4) = 1) ∨ (pc4 sh = 1 ∧ pc4 (opn w 4) = 2) ∨ (pc4 sh = 2 ∧ pc4 (opn w 4) = 1) by have := pc4_bd sh; omega) with ⟨q1, q2⟩ | ⟨q1, q2⟩ | ⟨q1, q2⟩ | ⟨q1, q2⟩ | ⟨q1, q2⟩ | ⟨q1, q2⟩ <;> (rw [q1, q2]; decide)
        generalize Kq (pc4 sh + pc4 (opn w 4)) = A at hK ⊢
        generalize Kq (pc4 sh) = B at hK ⊢
        have z1 : w 0 + w 1 + w 2 + w 3 + pc4 (opn w 4) ≤ 15 * pc4 (opn w 4) := by omega
        calc A * (w 0 + w 1 + w 2 + w 3 + pc4 (opn w 4)) * 256 ≤ A * (15 * pc4 (opn w 4)) * 256 := Int.mul_le_mul_of_nonneg_right (Int.mul_le_mul_of_nonneg_left z1 (by omega)) (by decide)
          _ = A * 15 * 256 * pc4 (opn w 4) := by rw [← Int.mul_assoc, Int.mul_right_comm]
          _ ≤ B * 255 * pc4 (opn w 4) := Int.mul_le_mul_of_nonneg_right hK.1 (by omega)
          _ = B * pc4 (opn w 4) * 255 := Int.mul_right_comm _ _ _
