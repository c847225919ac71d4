/-! ===== the bits' bound ===== -/
def rng (c : Cd) : Int := c.2.1 - c.1 + 1
def pw2 (n : Nat) : Int := ((2 ^ n : Nat) : Int)
theorem pw2_pos (n : Nat) : 1 ≤ pw2 n := by
  unfold pw2
  have := Nat.pow_pos (n := n) (show 0 < 2 by decide)
  omega
theorem pw2_s (n : Nat) : pw2 (n + 1) = 2 * pw2 n := by
  unfold pw2
  rw [Nat.pow_succ]; omega
def Pot (c : Cd) (K Z : Int) : Prop := 65536 * pw2 (Dn c) * K ≤ rng c * Z
theorem stp_rng {c : Cd} (h : CdB c.1 c.2.1) (hl : les c.1 c.2.1 ≠ -9) : rng (stp c) = 2 * rng c := (stp_B h hl).2
theorem wdn_pot : ∀ (n : Nat) (c : Cd) (K Z : Int), CdB c.1 c.2.1 → Pot c K Z → Pot (wdn n c) K Z
  | 0, _, _, _, _, h => h
  | n + 1, c, K, Z, hB, h => by
    rw [wdn]
    split
    · exact h
    · rename_i hl
      refine wdn_pot n (stp c) K Z (stp_B hB hl).1 ?_
      unfold Pot at h ⊢
      rw [stp_rng hB hl, stp_D, pw2_s]
      have e1 : 65536 * (2 * pw2 (Dn c)) * K = 2 * (65536 * pw2 (Dn c) * K) := by rw [Int.mul_left_comm, Int.mul_assoc 2]
      have e2 : 2 * rng c * Z = 2 * (rng c * Z) := Int.mul_assoc _ _ _
      rw [e1, e2]
      omega
theorem prt_ratio {r b w t : Int} (hr : 16385 ≤ r) (hb : 0 ≤ b) (hw : 1 ≤ w) (ht : b + w ≤ t) (ht2 : t ≤ 64) : 255 * (r * w) ≤ (r * (b + w) / t - r * b / t) * t * 256 := by
  have htp : 0 < t := by omega
  have a1 : r * (b + w) - t < r * (b + w) / t * t := by
    have := Int.lt_ediv_add_one_mul_self (r * (b + w)) htp
    rw [Int.add_mul, Int.one_mul] at this
    omega
  have a2 : r * b / t * t ≤ r * b := Int.ediv_mul_le _ (by omega)
  have a3 : r * (b + w) = r * b + r * w := Int.mul_add _ _ _
  have a4 : r * 1 ≤ r * w := Int.mul_le_mul_of_nonneg_left hw (by omega)
  rw [Int.sub_mul]
  generalize r * (b + w) / t * t = U at *
  generalize r * b / t * t = V at *
  omega
theorem mul_le3 {a b k : Int} (hk : 0 < k) (h : a * k ≤ b * k) : a ≤ b := Int.le_of_mul_le_mul_right h hk
theorem prt_pot {c : Cd} {b w t K K' Z : Int} (hN : CdN c.1 c.2.1) (hb : 0 ≤ b) (hw : 1 ≤ w) (ht : b + w ≤ t) (ht2 : t ≤ 64) (hZ : 0 ≤ Z) (h : Pot c K Z) (hK : K' * t * 256 ≤ K * w * 255) : Pot (prt c b w t) K' Z := by
  unfold prt
  refine wdn_pot 17 _ K' Z (prt_B hN hb hw ht (by omega)) ?_
  unfold Pot at h ⊢
  have er : rng (c.1 + (c.2.1 - c.1 + 1) * b / t, c.1 + (c.2.1 - c.1 + 1) * (b + w) / t - 1, c.2.2.1, c.2.2.2) = (rng c) * (b + w) / t - rng c * b / t := by
    unfold rng; dsimp only; omega
  have eD : Dn (c.1 + (c.2.1 - c.1 + 1) * b / t, c.1 + (c.2.1 - c.1 + 1) * (b + w) / t - 1, c.2.2.1, c.2.2.2) = Dn c := rfl
  rw [er, eD]
  have hr : 16385 ≤ rng c := by have := hN.2.2; unfold rng; omega
  have hq := prt_ratio hr hb hw ht ht2
  have hX := pw2_pos (Dn c)
  generalize rng c * (b + w) / t - rng c * b / t = r1 at hq ⊢
  generalize pw2 (Dn c) = X at *
  generalize rng c = r at *
  refine mul_le3 (k := t * 256) (by omega) ?_
  calc 65536 * X * K' * (t * 256) = 65536 * X * (K' * t * 256) := by rw [Int.mul_assoc (65536 * X), Int.mul_assoc K']
    _ ≤ 65536 * X * (K * w * 255) := Int.mul_le_mul_of_nonneg_left hK (by omega)
    _ = 65536 * X * K * (w * 255) := by rw [Int.mul_assoc (65536 * X), Int.mul_assoc K]
    _ ≤ r * Z * (w * 255) := Int.mul_le_mul_of_nonneg_right h (by omega)
    _ = 255 * (r * w) * Z := by
      rw [Int.mul_comm w 255, Int.mul_assoc r Z, Int.mul_comm Z, Int.mul_assoc 255, Int.mul_assoc 255, Int.mul_left_comm r 255, Int.mul_assoc r]
    _ ≤ r1 * t * 256 * Z := Int.mul_le_mul_of_nonneg_right hq hZ
    _ = r1 * Z * (t * 256) := by
      rw [Int.mul_assoc r1 t 256, Int.mul_assoc r1 (t * 256) Z, Int.mul_comm (t * 256) Z, ← Int.mul_assoc]
theorem prt_whole {c : Cd} {t : Int} (ht : 0 < t) : prt c 0 t t = wdn 17 c := by
  unfold prt
  rw [Int.mul_zero, Int.zero_ediv, Int.add_zero, Int.zero_add, Int.mul_ediv_cancel _ (by omega)]
  congr 1
  obtain ⟨lo, hi, ow, bs⟩ := c
  dsimp only
  rw [show lo + (hi - lo + 1) - 1 = hi by omega]
theorem pot_D {c : Cd} {K Z : Int} {m : Nat} (hN : CdN c.1 c.2.1) (hK : 1 ≤ K) (hZ : Z = pw2 m) (h : Pot c K Z) : Dn c ≤ m := by
  unfold Pot at h
  have hr : rng c ≤ 65536 := by obtain ⟨a, b, _⟩ := hN; unfold rng; omega
  have hr0 : 0 ≤ rng c := by obtain ⟨a, b, q⟩ := hN; unfold rng; omega
  have hX := pw2_pos (Dn c)
  have hZp : 1 ≤ Z := by rw [hZ]; exact pw2_pos m
  have h1 : 65536 * pw2 (Dn c) * 1 ≤ 65536 * pw2 (Dn c) * K := Int.mul_le_mul_of_nonneg_left hK (by omega)
  have h2 : rng c * Z ≤ 65536 * Z := Int.mul_le_mul_of_nonneg_right hr (by omega)
  have h3 : pw2 (Dn c) ≤ pw2 m := by rw [← hZ]; omega
  unfold pw2 at h3
  have h4 : 2 ^ Dn c ≤ 2 ^ m := by omega
  exact (Nat.pow_le_pow_iff_right (by decide)).mp h4
/-- what holds where a part is written -/
def PW (s : Nat) (c : Cd) (w : Nat → Int) : Prop := CdN c.1 c.2.1 ∧ 1 ≤ w (chW s c w) ∧ 0 ≤ tot w (chW s c w) ∧ tot w (chW s c w) + w (chW s c w) ≤ tot w 5 ∧ tot w 5 ≤ 60 ∧ Dn (prt c (tot w (chW s c w)) (w (chW s c w)) (tot w 5)) ≤ 722
theorem dscW_ok {cs : Int → Int} {ctx : Nat → Int} {s m : Nat} {Z : Int} (hs : s < 4) (hc : ∀ k, 0 ≤ cs k ∧ cs k ≤ 14) (hZ : Z = pw2 m) (hm : m ≤ 720) : ∀ (N sh : Nat) (c : Cd), (∀ j, j < N → 0 ≤ ctx j) → sh < 16 → hb sh s = false → CdN c.1 c.2.1 → Pot c (Kq (pc4 sh)) Z →
    dOk (chW s) prt (PW s) cs ctx N sh c ∧ (dsc (chW s) prt cs ctx N sh c).2.1 = s ∧ CdN (dsc (chW s) prt cs ctx N sh c).2.2.1 (dsc (chW s) prt cs ctx N sh c).2.2.2.1 ∧ Pot (dsc (chW s) prt cs ctx N sh c).2.2 1 Z ∧ -1 ≤ (dsc (chW s) prt cs ctx N sh c).1 ∧ (dsc (chW s) prt cs ctx N sh c).1 < N
  | 0, sh, c, hctx, hsh, hns, hN, hP => by
    have hZ0 : 0 ≤ Z := by rw [hZ]; have := pw2_pos m; omega
    have ht : 0 < tot (wE cs (-1) sh) 5 := by
      obtain ⟨f1, f2⟩ := st_plain (cs := cs) (sh := sh)
      have g0 := f1 0 (by decide); have g1 := f1 1 (by decide); have g2 := f1 2 (by decide); have g3 := f1 3 (by decide)
      have bz0 := b1_bd (hb sh 0); have bz1 := b1_bd (hb sh 1); have bz2 := b1_bd (hb sh 2); have bz3 := b1_bd (hb sh 3)
      have gs := f1 s hs
      rw [hns] at gs
      rw [tot5]
      have : b1 false = 0 := rfl
      rcases (show s = 0 ∨ s = 1 ∨ s = 2 ∨ s = 3 by omega) with rfl | rfl | rfl | rfl <;> omega
    obtain ⟨p1, p2, p3, p4, p5, p6, p7, p8⟩ := part_dear (c := c) hs hsh hns hc ht
    have hch := p8 rfl
    dsimp only [dOk, dsc]
    generalize wE cs (-1) sh = w at *
    have hne : chW s c w ≠ 4 := by omega
    have hpot : Pot (prt c (tot w (chW s c w)) (w (chW s c w)) (tot w 5)) 1 Z := by
      rcases p7 hne with q | ⟨q1, q2⟩
      · exact prt_pot hN p2 p1 p3 (by omega) hZ0 hP (by omega)
      · rw [q1, q2, prt_whole ht]
        refine wdn_pot 17 c 1 Z ⟨hN.1, by have := hN.2.2; omega, hN.2.1⟩ ?_
        unfold Pot at hP ⊢
        have := Kq_pos (pc4 sh)
        have hX := pw2_pos (Dn c)
        have h1 : 65536 * pw2 (Dn c) * 1 ≤ 65536 * pw2 (Dn c) * Kq (pc4 sh) := Int.mul_le_mul_of_nonneg_left this (by omega)
        omega
    have hN' := prt_N (c := c) hN p2 p1 p3 (by omega)
    have hD := pot_D hN' (Int.le_refl 1) hZ hpot
    exact ⟨⟨hN, p1, p2, p3, p4, by omega⟩, hch, hN', hpot, Int.le_refl _, by decide⟩
  | N + 1, sh, c, hctx, hsh, hns, hN, hP => by
    have hZ0 : 0 ≤ Z := by rw [hZ]; have := pw2_pos m; omega
    have ih := dscW_ok (cs := cs) (ctx := ctx) hs hc hZ hm N
    have hpl := hctx N (by omega)
    rw [dOk, dsc]
    by_cases ht : tot (wE cs (ctx N) sh) 5 ≤ 0
    · rw [if_pos ht, if_pos ht]
      obtain ⟨i1, i2, i3, i4, i5, i6⟩ := ih sh c (fun j hj => hctx j (by omega)) hsh hns hN hP
      exact ⟨i1, i2, i3, i4, i5, by omega⟩
    · rw [if_neg ht, if_neg ht]
      obtain ⟨p1, p2, p3, p4, p5, p6, p7, p8⟩ := part_dear (c := c) (pl := ctx N) hs hsh hns hc (by omega)
      have hpl1 : ctx N ≠ -1 := by omega
      generalize wE cs (ctx N) sh = w at *
      have hN' := prt_N (c := c) hN p2 p1 p3 (by omega)
      by_cases hch : chW s c w = 4
      · obtain ⟨r1, r2⟩ := p6 hch hpl1
        rw [hch] at p1 p2 p3
        have hpot : Pot (prt c (tot w (chW s c w)) (w (chW s c w)) (tot w 5)) (Kq (pc4 (sh ||| opn w 4))) Z := by
          rw [hch]
          exact prt_pot hN p2 p1 p3 (by omega) hZ0 hP r2
        have hD := pot_D hN' (Kq_pos _) hZ hpot
        obtain ⟨i1, i2, i3, i4, i5, i6⟩ := ih (sh ||| opn w 4) _ (fun j hj => hctx j (by omega)) (orm_bd sh hsh _ (opn_lt w 4)) r1 hN' hpot
        rw [if_pos hch]
        exact ⟨⟨⟨hN, by rw [hch]; exact p1, by rw [hch]; exact p2, by rw [hch]; exact p3, p4, by omega⟩, fun _ => i1⟩, i2, i3, i4, i5, by omega⟩
      · have hcs : chW s c w = s := by unfold chW at hch ⊢; split; rfl; rename_i q; rw [if_neg q] at hch; exact absurd rfl hch
        have hpot : Pot (prt c (tot w (chW s c w)) (w (chW s c w)) (tot w 5)) 1 Z := by
          rcases p7 hch with q | ⟨q1, q2⟩
          · exact prt_pot hN p2 p1 p3 (by omega) hZ0 hP (by omega)
          · rw [q1, q2, prt_whole (by omega)]
            refine wdn_pot 17 c 1 Z ⟨hN.1, by have := hN.2.2; omega, hN.2.1⟩ ?_
            unfold Pot at hP ⊢
            have := Kq_pos (pc4 sh)
            have hX := pw2_pos (Dn c)
            have h1 : 65536 * pw2 (Dn c) * 1 ≤ 65536 * pw2 (Dn c) * Kq (pc4 sh) := Int.mul_le_mul_of_nonneg_left this (by omega)
            omega
        have hD := pot_D hN' (Int.le_refl 1) hZ hpot
        rw [if_neg hch]
        exact ⟨⟨⟨hN, p1, p2, p3, p4, by omega⟩, fun q => absurd q hch⟩, hcs, hN', hpot, by dsimp only; omega, by dsimp only; omega⟩
