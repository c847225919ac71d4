/-! ===== the range, written and read: pure ===== -/
def les (lo hi : Int) : Int := if hi < 32768 then 0 else if 32768 ≤ lo then 32768 else if 16384 ≤ lo ∧ hi < 49152 then 16384 else -9
/-- low, high, owed, the bits -/
abbrev Cd : Type := Int × Int × Nat × List Int
def stp (c : Cd) : Cd := (2 * (c.1 - les c.1 c.2.1), 2 * (c.2.1 - les c.1 c.2.1) + 1, if les c.1 c.2.1 = 16384 then c.2.2.1 + 1 else 0, if les c.1 c.2.1 = 16384 then c.2.2.2 else c.2.2.2 ++ (if les c.1 c.2.1 = 0 then 0 else 1) :: List.replicate c.2.2.1 (1 - (if les c.1 c.2.1 = 0 then 0 else 1)))
def wdn : Nat → Cd → Cd
  | 0, c => c
  | n + 1, c => if les c.1 c.2.1 = -9 then c else wdn n (stp c)
def prt (c : Cd) (b w t : Int) : Cd := wdn 17 (c.1 + (c.2.1 - c.1 + 1) * b / t, c.1 + (c.2.1 - c.1 + 1) * (b + w) / t - 1, c.2.2.1, c.2.2.2)
/-- low and high as they are between steps -/
def CdB (lo hi : Int) : Prop := 0 ≤ lo ∧ lo ≤ hi ∧ hi ≤ 65535
def CdN (lo hi : Int) : Prop := 0 ≤ lo ∧ hi ≤ 65535 ∧ 16384 < hi - lo + 1
/-- how many bits there are, and are owed -/
def Dn (c : Cd) : Nat := c.2.2.2.length + c.2.2.1
theorem les_cases {lo hi : Int} : (les lo hi = 0 ∧ hi < 32768) ∨ (les lo hi = 32768 ∧ 32768 ≤ hi ∧ 32768 ≤ lo) ∨ (les lo hi = 16384 ∧ 32768 ≤ hi ∧ lo < 32768 ∧ 16384 ≤ lo ∧ hi < 49152) ∨ (les lo hi = -9 ∧ 32768 ≤ hi ∧ lo < 32768 ∧ (lo < 16384 ∨ 49152 ≤ hi)) := by
  unfold les
  by_cases h1 : hi < 32768
  · rw [if_pos h1]; omega
  · rw [if_neg h1]
    by_cases h2 : 32768 ≤ lo
    · rw [if_pos h2]; omega
    · rw [if_neg h2]
      by_cases h3 : 16384 ≤ lo ∧ hi < 49152
      · rw [if_pos h3]; omega
      · rw [if_neg h3]; omega
theorem stp_B {c : Cd} (h : CdB c.1 c.2.1) (hl : les c.1 c.2.1 ≠ -9) : CdB (stp c).1 (stp c).2.1 ∧ (stp c).2.1 - (stp c).1 + 1 = 2 * (c.2.1 - c.1 + 1) := by
  obtain ⟨h1, h2, h3⟩ := h
  have e1 : (stp c).1 = 2 * (c.1 - les c.1 c.2.1) := rfl
  have e2 : (stp c).2.1 = 2 * (c.2.1 - les c.1 c.2.1) + 1 := rfl
  unfold CdB
  rw [e1, e2]
  rcases les_cases (lo := c.1) (hi := c.2.1) with q | q | q | q <;> omega
theorem stp_D (c : Cd) : Dn (stp c) = Dn c + 1 := by
  unfold Dn stp
  by_cases h : les c.1 c.2.1 = 16384
  · simp only [if_pos h]; omega
  · simp only [if_neg h, List.length_append, List.length_cons, List.length_replicate]; omega
theorem wdn_D : ∀ (n : Nat) (c : Cd), Dn c ≤ Dn (wdn n c)
  | 0, _ => Nat.le_refl _
  | n + 1, c => by
    rw [wdn]
    split
    · exact Nat.le_refl _
    · have := wdn_D n (stp c)
      rw [stp_D] at this
      omega
theorem wdn_N : ∀ (n : Nat) (c : Cd), CdB c.1 c.2.1 → 131072 ≤ (c.2.1 - c.1 + 1) * 2 ^ n → CdN (wdn n c).1 (wdn n c).2.1
  | 0, c, h, h2 => by
    obtain ⟨a1, a2, a3⟩ := h
    rw [Int.pow_zero, Int.mul_one] at h2
    omega
  | n + 1, c, h, h2 => by
    rw [wdn]
    split
    · rename_i q
      obtain ⟨a1, a2, a3⟩ := h
      rcases les_cases (lo := c.1) (hi := c.2.1) with z | z | z | z
      · omega
      · omega
      · omega
      · unfold CdN; omega
    · rename_i q
      have := stp_B h q
      refine wdn_N n (stp c) this.1 ?_
      rw [this.2]
      have e : (c.2.1 - c.1 + 1) * 2 ^ (n + 1) = 2 * (c.2.1 - c.1 + 1) * 2 ^ n := by rw [Int.pow_succ, Int.mul_comm ((2 : Int) ^ n) 2, ← Int.mul_assoc, Int.mul_comm (c.2.1 - c.1 + 1) 2]
      rw [← e]; exact h2
/-- a part of a range of more than 16384: it lies in the range, and isn't empty -/
theorem prt_B {lo hi b w t : Int} (hN : CdN lo hi) (hb : 0 ≤ b) (hw : 1 ≤ w) (ht : b + w ≤ t) (ht2 : t ≤ 5000) : CdB (lo + (hi - lo + 1) * b / t) (lo + (hi - lo + 1) * (b + w) / t - 1) := by
  obtain ⟨n1, n2, n3⟩ := hN
  have htp : 0 < t := by omega
  generalize hr : hi - lo + 1 = r at n3 ⊢
  have a1 : 0 ≤ r * b / t := Int.ediv_nonneg (Int.mul_nonneg (by omega) hb) (by omega)
  have a2 : r * (b + w) / t ≤ r := by
    have : r * (b + w) ≤ r * t := Int.mul_le_mul_of_nonneg_left ht (by omega)
    calc r * (b + w) / t ≤ r * t / t := Int.ediv_le_ediv htp this
      _ = r := Int.mul_ediv_cancel r (by omega)
  have a3 : r * b / t + 1 ≤ r * (b + w) / t := by
    have h1 : r * b + t ≤ r * (b + w) := by
      rw [Int.mul_add]
      have : r * 1 ≤ r * w := Int.mul_le_mul_of_nonneg_left hw (by omega)
      omega
    calc r * b / t + 1 = (r * b + 1 * t) / t := (Int.add_mul_ediv_right (r * b) 1 (by omega)).symm
      _ ≤ r * (b + w) / t := Int.ediv_le_ediv htp (by omega)
  unfold CdB
  omega
theorem prt_N {c : Cd} {b w t : Int} (hN : CdN c.1 c.2.1) (hb : 0 ≤ b) (hw : 1 ≤ w) (ht : b + w ≤ t) (ht2 : t ≤ 5000) : CdN (prt c b w t).1 (prt c b w t).2.1 := by
  unfold prt
  have h := prt_B hN hb hw ht ht2
  refine wdn_N 17 _ h ?_
  have e : (2 : Int) ^ 17 = 131072 := by decide
  rw [e]
  obtain ⟨h1, h2, h3⟩ := h
  show 131072 ≤ (c.1 + (c.2.1 - c.1 + 1) * (b + w) / t - 1 - (c.1 + (c.2.1 - c.1 + 1) * b / t) + 1) * 131072
  omega
/-! reading: low, high, owed, value, the next bit's place -/
abbrev Rd : Type := Int × Int × Int × Int × Int
def rstp (sf : Int → Int) (c : Rd) : Rd := (2 * (c.1 - les c.1 c.2.1), 2 * (c.2.1 - les c.1 c.2.1) + 1, if les c.1 c.2.1 = 16384 then c.2.2.1 + 1 else c.2.2.1, 2 * (c.2.2.2.1 - les c.1 c.2.1) + sf c.2.2.2.2, c.2.2.2.2 + 1)
def rdn (sf : Int → Int) : Nat → Rd → Rd
  | 0, c => c
  | n + 1, c => if les c.1 c.2.1 = -9 then c else rdn sf n (rstp sf c)
def rprt (sf : Int → Int) (c : Rd) (b w t : Int) : Rd := rdn sf 17 (c.1 + (c.2.1 - c.1 + 1) * b / t, c.1 + (c.2.1 - c.1 + 1) * (b + w) / t - 1, c.2.2.1, c.2.2.2.1, c.2.2.2.2)
/-- the value lies in the range; owed and the place are small -/
def RdV (K : Int) (c : Rd) : Prop := c.1 ≤ c.2.2.2.1 ∧ c.2.2.2.1 ≤ c.2.1 ∧ 0 ≤ c.2.2.1 ∧ c.2.2.1 ≤ K ∧ 0 ≤ c.2.2.2.2 ∧ c.2.2.2.2 ≤ K + 16
theorem rstp_B {sf : Int → Int} {c : Rd} (h : CdB c.1 c.2.1) (hl : les c.1 c.2.1 ≠ -9) : CdB (rstp sf c).1 (rstp sf c).2.1 ∧ (rstp sf c).2.1 - (rstp sf c).1 + 1 = 2 * (c.2.1 - c.1 + 1) := by
  obtain ⟨h1, h2, h3⟩ := h
  have e1 : (rstp sf c).1 = 2 * (c.1 - les c.1 c.2.1) := rfl
  have e2 : (rstp sf c).2.1 = 2 * (c.2.1 - les c.1 c.2.1) + 1 := rfl
  unfold CdB
  rw [e1, e2]
  rcases les_cases (lo := c.1) (hi := c.2.1) with q | q | q | q <;> omega
theorem rstp_V {sf : Int → Int} {K : Int} {c : Rd} (hsf : ∀ k, sf k = 0 ∨ sf k = 1) (h : RdV K c) : RdV (K + 1) (rstp sf c) := by
  obtain ⟨h1, h2, h3, h4, h5, h6⟩ := h
  have hs := hsf c.2.2.2.2
  have e1 : (rstp sf c).1 = 2 * (c.1 - les c.1 c.2.1) := rfl
  have e2 : (rstp sf c).2.1 = 2 * (c.2.1 - les c.1 c.2.1) + 1 := rfl
  have e3 : (rstp sf c).2.2.2.1 = 2 * (c.2.2.2.1 - les c.1 c.2.1) + sf c.2.2.2.2 := rfl
  have e4 : (rstp sf c).2.2.2.2 = c.2.2.2.2 + 1 := rfl
  have e5 : (rstp sf c).2.2.1 = if les c.1 c.2.1 = 16384 then c.2.2.1 + 1 else c.2.2.1 := rfl
  unfold RdV
  rw [e1, e2, e3, e4, e5]
  split <;> omega
theorem rdn_N (sf : Int → Int) : ∀ (n : Nat) (c : Rd), CdB c.1 c.2.1 → 131072 ≤ (c.2.1 - c.1 + 1) * 2 ^ n → CdN (rdn sf n c).1 (rdn sf n c).2.1
  | 0, c, h, h2 => by
    obtain ⟨a1, a2, a3⟩ := h
    rw [Int.pow_zero, Int.mul_one] at h2
    omega
  | n + 1, c, h, h2 => by
    rw [rdn]
    split
    · rename_i q
      obtain ⟨a1, a2, a3⟩ := h
      rcases les_cases (lo := c.1) (hi := c.2.1) with z | z | z | z
      · omega
      · omega
      · omega
      · unfold CdN; omega
    · rename_i q
      have := rstp_B (sf := sf) h q
      refine rdn_N sf n (rstp sf c) this.1 ?_
      rw [this.2]
      have e : (c.2.1 - c.1 + 1) * 2 ^ (n + 1) = 2 * (c.2.1 - c.1 + 1) * 2 ^ n := by rw [Int.pow_succ, Int.mul_comm ((2 : Int) ^ n) 2, ← Int.mul_assoc, Int.mul_comm (c.2.1 - c.1 + 1) 2]
      rw [← e]; exact h2
theorem rdn_V (sf : Int → Int) (hsf : ∀ k, sf k = 0 ∨ sf k = 1) : ∀ (n : Nat) (K : Int) (c : Rd), RdV K c → RdV (K + n) (rdn sf n c)
  | 0, K, c, h => by simpa [rdn] using h
  | n + 1, K, c, h => by
    rw [rdn]
    split
    · obtain ⟨h1, h2, h3, h4, h5, h6⟩ := h
      exact ⟨h1, h2, h3, by omega, h5, by omega⟩
    · have := rdn_V sf hsf n (K + 1) (rstp sf c) (rstp_V hsf h)
      rw [show K + ((n + 1 : Nat) : Int) = K + 1 + n by omega]
      exact this
