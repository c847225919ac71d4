/-! ===== what is computed, in words of its own ===== -/
theorem up_ind {P : Int → Prop} {lo n : Int} (hl : lo ≤ n) (st : ∀ i, lo ≤ i → i ≤ n → (i < n → P (i + 1)) → P i) : P lo := by
  have key : ∀ (d : Nat) (i : Int), lo ≤ i → i ≤ n → n - i ≤ d → P i := by
    intro d
    induction d with
    | zero => intro i h1 h2 h3; exact st i h1 h2 (fun h => absurd h (by omega))
    | succ d ih => intro i h1 h2 h3; exact st i h1 h2 (fun h => ih (i + 1) (by omega) (by omega) (by omega))
  exact key (n - lo).toNat lo (Int.le_refl _) hl (by omega)
/-- the place of the context of n signs from a on -/
def cxp (sg : Int → Int) (a : Int) : Nat → Int
  | 0 => 0
  | n + 1 => 4 * cxp sg a n + 1 + sg (a + n)
theorem cxp_bd {sg : Int → Int} {a : Int} : ∀ {n : Nat}, n ≤ 3 → (∀ k : Int, a ≤ k → k < a + n → 0 ≤ sg k ∧ sg k ≤ 3) → 0 ≤ cxp sg a n ∧ cxp sg a n ≤ 84
  | 0, _, _ => ⟨by simp [cxp], by simp [cxp]⟩
  | 1, _, h => by
    have h0 := h (a + (0 : Nat)) (by omega) (by omega)
    simp only [cxp]; omega
  | 2, _, h => by
    have h0 := h (a + (0 : Nat)) (by omega) (by omega)
    have h1 := h (a + (1 : Nat)) (by omega) (by omega)
    simp only [cxp]; omega
  | 3, _, h => by
    have h0 := h (a + (0 : Nat)) (by omega) (by omega)
    have h1 := h (a + (1 : Nat)) (by omega) (by omega)
    have h2 := h (a + (2 : Nat)) (by omega) (by omega)
    simp only [cxp]; omega
theorem cxp_congr {sg sg' : Int → Int} {a : Int} : ∀ {n : Nat}, (∀ k : Int, a ≤ k → k < a + n → sg k = sg' k) → cxp sg a n = cxp sg' a n
  | 0, _ => rfl
  | n + 1, h => by
    rw [cxp, cxp, cxp_congr (n := n) (fun k h1 h2 => h k h1 (by omega)), h (a + n) (by omega) (by omega)]
/-! counts -/
def rai (cs : Int → Int) (p s l : Int) : Int → Int := fun k =>
  if cs (4 * p + s) + 1 = l then (if 4 * p ≤ k ∧ k < 4 * p + 4 then (if k = 4 * p + s then cs k + 1 else cs k) / 2 else cs k) else (if k = 4 * p + s then cs k + 1 else cs k)
/-- a context is there -/
def thr (cs : Int → Int) (p : Int) : Prop := ¬ (cs (4 * p) = 0 ∧ cs (4 * p + 1) = 0 ∧ cs (4 * p + 2) = 0 ∧ cs (4 * p + 3) = 0)
/-! masks and widths -/
def hb (m s : Nat) : Bool := m.testBit s
def b1 (b : Bool) : Int := if b = true then 1 else 0
def pc4 (m : Nat) : Int := b1 (hb m 0) + b1 (hb m 1) + b1 (hb m 2) + b1 (hb m 3)
def wS (cs : Int → Int) (pl : Int) (sh s : Nat) : Int := if hb sh s = true then 0 else if pl = -1 then 1 else cs (4 * pl + s)
def opn (w : Nat → Int) : Nat → Nat
  | 0 => 0
  | s + 1 => opn w s + (if 0 < w s then 2 ^ s else 0)
def tot (w : Nat → Int) : Nat → Int
  | 0 => 0
  | s + 1 => tot w s + w s
def esc (pl : Int) (sh op : Nat) : Int := if pl = -1 ∨ op ||| sh = 15 then 0 else pc4 op
def wE (cs : Int → Int) (pl : Int) (sh s : Nat) : Int := if s = 4 then esc pl sh (opn (wS cs pl sh) 4) else wS cs pl sh s
theorem tot_congr {w w' : Nat → Int} : ∀ {n : Nat}, (∀ k, k < n → w k = w' k) → tot w n = tot w' n
  | 0, _ => rfl
  | n + 1, h => by rw [tot, tot, tot_congr (n := n) (fun k hk => h k (by omega)), h n (by omega)]
theorem opn_lt (w : Nat → Int) : ∀ n, opn w n < 2 ^ n
  | 0 => by simp [opn]
  | n + 1 => by
    have := opn_lt w n
    rw [opn, Nat.pow_succ]
    split <;> omega
