/-! ===== counts learnt: pure ===== -/
/-- counts below the limit, none outside the 340 -/
def CsOk (cs : Int → Int) (l : Int) : Prop := (∀ k, 0 ≤ cs k ∧ cs k < l) ∧ ∀ k, k < 0 ∨ 340 ≤ k → cs k = 0
theorem csOk_bd {cs : Int → Int} {l : Int} (h : CsOk cs l) (hl : l ≤ 15) : ∀ k, 0 ≤ k → k < 340 → 0 ≤ cs k ∧ cs k ≤ 1000 := fun k _ _ => by have := h.1 k; omega
theorem csOk_zero {l : Int} (hl : 2 ≤ l) : CsOk (fun _ => 0) l := ⟨fun _ => ⟨Int.le_refl 0, by show (0 : Int) < l; omega⟩, fun _ _ => rfl⟩
theorem csOk_rai {cs : Int → Int} {p s l : Int} (h : CsOk cs l) (hl : 2 ≤ l) (hp : 0 ≤ p) (hp2 : p ≤ 84) (hs : 0 ≤ s) (hs2 : s ≤ 3) : CsOk (rai cs p s l) l := by
  refine ⟨fun k => ?_, fun k hk => ?_⟩
  · have h1 := h.1 k
    unfold rai
    by_cases e : cs (4 * p + s) + 1 = l
    · rw [if_pos e]
      by_cases e2 : 4 * p ≤ k ∧ k < 4 * p + 4
      · rw [if_pos e2]
        by_cases e3 : k = 4 * p + s
        · rw [if_pos e3]; omega
        · rw [if_neg e3]; omega
      · rw [if_neg e2]; exact h1
    · rw [if_neg e]
      by_cases e3 : k = 4 * p + s
      · rw [if_pos e3]; rw [← e3] at e; omega
      · rw [if_neg e3]; exact h1
  · have h2 := h.2 k hk
    unfold rai
    by_cases e : cs (4 * p + s) + 1 = l
    · rw [if_pos e, if_neg (by omega)]; exact h2
    · rw [if_neg e, if_neg (by omega)]; exact h2
/-- how many contexts are there, of the first n -/
def thC (cs : Int → Int) : Nat → Int
  | 0 => 0
  | n + 1 => thC cs n + (1 - thN cs n)
theorem thN_bd (cs : Int → Int) (p : Int) : 0 ≤ thN cs p ∧ thN cs p ≤ 1 := by
  unfold thN; split <;> omega
theorem thC_bd (cs : Int → Int) : ∀ n, 0 ≤ thC cs n ∧ thC cs n ≤ n
  | 0 => by simp [thC]
  | n + 1 => by
    have h1 := thC_bd cs n
    have h2 := thN_bd cs n
    rw [thC]; omega
theorem thN_other {cs : Int → Int} {p s l q : Int} (hs : 0 ≤ s) (hs2 : s ≤ 3) (hq : q ≠ p) : thN (rai cs p s l) q = thN cs q := by
  have e : ∀ k, ¬ (4 * p ≤ k ∧ k < 4 * p + 4) → rai cs p s l k = cs k := by
    intro k hk
    unfold rai
    by_cases e : cs (4 * p + s) + 1 = l
    · rw [if_pos e, if_neg hk]
    · rw [if_neg e, if_neg (by omega)]
  unfold thN
  rw [e (4 * q) (by omega), e (4 * q + 1) (by omega), e (4 * q + 2) (by omega), e (4 * q + 3) (by omega)]
theorem thN_self {cs : Int → Int} {p s l : Int} (h : CsOk cs l) (hl : 2 ≤ l) (hs : 0 ≤ s) (hs2 : s ≤ 3) : thN (rai cs p s l) p = 0 := by
  have e : 0 < rai cs p s l (4 * p + s) := by
    have h1 := h.1 (4 * p + s)
    unfold rai
    by_cases e : cs (4 * p + s) + 1 = l
    · rw [if_pos e, if_pos (by omega), if_pos rfl]; omega
    · rw [if_neg e, if_pos rfl]; omega
  unfold thN
  rw [if_neg]
  rintro ⟨a0, a1, a2, a3⟩
  rcases (show s = 0 ∨ s = 1 ∨ s = 2 ∨ s = 3 by omega) with rfl | rfl | rfl | rfl
  · rw [Int.add_zero] at e; omega
  · omega
  · omega
  · omega
theorem thC_low {cs : Int → Int} {p s l : Int} (hs : 0 ≤ s) (hs2 : s ≤ 3) : ∀ n : Nat, (n : Int) ≤ p → thC (rai cs p s l) n = thC cs n
  | 0, _ => rfl
  | n + 1, h => by rw [thC, thC, thC_low hs hs2 n (by omega), thN_other hs hs2 (by omega)]
theorem thC_rai {cs : Int → Int} {p s l : Int} (h : CsOk cs l) (hl : 2 ≤ l) (hp : 0 ≤ p) (hs : 0 ≤ s) (hs2 : s ≤ 3) : ∀ n : Nat, p < n → thC (rai cs p s l) n = thC cs n + thN cs p
  | 0, hn => by omega
  | n + 1, hn => by
    rw [thC, thC]
    by_cases e : (n : Int) = p
    · rw [thC_low hs hs2 n (by omega), e, thN_self h hl hs hs2]; omega
    · rw [thC_rai h hl hp hs hs2 n (by omega), thN_other hs hs2 e]; omega
/-- a sign raised in the contexts of lengths lo, lo+1, .. -/
def lrn (ctx : Nat → Int) (s l : Int) (lo : Nat) : Nat → (Int → Int) → Int → Int
  | 0, cs => cs
  | m + 1, cs => rai (lrn ctx s l lo m cs) (ctx (lo + m)) s l
def lng (o n : Int) : Nat := (if n < o then n else o).toNat
/-- what is learnt again: the signs from a on, m of them -/
def frg (sg : Int → Int) (o l a : Int) : Nat → (Int → Int) → Int → Int
  | 0, cs => cs
  | m + 1, cs => lrn (fun j => cxp sg (a + m - j) j) (sg (a + m)) l 0 (lng o m + 1) (frg sg o l a m cs)
theorem csOk_lrn {ctx : Nat → Int} {s l : Int} {lo : Nat} {cs : Int → Int} (h : CsOk cs l) (hl : 2 ≤ l) (hs : 0 ≤ s) (hs2 : s ≤ 3) : ∀ m : Nat, (∀ j, lo ≤ j → j < lo + m → 0 ≤ ctx j ∧ ctx j ≤ 84) → CsOk (lrn ctx s l lo m cs) l
  | 0, _ => h
  | m + 1, hc => csOk_rai (csOk_lrn h hl hs hs2 m (fun j a b => hc j a (by omega))) hl (hc (lo + m) (by omega) (by omega)).1 (hc (lo + m) (by omega) (by omega)).2 hs hs2
theorem lng_le {o n : Int} (ho : 0 ≤ o) (hn : 0 ≤ n) : (lng o n : Int) ≤ o ∧ (lng o n : Int) ≤ n := by
  unfold lng
  split <;> omega
theorem csOk_frg {sg : Int → Int} {o l a : Int} {cs : Int → Int} (h : CsOk cs l) (hl : 2 ≤ l) (ho : 0 ≤ o) (ho2 : o ≤ 3) : ∀ m : Nat, (∀ k : Int, a ≤ k → k < a + m → 0 ≤ sg k ∧ sg k ≤ 3) → CsOk (frg sg o l a m cs) l
  | 0, _ => h
  | m + 1, hs => by
    have ih := csOk_frg h hl ho ho2 m (fun k q1 q2 => hs k q1 (by omega))
    have h1 := hs (a + m) (by omega) (by omega)
    refine csOk_lrn ih hl h1.1 h1.2 _ (fun j _ hj => ?_)
    have h2 := lng_le (o := o) (n := m) ho (by omega)
    exact cxp_bd (by omega) (fun k q1 q2 => hs k (by omega) (by omega))
theorem lrn_congr {ctx ctx' : Nat → Int} {s l : Int} {lo : Nat} {cs : Int → Int} : ∀ m : Nat, (∀ j, lo ≤ j → j < lo + m → ctx j = ctx' j) → lrn ctx s l lo m cs = lrn ctx' s l lo m cs
  | 0, _ => rfl
  | m + 1, h => by rw [lrn, lrn, lrn_congr m (fun j a b => h j a (by omega)), h (lo + m) (by omega) (by omega)]
theorem frg_congr {sg sg' : Int → Int} {o l a : Int} {cs : Int → Int} (ho : 0 ≤ o) : ∀ m : Nat, (∀ k : Int, a ≤ k → k < a + m → sg k = sg' k) → frg sg o l a m cs = frg sg' o l a m cs
  | 0, _ => rfl
  | m + 1, h => by
    have h2 := lng_le (o := o) (n := m) ho (by omega)
    rw [frg, frg, frg_congr ho m (fun k q1 q2 => h k q1 (by omega)), h (a + m) (by omega) (by omega)]
    exact lrn_congr _ (fun j _ hj => cxp_congr (fun k q1 q2 => h k (by omega) (by omega)))
/-! the Contexts' own words -/
def CtxS (h : mH) (c : Nat) (cs : Int → Int) : Prop := h (c + 1) = cs ∧ h c 1 = thC cs 85
theorem ctx_raisesP {x : mX} {h : mH} {Q : mH → Prop} {c : Nat} {p s l : Int} {cs : Int → Int} (hc : isCtx c) (H : CtxS h c cs) (ho : CsOk cs l) (hl : 2 ≤ l) (hl2 : l ≤ 15) (hp : 0 ≤ p) (hp2 : p ≤ 84) (hs : 0 ≤ s) (hs2 : s ≤ 3) (hQ : ∀ h', CtxS h' c (rai cs p s l) → (∀ i, i ≠ c → i ≠ c + 1 → h' i = h i) → Q h') : CtV x mtX0_raises [xR c, xI p, xI s, xI l] h Q := by
  obtain ⟨e1, e2⟩ := H
  have hb := thC_bd cs 85
  refine ctx_raises hc hp hp2 hs hs2 (by rw [e1]; exact csOk_bd ho hl2) (by omega) (by omega) (hQ _ ⟨?_, ?_⟩ (fun i a b => ?_))
  · funext k; unfold raiH; rw [if_pos rfl, e1]
  · unfold raiH; rw [if_neg (by omega), if_pos ⟨rfl, rfl⟩, e1, e2, thC_rai ho hl hp hs hs2 85 (by omega)]
  · funext k; unfold raiH; rw [if_neg b, if_neg (by omega)]
theorem thC_zero : ∀ n, thC (fun _ => 0) n = 0
  | 0 => rfl
  | n + 1 => by rw [thC, thC_zero n]; unfold thN; simp
theorem ctx_emptiesP {x : mX} {h : mH} {Q : mH → Prop} {c : Nat} {cs : Int → Int} (hc : isCtx c) (H : h (c + 1) = cs) (h0 : ∀ k, k < 0 ∨ 340 ≤ k → cs k = 0) (hQ : ∀ h', CtxS h' c (fun _ => 0) → (∀ i, i ≠ c → i ≠ c + 1 → h' i = h i) → Q h') : CtV x mtX0_empties [xR c] h Q := by
  refine ctx_empties hc (hQ _ ⟨?_, ?_⟩ (fun i a b => ?_))
  · funext k
    rw [hset_ni (by omega)]
    unfold empH
    by_cases e : 0 ≤ k ∧ k < 340
    · rw [if_pos ⟨rfl, e⟩]
    · rw [if_neg (fun q => e q.2), H]; exact h0 k (by omega)
  · rw [hset_eq, thC_zero]
  · funext k
    rw [hset_ni a]
    unfold empH
    rw [if_neg (by omega)]
