/-! ===== packing and reading, as functions of the text: pure ===== -/
def TxOk (T : List Int) : Prop := T.length ≤ 60 ∧ ∀ k : Nat, k < T.length → 0 ≤ T.getD k 0 ∧ T.getD k 0 ≤ 3
theorem srF_nat {T : List Int} {k : Nat} (h : k < T.length) : srF T (k : Int) = T.getD k 0 := by
  unfold srF; rw [if_pos (by omega), Int.toNat_natCast]
theorem srF_bd {T : List Int} (h : TxOk T) {k : Int} (h0 : 0 ≤ k) (h1 : k < T.length) : 0 ≤ srF T k ∧ srF T k ≤ 3 := by
  unfold srF; rw [if_pos ⟨h0, h1⟩]; exact h.2 _ (by omega)
theorem dsc_congr {σ : Type} {ch : σ → (Nat → Int) → Nat} {tk : σ → Int → Int → Int → σ} {cs : Int → Int} {ctx ctx' : Nat → Int} : ∀ (N sh : Nat) (c : σ), (∀ j, j < N → ctx j = ctx' j) → dsc ch tk cs ctx N sh c = dsc ch tk cs ctx' N sh c
  | 0, _, _, _ => rfl
  | N + 1, sh, c, h => by
    rw [dsc, dsc, h N (by omega), dsc_congr N sh c (fun j hj => h j (by omega)), dsc_congr N _ _ (fun j hj => h j (by omega))]
theorem dOk_congr {σ : Type} {ch : σ → (Nat → Int) → Nat} {tk : σ → Int → Int → Int → σ} {P : σ → (Nat → Int) → Prop} {cs : Int → Int} {ctx ctx' : Nat → Int} : ∀ (N sh : Nat) (c : σ), (∀ j, j < N → ctx j = ctx' j) → dOk ch tk P cs ctx N sh c = dOk ch tk P cs ctx' N sh c
  | 0, _, _, _ => rfl
  | N + 1, sh, c, h => by
    rw [dOk, dOk, h N (by omega), dOk_congr N sh c (fun j hj => h j (by omega)), dOk_congr N _ _ (fun j hj => h j (by omega))]
theorem lc1_congr {sg sg' cs : Int → Int} {o l n s f : Int} (ho : 0 ≤ o) (hn : 0 ≤ n) (h : ∀ k : Int, 0 ≤ k → k < n → sg k = sg' k) : lc1 sg cs o l n s f = lc1 sg' cs o l n s f := by
  have h2 := lng_le (o := o) (n := n) ho hn
  unfold lc1
  exact lrn_congr _ (fun j _ hj => cxp_congr (fun k q1 q2 => h k (by omega) (by omega)))
theorem tas_bd {t n : Int} (ht : 0 ≤ t) (hn : 0 ≤ n) : 0 ≤ tas t n ∧ tas t n ≤ n := by unfold tas; split <;> omega
theorem lst_congr {sg sg' cs : Int → Int} {o l r t n s f : Int} (ho : 0 ≤ o) (ht : 0 ≤ t) (hn : 0 ≤ n) (h : ∀ k : Int, 0 ≤ k → k < n + 1 → sg k = sg' k) : lst sg cs o l r t n s f = lst sg' cs o l r t n s f := by
  have hb := tas_bd (t := t) (n := n + 1) ht (by omega)
  unfold lst
  rw [lc1_congr (sg' := sg') ho hn (fun k a b => h k a (by omega)), frg_congr (sg' := sg') ho _ (fun k a b => h k (by omega) (by omega))]
theorem lfg_congr {sg sg' cs : Int → Int} {o l r n s f : Int} (ho : 0 ≤ o) (hn : 0 ≤ n) (h : ∀ k : Int, 0 ≤ k → k < n → sg k = sg' k) : lfg sg cs o l r n s f = lfg sg' cs o l r n s f := by
  unfold lfg
  rw [lc1_congr (sg' := sg') ho hn h]
theorem lfg_bd {sg cs : Int → Int} {o l r n s f : Int} : 0 ≤ lfg sg cs o l r n s f ∧ lfg sg cs o l r n s f ≤ 1 := by unfold lfg; split <;> omega
theorem ctx_congr {sg sg' : Int → Int} {o n : Int} (ho : 0 ≤ o) (hn : 0 ≤ n) (h : ∀ k : Int, 0 ≤ k → k < n → sg k = sg' k) : ∀ j : Nat, j < lng o n + 1 → cxp sg (n - (j : Int)) j = cxp sg' (n - (j : Int)) j := by
  have h2 := lng_le (o := o) (n := n) ho hn
  exact fun j hj => cxp_congr (fun k q1 q2 => h k (by omega) (by omega))
/-- counts, how often forgotten, the coder -/
abbrev PS : Type := (Int → Int) × Int × Cd
/-- the n-th sign of T packed -/
def pdn (o : Int) (T : List Int) (n : Nat) (S : PS) : Int × Nat × Cd := dsc (chW (T.getD n 0).toNat) prt S.1 (fun j => cxp (srF T) ((n : Int) - (j : Int)) j) (lng o n + 1) 0 S.2.2
def pstep (o l r t : Int) (T : List Int) (n : Nat) (S : PS) : PS := (lst (srF T) S.1 o l r t n (T.getD n 0) (pdn o T n S).1, S.2.1 + lfg (srF T) S.1 o l r n (T.getD n 0) (pdn o T n S).1, (pdn o T n S).2.2)
def pck (o l r t : Int) (T : List Int) : Nat → PS
  | 0 => (fun _ => 0, 0, (0, 65535, 0, []))
  | n + 1 => pstep o l r t T n (pck o l r t T n)
def PInv (l : Int) (n : Nat) (S : PS) : Prop := CsOk S.1 l ∧ 0 ≤ S.2.1 ∧ S.2.1 ≤ n ∧ CdN S.2.2.1 S.2.2.2.1 ∧ Pot S.2.2 1 (pw2 (12 * n))
theorem pot_up {c : Cd} {n : Nat} (h : Pot c 1 (pw2 (12 * n))) : Pot c (Kq (pc4 0)) (pw2 (12 * (n + 1))) := by
  have e : pw2 (12 * (n + 1)) = 4096 * pw2 (12 * n) := by
    unfold pw2
    rw [Nat.mul_succ, Nat.pow_add]; omega
  have e2 : Kq (pc4 0) = 4096 := by decide
  unfold Pot at h ⊢
  rw [e, e2, Int.mul_left_comm]
  omega
theorem pdn_ok {o l r t : Int} {T : List Int} {n : Nat} {S : PS} (hPr : PrOk o l r t) (hT : TxOk T) (hn : n < T.length) (h : PInv l n S) :
    dOk (chW (T.getD n 0).toNat) prt (PW (T.getD n 0).toNat) S.1 (fun j => cxp (srF T) ((n : Int) - (j : Int)) j) (lng o n + 1) 0 S.2.2 ∧ (pdn o T n S).2.1 = (T.getD n 0).toNat ∧ CdN (pdn o T n S).2.2.1 (pdn o T n S).2.2.2.1 ∧ Pot (pdn o T n S).2.2 1 (pw2 (12 * (n + 1))) ∧ -1 ≤ (pdn o T n S).1 ∧ (pdn o T n S).1 ≤ lng o n := by
  obtain ⟨i1, i2, i3, i4, i5⟩ := h
  obtain ⟨w1, w2, w3, w4, w5, w6, w7, w8⟩ := hPr
  have hs := hT.2 n hn
  have h2 := lng_le (o := o) (n := n) w1 (by omega)
  have hl := hT.1
  obtain ⟨a1, a2, a3, a4, a5, a6⟩ := dscW_ok (cs := S.1) (ctx := fun j => cxp (srF T) ((n : Int) - (j : Int)) j) (s := (T.getD n 0).toNat) (m := 12 * (n + 1)) (by omega) (fun k => by have := i1.1 k; omega) rfl (by omega) (lng o n + 1) 0 S.2.2 (fun j hj => (cxp_bd (by omega) (fun k q1 q2 => srF_bd hT (by omega) (by omega))).1) (by decide) (by unfold hb; exact Nat.zero_testBit _) i4 (pot_up i5)
  exact ⟨a1, a2, a3, a4, a5, by unfold pdn; omega⟩
theorem pstep_inv {o l r t : Int} {T : List Int} {n : Nat} {S : PS} (hPr : PrOk o l r t) (hT : TxOk T) (hn : n < T.length) (h : PInv l n S) : PInv l (n + 1) (pstep o l r t T n S) := by
  obtain ⟨a1, a2, a3, a4, a5, a6⟩ := pdn_ok hPr hT hn h
  obtain ⟨i1, i2, i3, i4, i5⟩ := h
  obtain ⟨w1, w2, w3, w4, w5, w6, w7, w8⟩ := hPr
  have hs := hT.2 n hn
  have hf := lfg_bd (sg := srF T) (cs := S.1) (o := o) (l := l) (r := r) (n := n) (s := T.getD n 0) (f := (pdn o T n S).1)
  have c1 : CsOk (lst (srF T) S.1 o l r t (n : Int) (T.getD n 0) (pdn o T n S).1) l := csOk_lst i1 w3 w1 w2 (by omega) w7 hs.1 hs.2 (fun k q1 q2 => srF_bd hT q1 (by omega))
  unfold PInv pstep
  dsimp only
  refine ⟨c1, ?_, ?_, a3, a4⟩
  · show 0 ≤ S.2.1 + lfg (srF T) S.1 o l r n (T.getD n 0) (pdn o T n S).1; omega
  · show S.2.1 + lfg (srF T) S.1 o l r n (T.getD n 0) (pdn o T n S).1 ≤ ((n + 1 : Nat) : Int); omega
theorem pck_inv {o l r t : Int} {T : List Int} (hPr : PrOk o l r t) (hT : TxOk T) : ∀ n : Nat, n ≤ T.length → PInv l n (pck o l r t T n)
  | 0, _ => by
    have h1 : CdN 0 65535 := ⟨by decide, by decide, by decide⟩
    have h2 : Pot (0, 65535, 0, []) 1 (pw2 (12 * 0)) := by unfold Pot; decide
    unfold PInv pck
    exact ⟨csOk_zero hPr.2.2.1, Int.le_refl _, Int.le_refl _, h1, h2⟩
  | n + 1, hn => pstep_inv hPr hT (by omega) (pck_inv hPr hT n (by omega))
theorem pck_D {o l r t : Int} {T : List Int} (hPr : PrOk o l r t) (hT : TxOk T) {n : Nat} (hn : n ≤ T.length) : Dn (pck o l r t T n).2.2 ≤ 720 := by
  have h := pck_inv hPr hT n hn
  have := pot_D h.2.2.2.1 (Int.le_refl 1) rfl h.2.2.2.2
  have := hT.1
  omega
theorem pdn_congr {o : Int} {T T' : List Int} {n : Nat} {S : PS} (ho : 0 ≤ o) (hn : n < T.length) (hn' : n < T'.length) (h : ∀ k : Nat, k ≤ n → T.getD k 0 = T'.getD k 0) : pdn o T n S = pdn o T' n S := by
  unfold pdn
  rw [h n (Nat.le_refl _)]
  refine dsc_congr _ _ _ (ctx_congr ho (by omega) (fun k q1 q2 => ?_))
  have e1 := srF_nat (T := T) (k := k.toNat) (by omega)
  have e2 := srF_nat (T := T') (k := k.toNat) (by omega)
  rw [Int.toNat_of_nonneg q1] at e1 e2
  rw [e1, e2, h _ (by omega)]
theorem pck_congr {o l r t : Int} {T T' : List Int} (ho : 0 ≤ o) (ht : 0 ≤ t) : ∀ n : Nat, n ≤ T.length → n ≤ T'.length → (∀ k : Nat, k < n → T.getD k 0 = T'.getD k 0) → pck o l r t T n = pck o l r t T' n
  | 0, _, _, _ => rfl
  | n + 1, h1, h2, h => by
    have hk : ∀ k : Int, 0 ≤ k → k < (n : Int) + 1 → srF T k = srF T' k := by
      intro k q1 q2
      have e1 := srF_nat (T := T) (k := k.toNat) (by omega)
      have e2 := srF_nat (T := T') (k := k.toNat) (by omega)
      rw [Int.toNat_of_nonneg q1] at e1 e2
      rw [e1, e2, h _ (by omega)]
    rw [pck, pck, pck_congr ho ht n (by omega) (by omega) (fun k hk => h k (by omega))]
    unfold pstep
    rw [pdn_congr (T' := T') ho (by omega) (by omega) (fun k hk => h k (by omega)), h n (by omega), lst_congr (sg' := srF T') ho ht (by omega) hk, lfg_congr (sg' := srF T') ho (by omega) (fun k a b => hk k a (by omega))]
/-! reading -/
def chR (c : Rd) (w : Nat → Int) : Nat := chAt w (((c.2.2.2.1 - c.1 + 1) * tot w 5 - 1) / (c.2.1 - c.1 + 1))
theorem chAt_le (w : Nat → Int) (v : Int) : chAt w v ≤ 4 := by unfold chAt; split <;> (try split) <;> (try split) <;> (try split) <;> omega
/-- v lies in the part that is chosen -/
theorem chAt_in {w : Nat → Int} {v : Int} (h0 : 0 ≤ v) (h1 : v < tot w 5) : tot w (chAt w v) ≤ v ∧ v < tot w (chAt w v) + w (chAt w v) ∧ (chAt w v = 4 → tot w 4 ≤ v) := by
  have e1 : tot w 1 = 0 + w 0 := rfl
  have e2 : tot w 2 = tot w 1 + w 1 := rfl
  have e3 : tot w 3 = tot w 2 + w 2 := rfl
  have e4 : tot w 4 = tot w 3 + w 3 := rfl
  have e5 : tot w 5 = tot w 4 + w 4 := rfl
  have e0 : tot w 0 = 0 := rfl
  unfold chAt
  by_cases q1 : v < tot w 1
  · rw [if_pos q1]; omega
  · rw [if_neg q1]
    by_cases q2 : v < tot w 2
    · rw [if_pos q2]; omega
    · rw [if_neg q2]
      by_cases q3 : v < tot w 3
      · rw [if_pos q3]; omega
      · rw [if_neg q3]
        by_cases q4 : v < tot w 4
        · rw [if_pos q4]; omega
        · rw [if_neg q4]; omega
theorem val_in {lo hi va b u t : Int} (hN : CdN lo hi) (h1 : lo ≤ va) (h2 : va ≤ hi) (ht : 1 ≤ t) (hb : b ≤ ((va - lo + 1) * t - 1) / (hi - lo + 1)) (hu : ((va - lo + 1) * t - 1) / (hi - lo + 1) < u) : lo + (hi - lo + 1) * b / t ≤ va ∧ va ≤ lo + (hi - lo + 1) * u / t - 1 := by
  obtain ⟨n1, n2, n3⟩ := hN
  have hr : 0 < hi - lo + 1 := by omega
  generalize hi - lo + 1 = r at *
  generalize hx : (va - lo + 1) * t - 1 = X at *
  have a1 : X / r * r ≤ X := Int.ediv_mul_le _ (by omega)
  have a2 : X < (X / r + 1) * r := Int.lt_ediv_add_one_mul_self X hr
  have b1 : b * r ≤ X / r * r := Int.mul_le_mul_of_nonneg_right hb (by omega)
  have b2 : (X / r + 1) * r ≤ u * r := Int.mul_le_mul_of_nonneg_right (by omega) (by omega)
  rw [Int.mul_comm b r] at b1
  rw [Int.mul_comm u r] at b2
  have c1 : r * b / t ≤ va - lo := by
    apply Int.le_of_lt_add_one
    apply Int.ediv_lt_of_lt_mul (by omega)
    omega
  have c2 : va - lo + 1 ≤ r * u / t := by
    apply Int.le_ediv_of_mul_le (by omega)
    omega
  omega
def PR (K : Int) (c : Rd) (w : Nat → Int) : Prop := CdN c.1 c.2.1 ∧ RdV K c ∧ K ≤ 80000 ∧ 1 ≤ w (chR c w) ∧ 0 ≤ tot w (chR c w) ∧ tot w (chR c w) + w (chR c w) ≤ tot w 5 ∧ 1 ≤ tot w 5 ∧ tot w 5 ≤ 60 ∧ c.1 + (c.2.1 - c.1 + 1) * tot w (chR c w) / tot w 5 ≤ c.2.2.2.1 ∧ c.2.2.2.1 ≤ c.1 + (c.2.1 - c.1 + 1) * (tot w (chR c w) + w (chR c w)) / tot w 5 - 1
theorem tot_mono {w : Nat → Int} (h : ∀ k, k < 5 → 0 ≤ w k) (k : Nat) (hk : k ≤ 4) : 0 ≤ tot w k ∧ tot w k + w k ≤ tot w 5 := by
  have g0 := h 0 (by decide); have g1 := h 1 (by decide); have g2 := h 2 (by decide); have g3 := h 3 (by decide); have g4 := h 4 (by decide)
  have e1 : tot w 1 = 0 + w 0 := rfl
  have e2 : tot w 2 = tot w 1 + w 1 := rfl
  have e3 : tot w 3 = tot w 2 + w 2 := rfl
  have e4 : tot w 4 = tot w 3 + w 3 := rfl
  have e5 : tot w 5 = tot w 4 + w 4 := rfl
  have e0 : tot w 0 = 0 := rfl
  rcases (show k = 0 ∨ k = 1 ∨ k = 2 ∨ k = 3 ∨ k = 4 by omega) with rfl | rfl | rfl | rfl | rfl <;> omega
theorem chR_PR {K : Int} {c : Rd} {w : Nat → Int} (hN : CdN c.1 c.2.1) (hV : RdV K c) (hK : K ≤ 80000) (hw : ∀ k, k < 5 → 0 ≤ w k) (ht : 1 ≤ tot w 5) (ht2 : tot w 5 ≤ 60) : PR K c w ∧ chR c w ≤ 4 ∧ (chR c w = 4 → 1 ≤ w 4) := by
  obtain ⟨n1, n2, n3⟩ := id hN
  obtain ⟨v1, v2, v3⟩ := id hV
  have hr : 0 < c.2.1 - c.1 + 1 := by omega
  have m1 : 1 * 1 ≤ (c.2.2.2.1 - c.1 + 1) * tot w 5 := Int.mul_le_mul (by omega) ht (by decide) (by omega)
  have m2 : (c.2.2.2.1 - c.1 + 1) * tot w 5 ≤ (c.2.1 - c.1 + 1) * tot w 5 := Int.mul_le_mul_of_nonneg_right (by omega) (by omega)
  have h0 : 0 ≤ ((c.2.2.2.1 - c.1 + 1) * tot w 5 - 1) / (c.2.1 - c.1 + 1) := Int.ediv_nonneg (by omega) (by omega)
  have h1 : ((c.2.2.2.1 - c.1 + 1) * tot w 5 - 1) / (c.2.1 - c.1 + 1) < tot w 5 := by
    apply Int.ediv_lt_of_lt_mul hr
    rw [Int.mul_comm (tot w 5)]
    omega
  obtain ⟨i1, i2, i3⟩ := chAt_in h0 h1
  have h4 : chR c w ≤ 4 := chAt_le _ _
  have tm := tot_mono hw (chR c w) h4
  have vi := val_in hN v1 v2 ht i1 i2
  refine ⟨⟨hN, hV, hK, ?_, tm.1, tm.2, ht, ht2, vi.1, vi.2⟩, h4, fun q => ?_⟩
  · unfold chR; omega
  · have e : w (chR c w) = w 4 := by rw [q]
    unfold chR at e
    omega
theorem rprt_N {sf : Int → Int} {c : Rd} {b w t : Int} (hN : CdN c.1 c.2.1) (hb : 0 ≤ b) (hw : 1 ≤ w) (ht : b + w ≤ t) (ht2 : t ≤ 5000) : CdN (rprt sf c b w t).1 (rprt sf c b w t).2.1 := by
  unfold rprt
  have h := prt_B hN hb hw ht ht2
  refine rdn_N sf 17 _ h ?_
  have e : (2 : Int) ^ 17 = 131072 := by decide
  rw [e]
  obtain ⟨h1, h2, h3⟩ := h
  show 131072 ≤ (c.1 + (c.2.1 - c.1 + 1) * (b + w) / t - 1 - (c.1 + (c.2.1 - c.1 + 1) * b / t) + 1) * 131072
  omega
theorem rprt_V {sf : Int → Int} (hsf : ∀ k, sf k = 0 ∨ sf k = 1) {K : Int} {c : Rd} {b w t : Int} (hV : RdV K c) (h1 : c.1 + (c.2.1 - c.1 + 1) * b / t ≤ c.2.2.2.1) (h2 : c.2.2.2.1 ≤ c.1 + (c.2.1 - c.1 + 1) * (b + w) / t - 1) : RdV (K + 17) (rprt sf c b w t) := by
  unfold rprt
  exact rdn_V sf hsf 17 K _ ⟨h1, h2, hV.2.2⟩
theorem RdV_up {K K' : Int} {c : Rd} (h : RdV K c) (hk : K ≤ K') : RdV K' c := ⟨h.1, h.2.1, h.2.2.1, by have := h.2.2.2.1; omega, h.2.2.2.2.1, by have := h.2.2.2.2.2; omega⟩
theorem dscR_ok {cs : Int → Int} {ctx : Nat → Int} {sf : Int → Int} (hsf : ∀ k, sf k = 0 ∨ sf k = 1) (hc : ∀ k, 0 ≤ cs k ∧ cs k ≤ 14) {K9 : Int} (hK9 : K9 ≤ 80000) : ∀ (N sh : Nat) (K : Int) (c : Rd), (∀ j, j < N → 0 ≤ ctx j) → sh < 16 → pc4 sh ≤ 3 → CdN c.1 c.2.1 → RdV K c → K + 17 * (N + 1) ≤ K9 →
    dOk chR (rprt sf) (PR K9) cs ctx N sh c ∧ (dsc chR (rprt sf) cs ctx N sh c).2.1 ≤ 3 ∧ CdN (dsc chR (rprt sf) cs ctx N sh c).2.2.1 (dsc chR (rprt sf) cs ctx N sh c).2.2.2.1 ∧ RdV K9 (dsc chR (rprt sf) cs ctx N sh c).2.2 ∧ RdV (K + 17 * (N + 1)) (dsc chR (rprt sf) cs ctx N sh c).2.2 ∧ -1 ≤ (dsc chR (rprt sf) cs ctx N sh c).1 ∧ (dsc chR (rprt sf) cs ctx N sh c).1 < N
  | 0, sh, K, c, hctx, hsh, hp3, hN, hV, hK => by
    obtain ⟨f1, f2⟩ := st_plain (cs := cs) (sh := sh)
    have g0 := f1 0 (by decide); have g1 := f1 1 (by decide); have g2 := f1 2 (by decide); have g3 := f1 3 (by decide)
    have bz0 := b1_bd (hb sh 0); have bz1 := b1_bd (hb sh 1); have bz2 := b1_bd (hb sh 2); have bz3 := b1_bd (hb sh 3)
    have hpc : pc4 sh = b1 (hb sh 0) + b1 (hb sh 1) + b1 (hb sh 2) + b1 (hb sh 3) := rfl
    have t5 := tot5 (wE cs (-1) sh)
    dsimp only [dOk, dsc]
    generalize wE cs (-1) sh = w at *
    have hw : ∀ k, k < 5 → 0 ≤ w k := by
      intro k hk
      rcases (show k = 0 ∨ k = 1 ∨ k = 2 ∨ k = 3 ∨ k = 4 by omega) with rfl | rfl | rfl | rfl | rfl <;> omega
    obtain ⟨hP, h4, h4w⟩ := chR_PR hN (RdV_up hV (show K ≤ K9 by omega)) hK9 hw (by omega) (by omega)
    obtain ⟨q1, q2, q3, q4, q5, q6, q7, q8, q9, q10⟩ := id hP
    have hN' := rprt_N (sf := sf) hN q5 q4 q6 (by omega)
    have hV' := rprt_V hsf hV q9 q10
    refine ⟨hP, ?_, hN', RdV_up hV' (by omega), RdV_up hV' (by omega), Int.le_refl _, by decide⟩
    rcases Nat.lt_or_ge (chR c w) 4 with z | z
    · omega
    · have := h4w (by omega); omega
  | N + 1, sh, K, c, hctx, hsh, hp3, hN, hV, hK => by
    have ih := dscR_ok (cs := cs) (ctx := ctx) hsf hc hK9 N
    have hpl := hctx N (by omega)
    rw [dOk, dsc]
    by_cases ht : tot (wE cs (ctx N) sh) 5 ≤ 0
    · rw [if_pos ht, if_pos ht]
      obtain ⟨i1, i2, i3, i4, i5, i6, i7⟩ := ih sh K c (fun j hj => hctx j (by omega)) hsh hp3 hN hV (by omega)
      exact ⟨i1, i2, i3, i4, RdV_up i5 (by omega), i6, by omega⟩
    · rw [if_neg ht, if_neg ht]
      obtain ⟨f1, f2⟩ := st_facts (cs := cs) (pl := ctx N) hsh (by omega) hc
      generalize wE cs (ctx N) sh = w at *
      have g0 := f1 0 (by decide); have g1 := f1 1 (by decide); have g2 := f1 2 (by decide); have g3 := f1 3 (by decide)
      have bp0 := b1_bd (hb (opn w 4) 0); have bp1 := b1_bd (hb (opn w 4) 1); have bp2 := b1_bd (hb (opn w 4) 2); have bp3 := b1_bd (hb (opn w 4) 3)
      have hop : opn w 4 < 16 := opn_lt _ 4
      have bq := pc4_bd (opn w 4)
      have hd : sh &&& opn w 4 = 0 := (and0 _ hsh _ hop).mpr ⟨by omega, by omega, by omega, by omega⟩
      have hpo := pc4_or _ hsh _ hop hd
      have t5 := tot5 w
      have hw : ∀ k, k < 5 → 0 ≤ w k := by
        intro k hk
        rcases (show k = 0 ∨ k = 1 ∨ k = 2 ∨ k = 3 ∨ k = 4 by omega) with rfl | rfl | rfl | rfl | rfl <;> omega
      obtain ⟨hP, h4, h4w⟩ := chR_PR hN (RdV_up hV (show K ≤ K9 by omega)) hK9 hw (by omega) (by omega)
      obtain ⟨q1, q2, q3, q4, q5, q6, q7, q8, q9, q10⟩ := id hP
      have hN' := rprt_N (sf := sf) hN q5 q4 q6 (by omega)
      have hV' := rprt_V hsf hV q9 q10
      by_cases hch : chR c w = 4
      · have := h4w hch
        obtain ⟨i1, i2, i3, i4, i5, i6, i7⟩ := ih (sh ||| opn w 4) (K + 17) _ (fun j hj => hctx j (by omega)) (orm_bd sh hsh _ hop) (by omega) hN' hV' (by omega)
        rw [if_pos hch]
        exact ⟨⟨hP, fun _ => i1⟩, i2, i3, i4, RdV_up i5 (by omega), i6, by omega⟩
      · rw [if_neg hch]
        exact ⟨⟨hP, fun q => absurd q hch⟩, by dsimp only; omega, hN', RdV_up hV' (by omega), RdV_up hV' (by omega), by dsimp only; omega, by dsimp only; omega⟩
