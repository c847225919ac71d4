/-! ===== Packer: repacks, startsLike, readsNext, weighs ===== -/
/-- what holds of a packer at any time -/
def PkZ (h : mH) (b : Nat) : Prop := (∀ k, k < 0 ∨ 340 ≤ k → h (b + 4 + 1) k = 0) ∧ 0 ≤ h (b + 6 + 1) 1 ∧ 0 ≤ h (b + 1 + 1) 1
theorem PkS.z {h : mH} {b : Nat} {o l r t : Int} {T : List Int} {n : Nat} (hPr : PrOk o l r t) (hT : TxOk T) (hn : n ≤ T.length) (H : PkS h b o l r t T n) : PkZ h b := by
  obtain ⟨hPa, hR, e4, hC, e5, hG⟩ := H
  refine ⟨fun k hk => by rw [hC.1]; exact (pck_inv hPr hT n hn).1.2 k hk, by rw [hG.2.2.2.2.1]; omega, by rw [hR.1]; omega⟩

set_option maxHeartbeats 4000000 in
set_option maxRecDepth 100000 in
theorem pk_repacks {x : mX} {h : mH} {Q : mH → Prop} {b : Nat} {o l r t : Int} {T : List Int} (hb : isPk b) (hPr : PrOk o l r t) (hT : TxOk T) (hPa : PaS h (b + 1) o l r t) (hR : RowL h (b + 1 + 1) T) (hz : PkZ h b) (hQ : ∀ h', PkS h' b o l r t T T.length → FrP b h h' → Q h') : CtV x mtX3_repacks [xR b] h Q := by
  refine ct_go (ls := [xR b, xU, xU]) (by decide +kernel) (Nat.le_of_ble_eq_true rfl) rfl ?_
  refine go_aload_n dX3_repacks_0 rfl ?_
  refine go_cV0V hb.1 vlX3_65 dX3_repacks_1 (by decide) rfl rfl (by decide) (Nat.le_of_ble_eq_true rfl) (pk_startsAnew hb rfl hz.1 hz.2.1 ?_)
  intro h1 a4 a5 aC aR aF
  have H1 : PkS h1 b o l r t T 0 := ⟨by unfold PaS; rw [aF (b + 1) (by omega) (by omega) (by omega) (by omega) (by omega)]; exact hPa, hR.congr (aF _ (by omega) (by omega) (by omega) (by omega) (by omega)) (aF _ (by omega) (by omega) (by omega) (by omega) (by omega)), a4, aC, a5, aR⟩
  refine go_aload_n dX3_repacks_4 rfl ?_
  refine gfX3_past hb.1 flX3_12 dX3_repacks_5 ?_
  refine gfX4_signs hb.2.1.1 flX3_68 dX3_repacks_8 ?_
  refine gfX6_size hb.2.1.2.1 flX3_72 dX3_repacks_11 ?_
  rw [H1.2.1.1]
  refine go_istore_n 1 dX3_repacks_14 rfl (Nat.le_of_ble_eq_true rfl) rfl (by dsimp only [List.set]) ?_
  refine go_iconst dX3_repacks_15 ⟨by decide, by decide⟩ ?_
  refine go_istore_n 2 dX3_repacks_16 rfl (Nat.le_of_ble_eq_true rfl) rfl (by dsimp only [List.set]) ?_
  have hl60 := hT.1
  refine up_indN (P := fun n => ∀ hh : mH, PkS hh b o l r t T n → FrP b h hh → Go x mtX3_repacks 17 [xR b, xI (T.length : Int), xI (n : Int)] [] hh (qV Q)) T.length (fun n hn ih hh H F => ?_) h1 H1 (fun i q => aF i (by omega) (by omega) (by omega) (by omega) (by omega))
  by_cases hlt : n < T.length
  · skip
    refine go_iload_n dX3_repacks_17 rfl ?_
    refine go_iload_n dX3_repacks_18 rfl ?_
    refine go_icmp_ge_f (tgt := 33) dX3_repacks_19 (by decide) (by omega) ?_
    refine go_aload_n dX3_repacks_22 rfl ?_
    refine go_cV0I hb.1 vlX3_77 dX3_repacks_23 (by decide) rfl rfl (by decide) (Nat.le_of_ble_eq_true rfl) (pk_packsNext hb hPr hT hlt H ?_)
    intro h2 H2 F2
    refine go_popI dX3_repacks_26 ?_
    refine go_iinc dX3_repacks_27 rfl rfl rfl (by omega) (by omega) (by dsimp only [List.set]) ?_
    refine go_goto (tgt := 17) dX3_repacks_30 (by decide) ?_
    exact ih hlt h2 H2 (F.tr F2)
  · have hne : n = T.length := by omega
    subst hne
    refine go_iload_n dX3_repacks_17 rfl ?_
    refine go_iload_n dX3_repacks_18 rfl ?_
    refine go_icmp_ge_t (tgt := 33) dX3_repacks_19 (by decide) (by omega) ?_
    refine go_return dX3_repacks_33 rfl ?_
    exact hQ hh H F

set_option maxHeartbeats 4000000 in
set_option maxRecDepth 100000 in
theorem pk_startsLike {x : mX} {h : mH} {Q : mH → Prop} {b q : Nat} {o l r t : Int} (hb : isPk b) (hq : isPast q) (hq2 : q + 3 ≤ b ∨ b + 11 ≤ q) (hPa : PaS h q o l r t) (hz : PkZ h b) (hQ : ∀ h', PkS h' b o l r t [] 0 → FrP b h h' → Q h') : CtV x mtX3_startsLike [xR b, xR q] h Q := by
  refine ct_go (ls := [xR b, xR q]) (by decide +kernel) (Nat.le_of_ble_eq_true rfl) rfl ?_
  refine go_aload_n dX3_startsLike_0 rfl ?_
  refine gfX3_past hb.1 flX3_12 dX3_startsLike_1 ?_
  refine go_aload_n dX3_startsLike_4 rfl ?_
  refine gfX4_order hq.1 flX3_49 dX3_startsLike_5 ?_
  rw [hPa.1]
  refine go_aload_n dX3_startsLike_8 rfl ?_
  refine gfX4_limit hq.1 flX3_52 dX3_startsLike_9 ?_
  rw [hPa.2.1]
  refine go_aload_n dX3_startsLike_12 rfl ?_
  refine gfX4_room hq.1 flX3_55 dX3_startsLike_13 ?_
  rw [hPa.2.2.1]
  refine go_aload_n dX3_startsLike_16 rfl ?_
  refine gfX4_tail hq.1 flX3_58 dX3_startsLike_17 ?_
  rw [hPa.2.2.2]
  refine go_cV4V hb.2.1.1 vlX3_61 dX3_startsLike_20 (by decide) rfl rfl (by decide) (Nat.le_of_ble_eq_true rfl) (past_setsOut hb.2.1 hz.2.2 ?_)
  have sE : ∀ i, i ≠ b + 1 → i ≠ b + 1 + 1 → setH h (b + 1) o l r t i = h i := fun i q1 q2 => setH_ne q1 q2
  refine go_aload_n dX3_startsLike_23 rfl ?_
  refine go_cV0V hb.1 vlX3_65 dX3_startsLike_24 (by decide) rfl rfl (by decide) (Nat.le_of_ble_eq_true rfl) (pk_startsAnew hb rfl (fun k hk => by rw [sE _ (by omega) (by omega)]; exact hz.1 k hk) (by rw [sE _ (by omega) (by omega)]; exact hz.2.1) ?_)
  intro h1 a4 a5 aC aR aF
  refine go_return dX3_startsLike_27 rfl ?_
  have e1 : h1 (b + 1) = setH h (b + 1) o l r t (b + 1) := aF _ (by omega) (by omega) (by omega) (by omega) (by omega)
  have e2 : h1 (b + 1 + 1) = setH h (b + 1) o l r t (b + 1 + 1) := aF _ (by omega) (by omega) (by omega) (by omega) (by omega)
  refine hQ h1 ⟨⟨?_, ?_, ?_, ?_⟩, ⟨?_, fun k hk => absurd hk (by simp)⟩, a4, aC, a5, aR⟩ (fun i q => ?_)
  · rw [e1]; unfold setH; rw [hset_ni (by omega), hset_nk (by decide), hset_nk (by decide), hset_nk (by decide), hset_eq]
  · rw [e1]; unfold setH; rw [hset_ni (by omega), hset_nk (by decide), hset_nk (by decide), hset_eq]
  · rw [e1]; unfold setH; rw [hset_ni (by omega), hset_nk (by decide), hset_eq]
  · rw [e1]; unfold setH; rw [hset_ni (by omega), hset_eq]
  · rw [e2]; unfold setH; rw [hset_eq]; rfl
  · rw [aF i (by omega) (by omega) (by omega) (by omega) (by omega), sE i (by omega) (by omega)]

abbrev RS : Type := (Int → Int) × Int × Rd
def rdd (o : Int) (sf : Int → Int) (T : List Int) (S : RS) : Int × Nat × Rd := dsc chR (rprt sf) S.1 (fun j => cxp (srF T) ((T.length : Int) - (j : Int)) j) (lng o T.length + 1) 0 S.2.2
/-- one sign read: the text, the counts, how often forgotten, the range -/
def rstT (o : Int) (sf : Int → Int) (T : List Int) (S : RS) : List Int := T ++ [((rdd o sf T S).2.1 : Int)]
def rstS (o l r t : Int) (sf : Int → Int) (T : List Int) (S : RS) : RS := (lst (srF (rstT o sf T S)) S.1 o l r t T.length ((rdd o sf T S).2.1 : Int) (rdd o sf T S).1, S.2.1 + lfg (srF (rstT o sf T S)) S.1 o l r T.length ((rdd o sf T S).2.1 : Int) (rdd o sf T S).1, (rdd o sf T S).2.2)
def RInv (l : Int) (T : List Int) (S : RS) : Prop := TxOk T ∧ CsOk S.1 l ∧ 0 ≤ S.2.1 ∧ S.2.1 ≤ T.length ∧ CdN S.2.2.1 S.2.2.2.1 ∧ RdV (100 * T.length) S.2.2
theorem srF_app {T : List Int} {k v : Int} (h1 : k < T.length) : srF (T ++ [v]) k = srF T k := by
  unfold srF
  by_cases h0 : 0 ≤ k
  · rw [if_pos ⟨h0, by rw [List.length_append]; simp; omega⟩, if_pos ⟨h0, h1⟩, List.getD_eq_getElem?_getD, List.getD_eq_getElem?_getD, List.getElem?_append_left (by omega)]
  · rw [if_neg (by omega), if_neg (by omega)]
theorem txOk_app {T : List Int} {v : Int} (h : TxOk T) (hl : T.length < 60) (h0 : 0 ≤ v) (h3 : v ≤ 3) : TxOk (T ++ [v]) := by
  refine ⟨by rw [List.length_append]; simp; omega, fun k hk => ?_⟩
  rw [List.length_append, List.length_singleton] at hk
  by_cases e : k < T.length
  · rw [List.getD_eq_getElem?_getD, List.getElem?_append_left e, ← List.getD_eq_getElem?_getD]; exact h.2 k e
  · have : k = T.length := by omega
    subst this
    simp; omega
theorem rdd_ok {o l r t : Int} {sf : Int → Int} {T : List Int} {S : RS} (hsf : ∀ k, sf k = 0 ∨ sf k = 1) (hPr : PrOk o l r t) (h : RInv l T S) (hl : T.length < 60) : dOk chR (rprt sf) (PR (100 * (T.length + 1))) S.1 (fun j => cxp (srF T) ((T.length : Int) - (j : Int)) j) (lng o T.length + 1) 0 S.2.2 ∧ (rdd o sf T S).2.1 ≤ 3 ∧ CdN (rdd o sf T S).2.2.1 (rdd o sf T S).2.2.2.1 ∧ RdV (100 * (T.length + 1)) (rdd o sf T S).2.2 ∧ -1 ≤ (rdd o sf T S).1 ∧ (rdd o sf T S).1 ≤ lng o T.length := by
  obtain ⟨i0, i1, i2, i3, i4, i5⟩ := h
  obtain ⟨w1, w2, w3, w4, w5, w6, w7, w8⟩ := hPr
  have h2 := lng_le (o := o) (n := T.length) w1 (by omega)
  obtain ⟨a1, a2, a3, a4, a5, a6, a7⟩ := dscR_ok (cs := S.1) (ctx := fun j => cxp (srF T) ((T.length : Int) - (j : Int)) j) hsf (fun k => by have := i1.1 k; omega) (K9 := 100 * (T.length + 1)) (by omega) (lng o T.length + 1) 0 (100 * T.length) S.2.2 (fun j hj => (cxp_bd (by omega) (fun k q1 q2 => srF_bd i0 (by omega) (by omega))).1) (by decide) (by decide) i4 i5 (by omega)
  exact ⟨a1, a2, a3, a4, a6, by unfold rdd; omega⟩
theorem rst_inv {o l r t : Int} {sf : Int → Int} {T : List Int} {S : RS} (hsf : ∀ k, sf k = 0 ∨ sf k = 1) (hPr : PrOk o l r t) (h : RInv l T S) (hl : T.length < 60) : RInv l (rstT o sf T S) (rstS o l r t sf T S) := by
  obtain ⟨a1, a2, a3, a4, a5, a6⟩ := rdd_ok hsf hPr h hl
  obtain ⟨i0, i1, i2, i3, i4, i5⟩ := h
  obtain ⟨w1, w2, w3, w4, w5, w6, w7, w8⟩ := hPr
  have hT' : TxOk (rstT o sf T S) := txOk_app i0 hl (by omega) (by omega)
  have hlen : (rstT o sf T S).length = T.length + 1 := by unfold rstT; simp
  have hf := lfg_bd (sg := srF (rstT o sf T S)) (cs := S.1) (o := o) (l := l) (r := r) (n := T.length) (s := ((rdd o sf T S).2.1 : Int)) (f := (rdd o sf T S).1)
  have c1 : CsOk (lst (srF (rstT o sf T S)) S.1 o l r t T.length ((rdd o sf T S).2.1 : Int) (rdd o sf T S).1) l := csOk_lst i1 w3 w1 w2 (by omega) w7 (by omega) (by omega) (fun k q1 q2 => srF_bd hT' q1 (by rw [hlen]; omega))
  unfold RInv
  rw [hlen]
  unfold rstS
  dsimp only
  exact ⟨hT', c1, by omega, by omega, a3, by rw [show (100 : Int) * ((T.length + 1 : Nat) : Int) = 100 * (T.length + 1) by omega]; exact a4⟩
/-- a packer that reads: parameters, the text so far, the bits, the state -/
def RdS (h : mH) (b : Nat) (o l r t : Int) (bs T : List Int) (S : RS) : Prop := PaS h (b + 1) o l r t ∧ RowL h (b + 1 + 1) T ∧ h b 4 = (T.length : Int) ∧ CtxS h (b + 4) S.1 ∧ h b 5 = S.2.1 ∧ RgR h (b + 6) bs S.2.2

set_option maxHeartbeats 4000000 in
set_option maxRecDepth 100000 in
theorem pk_readsNext {x : mX} {h : mH} {Q : Int → mH → Prop} {b : Nat} {o l r t : Int} {bs T : List Int} {S : RS} (hb : isPk b) (hPr : PrOk o l r t) (hN722 : bs.length ≤ 722) (hsf : ∀ k, srF bs k = 0 ∨ srF bs k = 1) (iv : RInv l T S) (hl : T.length < 60) (H : RdS h b o l r t bs T S) (hQ : ∀ h', RdS h' b o l r t bs (rstT o (srF bs) T S) (rstS o l r t (srF bs) T S) → FrP b h h' → Q ((rdd o (srF bs) T S).2.1 : Int) h') : CtI x mtX3_readsNext [xR b] h Q := by
  obtain ⟨ok1, ok2, ok3, ok4, ok5, ok6⟩ := rdd_ok hsf hPr iv hl
  have hT := iv.1
  obtain ⟨hPa, hR, e4, hC, e5, hG⟩ := H
  have hPT : PkT h b o T.length (h (b + 1 + 2)) S.1 := pkT_of hPr hT (Nat.le_refl _) hPa hR e4 hC iv.2.1
  have hctx : ∀ j : Nat, j < lng o T.length + 1 → cxp (h (b + 1 + 2)) ((T.length : Int) - (j : Int)) j = cxp (srF T) ((T.length : Int) - (j : Int)) j := ctx_congr hPr.1 (by omega) (fun k q1 q2 => rowL_sg hR k q1 (by omega))
  have hT3 : TxOk (rstT o (srF bs) T S) := txOk_app hT hl (by omega) (by omega)
  have hlen : (rstT o (srF bs) T S).length = T.length + 1 := by unfold rstT; simp
  refine ct_go (ls := [xR b, xU, xU]) (by decide +kernel) (Nat.le_of_ble_eq_true rfl) rfl ?_
  refine go_aload_n dX3_readsNext_0 rfl ?_
  refine go_aload_n dX3_readsNext_1 rfl ?_
  refine gfX3_range hb.1 flX3_28 dX3_readsNext_2 ?_
  refine go_cV1I hb.1 vlX3_89 dX3_readsNext_5 (by decide) rfl rfl (by decide) (Nat.le_of_ble_eq_true rfl) (pk_descends (TS := fun h c => RgR h (b + 6) bs c) (T := fun i => i = b + 6 ∨ i = b + 6 + 1 ∨ i = b + 6 + 2) (ch := chR) (tk := rprt (srF bs)) (P := PR (100 * (T.length + 1))) (o := o) (n := (T.length : Int)) (sg := h (b + 1 + 2)) (cs := S.1) (c := S.2.2) hb hb.2.2.2.1.1 (by decide) rfl rfl rfl ulX3_120_X5 ulX3_132_X5 (by decide) (by decide) (fun i q => by omega) (fun h h2 c q Z => ?_) (fun c w => chAt_le _ _) (fun h2 c w sh Q2 Z St Wo Pw q => ?_) (fun h2 c w Q2 Z Wo Pw q => ?_) hPT hG ?_ ?_)
  · obtain ⟨z1, z2, z3, z4, z6, z7, z5⟩ := Z
    have e0 := q (b + 6) (Or.inl rfl)
    exact ⟨by rw [e0]; exact z1, by rw [e0]; exact z2, by rw [e0]; exact z3, by rw [e0]; exact z4, by rw [e0]; exact z6, by rw [e0]; exact z7, z5.congr (q _ (Or.inr (Or.inl rfl))) (q _ (Or.inr (Or.inr rfl)))⟩
  · obtain ⟨p1, p2, p3, p4, p5, p6, p7, p8, p9, p10⟩ := Pw
    refine rg_chooses_r (bs := bs) (c := c) (K := 100 * (T.length + 1)) hb.2.2.2.1 hb.2.2.2.2 Z p1 p2 (by rw [St.2.1]; exact p7) (by rw [St.2.1]; omega) (fun s hs => by rw [St.1 s hs]; exact Wo s hs) ?_
    rw [St.2.1]
    have e9 : chAt (fun s => h2 (b + 9 + 1) (s : Int)) (((c.2.2.2.1 - c.1 + 1) * tot w 5 - 1) / (c.2.1 - c.1 + 1)) = chR c w := by
      have et : ∀ k, k ≤ 5 → tot (fun s => h2 (b + 9 + 1) (s : Int)) k = tot w k := fun k hk => tot_congr (fun s hs => St.1 s (by omega))
      unfold chR chAt
      rw [et 1 (by decide), et 2 (by decide), et 3 (by decide), et 4 (by decide)]
    rw [e9]; exact q
  · obtain ⟨p1, p2, p3, p4, p5, p6, p7, p8, p9, p10⟩ := Pw
    refine rg_takes_r (K := 100 * (T.length + 1)) hb.2.2.2.1 Z hN722 hsf p1 p2 p3 p5 p4 p6 (by omega) p9 p10 (fun h3 R3 F3 => q h3 R3 (fun i qi => F3.1 i (fun w => qi (Or.inl w)) (fun w => qi (Or.inr (Or.inl w))) (fun w => qi (Or.inr (Or.inr w)))))
  · rw [dOk_congr _ _ _ hctx]; exact ok1
  intro h2 TT2 F2 E6
  rw [dsc_congr _ _ _ hctx] at TT2 E6 ⊢
  change RgR h2 (b + 6) bs (rdd o (srF bs) T S).2.2 at TT2
  change h2 b 6 = ((rdd o (srF bs) T S).2.1 : Int) at E6
  change Go x mtX3_readsNext _ _ [xI (rdd o (srF bs) T S).1] h2 (qI Q)
  have nF : ∀ i, i ≠ b → i ≠ b + 6 → i ≠ b + 6 + 1 → i ≠ b + 6 + 2 → i ≠ b + 9 → i ≠ b + 9 + 1 → h2 i = h i := fun i q1 q2 q3 q4 q5 q6 => F2.1 i (by omega) q1 q5 q6
  refine go_istore_n 1 dX3_readsNext_8 rfl (Nat.le_of_ble_eq_true rfl) rfl (by dsimp only [List.set]) ?_
  refine go_aload_n dX3_readsNext_9 rfl ?_
  refine gfX3_chosen hb.1 flX3_46 dX3_readsNext_10 ?_
  rw [E6]
  refine go_istore_n 2 dX3_readsNext_13 rfl (Nat.le_of_ble_eq_true rfl) rfl (by dsimp only [List.set]) ?_
  refine go_aload_n dX3_readsNext_14 rfl ?_
  refine gfX3_past hb.1 flX3_12 dX3_readsNext_15 ?_
  refine gfX4_signs hb.2.1.1 flX3_68 dX3_readsNext_18 ?_
  refine go_iload_n dX3_readsNext_21 rfl ?_
  refine go_cV1V hb.2.1.2.1 vlX3_97 dX3_readsNext_22 (by decide) rfl rfl (by decide) (Nat.le_of_ble_eq_true rfl) (row_putsL (N := 60) (bs := T) hb.2.1.2 (hR.congr (nF _ (by omega) (by omega) (by omega) (by omega) (by omega) (by omega)) (nF _ (by omega) (by omega) (by omega) (by omega) (by omega) (by omega))) hl ?_)
  intro h3 R3 F3
  change RowL h3 (b + 1 + 1) (rstT o (srF bs) T S) at R3
  have hsg3 : ∀ k : Int, 0 ≤ k → k < T.length + 1 → h3 (b + 1 + 2) k = srF (rstT o (srF bs) T S) k := fun k q1 q2 => rowL_sg R3 k q1 (by rw [hlen]; omega)
  refine go_aload_n dX3_readsNext_25 rfl ?_
  refine go_iload_n dX3_readsNext_26 rfl ?_
  refine go_iload_n dX3_readsNext_27 rfl ?_
  refine go_cV2V hb.1 vlX3_93 dX3_readsNext_28 (by decide) rfl rfl (by decide) (Nat.le_of_ble_eq_true rfl) (pk_learns (o := o) (l := l) (r := r) (t := t) (n := (T.length : Int)) (s := ((rdd o (srF bs) T S).2.1 : Int)) (f := (rdd o (srF bs) T S).1) (sg := h3 (b + 1 + 2)) (cs := S.1) hb hPr ⟨?_, ?_, ?_, ?_⟩ ?_ rfl ⟨?_, ?_⟩ iv.2.1 ?_ ?_ (by omega) ?_ ?_ ?_ (by omega) (by omega) ok6 ?_)
  · rw [F3 (b + 1) (by omega) (by omega), nF (b + 1) (by omega) (by omega) (by omega) (by omega) (by omega) (by omega)]; exact hPa.1
  · rw [F3 (b + 1) (by omega) (by omega), nF (b + 1) (by omega) (by omega) (by omega) (by omega) (by omega) (by omega)]; exact hPa.2.1
  · rw [F3 (b + 1) (by omega) (by omega), nF (b + 1) (by omega) (by omega) (by omega) (by omega) (by omega) (by omega)]; exact hPa.2.2.1
  · rw [F3 (b + 1) (by omega) (by omega), nF (b + 1) (by omega) (by omega) (by omega) (by omega) (by omega) (by omega)]; exact hPa.2.2.2
  · rw [F3 b (by omega) (by omega), F2.2 4 (by decide)]; exact e4
  · rw [F3 (b + 4 + 1) (by omega) (by omega), nF (b + 4 + 1) (by omega) (by omega) (by omega) (by omega) (by omega) (by omega)]; exact hC.1
  · rw [F3 (b + 4) (by omega) (by omega), nF (b + 4) (by omega) (by omega) (by omega) (by omega) (by omega) (by omega)]; exact hC.2
  · rw [F3 b (by omega) (by omega), F2.2 5 (by decide), e5]; exact iv.2.2.1
  · rw [F3 b (by omega) (by omega), F2.2 5 (by decide), e5]; have := iv.2.2.2.1; omega
  · rw [R3.1, hlen]; omega
  · rw [R3.1, hlen]; omega
  · intro k q1 q2
    rw [hsg3 k q1 (by omega)]
    exact srF_bd hT3 q1 (by rw [hlen]; omega)
  intro h4 C4 F4 E4 E5 EB
  rw [lst_congr (sg' := srF (rstT o (srF bs) T S)) hPr.1 hPr.2.2.2.2.2.2.1 (by omega) (fun k q1 q2 => hsg3 k q1 (by omega))] at C4
  rw [lfg_congr (sg' := srF (rstT o (srF bs) T S)) hPr.1 (by omega) (fun k q1 q2 => hsg3 k q1 (by omega))] at E5
  refine go_iload_n dX3_readsNext_31 rfl ?_
  refine go_ireturn dX3_readsNext_32 rfl ?_
  refine hQ h4 ⟨?_, ?_, ?_, ⟨?_, ?_⟩, ?_, ?_⟩ (fun i q => ?_)
  · unfold PaS; rw [F4 (b + 1) (by omega) (by omega) (by omega)]; rw [F3 (b + 1) (by omega) (by omega), nF (b + 1) (by omega) (by omega) (by omega) (by omega) (by omega) (by omega)]; exact hPa
  · exact R3.congr (F4 _ (by omega) (by omega) (by omega)) (F4 _ (by omega) (by omega) (by omega))
  · rw [E4, hlen]; omega
  · exact C4.1
  · exact C4.2
  · rw [E5, F3 b (by omega) (by omega), F2.2 5 (by decide), e5]; rfl
  · have e6 : h4 (b + 6) = h2 (b + 6) := (F4 _ (by omega) (by omega) (by omega)).trans (F3 _ (by omega) (by omega))
    refine ⟨by rw [e6]; exact TT2.1, by rw [e6]; exact TT2.2.1, by rw [e6]; exact TT2.2.2.1, by rw [e6]; exact TT2.2.2.2.1, by rw [e6]; exact TT2.2.2.2.2.1, by rw [e6]; exact TT2.2.2.2.2.2.1, TT2.2.2.2.2.2.2.congr ((F4 _ (by omega) (by omega) (by omega)).trans (F3 _ (by omega) (by omega))) ((F4 _ (by omega) (by omega) (by omega)).trans (F3 _ (by omega) (by omega)))⟩
  · rw [F4 i (by omega) (by omega) (by omega), F3 i (by omega) (by omega), nF i (by omega) (by omega) (by omega) (by omega) (by omega) (by omega)]
