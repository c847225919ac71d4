/-! ===== Packer: packsNext, repacks, readsNext, weighs ===== -/
/-- the packer b has these parameters, the text T, and n of its signs packed -/
def PkS (h : mH) (b : Nat) (o l r t : Int) (T : List Int) (n : Nat) : Prop := PaS h (b + 1) o l r t ∧ RowL h (b + 1 + 1) T ∧ h b 4 = (n : Int) ∧ CtxS h (b + 4) (pck o l r t T n).1 ∧ h b 5 = (pck o l r t T n).2.1 ∧ RgW h (b + 6) (pck o l r t T n).2.2
/-- all but a packer's own cells is as it was -/
def FrP (b : Nat) (h h' : mH) : Prop := ∀ i, i < b ∨ b + 11 ≤ i → h' i = h i
theorem FrP.tr {b : Nat} {h h1 h2 : mH} (a : FrP b h h1) (c : FrP b h1 h2) : FrP b h h2 := fun i q => (c i q).trans (a i q)
theorem rowL_sg {h : mH} {r : Nat} {T : List Int} (H : RowL h r T) : ∀ k : Int, 0 ≤ k → k < T.length → h (r + 1) k = srF T k := by
  intro k h0 h1
  have := H.2 k.toNat (by omega)
  rw [Int.toNat_of_nonneg h0] at this
  rw [this]; unfold srF; rw [if_pos ⟨h0, h1⟩]
theorem pkT_of {h : mH} {b : Nat} {o l r t : Int} {T : List Int} {n : Nat} {cs : Int → Int} (hPr : PrOk o l r t) (hT : TxOk T) (hn : n ≤ T.length) (hPa : PaS h (b + 1) o l r t) (hR : RowL h (b + 1 + 1) T) (e4 : h b 4 = (n : Int)) (hC : CtxS h (b + 4) cs) (hok : CsOk cs l) : PkT h b o n (h (b + 1 + 2)) cs := by
  have hl := hT.1
  refine ⟨hPa.1, e4, rfl, hC.1, hPr.1, hPr.2.1, by omega, by rw [hR.1]; omega, by rw [hR.1]; omega, fun k q1 q2 => ?_, csOk_bd hok hPr.2.2.2.1⟩
  have := rowL_sg hR k q1 (by omega)
  have e : h (b + 1 + 2) k = srF T k := this
  rw [e]; exact srF_bd hT q1 (by omega)
theorem chW_le (s : Nat) (hs : s < 4) (c : Cd) (w : Nat → Int) : chW s c w ≤ 4 := by unfold chW; split <;> omega

set_option maxHeartbeats 4000000 in
set_option maxRecDepth 100000 in
theorem pk_packsNext {x : mX} {h : mH} {Q : Int → mH → Prop} {b n : Nat} {o l r t : Int} {T : List Int} (hb : isPk b) (hPr : PrOk o l r t) (hT : TxOk T) (hn : n < T.length) (H : PkS h b o l r t T n) (hQ : ∀ h', PkS h' b o l r t T (n + 1) → FrP b h h' → Q (pdn o T n (pck o l r t T n)).1 h') : CtI x mtX3_packsNext [xR b] h Q := by
  have iv := pck_inv hPr hT n (by omega)
  obtain ⟨ok1, ok2, ok3, ok4, ok5, ok6⟩ := pdn_ok hPr hT hn iv
  obtain ⟨hPa, hR, e4, hC, e5, hG⟩ := H
  have eP : pck o l r t T (n + 1) = pstep o l r t T n (pck o l r t T n) := rfl
  have hs := hT.2 n hn
  have hl60 := hT.1
  generalize hSe : pck o l r t T n = S at *
  refine ct_go (ls := [xR b, xU, xU]) (by decide +kernel) (Nat.le_of_ble_eq_true rfl) rfl ?_
  refine go_aload_n dX3_packsNext_0 rfl ?_
  refine gfX3_past hb.1 flX3_12 dX3_packsNext_1 ?_
  refine gfX4_signs hb.2.1.1 flX3_68 dX3_packsNext_4 ?_
  refine go_aload_n dX3_packsNext_7 rfl ?_
  refine gfX3_packed hb.1 flX3_39 dX3_packsNext_8 ?_
  rw [e4]
  refine go_cV1I hb.2.1.2.1 vlX3_81 dX3_packsNext_11 (by decide) rfl rfl (by decide) (Nat.le_of_ble_eq_true rfl) (row_atL hb.2.1.2 (bs := T) hR (by omega) ?_)
  rw [srF_nat hn]
  refine go_istore_n 1 dX3_packsNext_14 rfl (Nat.le_of_ble_eq_true rfl) rfl (by dsimp only [List.set]) ?_
  refine go_aload_n dX3_packsNext_15 rfl ?_
  refine gfX3_range hb.1 flX3_28 dX3_packsNext_16 ?_
  refine go_iload_n dX3_packsNext_19 rfl ?_
  refine go_cV1V hb.2.2.2.1.1 vlX3_85 dX3_packsNext_20 (by decide) rfl rfl (by decide) (Nat.le_of_ble_eq_true rfl) (rg_wants hb.2.2.2.1 ?_)
  have nE : ∀ i, i ≠ b + 6 → hset h (b + 6) 4 (T.getD n 0) i = h i := fun i q => hset_ni q
  generalize hsT : T.getD n 0 = s at hs ok1 nE ⊢
  have hR1 : RgW (hset h (b + 6) 4 s) (b + 6) S.2.2 := ⟨by rw [hset_nk (by decide)]; exact hG.1, by rw [hset_nk (by decide)]; exact hG.2.1, by rw [hset_nk (by decide)]; exact hG.2.2.1, by rw [hset_nk (by decide)]; exact hG.2.2.2.1, hG.2.2.2.2.congr (nE _ (by omega)) (nE _ (by omega))⟩
  have hPT : PkT (hset h (b + 6) 4 s) b o n (hset h (b + 6) 4 s (b + 1 + 2)) S.1 := pkT_of (l := l) (r := r) (t := t) (T := T) hPr hT (by omega) (by unfold PaS; rw [nE _ (by omega)]; exact hPa) (hR.congr (nE _ (by omega)) (nE _ (by omega))) (by rw [nE _ (by omega)]; exact e4) ⟨by rw [nE _ (by omega)]; exact hC.1, by rw [nE _ (by omega)]; exact hC.2⟩ iv.1
  have hctx : ∀ j : Nat, j < lng o n + 1 → cxp (hset h (b + 6) 4 s (b + 1 + 2)) ((n : Int) - (j : Int)) j = cxp (srF T) ((n : Int) - (j : Int)) j := ctx_congr hPr.1 (by omega) (fun k q1 q2 => by rw [nE _ (by omega)]; exact rowL_sg hR k q1 (by omega))
  refine go_aload_n dX3_packsNext_23 rfl ?_
  refine go_aload_n dX3_packsNext_24 rfl ?_
  refine gfX3_range hb.1 flX3_28 dX3_packsNext_25 ?_
  refine go_cV1I hb.1 vlX3_89 dX3_packsNext_28 (by decide) rfl rfl (by decide) (Nat.le_of_ble_eq_true rfl) (pk_descends (TS := fun h c => RgW h (b + 6) c ∧ h (b + 6) 4 = s) (T := fun i => i = b + 6 ∨ i = b + 6 + 1 ∨ i = b + 6 + 2) (ch := chW s.toNat) (tk := prt) (P := PW s.toNat) (o := o) (n := (n : Int)) (sg := hset h (b + 6) 4 s (b + 1 + 2)) (cs := S.1) (c := S.2.2) hb hb.2.2.2.1.1 (by decide) rfl rfl rfl ulX3_120_X5 ulX3_132_X5 (by decide) (by decide) (fun i q => by omega) (fun h h2 c q Z => ?_) (chW_le s.toNat (by omega)) (fun h2 c w sh Q2 Z St Wo Pw q => ?_) (fun h2 c w Q2 Z Wo Pw q => ?_) hPT ⟨hR1, hset_eq _ _ _ _⟩ ?_ ?_)
  · obtain ⟨⟨z1, z2, z3, z4, z5⟩, z6⟩ := Z
    have e0 := q (b + 6) (Or.inl rfl)
    refine ⟨⟨by rw [e0]; exact z1, by rw [e0]; exact z2, by rw [e0]; exact z3, by rw [e0]; exact z4, z5.congr (q _ (Or.inr (Or.inl rfl))) (q _ (Or.inr (Or.inr rfl)))⟩, by rw [e0]; exact z6⟩
  · refine rg_chooses_w (s := s) hb.2.2.2.1 hb.2.2.2.2 Z.1.2.2.2.1 Z.2 (by omega) (by omega) ?_
    have e0 := St.1 s.toNat (by omega)
    rw [Int.toNat_of_nonneg (by omega)] at e0
    rw [e0]
    have e9 : (if 0 < w s.toNat then s else 4) = ((chW s.toNat c w : Nat) : Int) := by unfold chW; split <;> omega
    rw [e9]; exact q
  · obtain ⟨p1, p2, p3, p4, p5, p6⟩ := Pw
    refine rg_takes_w hb.2.2.2.1 Z.1 p1 p3 p2 p4 (by omega) p6 (fun h3 R3 F3 => q h3 ⟨R3, by rw [F3.2.1]; exact Z.2⟩ (fun i qi => F3.1 i (fun w => qi (Or.inl w)) (fun w => qi (Or.inr (Or.inl w))) (fun w => qi (Or.inr (Or.inr w)))))
  · rw [dOk_congr _ _ _ hctx]; exact ok1
  intro h2 TT2 F2 _
  rw [dsc_congr _ _ _ hctx] at TT2 ⊢
  replace TT2 := TT2.1
  have eqD : dsc (chW s.toNat) prt S.1 (fun j => cxp (srF T) ((n : Int) - (j : Int)) j) (lng o n + 1) 0 S.2.2 = pdn o T n S := by unfold pdn; rw [hsT]
  rw [eqD] at TT2 ⊢
  have nF : ∀ i, i ≠ b → i ≠ b + 6 → i ≠ b + 6 + 1 → i ≠ b + 6 + 2 → i ≠ b + 9 → i ≠ b + 9 + 1 → h2 i = hset h (b + 6) 4 s i := fun i q1 q2 q3 q4 q5 q6 => F2.1 i (by omega) q1 q5 q6
  have hsg2 : ∀ k : Int, 0 ≤ k → k < T.length → h2 (b + 1 + 2) k = srF T k := by intro k q1 q2; rw [nF (b + 1 + 2) (by omega) (by omega) (by omega) (by omega) (by omega) (by omega), nE _ (by omega)]; exact rowL_sg hR k q1 q2
  refine go_istore_n 2 dX3_packsNext_31 rfl (Nat.le_of_ble_eq_true rfl) rfl (by dsimp only [List.set]) ?_
  refine go_aload_n dX3_packsNext_32 rfl ?_
  refine go_iload_n dX3_packsNext_33 rfl ?_
  refine go_iload_n dX3_packsNext_34 rfl ?_
  refine go_cV2V hb.1 vlX3_93 dX3_packsNext_35 (by decide) rfl rfl (by decide) (Nat.le_of_ble_eq_true rfl) (pk_learns (o := o) (l := l) (r := r) (t := t) (n := (n : Int)) (s := s) (f := (pdn o T n S).1) (sg := h2 (b + 1 + 2)) (cs := S.1) hb hPr ⟨?_, ?_, ?_, ?_⟩ ?_ rfl ⟨?_, ?_⟩ iv.1 ?_ ?_ (by omega) ?_ ?_ ?_ hs.1 hs.2 ok6 ?_)
  · rw [nF (b + 1) (by omega) (by omega) (by omega) (by omega) (by omega) (by omega), nE (b + 1) (by omega)]; exact hPa.1
  · rw [nF (b + 1) (by omega) (by omega) (by omega) (by omega) (by omega) (by omega), nE (b + 1) (by omega)]; exact hPa.2.1
  · rw [nF (b + 1) (by omega) (by omega) (by omega) (by omega) (by omega) (by omega), nE (b + 1) (by omega)]; exact hPa.2.2.1
  · rw [nF (b + 1) (by omega) (by omega) (by omega) (by omega) (by omega) (by omega), nE (b + 1) (by omega)]; exact hPa.2.2.2
  · rw [F2.2 4 (by decide), nE b (by omega)]; exact e4
  · rw [nF (b + 4 + 1) (by omega) (by omega) (by omega) (by omega) (by omega) (by omega), nE _ (by omega)]; exact hC.1
  · rw [nF (b + 4) (by omega) (by omega) (by omega) (by omega) (by omega) (by omega), nE _ (by omega)]; exact hC.2
  · rw [F2.2 5 (by decide), nE b (by omega), e5]; exact iv.2.1
  · rw [F2.2 5 (by decide), nE b (by omega), e5]; have := iv.2.2.1; omega
  · rw [nF (b + 1 + 1) (by omega) (by omega) (by omega) (by omega) (by omega) (by omega), nE _ (by omega), hR.1]; omega
  · rw [nF (b + 1 + 1) (by omega) (by omega) (by omega) (by omega) (by omega) (by omega), nE _ (by omega), hR.1]; omega
  · intro k q1 q2
    rw [hsg2 k q1 (by omega)]
    exact srF_bd hT q1 (by omega)
  intro h3 C3 F3 E4 E5 EB
  rw [lst_congr (sg' := srF T) hPr.1 hPr.2.2.2.2.2.2.1 (by omega) (fun k q1 q2 => hsg2 k q1 (by omega))] at C3
  rw [lfg_congr (sg' := srF T) hPr.1 (by omega) (fun k q1 q2 => hsg2 k q1 (by omega))] at E5
  refine go_iload_n dX3_packsNext_38 rfl ?_
  refine go_ireturn dX3_packsNext_39 rfl ?_
  refine hQ h3 ⟨?_, ?_, ?_, ⟨?_, ?_⟩, ?_, ?_⟩ (fun i q => ?_)
  · unfold PaS; rw [F3 (b + 1) (by omega) (by omega) (by omega), nF (b + 1) (by omega) (by omega) (by omega) (by omega) (by omega) (by omega), nE _ (by omega)]; exact hPa
  · refine hR.congr ?_ ?_
    · rw [F3 (b + 1 + 1) (by omega) (by omega) (by omega), nF (b + 1 + 1) (by omega) (by omega) (by omega) (by omega) (by omega) (by omega), nE _ (by omega)]
    · rw [F3 (b + 1 + 1 + 1) (by omega) (by omega) (by omega), nF (b + 1 + 1 + 1) (by omega) (by omega) (by omega) (by omega) (by omega) (by omega), nE _ (by omega)]
  · rw [E4]; rfl
  · rw [C3.1, eP]; unfold pstep; rw [hsT]
  · rw [C3.2, eP]; unfold pstep; rw [hsT]
  · rw [E5, F2.2 5 (by decide), nE b (by omega), e5, eP]; unfold pstep; rw [hsT]
  · rw [eP]
    have e6 : h3 (b + 6) = h2 (b + 6) := F3 _ (by omega) (by omega) (by omega)
    refine ⟨by rw [e6]; exact TT2.1, by rw [e6]; exact TT2.2.1, by rw [e6]; exact TT2.2.2.1, by rw [e6]; exact TT2.2.2.2.1, TT2.2.2.2.2.congr (F3 _ (by omega) (by omega) (by omega)) (F3 _ (by omega) (by omega) (by omega))⟩
  · rw [F3 i (by omega) (by omega) (by omega), nF i (by omega) (by omega) (by omega) (by omega) (by omega) (by omega), nE i (by omega)]
