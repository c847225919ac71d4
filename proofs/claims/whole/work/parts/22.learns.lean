/-! ===== Packer: learns, startsAnew, descends from its entry ===== -/
def tas (t n : Int) : Int := if n - t < 0 then 0 else n - t
def mx0 (f : Int) : Nat := (if f < 0 then 0 else f).toNat
/-- the counts with a sign learnt that was found at f, ahead of what is forgotten -/
def lc1 (sg cs : Int → Int) (o l n s f : Int) : Int → Int := lrn (fun j => cxp sg (n - j) j) s l (mx0 f) (lng o n + 1 - mx0 f) cs
def lst (sg cs : Int → Int) (o l r t n s f : Int) : Int → Int := if r < thC (lc1 sg cs o l n s f) 85 then frg sg o l (tas t (n + 1)) (n + 1 - tas t (n + 1)).toNat (fun _ => 0) else lc1 sg cs o l n s f
def lfg (sg cs : Int → Int) (o l r n s f : Int) : Int := if r < thC (lc1 sg cs o l n s f) 85 then 1 else 0
theorem csOk_lc1 {sg cs : Int → Int} {o l n s f : Int} (h : CsOk cs l) (hl : 2 ≤ l) (ho : 0 ≤ o) (ho2 : o ≤ 3) (hn : 0 ≤ n) (hs : 0 ≤ s) (hs2 : s ≤ 3) (hsg : ∀ k : Int, 0 ≤ k → k < n → 0 ≤ sg k ∧ sg k ≤ 3) : CsOk (lc1 sg cs o l n s f) l := by
  have h2 := lng_le (o := o) (n := n) ho hn
  exact csOk_lrn h hl hs hs2 _ (fun j _ hj => cxp_bd (by omega) (fun k q1 q2 => hsg k (by omega) (by omega)))
theorem csOk_lst {sg cs : Int → Int} {o l r t n s f : Int} (h : CsOk cs l) (hl : 2 ≤ l) (ho : 0 ≤ o) (ho2 : o ≤ 3) (hn : 0 ≤ n) (ht : 0 ≤ t) (hs : 0 ≤ s) (hs2 : s ≤ 3) (hsg : ∀ k : Int, 0 ≤ k → k < n + 1 → 0 ≤ sg k ∧ sg k ≤ 3) : CsOk (lst sg cs o l r t n s f) l := by
  unfold lst
  split
  · refine csOk_frg (csOk_zero hl) hl ho ho2 _ (fun k q1 q2 => ?_)
    unfold tas at q1 q2
    split at q1 <;> exact hsg k (by omega) (by split at q2 <;> omega)
  · exact csOk_lc1 h hl ho ho2 hn hs hs2 (fun k q1 q2 => hsg k q1 (by omega))

set_option maxHeartbeats 4000000 in
set_option maxRecDepth 100000 in
theorem pk_learns {x : mX} {h : mH} {Q : mH → Prop} {b : Nat} {o l r t n s f : Int} {sg cs : Int → Int} (hb : isPk b) (hPr : PrOk o l r t) (hPa : PaS h (b + 1) o l r t) (e4 : h b 4 = n) (esg : h (b + 1 + 2) = sg) (C : CtxS h (b + 4) cs) (ok : CsOk cs l) (h50 : 0 ≤ h b 5) (h51 : h b 5 ≤ 1000) (hn0 : 0 ≤ n) (hns : n + 1 ≤ h (b + 1 + 1) 1) (hs60 : h (b + 1 + 1) 1 ≤ 60) (hsg : ∀ k : Int, 0 ≤ k → k < n + 1 → 0 ≤ sg k ∧ sg k ≤ 3) (hs : 0 ≤ s) (hs2 : s ≤ 3) (hf : f ≤ lng o n) (hQ : ∀ h', CtxS h' (b + 4) (lst sg cs o l r t n s f) → (∀ i, i ≠ b → i ≠ b + 4 → i ≠ b + 4 + 1 → h' i = h i) → h' b 4 = n + 1 → h' b 5 = h b 5 + lfg sg cs o l r n s f → (∀ z, z ≠ 4 → z ≠ 5 → h' b z = h b z) → Q h') : CtV x mtX3_learns [xR b, xI s, xI f] h Q := by
  obtain ⟨e0, e1, e2, e3⟩ := hPa
  have hpp := hPr
  obtain ⟨w1, w2, w3, w4, w5, w6, w7, w8⟩ := hpp
  refine ct_go (ls := [xR b, xI s, xI f, xU, xU]) (by decide +kernel) (Nat.le_of_ble_eq_true rfl) rfl ?_
  refine go_aload_n dX3_learns_0 rfl ?_
  refine go_cV0I hb.1 vlX3_106 dX3_learns_1 (by decide) rfl rfl (by decide) (Nat.le_of_ble_eq_true rfl) (pk_longest hb e0 e4 ?_)
  refine go_istore_n 3 dX3_learns_4 rfl (Nat.le_of_ble_eq_true rfl) rfl (by dsimp only [List.set]) ?_
  refine go_iload_n dX3_learns_5 rfl ?_
  refine go_iconst dX3_learns_6 ⟨by decide, by decide⟩ ?_
  refine go_max mmX3_150 dX3_learns_7 (by decide) (Nat.le_of_ble_eq_true rfl) ?_
  refine go_istore dX3_learns_10 (Nat.le_of_ble_eq_true rfl) rfl (by dsimp only [List.set]) ?_
  have hL : (if n < o then n else o) = (lng o n : Int) := by unfold lng; split <;> omega
  rw [hL]
  have hM : (if f < 0 then 0 else f) = (mx0 f : Int) := by unfold mx0; split <;> omega
  rw [hM]
  have hmx : mx0 f ≤ lng o n := by have := hM; split at this <;> omega
  have hlg := lng_le (o := o) (n := n) hPr.1 hn0
  have hta : 0 ≤ tas t (n + 1) ∧ tas t (n + 1) ≤ n + 1 := by unfold tas; split <;> omega
  have okL := csOk_lc1 (f := f) ok hPr.2.2.1 hPr.1 hPr.2.1 hn0 hs hs2 (fun k q1 q2 => hsg k q1 (by omega))
  generalize hlo : mx0 f = lo at hmx
  have eLc : lrn (fun j => cxp sg (n - j) j) s l lo (lng o n + 1 - lo) cs = lc1 sg cs o l n s f := by unfold lc1; rw [hlo]
  have key : ∀ hh : mH, CtxS hh (b + 4) (lrn (fun j => cxp sg (n - j) j) s l lo 0 cs) → (∀ i, i ≠ b + 4 → i ≠ b + 4 + 1 → hh i = h i) → Go x mtX3_learns 12 [xR b, xI s, xI f, xI (lng o n : Int), xI ((lo + 0 : Nat) : Int)] [] hh (qV Q) := by
    refine up_indN (P := fun m => ∀ hh : mH, CtxS hh (b + 4) (lrn (fun j => cxp sg (n - j) j) s l lo m cs) → (∀ i, i ≠ b + 4 → i ≠ b + 4 + 1 → hh i = h i) → Go x mtX3_learns 12 [xR b, xI s, xI f, xI (lng o n : Int), xI ((lo + m : Nat) : Int)] [] hh (qV Q)) (lng o n + 1 - lo) (fun m hm ih hh CC FF => ?_)
    have E4 : hh b 4 = n := (congrFun (FF b (by omega) (by omega)) 4).trans e4
    by_cases hlt : m < lng o n + 1 - lo
    · replace ih := ih hlt
      have okm := csOk_lrn (ctx := fun j => cxp sg (n - j) j) (s := s) (l := l) (lo := lo) ok hPr.2.2.1 hs hs2 m (fun j _ hj => cxp_bd (by omega) (fun k q1 q2 => hsg k (by omega) (by omega)))
      have hcx := cxp_bd (sg := sg) (a := n - ((lo + m : Nat) : Int)) (n := lo + m) (by omega) (fun k q1 q2 => hsg k (by omega) (by omega))
      rw [show lrn (fun j => cxp sg (n - j) j) s l lo (m + 1) cs = rai (lrn (fun j => cxp sg (n - j) j) s l lo m cs) (cxp sg (n - ((lo + m : Nat) : Int)) (lo + m)) s l from rfl] at ih
      refine go_iload dX3_learns_12 rfl ?_
      refine go_iload_n dX3_learns_14 rfl ?_
      refine go_icmp_gt_f (tgt := 52) dX3_learns_15 (by decide) (by omega) ?_
      refine go_aload_n dX3_learns_18 rfl ?_
      refine gfX3_contexts hb.1 flX3_21 dX3_learns_19 ?_
      refine go_aload_n dX3_learns_22 rfl ?_
      refine gfX3_past hb.1 flX3_12 dX3_learns_23 ?_
      refine go_aload_n dX3_learns_26 rfl ?_
      refine gfX3_packed hb.1 flX3_39 dX3_learns_27 ?_
      rw [E4]
      refine go_iload dX3_learns_30 rfl ?_
      refine go_cV2I hb.2.1.1 vlX3_109 dX3_learns_32 (by decide) rfl rfl (by decide) (Nat.le_of_ble_eq_true rfl) (past_ctx (a := n - ((lo + m : Nat) : Int)) (n := lo + m) hb.2.1 (by omega) (by omega) (by omega) (by rw [FF (b + 1 + 1) (by omega) (by omega)]; omega) (by rw [FF (b + 1 + 1) (by omega) (by omega)]; omega) (fun k q1 q2 => by rw [FF (b + 1 + 2) (by omega) (by omega), esg]; exact hsg k (by omega) (by omega)) ?_)
      rw [FF (b + 1 + 2) (by omega) (by omega), esg]
      refine go_iload_n dX3_learns_35 rfl ?_
      refine go_aload_n dX3_learns_36 rfl ?_
      refine gfX3_past hb.1 flX3_12 dX3_learns_37 ?_
      refine gfX4_limit hb.2.1.1 flX3_52 dX3_learns_40 ?_
      rw [show hh (b + 1) 1 = l from (congrFun (FF (b + 1) (by omega) (by omega)) 1).trans e1]
      refine go_cV3V hb.2.2.1.1 vlX3_153 dX3_learns_43 (by decide) rfl rfl (by decide) (Nat.le_of_ble_eq_true rfl) (ctx_raisesP hb.2.2.1 CC okm hPr.2.2.1 hPr.2.2.2.1 hcx.1 hcx.2 hs hs2 ?_)
      intro h3 C3 F3
      refine go_iinc dX3_learns_46 rfl rfl rfl (by omega) (by omega) (by dsimp only [List.set]) ?_
      refine go_goto (tgt := 12) dX3_learns_49 (by decide) ?_
      exact ih h3 C3 (fun i q2 q3 => (F3 i q2 q3).trans (FF i q2 q3))
    · have hme : m = lng o n + 1 - lo := by omega
      subst hme
      rw [eLc] at CC
      refine go_iload dX3_learns_12 rfl ?_
      refine go_iload_n dX3_learns_14 rfl ?_
      refine go_icmp_gt_t (tgt := 52) dX3_learns_15 (by decide) (by omega) ?_
      refine go_aload_n dX3_learns_52 rfl ?_
      first | refine go_dupR dX3_learns_53 ?_ | refine go_dupI dX3_learns_53 ?_
      refine gfX3_packed hb.1 flX3_39 dX3_learns_54 ?_
      rw [E4]
      refine go_iconst dX3_learns_57 ⟨by decide, by decide⟩ ?_
      refine go_iadd dX3_learns_58 (by omega) (by omega) ?_
      refine pfX3_packed hb.1 flX3_39 dX3_learns_59 ?_
      refine go_aload_n dX3_learns_62 rfl ?_
      refine gfX3_contexts hb.1 flX3_21 dX3_learns_63 ?_
      refine gfX0_there hb.2.2.1.1 flX3_156 dX3_learns_66 ?_
      rw [hset_ni (show b + 4 ≠ b by omega), CC.2]
      refine go_aload_n dX3_learns_69 rfl ?_
      refine gfX3_past hb.1 flX3_12 dX3_learns_70 ?_
      refine gfX4_room hb.2.1.1 flX3_55 dX3_learns_73 ?_
      rw [hset_ni (show b + 1 ≠ b by omega), show hh (b + 1) 2 = r from (congrFun (FF (b + 1) (by omega) (by omega)) 2).trans e2]
      refine go_icmp_le (tgt := 83) dX3_learns_76 (by decide) (fun c76 => ?_) (fun c76 => ?_)
      · refine go_return dX3_learns_83 rfl ?_
        first
          | (have hle := c76
             have eL : lst sg cs o l r t n s f = lc1 sg cs o l n s f := by unfold lst; rw [if_neg (by omega)]
             have eF : lfg sg cs o l r n s f = 0 := by unfold lfg; rw [if_neg (by omega)]
             rw [eL, eF] at hQ
             refine hQ _ ⟨by rw [hset_ni (by omega)]; exact CC.1, by rw [hset_ni (by omega)]; exact CC.2⟩ (fun i q1 q2 q3 => by rw [hset_ni q1, FF i q2 q3]) (hset_eq _ _ _ _) (by rw [hset_nk (by decide), FF b (by omega) (by omega), Int.add_zero]) (fun z z1 z2 => by rw [hset_nk z1, FF b (by omega) (by omega)])
             done)
          | (have hgt := c76
             have eL : lst sg cs o l r t n s f = frg sg o l (tas t (n + 1)) (n + 1 - tas t (n + 1)).toNat (fun _ => 0) := by unfold lst; rw [if_pos (by omega)]
             have eF : lfg sg cs o l r n s f = 1 := by unfold lfg; rw [if_pos (by omega)]
             rw [eL, eF] at hQ
             refine hQ _ C9 (fun i q1 q2 q3 => by rw [F9 i q1 q2 q3, hset_ni q1, FF i q2 q3]) (by rw [B9 4 (by decide), hset_eq]) (by rw [G9, hset_nk (by decide), FF b (by omega) (by omega)]) (fun z z1 z2 => by rw [B9 z z2, hset_nk z1, FF b (by omega) (by omega)])
             done)
      · refine go_aload_n dX3_learns_79 rfl ?_
        refine go_cV0V hb.1 vlX3_159 dX3_learns_80 (by decide) rfl rfl (by decide) (Nat.le_of_ble_eq_true rfl) (pk_forgets (n := n + 1) (a := tas t (n + 1)) (M := (n + 1 - tas t (n + 1)).toNat) (sg := sg) hb hPr ⟨?_, ?_, ?_, ?_⟩ (hset_eq _ _ _ _) (by rw [hset_ni (by omega), FF (b + 1 + 2) (by omega) (by omega)]; exact esg) (by rw [hset_ni (by omega)]; exact CC.1) okL.2 (by rw [hset_nk (by decide), FF b (by omega) (by omega)]; exact h50) (by rw [hset_nk (by decide), FF b (by omega) (by omega)]; exact h51) (by omega) (by rw [hset_ni (by omega), FF (b + 1 + 1) (by omega) (by omega)]; omega) (by rw [hset_ni (by omega), FF (b + 1 + 1) (by omega) (by omega)]; omega) hsg rfl (by have := hta; omega) ?_)
        · rw [hset_ni (by omega), FF (b + 1) (by omega) (by omega)]; exact e0
        · rw [hset_ni (by omega), FF (b + 1) (by omega) (by omega)]; exact e1
        · rw [hset_ni (by omega), FF (b + 1) (by omega) (by omega)]; exact e2
        · rw [hset_ni (by omega), FF (b + 1) (by omega) (by omega)]; exact e3
        intro h9 C9 F9 B9 G9
        refine go_return dX3_learns_83 rfl ?_
        first
          | (have hle := c76
             have eL : lst sg cs o l r t n s f = lc1 sg cs o l n s f := by unfold lst; rw [if_neg (by omega)]
             have eF : lfg sg cs o l r n s f = 0 := by unfold lfg; rw [if_neg (by omega)]
             rw [eL, eF] at hQ
             refine hQ _ ⟨by rw [hset_ni (by omega)]; exact CC.1, by rw [hset_ni (by omega)]; exact CC.2⟩ (fun i q1 q2 q3 => by rw [hset_ni q1, FF i q2 q3]) (hset_eq _ _ _ _) (by rw [hset_nk (by decide), FF b (by omega) (by omega), Int.add_zero]) (fun z z1 z2 => by rw [hset_nk z1, FF b (by omega) (by omega)])
             done)
          | (have hgt := c76
             have eL : lst sg cs o l r t n s f = frg sg o l (tas t (n + 1)) (n + 1 - tas t (n + 1)).toNat (fun _ => 0) := by unfold lst; rw [if_pos (by omega)]
             have eF : lfg sg cs o l r n s f = 1 := by unfold lfg; rw [if_pos (by omega)]
             rw [eL, eF] at hQ
             refine hQ _ C9 (fun i q1 q2 q3 => by rw [F9 i q1 q2 q3, hset_ni q1, FF i q2 q3]) (by rw [B9 4 (by decide), hset_eq]) (by rw [G9, hset_nk (by decide), FF b (by omega) (by omega)]) (fun z z1 z2 => by rw [B9 z z2, hset_nk z1, FF b (by omega) (by omega)])
             done)
  exact key h C (fun _ _ _ => rfl)

set_option maxHeartbeats 4000000 in
set_option maxRecDepth 100000 in
theorem pk_descends {x : mX} {h : mH} {σ : Type} {TS : mH → σ → Prop} {T : Nat → Prop} {ch : σ → (Nat → Int) → Nat} {tk : σ → Int → Int → Int → σ} {P : σ → (Nat → Int) → Prop} {Q : Int → mH → Prop} {b k ck : Nat} {N1 N2 : mM} {y1 y2 : MethodName} {q : vw_C} {o n : Int} {sg cs : Int → Int} {c : σ}
    (hb : isPk b) (hk : kd k = ck) (hck : ck < 10) (hcl : vwCl[ck]? = some q) (hq1 : q.1 = N1.1.cls) (hq2 : q.1 = N2.1.cls) (hl1 : mUl RX3 120 y1 N1 1) (hl2 : mUl RX3 132 y2 N2 3) (hh1 : N1.2.2.2.2 < 3) (hh2 : N2.2.2.2.2 < 3)
    (hT : ∀ i, T i → i < b ∨ b + 10 < i ∨ (b + 6 ≤ i ∧ i ≤ b + 8)) (hTS : ∀ (h h' : mH) (c : σ), (∀ i, T i → h' i = h i) → TS h c → TS h' c) (hch4 : ∀ (c : σ) (w : Nat → Int), ch c w ≤ 4)
    (hch : ∀ (h : mH) (c : σ) (w : Nat → Int) (sh : Nat) (Q : Int → mH → Prop), TS h c → StIs h (b + 9) w sh → WOk w → P c w → Q ((ch c w : Nat) : Int) h → CtI x N1 [xR k, xR (b + 9)] h Q)
    (htk : ∀ (h : mH) (c : σ) (w : Nat → Int) (Q : mH → Prop), TS h c → WOk w → P c w → (∀ h', TS h' (tk c (tot w (ch c w)) (w (ch c w)) (tot w 5)) → (∀ i, ¬ T i → h' i = h i) → Q h') → CtV x N2 [xR k, xI (tot w (ch c w)), xI (w (ch c w)), xI (tot w 5)] h Q)
    (hPk : PkT h b o n sg cs) (TT : TS h c) (hP : dOk ch tk P cs (fun j => cxp sg (n - (j : Int)) j) (lng o n + 1) 0 c)
    (hQ : ∀ h', TS h' (dsc ch tk cs (fun j => cxp sg (n - (j : Int)) j) (lng o n + 1) 0 c).2.2 → FrD T b h h' → h' b 6 = ((dsc ch tk cs (fun j => cxp sg (n - (j : Int)) j) (lng o n + 1) 0 c).2.1 : Int) → Q (dsc ch tk cs (fun j => cxp sg (n - (j : Int)) j) (lng o n + 1) 0 c).1 h') : CtI x mtX3_descends [xR b, xR k] h Q := by
  refine ct_go (ls := [xR b, xR k, xU]) (by decide +kernel) (Nat.le_of_ble_eq_true rfl) rfl ?_
  refine go_aload_n dX3_descends_0 rfl ?_
  refine gfX3_stage hb.1 flX3_35 dX3_descends_1 ?_
  refine go_cV0V hb.2.2.2.2.1 vlX3_103 dX3_descends_4 (by decide) rfl rfl (by decide) (Nat.le_of_ble_eq_true rfl) (st_shutsNone hb.2.2.2.2 ?_)
  refine go_aload_n dX3_descends_7 rfl ?_
  refine go_cV0I hb.1 vlX3_106 dX3_descends_8 (by decide) rfl rfl (by decide) (Nat.le_of_ble_eq_true rfl) (pk_longest hb (o := o) (n := n) (by rw [hset_ni (by omega)]; exact hPk.1) (by rw [hset_ni (by omega)]; exact hPk.2.1) ?_)
  refine go_istore_n 2 dX3_descends_11 rfl (Nat.le_of_ble_eq_true rfl) rfl (by dsimp only [List.set]) ?_
  have hL : (if n < o then n else o) = ((lng o n + 1 : Nat) : Int) - 1 := by have := hPk.2.2.2.2; unfold lng; split <;> omega
  rw [hL]
  have hlg := lng_le (o := o) (n := n) hPk.2.2.2.2.1 hPk.2.2.2.2.2.2.1
  exact pk_descends_loop hb hk hck hcl hq1 hq2 hl1 hl2 hh1 hh2 hT hTS hch4 hch htk hPk (lng o n + 1) _ 0 c (by omega) (by omega) ⟨fun i q1 q2 q3 q4 => hset_ni q3, fun z q => by rw [hset_ni (by omega)]⟩ (hset_eq _ _ _ _) (by decide) (hTS _ _ c (fun i q => hset_ni (by have := hT i q; omega)) TT) hP hQ

set_option maxHeartbeats 4000000 in
set_option maxRecDepth 100000 in
theorem pk_startsAnew {x : mX} {h : mH} {Q : mH → Prop} {b : Nat} {cs : Int → Int} (hb : isPk b) (ecs : h (b + 4 + 1) = cs) (hz : ∀ k, k < 0 ∨ 340 ≤ k → cs k = 0) (h0 : 0 ≤ h (b + 6 + 1) 1) (hQ : ∀ h', h' b 4 = 0 → h' b 5 = 0 → CtxS h' (b + 4) (fun _ => 0) → RgW h' (b + 6) (0, 65535, 0, []) → (∀ i, i ≠ b → i ≠ b + 4 → i ≠ b + 4 + 1 → i ≠ b + 6 → i ≠ b + 6 + 1 → h' i = h i) → Q h') : CtV x mtX3_startsAnew [xR b] h Q := by
  refine ct_go (ls := [xR b]) (by decide +kernel) (Nat.le_of_ble_eq_true rfl) rfl ?_
  refine go_aload_n dX3_startsAnew_0 rfl ?_
  refine go_iconst dX3_startsAnew_1 ⟨by decide, by decide⟩ ?_
  refine pfX3_packed hb.1 flX3_39 dX3_startsAnew_2 ?_
  refine go_aload_n dX3_startsAnew_5 rfl ?_
  refine go_iconst dX3_startsAnew_6 ⟨by decide, by decide⟩ ?_
  refine pfX3_forgotten hb.1 flX3_43 dX3_startsAnew_7 ?_
  refine go_aload_n dX3_startsAnew_10 rfl ?_
  refine gfX3_contexts hb.1 flX3_21 dX3_startsAnew_11 ?_
  refine go_cV0V hb.2.2.1.1 vlX3_139 dX3_startsAnew_14 (by decide) rfl rfl (by decide) (Nat.le_of_ble_eq_true rfl) (ctx_emptiesP hb.2.2.1 (cs := cs) (by rw [hset_ni (by omega), hset_ni (by omega)]; exact ecs) hz ?_)
  intro h1 C1 F1
  refine go_aload_n dX3_startsAnew_17 rfl ?_
  refine gfX3_range hb.1 flX3_28 dX3_startsAnew_18 ?_
  refine go_cV0V hb.2.2.2.1.1 vlX3_142 dX3_startsAnew_21 (by decide) rfl rfl (by decide) (Nat.le_of_ble_eq_true rfl) (rg_startsWriting hb.2.2.2.1 (by rw [F1 _ (by omega) (by omega), hset_ni (by omega), hset_ni (by omega)]; exact h0) ?_)
  intro h2 R2 F2
  refine go_return dX3_startsAnew_24 rfl ?_
  refine hQ h2 ?_ ?_ ⟨?_, ?_⟩ R2 (fun i q1 q2 q3 q4 q5 => ?_)
  · rw [F2 b (by omega) (by omega), F1 b (by omega) (by omega), hset_nk (by decide), hset_eq]
  · rw [F2 b (by omega) (by omega), F1 b (by omega) (by omega), hset_eq]
  · rw [F2 _ (by omega) (by omega)]; exact C1.1
  · rw [F2 _ (by omega) (by omega)]; exact C1.2
  · rw [F2 i q4 q5, F1 i q2 q3, hset_ni q1, hset_ni q1]
