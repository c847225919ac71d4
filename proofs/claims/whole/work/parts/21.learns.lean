/-! ===== Packer: forgets, learns ===== -/
/-- order, limit, room, tail as they may be -/
def PrOk (o l r t : Int) : Prop := 0 ≤ o ∧ o ≤ 3 ∧ 2 ≤ l ∧ l ≤ 15 ∧ 4 ≤ r ∧ r ≤ 60 ∧ 0 ≤ t ∧ t ≤ 9
/-- the parameters of a past -/
def PaS (h : mH) (p : Nat) (o l r t : Int) : Prop := h p 0 = o ∧ h p 1 = l ∧ h p 2 = r ∧ h p 3 = t

set_option maxHeartbeats 4000000 in
set_option maxRecDepth 100000 in
theorem pk_forgets {x : mX} {h : mH} {Q : mH → Prop} {b M : Nat} {o l r t n a : Int} {sg cs : Int → Int} (hb : isPk b) (hPr : PrOk o l r t) (hPa : PaS h (b + 1) o l r t) (e4 : h b 4 = n) (esg : h (b + 1 + 2) = sg) (ecs : h (b + 4 + 1) = cs) (hz : ∀ k, k < 0 ∨ 340 ≤ k → cs k = 0) (h50 : 0 ≤ h b 5) (h51 : h b 5 ≤ 1000) (hn0 : 0 ≤ n) (hns : n ≤ h (b + 1 + 1) 1) (hs60 : h (b + 1 + 1) 1 ≤ 60) (hsg : ∀ k : Int, 0 ≤ k → k < n → 0 ≤ sg k ∧ sg k ≤ 3) (hae : (if n - t < 0 then 0 else n - t) = a) (hM : a + M = n)
    (hQ : ∀ h', CtxS h' (b + 4) (frg sg o l a M (fun _ => 0)) → (∀ i, i ≠ b → i ≠ b + 4 → i ≠ b + 4 + 1 → h' i = h i) → (∀ z, z ≠ 5 → h' b z = h b z) → h' b 5 = h b 5 + 1 → Q h') : CtV x mtX3_forgets [xR b] h Q := by
  obtain ⟨e0, e1, e2, e3⟩ := hPa
  have ha0 : 0 ≤ a := by rw [← hae]; split <;> omega
  have hpp := hPr
  obtain ⟨w1, w2, w3, w4, w5, w6, w7, w8⟩ := hpp
  refine ct_go (ls := [xR b, xU, xU, xU, xU]) (by decide +kernel) (Nat.le_of_ble_eq_true rfl) rfl ?_
  refine go_aload_n dX3_forgets_0 rfl ?_
  first | refine go_dupR dX3_forgets_1 ?_ | refine go_dupI dX3_forgets_1 ?_
  refine gfX3_forgotten hb.1 flX3_43 dX3_forgets_2 ?_
  refine go_iconst dX3_forgets_5 ⟨by decide, by decide⟩ ?_
  refine go_iadd dX3_forgets_6 (by omega) (by omega) ?_
  refine pfX3_forgotten hb.1 flX3_43 dX3_forgets_7 ?_
  refine go_aload_n dX3_forgets_10 rfl ?_
  refine gfX3_contexts hb.1 flX3_21 dX3_forgets_11 ?_
  refine go_cV0V hb.2.2.1.1 vlX3_139 dX3_forgets_14 (by decide) rfl rfl (by decide) (Nat.le_of_ble_eq_true rfl) (ctx_emptiesP hb.2.2.1 (cs := cs) (by rw [hset_ni (by omega)]; exact ecs) hz ?_)
  intro h1 C1 F1
  have G4 : h1 b 4 = n := by rw [F1 b (by omega) (by omega), hset_nk (by decide)]; exact e4
  refine go_aload_n dX3_forgets_17 rfl ?_
  refine gfX3_packed hb.1 flX3_39 dX3_forgets_18 ?_
  rw [G4]
  refine go_aload_n dX3_forgets_21 rfl ?_
  refine gfX3_past hb.1 flX3_12 dX3_forgets_22 ?_
  refine gfX4_tail hb.2.1.1 flX3_58 dX3_forgets_25 ?_
  rw [show h1 (b + 1) 3 = t by rw [F1 (b + 1) (by omega) (by omega), hset_ni (by omega)]; exact e3]
  refine go_isub dX3_forgets_28 (by omega) (by omega) ?_
  refine go_iconst dX3_forgets_29 ⟨by decide, by decide⟩ ?_
  refine go_max mmX3_150 dX3_forgets_30 (by decide) (Nat.le_of_ble_eq_true rfl) ?_
  refine go_istore_n 1 dX3_forgets_33 rfl (Nat.le_of_ble_eq_true rfl) rfl (by dsimp only [List.set]) ?_
  refine go_iload_n dX3_forgets_34 rfl ?_
  refine go_istore_n 2 dX3_forgets_35 rfl (Nat.le_of_ble_eq_true rfl) rfl (by dsimp only [List.set]) ?_
  have ha : (if n - t < 0 then 0 else n - t) = a := hae
  rw [ha]
  have key : ∀ u v : mV, Go x mtX3_forgets 36 [xR b, xI a, xI (a + ((0 : Nat) : Int)), u, v] [] h1 (qV Q) := by
    refine up_indN (P := fun m => ∀ hh : mH, CtxS hh (b + 4) (frg sg o l a m (fun _ => 0)) → (∀ i, i ≠ b → i ≠ b + 4 → i ≠ b + 4 + 1 → hh i = h i) → hh b 4 = n → (∀ z, z ≠ 5 → hh b z = h b z) → hh b 5 = h b 5 + 1 → ∀ u v : mV, Go x mtX3_forgets 36 [xR b, xI a, xI (a + (m : Int)), u, v] [] hh (qV Q)) M (fun m hm ihm hh CC FF E4 EB E5 u v => ?_) h1 C1 (fun i q1 q2 q3 => by rw [F1 i q2 q3, hset_ni q1]) G4 (fun z hz => by rw [F1 b (by omega) (by omega), hset_nk hz]) (by rw [F1 b (by omega) (by omega), hset_eq])
    by_cases hlt : m < M
    · replace ihm : ∀ hh : mH, CtxS hh (b + 4) (frg sg o l a (m + 1) (fun _ => 0)) → (∀ i, i ≠ b → i ≠ b + 4 → i ≠ b + 4 + 1 → hh i = h i) → hh b 4 = n → (∀ z, z ≠ 5 → hh b z = h b z) → hh b 5 = h b 5 + 1 → ∀ u v : mV, Go x mtX3_forgets 36 [xR b, xI a, xI (a + (m : Int) + 1), u, v] [] hh (qV Q) := by
        have z := ihm hlt
        rw [show a + ((m + 1 : Nat) : Int) = a + (m : Int) + 1 by omega] at z
        exact z
      rw [show frg sg o l a (m + 1) (fun _ => 0) = lrn (fun j => cxp sg (a + m - j) j) (sg (a + m)) l 0 (lng o m + 1) (frg sg o l a m (fun _ => 0)) from rfl] at ihm
      refine go_iload_n dX3_forgets_36 rfl ?_
      refine go_aload_n dX3_forgets_37 rfl ?_
      refine gfX3_packed hb.1 flX3_39 dX3_forgets_38 ?_
      rw [E4]
      refine go_icmp_ge_f (tgt := 114) dX3_forgets_41 (by decide) (by omega) ?_
      refine go_aload_n dX3_forgets_44 rfl ?_
      refine gfX3_past hb.1 flX3_12 dX3_forgets_45 ?_
      refine gfX4_order hb.2.1.1 flX3_49 dX3_forgets_48 ?_
      rw [show hh (b + 1) 0 = o from (congrFun (FF (b + 1) (by omega) (by omega) (by omega)) 0).trans e0]
      refine go_iload_n dX3_forgets_51 rfl ?_
      refine go_iload_n dX3_forgets_52 rfl ?_
      refine go_isub dX3_forgets_53 (by omega) (by omega) ?_
      refine go_min mmX3_145 dX3_forgets_54 (by decide) (Nat.le_of_ble_eq_true rfl) ?_
      refine go_istore_n 3 dX3_forgets_57 rfl (Nat.le_of_ble_eq_true rfl) rfl (by dsimp only [List.set]) ?_
      refine go_iconst dX3_forgets_58 ⟨by decide, by decide⟩ ?_
      refine go_istore dX3_forgets_59 (Nat.le_of_ble_eq_true rfl) rfl (by dsimp only [List.set]) ?_
      rw [show a + (m : Int) - a = (m : Int) by omega]
      have hL : (if (m : Int) < o then (m : Int) else o) = (lng o m : Int) := by unfold lng; split <;> omega
      rw [hL]
      have hlg := lng_le (o := o) (n := m) hPr.1 (by omega)
      have hsm := hsg (a + m) (by omega) (by omega)
      have okm := csOk_frg (sg := sg) (o := o) (l := l) (a := a) (csOk_zero hPr.2.2.1) hPr.2.2.1 hPr.1 hPr.2.1 m (fun k q1 q2 => hsg k (by omega) (by omega))
      refine up_indN (P := fun j => ∀ h2 : mH, CtxS h2 (b + 4) (lrn (fun j => cxp sg (a + m - j) j) (sg (a + m)) l 0 j (frg sg o l a m (fun _ => 0))) → (∀ i, i ≠ b → i ≠ b + 4 → i ≠ b + 4 + 1 → h2 i = h i) → h2 b 4 = n → (∀ z, z ≠ 5 → h2 b z = h b z) → h2 b 5 = h b 5 + 1 → Go x mtX3_forgets 61 [xR b, xI a, xI (a + m), xI (lng o m : Int), xI (j : Int)] [] h2 (qV Q)) (lng o m + 1) (fun j hj ihj h2 C2 F2 E4 EB E5 => ?_) hh CC FF E4 EB E5
      by_cases hjl : j < lng o m + 1
      · have okj := csOk_lrn (ctx := fun j => cxp sg (a + m - j) j) (s := sg (a + m)) (l := l) (lo := 0) okm hPr.2.2.1 hsm.1 hsm.2 j (fun i _ hi => cxp_bd (by omega) (fun k q1 q2 => hsg k (by omega) (by omega)))
        have hcx := cxp_bd (sg := sg) (a := a + m - (j : Int)) (n := j) (by omega) (fun k q1 q2 => hsg k (by omega) (by omega))
        rw [show lrn (fun j => cxp sg (a + m - j) j) (sg (a + m)) l 0 (j + 1) (frg sg o l a m (fun _ => 0)) = rai (lrn (fun j => cxp sg (a + m - j) j) (sg (a + m)) l 0 j (frg sg o l a m (fun _ => 0))) (cxp sg (a + m - (j : Int)) j) (sg (a + m)) l by rw [lrn, Nat.zero_add]] at ihj
        refine go_iload dX3_forgets_61 rfl ?_
        refine go_iload_n dX3_forgets_63 rfl ?_
        refine go_icmp_gt_f (tgt := 108) dX3_forgets_64 (by decide) (by omega) ?_
        refine go_aload_n dX3_forgets_67 rfl ?_
        refine gfX3_contexts hb.1 flX3_21 dX3_forgets_68 ?_
        refine go_aload_n dX3_forgets_71 rfl ?_
        refine gfX3_past hb.1 flX3_12 dX3_forgets_72 ?_
        refine go_iload_n dX3_forgets_75 rfl ?_
        refine go_iload dX3_forgets_76 rfl ?_
        refine go_cV2I hb.2.1.1 vlX3_109 dX3_forgets_78 (by decide) rfl rfl (by decide) (Nat.le_of_ble_eq_true rfl) (past_ctx (a := a + m - (j : Int)) (n := j) hb.2.1 (by omega) (by omega) (by omega) (by rw [F2 (b + 1 + 1) (by omega) (by omega) (by omega)]; omega) (by rw [F2 (b + 1 + 1) (by omega) (by omega) (by omega)]; omega) (fun k q1 q2 => by rw [F2 (b + 1 + 2) (by omega) (by omega) (by omega), esg]; exact hsg k (by omega) (by omega)) ?_)
        rw [F2 (b + 1 + 2) (by omega) (by omega) (by omega), esg]
        refine go_aload_n dX3_forgets_81 rfl ?_
        refine gfX3_past hb.1 flX3_12 dX3_forgets_82 ?_
        refine gfX4_signs hb.2.1.1 flX3_68 dX3_forgets_85 ?_
        refine go_iload_n dX3_forgets_88 rfl ?_
        refine go_cV1I hb.2.1.2.1 vlX3_81 dX3_forgets_89 (by decide) rfl rfl (by decide) (Nat.le_of_ble_eq_true rfl) (row_at hb.2.1.2 (by rw [F2 (b + 1 + 1) (by omega) (by omega) (by omega)]; omega) ?_)
        rw [if_pos (by rw [F2 (b + 1 + 1) (by omega) (by omega) (by omega)]; omega), show h2 (b + 1 + 1 + 1) = sg from (F2 (b + 1 + 2) (by omega) (by omega) (by omega)).trans esg]
        refine go_aload_n dX3_forgets_92 rfl ?_
        refine gfX3_past hb.1 flX3_12 dX3_forgets_93 ?_
        refine gfX4_limit hb.2.1.1 flX3_52 dX3_forgets_96 ?_
        rw [show h2 (b + 1) 1 = l from (congrFun (F2 (b + 1) (by omega) (by omega) (by omega)) 1).trans e1]
        refine go_cV3V hb.2.2.1.1 vlX3_153 dX3_forgets_99 (by decide) rfl rfl (by decide) (Nat.le_of_ble_eq_true rfl) (ctx_raisesP hb.2.2.1 C2 okj hPr.2.2.1 hPr.2.2.2.1 hcx.1 hcx.2 hsm.1 hsm.2 ?_)
        intro h3 C3 F3
        refine go_iinc dX3_forgets_102 rfl rfl rfl (by omega) (by omega) (by dsimp only [List.set]) ?_
        refine go_goto (tgt := 61) dX3_forgets_105 (by decide) ?_
        exact ihj (by omega) h3 C3 (fun i q1 q2 q3 => (F3 i q2 q3).trans (F2 i q1 q2 q3)) ((congrFun (F3 b (by omega) (by omega)) 4).trans E4) (fun z hz => (congrFun (F3 b (by omega) (by omega)) z).trans (EB z hz)) ((congrFun (F3 b (by omega) (by omega)) 5).trans E5)
      · have hje : j = lng o m + 1 := by omega
        subst hje
        refine go_iload dX3_forgets_61 rfl ?_
        refine go_iload_n dX3_forgets_63 rfl ?_
        refine go_icmp_gt_t (tgt := 108) dX3_forgets_64 (by decide) (by omega) ?_
        refine go_iinc dX3_forgets_108 rfl rfl rfl (by omega) (by omega) (by dsimp only [List.set]) ?_
        refine go_goto (tgt := 36) dX3_forgets_111 (by decide) ?_
        exact ihm h2 C2 F2 E4 EB E5 _ _
    · have hme : m = M := by omega
      subst hme
      refine go_iload_n dX3_forgets_36 rfl ?_
      refine go_aload_n dX3_forgets_37 rfl ?_
      refine gfX3_packed hb.1 flX3_39 dX3_forgets_38 ?_
      rw [E4]
      refine go_icmp_ge_t (tgt := 114) dX3_forgets_41 (by decide) (by omega) ?_
      refine go_return dX3_forgets_114 rfl ?_
      exact hQ hh CC FF EB E5
  rw [show a + ((0 : Nat) : Int) = a by omega] at key
  exact key _ _
