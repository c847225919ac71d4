/-! ===== Packer.descends ===== -/
/-- from the longest context down to none: where a sign was found, which was chosen, what came of it -/
def dsc {σ : Type} (ch : σ → (Nat → Int) → Nat) (tk : σ → Int → Int → Int → σ) (cs : Int → Int) (ctx : Nat → Int) : Nat → Nat → σ → Int × Nat × σ
  | 0, sh, c => (-1, ch c (wE cs (-1) sh), tk c (tot (wE cs (-1) sh) (ch c (wE cs (-1) sh))) (wE cs (-1) sh (ch c (wE cs (-1) sh))) (tot (wE cs (-1) sh) 5))
  | n + 1, sh, c => if tot (wE cs (ctx n) sh) 5 ≤ 0 then dsc ch tk cs ctx n sh c else if ch c (wE cs (ctx n) sh) = 4 then dsc ch tk cs ctx n (sh ||| opn (wE cs (ctx n) sh) 4) (tk c (tot (wE cs (ctx n) sh) (ch c (wE cs (ctx n) sh))) (wE cs (ctx n) sh (ch c (wE cs (ctx n) sh))) (tot (wE cs (ctx n) sh) 5)) else ((n : Int), ch c (wE cs (ctx n) sh), tk c (tot (wE cs (ctx n) sh) (ch c (wE cs (ctx n) sh))) (wE cs (ctx n) sh (ch c (wE cs (ctx n) sh))) (tot (wE cs (ctx n) sh) 5))
/-- what holds wherever a part is taken -/
def dOk {σ : Type} (ch : σ → (Nat → Int) → Nat) (tk : σ → Int → Int → Int → σ) (P : σ → (Nat → Int) → Prop) (cs : Int → Int) (ctx : Nat → Int) : Nat → Nat → σ → Prop
  | 0, sh, c => P c (wE cs (-1) sh)
  | n + 1, sh, c => if tot (wE cs (ctx n) sh) 5 ≤ 0 then dOk ch tk P cs ctx n sh c else P c (wE cs (ctx n) sh) ∧ (ch c (wE cs (ctx n) sh) = 4 → dOk ch tk P cs ctx n (sh ||| opn (wE cs (ctx n) sh) 4) (tk c (tot (wE cs (ctx n) sh) (ch c (wE cs (ctx n) sh))) (wE cs (ctx n) sh (ch c (wE cs (ctx n) sh))) (tot (wE cs (ctx n) sh) 5)))
def StIs (h : mH) (t : Nat) (w : Nat → Int) (sh : Nat) : Prop := (∀ s : Nat, s < 5 → h (t + 1) (s : Int) = w s) ∧ h t 1 = tot w 5 ∧ h t 3 = (opn w 4 : Int) ∧ h t 2 = (sh : Int)
def WOk (w : Nat → Int) : Prop := ∀ s : Nat, s < 5 → 0 ≤ w s ∧ w s ≤ 1000
theorem StIs.congr {h h' : mH} {t : Nat} {w : Nat → Int} {sh : Nat} (H : StIs h t w sh) (e1 : h' t = h t) (e2 : h' (t + 1) = h (t + 1)) : StIs h' t w sh := by
  unfold StIs; rw [e1, e2]; exact H
theorem stg_is {h : mH} {t : Nat} {w : Nat → Int} {sh : Nat} (h2 : h t 2 = (sh : Int)) : StIs (stgH h t w) t w sh := by
  refine ⟨fun s hs => ?_, ?_, ?_, ?_⟩
  · unfold stgH; rw [if_pos ⟨rfl, by omega, by omega⟩, Int.toNat_natCast]
  · unfold stgH; rw [if_neg (by omega), if_neg (by omega), if_pos ⟨rfl, rfl⟩]
  · unfold stgH; rw [if_neg (by omega), if_pos ⟨rfl, rfl⟩]
  · unfold stgH; rw [if_neg (by omega), if_neg (by omega), if_neg (by omega)]; exact h2
theorem stg_ne {h : mH} {t : Nat} {w : Nat → Int} {i : Nat} (h1 : i ≠ t) (h2 : i ≠ t + 1) : stgH h t w i = h i := by
  funext b; unfold stgH; rw [if_neg (by omega), if_neg (by omega), if_neg (by omega)]
theorem st_showsP {x : mX} {h : mH} {Q : mH → Prop} {t c sh : Nat} {pl : Int} {cs : Int → Int} (ht : isStg t) (hc : isCtx c) (htc : t + 2 ≤ c ∨ c + 2 ≤ t) (hcs : h (c + 1) = cs) (h2 : h t 2 = (sh : Int)) (hsh : sh < 16) (hpl : -1 ≤ pl) (hpl2 : pl ≤ 84) (hbd : ∀ k, 0 ≤ k → k < 340 → 0 ≤ cs k ∧ cs k ≤ 1000) (hQ : ∀ h', StIs h' t (wE cs pl sh) sh → (∀ i, i ≠ t → i ≠ t + 1 → h' i = h i) → Q h') : CtV x mtX7_shows [xR t, xR c, xI pl] h Q := by
  refine st_shows ht hc htc h2 hsh hpl hpl2 (fun s hs => ?_) ?_
  · rw [hcs]
    by_cases e : pl = -1
    · exact Or.inl e
    · exact Or.inr (hbd _ (by omega) (by omega))
  · rw [hcs]
    exact hQ _ (stg_is h2) (fun i a b => stg_ne a b)
theorem wE_ok {cs : Int → Int} {pl : Int} {sh : Nat} (hpl : -1 ≤ pl) (hpl2 : pl ≤ 84) (hbd : ∀ k, 0 ≤ k → k < 340 → 0 ≤ cs k ∧ cs k ≤ 1000) : WOk (wE cs pl sh) := by
  intro s hs
  by_cases e : s = 4
  · subst e
    rw [wE_4]
    have := esc_bd pl sh (opn (wS cs pl sh) 4)
    omega
  · rw [wE_lt (by omega)]
    refine wS_bd (by decide) ?_
    by_cases e : pl = -1
    · exact Or.inl e
    · exact Or.inr (hbd _ (by omega) (by omega))
theorem st_beginOfP {x : mX} {h : mH} {Q : Int → mH → Prop} {t k sh : Nat} {w : Nat → Int} (ht : isStg t) (hk : k ≤ 5) (H : StIs h t w sh) (hw : WOk w) (hQ : Q (tot w k) h) : CtI x mtX7_beginOf [xR t, xI k] h Q := by
  refine st_beginOf ht hk (fun s hs => ?_) ?_
  · rw [H.1 s hs]; exact hw s hs
  · rw [tot_congr (w' := w) (fun s hs => H.1 s (by omega))]; exact hQ
theorem st_widthP {x : mX} {h : mH} {Q : Int → mH → Prop} {t k sh : Nat} {w : Nat → Int} (ht : isStg t) (hk : k < 5) (H : StIs h t w sh) (hQ : Q (w k) h) : CtI x mtX7_width [xR t, xI k] h Q :=
  st_width ht (by omega) (by omega) (by rw [H.1 k hk]; exact hQ)
def isPk (b : Nat) : Prop := kd b = 3 ∧ isPast (b + 1) ∧ isCtx (b + 4) ∧ isRg (b + 6) ∧ isStg (b + 9)
/-- what descends leaves as it was -/
def FrD (T : Nat → Prop) (b : Nat) (h h' : mH) : Prop := (∀ i, ¬ T i → i ≠ b → i ≠ b + 9 → i ≠ b + 9 + 1 → h' i = h i) ∧ ∀ z, z ≠ 6 → h' b z = h b z
theorem FrD.rf {T : Nat → Prop} {b : Nat} {h : mH} : FrD T b h h := ⟨fun _ _ _ _ _ => rfl, fun _ _ => rfl⟩
theorem FrD.tr {T : Nat → Prop} {b : Nat} {h h1 h2 : mH} (a : FrD T b h h1) (c : FrD T b h1 h2) : FrD T b h h2 := ⟨fun i q1 q2 q3 q4 => (c.1 i q1 q2 q3 q4).trans (a.1 i q1 q2 q3 q4), fun z q => (c.2 z q).trans (a.2 z q)⟩
/-- a packer's text: order, how many signs are packed, the signs -/
def PkT (h : mH) (b : Nat) (o n : Int) (sg cs : Int → Int) : Prop := h (b + 1) 0 = o ∧ h b 4 = n ∧ h (b + 1 + 2) = sg ∧ h (b + 4 + 1) = cs ∧ 0 ≤ o ∧ o ≤ 3 ∧ 0 ≤ n ∧ n ≤ h (b + 1 + 1) 1 ∧ h (b + 1 + 1) 1 ≤ 60 ∧ (∀ k : Int, 0 ≤ k → k < n → 0 ≤ sg k ∧ sg k ≤ 3) ∧ ∀ k, 0 ≤ k → k < 340 → 0 ≤ cs k ∧ cs k ≤ 1000

set_option maxHeartbeats 4000000 in
set_option maxRecDepth 100000 in
theorem pk_longest {x : mX} {h : mH} {Q : Int → mH → Prop} {b : Nat} {o n : Int} (hb : isPk b) (e1 : h (b + 1) 0 = o) (e2 : h b 4 = n) (hQ : Q (if n < o then n else o) h) : CtI x mtX3_longest [xR b] h Q := by
  refine ct_go (ls := [xR b]) (by decide +kernel) (Nat.le_of_ble_eq_true rfl) rfl ?_
  refine go_aload_n dX3_longest_0 rfl ?_
  refine gfX3_past hb.1 flX3_12 dX3_longest_1 ?_
  refine gfX4_order hb.2.1.1 flX3_49 dX3_longest_4 ?_
  rw [e1]
  refine go_aload_n dX3_longest_7 rfl ?_
  refine gfX3_packed hb.1 flX3_39 dX3_longest_8 ?_
  rw [e2]
  refine go_min mmX3_145 dX3_longest_11 (by decide) (Nat.le_of_ble_eq_true rfl) ?_
  refine go_ireturn dX3_longest_14 rfl ?_
  exact hQ

set_option maxHeartbeats 4000000 in
set_option maxRecDepth 100000 in
theorem pk_descends_loop {x : mX} {σ : Type} {TS : mH → σ → Prop} {T : Nat → Prop} {ch : σ → (Nat → Int) → Nat} {tk : σ → Int → Int → Int → σ} {P : σ → (Nat → Int) → Prop} {Q : Int → mH → Prop} {b k ck : Nat} {N1 N2 : mM} {y1 y2 : MethodName} {q : vw_C} {o n : Int} {sg cs : Int → Int} {h0 : mH}
    (hb : isPk b) (hk : kd k = ck) (hck : ck < 10) (hcl : vwCl[ck]? = some q) (hq1 : q.1 = N1.1.cls) (hq2 : q.1 = N2.1.cls) (hl1 : mUl RX3 120 y1 N1 1) (hl2 : mUl RX3 132 y2 N2 3) (hh1 : N1.2.2.2.2 < 3) (hh2 : N2.2.2.2.2 < 3)
    (hT : ∀ i, T i → i < b ∨ b + 10 < i ∨ (b + 6 ≤ i ∧ i ≤ b + 8)) (hTS : ∀ (h h' : mH) (c : σ), (∀ i, T i → h' i = h i) → TS h c → TS h' c) (hch4 : ∀ (c : σ) (w : Nat → Int), ch c w ≤ 4)
    (hch : ∀ (h : mH) (c : σ) (w : Nat → Int) (sh : Nat) (Q : Int → mH → Prop), TS h c → StIs h (b + 9) w sh → WOk w → P c w → Q ((ch c w : Nat) : Int) h → CtI x N1 [xR k, xR (b + 9)] h Q)
    (htk : ∀ (h : mH) (c : σ) (w : Nat → Int) (Q : mH → Prop), TS h c → WOk w → P c w → (∀ h', TS h' (tk c (tot w (ch c w)) (w (ch c w)) (tot w 5)) → (∀ i, ¬ T i → h' i = h i) → Q h') → CtV x N2 [xR k, xI (tot w (ch c w)), xI (w (ch c w)), xI (tot w 5)] h Q)
    (hPk : PkT h0 b o n sg cs) : ∀ (N : Nat) (h : mH) (sh : Nat) (c : σ), (N : Int) ≤ o + 1 → (N : Int) ≤ n + 1 → FrD T b h0 h → h (b + 9) 2 = (sh : Int) → sh < 16 → TS h c → dOk ch tk P cs (fun j => cxp sg (n - (j : Int)) j) N sh c →
      (∀ h', TS h' (dsc ch tk cs (fun j => cxp sg (n - (j : Int)) j) N sh c).2.2 → FrD T b h0 h' → h' b 6 = ((dsc ch tk cs (fun j => cxp sg (n - (j : Int)) j) N sh c).2.1 : Int) → Q (dsc ch tk cs (fun j => cxp sg (n - (j : Int)) j) N sh c).1 h') → Go x mtX3_descends 12 [xR b, xR k, xI ((N : Int) - 1)] [] h (qI Q)
  | 0, h, sh, c, hNo, hNn, F, esh, hsh, TT, hP, hQ => by
    obtain ⟨p1, p2, p3, p4, p5, p6, p7, p8, p9, hsg, hbd⟩ := hPk
    have nT : ∀ i, b ≤ i → i ≤ b + 5 → ¬ T i := fun i a c w => by have := hT i w; omega
    have ecs : h (b + 4 + 1) = cs := by rw [F.1 _ (nT _ (by omega) (by omega)) (by omega) (by omega) (by omega)]; exact p4
    dsimp only [dOk] at hP
    dsimp only [dsc] at hQ
    refine go_iload_n dX3_descends_12 rfl ?_
    refine go_if_lt_t (tgt := 117) dX3_descends_13 (by decide) (by omega) ?_
    refine go_aload_n dX3_descends_117 rfl ?_
    refine gfX3_stage hb.1 flX3_35 dX3_descends_118 ?_
    refine go_aload_n dX3_descends_121 rfl ?_
    refine gfX3_contexts hb.1 flX3_21 dX3_descends_122 ?_
    refine go_iconst dX3_descends_125 ⟨by decide, by decide⟩ ?_
    refine go_cV2V hb.2.2.2.2.1 vlX3_113 dX3_descends_126 (by decide) rfl rfl (by decide) (Nat.le_of_ble_eq_true rfl) (st_showsP hb.2.2.2.2 hb.2.2.1 (by omega) ecs esh hsh (by decide) (by decide) hbd ?_)
    intro h1 S1 F1
    have T1 : TS h1 c := hTS _ _ c (fun i q => F1 i (by have := hT i q; omega) (by have := hT i q; omega)) TT
    have hW := wE_ok (cs := cs) (pl := -1) (sh := sh) (by decide) (by decide) hbd
    generalize hWe : wE cs (-1) sh = W at S1 hP hW hQ
    refine go_aload_n dX3_descends_129 rfl ?_
    refine go_aload_n dX3_descends_130 rfl ?_
    refine go_aload_n dX3_descends_131 rfl ?_
    refine gfX3_stage hb.1 flX3_35 dX3_descends_132 ?_
    refine go_cU1I hk hl1 dX3_descends_135 hck hcl hq1 hh1 (Nat.le_of_ble_eq_true rfl) (hch _ c W sh _ T1 S1 hW hP ?_)
    refine pfX3_chosen hb.1 flX3_46 dX3_descends_138 ?_
    have S2 : StIs (hset h1 b 6 ((ch c W : Nat) : Int)) (b + 9) W sh := S1.congr (hset_ni (by omega)) (hset_ni (by omega))
    have T2 : TS (hset h1 b 6 ((ch c W : Nat) : Int)) c := hTS _ _ c (fun i q => hset_ni (by have := hT i q; omega)) T1
    refine go_aload_n dX3_descends_141 rfl ?_
    refine go_aload_n dX3_descends_142 rfl ?_
    refine gfX3_stage hb.1 flX3_35 dX3_descends_143 ?_
    refine go_aload_n dX3_descends_146 rfl ?_
    refine gfX3_chosen hb.1 flX3_46 dX3_descends_147 ?_
    rw [hset_eq]
    refine go_cV1I hb.2.2.2.2.1 vlX3_126 dX3_descends_150 (by decide) rfl rfl (by decide) (Nat.le_of_ble_eq_true rfl) (st_beginOfP hb.2.2.2.2 (by have := hch4 c W; omega) S2 hW ?_)
    refine go_aload_n dX3_descends_153 rfl ?_
    refine gfX3_stage hb.1 flX3_35 dX3_descends_154 ?_
    refine go_aload_n dX3_descends_157 rfl ?_
    refine gfX3_chosen hb.1 flX3_46 dX3_descends_158 ?_
    rw [hset_eq]
    refine go_cV1I hb.2.2.2.2.1 vlX3_129 dX3_descends_161 (by decide) rfl rfl (by decide) (Nat.le_of_ble_eq_true rfl) (st_widthP hb.2.2.2.2 (by have := hch4 c W; omega) S2 ?_)
    refine go_aload_n dX3_descends_164 rfl ?_
    refine gfX3_stage hb.1 flX3_35 dX3_descends_165 ?_
    refine gfX7_total hb.2.2.2.2.1 flX3_117 dX3_descends_168 ?_
    rw [S2.2.1]
    refine go_cU3V hk hl2 dX3_descends_171 hck hcl hq2 hh2 (Nat.le_of_ble_eq_true rfl) (htk _ c W _ T2 hW hP ?_)
    intro h3 T3 F3
    refine go_iconst dX3_descends_174 ⟨by decide, by decide⟩ ?_
    refine go_ireturn dX3_descends_175 rfl ?_
    have FF : FrD T b h0 h3 := FrD.tr F ⟨fun i q1 q2 q3 q4 => by rw [F3 i q1, hset_ni q2, F1 i q3 q4], fun z q => by rw [F3 b (fun w => by have := hT b w; omega), hset_nk q, F1 b (by omega) (by omega)]⟩
    have C3 : h3 b 6 = ((ch c W : Nat) : Int) := by rw [F3 b (fun w => by have := hT b w; omega), hset_eq]
    exact hQ h3 T3 FF C3
  | N + 1, h, sh, c, hNo, hNn, F, esh, hsh, TT, hP, hQ => by
    have ih := pk_descends_loop (x := x) (TS := TS) (T := T) (ch := ch) (tk := tk) (P := P) (Q := Q) (h0 := h0) hb hk hck hcl hq1 hq2 hl1 hl2 hh1 hh2 hT hTS hch4 hch htk hPk N
    obtain ⟨p1, p2, p3, p4, p5, p6, p7, p8, p9, hsg, hbd⟩ := hPk
    have nT : ∀ i, b ≤ i → i ≤ b + 5 → ¬ T i := fun i a c w => by have := hT i w; omega
    have ecs : h (b + 4 + 1) = cs := by rw [F.1 _ (nT _ (by omega) (by omega)) (by omega) (by omega) (by omega)]; exact p4
    have esg : h (b + 1 + 2) = sg := by rw [F.1 _ (nT _ (by omega) (by omega)) (by omega) (by omega) (by omega)]; exact p3
    have esz : h (b + 1 + 1) 1 = h0 (b + 1 + 1) 1 := by rw [F.1 _ (nT _ (by omega) (by omega)) (by omega) (by omega) (by omega)]
    have e4 : h b 4 = n := by rw [F.2 4 (by decide)]; exact p2
    have hcx := cxp_bd (sg := sg) (a := n - (N : Int)) (n := N) (by omega) (fun k q1 q2 => hsg k (by omega) (by omega))
    rw [show (((N + 1 : Nat) : Int) - 1) = (N : Int) by omega]
    refine go_iload_n dX3_descends_12 rfl ?_
    refine go_if_lt_f (tgt := 117) dX3_descends_13 (by decide) (by omega) ?_
    refine go_aload_n dX3_descends_16 rfl ?_
    refine gfX3_stage hb.1 flX3_35 dX3_descends_17 ?_
    refine go_aload_n dX3_descends_20 rfl ?_
    refine gfX3_contexts hb.1 flX3_21 dX3_descends_21 ?_
    refine go_aload_n dX3_descends_24 rfl ?_
    refine gfX3_past hb.1 flX3_12 dX3_descends_25 ?_
    refine go_aload_n dX3_descends_28 rfl ?_
    refine gfX3_packed hb.1 flX3_39 dX3_descends_29 ?_
    rw [e4]
    refine go_iload_n dX3_descends_32 rfl ?_
    refine go_cV2I hb.2.1.1 vlX3_109 dX3_descends_33 (by decide) rfl rfl (by decide) (Nat.le_of_ble_eq_true rfl) (past_ctx (a := n - (N : Int)) (n := N) hb.2.1 (by omega) (by omega) (by omega) (by rw [esz]; omega) (by rw [esz]; omega) (fun k q1 q2 => by rw [esg]; exact hsg k (by omega) (by omega)) ?_)
    rw [esg]
    refine go_cV2V hb.2.2.2.2.1 vlX3_113 dX3_descends_36 (by decide) rfl rfl (by decide) (Nat.le_of_ble_eq_true rfl) (st_showsP hb.2.2.2.2 hb.2.2.1 (by omega) ecs esh hsh (by omega) (by omega) hbd ?_)
    intro h1 S1 F1
    have T1 : TS h1 c := hTS _ _ c (fun i q => F1 i (by have := hT i q; omega) (by have := hT i q; omega)) TT
    have hW := wE_ok (cs := cs) (pl := cxp sg (n - (N : Int)) N) (sh := sh) (by omega) (by omega) hbd
    have eD : dsc ch tk cs (fun j => cxp sg (n - (j : Int)) j) (N + 1) sh c = _ := rfl
    refine go_aload_n dX3_descends_39 rfl ?_
    refine gfX3_stage hb.1 flX3_35 dX3_descends_40 ?_
    refine gfX7_total hb.2.2.2.2.1 flX3_117 dX3_descends_43 ?_
    rw [S1.2.1]
    refine go_if_le (tgt := 111) dX3_descends_46 (by decide) (fun c46 => ?_) (fun c46 => ?_)
    · rw [dsc, if_pos c46] at hQ
      rw [dOk, if_pos c46] at hP
      refine go_iinc dX3_descends_111 rfl rfl rfl (by omega) (by omega) (by dsimp only [List.set]) ?_
      refine go_goto (tgt := 12) dX3_descends_114 (by decide) ?_
      exact ih h1 sh c (by omega) (by omega) (F.tr ⟨fun i q1 q2 q3 q4 => F1 i q3 q4, fun z q => by rw [F1 b (by omega) (by omega)]⟩) S1.2.2.2 hsh T1 hP hQ
    · rw [dsc, if_neg (by omega)] at hQ
      rw [dOk, if_neg (by omega)] at hP
      obtain ⟨hP, hPn⟩ := hP
      generalize hWe : wE cs (cxp sg (n - (N : Int)) N) sh = W at S1 hP hPn hW hQ c46
      refine go_aload_n dX3_descends_49 rfl ?_
      refine go_aload_n dX3_descends_50 rfl ?_
      refine go_aload_n dX3_descends_51 rfl ?_
      refine gfX3_stage hb.1 flX3_35 dX3_descends_52 ?_
      refine go_cU1I hk hl1 dX3_descends_55 hck hcl hq1 hh1 (Nat.le_of_ble_eq_true rfl) (hch _ c W sh _ T1 S1 hW hP ?_)
      refine pfX3_chosen hb.1 flX3_46 dX3_descends_58 ?_
      have S2 : StIs (hset h1 b 6 ((ch c W : Nat) : Int)) (b + 9) W sh := S1.congr (hset_ni (by omega)) (hset_ni (by omega))
      have T2 : TS (hset h1 b 6 ((ch c W : Nat) : Int)) c := hTS _ _ c (fun i q => hset_ni (by have := hT i q; omega)) T1
      refine go_aload_n dX3_descends_61 rfl ?_
      refine go_aload_n dX3_descends_62 rfl ?_
      refine gfX3_stage hb.1 flX3_35 dX3_descends_63 ?_
      refine go_aload_n dX3_descends_66 rfl ?_
      refine gfX3_chosen hb.1 flX3_46 dX3_descends_67 ?_
      rw [hset_eq]
      refine go_cV1I hb.2.2.2.2.1 vlX3_126 dX3_descends_70 (by decide) rfl rfl (by decide) (Nat.le_of_ble_eq_true rfl) (st_beginOfP hb.2.2.2.2 (by have := hch4 c W; omega) S2 hW ?_)
      refine go_aload_n dX3_descends_73 rfl ?_
      refine gfX3_stage hb.1 flX3_35 dX3_descends_74 ?_
      refine go_aload_n dX3_descends_77 rfl ?_
      refine gfX3_chosen hb.1 flX3_46 dX3_descends_78 ?_
      rw [hset_eq]
      refine go_cV1I hb.2.2.2.2.1 vlX3_129 dX3_descends_81 (by decide) rfl rfl (by decide) (Nat.le_of_ble_eq_true rfl) (st_widthP hb.2.2.2.2 (by have := hch4 c W; omega) S2 ?_)
      refine go_aload_n dX3_descends_84 rfl ?_
      refine gfX3_stage hb.1 flX3_35 dX3_descends_85 ?_
      refine gfX7_total hb.2.2.2.2.1 flX3_117 dX3_descends_88 ?_
      rw [S2.2.1]
      refine go_cU3V hk hl2 dX3_descends_91 hck hcl hq2 hh2 (Nat.le_of_ble_eq_true rfl) (htk _ c W _ T2 hW hP ?_)
      intro h3 T3 F3
      have FF : FrD T b h0 h3 := FrD.tr F ⟨fun i q1 q2 q3 q4 => by rw [F3 i q1, hset_ni q2, F1 i q3 q4], fun z q => by rw [F3 b (fun w => by have := hT b w; omega), hset_nk q, F1 b (by omega) (by omega)]⟩
      have C3 : h3 b 6 = ((ch c W : Nat) : Int) := by rw [F3 b (fun w => by have := hT b w; omega), hset_eq]
      refine go_aload_n dX3_descends_94 rfl ?_
      refine gfX3_chosen hb.1 flX3_46 dX3_descends_95 ?_
      rw [C3]
      refine go_iconst dX3_descends_98 ⟨by decide, by decide⟩ ?_
      refine go_icmp_eq (tgt := 104) dX3_descends_99 (by decide) (fun c99 => ?_) (fun c99 => ?_)
      · refine go_aload_n dX3_descends_104 rfl ?_
        refine gfX3_stage hb.1 flX3_35 dX3_descends_105 ?_
        have S3 : StIs h3 (b + 9) W sh := S2.congr (F3 _ (fun w => by have := hT _ w; omega)) (F3 _ (fun w => by have := hT _ w; omega))
        refine go_cV0V hb.2.2.2.2.1 vlX3_136 dX3_descends_108 (by decide) rfl rfl (by decide) (Nat.le_of_ble_eq_true rfl) (st_shutsOpen hb.2.2.2.2 (sh := sh) (op := opn W 4) S3.2.2.2 S3.2.2.1 hsh (opn_lt W 4) ?_)
        refine go_iinc dX3_descends_111 rfl rfl rfl (by omega) (by omega) (by dsimp only [List.set]) ?_
        refine go_goto (tgt := 12) dX3_descends_114 (by decide) ?_
        rw [if_pos (by omega)] at hQ
        refine ih _ (sh ||| opn W 4) _ (by omega) (by omega) (FF.tr ⟨fun i q1 q2 q3 q4 => by rw [hset_ni q3], fun z q => by rw [hset_ni (by omega)]⟩) (hset_eq _ _ _ _) (orm_bd sh hsh _ (opn_lt W 4)) (hTS _ _ _ (fun i q => hset_ni (by have := hT i q; omega)) T3) (hPn (by omega)) hQ
      · refine go_iload_n dX3_descends_102 rfl ?_
        refine go_ireturn dX3_descends_103 rfl ?_
        rw [if_neg (by omega)] at hQ
        exact hQ h3 T3 FF C3
