/-! ===== the model: goes, in its three ways ===== -/
theorem lng_m {o n : Int} (ho : 0 ≤ o) (hn : 0 ≤ n) : (if o < n then o else n) = ((lng o n + 1 : Nat) : Int) - 1 := by
  unfold lng
  by_cases h1 : o < n
  · rw [if_pos h1, if_neg (by omega)]; omega
  · rw [if_neg h1]
    by_cases h2 : n < o
    · rw [if_pos h2]; omega
    · rw [if_neg h2]; omega

set_option maxHeartbeats 4000000 in
set_option maxRecDepth 100000 in
theorem md_goes {x : mX} {σ : Type} {TS : mH → σ → Prop} {ch : σ → (Nat → Int) → Nat} {tk : σ → Int → Int → Int → σ} {P : σ → (Nat → Int) → Prop} {Q : Int → mH → Prop} {h : mH} {n sn o : Int} {c : σ} {sg cs : Int → Int}
    (h24 : ∀ h v c, TS h c → TS (hset h 52 24 v) c) (h25 : ∀ h v c, TS h c → TS (hset h 52 25 v) c) (hch4 : ∀ c w, ch c w ≤ 4) (hpos : ∀ c w, P c w → ch c w ≠ 4 → 0 < w (ch c w))
    (hseg : ∀ {h : mH} {c : σ} {w : Nat → Int} {sh op : Nat} {pl ec j : Int} {u8 : mV} {Q2 : mV → mH → Prop}, TS h c → P c w → h 59 = cs → op < 16 → 0 ≤ pl → pl ≤ 84 → op = opn w 4 → (∀ s : Nat, s < 4 → hb op s = true → cs (4 * pl + s) = w s) → (∀ s : Nat, s < 4 → hb op s = false → w s = 0) → (∀ s : Nat, s < 4 → 0 ≤ w s ∧ w s ≤ 1000) → 0 < tot w 5 → Go x mtX10_goes 122 [xR 52, xI sn, xI sh, xI j, xI (4 * pl), xI op, xI ec, xI (tot w 5), u8] [xI (chN (ch c w))] h Q2 → Go x mtX10_goes 82 [xR 52, xI sn, xI sh, xI j, xI (4 * pl), xI op, xI ec, xI (tot w 5), u8] [] h Q2)
    (hpart : ∀ {h : mH} {c : σ} {w : Nat → Int} {Q2 : mH → Prop}, TS h c → P c w → (∀ h', TS h' (tk c (tot w (ch c w)) (w (ch c w)) (tot w 5)) → FrX h h' → Q2 h') → CtV x mtX10_part [xR 52, xI (tot w (ch c w)), xI (w (ch c w)), xI (tot w 5)] h Q2)
    (hplain : ∀ {h : mH} {c : σ} {sh : Nat} {Q2 : Int → mH → Prop}, TS h c → sh < 16 → P c (wE cs (-1) sh) → (∀ h', TS h' (tk c (tot (wE cs (-1) sh) (ch c (wE cs (-1) sh))) (wE cs (-1) sh (ch c (wE cs (-1) sh))) (tot (wE cs (-1) sh) 5)) → FrX h h' → Q2 (ch c (wE cs (-1) sh) : Nat) (hset h' 52 24 (-1))) → CtI x mtX10_plain [xR 52, xI sn, xI sh] h Q2)
    (hc : ∀ k, 0 ≤ cs k ∧ cs k ≤ 14) (hn0 : 0 ≤ n) (hn : n ≤ 60) (hsg : ∀ k : Int, 0 ≤ k → k < n → 0 ≤ sg k ∧ sg k ≤ 3) (ho : 0 ≤ o) (ho3 : o ≤ 3) (hTS : TS h c) (hok : dOk ch tk P cs (fun j : Nat => cxp sg (n - (j : Int)) j) (lng o n + 1) 0 c) (e7 : h 52 7 = o) (e9 : h 52 9 = n) (e58 : h 58 = sg) (e59 : h 59 = cs) (hQ : ∀ h', TS h' (dsc ch tk cs (fun j : Nat => cxp sg (n - (j : Int)) j) (lng o n + 1) 0 c).2.2 → FrY h h' → h' 52 24 = (dsc ch tk cs (fun j : Nat => cxp sg (n - (j : Int)) j) (lng o n + 1) 0 c).1 → h' 52 25 = dse ch tk cs (fun j : Nat => cxp sg (n - (j : Int)) j) (lng o n + 1) 0 c → Q ((dsc ch tk cs (fun j : Nat => cxp sg (n - (j : Int)) j) (lng o n + 1) 0 c).2.1 : Nat) h') : CtI x mtX10_goes [xR 52, xI sn] h Q := by
  have hln := lng_le (o := o) (n := n) ho hn0
  refine ct_go (ls := [xR 52, xI sn, xU, xU, xU, xU, xU, xU, xU]) (by decide +kernel) (Nat.le_of_ble_eq_true rfl) rfl ?_
  refine go_iconst dX10_goes_0 ⟨by decide, by decide⟩ ?_
  refine go_istore_n 2 dX10_goes_1 rfl (Nat.le_of_ble_eq_true rfl) rfl (by dsimp only [List.set]) ?_
  refine go_aload_n dX10_goes_2 rfl ?_
  refine go_iconst dX10_goes_3 ⟨by decide, by decide⟩ ?_
  refine pfX10_escaped (by first | assumption | rfl) flX10_123 dX10_goes_4 ?_
  refine go_aload_n dX10_goes_7 rfl ?_
  refine gfX10_order (by first | assumption | rfl) flX10_42 dX10_goes_8 ?_
  try simp (disch := decide) only [hset_eq, hset_nk, hset_ni, e7, e9]
  refine go_aload_n dX10_goes_11 rfl ?_
  refine gfX10_many (by first | assumption | rfl) flX10_49 dX10_goes_12 ?_
  try simp (disch := decide) only [hset_eq, hset_nk, hset_ni, e7, e9]
  refine go_cS2I slX10_126 dX10_goes_15 (by decide) (Nat.le_of_ble_eq_true rfl) (md_lesser ?_)
  rw [lng_m ho hn0]
  refine go_istore_n 3 dX10_goes_18 rfl (Nat.le_of_ble_eq_true rfl) rfl (by dsimp only [List.set]) ?_
  refine md_goes_loop h24 h25 hch4 hpos hseg hpart hplain hc hn0 hn hsg (lng o n + 1) (by omega) (by omega) 0 _ c _ _ _ _ _ (h25 _ _ _ hTS) (by decide) hok (by simp (disch := decide) only [hset_eq, hset_nk, hset_ni]; exact e9) (by rw [hset_ni (by decide)]; exact e58) (by rw [hset_ni (by decide)]; exact e59) (by rw [hset_eq]; decide) (by rw [hset_eq]; omega) (fun h9 T9 F9 E24 E25 => hQ h9 T9 (FrY.tr (FrY.rf.st (by decide)) F9) E24 (by rw [E25, hset_eq, Int.zero_add]))

theorem ch_plain {cs : Int → Int} {sh s : Nat} (hs : s < 4) (h : 1 ≤ wE cs (-1) sh (if 0 < wE cs (-1) sh s then s else 4)) : 0 < wE cs (-1) sh s ∧ wE cs (-1) sh s = 1 := by
  have h4 := (st_plain (cs := cs) (sh := sh)).2
  have h1 := wP_01 sh s
  rw [← wE_wP (cs := cs) hs] at h1
  by_cases e : 0 < wE cs (-1) sh s
  · exact ⟨e, by omega⟩
  · rw [if_neg e] at h; omega
theorem chN_if {s : Nat} {c : Prop} [Decidable c] (hs : s < 4) : chN (if c then s else 4) = if c then (s : Int) else -9 := by
  unfold chN
  by_cases e : c
  · rw [if_pos e, if_neg (by omega), if_pos e]
  · rw [if_neg e, if_pos rfl, if_neg e]

set_option maxHeartbeats 4000000 in
set_option maxRecDepth 100000 in
theorem md_seg_s {x : mX} {h : mH} {s sh : Nat} {w : Nat → Int} {pl ec j tt : Int} {u8 : mV} {Q2 : mV → mH → Prop} (hs : s < 4) (hm : h 52 17 ≠ 1) (hop : opn w 4 < 16) (K : Go x mtX10_goes 122 [xR 52, xI s, xI sh, xI j, xI (4 * pl), xI (opn w 4 : Nat), xI ec, xI tt, u8] [xI (if 0 < w s then (s : Int) else -9)] h Q2) : Go x mtX10_goes 82 [xR 52, xI s, xI sh, xI j, xI (4 * pl), xI (opn w 4 : Nat), xI ec, xI tt, u8] [] h Q2 := by
  refine go_aload_n dX10_goes_82 rfl ?_
  refine gfX10_mode (by first | assumption | rfl) flX10_46 dX10_goes_83 ?_
  refine go_iconst dX10_goes_86 ⟨by decide, by decide⟩ ?_
  refine go_icmp_ne_t (tgt := 107) dX10_goes_87 (by decide) (hm) ?_
  refine go_iload dX10_goes_107 rfl ?_
  refine go_iload_n dX10_goes_109 rfl ?_
  refine go_cS2I slX10_101 dX10_goes_110 (by decide) (Nat.le_of_ble_eq_true rfl) (md_has hop hs ?_)
  refine go_if_eq (tgt := 120) dX10_goes_113 (by decide) (fun c113 => ?_) (fun c113 => ?_)
  · refine go_bipush dX10_goes_120 (by decide +kernel) ⟨by decide, by decide⟩ ?_
    first
      | (rw [if_pos (by have := of_decide_eq_true (hb_opn (w := w) hs ▸ b1_ne c113); exact this)] at K; exact K)
      | (rw [if_neg (by have := of_decide_eq_false (hb_opn (w := w) hs ▸ b1_false.mp c113); exact this)] at K; exact K)
  · refine go_iload_n dX10_goes_116 rfl ?_
    refine go_goto (tgt := 122) dX10_goes_117 (by decide) ?_
    first
      | (rw [if_pos (by have := of_decide_eq_true (hb_opn (w := w) hs ▸ b1_ne c113); exact this)] at K; exact K)
      | (rw [if_neg (by have := of_decide_eq_false (hb_opn (w := w) hs ▸ b1_false.mp c113); exact this)] at K; exact K)

set_option maxHeartbeats 4000000 in
set_option maxRecDepth 100000 in
theorem md_goes_w {x : mX} {h : mH} {Q : Int → mH → Prop} {n o : Int} {sg cs : Int → Int} {s : Nat} {c : Cd} (hs : s < 4) (hc : ∀ k, 0 ≤ cs k ∧ cs k ≤ 14) (hn0 : 0 ≤ n) (hn : n ≤ 60) (hsg : ∀ k : Int, 0 ≤ k → k < n → 0 ≤ sg k ∧ sg k ≤ 3) (ho : 0 ≤ o) (ho3 : o ≤ 3) (hTS : MW h c) (hok : dOk (chW s) prt (PW s) cs (fun j : Nat => cxp sg (n - (j : Int)) j) (lng o n + 1) 0 c) (e7 : h 52 7 = o) (e9 : h 52 9 = n) (e58 : h 58 = sg) (e59 : h 59 = cs) (hQ : ∀ h', MW h' (dsc (chW s) prt cs (fun j : Nat => cxp sg (n - (j : Int)) j) (lng o n + 1) 0 c).2.2 → FrY h h' → h' 52 24 = (dsc (chW s) prt cs (fun j : Nat => cxp sg (n - (j : Int)) j) (lng o n + 1) 0 c).1 → Q ((dsc (chW s) prt cs (fun j : Nat => cxp sg (n - (j : Int)) j) (lng o n + 1) 0 c).2.1 : Nat) h') : CtI x mtX10_goes [xR 52, xI s] h Q := by
  refine md_goes (TS := MW) (ch := chW s) (tk := prt) (P := PW s) (sg := sg) (cs := cs) (fun h v c H => ?_) (fun h v c H => ?_) (fun c w => chW_le s hs c w) (fun c w p q => p.2.1) (fun {h c w sh op pl ec j u8 Q2} H p e59 ho _ _ eo _ _ _ ht K => ?_) (fun {h c w Q2} H p k => ?_) (fun {h c sh Q2} H hsh p k => ?_) hc hn0 hn hsg ho ho3 hTS hok e7 e9 e58 e59 (fun h9 T9 F9 E24 _ => hQ h9 T9 F9 E24)
  · exact ⟨by simp (disch := decide) only [hset_eq, hset_nk, hset_ni]; exact H.1, by simp (disch := decide) only [hset_eq, hset_nk, hset_ni]; exact H.2.1, by simp (disch := decide) only [hset_eq, hset_nk, hset_ni]; exact H.2.2.1, H.2.2.2.1.congr (by simp (disch := decide) only [hset_eq, hset_nk, hset_ni]) (by simp (disch := decide) only [hset_eq, hset_nk, hset_ni]), by simp (disch := decide) only [hset_eq, hset_nk, hset_ni]; exact H.2.2.2.2⟩
  · exact ⟨by simp (disch := decide) only [hset_eq, hset_nk, hset_ni]; exact H.1, by simp (disch := decide) only [hset_eq, hset_nk, hset_ni]; exact H.2.1, by simp (disch := decide) only [hset_eq, hset_nk, hset_ni]; exact H.2.2.1, H.2.2.2.1.congr (by simp (disch := decide) only [hset_eq, hset_nk, hset_ni]) (by simp (disch := decide) only [hset_eq, hset_nk, hset_ni]), by simp (disch := decide) only [hset_eq, hset_nk, hset_ni]; exact H.2.2.2.2⟩
  · subst eo
    refine md_seg_s hs (by rw [H.2.2.2.2]; decide) ho ?_
    have e : chN (chW s c w) = if 0 < w s then (s : Int) else -9 := chN_if hs
    rw [← e]; exact K
  · obtain ⟨p1, p2, p3, p4, p5, p6⟩ := p
    exact md_part_w H p1 p3 p2 p4 (by omega) p6 k
  · obtain ⟨p1, p2, p3, p4, p5, p6⟩ := p
    obtain ⟨q1, q2⟩ := ch_plain hs p2
    have e : chW s c (wE cs (-1) sh) = s := if_pos q1
    rw [e, q2, tot_plain (by omega), tot_plain5] at k p6
    rw [e, q2, tot_plain (by omega), tot_plain5] at p4
    rw [e, tot_plain (by omega)] at p3
    rw [tot_plain5] at p5
    refine md_plain_w hsh hs (by rw [H.2.2.2.2]; decide) (fun {Q9} k9 => md_part_w H p1 p3 (Int.le_refl 1) p4 (by omega) p6 (fun h9 a9 b9 => k9 h9 (k h9 a9 b9)))

set_option maxHeartbeats 4000000 in
set_option maxRecDepth 100000 in
theorem md_goes_o {x : mX} {h : mH} {Q : Int → mH → Prop} {n o : Int} {sg cs : Int → Int} {s : Nat} {c : Od} (hs : s < 4) (hc : ∀ k, 0 ≤ cs k ∧ cs k ≤ 14) (hn0 : 0 ≤ n) (hn : n ≤ 60) (hsg : ∀ k : Int, 0 ≤ k → k < n → 0 ≤ sg k ∧ sg k ≤ 3) (ho : 0 ≤ o) (ho3 : o ≤ 3) (hTS : MO h c) (hok : dOk (chO s) tkO (fun c w => PO s c w ∧ 1 ≤ w (chO s c w)) cs (fun j : Nat => cxp sg (n - (j : Int)) j) (lng o n + 1) 0 c) (e7 : h 52 7 = o) (e9 : h 52 9 = n) (e58 : h 58 = sg) (e59 : h 59 = cs) (hQ : ∀ h', MO h' (dsc (chO s) tkO cs (fun j : Nat => cxp sg (n - (j : Int)) j) (lng o n + 1) 0 c).2.2 → FrY h h' → h' 52 24 = (dsc (chO s) tkO cs (fun j : Nat => cxp sg (n - (j : Int)) j) (lng o n + 1) 0 c).1 → h' 52 25 = dse (chO s) tkO cs (fun j : Nat => cxp sg (n - (j : Int)) j) (lng o n + 1) 0 c → Q ((dsc (chO s) tkO cs (fun j : Nat => cxp sg (n - (j : Int)) j) (lng o n + 1) 0 c).2.1 : Nat) h') : CtI x mtX10_goes [xR 52, xI s] h Q := by
  refine md_goes (TS := MO) (ch := chO s) (tk := tkO) (P := fun c w => PO s c w ∧ 1 ≤ w (chO s c w)) (sg := sg) (cs := cs) (fun h v c H => ?_) (fun h v c H => ?_) (fun c w => by unfold chO; split <;> omega) (fun c w p q => p.2) (fun {h c w sh op pl ec j u8 Q2} H p e59 ho _ _ eo _ _ _ ht K => ?_) (fun {h c w Q2} H p k => ?_) (fun {h c sh Q2} H hsh p k => ?_) hc hn0 hn hsg ho ho3 hTS hok e7 e9 e58 e59 (fun h9 T9 F9 E24 E25 => hQ h9 T9 F9 E24 E25)
  · exact ⟨by simp (disch := decide) only [hset_eq, hset_nk, hset_ni]; exact H.1, by simp (disch := decide) only [hset_eq, hset_nk, hset_ni]; exact H.2.1, by simp (disch := decide) only [hset_eq, hset_nk, hset_ni]; exact H.2.2⟩
  · exact ⟨by simp (disch := decide) only [hset_eq, hset_nk, hset_ni]; exact H.1, by simp (disch := decide) only [hset_eq, hset_nk, hset_ni]; exact H.2.1, by simp (disch := decide) only [hset_eq, hset_nk, hset_ni]; exact H.2.2⟩
  · subst eo
    refine md_seg_s hs (by rw [H.2.2]; decide) ho ?_
    have e : chN (chO s c w) = if 0 < w s then (s : Int) else -9 := chN_if hs
    rw [← e]; exact K
  · exact md_part_o H p.1.2.2.1 p.1.2.2.2 k
  · obtain ⟨⟨p1, p2, p3, p4⟩, p5⟩ := p
    obtain ⟨q1, q2⟩ := ch_plain hs p5
    have e : chO s c (wE cs (-1) sh) = s := if_pos q1
    rw [e, q2, tot_plain (by omega), tot_plain5] at k
    rw [e, q2] at p3
    rw [tot_plain5] at p4
    refine md_plain_w hsh hs (by rw [H.2.2]; decide) (fun {Q9} k9 => md_part_o H p3 p4 (fun h9 a9 b9 => k9 h9 (k h9 a9 b9)))

theorem v_bd {lo hi va t : Int} (hN : CdN lo hi) (h1 : lo ≤ va) (h2 : va ≤ hi) (ht : 1 ≤ t) : 0 ≤ ((va - lo + 1) * t - 1) / (hi - lo + 1) ∧ ((va - lo + 1) * t - 1) / (hi - lo + 1) < t := by
  obtain ⟨n1, n2, n3⟩ := hN
  have hr : 0 < hi - lo + 1 := by omega
  have m1 : 1 * 1 ≤ (va - lo + 1) * t := Int.mul_le_mul (by omega) ht (by decide) (by omega)
  have m2 : (va - lo + 1) * t ≤ (hi - lo + 1) * t := Int.mul_le_mul_of_nonneg_right (by omega) (by omega)
  refine ⟨Int.ediv_nonneg (by omega) (by omega), ?_⟩
  apply Int.ediv_lt_of_lt_mul hr
  rw [Int.mul_comm t]
  omega
theorem chAt_congr {w w' : Nat → Int} {v : Int} (h : ∀ k, k ≤ 4 → tot w k = tot w' k) : chAt w v = chAt w' v := by
  unfold chAt
  rw [h 1 (by decide), h 2 (by decide), h 3 (by decide), h 4 (by decide)]

set_option maxHeartbeats 4000000 in
set_option maxRecDepth 100000 in
theorem md_goes_r {x : mX} {h : mH} {Q : Int → mH → Prop} {n o : Int} {sg cs : Int → Int} {bs : List Int} {c : Rd} {K : Int} (hN2 : bs.length ≤ 2800) (hsf : ∀ k, srF bs k = 0 ∨ srF bs k = 1) (hc : ∀ k, 0 ≤ cs k ∧ cs k ≤ 14) (hn0 : 0 ≤ n) (hn : n ≤ 60) (hsg : ∀ k : Int, 0 ≤ k → k < n → 0 ≤ sg k ∧ sg k ≤ 3) (ho : 0 ≤ o) (ho3 : o ≤ 3) (hTS : MR h bs c) (hok : dOk chR (rprt (srF bs)) (PR K) cs (fun j : Nat => cxp sg (n - (j : Int)) j) (lng o n + 1) 0 c) (e7 : h 52 7 = o) (e9 : h 52 9 = n) (e58 : h 58 = sg) (e59 : h 59 = cs) (hQ : ∀ h', MR h' bs (dsc chR (rprt (srF bs)) cs (fun j : Nat => cxp sg (n - (j : Int)) j) (lng o n + 1) 0 c).2.2 → FrY h h' → h' 52 24 = (dsc chR (rprt (srF bs)) cs (fun j : Nat => cxp sg (n - (j : Int)) j) (lng o n + 1) 0 c).1 → Q ((dsc chR (rprt (srF bs)) cs (fun j : Nat => cxp sg (n - (j : Int)) j) (lng o n + 1) 0 c).2.1 : Nat) h') : CtI x mtX10_goes [xR 52, xI (-9)] h Q := by
  refine md_goes (TS := fun h c => MR h bs c) (ch := chR) (tk := rprt (srF bs)) (P := PR K) (sg := sg) (cs := cs) (fun h v c H => ?_) (fun h v c H => ?_) (fun c w => chAt_le _ _) (fun c w p q => p.2.2.2.1) (fun {h c w sh op pl ec j u8 Q2} H p e59 ho hpl hpl2 eo w1 w0 wb ht K => ?_) (fun {h c w Q2} H p k => ?_) (fun {h c sh Q2} H hsh p k => ?_) hc hn0 hn hsg ho ho3 hTS hok e7 e9 e58 e59 (fun h9 T9 F9 E24 _ => hQ h9 T9 F9 E24)
  · exact ⟨by simp (disch := decide) only [hset_eq, hset_nk, hset_ni]; exact H.1, by simp (disch := decide) only [hset_eq, hset_nk, hset_ni]; exact H.2.1, by simp (disch := decide) only [hset_eq, hset_nk, hset_ni]; exact H.2.2.1, by simp (disch := decide) only [hset_eq, hset_nk, hset_ni]; exact H.2.2.2.1, by simp (disch := decide) only [hset_eq, hset_nk, hset_ni]; exact H.2.2.2.2.1, by simp (disch := decide) only [hset_eq, hset_nk, hset_ni]; exact H.2.2.2.2.2.1, H.2.2.2.2.2.2.congr (by simp (disch := decide) only [hset_eq, hset_nk, hset_ni]) (by simp (disch := decide) only [hset_eq, hset_nk, hset_ni])⟩
  · exact ⟨by simp (disch := decide) only [hset_eq, hset_nk, hset_ni]; exact H.1, by simp (disch := decide) only [hset_eq, hset_nk, hset_ni]; exact H.2.1, by simp (disch := decide) only [hset_eq, hset_nk, hset_ni]; exact H.2.2.1, by simp (disch := decide) only [hset_eq, hset_nk, hset_ni]; exact H.2.2.2.1, by simp (disch := decide) only [hset_eq, hset_nk, hset_ni]; exact H.2.2.2.2.1, by simp (disch := decide) only [hset_eq, hset_nk, hset_ni]; exact H.2.2.2.2.2.1, H.2.2.2.2.2.2.congr (by simp (disch := decide) only [hset_eq, hset_nk, hset_ni]) (by simp (disch := decide) only [hset_eq, hset_nk, hset_ni])⟩
  · obtain ⟨p1, p2, p3, p4, p5, p6, p7, p8, p9, p10⟩ := p
    have e17 : h 52 17 = 1 := H.2.2.2.2.2.1
    refine go_aload_n dX10_goes_82 rfl ?_
    refine gfX10_mode (by first | assumption | rfl) flX10_46 dX10_goes_83 ?_
    try simp (disch := decide) only [hset_eq, hset_nk, hset_ni, e17]
    refine go_iconst dX10_goes_86 ⟨by decide, by decide⟩ ?_
    refine go_icmp_ne_f (tgt := 107) dX10_goes_87 (by decide) (rfl) ?_
    refine go_aload_n dX10_goes_90 rfl ?_
    refine go_iload dX10_goes_91 rfl ?_
    refine go_iload dX10_goes_93 rfl ?_
    refine go_aload_n dX10_goes_95 rfl ?_
    refine go_iload dX10_goes_96 rfl ?_
    refine go_cV1I (by first | assumption | rfl) vlX10_113 dX10_goes_98 (by decide) rfl rfl (by decide) (Nat.le_of_ble_eq_true rfl) (md_lies H p1 p2 p7 (by omega) ?_)
    refine go_cV3I (by first | assumption | rfl) vlX10_136 dX10_goes_101 (by decide) rfl rfl (by decide) (Nat.le_of_ble_eq_true rfl) (md_signAt (w := w) hpl hpl2 ho (by rw [e59]; exact w1) w0 wb (v_bd p1 p2.1 p2.2.1 p7).1 ?_)
    refine go_goto (tgt := 122) dX10_goes_104 (by decide) ?_
    exact K
  · obtain ⟨p1, p2, p3, p4, p5, p6, p7, p8, p9, p10⟩ := p
    exact md_part_r H hN2 hsf p1 p2 p3 p5 p4 p6 (by omega) p9 p10 k
  · obtain ⟨p1, p2, p3, p4, p5, p6, p7, p8, p9, p10⟩ := p
    have hv := v_bd p1 p2.1 p2.2.1 p7
    have hin := chAt_in (w := wE cs (-1) sh) hv.1 hv.2
    have h4 := (st_plain (cs := cs) (sh := sh)).2
    have hcr : chAt (wE cs (-1) sh) (((c.2.2.2.1 - c.1 + 1) * tot (wE cs (-1) sh) 5 - 1) / (c.2.1 - c.1 + 1)) = chR c (wE cs (-1) sh) := rfl
    rw [hcr] at hin
    obtain ⟨s, hse⟩ : ∃ s, chR c (wE cs (-1) sh) = s := ⟨_, rfl⟩
    rw [hse] at hin k p4 p5 p6 p9 p10
    have hle : chR c (wE cs (-1) sh) ≤ 4 := chAt_le _ _
    have hs : s < 4 := by
      rcases Nat.lt_or_ge s 4 with z | z
      · exact z
      · have : s = 4 := by omega
        subst this
        omega
    have hw1 : wE cs (-1) sh s = 1 := by have := wP_01 sh s; rw [← wE_wP (cs := cs) hs] at this; omega
    rw [hw1, tot_plain (by omega), tot_plain5] at k p6 p10 hin
    rw [tot_plain (by omega), tot_plain5] at p9
    rw [tot_plain (by omega)] at p5
    rw [tot_plain5] at p7 p8
    have g4 := tot_wP4 sh hsh
    refine md_plain_r (v := _) hsh H p1 p2 (by omega) rfl hs hin.1 (by rw [show tot (wP sh) (s + 1) = tot (wP sh) s + 1 by rw [tot, ← wE_wP (cs := cs) hs, hw1]]; exact hin.2.1) (fun {Q9} k9 => md_part_r H hN2 hsf p1 p2 p3 p5 (Int.le_refl 1) p6 (by omega) p9 p10 (fun h9 a9 b9 => k9 h9 (k h9 a9 b9)))
