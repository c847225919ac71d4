/-! ===== the model: plain, read ===== -/
theorem wP_01 (sh k : Nat) : 0 ≤ wP sh k ∧ wP sh k ≤ 1 := by have := b1_bd (hb sh k); unfold wP; omega

set_option maxHeartbeats 4000000 in
set_option maxRecDepth 100000 in
theorem md_plain_r {x : mX} {h : mH} {Q : Int → mH → Prop} {bs : List Int} {c : Rd} {K v : Int} {sh s : Nat} (hsh : sh < 16) (H : MR h bs c) (hN : CdN c.1 c.2.1) (hV : RdV K c) (hpc : pc4 sh ≤ 3) (hv : ((c.2.2.2.1 - c.1 + 1) * tot (wP sh) 4 - 1) / (c.2.1 - c.1 + 1) = v) (hs : s < 4) (hs1 : tot (wP sh) s ≤ v) (hs2 : v < tot (wP sh) (s + 1)) (hP : ∀ {Q2 : mH → Prop}, (∀ h', Q s (hset h' 52 24 (-1)) → Q2 h') → CtV x mtX10_part [xR 52, xI (tot (wP sh) s), xI 1, xI (tot (wP sh) 4)] h Q2) : CtI x mtX10_plain [xR 52, xI (-9), xI sh] h Q := by
  have e17 : h 52 17 = 1 := H.2.2.2.2.2.1
  have g4 := tot_wP4 sh hsh
  have g3 := pc4_bd sh
  refine ct_go (ls := [xR 52, xI (-9), xI sh, xU, xU, xU, xU]) (by decide +kernel) (Nat.le_of_ble_eq_true rfl) rfl ?_
  refine go_iconst dX10_plain_0 ⟨by decide, by decide⟩ ?_
  refine go_iload_n dX10_plain_1 rfl ?_
  refine go_cS1I slX10_109 dX10_plain_2 (by decide) (Nat.le_of_ble_eq_true rfl) (md_ones hsh ?_)
  refine go_isub dX10_plain_5 (by omega) (by omega) ?_
  rw [← g4]
  refine go_istore_n 3 dX10_plain_6 rfl (Nat.le_of_ble_eq_true rfl) rfl (by dsimp only [List.set]) ?_
  refine go_aload_n dX10_plain_7 rfl ?_
  refine gfX10_mode (by first | assumption | rfl) flX10_46 dX10_plain_8 ?_
  try simp (disch := decide) only [hset_eq, hset_nk, hset_ni, e17]
  refine go_iconst dX10_plain_11 ⟨by decide, by decide⟩ ?_
  refine go_icmp_ne_f (tgt := 23) dX10_plain_12 (by decide) (rfl) ?_
  refine go_aload_n dX10_plain_15 rfl ?_
  refine go_iload_n dX10_plain_16 rfl ?_
  refine go_cV1I (by first | assumption | rfl) vlX10_113 dX10_plain_17 (by decide) rfl rfl (by decide) (Nat.le_of_ble_eq_true rfl) (md_lies H hN hV (by omega) (by omega) ?_)
  rw [hv]
  refine go_goto (tgt := 24) dX10_plain_20 (by decide) ?_
  refine go_istore dX10_plain_24 (Nat.le_of_ble_eq_true rfl) rfl (by dsimp only [List.set]) ?_
  refine go_iload_n dX10_plain_26 rfl ?_
  refine go_istore dX10_plain_27 (Nat.le_of_ble_eq_true rfl) rfl (by dsimp only [List.set]) ?_
  refine go_iconst dX10_plain_29 ⟨by decide, by decide⟩ ?_
  refine go_istore dX10_plain_30 (Nat.le_of_ble_eq_true rfl) rfl (by dsimp only [List.set]) ?_
  have z : Go x mtX10_plain 32 [xR 52, xI (-9), xI sh, xI (tot (wP sh) 4), xI v, xI (if 4 - 0 ≤ s then (s : Int) else -9), xI (3 - ((0 : Nat) : Int))] [] h (qI Q) := by
    refine up_indN (P := fun i => Go x mtX10_plain 32 [xR 52, xI (-9), xI sh, xI (tot (wP sh) 4), xI v, xI (if 4 - i ≤ s then (s : Int) else -9), xI (3 - (i : Int))] [] h (qI Q)) 4 (fun i hi ih => ?_)
    by_cases hlt : i < 4
    · obtain ⟨n, hn⟩ : ∃ n : Nat, (3 : Int) - i = n := ⟨3 - i, by omega⟩
      rw [hn]
      have g6 := tot_wP sh hsh n (by omega)
      have hN1 : wP sh n = 1 → tot (wP sh) n = v → s = n := fun q1 q2 => by
        have a1 := chAt_of hs (fun k _ => (wP_01 sh k).1) hs1 hs2
        have a2 := chAt_of (w := wP sh) (v := v) (s := n) (by omega) (fun k _ => (wP_01 sh k).1) (by omega) (by rw [tot]; omega)
        omega
      have hN2 : s = n → wP sh n = 1 ∧ tot (wP sh) n = v := fun q => by
        subst q
        have a3 := wP_01 sh s
        rw [tot] at hs2
        omega
      refine go_iload dX10_plain_32 rfl ?_
      refine go_if_lt_f (tgt := 88) dX10_plain_34 (by decide) (by omega) ?_
      refine go_aload_n dX10_plain_37 rfl ?_
      refine gfX10_mode (by first | assumption | rfl) flX10_46 dX10_plain_38 ?_
      try simp (disch := decide) only [hset_eq, hset_nk, hset_ni, e17]
      refine go_iconst dX10_plain_41 ⟨by decide, by decide⟩ ?_
      refine go_icmp_ne_f (tgt := 88) dX10_plain_42 (by decide) (rfl) ?_
      refine go_iload_n dX10_plain_45 rfl ?_
      refine go_iload dX10_plain_46 rfl ?_
      refine go_cS2I slX10_101 dX10_plain_48 (by decide) (Nat.le_of_ble_eq_true rfl) (md_has hsh (by omega) ?_)
      refine go_if_ne (tgt := 78) dX10_plain_51 (by decide) (fun c51 => ?_) (fun c51 => ?_)
      · have es : s ≠ n := by
          intro q
          have qq := hN2 q
          first | (have : wP sh n = 0 := (by unfold wP; rw [b1_ne c51]; rfl); omega) | (unfold wP at qq; omega)
        refine go_iload dX10_plain_78 rfl ?_
        refine go_istore dX10_plain_80 (Nat.le_of_ble_eq_true rfl) rfl (by dsimp only [List.set]) ?_
        refine go_iinc dX10_plain_82 rfl rfl rfl (by omega) (by omega) (by dsimp only [List.set]) ?_
        refine go_goto (tgt := 32) dX10_plain_85 (by decide) ?_
        have z := ih hlt
        rw [show (n : Int) + (-1) = 3 - ((i + 1 : Nat) : Int) by omega]
        first
          | (rw [if_pos (by omega), es] at z; exact z)
          | (rcases Nat.lt_or_ge s n with hsn | hsn
             · rw [if_neg (show ¬ 4 - i ≤ s by omega)]
               rw [if_neg (by omega)] at z
               exact z
             · rw [if_pos (show 4 - i ≤ s by omega)]
               rw [if_pos (by omega)] at z
               exact z)
      · refine go_iload dX10_plain_54 rfl ?_
        refine go_iload_n dX10_plain_56 rfl ?_
        refine go_iconst dX10_plain_57 ⟨by decide, by decide⟩ ?_
        refine go_iload dX10_plain_58 rfl ?_
        refine go_ishl  dX10_plain_60 (shl_ok n (by omega)) (inR_nat (by have := pow_bd n (by omega); omega)) ?_
        refine go_iconst dX10_plain_61 ⟨by decide, by decide⟩ ?_
        refine go_isub dX10_plain_62 (by have := shl_1 n (by omega); omega) (by have := shl_1 n (by omega); omega) ?_
        refine go_iand  dX10_plain_63 (andm_ok sh hsh n (by omega)) (inR_nat (by have := andm_bd sh hsh n (by omega); omega)) ?_
        refine go_cS1I slX10_109 dX10_plain_64 (by decide) (Nat.le_of_ble_eq_true rfl) (md_ones (andm_bd sh hsh n (by omega)) ?_)
        have g7 := pc4_bd (sh &&& (2 ^ n - 1))
        refine go_isub dX10_plain_67 (by omega) (by omega) ?_
        refine go_iload dX10_plain_68 rfl ?_
        refine go_icmp_ne (tgt := 78) dX10_plain_70 (by decide) (fun c70 => ?_) (fun c70 => ?_)
        · have es : s ≠ n := by
            intro q
            have qq := hN2 q
            first | (have : wP sh n = 0 := (by unfold wP; rw [b1_ne c51]; rfl); omega) | (unfold wP at qq; omega)
          refine go_iload dX10_plain_78 rfl ?_
          refine go_istore dX10_plain_80 (Nat.le_of_ble_eq_true rfl) rfl (by dsimp only [List.set]) ?_
          refine go_iinc dX10_plain_82 rfl rfl rfl (by omega) (by omega) (by dsimp only [List.set]) ?_
          refine go_goto (tgt := 32) dX10_plain_85 (by decide) ?_
          have z := ih hlt
          rw [show (n : Int) + (-1) = 3 - ((i + 1 : Nat) : Int) by omega]
          first
            | (rw [if_pos (by omega), es] at z; exact z)
            | (rcases Nat.lt_or_ge s n with hsn | hsn
               · rw [if_neg (show ¬ 4 - i ≤ s by omega)]
                 rw [if_neg (by omega)] at z
                 exact z
               · rw [if_pos (show 4 - i ≤ s by omega)]
                 rw [if_pos (by omega)] at z
                 exact z)
        · have es : s = n := hN1 (by unfold wP; rw [b1_false.mp c51]; rfl) (by omega)
          refine go_iload dX10_plain_73 rfl ?_
          refine go_goto (tgt := 80) dX10_plain_75 (by decide) ?_
          refine go_istore dX10_plain_80 (Nat.le_of_ble_eq_true rfl) rfl (by dsimp only [List.set]) ?_
          refine go_iinc dX10_plain_82 rfl rfl rfl (by omega) (by omega) (by dsimp only [List.set]) ?_
          refine go_goto (tgt := 32) dX10_plain_85 (by decide) ?_
          have z := ih hlt
          rw [show (n : Int) + (-1) = 3 - ((i + 1 : Nat) : Int) by omega]
          first
            | (rw [if_pos (by omega), es] at z; exact z)
            | (rcases Nat.lt_or_ge s n with hsn | hsn
               · rw [if_neg (show ¬ 4 - i ≤ s by omega)]
                 rw [if_neg (by omega)] at z
                 exact z
               · rw [if_pos (show 4 - i ≤ s by omega)]
                 rw [if_pos (by omega)] at z
                 exact z)
    · have hie : i = 4 := by omega
      subst hie
      rw [if_pos (show 4 - 4 ≤ s by omega)]
      refine go_iload dX10_plain_32 rfl ?_
      refine go_if_lt_t (tgt := 88) dX10_plain_34 (by decide) (by decide) ?_
      refine go_aload_n dX10_plain_88 rfl ?_
      refine go_iload dX10_plain_89 rfl ?_
      refine go_iload_n dX10_plain_91 rfl ?_
      refine go_iconst dX10_plain_92 ⟨by decide, by decide⟩ ?_
      refine go_iload dX10_plain_93 rfl ?_
      refine go_ishl  dX10_plain_95 (shl_ok s hs) (inR_nat (by have := pow_bd s hs; omega)) ?_
      refine go_iconst dX10_plain_96 ⟨by decide, by decide⟩ ?_
      refine go_isub dX10_plain_97 (by have := shl_1 s hs; omega) (by have := shl_1 s hs; omega) ?_
      refine go_iand  dX10_plain_98 (andm_ok sh hsh s hs) (inR_nat (by have := andm_bd sh hsh s hs; omega)) ?_
      refine go_cS1I slX10_109 dX10_plain_99 (by decide) (Nat.le_of_ble_eq_true rfl) (md_ones (andm_bd sh hsh s hs) ?_)
      have g9 := tot_wP sh hsh s hs
      have g8 := pc4_bd (sh &&& (2 ^ s - 1))
      refine go_isub dX10_plain_102 (by omega) (by omega) ?_
      rw [← g9]
      refine go_iconst dX10_plain_103 ⟨by decide, by decide⟩ ?_
      refine go_iload_n dX10_plain_104 rfl ?_
      refine go_cV3V rfl vlX10_116 dX10_plain_105 (by decide) rfl rfl (by decide) (Nat.le_of_ble_eq_true rfl) (hP (fun h9 k9 => ?_))
      refine go_aload_n dX10_plain_108 rfl ?_
      refine go_iconst dX10_plain_109 ⟨by decide, by decide⟩ ?_
      refine pfX10_found (by first | assumption | rfl) flX10_120 dX10_plain_110 ?_
      refine go_iload dX10_plain_113 rfl ?_
      refine go_ireturn dX10_plain_115 rfl ?_
      exact k9
  rw [if_neg (by omega)] at z
  exact z

/-! ===== the model: goes ===== -/
/-- how many escapes there are on the way -/
def dse {σ : Type} (ch : σ → (Nat → Int) → Nat) (tk : σ → Int → Int → Int → σ) (cs : Int → Int) (ctx : Nat → Int) : Nat → Nat → σ → Int
  | 0, _, _ => 0
  | n + 1, sh, c => if tot (wE cs (ctx n) sh) 5 ≤ 0 then dse ch tk cs ctx n sh c else if ch c (wE cs (ctx n) sh) = 4 then 1 + dse ch tk cs ctx n (sh ||| opn (wE cs (ctx n) sh) 4) (tk c (tot (wE cs (ctx n) sh) (ch c (wE cs (ctx n) sh))) (wE cs (ctx n) sh (ch c (wE cs (ctx n) sh))) (tot (wE cs (ctx n) sh) 5)) else 0
def FrY (h h' : mH) : Prop := (∀ i, i ≠ 52 → i ≠ 60 → h' i = h i) ∧ ∀ z, z ≤ 11 ∨ z = 15 ∨ (17 ≤ z ∧ z ≤ 19) → h' 52 z = h 52 z
theorem FrX.y {h h' : mH} (a : FrX h h') : FrY h h' := ⟨a.1, fun z q => a.2 z (by omega)⟩
theorem FrY.rf {h : mH} : FrY h h := ⟨fun _ _ _ => rfl, fun _ _ => rfl⟩
theorem FrY.tr {h h1 h2 : mH} (a : FrY h h1) (b : FrY h1 h2) : FrY h h2 := ⟨fun i q1 q2 => (b.1 i q1 q2).trans (a.1 i q1 q2), fun z q => (b.2 z q).trans (a.2 z q)⟩
theorem FrY.st {h h1 : mH} {z v : Int} (a : FrY h h1) (hz : ¬ (z ≤ 11 ∨ z = 15 ∨ (17 ≤ z ∧ z ≤ 19))) : FrY h (hset h1 52 z v) := ⟨fun i q1 q2 => by rw [hset_ni q1]; exact a.1 i q1 q2, fun y q => by rw [hset_nk (by omega)]; exact a.2 y q⟩
theorem opn_wE {cs : Int → Int} {pl : Int} {sh : Nat} : opn (wE cs pl sh) 4 = opn (wS cs pl sh) 4 := opn_congr (fun k hk => wE_lt hk)
theorem tot_wE {cs : Int → Int} {pl : Int} {sh s : Nat} (hs : s ≤ 4) : tot (wE cs pl sh) s = tot (wS cs pl sh) s := tot_congr (fun k hk => wE_lt (by omega))
/-- what the model knows of the widths at a context -/
theorem wE_op {cs : Int → Int} {pl : Int} {sh : Nat} (hpl : 0 ≤ pl) (hc : ∀ k, 0 ≤ cs k ∧ cs k ≤ 14) : (∀ s : Nat, s < 4 → hb (opn (wE cs pl sh) 4) s = true → cs (4 * pl + s) = wE cs pl sh s) ∧ (∀ s : Nat, s < 4 → hb (opn (wE cs pl sh) 4) s = false → wE cs pl sh s = 0) ∧ ∀ s : Nat, s < 4 → 0 ≤ wE cs pl sh s ∧ wE cs pl sh s ≤ 1000 := by
  have hw : ∀ s : Nat, s < 4 → wE cs pl sh s = if hb sh s = true then 0 else cs (4 * pl + s) := fun s hs => by rw [wE_lt hs, wS_m hpl]
  refine ⟨fun s hs q => ?_, fun s hs q => ?_, fun s hs => ?_⟩
  · rw [hb_opn hs] at q
    have q2 := of_decide_eq_true q
    rw [hw s hs] at q2 ⊢
    split
    · rename_i e; rw [if_pos e] at q2; omega
    · rfl
  · rw [hb_opn hs] at q
    have q2 := of_decide_eq_false q
    have := hc (4 * pl + s)
    rw [hw s hs] at q2 ⊢
    split
    · rfl
    · rename_i e; rw [if_neg e] at q2; omega
  · have := hc (4 * pl + s)
    rw [hw s hs]
    split <;> omega
theorem opn_tot {cs : Int → Int} {pl : Int} {sh : Nat} (hpl : 0 ≤ pl) (hc : ∀ k, 0 ≤ cs k ∧ cs k ≤ 14) : (opn (wE cs pl sh) 4 = 0 → tot (wE cs pl sh) 5 ≤ 0) ∧ (opn (wE cs pl sh) 4 ≠ 0 → 0 < tot (wE cs pl sh) 5) := by
  obtain ⟨a1, a2, a3⟩ := wE_op (sh := sh) hpl hc
  have g0 := a3 0 (by decide); have g1 := a3 1 (by decide); have g2 := a3 2 (by decide); have g3 := a3 3 (by decide)
  have t5 := tot5 (wE cs pl sh)
  have e4 : wE cs pl sh 4 = esc pl sh (opn (wE cs pl sh) 4) := by rw [wE_4, opn_wE]
  have eb := esc_bd pl sh (opn (wE cs pl sh) 4)
  constructor
  · intro q
    rw [q] at e4 a2
    have h0 := a2 0 (by decide) (Nat.zero_testBit 0); have h1 := a2 1 (by decide) (Nat.zero_testBit 1); have h2 := a2 2 (by decide) (Nat.zero_testBit 2); have h3 := a2 3 (by decide) (Nat.zero_testBit 3)
    have : esc pl sh 0 = 0 := by unfold esc; split; rfl; decide
    omega
  · intro q
    refine Decidable.byContradiction fun q2 => q ?_
    have e : opn (wE cs pl sh) 4 = 0 + (if 0 < wE cs pl sh 0 then 2 ^ 0 else 0) + (if 0 < wE cs pl sh 1 then 2 ^ 1 else 0) + (if 0 < wE cs pl sh 2 then 2 ^ 2 else 0) + (if 0 < wE cs pl sh 3 then 2 ^ 3 else 0) := rfl
    rw [e, if_neg (by omega), if_neg (by omega), if_neg (by omega), if_neg (by omega)]
theorem chN_9 {k : Nat} : chN k = -9 ↔ k = 4 := by unfold chN; split <;> omega
theorem chN_lt {k : Nat} (h : k ≠ 4) : chN k = (k : Int) := by unfold chN; rw [if_neg h]

set_option maxHeartbeats 4000000 in
set_option maxRecDepth 100000 in
theorem md_goes_loop {x : mX} {σ : Type} {TS : mH → σ → Prop} {ch : σ → (Nat → Int) → Nat} {tk : σ → Int → Int → Int → σ} {P : σ → (Nat → Int) → Prop} {Q : Int → mH → Prop} {n sn : Int} {sg cs : Int → Int}
    (h24 : ∀ h v c, TS h c → TS (hset h 52 24 v) c) (h25 : ∀ h v c, TS h c → TS (hset h 52 25 v) c) (hch4 : ∀ c w, ch c w ≤ 4) (hpos : ∀ c w, P c w → ch c w ≠ 4 → 0 < w (ch c w))
    (hseg : ∀ {h : mH} {c : σ} {w : Nat → Int} {sh op : Nat} {pl ec j : Int} {u8 : mV} {Q2 : mV → mH → Prop}, TS h c → P c w → h 59 = cs → op < 16 → 0 ≤ pl → pl ≤ 84 → op = opn w 4 → (∀ s : Nat, s < 4 → hb op s = true → cs (4 * pl + s) = w s) → (∀ s : Nat, s < 4 → hb op s = false → w s = 0) → (∀ s : Nat, s < 4 → 0 ≤ w s ∧ w s ≤ 1000) → 0 < tot w 5 → Go x mtX10_goes 122 [xR 52, xI sn, xI sh, xI j, xI (4 * pl), xI op, xI ec, xI (tot w 5), u8] [xI (chN (ch c w))] h Q2 → Go x mtX10_goes 82 [xR 52, xI sn, xI sh, xI j, xI (4 * pl), xI op, xI ec, xI (tot w 5), u8] [] h Q2)
    (hpart : ∀ {h : mH} {c : σ} {w : Nat → Int} {Q2 : mH → Prop}, TS h c → P c w → (∀ h', TS h' (tk c (tot w (ch c w)) (w (ch c w)) (tot w 5)) → FrX h h' → Q2 h') → CtV x mtX10_part [xR 52, xI (tot w (ch c w)), xI (w (ch c w)), xI (tot w 5)] h Q2)
    (hplain : ∀ {h : mH} {c : σ} {sh : Nat} {Q2 : Int → mH → Prop}, TS h c → sh < 16 → P c (wE cs (-1) sh) → (∀ h', TS h' (tk c (tot (wE cs (-1) sh) (ch c (wE cs (-1) sh))) (wE cs (-1) sh (ch c (wE cs (-1) sh))) (tot (wE cs (-1) sh) 5)) → FrX h h' → Q2 (ch c (wE cs (-1) sh) : Nat) (hset h' 52 24 (-1))) → CtI x mtX10_plain [xR 52, xI sn, xI sh] h Q2)
    (hc : ∀ k, 0 ≤ cs k ∧ cs k ≤ 14) (hn0 : 0 ≤ n) (hn : n ≤ 60) (hsg : ∀ k : Int, 0 ≤ k → k < n → 0 ≤ sg k ∧ sg k ≤ 3) : ∀ (N : Nat), (N : Int) ≤ n + 1 → N ≤ 4 → ∀ (sh : Nat) (h : mH) (c : σ) (u4 u5 u6 u7 u8 : mV), TS h c → sh < 16 → dOk ch tk P cs (fun j : Nat => cxp sg (n - (j : Int)) j) N sh c → h 52 9 = n → h 58 = sg → h 59 = cs → 0 ≤ h 52 25 → h 52 25 + N ≤ 1000 → (∀ h', TS h' (dsc ch tk cs (fun j : Nat => cxp sg (n - (j : Int)) j) N sh c).2.2 → FrY h h' → h' 52 24 = (dsc ch tk cs (fun j : Nat => cxp sg (n - (j : Int)) j) N sh c).1 → h' 52 25 = h 52 25 + dse ch tk cs (fun j : Nat => cxp sg (n - (j : Int)) j) N sh c → Q ((dsc ch tk cs (fun j : Nat => cxp sg (n - (j : Int)) j) N sh c).2.1 : Nat) h') → Go x mtX10_goes 19 [xR 52, xI sn, xI (sh : Nat), xI ((N : Int) - 1), u4, u5, u6, u7, u8] [] h (qI Q)
  | 0, hNn, hN4, sh, h, c, u4, u5, u6, u7, u8, hTS, hsh, hok, e9, e58, e59, b0, b1, hQ => by
    dsimp only [dOk] at hok
    dsimp only [dsc, dse] at hQ
    refine go_iload_n dX10_goes_19 rfl ?_
    refine go_if_lt_t (tgt := 199) dX10_goes_20 (by decide) (by omega) ?_
    refine go_aload_n dX10_goes_199 rfl ?_
    refine go_iload_n dX10_goes_200 rfl ?_
    refine go_iload_n dX10_goes_201 rfl ?_
    refine go_cV2I (by first | assumption | rfl) vlX10_139 dX10_goes_202 (by decide) rfl rfl (by decide) (Nat.le_of_ble_eq_true rfl) (hplain hTS hsh hok (fun h9 T9 F9 => ?_))
    refine go_ireturn dX10_goes_205 rfl ?_
    exact hQ _ (h24 _ _ _ T9) (F9.y.st (by decide)) (hset_eq _ _ _ _) (by simp (disch := decide) only [hset_eq, hset_nk, hset_ni]; rw [F9.2 25 (by decide)]; exact (Int.add_zero _).symm)
  | N + 1, hNn, hN4, sh, h, c, u4, u5, u6, u7, u8, hTS, hsh, hok, e9, e58, e59, b0, b1, hQ => by
    have ih := md_goes_loop (Q := Q) (n := n) (sn := sn) (sg := sg) (cs := cs) h24 h25 hch4 hpos hseg hpart hplain hc hn0 hn hsg N
    rw [show (((N + 1 : Nat) : Int)) - 1 = (N : Int) + 1 - 1 from rfl]
    rw [show (N : Int) + 1 - 1 = (N : Int) by omega]
    refine go_iload_n dX10_goes_19 rfl ?_
    refine go_if_lt_f (tgt := 199) dX10_goes_20 (by decide) (by omega) ?_
    refine go_aload_n dX10_goes_23 rfl ?_
    refine go_iload_n dX10_goes_24 rfl ?_
    refine go_aload_n dX10_goes_25 rfl ?_
    refine gfX10_many (by first | assumption | rfl) flX10_49 dX10_goes_26 ?_
    try simp (disch := decide) only [hset_eq, hset_nk, hset_ni, e9]
    try simp (disch := decide) only [hset_eq, hset_nk, hset_ni, E25]
    refine go_cV2I (by first | assumption | rfl) vlX10_130 dX10_goes_29 (by decide) rfl rfl (by decide) (Nat.le_of_ble_eq_true rfl) (md_context (n := N) (a := n - (N : Int)) (by omega) (by omega) (by omega) hn (fun k q1 q2 => by rw [e58]; exact hsg k (by omega) q2) ?_)
    rw [e58]
    have hpl := cxp_bd (sg := sg) (a := n - (N : Int)) (n := N) (by omega) (fun k q1 q2 => hsg k (by omega) (by omega))
    obtain ⟨pl, hple⟩ : ∃ pl, cxp sg (n - (N : Int)) N = pl := ⟨_, rfl⟩
    rw [hple] at hpl ⊢
    refine go_istore dX10_goes_32 (Nat.le_of_ble_eq_true rfl) rfl (by dsimp only [List.set]) ?_
    refine go_aload_n dX10_goes_34 rfl ?_
    refine go_iload dX10_goes_35 rfl ?_
    refine go_iload_n dX10_goes_37 rfl ?_
    refine go_cV2I (by first | assumption | rfl) vlX10_133 dX10_goes_38 (by decide) rfl rfl (by decide) (Nat.le_of_ble_eq_true rfl) (md_openAt hpl.1 hpl.2 hsh ?_)
    rw [e59, ← opn_wE]
    rw [dOk, hple] at hok
    rw [dsc, dse, hple] at hQ
    have hoo := wE_op (cs := cs) (pl := pl) (sh := sh) hpl.1 hc
    have hot := opn_tot (cs := cs) (pl := pl) (sh := sh) hpl.1 hc
    have h4e : wE cs pl sh 4 = esc pl sh (opn (wE cs pl sh) 4) := by rw [wE_4, opn_wE]
    have h4b := esc_bd pl sh (opn (wE cs pl sh) 4)
    have t5 : tot (wE cs pl sh) 5 = tot (wE cs pl sh) 4 + wE cs pl sh 4 := rfl
    have t4b := tot_bd (w := wE cs pl sh) (n := 4) (B := 1000) hoo.2.2
    generalize hwe : wE cs pl sh = w at *
    have hop : opn w 4 < 16 := opn_lt _ 4
    refine go_istore dX10_goes_41 (Nat.le_of_ble_eq_true rfl) rfl (by dsimp only [List.set]) ?_
    refine go_iload dX10_goes_43 rfl ?_
    refine go_if_eq (tgt := 193) dX10_goes_45 (by decide) (fun c45 => ?_) (fun c45 => ?_)
    · refine go_iinc dX10_goes_193 rfl rfl rfl (by omega) (by omega) (by dsimp only [List.set]) ?_
      refine go_goto (tgt := 19) dX10_goes_196 (by decide) ?_
      rw [show (N : Int) + (-1) = (N : Int) - 1 by omega]
      have ht : tot w 5 ≤ 0 := hot.1 (by omega)
      rw [if_pos ht] at hok
      rw [if_pos ht, if_pos ht] at hQ
      exact ih (by omega) (by omega) sh h c _ _ _ _ _ hTS hsh hok e9 e58 e59 b0 (by omega) hQ
    · have ht : ¬ tot w 5 ≤ 0 := by have := hot.2 (by omega); omega
      rw [if_neg ht] at hok
      rw [if_neg ht, if_neg ht] at hQ
      obtain ⟨hP1, hok2⟩ := hok
      refine go_iload dX10_goes_48 rfl ?_
      refine go_iload_n dX10_goes_50 rfl ?_
      refine go_ior  dX10_goes_51 (orm_ok _ hop _ hsh) (inR_nat (by have := orm_bd _ hop sh hsh; omega)) ?_
      refine go_bipush dX10_goes_52 (by decide +kernel) ⟨by decide, by decide⟩ ?_
      refine go_icmp_ne (tgt := 61) dX10_goes_54 (by decide) (fun c54 => ?_) (fun c54 => ?_)
      · refine go_iload dX10_goes_61 rfl ?_
        refine go_cS1I slX10_109 dX10_goes_63 (by decide) (Nat.le_of_ble_eq_true rfl) (md_ones hop ?_)
        first | rw [← h4v] | rw [show pc4 (opn w 4) = w 4 by rw [h4e]; unfold esc; rw [if_neg (by omega)]]
        refine go_istore dX10_goes_66 (Nat.le_of_ble_eq_true rfl) rfl (by dsimp only [List.set]) ?_
        refine go_aload_n dX10_goes_68 rfl ?_
        refine go_iload dX10_goes_69 rfl ?_
        refine go_iload dX10_goes_71 rfl ?_
        refine go_iconst dX10_goes_73 ⟨by decide, by decide⟩ ?_
        refine go_cV3I (by first | assumption | rfl) vlX10_105 dX10_goes_74 (by decide) rfl rfl (by decide) (Nat.le_of_ble_eq_true rfl) (md_sum (op := opn w 4) (k := 4) (w := w) hpl.1 hpl.2 hop (by omega) (by rw [e59]; exact hoo.1) hoo.2.1 hoo.2.2 ?_)
        refine go_iload dX10_goes_77 rfl ?_
        refine go_iadd dX10_goes_79 (by omega) (by omega) ?_
        refine go_istore dX10_goes_80 (Nat.le_of_ble_eq_true rfl) rfl (by dsimp only [List.set]) ?_
        refine hseg hTS hP1 e59 hop hpl.1 hpl.2 rfl hoo.1 hoo.2.1 hoo.2.2 (by omega) ?_
        by_cases hch : ch c w = 4
        · have hcn : chN (ch c w) = -9 := chN_9.mpr hch
          rw [hcn]
          have hpE : ∀ {Q2 : mH → Prop}, (∀ h', TS h' (tk c (tot w (ch c w)) (w (ch c w)) (tot w 5)) → FrX h h' → Q2 h') → CtV x mtX10_part [xR 52, xI (tot w 5 - w 4), xI (w 4), xI (tot w 5)] h Q2 := fun {Q2} k => by
            have z := hpart (Q2 := Q2) hTS hP1 k
            rw [hch] at z
            rw [show tot w 5 - w 4 = tot w 4 by omega]
            exact z
          refine go_istore dX10_goes_122 (Nat.le_of_ble_eq_true rfl) rfl (by dsimp only [List.set]) ?_
          refine go_iload dX10_goes_124 rfl ?_
          refine go_bipush dX10_goes_126 (by decide +kernel) ⟨by decide, by decide⟩ ?_
          refine go_icmp_eq_t (tgt := 165) dX10_goes_128 (by decide) (rfl) ?_
          refine go_aload_n dX10_goes_165 rfl ?_
          refine go_iload dX10_goes_166 rfl ?_
          refine go_iload dX10_goes_168 rfl ?_
          refine go_isub dX10_goes_170 (by omega) (by omega) ?_
          refine go_iload dX10_goes_171 rfl ?_
          refine go_iload dX10_goes_173 rfl ?_
          refine go_cV3V rfl vlX10_116 dX10_goes_175 (by decide) rfl rfl (by decide) (Nat.le_of_ble_eq_true rfl) (hpE (fun h9 T9 F9 => ?_))
          have E25 : h9 52 25 = h 52 25 := F9.2 25 (by decide)
          refine go_iload_n dX10_goes_178 rfl ?_
          refine go_iload dX10_goes_179 rfl ?_
          refine go_ior  dX10_goes_181 (orm_ok _ hsh _ hop) (inR_nat (by have := orm_bd sh hsh _ hop; omega)) ?_
          refine go_istore_n 2 dX10_goes_182 rfl (Nat.le_of_ble_eq_true rfl) rfl (by dsimp only [List.set]) ?_
          refine go_aload_n dX10_goes_183 rfl ?_
          first | refine go_dupR dX10_goes_184 ?_ | refine go_dupI dX10_goes_184 ?_
          refine gfX10_escaped (by first | assumption | rfl) flX10_123 dX10_goes_185 ?_
          try simp (disch := decide) only [hset_eq, hset_nk, hset_ni, E25]
          refine go_iconst dX10_goes_188 ⟨by decide, by decide⟩ ?_
          refine go_iadd dX10_goes_189 (by omega) (by omega) ?_
          refine pfX10_escaped (by first | assumption | rfl) flX10_123 dX10_goes_190 ?_
          refine go_iinc dX10_goes_193 rfl rfl rfl (by omega) (by omega) (by dsimp only [List.set]) ?_
          refine go_goto (tgt := 19) dX10_goes_196 (by decide) ?_
          rw [show (N : Int) + (-1) = (N : Int) - 1 by omega]
          refine ih (by omega) (by omega) (sh ||| opn w 4) _ _ _ _ _ _ _ (h25 _ _ _ T9) (orm_bd sh hsh _ hop) (hok2 hch) (by simp (disch := decide) only [hset_eq, hset_nk, hset_ni]; rw [F9.2 9 (by decide)]; exact e9) (by simp (disch := decide) only [hset_eq, hset_nk, hset_ni]; rw [F9.1 58 (by decide) (by decide)]; exact e58) (by simp (disch := decide) only [hset_eq, hset_nk, hset_ni]; rw [F9.1 59 (by decide) (by decide)]; exact e59) (by simp (disch := decide) only [hset_eq, hset_nk, hset_ni]; omega) (by simp (disch := decide) only [hset_eq, hset_nk, hset_ni]; omega) (fun h8 T8 F8 E24 E25b => ?_)
          rw [if_pos hch, if_pos hch] at hQ
          refine hQ h8 T8 (FrY.tr (F9.y.st (by decide)) F8) E24 (by rw [E25b]; simp (disch := decide) only [hset_eq, hset_nk, hset_ni]; omega)
        · have hcn := chN_lt hch
          have hc4 := hch4 c w
          have hwp := hpos c w hP1 hch
          have hcs : cs (4 * pl + (ch c w : Nat)) = w (ch c w) := hoo.1 _ (by omega) (by rw [hb_opn (by omega)]; exact decide_eq_true hwp)
          rw [hcn]
          refine go_istore dX10_goes_122 (Nat.le_of_ble_eq_true rfl) rfl (by dsimp only [List.set]) ?_
          refine go_iload dX10_goes_124 rfl ?_
          refine go_bipush dX10_goes_126 (by decide +kernel) ⟨by decide, by decide⟩ ?_
          refine go_icmp_eq_f (tgt := 165) dX10_goes_128 (by decide) (by omega) ?_
          refine go_aload_n dX10_goes_131 rfl ?_
          refine go_aload_n dX10_goes_132 rfl ?_
          refine go_iload dX10_goes_133 rfl ?_
          refine go_iload dX10_goes_135 rfl ?_
          refine go_iload dX10_goes_137 rfl ?_
          refine go_cV3I (by first | assumption | rfl) vlX10_105 dX10_goes_139 (by decide) rfl rfl (by decide) (Nat.le_of_ble_eq_true rfl) (md_sum (op := opn w 4) (k := ch c w) (w := w) hpl.1 hpl.2 hop (by omega) (by rw [e59]; exact hoo.1) hoo.2.1 hoo.2.2 ?_)
          refine go_aload_n dX10_goes_142 rfl ?_
          refine gfX10_counts (by first | assumption | rfl) flX10_29 dX10_goes_143 ?_
          refine go_iload dX10_goes_146 rfl ?_
          refine go_iload dX10_goes_148 rfl ?_
          refine go_iadd dX10_goes_150 (by omega) (by omega) ?_
          refine go_iaload (by first | assumption | rfl) dX10_goes_151 (by omega) (by show 4 * pl + ((ch c w : Nat) : Int) < 340; omega) ?_
          rw [e59, hcs]
          refine go_iload dX10_goes_152 rfl ?_
          refine go_cV3V (by first | assumption | rfl) vlX10_116 dX10_goes_154 (by decide) rfl rfl (by decide) (Nat.le_of_ble_eq_true rfl) (hpart hTS hP1 (fun h9 T9 F9 => ?_))
          refine go_aload_n dX10_goes_157 rfl ?_
          refine go_iload_n dX10_goes_158 rfl ?_
          refine pfX10_found (by first | assumption | rfl) flX10_120 dX10_goes_159 ?_
          refine go_iload dX10_goes_162 rfl ?_
          refine go_ireturn dX10_goes_164 rfl ?_
          rw [if_neg hch] at hQ
          skip
          exact hQ _ (h24 _ _ _ T9) (F9.y.st (by decide)) (by rw [hset_eq]) (by rw [hset_nk (by decide), F9.2 25 (by decide), if_neg hch]; exact (Int.add_zero _).symm)
      · have h4v : w 4 = 0 := by rw [h4e]; unfold esc; rw [if_pos (Or.inr (by omega))]
        refine go_iconst dX10_goes_57 ⟨by decide, by decide⟩ ?_
        refine go_goto (tgt := 66) dX10_goes_58 (by decide) ?_
        first | rw [← h4v] | rw [show pc4 (opn w 4) = w 4 by rw [h4e]; unfold esc; rw [if_neg (by omega)]]
        refine go_istore dX10_goes_66 (Nat.le_of_ble_eq_true rfl) rfl (by dsimp only [List.set]) ?_
        refine go_aload_n dX10_goes_68 rfl ?_
        refine go_iload dX10_goes_69 rfl ?_
        refine go_iload dX10_goes_71 rfl ?_
        refine go_iconst dX10_goes_73 ⟨by decide, by decide⟩ ?_
        refine go_cV3I (by first | assumption | rfl) vlX10_105 dX10_goes_74 (by decide) rfl rfl (by decide) (Nat.le_of_ble_eq_true rfl) (md_sum (op := opn w 4) (k := 4) (w := w) hpl.1 hpl.2 hop (by omega) (by rw [e59]; exact hoo.1) hoo.2.1 hoo.2.2 ?_)
        refine go_iload dX10_goes_77 rfl ?_
        refine go_iadd dX10_goes_79 (by omega) (by omega) ?_
        refine go_istore dX10_goes_80 (Nat.le_of_ble_eq_true rfl) rfl (by dsimp only [List.set]) ?_
        refine hseg hTS hP1 e59 hop hpl.1 hpl.2 rfl hoo.1 hoo.2.1 hoo.2.2 (by omega) ?_
        by_cases hch : ch c w = 4
        · have hcn : chN (ch c w) = -9 := chN_9.mpr hch
          rw [hcn]
          have hpE : ∀ {Q2 : mH → Prop}, (∀ h', TS h' (tk c (tot w (ch c w)) (w (ch c w)) (tot w 5)) → FrX h h' → Q2 h') → CtV x mtX10_part [xR 52, xI (tot w 5 - w 4), xI (w 4), xI (tot w 5)] h Q2 := fun {Q2} k => by
            have z := hpart (Q2 := Q2) hTS hP1 k
            rw [hch] at z
            rw [show tot w 5 - w 4 = tot w 4 by omega]
            exact z
          refine go_istore dX10_goes_122 (Nat.le_of_ble_eq_true rfl) rfl (by dsimp only [List.set]) ?_
          refine go_iload dX10_goes_124 rfl ?_
          refine go_bipush dX10_goes_126 (by decide +kernel) ⟨by decide, by decide⟩ ?_
          refine go_icmp_eq_t (tgt := 165) dX10_goes_128 (by decide) (rfl) ?_
          refine go_aload_n dX10_goes_165 rfl ?_
          refine go_iload dX10_goes_166 rfl ?_
          refine go_iload dX10_goes_168 rfl ?_
          refine go_isub dX10_goes_170 (by omega) (by omega) ?_
          refine go_iload dX10_goes_171 rfl ?_
          refine go_iload dX10_goes_173 rfl ?_
          refine go_cV3V rfl vlX10_116 dX10_goes_175 (by decide) rfl rfl (by decide) (Nat.le_of_ble_eq_true rfl) (hpE (fun h9 T9 F9 => ?_))
          have E25 : h9 52 25 = h 52 25 := F9.2 25 (by decide)
          refine go_iload_n dX10_goes_178 rfl ?_
          refine go_iload dX10_goes_179 rfl ?_
          refine go_ior  dX10_goes_181 (orm_ok _ hsh _ hop) (inR_nat (by have := orm_bd sh hsh _ hop; omega)) ?_
          refine go_istore_n 2 dX10_goes_182 rfl (Nat.le_of_ble_eq_true rfl) rfl (by dsimp only [List.set]) ?_
          refine go_aload_n dX10_goes_183 rfl ?_
          first | refine go_dupR dX10_goes_184 ?_ | refine go_dupI dX10_goes_184 ?_
          refine gfX10_escaped (by first | assumption | rfl) flX10_123 dX10_goes_185 ?_
          try simp (disch := decide) only [hset_eq, hset_nk, hset_ni, E25]
          refine go_iconst dX10_goes_188 ⟨by decide, by decide⟩ ?_
          refine go_iadd dX10_goes_189 (by omega) (by omega) ?_
          refine pfX10_escaped (by first | assumption | rfl) flX10_123 dX10_goes_190 ?_
          refine go_iinc dX10_goes_193 rfl rfl rfl (by omega) (by omega) (by dsimp only [List.set]) ?_
          refine go_goto (tgt := 19) dX10_goes_196 (by decide) ?_
          rw [show (N : Int) + (-1) = (N : Int) - 1 by omega]
          refine ih (by omega) (by omega) (sh ||| opn w 4) _ _ _ _ _ _ _ (h25 _ _ _ T9) (orm_bd sh hsh _ hop) (hok2 hch) (by simp (disch := decide) only [hset_eq, hset_nk, hset_ni]; rw [F9.2 9 (by decide)]; exact e9) (by simp (disch := decide) only [hset_eq, hset_nk, hset_ni]; rw [F9.1 58 (by decide) (by decide)]; exact e58) (by simp (disch := decide) only [hset_eq, hset_nk, hset_ni]; rw [F9.1 59 (by decide) (by decide)]; exact e59) (by simp (disch := decide) only [hset_eq, hset_nk, hset_ni]; omega) (by simp (disch := decide) only [hset_eq, hset_nk, hset_ni]; omega) (fun h8 T8 F8 E24 E25b => ?_)
          rw [if_pos hch, if_pos hch] at hQ
          refine hQ h8 T8 (FrY.tr (F9.y.st (by decide)) F8) E24 (by rw [E25b]; simp (disch := decide) only [hset_eq, hset_nk, hset_ni]; omega)
        · have hcn := chN_lt hch
          have hc4 := hch4 c w
          have hwp := hpos c w hP1 hch
          have hcs : cs (4 * pl + (ch c w : Nat)) = w (ch c w) := hoo.1 _ (by omega) (by rw [hb_opn (by omega)]; exact decide_eq_true hwp)
          rw [hcn]
          refine go_istore dX10_goes_122 (Nat.le_of_ble_eq_true rfl) rfl (by dsimp only [List.set]) ?_
          refine go_iload dX10_goes_124 rfl ?_
          refine go_bipush dX10_goes_126 (by decide +kernel) ⟨by decide, by decide⟩ ?_
          refine go_icmp_eq_f (tgt := 165) dX10_goes_128 (by decide) (by omega) ?_
          refine go_aload_n dX10_goes_131 rfl ?_
          refine go_aload_n dX10_goes_132 rfl ?_
          refine go_iload dX10_goes_133 rfl ?_
          refine go_iload dX10_goes_135 rfl ?_
          refine go_iload dX10_goes_137 rfl ?_
          refine go_cV3I (by first | assumption | rfl) vlX10_105 dX10_goes_139 (by decide) rfl rfl (by decide) (Nat.le_of_ble_eq_true rfl) (md_sum (op := opn w 4) (k := ch c w) (w := w) hpl.1 hpl.2 hop (by omega) (by rw [e59]; exact hoo.1) hoo.2.1 hoo.2.2 ?_)
          refine go_aload_n dX10_goes_142 rfl ?_
          refine gfX10_counts (by first | assumption | rfl) flX10_29 dX10_goes_143 ?_
          refine go_iload dX10_goes_146 rfl ?_
          refine go_iload dX10_goes_148 rfl ?_
          refine go_iadd dX10_goes_150 (by omega) (by omega) ?_
          refine go_iaload (by first | assumption | rfl) dX10_goes_151 (by omega) (by show 4 * pl + ((ch c w : Nat) : Int) < 340; omega) ?_
          rw [e59, hcs]
          refine go_iload dX10_goes_152 rfl ?_
          refine go_cV3V (by first | assumption | rfl) vlX10_116 dX10_goes_154 (by decide) rfl rfl (by decide) (Nat.le_of_ble_eq_true rfl) (hpart hTS hP1 (fun h9 T9 F9 => ?_))
          refine go_aload_n dX10_goes_157 rfl ?_
          refine go_iload_n dX10_goes_158 rfl ?_
          refine pfX10_found (by first | assumption | rfl) flX10_120 dX10_goes_159 ?_
          refine go_iload dX10_goes_162 rfl ?_
          refine go_ireturn dX10_goes_164 rfl ?_
          rw [if_neg hch] at hQ
          skip
          exact hQ _ (h24 _ _ _ T9) (F9.y.st (by decide)) (by rw [hset_eq]) (by rw [hset_nk (by decide), F9.2 25 (by decide), if_neg hch]; exact (Int.add_zero _).symm)
