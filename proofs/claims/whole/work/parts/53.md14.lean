/-! ===== the model: weighs, chance, escapes, likeliest ===== -/
theorem dse_O {s : Nat} {cs : Int → Int} {ctx : Nat → Int} : ∀ (N sh : Nat) (c : Od), (dsc (chO s) tkO cs ctx N sh c).2.2.1 = c.1 + dse (chO s) tkO cs ctx N sh c + 1
  | 0, _, c => by show c.1 + 1 = c.1 + 0 + 1; omega
  | N + 1, sh, c => by
    rw [dsc, dse]
    by_cases h1 : tot (wE cs (ctx N) sh) 5 ≤ 0
    · rw [if_pos h1, if_pos h1]; exact dse_O N sh c
    · rw [if_neg h1, if_neg h1]
      by_cases h2 : chO s c (wE cs (ctx N) sh) = 4
      · rw [if_pos h2, if_pos h2, dse_O N]
        show c.1 + 1 + _ + 1 = _
        omega
      · rw [if_neg h2, if_neg h2]
        show c.1 + 1 = c.1 + 0 + 1
        omega
theorem dOk_pos {s : Nat} {cs : Int → Int} {ctx : Nat → Int} (hs : s < 4) (hc : ∀ k, 0 ≤ cs k ∧ cs k ≤ 14) : ∀ (N sh : Nat) (c : Od), (∀ j, j < N → 0 ≤ ctx j) → sh < 16 → hb sh s = false → dOk (chO s) tkO (PO s) cs ctx N sh c → dOk (chO s) tkO (fun c w => PO s c w ∧ 1 ≤ w (chO s c w)) cs ctx N sh c
  | 0, sh, c, _, hsh, hns, h => by
    have st := st_plain (cs := cs) (sh := sh)
    have h1 := st.1 s hs
    have h2 : b1 (hb sh s) = 0 := by rw [hns]; rfl
    have e : chO s c (wE cs (-1) sh) = s := if_pos (by omega)
    exact ⟨h, by rw [e]; omega⟩
  | N + 1, sh, c, hctx, hsh, hns, h => by
    have hpl := hctx N (by omega)
    rw [dOk] at h ⊢
    by_cases ht : tot (wE cs (ctx N) sh) 5 ≤ 0
    · rw [if_pos ht] at h ⊢
      exact dOk_pos hs hc N sh c (fun j hj => hctx j (by omega)) hsh hns h
    · rw [if_neg ht] at h ⊢
      obtain ⟨d1, d2, d3, d4, d5, d6, d7, d8⟩ := part_dear (c := (0, 0, 0, [])) (pl := ctx N) hs hsh hns hc (by omega)
      refine ⟨⟨h.1, d1⟩, fun q => dOk_pos hs hc N _ _ (fun j hj => hctx j (by omega)) (orm_bd sh hsh _ (opn_lt _ 4)) (d6 q (by omega)).1 (h.2 q)⟩

set_option maxHeartbeats 4000000 in
set_option maxRecDepth 100000 in
theorem md_common_loop {x : mX} {h : mH} {Q : Int → mH → Prop} {a b G : Int} (hQ : Q G h) : ∀ (m : Nat) (y z : Int), 1 ≤ y → 0 ≤ z → z ≤ m → gI y z = G → ∀ u : mV, Go x mtX10_common 6 [xL a, xU, xL b, xU, xL y, xU, xL z, xU, u, xU] [] h (qL Q)
  | 0, y, z, h1, h0, hm, hg, u => by
    have hz0 : z = 0 := by omega
    refine go_lload dX10_common_6 rfl ?_
    refine go_lconst (z := 0) dX10_common_8 (by decide +kernel) ⟨by decide, by decide⟩ ?_
    refine go_lcmp dX10_common_9 rfl ?_
    refine go_if_eq_t (tgt := 31) dX10_common_10 (by decide) (by rw [if_neg (by omega), if_pos hz0]) ?_
    refine go_lload dX10_common_31 rfl ?_
    refine go_lreturn dX10_common_33 rfl ?_
    subst hz0
    rw [← hg, gI_0 (by omega)] at hQ
    exact hQ
  | m + 1, y, z, h1, h0, hm, hg, u => by
    have ih := md_common_loop (x := x) (a := a) (b := b) hQ m
    by_cases hz0 : z = 0
    · skip
      refine go_lload dX10_common_6 rfl ?_
      refine go_lconst (z := 0) dX10_common_8 (by decide +kernel) ⟨by decide, by decide⟩ ?_
      refine go_lcmp dX10_common_9 rfl ?_
      refine go_if_eq_t (tgt := 31) dX10_common_10 (by decide) (by rw [if_neg (by omega), if_pos hz0]) ?_
      refine go_lload dX10_common_31 rfl ?_
      refine go_lreturn dX10_common_33 rfl ?_
      subst hz0
      rw [← hg, gI_0 (by omega)] at hQ
      exact hQ
    · have g1 := Int.emod_nonneg y (show z ≠ 0 by omega)
      have g2 := Int.emod_lt_of_pos y (show 0 < z by omega)
      refine go_lload dX10_common_6 rfl ?_
      refine go_lconst (z := 0) dX10_common_8 (by decide +kernel) ⟨by decide, by decide⟩ ?_
      refine go_lcmp dX10_common_9 rfl ?_
      refine go_if_eq_f (tgt := 31) dX10_common_10 (by decide) (by rw [if_pos (by omega)]; decide) ?_
      refine go_lload dX10_common_13 rfl ?_
      refine go_lload dX10_common_15 rfl ?_
      refine go_lrem dX10_common_17 (by omega) (by omega) ?_
      refine go_lstore dX10_common_18 (Nat.le_of_ble_eq_true rfl) rfl (by dsimp only [List.set]) ?_
      refine go_lload dX10_common_20 rfl ?_
      refine go_lstore dX10_common_22 (Nat.le_of_ble_eq_true rfl) rfl (by dsimp only [List.set]) ?_
      refine go_lload dX10_common_24 rfl ?_
      refine go_lstore dX10_common_26 (Nat.le_of_ble_eq_true rfl) rfl (by dsimp only [List.set]) ?_
      refine go_goto (tgt := 6) dX10_common_28 (by decide) ?_
      exact ih z (y % z) (by omega) (by omega) (by omega) (by rw [← hg]; exact gI_step (by omega) (by omega)) _

set_option maxHeartbeats 4000000 in
set_option maxRecDepth 100000 in
theorem md_common {x : mX} {h : mH} {Q : Int → mH → Prop} {a b : Int} (ha : 1 ≤ a) (hb : 1 ≤ b) (hQ : Q (gI a b) h) : CtL x mtX10_common [xL a, xL b] h Q := by
  refine ct_go (ls := [xL a, xU, xL b, xU, xU, xU, xU, xU, xU, xU]) (by decide +kernel) (Nat.le_of_ble_eq_true rfl) rfl ?_
  refine go_lload_n dX10_common_0 rfl ?_
  refine go_lstore dX10_common_1 (Nat.le_of_ble_eq_true rfl) rfl (by dsimp only [List.set]) ?_
  refine go_lload_n dX10_common_3 rfl ?_
  refine go_lstore dX10_common_4 (Nat.le_of_ble_eq_true rfl) rfl (by dsimp only [List.set]) ?_
  exact md_common_loop hQ b.toNat a b ha (by omega) (by omega) rfl _

/-- what weighing needs of the model's work -/
def MWg (h : mH) (a : Ab) : Prop := h 52 7 = a.2.1.1 ∧ h 52 9 = (a.2.1.2.2.2.2.length : Int) ∧ (∀ k : Nat, k < a.2.1.2.2.2.2.length → h 58 k = a.2.1.2.2.2.2.getD k 0) ∧ h 59 = (pkn a).1
theorem gI_dl {a b : Int} (ha : 0 ≤ a) : gI a b ∣ a := by
  unfold gI
  have h := Int.natCast_dvd_natCast.mpr (Nat.gcd_dvd_left a.toNat b.toNat)
  rw [Int.toNat_of_nonneg ha] at h
  exact h
theorem gI_dr {a b : Int} (hb : 0 ≤ b) : gI a b ∣ b := by rw [gI_comm]; exact gI_dl hb
/-- the parts, in least terms -/
def rdU (a : Ab) (s : Nat) : Int := (wga a s).2.2.2.1 / gI (wga a s).2.2.2.1 (wga a s).2.2.2.2
def rdL (a : Ab) (s : Nat) : Int := (wga a s).2.2.2.2 / gI (wga a s).2.2.2.1 (wga a s).2.2.2.2
theorem rd_ok {a : Ab} (ok : AbOk a) {s : Nat} (hs : s < 4) : (1 ≤ gI (wga a s).2.2.2.1 (wga a s).2.2.2.2) ∧ (rdU a s * gI (wga a s).2.2.2.1 (wga a s).2.2.2.2 = (wga a s).2.2.2.1) ∧ (rdL a s * gI (wga a s).2.2.2.1 (wga a s).2.2.2.2 = (wga a s).2.2.2.2) ∧ (1 ≤ rdU a s ∧ rdU a s ≤ 777600000) ∧ 1 ≤ rdL a s ∧ rdL a s ≤ 777600000 := by
  have okc : CsOk (pkn a).1 a.2.1.2.1 := (pck_inv ok.2.1.1 ok.2.1.2 _ (Nat.le_refl _)).1
  obtain ⟨_, u1, u2, l1, l2, _⟩ := wgh_ok (s := s) ok.2.1.1 ok.2.1.2 okc hs
  change 1 ≤ (wga a s).2.2.2.1 at u1
  change (wga a s).2.2.2.1 ≤ 777600000 at u2
  change 1 ≤ (wga a s).2.2.2.2 at l1
  change (wga a s).2.2.2.2 ≤ 777600000 at l2
  unfold rdU rdL
  have g1 := gI_pos (a := (wga a s).2.2.2.1) (b := (wga a s).2.2.2.2) u1
  have d1 := gI_dl (a := (wga a s).2.2.2.1) (b := (wga a s).2.2.2.2) (by omega)
  have d2 := gI_dr (a := (wga a s).2.2.2.1) (b := (wga a s).2.2.2.2) (by omega)
  generalize (wga a s).2.2.2.1 = U at *
  generalize (wga a s).2.2.2.2 = L at *
  generalize gI U L = g at *
  have e1 := Int.ediv_mul_cancel d1
  have e2 := Int.ediv_mul_cancel d2
  have p1 : 1 ≤ U / g := by
    apply Decidable.byContradiction; intro q
    have : U / g * g ≤ 0 * g := Int.mul_le_mul_of_nonneg_right (by omega) (by omega)
    omega
  have p2 : 1 ≤ L / g := by
    apply Decidable.byContradiction; intro q
    have : L / g * g ≤ 0 * g := Int.mul_le_mul_of_nonneg_right (by omega) (by omega)
    omega
  have p3 : U / g * 1 ≤ U / g * g := Int.mul_le_mul_of_nonneg_left g1 (by omega)
  have p4 : L / g * 1 ≤ L / g * g := Int.mul_le_mul_of_nonneg_left g1 (by omega)
  exact ⟨g1, e1, e2, ⟨p1, by omega⟩, p2, by omega⟩

theorem dse_congr {σ : Type} {ch : σ → (Nat → Int) → Nat} {tk : σ → Int → Int → Int → σ} {cs : Int → Int} {ctx ctx' : Nat → Int} : ∀ (N sh : Nat) (c : σ), (∀ j, j < N → ctx j = ctx' j) → dse ch tk cs ctx N sh c = dse ch tk cs ctx' N sh c
  | 0, _, _, _ => rfl
  | N + 1, sh, c, h => by
    rw [dse, dse, h N (by omega), dse_congr N sh c (fun j hj => h j (by omega)), dse_congr N _ _ (fun j hj => h j (by omega))]
theorem MPn.g {h : mH} {a : Ab} (P : MPn h a) : MWg h a := ⟨P.1, P.2.1, P.2.2.1, P.2.2.2.1⟩

set_option maxHeartbeats 4000000 in
set_option maxRecDepth 100000 in
theorem md_weighs {x : mX} {h : mH} {Q : mH → Prop} {a : Ab} {s : Nat} (ok : AbOk a) (hs : s < 4) (M : MWg h a) (hQ : ∀ h', MWg h' a → FrW h h' → h' 52 22 = rdU a s → h' 52 23 = rdL a s → h' 52 24 = (wga a s).1 → h' 52 25 = (wga a s).2.2.1 → Q h') : CtV x mtX10_weighs [xR 52, xI s] h Q := by
  obtain ⟨w1, w2, w3, w4, w5, w6, w7, w8⟩ := id ok.2.1.1
  have hl := ok.2.1.2.1
  have okc : CsOk (pkn a).1 a.2.1.2.1 := (pck_inv ok.2.1.1 ok.2.1.2 _ (Nat.le_refl _)).1
  have wok := wgh_ok (s := s) ok.2.1.1 ok.2.1.2 okc hs
  have h2l := lng_le (o := a.2.1.1) (n := (a.2.1.2.2.2.2.length : Int)) w1 (by omega)
  have dk := dOk_pos hs (fun k => by have := okc.1 k; omega) _ _ _ (fun j hj => (cxp_bd (by omega) (fun k q1 q2 => srF_bd ok.2.1.2 (by omega) (by omega))).1) (by decide) (by unfold hb; exact Nat.zero_testBit _) wok.1
  have hrs := run_sr (Nat.le_refl _) M.2.2.1
  have hctx := ctx_congr (o := a.2.1.1) (n := (a.2.1.2.2.2.2.length : Int)) w1 (by omega) hrs
  have hDS : dsc (chO s) tkO (pkn a).1 (fun j : Nat => cxp (srF a.2.1.2.2.2.2) ((a.2.1.2.2.2.2.length : Int) - (j : Int)) j) (lng a.2.1.1 (a.2.1.2.2.2.2.length : Int) + 1) 0 (-1, 1, 1) = wga a s := rfl
  refine ct_go (ls := [xR 52, xI s, xU, xU, xU]) (by decide +kernel) (Nat.le_of_ble_eq_true rfl) rfl ?_
  refine go_aload_n dX10_weighs_0 rfl ?_
  refine go_iconst dX10_weighs_1 ⟨by decide, by decide⟩ ?_
  refine pfX10_mode (by first | assumption | rfl) flX10_46 dX10_weighs_2 ?_
  refine go_aload_n dX10_weighs_5 rfl ?_
  refine go_lconst (z := 1) dX10_weighs_6 (by decide +kernel) ⟨by decide, by decide⟩ ?_
  refine pfX10_upper (by first | assumption | rfl) flX10_90 dX10_weighs_7 ?_
  refine go_aload_n dX10_weighs_10 rfl ?_
  refine go_lconst (z := 1) dX10_weighs_11 (by decide +kernel) ⟨by decide, by decide⟩ ?_
  refine pfX10_lower (by first | assumption | rfl) flX10_94 dX10_weighs_12 ?_
  refine go_aload_n dX10_weighs_15 rfl ?_
  refine go_iload_n dX10_weighs_16 rfl ?_
  refine go_cV1I (by first | assumption | rfl) vlX10_155 dX10_weighs_17 (by decide) rfl rfl (by decide) (Nat.le_of_ble_eq_true rfl) (md_goes_o (s := s) (c := (-1, 1, 1)) (sg := h 58) (cs := (pkn a).1) (n := (a.2.1.2.2.2.2.length : Int)) (o := a.2.1.1) hs (fun k => by have := okc.1 k; omega) (by omega) (by omega) (fun k q1 q2 => by rw [hrs k q1 q2]; exact srF_bd ok.2.1.2 q1 (by omega)) w1 w2 ⟨by simp (disch := decide) only [hset_eq, hset_nk, hset_ni], by simp (disch := decide) only [hset_eq, hset_nk, hset_ni], by simp (disch := decide) only [hset_eq, hset_nk, hset_ni]⟩ (by rw [dOk_congr _ _ _ hctx]; exact dk) (by simp (disch := decide) only [hset_eq, hset_nk, hset_ni]; exact M.1) (by simp (disch := decide) only [hset_eq, hset_nk, hset_ni]; exact M.2.1) (by simp (disch := decide) only [hset_eq, hset_nk, hset_ni]) (by simp (disch := decide) only [hset_eq, hset_nk, hset_ni]; exact M.2.2.2) ?_)
  rw [dsc_congr _ _ _ hctx, dse_congr _ _ _ hctx]
  intro h2 W2 F2 K2 D2
  rw [hDS] at W2 K2 ⊢
  have E22 : h2 52 22 = (wga a s).2.2.2.1 := W2.1
  have E23 : h2 52 23 = (wga a s).2.2.2.2 := W2.2.1
  obtain ⟨g1, g2, g3, g4, g5⟩ := rd_ok ok hs
  have ux : 1 ≤ (wga a s).2.2.2.1 := wok.2.1
  have lx : 1 ≤ (wga a s).2.2.2.2 := wok.2.2.2.1
  refine go_istore_n 2 dX10_weighs_20 rfl (Nat.le_of_ble_eq_true rfl) rfl (by dsimp only [List.set]) ?_
  refine go_aload_n dX10_weighs_21 rfl ?_
  refine gfX10_upper (by first | assumption | rfl) flX10_90 dX10_weighs_22 ?_
  try simp (disch := decide) only [hset_eq, hset_nk, hset_ni, E22, E23]
  refine go_aload_n dX10_weighs_25 rfl ?_
  refine gfX10_lower (by first | assumption | rfl) flX10_94 dX10_weighs_26 ?_
  try simp (disch := decide) only [hset_eq, hset_nk, hset_ni, E22, E23]
  refine go_cS2L slX10_193 dX10_weighs_29 (by decide) (Nat.le_of_ble_eq_true rfl) (md_common ux lx ?_)
  refine go_lstore_n 3 dX10_weighs_32 rfl (Nat.le_of_ble_eq_true rfl) rfl (by dsimp only [List.set]) ?_
  refine go_aload_n dX10_weighs_33 rfl ?_
  first | refine go_dupR dX10_weighs_34 ?_ | refine go_dupI dX10_weighs_34 ?_
  refine gfX10_upper (by first | assumption | rfl) flX10_90 dX10_weighs_35 ?_
  try simp (disch := decide) only [hset_eq, hset_nk, hset_ni, E22, E23]
  refine go_lload_n dX10_weighs_38 rfl ?_
  refine go_ldiv dX10_weighs_39 (by omega) (by omega) ?_
  refine pfX10_upper (by first | assumption | rfl) flX10_90 dX10_weighs_40 ?_
  refine go_aload_n dX10_weighs_43 rfl ?_
  first | refine go_dupR dX10_weighs_44 ?_ | refine go_dupI dX10_weighs_44 ?_
  refine gfX10_lower (by first | assumption | rfl) flX10_94 dX10_weighs_45 ?_
  try simp (disch := decide) only [hset_eq, hset_nk, hset_ni, E22, E23]
  refine go_lload_n dX10_weighs_48 rfl ?_
  refine go_ldiv dX10_weighs_49 (by omega) (by omega) ?_
  refine pfX10_lower (by first | assumption | rfl) flX10_94 dX10_weighs_50 ?_
  refine go_return dX10_weighs_53 rfl ?_
  have FY : ∀ z, z = 2 ∨ z = 6 ∨ z = 7 ∨ z = 9 ∨ z = 19 → h2 52 z = h 52 z := fun z q => by
    rw [F2.2 z (by omega)]; simp (disch := omega) only [hset_nk]
  have FI : ∀ i, i ≠ 52 → i ≠ 60 → h2 i = h i := fun i q1 q2 => by rw [F2.1 i q1 q2, hset_ni q1, hset_ni q1, hset_ni q1]
  refine hQ _ ⟨?_, ?_, ?_, ?_⟩ ⟨fun i q1 q2 q3 q4 => ?_, fun z q => ?_⟩ ?_ ?_ ?_ ?_
  · simp (disch := decide) only [hset_eq, hset_nk, hset_ni]; rw [FY 7 (by decide)]; exact M.1
  · simp (disch := decide) only [hset_eq, hset_nk, hset_ni]; rw [FY 9 (by decide)]; exact M.2.1
  · simp (disch := decide) only [hset_eq, hset_nk, hset_ni]; rw [FI 58 (by decide) (by decide)]; exact M.2.2.1
  · simp (disch := decide) only [hset_eq, hset_nk, hset_ni]; rw [FI 59 (by decide) (by decide)]; exact M.2.2.2
  · rw [hset_ni q1, hset_ni q1, FI i q1 q4]
  · rw [hset_nk (by omega), hset_nk (by omega), FY z (by omega)]
  · simp (disch := decide) only [hset_eq, hset_nk, hset_ni]; rfl
  · simp (disch := decide) only [hset_eq, hset_nk, hset_ni]; rfl
  · simp (disch := decide) only [hset_eq, hset_nk, hset_ni]; exact K2
  · simp (disch := decide) only [hset_eq, hset_nk, hset_ni]; rw [D2, ← hDS, dse_O]; show _ = -1 + _ + 1; omega

theorem MdS.g {h h' : mH} {a : Ab} (H : MdS h a) (ok : AbOk a) (F : FrW h h') (M : MWg h' a) : MdS h' a := H.w F (by rw [M.2.2.2]; exact (pck_inv ok.2.1.1 ok.2.1.2 _ (Nat.le_refl _)).1.2)

set_option maxHeartbeats 4000000 in
set_option maxRecDepth 100000 in
theorem md_chance {x : mX} {h : mH} {Q : Int → mH → Prop} {s w : Int} {a : Ab} (H : MdS h a) (ok : AbOk a) (hQ : ∀ h', MdS h' a → FrM h h' → Q (sp_chance s w a) h') : CtI x mtX10_chance [xR 52, xI s, xI w] h Q := by
  refine ct_go (ls := [xR 52, xI s, xI w]) (by decide +kernel) (Nat.le_of_ble_eq_true rfl) rfl ?_
  refine go_iload_n dX10_chance_0 rfl ?_
  refine go_cS1I slX10_186 dX10_chance_1 (by decide) (Nat.le_of_ble_eq_true rfl) (md_isSign ?_)
  refine go_if_eq (tgt := 16) dX10_chance_4 (by decide) (fun c4 => ?_) (fun c4 => ?_)
  · refine go_iconst dX10_chance_16 ⟨by decide, by decide⟩ ?_
    refine go_ireturn dX10_chance_17 rfl ?_
    have e9 : sp_chance s w a = -1 := by
      unfold sp_chance
      rw [if_pos]
      first | exact Or.inl (if01 c4) | exact Or.inr (if01 c13)
    rw [e9] at hQ; exact hQ h H FrM.rf
  · refine go_iload_n dX10_chance_7 rfl ?_
    refine go_iconst dX10_chance_8 ⟨by decide, by decide⟩ ?_
    refine go_iconst dX10_chance_9 ⟨by decide, by decide⟩ ?_
    refine go_cS3I slX10_164 dX10_chance_10 (by decide) (Nat.le_of_ble_eq_true rfl) (md_within ?_)
    refine go_if_ne (tgt := 18) dX10_chance_13 (by decide) (fun c13 => ?_) (fun c13 => ?_)
    · refine go_aload_n dX10_chance_18 rfl ?_
      refine go_cV0V (by first | assumption | rfl) vlX10_180 dX10_chance_19 (by decide) rfl rfl (by decide) (Nat.le_of_ble_eq_true rfl) (md_packsNow H ok ?_)
      intro h1 H1 P1 F1 K1
      have qs := if10 c4
      have qw := if10 c13
      rw [show s = ((s.toNat : Nat) : Int) by omega]
      refine go_aload_n dX10_chance_22 rfl ?_
      refine go_iload_n dX10_chance_23 rfl ?_
      refine go_cV1V (by first | assumption | rfl) vlX10_197 dX10_chance_24 (by decide) rfl rfl (by decide) (Nat.le_of_ble_eq_true rfl) (md_weighs (a := a) (s := s.toNat) ok (by omega) P1.g ?_)
      intro h2 M2 F2 E22 E23 E24 E25
      obtain ⟨g1, g2, g3, g4, g5⟩ := rd_ok ok (show s.toNat < 4 by omega)
      have H2 := H1.g ok F2 M2
      refine go_iload_n dX10_chance_27 rfl ?_
      refine go_if_ne (tgt := 38) dX10_chance_28 (by decide) (fun c28 => ?_) (fun c28 => ?_)
      · refine go_aload_n dX10_chance_38 rfl ?_
        refine gfX10_lower (by first | assumption | rfl) flX10_94 dX10_chance_39 ?_
        try simp (disch := decide) only [hset_eq, hset_nk, hset_ni, E22, E23]
        refine go_l2i dX10_chance_42 (⟨by omega, by omega⟩) ?_
        refine go_ireturn dX10_chance_43 rfl ?_
        have e9 : sp_chance s w a = (if w = 0 then (wga a s.toNat).2.2.2.1 else (wga a s.toNat).2.2.2.2) / gI (wga a s.toNat).2.2.2.1 (wga a s.toNat).2.2.2.2 := by unfold sp_chance; rw [if_neg (by omega)]
        rw [e9] at hQ
        first
          | (rw [if_pos c28] at hQ; exact hQ h2 H2 (FrM.tr F1.m F2.m))
          | (rw [if_neg c28] at hQ; exact hQ h2 H2 (FrM.tr F1.m F2.m))
      · refine go_aload_n dX10_chance_31 rfl ?_
        refine gfX10_upper (by first | assumption | rfl) flX10_90 dX10_chance_32 ?_
        try simp (disch := decide) only [hset_eq, hset_nk, hset_ni, E22, E23]
        refine go_goto (tgt := 42) dX10_chance_35 (by decide) ?_
        refine go_l2i dX10_chance_42 (⟨by omega, by omega⟩) ?_
        refine go_ireturn dX10_chance_43 rfl ?_
        have e9 : sp_chance s w a = (if w = 0 then (wga a s.toNat).2.2.2.1 else (wga a s.toNat).2.2.2.2) / gI (wga a s.toNat).2.2.2.1 (wga a s.toNat).2.2.2.2 := by unfold sp_chance; rw [if_neg (by omega)]
        rw [e9] at hQ
        first
          | (rw [if_pos c28] at hQ; exact hQ h2 H2 (FrM.tr F1.m F2.m))
          | (rw [if_neg c28] at hQ; exact hQ h2 H2 (FrM.tr F1.m F2.m))
    · refine go_iconst dX10_chance_16 ⟨by decide, by decide⟩ ?_
      refine go_ireturn dX10_chance_17 rfl ?_
      have e9 : sp_chance s w a = -1 := by
        unfold sp_chance
        rw [if_pos]
        first | exact Or.inl (if01 c4) | exact Or.inr (if01 c13)
      rw [e9] at hQ; exact hQ h H FrM.rf

set_option maxHeartbeats 4000000 in
set_option maxRecDepth 100000 in
theorem md_escapes {x : mX} {h : mH} {Q : Int → mH → Prop} {s w : Int} {a : Ab} (H : MdS h a) (ok : AbOk a) (hQ : ∀ h', MdS h' a → FrM h h' → Q (sp_escapes s w a) h') : CtI x mtX10_escapes [xR 52, xI s, xI w] h Q := by
  refine ct_go (ls := [xR 52, xI s, xI w]) (by decide +kernel) (Nat.le_of_ble_eq_true rfl) rfl ?_
  refine go_iload_n dX10_escapes_0 rfl ?_
  refine go_cS1I slX10_186 dX10_escapes_1 (by decide) (Nat.le_of_ble_eq_true rfl) (md_isSign ?_)
  refine go_if_eq (tgt := 16) dX10_escapes_4 (by decide) (fun c4 => ?_) (fun c4 => ?_)
  · refine go_bipush dX10_escapes_16 (by decide +kernel) ⟨by decide, by decide⟩ ?_
    refine go_ireturn dX10_escapes_18 rfl ?_
    have e9 : sp_escapes s w a = -5 := by
      unfold sp_escapes
      rw [if_pos]
      first | exact Or.inl (if01 c4) | exact Or.inr (if01 c13)
    rw [e9] at hQ; exact hQ h H FrM.rf
  · refine go_iload_n dX10_escapes_7 rfl ?_
    refine go_iconst dX10_escapes_8 ⟨by decide, by decide⟩ ?_
    refine go_iconst dX10_escapes_9 ⟨by decide, by decide⟩ ?_
    refine go_cS3I slX10_164 dX10_escapes_10 (by decide) (Nat.le_of_ble_eq_true rfl) (md_within ?_)
    refine go_if_ne (tgt := 19) dX10_escapes_13 (by decide) (fun c13 => ?_) (fun c13 => ?_)
    · refine go_aload_n dX10_escapes_19 rfl ?_
      refine go_cV0V (by first | assumption | rfl) vlX10_180 dX10_escapes_20 (by decide) rfl rfl (by decide) (Nat.le_of_ble_eq_true rfl) (md_packsNow H ok ?_)
      intro h1 H1 P1 F1 K1
      have qs := if10 c4
      have qw := if10 c13
      rw [show s = ((s.toNat : Nat) : Int) by omega]
      refine go_aload_n dX10_escapes_23 rfl ?_
      refine go_iload_n dX10_escapes_24 rfl ?_
      refine go_cV1V (by first | assumption | rfl) vlX10_197 dX10_escapes_25 (by decide) rfl rfl (by decide) (Nat.le_of_ble_eq_true rfl) (md_weighs (a := a) (s := s.toNat) ok (by omega) P1.g ?_)
      intro h2 M2 F2 E22 E23 E24 E25
      have H2 := H1.g ok F2 M2
      refine go_iload_n dX10_escapes_28 rfl ?_
      refine go_if_ne (tgt := 39) dX10_escapes_29 (by decide) (fun c29 => ?_) (fun c29 => ?_)
      · refine go_aload_n dX10_escapes_39 rfl ?_
        refine gfX10_found (by first | assumption | rfl) flX10_120 dX10_escapes_40 ?_
        try simp (disch := decide) only [hset_eq, hset_nk, hset_ni, E24, E25]
        refine go_ireturn dX10_escapes_43 rfl ?_
        have e9 : sp_escapes s w a = if w = 0 then (wga a s.toNat).2.2.1 else (wga a s.toNat).1 := by unfold sp_escapes; rw [if_neg (by omega)]
        rw [e9] at hQ
        first
          | (rw [if_pos c29] at hQ; exact hQ h2 H2 (FrM.tr F1.m F2.m))
          | (rw [if_neg c29] at hQ; exact hQ h2 H2 (FrM.tr F1.m F2.m))
      · refine go_aload_n dX10_escapes_32 rfl ?_
        refine gfX10_escaped (by first | assumption | rfl) flX10_123 dX10_escapes_33 ?_
        try simp (disch := decide) only [hset_eq, hset_nk, hset_ni, E24, E25]
        refine go_goto (tgt := 43) dX10_escapes_36 (by decide) ?_
        refine go_ireturn dX10_escapes_43 rfl ?_
        have e9 : sp_escapes s w a = if w = 0 then (wga a s.toNat).2.2.1 else (wga a s.toNat).1 := by unfold sp_escapes; rw [if_neg (by omega)]
        rw [e9] at hQ
        first
          | (rw [if_pos c29] at hQ; exact hQ h2 H2 (FrM.tr F1.m F2.m))
          | (rw [if_neg c29] at hQ; exact hQ h2 H2 (FrM.tr F1.m F2.m))
    · refine go_bipush dX10_escapes_16 (by decide +kernel) ⟨by decide, by decide⟩ ?_
      refine go_ireturn dX10_escapes_18 rfl ?_
      have e9 : sp_escapes s w a = -5 := by
        unfold sp_escapes
        rw [if_pos]
        first | exact Or.inl (if01 c4) | exact Or.inr (if01 c13)
      rw [e9] at hQ; exact hQ h H FrM.rf

theorem lkc_sc {f f' : Nat → Int × Int} {g : Nat → Int} : ∀ n : Nat, (∀ s, s < n → 1 ≤ g s ∧ (f s).1 = (f' s).1 * g s ∧ (f s).2 = (f' s).2 * g s) → (lkc f n).1 = (lkc f' n).1 ∧ ∃ G : Int, 1 ≤ G ∧ (lkc f n).2.1 = (lkc f' n).2.1 * G ∧ (lkc f n).2.2 = (lkc f' n).2.2 * G
  | 0, _ => ⟨rfl, 1, Int.le_refl 1, rfl, rfl⟩
  | n + 1, h => by
    obtain ⟨i1, G, i2, i3, i4⟩ := lkc_sc n (fun s hs => h s (by omega))
    obtain ⟨g1, g2, g3⟩ := h n (by omega)
    have key : (lkc f n).2.1 * (f n).2 < (f n).1 * (lkc f n).2.2 ↔ (lkc f' n).2.1 * (f' n).2 < (f' n).1 * (lkc f' n).2.2 := by
      rw [i3, i4, g2, g3]
      have e1 : (lkc f' n).2.1 * G * ((f' n).2 * g n) = (lkc f' n).2.1 * (f' n).2 * (G * g n) := by ac_rfl
      have e2 : (f' n).1 * g n * ((lkc f' n).2.2 * G) = (f' n).1 * (lkc f' n).2.2 * (G * g n) := by ac_rfl
      rw [e1, e2]
      have hp : 0 < G * g n := Int.mul_pos (by omega) (by omega)
      constructor
      · intro q; exact Int.lt_of_mul_lt_mul_right q (by omega)
      · intro q; exact Int.mul_lt_mul_of_pos_right q hp
    rw [lkc, lkc]
    by_cases q : (lkc f' n).2.1 * (f' n).2 < (f' n).1 * (lkc f' n).2.2
    · rw [if_pos q, if_pos (key.mpr q)]
      exact ⟨rfl, g n, g1, g2, g3⟩
    · rw [if_neg q, if_neg (fun z => q (key.mp z))]
      exact ⟨i1, G, i2, i3, i4⟩
def rdf (a : Ab) : Nat → Int × Int := fun s => (rdU a s, rdL a s)
theorem lk_eq {a : Ab} (ok : AbOk a) : (lkc (rdf a) 4).1 = sp_likeliest a := by
  unfold sp_likeliest
  refine (lkc_sc (g := fun s => gI (wga a s).2.2.2.1 (wga a s).2.2.2.2) 4 (fun s hs => ?_)).1.symm
  obtain ⟨g1, g2, g3, _⟩ := rd_ok ok hs
  exact ⟨g1, g2.symm, g3.symm⟩

set_option maxHeartbeats 4000000 in
set_option maxRecDepth 100000 in
theorem md_likeliest {x : mX} {h : mH} {Q : Int → mH → Prop} {a : Ab} (H : MdS h a) (ok : AbOk a) (hQ : ∀ h', MdS h' a → FrM h h' → Q (sp_likeliest a) h') : CtI x mtX10_likeliest [xR 52] h Q := by
  obtain ⟨L, hL⟩ : ∃ L, lkc (rdf a) = L := ⟨_, rfl⟩
  refine ct_go (ls := [xR 52, xU, xU, xU, xU, xU, xU]) (by decide +kernel) (Nat.le_of_ble_eq_true rfl) rfl ?_
  refine go_aload_n dX10_likeliest_0 rfl ?_
  refine go_cV0V (by first | assumption | rfl) vlX10_180 dX10_likeliest_1 (by decide) rfl rfl (by decide) (Nat.le_of_ble_eq_true rfl) (md_packsNow H ok ?_)
  intro h1 H1 P1 F1 K1
  refine go_iconst dX10_likeliest_4 ⟨by decide, by decide⟩ ?_
  refine go_istore_n 1 dX10_likeliest_5 rfl (Nat.le_of_ble_eq_true rfl) rfl (by dsimp only [List.set]) ?_
  refine go_aload_n dX10_likeliest_6 rfl ?_
  refine go_iconst dX10_likeliest_7 ⟨by decide, by decide⟩ ?_
  refine go_cV1V rfl vlX10_197 dX10_likeliest_8 (by decide) rfl rfl (by decide) (Nat.le_of_ble_eq_true rfl) (md_weighs (a := a) (s := 0) ok (by decide) P1.g ?_)
  intro h2 M2 F2 E22 E23 E24 E25
  refine go_aload_n dX10_likeliest_11 rfl ?_
  refine gfX10_upper (by first | assumption | rfl) flX10_90 dX10_likeliest_12 ?_
  try simp (disch := decide) only [hset_eq, hset_nk, hset_ni, E22, E23]
  refine go_lstore_n 2 dX10_likeliest_15 rfl (Nat.le_of_ble_eq_true rfl) rfl (by dsimp only [List.set]) ?_
  refine go_aload_n dX10_likeliest_16 rfl ?_
  refine gfX10_lower (by first | assumption | rfl) flX10_94 dX10_likeliest_17 ?_
  try simp (disch := decide) only [hset_eq, hset_nk, hset_ni, E22, E23]
  refine go_lstore dX10_likeliest_20 (Nat.le_of_ble_eq_true rfl) rfl (by dsimp only [List.set]) ?_
  refine go_iconst dX10_likeliest_22 ⟨by decide, by decide⟩ ?_
  refine go_istore dX10_likeliest_23 (Nat.le_of_ble_eq_true rfl) rfl (by dsimp only [List.set]) ?_
  have key : Go x mtX10_likeliest 25 [xR 52, xI (L (0 + 1)).1, xL (L (0 + 1)).2.1, xU, xL (L (0 + 1)).2.2, xU, xI ((0 + 1 : Nat) : Int)] [] h2 (qI Q) := by
    refine up_indN (P := fun n => ∀ hh : mH, MWg hh a → MdS hh a → FrM h hh → Go x mtX10_likeliest 25 [xR 52, xI (L (n + 1)).1, xL (L (n + 1)).2.1, xU, xL (L (n + 1)).2.2, xU, xI ((n + 1 : Nat) : Int)] [] hh (qI Q)) 3 (fun n hn ih hh MM HH FL => ?_) h2 M2 (H1.g ok F2 M2) (FrM.tr F1.m F2.m)
    have lb := lkc_bd (f := rdf a) (B := 777600000) (by decide) (n + 1) (fun s hs => by have z := rd_ok ok (show s < 4 by omega); exact ⟨z.2.2.2.1, z.2.2.2.2⟩)
    rw [hL] at lb
    by_cases hlt : n < 3
    · obtain ⟨g1, g2, g3, g4, g5⟩ := rd_ok ok (show n + 1 < 4 by omega)
      refine go_iload dX10_likeliest_25 rfl ?_
      refine go_iconst dX10_likeliest_27 ⟨by decide, by decide⟩ ?_
      refine go_icmp_ge_f (tgt := 74) dX10_likeliest_28 (by decide) (by omega) ?_
      refine go_aload_n dX10_likeliest_31 rfl ?_
      refine go_iload dX10_likeliest_32 rfl ?_
      refine go_cV1V (by first | assumption | rfl) vlX10_197 dX10_likeliest_34 (by decide) rfl rfl (by decide) (Nat.le_of_ble_eq_true rfl) (md_weighs (a := a) (s := n + 1) ok (by omega) MM ?_)
      intro h2 M2 F2 E22 E23 E24 E25
      refine go_aload_n dX10_likeliest_37 rfl ?_
      refine gfX10_upper (by first | assumption | rfl) flX10_90 dX10_likeliest_38 ?_
      try simp (disch := decide) only [hset_eq, hset_nk, hset_ni, E22, E23]
      refine go_lload dX10_likeliest_41 rfl ?_
      refine go_lmul dX10_likeliest_43 (inL_prod (by omega) (by omega) (by omega) (by omega)) ?_
      refine go_lload_n dX10_likeliest_44 rfl ?_
      refine go_aload_n dX10_likeliest_45 rfl ?_
      refine gfX10_lower (by first | assumption | rfl) flX10_94 dX10_likeliest_46 ?_
      try simp (disch := decide) only [hset_eq, hset_nk, hset_ni, E22, E23]
      refine go_lmul dX10_likeliest_49 (inL_prod (by omega) (by omega) (by omega) (by omega)) ?_
      refine go_lcmp dX10_likeliest_50 rfl ?_
      refine go_if_le (tgt := 68) dX10_likeliest_51 (by decide) (fun c51 => ?_) (fun c51 => ?_)
      · refine go_iinc dX10_likeliest_68 rfl rfl rfl (by omega) (by omega) (by dsimp only [List.set]) ?_
        refine go_goto (tgt := 25) dX10_likeliest_71 (by decide) ?_
        first
          | (have eL : L (n + 1 + 1) = (((n + 1 : Nat) : Int), rdU a (n + 1), rdL a (n + 1)) := by (rw [← hL, lkc, if_pos (by rw [hL]; have q := c51; split at q <;> first | assumption | (split at q <;> omega))]; rfl)
             have z := ih (by omega) h2 M2 (HH.g ok F2 M2) (FrM.tr FL F2.m)
             rw [eL] at z
             exact z)
          | (have eL : L (n + 1 + 1) = L (n + 1) := by (rw [← hL, lkc, if_neg (by rw [hL]; intro q2; have q := c51; rw [if_pos (show (L (n + 1)).2.1 * rdL a (n + 1) < rdU a (n + 1) * (L (n + 1)).2.2 from q2)] at q; omega)])
             have z := ih (by omega) h2 M2 (HH.g ok F2 M2) (FrM.tr FL F2.m)
             rw [eL] at z
             exact z)
      · refine go_iload dX10_likeliest_54 rfl ?_
        refine go_istore_n 1 dX10_likeliest_56 rfl (Nat.le_of_ble_eq_true rfl) rfl (by dsimp only [List.set]) ?_
        refine go_aload_n dX10_likeliest_57 rfl ?_
        refine gfX10_upper (by first | assumption | rfl) flX10_90 dX10_likeliest_58 ?_
        try simp (disch := decide) only [hset_eq, hset_nk, hset_ni, E22, E23]
        refine go_lstore_n 2 dX10_likeliest_61 rfl (Nat.le_of_ble_eq_true rfl) rfl (by dsimp only [List.set]) ?_
        refine go_aload_n dX10_likeliest_62 rfl ?_
        refine gfX10_lower (by first | assumption | rfl) flX10_94 dX10_likeliest_63 ?_
        try simp (disch := decide) only [hset_eq, hset_nk, hset_ni, E22, E23]
        refine go_lstore dX10_likeliest_66 (Nat.le_of_ble_eq_true rfl) rfl (by dsimp only [List.set]) ?_
        refine go_iinc dX10_likeliest_68 rfl rfl rfl (by omega) (by omega) (by dsimp only [List.set]) ?_
        refine go_goto (tgt := 25) dX10_likeliest_71 (by decide) ?_
        first
          | (have eL : L (n + 1 + 1) = (((n + 1 : Nat) : Int), rdU a (n + 1), rdL a (n + 1)) := by (rw [← hL, lkc, if_pos (by rw [hL]; have q := c51; split at q <;> first | assumption | (split at q <;> omega))]; rfl)
             have z := ih (by omega) h2 M2 (HH.g ok F2 M2) (FrM.tr FL F2.m)
             rw [eL] at z
             exact z)
          | (have eL : L (n + 1 + 1) = L (n + 1) := by (rw [← hL, lkc, if_neg (by rw [hL]; intro q2; have q := c51; rw [if_pos (show (L (n + 1)).2.1 * rdL a (n + 1) < rdU a (n + 1) * (L (n + 1)).2.2 from q2)] at q; omega)])
             have z := ih (by omega) h2 M2 (HH.g ok F2 M2) (FrM.tr FL F2.m)
             rw [eL] at z
             exact z)
    · have hie : n = 3 := by omega
      subst hie
      refine go_iload dX10_likeliest_25 rfl ?_
      refine go_iconst dX10_likeliest_27 ⟨by decide, by decide⟩ ?_
      refine go_icmp_ge_t (tgt := 74) dX10_likeliest_28 (by decide) (by omega) ?_
      refine go_iload_n dX10_likeliest_74 rfl ?_
      refine go_ireturn dX10_likeliest_75 rfl ?_
      rw [← hL, lk_eq ok]
      exact hQ hh HH FL
  have r0 := rd_ok ok (show 0 < 4 by decide)
  have eL : L (0 + 1) = (((0 : Nat) : Int), rdU a 0, rdL a 0) := by
    rw [← hL, lkc, if_pos]
    · rfl
    · show (0 : Int) * rdL a 0 < rdU a 0 * 1
      omega
  rw [eL] at key
  exact key
