/-! ===== the model's whole state ===== -/
def LtS (h : mH) (lt : List Int) : Prop := h 52 6 = (lt.length : Int) ∧ ∀ k : Nat, k < lt.length → h 57 k = lt.getD k 0
def UnS (h : mH) (hs : List PV) : Prop := h 52 2 = (hs.length : Int) ∧ ∀ (j : Nat) (v : PV), hs[j]? = some v → NwS (fun k => h 54 (65 * ((hs.length : Int) - 1 - j) + k)) v
def ImM (h : mH) (i : Int) (im : Option PV) : Prop := h 56 i = (if im.isSome = true then 1 else 0) ∧ ∀ v, im = some v → NwS (fun k => h 55 (65 * i + k)) v
def MdS (h : mH) (a : Ab) : Prop := LtS h a.1 ∧ NwS (h 53) a.2.1 ∧ UnS h a.2.2.1 ∧ (ImM h 0 a.2.2.2.1 ∧ ImM h 1 a.2.2.2.2) ∧ ∀ k, k < 0 ∨ 340 ≤ k → h 59 k = 0
def FrM (h h' : mH) : Prop := ∀ i, i < 52 → h' i = h i
theorem LtS.congr {h h' : mH} {lt : List Int} (H : LtS h lt) (e : h' 52 6 = h 52 6) (e7 : h' 57 = h 57) : LtS h' lt := ⟨by rw [e]; exact H.1, fun k hk => by rw [e7]; exact H.2 k hk⟩
theorem UnS.congr {h h' : mH} {hs : List PV} (H : UnS h hs) (e : h' 52 2 = h 52 2) (e4 : h' 54 = h 54) : UnS h' hs := ⟨by rw [e]; exact H.1, by rw [e4]; exact H.2⟩
theorem ImM.congr {h h' : mH} {i : Int} {im : Option PV} (H : ImM h i im) (e6 : h' 56 = h 56) (e5 : h' 55 = h 55) : ImM h' i im := ⟨by rw [e6]; exact H.1, by rw [e5]; exact H.2⟩
theorem MdS.w {h h' : mH} {a : Ab} (H : MdS h a) (F : FrW h h') (z : ∀ k, k < 0 ∨ 340 ≤ k → h' 59 k = 0) : MdS h' a := by
  obtain ⟨L, N, U, ⟨I, J⟩, Z⟩ := H
  have g : ∀ i, i ≠ 52 → i ≠ 58 → i ≠ 59 → i ≠ 60 → h' i = h i := F.1
  exact ⟨L.congr (F.2 6 (by decide)) (g 57 (by decide) (by decide) (by decide) (by decide)), by rw [g 53 (by decide) (by decide) (by decide) (by decide)]; exact N, U.congr (F.2 2 (by decide)) (g 54 (by decide) (by decide) (by decide) (by decide)), ⟨I.congr (g 56 (by decide) (by decide) (by decide) (by decide)) (g 55 (by decide) (by decide) (by decide) (by decide)), J.congr (g 56 (by decide) (by decide) (by decide) (by decide)) (g 55 (by decide) (by decide) (by decide) (by decide))⟩, z⟩
theorem FrW.m {h h' : mH} (F : FrW h h') : FrM h h' := fun i q => F.1 i (by omega) (by omega) (by omega) (by omega)
theorem FrM.rf {h : mH} : FrM h h := fun _ _ => rfl
theorem FrM.tr {h h1 h2 : mH} (a : FrM h h1) (b : FrM h1 h2) : FrM h h2 := fun i q => (b i q).trans (a i q)
abbrev MPn (h : mH) (a : Ab) : Prop := MPk h a.2.1.1 a.2.1.2.1 a.2.1.2.2.1 a.2.1.2.2.2.1 a.2.1.2.2.2.2 a.2.1.2.2.2.2.length
theorem lnv (a : Ab) : a.2.1 = (a.2.1.1, a.2.1.2.1, a.2.1.2.2.1, a.2.1.2.2.2.1, a.2.1.2.2.2.2) := rfl

set_option maxHeartbeats 4000000 in
set_option maxRecDepth 100000 in
theorem md_packsNow {x : mX} {h : mH} {Q : mH → Prop} {a : Ab} (H : MdS h a) (ok : AbOk a) (hQ : ∀ h', MdS h' a → MPn h' a → FrW h h' → (0 < a.2.1.2.2.2.2.length → h' 52 24 = (pdn a.2.1.1 a.2.1.2.2.2.2 (a.2.1.2.2.2.2.length - 1) (pck a.2.1.1 a.2.1.2.1 a.2.1.2.2.1 a.2.1.2.2.2.1 a.2.1.2.2.2.2 (a.2.1.2.2.2.2.length - 1))).1) → Q h') : CtV x mtX10_packsNow [xR 52] h Q := by
  refine ct_go (ls := [xR 52]) (by decide +kernel) (Nat.le_of_ble_eq_true rfl) rfl ?_
  refine go_aload_n dX10_packsNow_0 rfl ?_
  refine go_aload_n dX10_packsNow_1 rfl ?_
  refine gfX10_now (by first | assumption | rfl) flX10_7 dX10_packsNow_2 ?_
  refine go_iconst dX10_packsNow_5 ⟨by decide, by decide⟩ ?_
  refine go_iaload (by first | assumption | rfl) dX10_packsNow_6 (by decide) (by decide) ?_
  rw [H.2.1.1]
  refine go_cV1V (by first | assumption | rfl) vlX10_161 dX10_packsNow_7 (by decide) rfl rfl (by decide) (Nat.le_of_ble_eq_true rfl) (md_packsAll (o0 := a.2.1.1) ok.2.1.1 ok.2.1.2 H.2.1 H.2.2.2.2 ?_)
  intro h1 P1 F1 K1
  refine go_return dX10_packsNow_10 rfl ?_
  have iv := pck_inv ok.2.1.1 ok.2.1.2 a.2.1.2.2.2.2.length (Nat.le_refl _)
  exact hQ h1 (H.w F1 (by rw [P1.2.2.2.1]; exact iv.1.2)) P1 F1 K1

set_option maxHeartbeats 4000000 in
set_option maxRecDepth 100000 in
theorem md_ended {x : mX} {h : mH} {Q : Int → mH → Prop} {c : Cd} (H : MW h c) (hD : Dn c ≤ 2000) (hQ : Q ((Dn c + 2 : Nat) : Int) h) : CtI x mtX10_ended [xR 52] h Q := by
  obtain ⟨lo, hi, ow, bs⟩ := c
  have e14 : h 52 14 = (ow : Int) := H.2.2.1
  have e16 : h 52 16 = (bs.length : Int) := H.2.2.2.1.1
  unfold Dn at hD
  dsimp only at hD
  refine ct_go (ls := [xR 52]) (by decide +kernel) (Nat.le_of_ble_eq_true rfl) rfl ?_
  refine go_aload_n dX10_ended_0 rfl ?_
  refine gfX10_bitMany (by first | assumption | rfl) flX10_65 dX10_ended_1 ?_
  try simp (disch := decide) only [hset_eq, hset_nk, hset_ni, e16, e14]
  refine go_aload_n dX10_ended_4 rfl ?_
  refine gfX10_owed (by first | assumption | rfl) flX10_62 dX10_ended_5 ?_
  try simp (disch := decide) only [hset_eq, hset_nk, hset_ni, e16, e14]
  refine go_iadd dX10_ended_8 (by omega) (by omega) ?_
  refine go_iconst dX10_ended_9 ⟨by decide, by decide⟩ ?_
  refine go_iadd dX10_ended_10 (by omega) (by omega) ?_
  refine go_ireturn dX10_ended_11 rfl ?_
  rw [show ((bs.length : Int) + (ow : Int) + 2) = ((Dn (lo, hi, ow, bs) + 2 : Nat) : Int) by unfold Dn; dsimp only; omega]
  exact hQ

set_option maxHeartbeats 4000000 in
set_option maxRecDepth 100000 in
theorem md_length {x : mX} {h : mH} {Q : Int → mH → Prop} {a : Ab} (H : MdS h a) (ok : AbOk a) (hQ : ∀ h', MdS h' a → FrM h h' → Q (sp_length a) h') : CtI x mtX10_length [xR 52] h Q := by
  have hD := pck_D ok.2.1.1 ok.2.1.2 (Nat.le_refl _)
  refine ct_go (ls := [xR 52]) (by decide +kernel) (Nat.le_of_ble_eq_true rfl) rfl ?_
  refine go_aload_n dX10_length_0 rfl ?_
  refine go_cV0V (by first | assumption | rfl) vlX10_180 dX10_length_1 (by decide) rfl rfl (by decide) (Nat.le_of_ble_eq_true rfl) (md_packsNow H ok ?_)
  intro h1 H1 P1 F1 K1
  refine go_aload_n dX10_length_4 rfl ?_
  refine go_cV0I (by first | assumption | rfl) vlX10_200 dX10_length_5 (by decide) rfl rfl (by decide) (Nat.le_of_ble_eq_true rfl) (md_ended P1.2.2.2.2.2 (by omega) ?_)
  refine go_ireturn dX10_length_8 rfl ?_
  exact hQ h1 H1 F1.m

set_option maxHeartbeats 4000000 in
set_option maxRecDepth 100000 in
theorem md_bit {x : mX} {h : mH} {Q : Int → mH → Prop} {i : Int} {a : Ab} (H : MdS h a) (ok : AbOk a) (hQ : ∀ h', MdS h' a → FrM h h' → Q (sp_bit i a) h') : CtI x mtX10_bit [xR 52, xI i] h Q := by
  have hD := pck_D ok.2.1.1 ok.2.1.2 (Nat.le_refl _)
  have hDe : Dn (pkn a).2.2 ≤ 720 := hD
  unfold Dn at hDe
  refine ct_go (ls := [xR 52, xI i]) (by decide +kernel) (Nat.le_of_ble_eq_true rfl) rfl ?_
  refine go_iload_n dX10_bit_0 rfl ?_
  refine go_if_ge (tgt := 6) dX10_bit_1 (by decide) (fun c1 => ?_) (fun c1 => ?_)
  · refine go_aload_n dX10_bit_6 rfl ?_
    refine go_cV0V (by first | assumption | rfl) vlX10_180 dX10_bit_7 (by decide) rfl rfl (by decide) (Nat.le_of_ble_eq_true rfl) (md_packsNow H ok ?_)
    intro h1 H1 P1 F1 K1
    have E16 : h1 52 16 = ((pkn a).2.2.2.2.2.length : Int) := P1.2.2.2.2.2.2.2.2.1.1
    refine go_iload_n dX10_bit_10 rfl ?_
    refine go_aload_n dX10_bit_11 rfl ?_
    refine gfX10_bitMany (by first | assumption | rfl) flX10_65 dX10_bit_12 ?_
    try simp (disch := decide) only [hset_eq, hset_nk, hset_ni, E16]
    refine go_icmp_ge (tgt := 27) dX10_bit_15 (by decide) (fun c15 => ?_) (fun c15 => ?_)
    · refine go_bipush dX10_bit_27 (by decide +kernel) ⟨by decide, by decide⟩ ?_
      refine go_ireturn dX10_bit_29 rfl ?_
      have e9 : sp_bit i a = -9 := by unfold sp_bit; rw [if_neg (by omega), if_neg (by omega)]
      rw [e9] at hQ; exact hQ h1 H1 F1.m
    · refine go_aload_n dX10_bit_18 rfl ?_
      refine gfX10_bits (by first | assumption | rfl) flX10_32 dX10_bit_19 ?_
      refine go_iload_n dX10_bit_22 rfl ?_
      refine go_iaload (by first | assumption | rfl) dX10_bit_23 (by omega) (by show i < 2800; omega) ?_
      refine go_goto (tgt := 29) dX10_bit_24 (by decide) ?_
      refine go_ireturn dX10_bit_29 rfl ?_
      have e9 : sp_bit i a = srF (pkn a).2.2.2.2.2 i := by unfold sp_bit; rw [if_neg (by omega), if_pos (by omega)]
      have e8 : h1 60 i = srF (pkn a).2.2.2.2.2 i := run_sr (T := (pkn a).2.2.2.2.2) (n := (pkn a).2.2.2.2.2.length) (Nat.le_refl _) P1.2.2.2.2.2.2.2.2.1.2 i (by omega) (by omega)
      rw [e8, ← e9]
      exact hQ h1 H1 F1.m
  · refine go_iconst dX10_bit_4 ⟨by decide, by decide⟩ ?_
    refine go_ireturn dX10_bit_5 rfl ?_
    have e9 : sp_bit i a = -1 := by unfold sp_bit; rw [if_pos (by omega)]
    rw [e9] at hQ; exact hQ h H FrM.rf

set_option maxHeartbeats 4000000 in
set_option maxRecDepth 100000 in
theorem md_sign {x : mX} {h : mH} {Q : Int → mH → Prop} {i : Int} {a : Ab} (H : MdS h a) (ok : AbOk a) (hQ : Q (sp_sign i a) h) : CtI x mtX10_sign [xR 52, xI i] h Q := by
  have hl := ok.2.1.2.1
  refine ct_go (ls := [xR 52, xI i]) (by decide +kernel) (Nat.le_of_ble_eq_true rfl) rfl ?_
  refine go_iload_n dX10_sign_0 rfl ?_
  refine go_iconst dX10_sign_1 ⟨by decide, by decide⟩ ?_
  refine go_aload_n dX10_sign_2 rfl ?_
  refine gfX10_now (by first | assumption | rfl) flX10_7 dX10_sign_3 ?_
  refine go_iconst dX10_sign_6 ⟨by decide, by decide⟩ ?_
  refine go_iaload (by first | assumption | rfl) dX10_sign_7 (by decide) (by decide) ?_
  rw [H.2.1.2.2.2.2.1]
  refine go_iconst dX10_sign_8 ⟨by decide, by decide⟩ ?_
  refine go_isub dX10_sign_9 (by omega) (by omega) ?_
  refine go_cS3I slX10_164 dX10_sign_10 (by decide) (Nat.le_of_ble_eq_true rfl) (md_within ?_)
  refine go_if_eq (tgt := 27) dX10_sign_13 (by decide) (fun c13 => ?_) (fun c13 => ?_)
  · refine go_iconst dX10_sign_27 ⟨by decide, by decide⟩ ?_
    refine go_ireturn dX10_sign_28 rfl ?_
    first
      | (have q := if01 c13
         have e9 : sp_sign i a = -1 := by unfold sp_sign; rw [if_neg (by omega)]
         rw [e9] at hQ; exact hQ)
      | (have q := if10 c13
         have e9 : sp_sign i a = srF a.2.1.2.2.2.2 i := by unfold sp_sign; rw [if_pos (by omega)]
         have e8 : h 53 (5 + i) = srF a.2.1.2.2.2.2 i := run_sr (f := fun k => h 53 (5 + k)) (Nat.le_refl _) H.2.1.2.2.2.2.2 i (by omega) (by omega)
         rw [e8, ← e9]; exact hQ)
  · refine go_aload_n dX10_sign_16 rfl ?_
    refine gfX10_now (by first | assumption | rfl) flX10_7 dX10_sign_17 ?_
    refine go_iconst dX10_sign_20 ⟨by decide, by decide⟩ ?_
    refine go_iload_n dX10_sign_21 rfl ?_
    refine go_iadd dX10_sign_22 (by have := if10 c13; omega) (by have := if10 c13; omega) ?_
    refine go_iaload (by first | assumption | rfl) dX10_sign_23 (by have := if10 c13; omega) (by have := if10 c13; show 5 + i < 65; omega) ?_
    refine go_goto (tgt := 28) dX10_sign_24 (by decide) ?_
    refine go_ireturn dX10_sign_28 rfl ?_
    first
      | (have q := if01 c13
         have e9 : sp_sign i a = -1 := by unfold sp_sign; rw [if_neg (by omega)]
         rw [e9] at hQ; exact hQ)
      | (have q := if10 c13
         have e9 : sp_sign i a = srF a.2.1.2.2.2.2 i := by unfold sp_sign; rw [if_pos (by omega)]
         have e8 : h 53 (5 + i) = srF a.2.1.2.2.2.2 i := run_sr (f := fun k => h 53 (5 + k)) (Nat.le_refl _) H.2.1.2.2.2.2.2 i (by omega) (by omega)
         rw [e8, ← e9]; exact hQ)

set_option maxHeartbeats 4000000 in
set_option maxRecDepth 100000 in
theorem md_tellNow {x : mX} {h : mH} {Q : Int → mH → Prop} {w : Int} {a : Ab} (h1w : 1 ≤ w) (h6w : w ≤ 6) (H : MdS h a) (ok : AbOk a) (hQ : ∀ h', MdS h' a → FrM h h' → Q (sp_told w a) h') : CtI x mtX10_tellNow [xR 52, xI w] h Q := by
  have iv := pck_inv ok.2.1.1 ok.2.1.2 a.2.1.2.2.2.2.length (Nat.le_refl _)
  refine ct_go (ls := [xR 52, xI w]) (by decide +kernel) (Nat.le_of_ble_eq_true rfl) rfl ?_
  refine go_aload_n dX10_tellNow_0 rfl ?_
  refine go_cV0V (by first | assumption | rfl) vlX10_180 dX10_tellNow_1 (by decide) rfl rfl (by decide) (Nat.le_of_ble_eq_true rfl) (md_packsNow H ok ?_)
  intro h1 H1 P1 F1 K1
  refine go_iload_n dX10_tellNow_4 rfl ?_
  by_cases q1 : w = 1
  · subst q1
    refine go_tsw_in (off := 35) (tgt := 40) dX10_tellNow_5 (by decide) (by decide) rfl (by decide) ?_
    refine go_aload_n dX10_tellNow_40 rfl ?_
    refine go_cV0I (by first | assumption | rfl) vlX10_146 dX10_tellNow_41 (by decide) rfl rfl (by decide) (Nat.le_of_ble_eq_true rfl) (md_there (l := a.2.1.2.1) (by rw [P1.2.2.2.1]; exact iv.1) ?_)
    rw [P1.2.2.2.1]
    refine go_ireturn dX10_tellNow_44 rfl ?_
    exact hQ h1 H1 F1.m
  by_cases q2 : w = 2
  · subst q2
    refine go_tsw_in (off := 40) (tgt := 45) dX10_tellNow_5 (by decide) (by decide) rfl (by decide) ?_
    refine go_aload_n dX10_tellNow_45 rfl ?_
    refine gfX10_forgotten (by first | assumption | rfl) flX10_52 dX10_tellNow_46 ?_
    refine go_ireturn dX10_tellNow_49 rfl ?_
    rw [P1.2.2.2.2.1]
    exact hQ h1 H1 F1.m
  by_cases q3 : w = 3
  · subst q3
    refine go_tsw_in (off := 45) (tgt := 50) dX10_tellNow_5 (by decide) (by decide) rfl (by decide) ?_
    refine go_aload_n dX10_tellNow_50 rfl ?_
    refine gfX10_bitMany (by first | assumption | rfl) flX10_65 dX10_tellNow_51 ?_
    refine go_ireturn dX10_tellNow_54 rfl ?_
    rw [P1.2.2.2.2.2.2.2.2.1.1]
    exact hQ h1 H1 F1.m
  by_cases q4 : w = 4
  · subst q4
    refine go_tsw_in (off := 50) (tgt := 55) dX10_tellNow_5 (by decide) (by decide) rfl (by decide) ?_
    refine go_aload_n dX10_tellNow_55 rfl ?_
    refine gfX10_owed (by first | assumption | rfl) flX10_62 dX10_tellNow_56 ?_
    refine go_ireturn dX10_tellNow_59 rfl ?_
    rw [P1.2.2.2.2.2.2.2.1]
    exact hQ h1 H1 F1.m
  by_cases q5 : w = 5
  · subst q5
    refine go_tsw_in (off := 55) (tgt := 60) dX10_tellNow_5 (by decide) (by decide) rfl (by decide) ?_
    refine go_aload_n dX10_tellNow_60 rfl ?_
    refine gfX10_low (by first | assumption | rfl) flX10_55 dX10_tellNow_61 ?_
    refine go_ireturn dX10_tellNow_64 rfl ?_
    rw [P1.2.2.2.2.2.1]
    exact hQ h1 H1 F1.m
  have q6 : w = 6 := by omega
  subst q6
  refine go_tsw_out (tgt := 65) dX10_tellNow_5 (by decide) (by decide) ?_
  refine go_aload_n dX10_tellNow_65 rfl ?_
  refine gfX10_high (by first | assumption | rfl) flX10_59 dX10_tellNow_66 ?_
  refine go_ireturn dX10_tellNow_69 rfl ?_
  rw [P1.2.2.2.2.2.2.1]
  exact hQ h1 H1 F1.m

theorem told_7 {w : Int} {a : Ab} {f : Int → Int} (N : NwS f a.2.1) (h7 : 7 ≤ w) (h10 : w ≤ 10) : f (w - 7) = sp_told w a := by
  rcases (show w = 7 ∨ w = 8 ∨ w = 9 ∨ w = 10 by omega) with rfl | rfl | rfl | rfl
  · exact N.1
  · exact N.2.1
  · exact N.2.2.1
  · exact N.2.2.2.1

set_option maxHeartbeats 4000000 in
set_option maxRecDepth 100000 in
theorem md_told {x : mX} {h : mH} {Q : Int → mH → Prop} {w : Int} {a : Ab} (H : MdS h a) (ok : AbOk a) (hQ : ∀ h', MdS h' a → FrM h h' → Q (sp_told w a) h') : CtI x mtX10_told [xR 52, xI w] h Q := by
  refine ct_go (ls := [xR 52, xI w]) (by decide +kernel) (Nat.le_of_ble_eq_true rfl) rfl ?_
  refine go_iload_n dX10_told_0 rfl ?_
  refine go_iconst dX10_told_1 ⟨by decide, by decide⟩ ?_
  refine go_bipush dX10_told_2 (by decide +kernel) ⟨by decide, by decide⟩ ?_
  refine go_cS3I slX10_164 dX10_told_4 (by decide) (Nat.le_of_ble_eq_true rfl) (md_within ?_)
  refine go_if_eq (tgt := 16) dX10_told_7 (by decide) (fun c7 => ?_) (fun c7 => ?_)
  · refine go_iload_n dX10_told_16 rfl ?_
    refine go_bipush dX10_told_17 (by decide +kernel) ⟨by decide, by decide⟩ ?_
    refine go_bipush dX10_told_19 (by decide +kernel) ⟨by decide, by decide⟩ ?_
    refine go_cS3I slX10_164 dX10_told_21 (by decide) (Nat.le_of_ble_eq_true rfl) (md_within ?_)
    refine go_if_eq (tgt := 37) dX10_told_24 (by decide) (fun c24 => ?_) (fun c24 => ?_)
    · refine go_iload_n dX10_told_37 rfl ?_
      refine go_if_ne (tgt := 50) dX10_told_38 (by decide) (fun c38 => ?_) (fun c38 => ?_)
      · refine go_iload_n dX10_told_50 rfl ?_
        refine go_bipush dX10_told_51 (by decide +kernel) ⟨by decide, by decide⟩ ?_
        refine go_icmp_ne (tgt := 63) dX10_told_53 (by decide) (fun c53 => ?_) (fun c53 => ?_)
        · refine go_iload_n dX10_told_63 rfl ?_
          refine go_bipush dX10_told_64 (by decide +kernel) ⟨by decide, by decide⟩ ?_
          refine go_icmp_ne (tgt := 76) dX10_told_66 (by decide) (fun c66 => ?_) (fun c66 => ?_)
          · refine go_iconst dX10_told_76 ⟨by decide, by decide⟩ ?_
            refine go_ireturn dX10_told_77 rfl ?_
            have q7 := if01 c7
            have q24 := if01 c24
            first
              | (subst c38; rw [H.2.1.2.2.2.2.1]; exact hQ h H FrM.rf)
              | (subst c53; rw [H.1.1]; exact hQ h H FrM.rf)
              | (subst c66; rw [H.2.2.1.1]; exact hQ h H FrM.rf)
              | (have e9 : sp_told w a = -1 := by (unfold sp_told; rw [if_neg (by omega), if_neg (by omega), if_neg (by omega), if_neg (by omega), if_neg (by omega), if_neg (by omega), if_neg (by omega), if_neg (by omega), if_neg (by omega), if_neg (by omega), if_neg (by omega), if_neg (by omega), if_neg (by omega)])
                 rw [e9] at hQ; exact hQ h H FrM.rf)
          · refine go_aload_n dX10_told_69 rfl ?_
            refine gfX10_undos (by first | assumption | rfl) flX10_171 dX10_told_70 ?_
            refine go_goto (tgt := 77) dX10_told_73 (by decide) ?_
            refine go_ireturn dX10_told_77 rfl ?_
            have q7 := if01 c7
            have q24 := if01 c24
            first
              | (subst c38; rw [H.2.1.2.2.2.2.1]; exact hQ h H FrM.rf)
              | (subst c53; rw [H.1.1]; exact hQ h H FrM.rf)
              | (subst c66; rw [H.2.2.1.1]; exact hQ h H FrM.rf)
              | (have e9 : sp_told w a = -1 := by (unfold sp_told; rw [if_neg (by omega), if_neg (by omega), if_neg (by omega), if_neg (by omega), if_neg (by omega), if_neg (by omega), if_neg (by omega), if_neg (by omega), if_neg (by omega), if_neg (by omega), if_neg (by omega), if_neg (by omega), if_neg (by omega)])
                 rw [e9] at hQ; exact hQ h H FrM.rf)
        · refine go_aload_n dX10_told_56 rfl ?_
          refine gfX10_letters (by first | assumption | rfl) flX10_168 dX10_told_57 ?_
          refine go_goto (tgt := 77) dX10_told_60 (by decide) ?_
          refine go_ireturn dX10_told_77 rfl ?_
          have q7 := if01 c7
          have q24 := if01 c24
          first
            | (subst c38; rw [H.2.1.2.2.2.2.1]; exact hQ h H FrM.rf)
            | (subst c53; rw [H.1.1]; exact hQ h H FrM.rf)
            | (subst c66; rw [H.2.2.1.1]; exact hQ h H FrM.rf)
            | (have e9 : sp_told w a = -1 := by (unfold sp_told; rw [if_neg (by omega), if_neg (by omega), if_neg (by omega), if_neg (by omega), if_neg (by omega), if_neg (by omega), if_neg (by omega), if_neg (by omega), if_neg (by omega), if_neg (by omega), if_neg (by omega), if_neg (by omega), if_neg (by omega)])
               rw [e9] at hQ; exact hQ h H FrM.rf)
      · refine go_aload_n dX10_told_41 rfl ?_
        refine gfX10_now (by first | assumption | rfl) flX10_7 dX10_told_42 ?_
        refine go_iconst dX10_told_45 ⟨by decide, by decide⟩ ?_
        refine go_iaload (by first | assumption | rfl) dX10_told_46 (by decide) (by decide) ?_
        refine go_goto (tgt := 77) dX10_told_47 (by decide) ?_
        refine go_ireturn dX10_told_77 rfl ?_
        have q7 := if01 c7
        have q24 := if01 c24
        first
          | (subst c38; rw [H.2.1.2.2.2.2.1]; exact hQ h H FrM.rf)
          | (subst c53; rw [H.1.1]; exact hQ h H FrM.rf)
          | (subst c66; rw [H.2.2.1.1]; exact hQ h H FrM.rf)
          | (have e9 : sp_told w a = -1 := by (unfold sp_told; rw [if_neg (by omega), if_neg (by omega), if_neg (by omega), if_neg (by omega), if_neg (by omega), if_neg (by omega), if_neg (by omega), if_neg (by omega), if_neg (by omega), if_neg (by omega), if_neg (by omega), if_neg (by omega), if_neg (by omega)])
             rw [e9] at hQ; exact hQ h H FrM.rf)
    · refine go_aload_n dX10_told_27 rfl ?_
      refine gfX10_now (by first | assumption | rfl) flX10_7 dX10_told_28 ?_
      refine go_iload_n dX10_told_31 rfl ?_
      refine go_bipush dX10_told_32 (by decide +kernel) ⟨by decide, by decide⟩ ?_
      refine go_isub dX10_told_34 (by have := if10 c24; omega) (by have := if10 c24; omega) ?_
      refine go_iaload (by first | assumption | rfl) dX10_told_35 (by have := if10 c24; omega) (by have := if10 c24; show w - 7 < 65; omega) ?_
      refine go_ireturn dX10_told_36 rfl ?_
      have q := if10 c24
      rw [told_7 H.2.1 q.1 q.2]
      exact hQ h H FrM.rf
  · refine go_aload_n dX10_told_10 rfl ?_
    refine go_iload_n dX10_told_11 rfl ?_
    refine go_cV1I (by first | assumption | rfl) vlX10_206 dX10_told_12 (by decide) rfl rfl (by decide) (Nat.le_of_ble_eq_true rfl) (md_tellNow (if10 c7).1 (if10 c7).2 H ok ?_)
    intro h1 H1 F1
    refine go_ireturn dX10_told_15 rfl ?_
    exact hQ h1 H1 F1

set_option maxHeartbeats 4000000 in
set_option maxRecDepth 100000 in
theorem md_countOf {x : mX} {h : mH} {Q : Int → mH → Prop} {p s : Int} {a : Ab} (hp : 0 ≤ p) (hp2 : p ≤ 84) (hs : 0 ≤ s) (hs2 : s ≤ 3) (H : MdS h a) (ok : AbOk a) (hQ : ∀ h', MdS h' a → FrM h h' → Q ((pkn a).1 (4 * p + s)) h') : CtI x mtX10_countOf [xR 52, xI (4 * p), xI s] h Q := by
  refine ct_go (ls := [xR 52, xI (4 * p), xI s]) (by decide +kernel) (Nat.le_of_ble_eq_true rfl) rfl ?_
  refine go_aload_n dX10_countOf_0 rfl ?_
  refine go_cV0V (by first | assumption | rfl) vlX10_180 dX10_countOf_1 (by decide) rfl rfl (by decide) (Nat.le_of_ble_eq_true rfl) (md_packsNow H ok ?_)
  intro h1 H1 P1 F1 K1
  refine go_aload_n dX10_countOf_4 rfl ?_
  refine gfX10_counts (by first | assumption | rfl) flX10_29 dX10_countOf_5 ?_
  refine go_iload_n dX10_countOf_8 rfl ?_
  refine go_iload_n dX10_countOf_9 rfl ?_
  refine go_iadd dX10_countOf_10 (by omega) (by omega) ?_
  refine go_iaload (by first | assumption | rfl) dX10_countOf_11 (by omega) (by show 4 * p + s < 340; omega) ?_
  refine go_ireturn dX10_countOf_12 rfl ?_
  rw [P1.2.2.2.1]
  exact hQ h1 H1 F1.m

set_option maxHeartbeats 4000000 in
set_option maxRecDepth 100000 in
theorem md_count {x : mX} {h : mH} {Q : Int → mH → Prop} {j x1 y1 z1 s : Int} {a : Ab} (H : MdS h a) (ok : AbOk a) (hQ : ∀ h', MdS h' a → FrM h h' → Q (sp_count j x1 y1 z1 s a) h') : CtI x mtX10_count [xR 52, xI j, xI x1, xI y1, xI z1, xI s] h Q := by
  obtain ⟨w1, w2, w3, w4, w5, w6, w7, w8⟩ := id ok.2.1.1
  refine ct_go (ls := [xR 52, xI j, xI x1, xI y1, xI z1, xI s, xU]) (by decide +kernel) (Nat.le_of_ble_eq_true rfl) rfl ?_
  refine go_iload_n dX10_count_0 rfl ?_
  refine go_iconst dX10_count_1 ⟨by decide, by decide⟩ ?_
  refine go_aload_n dX10_count_2 rfl ?_
  refine gfX10_now (by first | assumption | rfl) flX10_7 dX10_count_3 ?_
  refine go_iconst dX10_count_6 ⟨by decide, by decide⟩ ?_
  refine go_iaload (by first | assumption | rfl) dX10_count_7 (by decide) (by decide) ?_
  rw [H.2.1.1]
  refine go_cS3I slX10_164 dX10_count_8 (by decide) (Nat.le_of_ble_eq_true rfl) (md_within ?_)
  refine go_if_eq (tgt := 44) dX10_count_11 (by decide) (fun c11 => ?_) (fun c11 => ?_)
  · refine go_iconst dX10_count_44 ⟨by decide, by decide⟩ ?_
    refine go_ireturn dX10_count_45 rfl ?_
    have e9 : sp_count j x1 y1 z1 s a = -1 := by
      unfold sp_count
      rw [if_neg]
      intro q
      first | (have k1 := if01 c41; omega) | (have k1 := if01 c33; omega) | (have k1 := if01 c25; omega) | (have k1 := if01 c18; omega) | (have k1 := if01 c11; omega)
    rw [e9] at hQ; exact hQ h H FrM.rf
  · refine go_iload_n dX10_count_14 rfl ?_
    refine go_cS1I slX10_186 dX10_count_15 (by decide) (Nat.le_of_ble_eq_true rfl) (md_isSign ?_)
    refine go_if_eq (tgt := 44) dX10_count_18 (by decide) (fun c18 => ?_) (fun c18 => ?_)
    · refine go_iconst dX10_count_44 ⟨by decide, by decide⟩ ?_
      refine go_ireturn dX10_count_45 rfl ?_
      have e9 : sp_count j x1 y1 z1 s a = -1 := by
        unfold sp_count
        rw [if_neg]
        intro q
        first | (have k1 := if01 c41; omega) | (have k1 := if01 c33; omega) | (have k1 := if01 c25; omega) | (have k1 := if01 c18; omega) | (have k1 := if01 c11; omega)
      rw [e9] at hQ; exact hQ h H FrM.rf
    · refine go_iload_n dX10_count_21 rfl ?_
      refine go_cS1I slX10_186 dX10_count_22 (by decide) (Nat.le_of_ble_eq_true rfl) (md_isSign ?_)
      refine go_if_eq (tgt := 44) dX10_count_25 (by decide) (fun c25 => ?_) (fun c25 => ?_)
      · refine go_iconst dX10_count_44 ⟨by decide, by decide⟩ ?_
        refine go_ireturn dX10_count_45 rfl ?_
        have e9 : sp_count j x1 y1 z1 s a = -1 := by
          unfold sp_count
          rw [if_neg]
          intro q
          first | (have k1 := if01 c41; omega) | (have k1 := if01 c33; omega) | (have k1 := if01 c25; omega) | (have k1 := if01 c18; omega) | (have k1 := if01 c11; omega)
        rw [e9] at hQ; exact hQ h H FrM.rf
      · refine go_iload dX10_count_28 rfl ?_
        refine go_cS1I slX10_186 dX10_count_30 (by decide) (Nat.le_of_ble_eq_true rfl) (md_isSign ?_)
        refine go_if_eq (tgt := 44) dX10_count_33 (by decide) (fun c33 => ?_) (fun c33 => ?_)
        · refine go_iconst dX10_count_44 ⟨by decide, by decide⟩ ?_
          refine go_ireturn dX10_count_45 rfl ?_
          have e9 : sp_count j x1 y1 z1 s a = -1 := by
            unfold sp_count
            rw [if_neg]
            intro q
            first | (have k1 := if01 c41; omega) | (have k1 := if01 c33; omega) | (have k1 := if01 c25; omega) | (have k1 := if01 c18; omega) | (have k1 := if01 c11; omega)
          rw [e9] at hQ; exact hQ h H FrM.rf
        · refine go_iload dX10_count_36 rfl ?_
          refine go_cS1I slX10_186 dX10_count_38 (by decide) (Nat.le_of_ble_eq_true rfl) (md_isSign ?_)
          refine go_if_ne (tgt := 46) dX10_count_41 (by decide) (fun c41 => ?_) (fun c41 => ?_)
          · have k1 := if10 c11
            have k2 := if10 c18
            have k3 := if10 c25
            have k4 := if10 c33
            have k5 := if10 c41
            refine go_iload_n dX10_count_46 rfl ?_
            refine go_iconst dX10_count_47 ⟨by decide, by decide⟩ ?_
            refine go_icmp_ge (tgt := 56) dX10_count_48 (by decide) (fun c48 => ?_) (fun c48 => ?_)
            · refine go_iload_n dX10_count_56 rfl ?_
              refine go_iconst dX10_count_57 ⟨by decide, by decide⟩ ?_
              refine go_icmp_ge (tgt := 65) dX10_count_58 (by decide) (fun c58 => ?_) (fun c58 => ?_)
              · refine go_iload_n dX10_count_65 rfl ?_
                refine go_iconst dX10_count_66 ⟨by decide, by decide⟩ ?_
                refine go_icmp_ge (tgt := 76) dX10_count_67 (by decide) (fun c67 => ?_) (fun c67 => ?_)
                · refine go_iload_n dX10_count_76 rfl ?_
                  refine go_if_ne (tgt := 84) dX10_count_77 (by decide) (fun c77 => ?_) (fun c77 => ?_)
                  · refine go_iload_n dX10_count_84 rfl ?_
                    refine go_iconst dX10_count_85 ⟨by decide, by decide⟩ ?_
                    refine go_icmp_ne (tgt := 95) dX10_count_86 (by decide) (fun c86 => ?_) (fun c86 => ?_)
                    · refine go_iload_n dX10_count_95 rfl ?_
                      refine go_iconst dX10_count_96 ⟨by decide, by decide⟩ ?_
                      refine go_icmp_ne (tgt := 110) dX10_count_97 (by decide) (fun c97 => ?_) (fun c97 => ?_)
                      · refine go_bipush dX10_count_110 (by decide +kernel) ⟨by decide, by decide⟩ ?_
                        refine go_bipush dX10_count_112 (by decide +kernel) ⟨by decide, by decide⟩ ?_
                        refine go_iload_n dX10_count_114 rfl ?_
                        refine go_imul dX10_count_115 (by omega) (by omega) ?_
                        refine go_iadd dX10_count_116 (by omega) (by omega) ?_
                        refine go_iconst dX10_count_117 ⟨by decide, by decide⟩ ?_
                        refine go_iload_n dX10_count_118 rfl ?_
                        refine go_imul dX10_count_119 (by omega) (by omega) ?_
                        refine go_iadd dX10_count_120 (by omega) (by omega) ?_
                        refine go_iload dX10_count_121 rfl ?_
                        refine go_iadd dX10_count_123 (by omega) (by omega) ?_
                        refine go_istore dX10_count_124 (Nat.le_of_ble_eq_true rfl) rfl (by dsimp only [List.set]) ?_
                        refine go_aload_n dX10_count_126 rfl ?_
                        refine go_iconst dX10_count_127 ⟨by decide, by decide⟩ ?_
                        refine go_iload dX10_count_128 rfl ?_
                        refine go_imul dX10_count_130 (by omega) (by omega) ?_
                        refine go_iload dX10_count_131 rfl ?_
                        refine go_cV2I (by first | assumption | rfl) vlX10_190 dX10_count_133 (by decide) rfl rfl (by decide) (Nat.le_of_ble_eq_true rfl) (md_countOf (by omega) (by omega) (by omega) (by omega) H ok ?_)
                        intro h1 H1 F1
                        refine go_ireturn dX10_count_136 rfl ?_
                        have e9 : sp_count j x1 y1 z1 s a = (pkn a).1 (4 * plC j x1 y1 z1 + s) := by
                          unfold sp_count
                          rw [if_pos (by omega)]
                        rw [e9] at hQ
                        unfold plC at hQ
                        first | rw [if_pos c77] at hQ | rw [if_neg c77, if_pos c86] at hQ | rw [if_neg c77, if_neg c86, if_pos c97] at hQ | rw [if_neg c77, if_neg c86, if_neg c97] at hQ
                        exact hQ h1 H1 F1
                      · refine go_iconst dX10_count_100 ⟨by decide, by decide⟩ ?_
                        refine go_iconst dX10_count_101 ⟨by decide, by decide⟩ ?_
                        refine go_iload_n dX10_count_102 rfl ?_
                        refine go_imul dX10_count_103 (by omega) (by omega) ?_
                        refine go_iadd dX10_count_104 (by omega) (by omega) ?_
                        refine go_iload_n dX10_count_105 rfl ?_
                        refine go_iadd dX10_count_106 (by omega) (by omega) ?_
                        refine go_goto (tgt := 124) dX10_count_107 (by decide) ?_
                        refine go_istore dX10_count_124 (Nat.le_of_ble_eq_true rfl) rfl (by dsimp only [List.set]) ?_
                        refine go_aload_n dX10_count_126 rfl ?_
                        refine go_iconst dX10_count_127 ⟨by decide, by decide⟩ ?_
                        refine go_iload dX10_count_128 rfl ?_
                        refine go_imul dX10_count_130 (by omega) (by omega) ?_
                        refine go_iload dX10_count_131 rfl ?_
                        refine go_cV2I (by first | assumption | rfl) vlX10_190 dX10_count_133 (by decide) rfl rfl (by decide) (Nat.le_of_ble_eq_true rfl) (md_countOf (by omega) (by omega) (by omega) (by omega) H ok ?_)
                        intro h1 H1 F1
                        refine go_ireturn dX10_count_136 rfl ?_
                        have e9 : sp_count j x1 y1 z1 s a = (pkn a).1 (4 * plC j x1 y1 z1 + s) := by
                          unfold sp_count
                          rw [if_pos (by omega)]
                        rw [e9] at hQ
                        unfold plC at hQ
                        first | rw [if_pos c77] at hQ | rw [if_neg c77, if_pos c86] at hQ | rw [if_neg c77, if_neg c86, if_pos c97] at hQ | rw [if_neg c77, if_neg c86, if_neg c97] at hQ
                        exact hQ h1 H1 F1
                    · refine go_iconst dX10_count_89 ⟨by decide, by decide⟩ ?_
                      refine go_iload_n dX10_count_90 rfl ?_
                      refine go_iadd dX10_count_91 (by omega) (by omega) ?_
                      refine go_goto (tgt := 124) dX10_count_92 (by decide) ?_
                      refine go_istore dX10_count_124 (Nat.le_of_ble_eq_true rfl) rfl (by dsimp only [List.set]) ?_
                      refine go_aload_n dX10_count_126 rfl ?_
                      refine go_iconst dX10_count_127 ⟨by decide, by decide⟩ ?_
                      refine go_iload dX10_count_128 rfl ?_
                      refine go_imul dX10_count_130 (by omega) (by omega) ?_
                      refine go_iload dX10_count_131 rfl ?_
                      refine go_cV2I (by first | assumption | rfl) vlX10_190 dX10_count_133 (by decide) rfl rfl (by decide) (Nat.le_of_ble_eq_true rfl) (md_countOf (by omega) (by omega) (by omega) (by omega) H ok ?_)
                      intro h1 H1 F1
                      refine go_ireturn dX10_count_136 rfl ?_
                      have e9 : sp_count j x1 y1 z1 s a = (pkn a).1 (4 * plC j x1 y1 z1 + s) := by
                        unfold sp_count
                        rw [if_pos (by omega)]
                      rw [e9] at hQ
                      unfold plC at hQ
                      first | rw [if_pos c77] at hQ | rw [if_neg c77, if_pos c86] at hQ | rw [if_neg c77, if_neg c86, if_pos c97] at hQ | rw [if_neg c77, if_neg c86, if_neg c97] at hQ
                      exact hQ h1 H1 F1
                  · refine go_iconst dX10_count_80 ⟨by decide, by decide⟩ ?_
                    refine go_goto (tgt := 124) dX10_count_81 (by decide) ?_
                    refine go_istore dX10_count_124 (Nat.le_of_ble_eq_true rfl) rfl (by dsimp only [List.set]) ?_
                    refine go_aload_n dX10_count_126 rfl ?_
                    refine go_iconst dX10_count_127 ⟨by decide, by decide⟩ ?_
                    refine go_iload dX10_count_128 rfl ?_
                    refine go_imul dX10_count_130 (by omega) (by omega) ?_
                    refine go_iload dX10_count_131 rfl ?_
                    refine go_cV2I (by first | assumption | rfl) vlX10_190 dX10_count_133 (by decide) rfl rfl (by decide) (Nat.le_of_ble_eq_true rfl) (md_countOf (by omega) (by omega) (by omega) (by omega) H ok ?_)
                    intro h1 H1 F1
                    refine go_ireturn dX10_count_136 rfl ?_
                    have e9 : sp_count j x1 y1 z1 s a = (pkn a).1 (4 * plC j x1 y1 z1 + s) := by
                      unfold sp_count
                      rw [if_pos (by omega)]
                    rw [e9] at hQ
                    unfold plC at hQ
                    first | rw [if_pos c77] at hQ | rw [if_neg c77, if_pos c86] at hQ | rw [if_neg c77, if_neg c86, if_pos c97] at hQ | rw [if_neg c77, if_neg c86, if_neg c97] at hQ
                    exact hQ h1 H1 F1
                · refine go_iload_n dX10_count_70 rfl ?_
                  refine go_if_eq (tgt := 76) dX10_count_71 (by decide) (fun c71 => ?_) (fun c71 => ?_)
                  · refine go_iload_n dX10_count_76 rfl ?_
                    refine go_if_ne (tgt := 84) dX10_count_77 (by decide) (fun c77 => ?_) (fun c77 => ?_)
                    · refine go_iload_n dX10_count_84 rfl ?_
                      refine go_iconst dX10_count_85 ⟨by decide, by decide⟩ ?_
                      refine go_icmp_ne (tgt := 95) dX10_count_86 (by decide) (fun c86 => ?_) (fun c86 => ?_)
                      · refine go_iload_n dX10_count_95 rfl ?_
                        refine go_iconst dX10_count_96 ⟨by decide, by decide⟩ ?_
                        refine go_icmp_ne (tgt := 110) dX10_count_97 (by decide) (fun c97 => ?_) (fun c97 => ?_)
                        · refine go_bipush dX10_count_110 (by decide +kernel) ⟨by decide, by decide⟩ ?_
                          refine go_bipush dX10_count_112 (by decide +kernel) ⟨by decide, by decide⟩ ?_
                          refine go_iload_n dX10_count_114 rfl ?_
                          refine go_imul dX10_count_115 (by omega) (by omega) ?_
                          refine go_iadd dX10_count_116 (by omega) (by omega) ?_
                          refine go_iconst dX10_count_117 ⟨by decide, by decide⟩ ?_
                          refine go_iload_n dX10_count_118 rfl ?_
                          refine go_imul dX10_count_119 (by omega) (by omega) ?_
                          refine go_iadd dX10_count_120 (by omega) (by omega) ?_
                          refine go_iload dX10_count_121 rfl ?_
                          refine go_iadd dX10_count_123 (by omega) (by omega) ?_
                          refine go_istore dX10_count_124 (Nat.le_of_ble_eq_true rfl) rfl (by dsimp only [List.set]) ?_
                          refine go_aload_n dX10_count_126 rfl ?_
                          refine go_iconst dX10_count_127 ⟨by decide, by decide⟩ ?_
                          refine go_iload dX10_count_128 rfl ?_
                          refine go_imul dX10_count_130 (by omega) (by omega) ?_
                          refine go_iload dX10_count_131 rfl ?_
                          refine go_cV2I (by first | assumption | rfl) vlX10_190 dX10_count_133 (by decide) rfl rfl (by decide) (Nat.le_of_ble_eq_true rfl) (md_countOf (by omega) (by omega) (by omega) (by omega) H ok ?_)
                          intro h1 H1 F1
                          refine go_ireturn dX10_count_136 rfl ?_
                          have e9 : sp_count j x1 y1 z1 s a = (pkn a).1 (4 * plC j x1 y1 z1 + s) := by
                            unfold sp_count
                            rw [if_pos (by omega)]
                          rw [e9] at hQ
                          unfold plC at hQ
                          first | rw [if_pos c77] at hQ | rw [if_neg c77, if_pos c86] at hQ | rw [if_neg c77, if_neg c86, if_pos c97] at hQ | rw [if_neg c77, if_neg c86, if_neg c97] at hQ
                          exact hQ h1 H1 F1
                        · refine go_iconst dX10_count_100 ⟨by decide, by decide⟩ ?_
                          refine go_iconst dX10_count_101 ⟨by decide, by decide⟩ ?_
                          refine go_iload_n dX10_count_102 rfl ?_
                          refine go_imul dX10_count_103 (by omega) (by omega) ?_
                          refine go_iadd dX10_count_104 (by omega) (by omega) ?_
                          refine go_iload_n dX10_count_105 rfl ?_
                          refine go_iadd dX10_count_106 (by omega) (by omega) ?_
                          refine go_goto (tgt := 124) dX10_count_107 (by decide) ?_
                          refine go_istore dX10_count_124 (Nat.le_of_ble_eq_true rfl) rfl (by dsimp only [List.set]) ?_
                          refine go_aload_n dX10_count_126 rfl ?_
                          refine go_iconst dX10_count_127 ⟨by decide, by decide⟩ ?_
                          refine go_iload dX10_count_128 rfl ?_
                          refine go_imul dX10_count_130 (by omega) (by omega) ?_
                          refine go_iload dX10_count_131 rfl ?_
                          refine go_cV2I (by first | assumption | rfl) vlX10_190 dX10_count_133 (by decide) rfl rfl (by decide) (Nat.le_of_ble_eq_true rfl) (md_countOf (by omega) (by omega) (by omega) (by omega) H ok ?_)
                          intro h1 H1 F1
                          refine go_ireturn dX10_count_136 rfl ?_
                          have e9 : sp_count j x1 y1 z1 s a = (pkn a).1 (4 * plC j x1 y1 z1 + s) := by
                            unfold sp_count
                            rw [if_pos (by omega)]
                          rw [e9] at hQ
                          unfold plC at hQ
                          first | rw [if_pos c77] at hQ | rw [if_neg c77, if_pos c86] at hQ | rw [if_neg c77, if_neg c86, if_pos c97] at hQ | rw [if_neg c77, if_neg c86, if_neg c97] at hQ
                          exact hQ h1 H1 F1
                      · refine go_iconst dX10_count_89 ⟨by decide, by decide⟩ ?_
                        refine go_iload_n dX10_count_90 rfl ?_
                        refine go_iadd dX10_count_91 (by omega) (by omega) ?_
                        refine go_goto (tgt := 124) dX10_count_92 (by decide) ?_
                        refine go_istore dX10_count_124 (Nat.le_of_ble_eq_true rfl) rfl (by dsimp only [List.set]) ?_
                        refine go_aload_n dX10_count_126 rfl ?_
                        refine go_iconst dX10_count_127 ⟨by decide, by decide⟩ ?_
                        refine go_iload dX10_count_128 rfl ?_
                        refine go_imul dX10_count_130 (by omega) (by omega) ?_
                        refine go_iload dX10_count_131 rfl ?_
                        refine go_cV2I (by first | assumption | rfl) vlX10_190 dX10_count_133 (by decide) rfl rfl (by decide) (Nat.le_of_ble_eq_true rfl) (md_countOf (by omega) (by omega) (by omega) (by omega) H ok ?_)
                        intro h1 H1 F1
                        refine go_ireturn dX10_count_136 rfl ?_
                        have e9 : sp_count j x1 y1 z1 s a = (pkn a).1 (4 * plC j x1 y1 z1 + s) := by
                          unfold sp_count
                          rw [if_pos (by omega)]
                        rw [e9] at hQ
                        unfold plC at hQ
                        first | rw [if_pos c77] at hQ | rw [if_neg c77, if_pos c86] at hQ | rw [if_neg c77, if_neg c86, if_pos c97] at hQ | rw [if_neg c77, if_neg c86, if_neg c97] at hQ
                        exact hQ h1 H1 F1
                    · refine go_iconst dX10_count_80 ⟨by decide, by decide⟩ ?_
                      refine go_goto (tgt := 124) dX10_count_81 (by decide) ?_
                      refine go_istore dX10_count_124 (Nat.le_of_ble_eq_true rfl) rfl (by dsimp only [List.set]) ?_
                      refine go_aload_n dX10_count_126 rfl ?_
                      refine go_iconst dX10_count_127 ⟨by decide, by decide⟩ ?_
                      refine go_iload dX10_count_128 rfl ?_
                      refine go_imul dX10_count_130 (by omega) (by omega) ?_
                      refine go_iload dX10_count_131 rfl ?_
                      refine go_cV2I (by first | assumption | rfl) vlX10_190 dX10_count_133 (by decide) rfl rfl (by decide) (Nat.le_of_ble_eq_true rfl) (md_countOf (by omega) (by omega) (by omega) (by omega) H ok ?_)
                      intro h1 H1 F1
                      refine go_ireturn dX10_count_136 rfl ?_
                      have e9 : sp_count j x1 y1 z1 s a = (pkn a).1 (4 * plC j x1 y1 z1 + s) := by
                        unfold sp_count
                        rw [if_pos (by omega)]
                      rw [e9] at hQ
                      unfold plC at hQ
                      first | rw [if_pos c77] at hQ | rw [if_neg c77, if_pos c86] at hQ | rw [if_neg c77, if_neg c86, if_pos c97] at hQ | rw [if_neg c77, if_neg c86, if_neg c97] at hQ
                      exact hQ h1 H1 F1
                  · refine go_iconst dX10_count_74 ⟨by decide, by decide⟩ ?_
                    refine go_ireturn dX10_count_75 rfl ?_
                    have e9 : sp_count j x1 y1 z1 s a = -1 := by
                      unfold sp_count
                      rw [if_neg (by omega)]
                    rw [e9] at hQ; exact hQ h H FrM.rf
              · refine go_iload_n dX10_count_61 rfl ?_
                refine go_if_ne (tgt := 74) dX10_count_62 (by decide) (fun c62 => ?_) (fun c62 => ?_)
                · refine go_iconst dX10_count_74 ⟨by decide, by decide⟩ ?_
                  refine go_ireturn dX10_count_75 rfl ?_
                  have e9 : sp_count j x1 y1 z1 s a = -1 := by
                    unfold sp_count
                    rw [if_neg (by omega)]
                  rw [e9] at hQ; exact hQ h H FrM.rf
                · refine go_iload_n dX10_count_65 rfl ?_
                  refine go_iconst dX10_count_66 ⟨by decide, by decide⟩ ?_
                  refine go_icmp_ge (tgt := 76) dX10_count_67 (by decide) (fun c67 => ?_) (fun c67 => ?_)
                  · refine go_iload_n dX10_count_76 rfl ?_
                    refine go_if_ne (tgt := 84) dX10_count_77 (by decide) (fun c77 => ?_) (fun c77 => ?_)
                    · refine go_iload_n dX10_count_84 rfl ?_
                      refine go_iconst dX10_count_85 ⟨by decide, by decide⟩ ?_
                      refine go_icmp_ne (tgt := 95) dX10_count_86 (by decide) (fun c86 => ?_) (fun c86 => ?_)
                      · refine go_iload_n dX10_count_95 rfl ?_
                        refine go_iconst dX10_count_96 ⟨by decide, by decide⟩ ?_
                        refine go_icmp_ne (tgt := 110) dX10_count_97 (by decide) (fun c97 => ?_) (fun c97 => ?_)
                        · refine go_bipush dX10_count_110 (by decide +kernel) ⟨by decide, by decide⟩ ?_
                          refine go_bipush dX10_count_112 (by decide +kernel) ⟨by decide, by decide⟩ ?_
                          refine go_iload_n dX10_count_114 rfl ?_
                          refine go_imul dX10_count_115 (by omega) (by omega) ?_
                          refine go_iadd dX10_count_116 (by omega) (by omega) ?_
                          refine go_iconst dX10_count_117 ⟨by decide, by decide⟩ ?_
                          refine go_iload_n dX10_count_118 rfl ?_
                          refine go_imul dX10_count_119 (by omega) (by omega) ?_
                          refine go_iadd dX10_count_120 (by omega) (by omega) ?_
                          refine go_iload dX10_count_121 rfl ?_
                          refine go_iadd dX10_count_123 (by omega) (by omega) ?_
                          refine go_istore dX10_count_124 (Nat.le_of_ble_eq_true rfl) rfl (by dsimp only [List.set]) ?_
                          refine go_aload_n dX10_count_126 rfl ?_
                          refine go_iconst dX10_count_127 ⟨by decide, by decide⟩ ?_
                          refine go_iload dX10_count_128 rfl ?_
                          refine go_imul dX10_count_130 (by omega) (by omega) ?_
                          refine go_iload dX10_count_131 rfl ?_
                          refine go_cV2I (by first | assumption | rfl) vlX10_190 dX10_count_133 (by decide) rfl rfl (by decide) (Nat.le_of_ble_eq_true rfl) (md_countOf (by omega) (by omega) (by omega) (by omega) H ok ?_)
                          intro h1 H1 F1
                          refine go_ireturn dX10_count_136 rfl ?_
                          have e9 : sp_count j x1 y1 z1 s a = (pkn a).1 (4 * plC j x1 y1 z1 + s) := by
                            unfold sp_count
                            rw [if_pos (by omega)]
                          rw [e9] at hQ
                          unfold plC at hQ
                          first | rw [if_pos c77] at hQ | rw [if_neg c77, if_pos c86] at hQ | rw [if_neg c77, if_neg c86, if_pos c97] at hQ | rw [if_neg c77, if_neg c86, if_neg c97] at hQ
                          exact hQ h1 H1 F1
                        · refine go_iconst dX10_count_100 ⟨by decide, by decide⟩ ?_
                          refine go_iconst dX10_count_101 ⟨by decide, by decide⟩ ?_
                          refine go_iload_n dX10_count_102 rfl ?_
                          refine go_imul dX10_count_103 (by omega) (by omega) ?_
                          refine go_iadd dX10_count_104 (by omega) (by omega) ?_
                          refine go_iload_n dX10_count_105 rfl ?_
                          refine go_iadd dX10_count_106 (by omega) (by omega) ?_
                          refine go_goto (tgt := 124) dX10_count_107 (by decide) ?_
                          refine go_istore dX10_count_124 (Nat.le_of_ble_eq_true rfl) rfl (by dsimp only [List.set]) ?_
                          refine go_aload_n dX10_count_126 rfl ?_
                          refine go_iconst dX10_count_127 ⟨by decide, by decide⟩ ?_
                          refine go_iload dX10_count_128 rfl ?_
                          refine go_imul dX10_count_130 (by omega) (by omega) ?_
                          refine go_iload dX10_count_131 rfl ?_
                          refine go_cV2I (by first | assumption | rfl) vlX10_190 dX10_count_133 (by decide) rfl rfl (by decide) (Nat.le_of_ble_eq_true rfl) (md_countOf (by omega) (by omega) (by omega) (by omega) H ok ?_)
                          intro h1 H1 F1
                          refine go_ireturn dX10_count_136 rfl ?_
                          have e9 : sp_count j x1 y1 z1 s a = (pkn a).1 (4 * plC j x1 y1 z1 + s) := by
                            unfold sp_count
                            rw [if_pos (by omega)]
                          rw [e9] at hQ
                          unfold plC at hQ
                          first | rw [if_pos c77] at hQ | rw [if_neg c77, if_pos c86] at hQ | rw [if_neg c77, if_neg c86, if_pos c97] at hQ | rw [if_neg c77, if_neg c86, if_neg c97] at hQ
                          exact hQ h1 H1 F1
                      · refine go_iconst dX10_count_89 ⟨by decide, by decide⟩ ?_
                        refine go_iload_n dX10_count_90 rfl ?_
                        refine go_iadd dX10_count_91 (by omega) (by omega) ?_
                        refine go_goto (tgt := 124) dX10_count_92 (by decide) ?_
                        refine go_istore dX10_count_124 (Nat.le_of_ble_eq_true rfl) rfl (by dsimp only [List.set]) ?_
                        refine go_aload_n dX10_count_126 rfl ?_
                        refine go_iconst dX10_count_127 ⟨by decide, by decide⟩ ?_
                        refine go_iload dX10_count_128 rfl ?_
                        refine go_imul dX10_count_130 (by omega) (by omega) ?_
                        refine go_iload dX10_count_131 rfl ?_
                        refine go_cV2I (by first | assumption | rfl) vlX10_190 dX10_count_133 (by decide) rfl rfl (by decide) (Nat.le_of_ble_eq_true rfl) (md_countOf (by omega) (by omega) (by omega) (by omega) H ok ?_)
                        intro h1 H1 F1
                        refine go_ireturn dX10_count_136 rfl ?_
                        have e9 : sp_count j x1 y1 z1 s a = (pkn a).1 (4 * plC j x1 y1 z1 + s) := by
                          unfold sp_count
                          rw [if_pos (by omega)]
                        rw [e9] at hQ
                        unfold plC at hQ
                        first | rw [if_pos c77] at hQ | rw [if_neg c77, if_pos c86] at hQ | rw [if_neg c77, if_neg c86, if_pos c97] at hQ | rw [if_neg c77, if_neg c86, if_neg c97] at hQ
                        exact hQ h1 H1 F1
                    · refine go_iconst dX10_count_80 ⟨by decide, by decide⟩ ?_
                      refine go_goto (tgt := 124) dX10_count_81 (by decide) ?_
                      refine go_istore dX10_count_124 (Nat.le_of_ble_eq_true rfl) rfl (by dsimp only [List.set]) ?_
                      refine go_aload_n dX10_count_126 rfl ?_
                      refine go_iconst dX10_count_127 ⟨by decide, by decide⟩ ?_
                      refine go_iload dX10_count_128 rfl ?_
                      refine go_imul dX10_count_130 (by omega) (by omega) ?_
                      refine go_iload dX10_count_131 rfl ?_
                      refine go_cV2I (by first | assumption | rfl) vlX10_190 dX10_count_133 (by decide) rfl rfl (by decide) (Nat.le_of_ble_eq_true rfl) (md_countOf (by omega) (by omega) (by omega) (by omega) H ok ?_)
                      intro h1 H1 F1
                      refine go_ireturn dX10_count_136 rfl ?_
                      have e9 : sp_count j x1 y1 z1 s a = (pkn a).1 (4 * plC j x1 y1 z1 + s) := by
                        unfold sp_count
                        rw [if_pos (by omega)]
                      rw [e9] at hQ
                      unfold plC at hQ
                      first | rw [if_pos c77] at hQ | rw [if_neg c77, if_pos c86] at hQ | rw [if_neg c77, if_neg c86, if_pos c97] at hQ | rw [if_neg c77, if_neg c86, if_neg c97] at hQ
                      exact hQ h1 H1 F1
                  · refine go_iload_n dX10_count_70 rfl ?_
                    refine go_if_eq (tgt := 76) dX10_count_71 (by decide) (fun c71 => ?_) (fun c71 => ?_)
                    · refine go_iload_n dX10_count_76 rfl ?_
                      refine go_if_ne (tgt := 84) dX10_count_77 (by decide) (fun c77 => ?_) (fun c77 => ?_)
                      · refine go_iload_n dX10_count_84 rfl ?_
                        refine go_iconst dX10_count_85 ⟨by decide, by decide⟩ ?_
                        refine go_icmp_ne (tgt := 95) dX10_count_86 (by decide) (fun c86 => ?_) (fun c86 => ?_)
                        · refine go_iload_n dX10_count_95 rfl ?_
                          refine go_iconst dX10_count_96 ⟨by decide, by decide⟩ ?_
                          refine go_icmp_ne (tgt := 110) dX10_count_97 (by decide) (fun c97 => ?_) (fun c97 => ?_)
                          · refine go_bipush dX10_count_110 (by decide +kernel) ⟨by decide, by decide⟩ ?_
                            refine go_bipush dX10_count_112 (by decide +kernel) ⟨by decide, by decide⟩ ?_
                            refine go_iload_n dX10_count_114 rfl ?_
                            refine go_imul dX10_count_115 (by omega) (by omega) ?_
                            refine go_iadd dX10_count_116 (by omega) (by omega) ?_
                            refine go_iconst dX10_count_117 ⟨by decide, by decide⟩ ?_
                            refine go_iload_n dX10_count_118 rfl ?_
                            refine go_imul dX10_count_119 (by omega) (by omega) ?_
                            refine go_iadd dX10_count_120 (by omega) (by omega) ?_
                            refine go_iload dX10_count_121 rfl ?_
                            refine go_iadd dX10_count_123 (by omega) (by omega) ?_
                            refine go_istore dX10_count_124 (Nat.le_of_ble_eq_true rfl) rfl (by dsimp only [List.set]) ?_
                            refine go_aload_n dX10_count_126 rfl ?_
                            refine go_iconst dX10_count_127 ⟨by decide, by decide⟩ ?_
                            refine go_iload dX10_count_128 rfl ?_
                            refine go_imul dX10_count_130 (by omega) (by omega) ?_
                            refine go_iload dX10_count_131 rfl ?_
                            refine go_cV2I (by first | assumption | rfl) vlX10_190 dX10_count_133 (by decide) rfl rfl (by decide) (Nat.le_of_ble_eq_true rfl) (md_countOf (by omega) (by omega) (by omega) (by omega) H ok ?_)
                            intro h1 H1 F1
                            refine go_ireturn dX10_count_136 rfl ?_
                            have e9 : sp_count j x1 y1 z1 s a = (pkn a).1 (4 * plC j x1 y1 z1 + s) := by
                              unfold sp_count
                              rw [if_pos (by omega)]
                            rw [e9] at hQ
                            unfold plC at hQ
                            first | rw [if_pos c77] at hQ | rw [if_neg c77, if_pos c86] at hQ | rw [if_neg c77, if_neg c86, if_pos c97] at hQ | rw [if_neg c77, if_neg c86, if_neg c97] at hQ
                            exact hQ h1 H1 F1
                          · refine go_iconst dX10_count_100 ⟨by decide, by decide⟩ ?_
                            refine go_iconst dX10_count_101 ⟨by decide, by decide⟩ ?_
                            refine go_iload_n dX10_count_102 rfl ?_
                            refine go_imul dX10_count_103 (by omega) (by omega) ?_
                            refine go_iadd dX10_count_104 (by omega) (by omega) ?_
                            refine go_iload_n dX10_count_105 rfl ?_
                            refine go_iadd dX10_count_106 (by omega) (by omega) ?_
                            refine go_goto (tgt := 124) dX10_count_107 (by decide) ?_
                            refine go_istore dX10_count_124 (Nat.le_of_ble_eq_true rfl) rfl (by dsimp only [List.set]) ?_
                            refine go_aload_n dX10_count_126 rfl ?_
                            refine go_iconst dX10_count_127 ⟨by decide, by decide⟩ ?_
                            refine go_iload dX10_count_128 rfl ?_
                            refine go_imul dX10_count_130 (by omega) (by omega) ?_
                            refine go_iload dX10_count_131 rfl ?_
                            refine go_cV2I (by first | assumption | rfl) vlX10_190 dX10_count_133 (by decide) rfl rfl (by decide) (Nat.le_of_ble_eq_true rfl) (md_countOf (by omega) (by omega) (by omega) (by omega) H ok ?_)
                            intro h1 H1 F1
                            refine go_ireturn dX10_count_136 rfl ?_
                            have e9 : sp_count j x1 y1 z1 s a = (pkn a).1 (4 * plC j x1 y1 z1 + s) := by
                              unfold sp_count
                              rw [if_pos (by omega)]
                            rw [e9] at hQ
                            unfold plC at hQ
                            first | rw [if_pos c77] at hQ | rw [if_neg c77, if_pos c86] at hQ | rw [if_neg c77, if_neg c86, if_pos c97] at hQ | rw [if_neg c77, if_neg c86, if_neg c97] at hQ
                            exact hQ h1 H1 F1
                        · refine go_iconst dX10_count_89 ⟨by decide, by decide⟩ ?_
                          refine go_iload_n dX10_count_90 rfl ?_
                          refine go_iadd dX10_count_91 (by omega) (by omega) ?_
                          refine go_goto (tgt := 124) dX10_count_92 (by decide) ?_
                          refine go_istore dX10_count_124 (Nat.le_of_ble_eq_true rfl) rfl (by dsimp only [List.set]) ?_
                          refine go_aload_n dX10_count_126 rfl ?_
                          refine go_iconst dX10_count_127 ⟨by decide, by decide⟩ ?_
                          refine go_iload dX10_count_128 rfl ?_
                          refine go_imul dX10_count_130 (by omega) (by omega) ?_
                          refine go_iload dX10_count_131 rfl ?_
                          refine go_cV2I (by first | assumption | rfl) vlX10_190 dX10_count_133 (by decide) rfl rfl (by decide) (Nat.le_of_ble_eq_true rfl) (md_countOf (by omega) (by omega) (by omega) (by omega) H ok ?_)
                          intro h1 H1 F1
                          refine go_ireturn dX10_count_136 rfl ?_
                          have e9 : sp_count j x1 y1 z1 s a = (pkn a).1 (4 * plC j x1 y1 z1 + s) := by
                            unfold sp_count
                            rw [if_pos (by omega)]
                          rw [e9] at hQ
                          unfold plC at hQ
                          first | rw [if_pos c77] at hQ | rw [if_neg c77, if_pos c86] at hQ | rw [if_neg c77, if_neg c86, if_pos c97] at hQ | rw [if_neg c77, if_neg c86, if_neg c97] at hQ
                          exact hQ h1 H1 F1
                      · refine go_iconst dX10_count_80 ⟨by decide, by decide⟩ ?_
                        refine go_goto (tgt := 124) dX10_count_81 (by decide) ?_
                        refine go_istore dX10_count_124 (Nat.le_of_ble_eq_true rfl) rfl (by dsimp only [List.set]) ?_
                        refine go_aload_n dX10_count_126 rfl ?_
                        refine go_iconst dX10_count_127 ⟨by decide, by decide⟩ ?_
                        refine go_iload dX10_count_128 rfl ?_
                        refine go_imul dX10_count_130 (by omega) (by omega) ?_
                        refine go_iload dX10_count_131 rfl ?_
                        refine go_cV2I (by first | assumption | rfl) vlX10_190 dX10_count_133 (by decide) rfl rfl (by decide) (Nat.le_of_ble_eq_true rfl) (md_countOf (by omega) (by omega) (by omega) (by omega) H ok ?_)
                        intro h1 H1 F1
                        refine go_ireturn dX10_count_136 rfl ?_
                        have e9 : sp_count j x1 y1 z1 s a = (pkn a).1 (4 * plC j x1 y1 z1 + s) := by
                          unfold sp_count
                          rw [if_pos (by omega)]
                        rw [e9] at hQ
                        unfold plC at hQ
                        first | rw [if_pos c77] at hQ | rw [if_neg c77, if_pos c86] at hQ | rw [if_neg c77, if_neg c86, if_pos c97] at hQ | rw [if_neg c77, if_neg c86, if_neg c97] at hQ
                        exact hQ h1 H1 F1
                    · refine go_iconst dX10_count_74 ⟨by decide, by decide⟩ ?_
                      refine go_ireturn dX10_count_75 rfl ?_
                      have e9 : sp_count j x1 y1 z1 s a = -1 := by
                        unfold sp_count
                        rw [if_neg (by omega)]
                      rw [e9] at hQ; exact hQ h H FrM.rf
            · refine go_iload dX10_count_51 rfl ?_
              refine go_if_ne (tgt := 74) dX10_count_53 (by decide) (fun c53 => ?_) (fun c53 => ?_)
              · refine go_iconst dX10_count_74 ⟨by decide, by decide⟩ ?_
                refine go_ireturn dX10_count_75 rfl ?_
                have e9 : sp_count j x1 y1 z1 s a = -1 := by
                  unfold sp_count
                  rw [if_neg (by omega)]
                rw [e9] at hQ; exact hQ h H FrM.rf
              · refine go_iload_n dX10_count_56 rfl ?_
                refine go_iconst dX10_count_57 ⟨by decide, by decide⟩ ?_
                refine go_icmp_ge (tgt := 65) dX10_count_58 (by decide) (fun c58 => ?_) (fun c58 => ?_)
                · refine go_iload_n dX10_count_65 rfl ?_
                  refine go_iconst dX10_count_66 ⟨by decide, by decide⟩ ?_
                  refine go_icmp_ge (tgt := 76) dX10_count_67 (by decide) (fun c67 => ?_) (fun c67 => ?_)
                  · refine go_iload_n dX10_count_76 rfl ?_
                    refine go_if_ne (tgt := 84) dX10_count_77 (by decide) (fun c77 => ?_) (fun c77 => ?_)
                    · refine go_iload_n dX10_count_84 rfl ?_
                      refine go_iconst dX10_count_85 ⟨by decide, by decide⟩ ?_
                      refine go_icmp_ne (tgt := 95) dX10_count_86 (by decide) (fun c86 => ?_) (fun c86 => ?_)
                      · refine go_iload_n dX10_count_95 rfl ?_
                        refine go_iconst dX10_count_96 ⟨by decide, by decide⟩ ?_
                        refine go_icmp_ne (tgt := 110) dX10_count_97 (by decide) (fun c97 => ?_) (fun c97 => ?_)
                        · refine go_bipush dX10_count_110 (by decide +kernel) ⟨by decide, by decide⟩ ?_
                          refine go_bipush dX10_count_112 (by decide +kernel) ⟨by decide, by decide⟩ ?_
                          refine go_iload_n dX10_count_114 rfl ?_
                          refine go_imul dX10_count_115 (by omega) (by omega) ?_
                          refine go_iadd dX10_count_116 (by omega) (by omega) ?_
                          refine go_iconst dX10_count_117 ⟨by decide, by decide⟩ ?_
                          refine go_iload_n dX10_count_118 rfl ?_
                          refine go_imul dX10_count_119 (by omega) (by omega) ?_
                          refine go_iadd dX10_count_120 (by omega) (by omega) ?_
                          refine go_iload dX10_count_121 rfl ?_
                          refine go_iadd dX10_count_123 (by omega) (by omega) ?_
                          refine go_istore dX10_count_124 (Nat.le_of_ble_eq_true rfl) rfl (by dsimp only [List.set]) ?_
                          refine go_aload_n dX10_count_126 rfl ?_
                          refine go_iconst dX10_count_127 ⟨by decide, by decide⟩ ?_
                          refine go_iload dX10_count_128 rfl ?_
                          refine go_imul dX10_count_130 (by omega) (by omega) ?_
                          refine go_iload dX10_count_131 rfl ?_
                          refine go_cV2I (by first | assumption | rfl) vlX10_190 dX10_count_133 (by decide) rfl rfl (by decide) (Nat.le_of_ble_eq_true rfl) (md_countOf (by omega) (by omega) (by omega) (by omega) H ok ?_)
                          intro h1 H1 F1
                          refine go_ireturn dX10_count_136 rfl ?_
                          have e9 : sp_count j x1 y1 z1 s a = (pkn a).1 (4 * plC j x1 y1 z1 + s) := by
                            unfold sp_count
                            rw [if_pos (by omega)]
                          rw [e9] at hQ
                          unfold plC at hQ
                          first | rw [if_pos c77] at hQ | rw [if_neg c77, if_pos c86] at hQ | rw [if_neg c77, if_neg c86, if_pos c97] at hQ | rw [if_neg c77, if_neg c86, if_neg c97] at hQ
                          exact hQ h1 H1 F1
                        · refine go_iconst dX10_count_100 ⟨by decide, by decide⟩ ?_
                          refine go_iconst dX10_count_101 ⟨by decide, by decide⟩ ?_
                          refine go_iload_n dX10_count_102 rfl ?_
                          refine go_imul dX10_count_103 (by omega) (by omega) ?_
                          refine go_iadd dX10_count_104 (by omega) (by omega) ?_
                          refine go_iload_n dX10_count_105 rfl ?_
                          refine go_iadd dX10_count_106 (by omega) (by omega) ?_
                          refine go_goto (tgt := 124) dX10_count_107 (by decide) ?_
                          refine go_istore dX10_count_124 (Nat.le_of_ble_eq_true rfl) rfl (by dsimp only [List.set]) ?_
                          refine go_aload_n dX10_count_126 rfl ?_
                          refine go_iconst dX10_count_127 ⟨by decide, by decide⟩ ?_
                          refine go_iload dX10_count_128 rfl ?_
                          refine go_imul dX10_count_130 (by omega) (by omega) ?_
                          refine go_iload dX10_count_131 rfl ?_
                          refine go_cV2I (by first | assumption | rfl) vlX10_190 dX10_count_133 (by decide) rfl rfl (by decide) (Nat.le_of_ble_eq_true rfl) (md_countOf (by omega) (by omega) (by omega) (by omega) H ok ?_)
                          intro h1 H1 F1
                          refine go_ireturn dX10_count_136 rfl ?_
                          have e9 : sp_count j x1 y1 z1 s a = (pkn a).1 (4 * plC j x1 y1 z1 + s) := by
                            unfold sp_count
                            rw [if_pos (by omega)]
                          rw [e9] at hQ
                          unfold plC at hQ
                          first | rw [if_pos c77] at hQ | rw [if_neg c77, if_pos c86] at hQ | rw [if_neg c77, if_neg c86, if_pos c97] at hQ | rw [if_neg c77, if_neg c86, if_neg c97] at hQ
                          exact hQ h1 H1 F1
                      · refine go_iconst dX10_count_89 ⟨by decide, by decide⟩ ?_
                        refine go_iload_n dX10_count_90 rfl ?_
                        refine go_iadd dX10_count_91 (by omega) (by omega) ?_
                        refine go_goto (tgt := 124) dX10_count_92 (by decide) ?_
                        refine go_istore dX10_count_124 (Nat.le_of_ble_eq_true rfl) rfl (by dsimp only [List.set]) ?_
                        refine go_aload_n dX10_count_126 rfl ?_
                        refine go_iconst dX10_count_127 ⟨by decide, by decide⟩ ?_
                        refine go_iload dX10_count_128 rfl ?_
                        refine go_imul dX10_count_130 (by omega) (by omega) ?_
                        refine go_iload dX10_count_131 rfl ?_
                        refine go_cV2I (by first | assumption | rfl) vlX10_190 dX10_count_133 (by decide) rfl rfl (by decide) (Nat.le_of_ble_eq_true rfl) (md_countOf (by omega) (by omega) (by omega) (by omega) H ok ?_)
                        intro h1 H1 F1
                        refine go_ireturn dX10_count_136 rfl ?_
                        have e9 : sp_count j x1 y1 z1 s a = (pkn a).1 (4 * plC j x1 y1 z1 + s) := by
                          unfold sp_count
                          rw [if_pos (by omega)]
                        rw [e9] at hQ
                        unfold plC at hQ
                        first | rw [if_pos c77] at hQ | rw [if_neg c77, if_pos c86] at hQ | rw [if_neg c77, if_neg c86, if_pos c97] at hQ | rw [if_neg c77, if_neg c86, if_neg c97] at hQ
                        exact hQ h1 H1 F1
                    · refine go_iconst dX10_count_80 ⟨by decide, by decide⟩ ?_
                      refine go_goto (tgt := 124) dX10_count_81 (by decide) ?_
                      refine go_istore dX10_count_124 (Nat.le_of_ble_eq_true rfl) rfl (by dsimp only [List.set]) ?_
                      refine go_aload_n dX10_count_126 rfl ?_
                      refine go_iconst dX10_count_127 ⟨by decide, by decide⟩ ?_
                      refine go_iload dX10_count_128 rfl ?_
                      refine go_imul dX10_count_130 (by omega) (by omega) ?_
                      refine go_iload dX10_count_131 rfl ?_
                      refine go_cV2I (by first | assumption | rfl) vlX10_190 dX10_count_133 (by decide) rfl rfl (by decide) (Nat.le_of_ble_eq_true rfl) (md_countOf (by omega) (by omega) (by omega) (by omega) H ok ?_)
                      intro h1 H1 F1
                      refine go_ireturn dX10_count_136 rfl ?_
                      have e9 : sp_count j x1 y1 z1 s a = (pkn a).1 (4 * plC j x1 y1 z1 + s) := by
                        unfold sp_count
                        rw [if_pos (by omega)]
                      rw [e9] at hQ
                      unfold plC at hQ
                      first | rw [if_pos c77] at hQ | rw [if_neg c77, if_pos c86] at hQ | rw [if_neg c77, if_neg c86, if_pos c97] at hQ | rw [if_neg c77, if_neg c86, if_neg c97] at hQ
                      exact hQ h1 H1 F1
                  · refine go_iload_n dX10_count_70 rfl ?_
                    refine go_if_eq (tgt := 76) dX10_count_71 (by decide) (fun c71 => ?_) (fun c71 => ?_)
                    · refine go_iload_n dX10_count_76 rfl ?_
                      refine go_if_ne (tgt := 84) dX10_count_77 (by decide) (fun c77 => ?_) (fun c77 => ?_)
                      · refine go_iload_n dX10_count_84 rfl ?_
                        refine go_iconst dX10_count_85 ⟨by decide, by decide⟩ ?_
                        refine go_icmp_ne (tgt := 95) dX10_count_86 (by decide) (fun c86 => ?_) (fun c86 => ?_)
                        · refine go_iload_n dX10_count_95 rfl ?_
                          refine go_iconst dX10_count_96 ⟨by decide, by decide⟩ ?_
                          refine go_icmp_ne (tgt := 110) dX10_count_97 (by decide) (fun c97 => ?_) (fun c97 => ?_)
                          · refine go_bipush dX10_count_110 (by decide +kernel) ⟨by decide, by decide⟩ ?_
                            refine go_bipush dX10_count_112 (by decide +kernel) ⟨by decide, by decide⟩ ?_
                            refine go_iload_n dX10_count_114 rfl ?_
                            refine go_imul dX10_count_115 (by omega) (by omega) ?_
                            refine go_iadd dX10_count_116 (by omega) (by omega) ?_
                            refine go_iconst dX10_count_117 ⟨by decide, by decide⟩ ?_
                            refine go_iload_n dX10_count_118 rfl ?_
                            refine go_imul dX10_count_119 (by omega) (by omega) ?_
                            refine go_iadd dX10_count_120 (by omega) (by omega) ?_
                            refine go_iload dX10_count_121 rfl ?_
                            refine go_iadd dX10_count_123 (by omega) (by omega) ?_
                            refine go_istore dX10_count_124 (Nat.le_of_ble_eq_true rfl) rfl (by dsimp only [List.set]) ?_
                            refine go_aload_n dX10_count_126 rfl ?_
                            refine go_iconst dX10_count_127 ⟨by decide, by decide⟩ ?_
                            refine go_iload dX10_count_128 rfl ?_
                            refine go_imul dX10_count_130 (by omega) (by omega) ?_
                            refine go_iload dX10_count_131 rfl ?_
                            refine go_cV2I (by first | assumption | rfl) vlX10_190 dX10_count_133 (by decide) rfl rfl (by decide) (Nat.le_of_ble_eq_true rfl) (md_countOf (by omega) (by omega) (by omega) (by omega) H ok ?_)
                            intro h1 H1 F1
                            refine go_ireturn dX10_count_136 rfl ?_
                            have e9 : sp_count j x1 y1 z1 s a = (pkn a).1 (4 * plC j x1 y1 z1 + s) := by
                              unfold sp_count
                              rw [if_pos (by omega)]
                            rw [e9] at hQ
                            unfold plC at hQ
                            first | rw [if_pos c77] at hQ | rw [if_neg c77, if_pos c86] at hQ | rw [if_neg c77, if_neg c86, if_pos c97] at hQ | rw [if_neg c77, if_neg c86, if_neg c97] at hQ
                            exact hQ h1 H1 F1
                          · refine go_iconst dX10_count_100 ⟨by decide, by decide⟩ ?_
                            refine go_iconst dX10_count_101 ⟨by decide, by decide⟩ ?_
                            refine go_iload_n dX10_count_102 rfl ?_
                            refine go_imul dX10_count_103 (by omega) (by omega) ?_
                            refine go_iadd dX10_count_104 (by omega) (by omega) ?_
                            refine go_iload_n dX10_count_105 rfl ?_
                            refine go_iadd dX10_count_106 (by omega) (by omega) ?_
                            refine go_goto (tgt := 124) dX10_count_107 (by decide) ?_
                            refine go_istore dX10_count_124 (Nat.le_of_ble_eq_true rfl) rfl (by dsimp only [List.set]) ?_
                            refine go_aload_n dX10_count_126 rfl ?_
                            refine go_iconst dX10_count_127 ⟨by decide, by decide⟩ ?_
                            refine go_iload dX10_count_128 rfl ?_
                            refine go_imul dX10_count_130 (by omega) (by omega) ?_
                            refine go_iload dX10_count_131 rfl ?_
                            refine go_cV2I (by first | assumption | rfl) vlX10_190 dX10_count_133 (by decide) rfl rfl (by decide) (Nat.le_of_ble_eq_true rfl) (md_countOf (by omega) (by omega) (by omega) (by omega) H ok ?_)
                            intro h1 H1 F1
                            refine go_ireturn dX10_count_136 rfl ?_
                            have e9 : sp_count j x1 y1 z1 s a = (pkn a).1 (4 * plC j x1 y1 z1 + s) := by
                              unfold sp_count
                              rw [if_pos (by omega)]
                            rw [e9] at hQ
                            unfold plC at hQ
                            first | rw [if_pos c77] at hQ | rw [if_neg c77, if_pos c86] at hQ | rw [if_neg c77, if_neg c86, if_pos c97] at hQ | rw [if_neg c77, if_neg c86, if_neg c97] at hQ
                            exact hQ h1 H1 F1
                        · refine go_iconst dX10_count_89 ⟨by decide, by decide⟩ ?_
                          refine go_iload_n dX10_count_90 rfl ?_
                          refine go_iadd dX10_count_91 (by omega) (by omega) ?_
                          refine go_goto (tgt := 124) dX10_count_92 (by decide) ?_
                          refine go_istore dX10_count_124 (Nat.le_of_ble_eq_true rfl) rfl (by dsimp only [List.set]) ?_
                          refine go_aload_n dX10_count_126 rfl ?_
                          refine go_iconst dX10_count_127 ⟨by decide, by decide⟩ ?_
                          refine go_iload dX10_count_128 rfl ?_
                          refine go_imul dX10_count_130 (by omega) (by omega) ?_
                          refine go_iload dX10_count_131 rfl ?_
                          refine go_cV2I (by first | assumption | rfl) vlX10_190 dX10_count_133 (by decide) rfl rfl (by decide) (Nat.le_of_ble_eq_true rfl) (md_countOf (by omega) (by omega) (by omega) (by omega) H ok ?_)
                          intro h1 H1 F1
                          refine go_ireturn dX10_count_136 rfl ?_
                          have e9 : sp_count j x1 y1 z1 s a = (pkn a).1 (4 * plC j x1 y1 z1 + s) := by
                            unfold sp_count
                            rw [if_pos (by omega)]
                          rw [e9] at hQ
                          unfold plC at hQ
                          first | rw [if_pos c77] at hQ | rw [if_neg c77, if_pos c86] at hQ | rw [if_neg c77, if_neg c86, if_pos c97] at hQ | rw [if_neg c77, if_neg c86, if_neg c97] at hQ
                          exact hQ h1 H1 F1
                      · refine go_iconst dX10_count_80 ⟨by decide, by decide⟩ ?_
                        refine go_goto (tgt := 124) dX10_count_81 (by decide) ?_
                        refine go_istore dX10_count_124 (Nat.le_of_ble_eq_true rfl) rfl (by dsimp only [List.set]) ?_
                        refine go_aload_n dX10_count_126 rfl ?_
                        refine go_iconst dX10_count_127 ⟨by decide, by decide⟩ ?_
                        refine go_iload dX10_count_128 rfl ?_
                        refine go_imul dX10_count_130 (by omega) (by omega) ?_
                        refine go_iload dX10_count_131 rfl ?_
                        refine go_cV2I (by first | assumption | rfl) vlX10_190 dX10_count_133 (by decide) rfl rfl (by decide) (Nat.le_of_ble_eq_true rfl) (md_countOf (by omega) (by omega) (by omega) (by omega) H ok ?_)
                        intro h1 H1 F1
                        refine go_ireturn dX10_count_136 rfl ?_
                        have e9 : sp_count j x1 y1 z1 s a = (pkn a).1 (4 * plC j x1 y1 z1 + s) := by
                          unfold sp_count
                          rw [if_pos (by omega)]
                        rw [e9] at hQ
                        unfold plC at hQ
                        first | rw [if_pos c77] at hQ | rw [if_neg c77, if_pos c86] at hQ | rw [if_neg c77, if_neg c86, if_pos c97] at hQ | rw [if_neg c77, if_neg c86, if_neg c97] at hQ
                        exact hQ h1 H1 F1
                    · refine go_iconst dX10_count_74 ⟨by decide, by decide⟩ ?_
                      refine go_ireturn dX10_count_75 rfl ?_
                      have e9 : sp_count j x1 y1 z1 s a = -1 := by
                        unfold sp_count
                        rw [if_neg (by omega)]
                      rw [e9] at hQ; exact hQ h H FrM.rf
                · refine go_iload_n dX10_count_61 rfl ?_
                  refine go_if_ne (tgt := 74) dX10_count_62 (by decide) (fun c62 => ?_) (fun c62 => ?_)
                  · refine go_iconst dX10_count_74 ⟨by decide, by decide⟩ ?_
                    refine go_ireturn dX10_count_75 rfl ?_
                    have e9 : sp_count j x1 y1 z1 s a = -1 := by
                      unfold sp_count
                      rw [if_neg (by omega)]
                    rw [e9] at hQ; exact hQ h H FrM.rf
                  · refine go_iload_n dX10_count_65 rfl ?_
                    refine go_iconst dX10_count_66 ⟨by decide, by decide⟩ ?_
                    refine go_icmp_ge (tgt := 76) dX10_count_67 (by decide) (fun c67 => ?_) (fun c67 => ?_)
                    · refine go_iload_n dX10_count_76 rfl ?_
                      refine go_if_ne (tgt := 84) dX10_count_77 (by decide) (fun c77 => ?_) (fun c77 => ?_)
                      · refine go_iload_n dX10_count_84 rfl ?_
                        refine go_iconst dX10_count_85 ⟨by decide, by decide⟩ ?_
                        refine go_icmp_ne (tgt := 95) dX10_count_86 (by decide) (fun c86 => ?_) (fun c86 => ?_)
                        · refine go_iload_n dX10_count_95 rfl ?_
                          refine go_iconst dX10_count_96 ⟨by decide, by decide⟩ ?_
                          refine go_icmp_ne (tgt := 110) dX10_count_97 (by decide) (fun c97 => ?_) (fun c97 => ?_)
                          · refine go_bipush dX10_count_110 (by decide +kernel) ⟨by decide, by decide⟩ ?_
                            refine go_bipush dX10_count_112 (by decide +kernel) ⟨by decide, by decide⟩ ?_
                            refine go_iload_n dX10_count_114 rfl ?_
                            refine go_imul dX10_count_115 (by omega) (by omega) ?_
                            refine go_iadd dX10_count_116 (by omega) (by omega) ?_
                            refine go_iconst dX10_count_117 ⟨by decide, by decide⟩ ?_
                            refine go_iload_n dX10_count_118 rfl ?_
                            refine go_imul dX10_count_119 (by omega) (by omega) ?_
                            refine go_iadd dX10_count_120 (by omega) (by omega) ?_
                            refine go_iload dX10_count_121 rfl ?_
                            refine go_iadd dX10_count_123 (by omega) (by omega) ?_
                            refine go_istore dX10_count_124 (Nat.le_of_ble_eq_true rfl) rfl (by dsimp only [List.set]) ?_
                            refine go_aload_n dX10_count_126 rfl ?_
                            refine go_iconst dX10_count_127 ⟨by decide, by decide⟩ ?_
                            refine go_iload dX10_count_128 rfl ?_
                            refine go_imul dX10_count_130 (by omega) (by omega) ?_
                            refine go_iload dX10_count_131 rfl ?_
                            refine go_cV2I (by first | assumption | rfl) vlX10_190 dX10_count_133 (by decide) rfl rfl (by decide) (Nat.le_of_ble_eq_true rfl) (md_countOf (by omega) (by omega) (by omega) (by omega) H ok ?_)
                            intro h1 H1 F1
                            refine go_ireturn dX10_count_136 rfl ?_
                            have e9 : sp_count j x1 y1 z1 s a = (pkn a).1 (4 * plC j x1 y1 z1 + s) := by
                              unfold sp_count
                              rw [if_pos (by omega)]
                            rw [e9] at hQ
                            unfold plC at hQ
                            first | rw [if_pos c77] at hQ | rw [if_neg c77, if_pos c86] at hQ | rw [if_neg c77, if_neg c86, if_pos c97] at hQ | rw [if_neg c77, if_neg c86, if_neg c97] at hQ
                            exact hQ h1 H1 F1
                          · refine go_iconst dX10_count_100 ⟨by decide, by decide⟩ ?_
                            refine go_iconst dX10_count_101 ⟨by decide, by decide⟩ ?_
                            refine go_iload_n dX10_count_102 rfl ?_
                            refine go_imul dX10_count_103 (by omega) (by omega) ?_
                            refine go_iadd dX10_count_104 (by omega) (by omega) ?_
                            refine go_iload_n dX10_count_105 rfl ?_
                            refine go_iadd dX10_count_106 (by omega) (by omega) ?_
                            refine go_goto (tgt := 124) dX10_count_107 (by decide) ?_
                            refine go_istore dX10_count_124 (Nat.le_of_ble_eq_true rfl) rfl (by dsimp only [List.set]) ?_
                            refine go_aload_n dX10_count_126 rfl ?_
                            refine go_iconst dX10_count_127 ⟨by decide, by decide⟩ ?_
                            refine go_iload dX10_count_128 rfl ?_
                            refine go_imul dX10_count_130 (by omega) (by omega) ?_
                            refine go_iload dX10_count_131 rfl ?_
                            refine go_cV2I (by first | assumption | rfl) vlX10_190 dX10_count_133 (by decide) rfl rfl (by decide) (Nat.le_of_ble_eq_true rfl) (md_countOf (by omega) (by omega) (by omega) (by omega) H ok ?_)
                            intro h1 H1 F1
                            refine go_ireturn dX10_count_136 rfl ?_
                            have e9 : sp_count j x1 y1 z1 s a = (pkn a).1 (4 * plC j x1 y1 z1 + s) := by
                              unfold sp_count
                              rw [if_pos (by omega)]
                            rw [e9] at hQ
                            unfold plC at hQ
                            first | rw [if_pos c77] at hQ | rw [if_neg c77, if_pos c86] at hQ | rw [if_neg c77, if_neg c86, if_pos c97] at hQ | rw [if_neg c77, if_neg c86, if_neg c97] at hQ
                            exact hQ h1 H1 F1
                        · refine go_iconst dX10_count_89 ⟨by decide, by decide⟩ ?_
                          refine go_iload_n dX10_count_90 rfl ?_
                          refine go_iadd dX10_count_91 (by omega) (by omega) ?_
                          refine go_goto (tgt := 124) dX10_count_92 (by decide) ?_
                          refine go_istore dX10_count_124 (Nat.le_of_ble_eq_true rfl) rfl (by dsimp only [List.set]) ?_
                          refine go_aload_n dX10_count_126 rfl ?_
                          refine go_iconst dX10_count_127 ⟨by decide, by decide⟩ ?_
                          refine go_iload dX10_count_128 rfl ?_
                          refine go_imul dX10_count_130 (by omega) (by omega) ?_
                          refine go_iload dX10_count_131 rfl ?_
                          refine go_cV2I (by first | assumption | rfl) vlX10_190 dX10_count_133 (by decide) rfl rfl (by decide) (Nat.le_of_ble_eq_true rfl) (md_countOf (by omega) (by omega) (by omega) (by omega) H ok ?_)
                          intro h1 H1 F1
                          refine go_ireturn dX10_count_136 rfl ?_
                          have e9 : sp_count j x1 y1 z1 s a = (pkn a).1 (4 * plC j x1 y1 z1 + s) := by
                            unfold sp_count
                            rw [if_pos (by omega)]
                          rw [e9] at hQ
                          unfold plC at hQ
                          first | rw [if_pos c77] at hQ | rw [if_neg c77, if_pos c86] at hQ | rw [if_neg c77, if_neg c86, if_pos c97] at hQ | rw [if_neg c77, if_neg c86, if_neg c97] at hQ
                          exact hQ h1 H1 F1
                      · refine go_iconst dX10_count_80 ⟨by decide, by decide⟩ ?_
                        refine go_goto (tgt := 124) dX10_count_81 (by decide) ?_
                        refine go_istore dX10_count_124 (Nat.le_of_ble_eq_true rfl) rfl (by dsimp only [List.set]) ?_
                        refine go_aload_n dX10_count_126 rfl ?_
                        refine go_iconst dX10_count_127 ⟨by decide, by decide⟩ ?_
                        refine go_iload dX10_count_128 rfl ?_
                        refine go_imul dX10_count_130 (by omega) (by omega) ?_
                        refine go_iload dX10_count_131 rfl ?_
                        refine go_cV2I (by first | assumption | rfl) vlX10_190 dX10_count_133 (by decide) rfl rfl (by decide) (Nat.le_of_ble_eq_true rfl) (md_countOf (by omega) (by omega) (by omega) (by omega) H ok ?_)
                        intro h1 H1 F1
                        refine go_ireturn dX10_count_136 rfl ?_
                        have e9 : sp_count j x1 y1 z1 s a = (pkn a).1 (4 * plC j x1 y1 z1 + s) := by
                          unfold sp_count
                          rw [if_pos (by omega)]
                        rw [e9] at hQ
                        unfold plC at hQ
                        first | rw [if_pos c77] at hQ | rw [if_neg c77, if_pos c86] at hQ | rw [if_neg c77, if_neg c86, if_pos c97] at hQ | rw [if_neg c77, if_neg c86, if_neg c97] at hQ
                        exact hQ h1 H1 F1
                    · refine go_iload_n dX10_count_70 rfl ?_
                      refine go_if_eq (tgt := 76) dX10_count_71 (by decide) (fun c71 => ?_) (fun c71 => ?_)
                      · refine go_iload_n dX10_count_76 rfl ?_
                        refine go_if_ne (tgt := 84) dX10_count_77 (by decide) (fun c77 => ?_) (fun c77 => ?_)
                        · refine go_iload_n dX10_count_84 rfl ?_
                          refine go_iconst dX10_count_85 ⟨by decide, by decide⟩ ?_
                          refine go_icmp_ne (tgt := 95) dX10_count_86 (by decide) (fun c86 => ?_) (fun c86 => ?_)
                          · refine go_iload_n dX10_count_95 rfl ?_
                            refine go_iconst dX10_count_96 ⟨by decide, by decide⟩ ?_
                            refine go_icmp_ne (tgt := 110) dX10_count_97 (by decide) (fun c97 => ?_) (fun c97 => ?_)
                            · refine go_bipush dX10_count_110 (by decide +kernel) ⟨by decide, by decide⟩ ?_
                              refine go_bipush dX10_count_112 (by decide +kernel) ⟨by decide, by decide⟩ ?_
                              refine go_iload_n dX10_count_114 rfl ?_
                              refine go_imul dX10_count_115 (by omega) (by omega) ?_
                              refine go_iadd dX10_count_116 (by omega) (by omega) ?_
                              refine go_iconst dX10_count_117 ⟨by decide, by decide⟩ ?_
                              refine go_iload_n dX10_count_118 rfl ?_
                              refine go_imul dX10_count_119 (by omega) (by omega) ?_
                              refine go_iadd dX10_count_120 (by omega) (by omega) ?_
                              refine go_iload dX10_count_121 rfl ?_
                              refine go_iadd dX10_count_123 (by omega) (by omega) ?_
                              refine go_istore dX10_count_124 (Nat.le_of_ble_eq_true rfl) rfl (by dsimp only [List.set]) ?_
                              refine go_aload_n dX10_count_126 rfl ?_
                              refine go_iconst dX10_count_127 ⟨by decide, by decide⟩ ?_
                              refine go_iload dX10_count_128 rfl ?_
                              refine go_imul dX10_count_130 (by omega) (by omega) ?_
                              refine go_iload dX10_count_131 rfl ?_
                              refine go_cV2I (by first | assumption | rfl) vlX10_190 dX10_count_133 (by decide) rfl rfl (by decide) (Nat.le_of_ble_eq_true rfl) (md_countOf (by omega) (by omega) (by omega) (by omega) H ok ?_)
                              intro h1 H1 F1
                              refine go_ireturn dX10_count_136 rfl ?_
                              have e9 : sp_count j x1 y1 z1 s a = (pkn a).1 (4 * plC j x1 y1 z1 + s) := by
                                unfold sp_count
                                rw [if_pos (by omega)]
                              rw [e9] at hQ
                              unfold plC at hQ
                              first | rw [if_pos c77] at hQ | rw [if_neg c77, if_pos c86] at hQ | rw [if_neg c77, if_neg c86, if_pos c97] at hQ | rw [if_neg c77, if_neg c86, if_neg c97] at hQ
                              exact hQ h1 H1 F1
                            · refine go_iconst dX10_count_100 ⟨by decide, by decide⟩ ?_
                              refine go_iconst dX10_count_101 ⟨by decide, by decide⟩ ?_
                              refine go_iload_n dX10_count_102 rfl ?_
                              refine go_imul dX10_count_103 (by omega) (by omega) ?_
                              refine go_iadd dX10_count_104 (by omega) (by omega) ?_
                              refine go_iload_n dX10_count_105 rfl ?_
                              refine go_iadd dX10_count_106 (by omega) (by omega) ?_
                              refine go_goto (tgt := 124) dX10_count_107 (by decide) ?_
                              refine go_istore dX10_count_124 (Nat.le_of_ble_eq_true rfl) rfl (by dsimp only [List.set]) ?_
                              refine go_aload_n dX10_count_126 rfl ?_
                              refine go_iconst dX10_count_127 ⟨by decide, by decide⟩ ?_
                              refine go_iload dX10_count_128 rfl ?_
                              refine go_imul dX10_count_130 (by omega) (by omega) ?_
                              refine go_iload dX10_count_131 rfl ?_
                              refine go_cV2I (by first | assumption | rfl) vlX10_190 dX10_count_133 (by decide) rfl rfl (by decide) (Nat.le_of_ble_eq_true rfl) (md_countOf (by omega) (by omega) (by omega) (by omega) H ok ?_)
                              intro h1 H1 F1
                              refine go_ireturn dX10_count_136 rfl ?_
                              have e9 : sp_count j x1 y1 z1 s a = (pkn a).1 (4 * plC j x1 y1 z1 + s) := by
                                unfold sp_count
                                rw [if_pos (by omega)]
                              rw [e9] at hQ
                              unfold plC at hQ
                              first | rw [if_pos c77] at hQ | rw [if_neg c77, if_pos c86] at hQ | rw [if_neg c77, if_neg c86, if_pos c97] at hQ | rw [if_neg c77, if_neg c86, if_neg c97] at hQ
                              exact hQ h1 H1 F1
                          · refine go_iconst dX10_count_89 ⟨by decide, by decide⟩ ?_
                            refine go_iload_n dX10_count_90 rfl ?_
                            refine go_iadd dX10_count_91 (by omega) (by omega) ?_
                            refine go_goto (tgt := 124) dX10_count_92 (by decide) ?_
                            refine go_istore dX10_count_124 (Nat.le_of_ble_eq_true rfl) rfl (by dsimp only [List.set]) ?_
                            refine go_aload_n dX10_count_126 rfl ?_
                            refine go_iconst dX10_count_127 ⟨by decide, by decide⟩ ?_
                            refine go_iload dX10_count_128 rfl ?_
                            refine go_imul dX10_count_130 (by omega) (by omega) ?_
                            refine go_iload dX10_count_131 rfl ?_
                            refine go_cV2I (by first | assumption | rfl) vlX10_190 dX10_count_133 (by decide) rfl rfl (by decide) (Nat.le_of_ble_eq_true rfl) (md_countOf (by omega) (by omega) (by omega) (by omega) H ok ?_)
                            intro h1 H1 F1
                            refine go_ireturn dX10_count_136 rfl ?_
                            have e9 : sp_count j x1 y1 z1 s a = (pkn a).1 (4 * plC j x1 y1 z1 + s) := by
                              unfold sp_count
                              rw [if_pos (by omega)]
                            rw [e9] at hQ
                            unfold plC at hQ
                            first | rw [if_pos c77] at hQ | rw [if_neg c77, if_pos c86] at hQ | rw [if_neg c77, if_neg c86, if_pos c97] at hQ | rw [if_neg c77, if_neg c86, if_neg c97] at hQ
                            exact hQ h1 H1 F1
                        · refine go_iconst dX10_count_80 ⟨by decide, by decide⟩ ?_
                          refine go_goto (tgt := 124) dX10_count_81 (by decide) ?_
                          refine go_istore dX10_count_124 (Nat.le_of_ble_eq_true rfl) rfl (by dsimp only [List.set]) ?_
                          refine go_aload_n dX10_count_126 rfl ?_
                          refine go_iconst dX10_count_127 ⟨by decide, by decide⟩ ?_
                          refine go_iload dX10_count_128 rfl ?_
                          refine go_imul dX10_count_130 (by omega) (by omega) ?_
                          refine go_iload dX10_count_131 rfl ?_
                          refine go_cV2I (by first | assumption | rfl) vlX10_190 dX10_count_133 (by decide) rfl rfl (by decide) (Nat.le_of_ble_eq_true rfl) (md_countOf (by omega) (by omega) (by omega) (by omega) H ok ?_)
                          intro h1 H1 F1
                          refine go_ireturn dX10_count_136 rfl ?_
                          have e9 : sp_count j x1 y1 z1 s a = (pkn a).1 (4 * plC j x1 y1 z1 + s) := by
                            unfold sp_count
                            rw [if_pos (by omega)]
                          rw [e9] at hQ
                          unfold plC at hQ
                          first | rw [if_pos c77] at hQ | rw [if_neg c77, if_pos c86] at hQ | rw [if_neg c77, if_neg c86, if_pos c97] at hQ | rw [if_neg c77, if_neg c86, if_neg c97] at hQ
                          exact hQ h1 H1 F1
                      · refine go_iconst dX10_count_74 ⟨by decide, by decide⟩ ?_
                        refine go_ireturn dX10_count_75 rfl ?_
                        have e9 : sp_count j x1 y1 z1 s a = -1 := by
                          unfold sp_count
                          rw [if_neg (by omega)]
                        rw [e9] at hQ; exact hQ h H FrM.rf
          · refine go_iconst dX10_count_44 ⟨by decide, by decide⟩ ?_
            refine go_ireturn dX10_count_45 rfl ?_
            have e9 : sp_count j x1 y1 z1 s a = -1 := by
              unfold sp_count
              rw [if_neg]
              intro q
              first | (have k1 := if01 c41; omega) | (have k1 := if01 c33; omega) | (have k1 := if01 c25; omega) | (have k1 := if01 c18; omega) | (have k1 := if01 c11; omega)
            rw [e9] at hQ; exact hQ h H FrM.rf

set_option maxHeartbeats 4000000 in
set_option maxRecDepth 100000 in
theorem md_type {x : mX} {h : mH} {Q : Int → mH → Prop} {z : Int} {a : Ab} (H : MdS h a) (ok : AbOk a) (hQ : ∀ h', MdS h' (sp_type z a).2 → FrM h h' → Q (sp_type z a).1 h') : CtI x mtX10_type [xR 52, xI z] h Q := by
  have e6 := H.1.1
  have hl := ok.1.1
  refine ct_go (ls := [xR 52, xI z]) (by decide +kernel) (Nat.le_of_ble_eq_true rfl) rfl ?_
  refine go_iload_n dX10_type_0 rfl ?_
  refine go_iconst dX10_type_1 ⟨by decide, by decide⟩ ?_
  refine go_sipush dX10_type_2 (by decide +kernel) ⟨by decide, by decide⟩ ?_
  refine go_cS3I slX10_164 dX10_type_5 (by decide) (Nat.le_of_ble_eq_true rfl) (md_within ?_)
  refine go_if_ne (tgt := 13) dX10_type_8 (by decide) (fun c8 => ?_) (fun c8 => ?_)
  · refine go_aload_n dX10_type_13 rfl ?_
    refine gfX10_letters (by first | assumption | rfl) flX10_168 dX10_type_14 ?_
    try simp (disch := decide) only [hset_eq, hset_nk, hset_ni, e6]
    refine go_sipush dX10_type_17 (by decide +kernel) ⟨by decide, by decide⟩ ?_
    refine go_icmp_ne (tgt := 26) dX10_type_20 (by decide) (fun c20 => ?_) (fun c20 => ?_)
    · refine go_aload_n dX10_type_26 rfl ?_
      refine gfX10_text (by first | assumption | rfl) flX10_23 dX10_type_27 ?_
      refine go_aload_n dX10_type_30 rfl ?_
      refine gfX10_letters (by first | assumption | rfl) flX10_168 dX10_type_31 ?_
      try simp (disch := decide) only [hset_eq, hset_nk, hset_ni, e6]
      refine go_iload_n dX10_type_34 rfl ?_
      refine go_iastore (by first | assumption | rfl) dX10_type_35 (by omega) (by show (a.1.length : Int) < 200; omega) ?_
      refine go_aload_n dX10_type_36 rfl ?_
      first | refine go_dupR dX10_type_37 ?_ | refine go_dupI dX10_type_37 ?_
      refine gfX10_letters (by first | assumption | rfl) flX10_168 dX10_type_38 ?_
      try simp (disch := decide) only [hset_eq, hset_nk, hset_ni, e6]
      refine go_iconst dX10_type_41 ⟨by decide, by decide⟩ ?_
      refine go_iadd dX10_type_42 (by omega) (by omega) ?_
      refine pfX10_letters (by first | assumption | rfl) flX10_168 dX10_type_43 ?_
      refine go_aload_n dX10_type_46 rfl ?_
      refine gfX10_letters (by first | assumption | rfl) flX10_168 dX10_type_47 ?_
      try simp (disch := decide) only [hset_eq, hset_nk, hset_ni, e6]
      refine go_ireturn dX10_type_50 rfl ?_
      have q := if10 c8
      have e9 : sp_type z a = ((a.1.length : Int) + 1, (a.1 ++ [z], a.2)) := by unfold sp_type; rw [if_neg (by omega), if_neg (by omega)]
      rw [e9] at hQ
      obtain ⟨L, N, U, ⟨I, J⟩, Z⟩ := H
      refine hQ _ ⟨⟨?_, fun k hk => ?_⟩, by simp (disch := decide) only [hset_eq, hset_nk, hset_ni]; exact N, U.congr (by simp (disch := decide) only [hset_eq, hset_nk, hset_ni]) (by simp (disch := decide) only [hset_eq, hset_nk, hset_ni]), ⟨I.congr (by simp (disch := decide) only [hset_eq, hset_nk, hset_ni]) (by simp (disch := decide) only [hset_eq, hset_nk, hset_ni]), J.congr (by simp (disch := decide) only [hset_eq, hset_nk, hset_ni]) (by simp (disch := decide) only [hset_eq, hset_nk, hset_ni])⟩, by simp (disch := decide) only [hset_eq, hset_nk, hset_ni]; exact Z⟩ (fun i q => by rw [hset_ni (by omega), hset_ni (by omega)])
      · rw [hset_eq]; dsimp only; rw [List.length_append, List.length_singleton]; omega
      · dsimp only at hk ⊢
        rw [List.length_append, List.length_singleton] at hk
        rw [hset_ni (by decide)]
        by_cases e : k < a.1.length
        · rw [hset_nk (by omega), L.2 k e, List.getD_eq_getElem?_getD, List.getD_eq_getElem?_getD, List.getElem?_append_left e]
        · have : k = a.1.length := by omega
          subst this
          rw [hset_eq]; simp
    · refine go_bipush dX10_type_23 (by decide +kernel) ⟨by decide, by decide⟩ ?_
      refine go_ireturn dX10_type_25 rfl ?_
      have q := if10 c8
      have e9 : sp_type z a = (-3, a) := by unfold sp_type; rw [if_neg (by omega), if_pos (by omega)]
      rw [e9] at hQ; exact hQ h H FrM.rf
  · refine go_iconst dX10_type_11 ⟨by decide, by decide⟩ ?_
    refine go_ireturn dX10_type_12 rfl ?_
    have q := if01 c8
    have e9 : sp_type z a = (-1, a) := by unfold sp_type; rw [if_pos (by omega)]
    rw [e9] at hQ; exact hQ h H FrM.rf

set_option maxHeartbeats 4000000 in
set_option maxRecDepth 100000 in
theorem md_clear {x : mX} {h : mH} {Q : Int → mH → Prop} {a : Ab} (H : MdS h a) (ok : AbOk a) (hQ : ∀ h', MdS h' (sp_clear a).2 → FrM h h' → Q (sp_clear a).1 h') : CtI x mtX10_clear [xR 52] h Q := by
  have e6 := H.1.1
  refine ct_go (ls := [xR 52, xU]) (by decide +kernel) (Nat.le_of_ble_eq_true rfl) rfl ?_
  refine go_aload_n dX10_clear_0 rfl ?_
  refine gfX10_letters (by first | assumption | rfl) flX10_168 dX10_clear_1 ?_
  try simp (disch := decide) only [hset_eq, hset_nk, hset_ni, e6]
  refine go_istore_n 1 dX10_clear_4 rfl (Nat.le_of_ble_eq_true rfl) rfl (by dsimp only [List.set]) ?_
  refine go_aload_n dX10_clear_5 rfl ?_
  refine go_iconst dX10_clear_6 ⟨by decide, by decide⟩ ?_
  refine pfX10_letters (by first | assumption | rfl) flX10_168 dX10_clear_7 ?_
  refine go_iload_n dX10_clear_10 rfl ?_
  refine go_ireturn dX10_clear_11 rfl ?_
  obtain ⟨L, N, U, ⟨I, J⟩, Z⟩ := H
  exact hQ _ ⟨⟨by rw [hset_eq]; rfl, fun k hk => absurd hk (Nat.not_lt_zero k)⟩, by simp (disch := decide) only [hset_eq, hset_nk, hset_ni]; exact N, U.congr (by simp (disch := decide) only [hset_eq, hset_nk, hset_ni]) (by simp (disch := decide) only [hset_eq, hset_nk, hset_ni]), ⟨I.congr (by simp (disch := decide) only [hset_eq, hset_nk, hset_ni]) (by simp (disch := decide) only [hset_eq, hset_nk, hset_ni]), J.congr (by simp (disch := decide) only [hset_eq, hset_nk, hset_ni]) (by simp (disch := decide) only [hset_eq, hset_nk, hset_ni])⟩, by simp (disch := decide) only [hset_eq, hset_nk, hset_ni]; exact Z⟩ (fun i q => hset_ni (by omega))
