/-! ===== the model: its coder ===== -/
/-- what parts, and the way through the contexts, leave as it was -/
def FrX (h h' : mH) : Prop := (∀ i, i ≠ 52 → i ≠ 60 → h' i = h i) ∧ ∀ z, z ≤ 11 ∨ z = 15 ∨ (17 ≤ z ∧ z ≤ 19) ∨ 24 ≤ z → h' 52 z = h 52 z
theorem FrX.rf {h : mH} : FrX h h := ⟨fun _ _ _ => rfl, fun _ _ => rfl⟩
theorem FrX.tr {h h1 h2 : mH} (a : FrX h h1) (b : FrX h1 h2) : FrX h h2 := ⟨fun i q1 q2 => (b.1 i q1 q2).trans (a.1 i q1 q2), fun z q => (b.2 z q).trans (a.2 z q)⟩
theorem FrX.st {h h1 : mH} {z v : Int} (a : FrX h h1) (hz : ¬ (z ≤ 11 ∨ z = 15 ∨ (17 ≤ z ∧ z ≤ 19) ∨ 24 ≤ z)) : FrX h (hset h1 52 z v) := ⟨fun i q1 q2 => by rw [hset_ni q1]; exact a.1 i q1 q2, fun y q => by rw [hset_nk (by omega)]; exact a.2 y q⟩
def BitL (h : mH) (bs : List Int) : Prop := h 52 16 = (bs.length : Int) ∧ ∀ k : Nat, k < bs.length → h 60 k = bs.getD k 0
theorem BitL.congr {h h' : mH} {bs : List Int} (H : BitL h bs) (e1 : h' 52 16 = h 52 16) (e2 : h' 60 = h 60) : BitL h' bs := ⟨by rw [e1]; exact H.1, fun k hk => by rw [e2]; exact H.2 k hk⟩
theorem BitL.put {h : mH} {bs : List Int} {v : Int} (H : BitL h bs) : BitL (hset (hset h 60 (h 52 16) v) 52 16 (h 52 16 + 1)) (bs ++ [v]) := by
  refine ⟨by rw [hset_eq, H.1, List.length_append, List.length_singleton]; omega, fun k hk => ?_⟩
  rw [List.length_append, List.length_singleton] at hk
  rw [hset_ni (by decide)]
  by_cases e : k < bs.length
  · rw [hset_nk (by rw [H.1]; omega), H.2 k e, List.getD_eq_getElem?_getD, List.getD_eq_getElem?_getD, List.getElem?_append_left e]
  · have : k = bs.length := by omega
    subst this
    rw [H.1, hset_eq]; simp

theorem rep_snoc {bs : List Int} {b x : Int} {k : Nat} : bs ++ b :: List.replicate (k + 1) x = (bs ++ b :: List.replicate k x) ++ [x] := by
  rw [List.replicate_succ', List.append_assoc, List.cons_append]

set_option maxHeartbeats 4000000 in
set_option maxRecDepth 100000 in
theorem md_puts {x : mX} {h : mH} {Q : mH → Prop} {bs : List Int} {ow : Nat} {b : Int} (H : BitL h bs) (hb : b = 0 ∨ b = 1) (ho : h 52 14 = (ow : Int)) (hD : bs.length + ow + 1 ≤ 2800) (hQ : ∀ h', BitL h' (bs ++ b :: List.replicate ow (1 - b)) → h' 52 14 = 0 → (∀ i, i ≠ 52 → i ≠ 60 → h' i = h i) → (∀ z, z ≠ 14 → z ≠ 16 → h' 52 z = h 52 z) → Q h') : CtV x mtX10_puts [xR 52, xI b] h Q := by
  have e16 := H.1
  refine ct_go (ls := [xR 52, xI b]) (by decide +kernel) (Nat.le_of_ble_eq_true rfl) rfl ?_
  refine go_aload_n dX10_puts_0 rfl ?_
  refine gfX10_bits (by first | assumption | rfl) flX10_32 dX10_puts_1 ?_
  refine go_aload_n dX10_puts_4 rfl ?_
  refine gfX10_bitMany (by first | assumption | rfl) flX10_65 dX10_puts_5 ?_
  try simp (disch := decide) only [hset_eq, hset_nk, hset_ni]
  refine go_iload_n dX10_puts_8 rfl ?_
  refine go_iastore (by first | assumption | rfl) dX10_puts_9 (by omega) (by show h 52 16 < 2800; omega) ?_
  refine go_aload_n dX10_puts_10 rfl ?_
  first | refine go_dupR dX10_puts_11 ?_ | refine go_dupI dX10_puts_11 ?_
  refine gfX10_bitMany (by first | assumption | rfl) flX10_65 dX10_puts_12 ?_
  try simp (disch := decide) only [hset_eq, hset_nk, hset_ni]
  refine go_iconst dX10_puts_15 ⟨by decide, by decide⟩ ?_
  refine go_iadd dX10_puts_16 (by omega) (by omega) ?_
  refine pfX10_bitMany (by first | assumption | rfl) flX10_65 dX10_puts_17 ?_
  refine up_indN (P := fun k => ∀ hh : mH, BitL hh (bs ++ b :: List.replicate k (1 - b)) → hh 52 14 = (ow : Int) - k → (∀ i, i ≠ 52 → i ≠ 60 → hh i = h i) → (∀ z, z ≠ 14 → z ≠ 16 → hh 52 z = h 52 z) → Go x mtX10_puts 20 [xR 52, xI b] [] hh (qV Q)) ow (fun k hk ih hh B E F1 F2 => ?_) _ (by rw [show bs ++ b :: List.replicate 0 (1 - b) = bs ++ [b] from rfl]; exact H.put) (by rw [hset_nk (by decide), hset_ni (by decide), ho]; omega) (fun i q1 q2 => by rw [hset_ni q1, hset_ni q2]) (fun z q1 q2 => by rw [hset_nk q2, hset_ni (by decide)])
  have e16 := B.1
  rw [List.length_append, List.length_cons, List.length_replicate] at e16
  by_cases hlt : k < ow
  · skip
    refine go_aload_n dX10_puts_20 rfl ?_
    refine gfX10_owed (by first | assumption | rfl) flX10_62 dX10_puts_21 ?_
    try simp (disch := decide) only [hset_eq, hset_nk, hset_ni]
    refine go_if_le_f (tgt := 62) dX10_puts_24 (by decide) (by omega) ?_
    refine go_aload_n dX10_puts_27 rfl ?_
    refine gfX10_bits (by first | assumption | rfl) flX10_32 dX10_puts_28 ?_
    refine go_aload_n dX10_puts_31 rfl ?_
    refine gfX10_bitMany (by first | assumption | rfl) flX10_65 dX10_puts_32 ?_
    try simp (disch := decide) only [hset_eq, hset_nk, hset_ni]
    refine go_iconst dX10_puts_35 ⟨by decide, by decide⟩ ?_
    refine go_iload_n dX10_puts_36 rfl ?_
    refine go_isub dX10_puts_37 (by omega) (by omega) ?_
    refine go_iastore (by first | assumption | rfl) dX10_puts_38 (by omega) (by show hh 52 16 < 2800; omega) ?_
    refine go_aload_n dX10_puts_39 rfl ?_
    first | refine go_dupR dX10_puts_40 ?_ | refine go_dupI dX10_puts_40 ?_
    refine gfX10_bitMany (by first | assumption | rfl) flX10_65 dX10_puts_41 ?_
    try simp (disch := decide) only [hset_eq, hset_nk, hset_ni]
    refine go_iconst dX10_puts_44 ⟨by decide, by decide⟩ ?_
    refine go_iadd dX10_puts_45 (by omega) (by omega) ?_
    refine pfX10_bitMany (by first | assumption | rfl) flX10_65 dX10_puts_46 ?_
    refine go_aload_n dX10_puts_49 rfl ?_
    first | refine go_dupR dX10_puts_50 ?_ | refine go_dupI dX10_puts_50 ?_
    refine gfX10_owed (by first | assumption | rfl) flX10_62 dX10_puts_51 ?_
    try simp (disch := decide) only [hset_eq, hset_nk, hset_ni]
    refine go_iconst dX10_puts_54 ⟨by decide, by decide⟩ ?_
    refine go_isub dX10_puts_55 (by omega) (by omega) ?_
    refine pfX10_owed (by first | assumption | rfl) flX10_62 dX10_puts_56 ?_
    refine go_goto (tgt := 20) dX10_puts_59 (by decide) ?_
    refine ih (by omega) _ ?_ ?_ (fun i q1 q2 => ?_) (fun z q1 q2 => ?_)
    · rw [rep_snoc]; exact (B.put (v := 1 - b)).congr (hset_nk (by decide)) (hset_ni (by decide))
    · rw [hset_eq]; omega
    · rw [hset_ni q1, hset_ni q1, hset_ni q2]; exact F1 i q1 q2
    · rw [hset_nk q1, hset_nk q2, hset_ni (by decide)]; exact F2 z q1 q2
  · have hie : k = ow := by omega
    subst hie
    refine go_aload_n dX10_puts_20 rfl ?_
    refine gfX10_owed (by first | assumption | rfl) flX10_62 dX10_puts_21 ?_
    try simp (disch := decide) only [hset_eq, hset_nk, hset_ni]
    refine go_if_le_t (tgt := 62) dX10_puts_24 (by decide) (by omega) ?_
    refine go_return dX10_puts_62 rfl ?_
    exact hQ hh B (by omega) F1 F2

/-- the source of bits -/
def SrS (h : mH) (bs : List Int) : Prop := h 52 19 = (bs.length : Int) ∧ ∀ k : Nat, k < bs.length → h 61 k = bs.getD k 0
theorem SrS.congr {h h' : mH} {bs : List Int} (H : SrS h bs) (e1 : h' 52 19 = h 52 19) (e2 : h' 61 = h 61) : SrS h' bs := ⟨by rw [e1]; exact H.1, fun k hk => by rw [e2]; exact H.2 k hk⟩
theorem SrS.at {h : mH} {bs : List Int} (H : SrS h bs) {k : Int} (h0 : 0 ≤ k) (h1 : k < bs.length) : h 61 k = srF bs k := by
  have e := H.2 k.toNat (by omega)
  rw [Int.toNat_of_nonneg h0] at e
  unfold srF
  rw [if_pos ⟨h0, h1⟩]; exact e
theorem SrS.no {bs : List Int} {k : Int} (h1 : bs.length ≤ k) : srF bs k = 0 := by unfold srF; rw [if_neg (by omega)]

set_option maxHeartbeats 4000000 in
set_option maxRecDepth 100000 in
theorem md_nextBit {x : mX} {h : mH} {Q : Int → mH → Prop} {bs : List Int} (S : SrS h bs) (hN : bs.length ≤ 2800) (h0 : 0 ≤ h 52 20) (h1 : h 52 20 ≤ 100000) (hQ : Q (srF bs (h 52 20)) (hset h 52 20 (h 52 20 + 1))) : CtI x mtX10_nextBit [xR 52] h Q := by
  have e19 := S.1
  refine ct_go (ls := [xR 52, xU]) (by decide +kernel) (Nat.le_of_ble_eq_true rfl) rfl ?_
  refine go_aload_n dX10_nextBit_0 rfl ?_
  refine gfX10_sourceAt (by first | assumption | rfl) flX10_68 dX10_nextBit_1 ?_
  refine go_aload_n dX10_nextBit_4 rfl ?_
  refine gfX10_sourceMany (by first | assumption | rfl) flX10_81 dX10_nextBit_5 ?_
  refine go_icmp_ge (tgt := 23) dX10_nextBit_8 (by decide) (fun c8 => ?_) (fun c8 => ?_)
  · rw [SrS.no (show (bs.length : Int) ≤ h 52 20 by omega)] at hQ
    refine go_iconst dX10_nextBit_23 ⟨by decide, by decide⟩ ?_
    refine go_istore_n 1 dX10_nextBit_24 rfl (Nat.le_of_ble_eq_true rfl) rfl (by dsimp only [List.set]) ?_
    refine go_aload_n dX10_nextBit_25 rfl ?_
    first | refine go_dupR dX10_nextBit_26 ?_ | refine go_dupI dX10_nextBit_26 ?_
    refine gfX10_sourceAt (by first | assumption | rfl) flX10_68 dX10_nextBit_27 ?_
    refine go_iconst dX10_nextBit_30 ⟨by decide, by decide⟩ ?_
    refine go_iadd dX10_nextBit_31 (by omega) (by omega) ?_
    refine pfX10_sourceAt (by first | assumption | rfl) flX10_68 dX10_nextBit_32 ?_
    refine go_iload_n dX10_nextBit_35 rfl ?_
    refine go_ireturn dX10_nextBit_36 rfl ?_
    exact hQ
  · refine go_aload_n dX10_nextBit_11 rfl ?_
    refine gfX10_source (by first | assumption | rfl) flX10_35 dX10_nextBit_12 ?_
    refine go_aload_n dX10_nextBit_15 rfl ?_
    refine gfX10_sourceAt (by first | assumption | rfl) flX10_68 dX10_nextBit_16 ?_
    refine go_iaload (by first | assumption | rfl) dX10_nextBit_19 (by omega) (by show h 52 20 < 2800; omega) ?_
    rw [S.at h0 (by omega)]
    refine go_goto (tgt := 24) dX10_nextBit_20 (by decide) ?_
    refine go_istore_n 1 dX10_nextBit_24 rfl (Nat.le_of_ble_eq_true rfl) rfl (by dsimp only [List.set]) ?_
    refine go_aload_n dX10_nextBit_25 rfl ?_
    first | refine go_dupR dX10_nextBit_26 ?_ | refine go_dupI dX10_nextBit_26 ?_
    refine gfX10_sourceAt (by first | assumption | rfl) flX10_68 dX10_nextBit_27 ?_
    refine go_iconst dX10_nextBit_30 ⟨by decide, by decide⟩ ?_
    refine go_iadd dX10_nextBit_31 (by omega) (by omega) ?_
    refine pfX10_sourceAt (by first | assumption | rfl) flX10_68 dX10_nextBit_32 ?_
    refine go_iload_n dX10_nextBit_35 rfl ?_
    refine go_ireturn dX10_nextBit_36 rfl ?_
    exact hQ

/-- the model writes -/
def MW (h : mH) (c : Cd) : Prop := h 52 12 = c.1 ∧ h 52 13 = c.2.1 ∧ h 52 14 = (c.2.2.1 : Int) ∧ BitL h c.2.2.2 ∧ h 52 17 = 0
/-- the model reads -/
def MR (h : mH) (bs : List Int) (c : Rd) : Prop := h 52 12 = c.1 ∧ h 52 13 = c.2.1 ∧ h 52 14 = c.2.2.1 ∧ h 52 21 = c.2.2.2.1 ∧ h 52 20 = c.2.2.2.2 ∧ h 52 17 = 1 ∧ SrS h bs

set_option maxHeartbeats 4000000 in
set_option maxRecDepth 100000 in
theorem md_lies {x : mX} {h : mH} {Q : Int → mH → Prop} {bs : List Int} {c : Rd} {K t : Int} (H : MR h bs c) (hN : CdN c.1 c.2.1) (hV : RdV K c) (ht1 : 1 ≤ t) (ht2 : t ≤ 5000) (hQ : Q (((c.2.2.2.1 - c.1 + 1) * t - 1) / (c.2.1 - c.1 + 1)) h) : CtI x mtX10_lies [xR 52, xI t] h Q := by
  obtain ⟨lo, hi, ow, va, nr⟩ := c
  have e12 : h 52 12 = lo := H.1
  have e13 : h 52 13 = hi := H.2.1
  have e21 : h 52 21 = va := H.2.2.2.1
  obtain ⟨n1, n2, n3⟩ := hN
  obtain ⟨v1, v2, v3⟩ := hV
  dsimp only at n1 n2 n3 v1 v2 hQ
  have z1 : 1 * 1 ≤ (va - lo + 1) * t := Int.mul_le_mul (by omega) ht1 (by decide) (by omega)
  have z2 : (va - lo + 1) * t ≤ 65536 * 5000 := Int.mul_le_mul (by omega) ht2 (by omega) (by decide)
  have m1 : -2147483648 ≤ (va - lo + 1) * t ∧ (va - lo + 1) * t < 2147483648 := by omega
  refine ct_go (ls := [xR 52, xI t]) (by decide +kernel) (Nat.le_of_ble_eq_true rfl) rfl ?_
  refine go_aload_n dX10_lies_0 rfl ?_
  refine gfX10_value (by first | assumption | rfl) flX10_71 dX10_lies_1 ?_
  try simp (disch := decide) only [hset_eq, hset_nk, hset_ni, e12, e13, e21]
  refine go_aload_n dX10_lies_4 rfl ?_
  refine gfX10_low (by first | assumption | rfl) flX10_55 dX10_lies_5 ?_
  try simp (disch := decide) only [hset_eq, hset_nk, hset_ni, e12, e13, e21]
  refine go_isub dX10_lies_8 (by omega) (by omega) ?_
  refine go_iconst dX10_lies_9 ⟨by decide, by decide⟩ ?_
  refine go_iadd dX10_lies_10 (by omega) (by omega) ?_
  refine go_iload_n dX10_lies_11 rfl ?_
  refine go_imul dX10_lies_12 (by exact m1.1) (by exact m1.2) ?_
  refine go_iconst dX10_lies_13 ⟨by decide, by decide⟩ ?_
  refine go_isub dX10_lies_14 (by omega) (by omega) ?_
  refine go_aload_n dX10_lies_15 rfl ?_
  refine gfX10_high (by first | assumption | rfl) flX10_59 dX10_lies_16 ?_
  try simp (disch := decide) only [hset_eq, hset_nk, hset_ni, e12, e13, e21]
  refine go_aload_n dX10_lies_19 rfl ?_
  refine gfX10_low (by first | assumption | rfl) flX10_55 dX10_lies_20 ?_
  try simp (disch := decide) only [hset_eq, hset_nk, hset_ni, e12, e13, e21]
  refine go_isub dX10_lies_23 (by omega) (by omega) ?_
  refine go_iconst dX10_lies_24 ⟨by decide, by decide⟩ ?_
  refine go_iadd dX10_lies_25 (by omega) (by omega) ?_
  refine go_idiv dX10_lies_26 (by omega) (by omega) ?_
  refine go_ireturn dX10_lies_27 rfl ?_
  exact hQ

set_option maxHeartbeats 4000000 in
set_option maxRecDepth 100000 in
theorem md_widens_w54 {x : mX} {h : mH} {Q : Int → mH → Prop} {c : Cd} {L : Int} (hL : les c.1 c.2.1 = L) (H : MW h c) (hB : CdB c.1 c.2.1) (hD : Dn c + 1 ≤ 2800) (hQ0 : les c.1 c.2.1 = -9 → Q 0 h) (hQ1 : les c.1 c.2.1 ≠ -9 → ∀ h', MW h' (stp c) → FrX h h' → Q 1 h') : Go x mtX10_widens 54 [xR 52, xU] [xI L] h (qI Q) := by
  obtain ⟨lo, hi, ow, bs⟩ := c
  have e12 : h 52 12 = lo := H.1
  have e13 : h 52 13 = hi := H.2.1
  have e14 : h 52 14 = (ow : Int) := H.2.2.1
  have eB : BitL h bs := H.2.2.2.1
  have e17 : h 52 17 = 0 := H.2.2.2.2
  obtain ⟨b1, b2, b3⟩ := hB
  dsimp only at hL hQ0 hQ1 b1 b2 b3
  have hDn : bs.length + ow + 1 ≤ 2800 := hD
  rcases les_cases (lo := lo) (hi := hi) with q | q | q | q
  · have hLL : L = 0 := by omega
    subst hLL
    refine go_istore_n 1 dX10_widens_54 rfl (Nat.le_of_ble_eq_true rfl) rfl (by dsimp only [List.set]) ?_
    refine go_iload_n dX10_widens_55 rfl ?_
    refine go_bipush dX10_widens_56 (by decide +kernel) ⟨by decide, by decide⟩ ?_
    refine go_icmp_ne_t (tgt := 63) dX10_widens_58 (by decide) (by decide) ?_
    refine go_iload_n dX10_widens_63 rfl ?_
    refine go_sipush dX10_widens_64 (by decide +kernel) ⟨by decide, by decide⟩ ?_
    refine go_icmp_ne_t (tgt := 83) dX10_widens_67 (by decide) (by decide) ?_
    refine go_aload_n dX10_widens_83 rfl ?_
    refine gfX10_mode (by first | assumption | rfl) flX10_46 dX10_widens_84 ?_
    try simp (disch := decide) only [hset_eq, hset_nk, hset_ni, e12, e13, e14, e17]
    try simp (disch := decide) only [hset_eq, hset_nk, hset_ni, E12, E13, E17]
    refine go_if_ne_f (tgt := 103) dX10_widens_87 (by decide) (rfl) ?_
    refine go_aload_n dX10_widens_90 rfl ?_
    refine go_iload_n dX10_widens_91 rfl ?_
    refine go_if_ne_f (tgt := 99) dX10_widens_92 (by decide) (rfl) ?_
    refine go_iconst dX10_widens_95 ⟨by decide, by decide⟩ ?_
    refine go_goto (tgt := 100) dX10_widens_96 (by decide) ?_
    refine go_cV1V (by first | assumption | rfl) vlX10_86 dX10_widens_100 (by decide) rfl rfl (by decide) (Nat.le_of_ble_eq_true rfl) (md_puts (b := 0) eB (by decide) e14 hDn ?_)
    intro h2 B2 E14 F2 G2
    have E12 : h2 52 12 = lo := (G2 12 (by decide) (by decide)).trans e12
    have E13 : h2 52 13 = hi := (G2 13 (by decide) (by decide)).trans e13
    have E17 : h2 52 17 = 0 := (G2 17 (by decide) (by decide)).trans e17
    have FX : FrX h h2 := ⟨F2, fun z q => G2 z (by omega) (by omega)⟩
    refine go_aload_n dX10_widens_103 rfl ?_
    refine go_iconst dX10_widens_104 ⟨by decide, by decide⟩ ?_
    refine go_aload_n dX10_widens_105 rfl ?_
    refine gfX10_low (by first | assumption | rfl) flX10_55 dX10_widens_106 ?_
    try simp (disch := decide) only [hset_eq, hset_nk, hset_ni, e12, e13, e14, e17]
    try simp (disch := decide) only [hset_eq, hset_nk, hset_ni, E12, E13, E17]
    refine go_iload_n dX10_widens_109 rfl ?_
    refine go_isub dX10_widens_110 (by omega) (by omega) ?_
    refine go_imul dX10_widens_111 (by omega) (by omega) ?_
    refine pfX10_low (by first | assumption | rfl) flX10_55 dX10_widens_112 ?_
    refine go_aload_n dX10_widens_115 rfl ?_
    refine go_iconst dX10_widens_116 ⟨by decide, by decide⟩ ?_
    refine go_aload_n dX10_widens_117 rfl ?_
    refine gfX10_high (by first | assumption | rfl) flX10_59 dX10_widens_118 ?_
    try simp (disch := decide) only [hset_eq, hset_nk, hset_ni, e12, e13, e14, e17]
    try simp (disch := decide) only [hset_eq, hset_nk, hset_ni, E12, E13, E17]
    refine go_iload_n dX10_widens_121 rfl ?_
    refine go_isub dX10_widens_122 (by omega) (by omega) ?_
    refine go_imul dX10_widens_123 (by omega) (by omega) ?_
    refine go_iconst dX10_widens_124 ⟨by decide, by decide⟩ ?_
    refine go_iadd dX10_widens_125 (by omega) (by omega) ?_
    refine pfX10_high (by first | assumption | rfl) flX10_59 dX10_widens_126 ?_
    refine go_aload_n dX10_widens_129 rfl ?_
    refine go_aload_n dX10_widens_130 rfl ?_
    refine gfX10_mode (by first | assumption | rfl) flX10_46 dX10_widens_131 ?_
    try simp (disch := decide) only [hset_eq, hset_nk, hset_ni, e12, e13, e14, e17]
    try simp (disch := decide) only [hset_eq, hset_nk, hset_ni, E12, E13, E17]
    refine go_iconst dX10_widens_134 ⟨by decide, by decide⟩ ?_
    refine go_icmp_ne_t (tgt := 154) dX10_widens_135 (by decide) (by decide) ?_
    refine go_iconst dX10_widens_154 ⟨by decide, by decide⟩ ?_
    refine pfX10_value (by first | assumption | rfl) flX10_71 dX10_widens_155 ?_
    refine go_iconst dX10_widens_158 ⟨by decide, by decide⟩ ?_
    refine go_zreturn dX10_widens_159 rfl (by first | exact Or.inl rfl | exact Or.inr rfl) ?_
    have e17x := E17
    rw [stp_0 hL] at hQ1
    refine hQ1 (by rw [hL]; decide) _ ⟨?_, ?_, ?_, ?_, ?_⟩ (FrX.st (FrX.st (FrX.st FX (by decide)) (by decide)) (by decide))
    · simp (disch := decide) only [hset_eq, hset_nk, hset_ni]
    · simp (disch := decide) only [hset_eq, hset_nk, hset_ni]
    · simp (disch := decide) only [hset_eq, hset_nk, hset_ni]; rw [E14]; rfl
    · exact B2.congr (by simp (disch := decide) only [hset_eq, hset_nk, hset_ni]) (by simp (disch := decide) only [hset_eq, hset_nk, hset_ni])
    · simp (disch := decide) only [hset_eq, hset_nk, hset_ni]; exact e17x
  · have hLL : L = 32768 := by omega
    subst hLL
    refine go_istore_n 1 dX10_widens_54 rfl (Nat.le_of_ble_eq_true rfl) rfl (by dsimp only [List.set]) ?_
    refine go_iload_n dX10_widens_55 rfl ?_
    refine go_bipush dX10_widens_56 (by decide +kernel) ⟨by decide, by decide⟩ ?_
    refine go_icmp_ne_t (tgt := 63) dX10_widens_58 (by decide) (by decide) ?_
    refine go_iload_n dX10_widens_63 rfl ?_
    refine go_sipush dX10_widens_64 (by decide +kernel) ⟨by decide, by decide⟩ ?_
    refine go_icmp_ne_t (tgt := 83) dX10_widens_67 (by decide) (by decide) ?_
    refine go_aload_n dX10_widens_83 rfl ?_
    refine gfX10_mode (by first | assumption | rfl) flX10_46 dX10_widens_84 ?_
    try simp (disch := decide) only [hset_eq, hset_nk, hset_ni, e12, e13, e14, e17]
    try simp (disch := decide) only [hset_eq, hset_nk, hset_ni, E12, E13, E17]
    refine go_if_ne_f (tgt := 103) dX10_widens_87 (by decide) (rfl) ?_
    refine go_aload_n dX10_widens_90 rfl ?_
    refine go_iload_n dX10_widens_91 rfl ?_
    refine go_if_ne_t (tgt := 99) dX10_widens_92 (by decide) (by decide) ?_
    refine go_iconst dX10_widens_99 ⟨by decide, by decide⟩ ?_
    refine go_cV1V (by first | assumption | rfl) vlX10_86 dX10_widens_100 (by decide) rfl rfl (by decide) (Nat.le_of_ble_eq_true rfl) (md_puts (b := 1) eB (by decide) e14 hDn ?_)
    intro h2 B2 E14 F2 G2
    have E12 : h2 52 12 = lo := (G2 12 (by decide) (by decide)).trans e12
    have E13 : h2 52 13 = hi := (G2 13 (by decide) (by decide)).trans e13
    have E17 : h2 52 17 = 0 := (G2 17 (by decide) (by decide)).trans e17
    have FX : FrX h h2 := ⟨F2, fun z q => G2 z (by omega) (by omega)⟩
    refine go_aload_n dX10_widens_103 rfl ?_
    refine go_iconst dX10_widens_104 ⟨by decide, by decide⟩ ?_
    refine go_aload_n dX10_widens_105 rfl ?_
    refine gfX10_low (by first | assumption | rfl) flX10_55 dX10_widens_106 ?_
    try simp (disch := decide) only [hset_eq, hset_nk, hset_ni, e12, e13, e14, e17]
    try simp (disch := decide) only [hset_eq, hset_nk, hset_ni, E12, E13, E17]
    refine go_iload_n dX10_widens_109 rfl ?_
    refine go_isub dX10_widens_110 (by omega) (by omega) ?_
    refine go_imul dX10_widens_111 (by omega) (by omega) ?_
    refine pfX10_low (by first | assumption | rfl) flX10_55 dX10_widens_112 ?_
    refine go_aload_n dX10_widens_115 rfl ?_
    refine go_iconst dX10_widens_116 ⟨by decide, by decide⟩ ?_
    refine go_aload_n dX10_widens_117 rfl ?_
    refine gfX10_high (by first | assumption | rfl) flX10_59 dX10_widens_118 ?_
    try simp (disch := decide) only [hset_eq, hset_nk, hset_ni, e12, e13, e14, e17]
    try simp (disch := decide) only [hset_eq, hset_nk, hset_ni, E12, E13, E17]
    refine go_iload_n dX10_widens_121 rfl ?_
    refine go_isub dX10_widens_122 (by omega) (by omega) ?_
    refine go_imul dX10_widens_123 (by omega) (by omega) ?_
    refine go_iconst dX10_widens_124 ⟨by decide, by decide⟩ ?_
    refine go_iadd dX10_widens_125 (by omega) (by omega) ?_
    refine pfX10_high (by first | assumption | rfl) flX10_59 dX10_widens_126 ?_
    refine go_aload_n dX10_widens_129 rfl ?_
    refine go_aload_n dX10_widens_130 rfl ?_
    refine gfX10_mode (by first | assumption | rfl) flX10_46 dX10_widens_131 ?_
    try simp (disch := decide) only [hset_eq, hset_nk, hset_ni, e12, e13, e14, e17]
    try simp (disch := decide) only [hset_eq, hset_nk, hset_ni, E12, E13, E17]
    refine go_iconst dX10_widens_134 ⟨by decide, by decide⟩ ?_
    refine go_icmp_ne_t (tgt := 154) dX10_widens_135 (by decide) (by decide) ?_
    refine go_iconst dX10_widens_154 ⟨by decide, by decide⟩ ?_
    refine pfX10_value (by first | assumption | rfl) flX10_71 dX10_widens_155 ?_
    refine go_iconst dX10_widens_158 ⟨by decide, by decide⟩ ?_
    refine go_zreturn dX10_widens_159 rfl (by first | exact Or.inl rfl | exact Or.inr rfl) ?_
    have e17x := E17
    rw [stp_H hL] at hQ1
    refine hQ1 (by rw [hL]; decide) _ ⟨?_, ?_, ?_, ?_, ?_⟩ (FrX.st (FrX.st (FrX.st FX (by decide)) (by decide)) (by decide))
    · simp (disch := decide) only [hset_eq, hset_nk, hset_ni]
    · simp (disch := decide) only [hset_eq, hset_nk, hset_ni]
    · simp (disch := decide) only [hset_eq, hset_nk, hset_ni]; rw [E14]; rfl
    · exact B2.congr (by simp (disch := decide) only [hset_eq, hset_nk, hset_ni]) (by simp (disch := decide) only [hset_eq, hset_nk, hset_ni])
    · simp (disch := decide) only [hset_eq, hset_nk, hset_ni]; exact e17x
  · have hLL : L = 16384 := by omega
    subst hLL
    refine go_istore_n 1 dX10_widens_54 rfl (Nat.le_of_ble_eq_true rfl) rfl (by dsimp only [List.set]) ?_
    refine go_iload_n dX10_widens_55 rfl ?_
    refine go_bipush dX10_widens_56 (by decide +kernel) ⟨by decide, by decide⟩ ?_
    refine go_icmp_ne_t (tgt := 63) dX10_widens_58 (by decide) (by decide) ?_
    refine go_iload_n dX10_widens_63 rfl ?_
    refine go_sipush dX10_widens_64 (by decide +kernel) ⟨by decide, by decide⟩ ?_
    refine go_icmp_ne_f (tgt := 83) dX10_widens_67 (by decide) (rfl) ?_
    refine go_aload_n dX10_widens_70 rfl ?_
    first | refine go_dupR dX10_widens_71 ?_ | refine go_dupI dX10_widens_71 ?_
    refine gfX10_owed (by first | assumption | rfl) flX10_62 dX10_widens_72 ?_
    try simp (disch := decide) only [hset_eq, hset_nk, hset_ni, e12, e13, e14, e17]
    refine go_iconst dX10_widens_75 ⟨by decide, by decide⟩ ?_
    refine go_iadd dX10_widens_76 (by omega) (by omega) ?_
    refine pfX10_owed (by first | assumption | rfl) flX10_62 dX10_widens_77 ?_
    refine go_goto (tgt := 103) dX10_widens_80 (by decide) ?_
    refine go_aload_n dX10_widens_103 rfl ?_
    refine go_iconst dX10_widens_104 ⟨by decide, by decide⟩ ?_
    refine go_aload_n dX10_widens_105 rfl ?_
    refine gfX10_low (by first | assumption | rfl) flX10_55 dX10_widens_106 ?_
    try simp (disch := decide) only [hset_eq, hset_nk, hset_ni, e12, e13, e14, e17]
    refine go_iload_n dX10_widens_109 rfl ?_
    refine go_isub dX10_widens_110 (by omega) (by omega) ?_
    refine go_imul dX10_widens_111 (by omega) (by omega) ?_
    refine pfX10_low (by first | assumption | rfl) flX10_55 dX10_widens_112 ?_
    refine go_aload_n dX10_widens_115 rfl ?_
    refine go_iconst dX10_widens_116 ⟨by decide, by decide⟩ ?_
    refine go_aload_n dX10_widens_117 rfl ?_
    refine gfX10_high (by first | assumption | rfl) flX10_59 dX10_widens_118 ?_
    try simp (disch := decide) only [hset_eq, hset_nk, hset_ni, e12, e13, e14, e17]
    refine go_iload_n dX10_widens_121 rfl ?_
    refine go_isub dX10_widens_122 (by omega) (by omega) ?_
    refine go_imul dX10_widens_123 (by omega) (by omega) ?_
    refine go_iconst dX10_widens_124 ⟨by decide, by decide⟩ ?_
    refine go_iadd dX10_widens_125 (by omega) (by omega) ?_
    refine pfX10_high (by first | assumption | rfl) flX10_59 dX10_widens_126 ?_
    refine go_aload_n dX10_widens_129 rfl ?_
    refine go_aload_n dX10_widens_130 rfl ?_
    refine gfX10_mode (by first | assumption | rfl) flX10_46 dX10_widens_131 ?_
    try simp (disch := decide) only [hset_eq, hset_nk, hset_ni, e12, e13, e14, e17]
    refine go_iconst dX10_widens_134 ⟨by decide, by decide⟩ ?_
    refine go_icmp_ne_t (tgt := 154) dX10_widens_135 (by decide) (by decide) ?_
    refine go_iconst dX10_widens_154 ⟨by decide, by decide⟩ ?_
    refine pfX10_value (by first | assumption | rfl) flX10_71 dX10_widens_155 ?_
    refine go_iconst dX10_widens_158 ⟨by decide, by decide⟩ ?_
    refine go_zreturn dX10_widens_159 rfl (by first | exact Or.inl rfl | exact Or.inr rfl) ?_
    have e17x := e17
    rw [stp_Q hL] at hQ1
    refine hQ1 (by rw [hL]; decide) _ ⟨?_, ?_, ?_, ?_, ?_⟩ (FrX.st (FrX.st (FrX.st (FrX.rf.st (by decide)) (by decide)) (by decide)) (by decide))
    · simp (disch := decide) only [hset_eq, hset_nk, hset_ni]
    · simp (disch := decide) only [hset_eq, hset_nk, hset_ni]
    · simp (disch := decide) only [hset_eq, hset_nk, hset_ni]; rfl
    · exact eB.congr (by simp (disch := decide) only [hset_eq, hset_nk, hset_ni]) (by simp (disch := decide) only [hset_eq, hset_nk, hset_ni])
    · simp (disch := decide) only [hset_eq, hset_nk, hset_ni]; exact e17x
  · have hLL : L = -9 := by omega
    subst hLL
    refine go_istore_n 1 dX10_widens_54 rfl (Nat.le_of_ble_eq_true rfl) rfl (by dsimp only [List.set]) ?_
    refine go_iload_n dX10_widens_55 rfl ?_
    refine go_bipush dX10_widens_56 (by decide +kernel) ⟨by decide, by decide⟩ ?_
    refine go_icmp_ne_f (tgt := 63) dX10_widens_58 (by decide) (rfl) ?_
    refine go_iconst dX10_widens_61 ⟨by decide, by decide⟩ ?_
    refine go_zreturn dX10_widens_62 rfl (by first | exact Or.inl rfl | exact Or.inr rfl) ?_
    exact hQ0 hL

set_option maxHeartbeats 4000000 in
set_option maxRecDepth 100000 in
theorem md_widens_w {x : mX} {h : mH} {Q : Int → mH → Prop} {c : Cd} (H : MW h c) (hB : CdB c.1 c.2.1) (hD : Dn c + 1 ≤ 2800) (hQ0 : les c.1 c.2.1 = -9 → Q 0 h) (hQ1 : les c.1 c.2.1 ≠ -9 → ∀ h', MW h' (stp c) → FrX h h' → Q 1 h') : CtI x mtX10_widens [xR 52] h Q := by
  have Z : ∀ L, les c.1 c.2.1 = L → Go x mtX10_widens 54 [xR 52, xU] [xI L] h (qI Q) := fun L hL => md_widens_w54 hL H hB hD hQ0 hQ1
  obtain ⟨lo, hi, ow, bs⟩ := c
  have e12 : h 52 12 = lo := H.1
  have e13 : h 52 13 = hi := H.2.1
  dsimp only at Z
  refine ct_go (ls := [xR 52, xU]) (by decide +kernel) (Nat.le_of_ble_eq_true rfl) rfl ?_
  refine go_aload_n dX10_widens_0 rfl ?_
  refine gfX10_high (by first | assumption | rfl) flX10_59 dX10_widens_1 ?_
  try simp (disch := decide) only [hset_eq, hset_nk, hset_ni, e12, e13]
  refine go_ldc dX10_widens_4 knX10_84 ⟨by decide, by decide⟩ ?_
  refine go_icmp_ge (tgt := 13) dX10_widens_6 (by decide) (fun c6 => ?_) (fun c6 => ?_)
  · refine go_aload_n dX10_widens_13 rfl ?_
    refine gfX10_low (by first | assumption | rfl) flX10_55 dX10_widens_14 ?_
    try simp (disch := decide) only [hset_eq, hset_nk, hset_ni, e12, e13]
    refine go_ldc dX10_widens_17 knX10_84 ⟨by decide, by decide⟩ ?_
    refine go_icmp_lt (tgt := 27) dX10_widens_19 (by decide) (fun c19 => ?_) (fun c19 => ?_)
    · refine go_aload_n dX10_widens_27 rfl ?_
      refine gfX10_low (by first | assumption | rfl) flX10_55 dX10_widens_28 ?_
      try simp (disch := decide) only [hset_eq, hset_nk, hset_ni, e12, e13]
      refine go_sipush dX10_widens_31 (by decide +kernel) ⟨by decide, by decide⟩ ?_
      refine go_icmp_lt (tgt := 52) dX10_widens_34 (by decide) (fun c34 => ?_) (fun c34 => ?_)
      · refine go_bipush dX10_widens_52 (by decide +kernel) ⟨by decide, by decide⟩ ?_
        first
          | exact Z _ (les_0 (by omega))
          | exact Z _ (les_H (by omega) (by omega))
          | exact Z _ (les_Q (by omega) (by omega) (by omega) (by omega))
          | exact Z _ (les_N (by omega) (by omega) (by omega))
      · refine go_aload_n dX10_widens_37 rfl ?_
        refine gfX10_high (by first | assumption | rfl) flX10_59 dX10_widens_38 ?_
        try simp (disch := decide) only [hset_eq, hset_nk, hset_ni, e12, e13]
        refine go_ldc dX10_widens_41 knX10_85 ⟨by decide, by decide⟩ ?_
        refine go_icmp_ge (tgt := 52) dX10_widens_43 (by decide) (fun c43 => ?_) (fun c43 => ?_)
        · refine go_bipush dX10_widens_52 (by decide +kernel) ⟨by decide, by decide⟩ ?_
          first
            | exact Z _ (les_0 (by omega))
            | exact Z _ (les_H (by omega) (by omega))
            | exact Z _ (les_Q (by omega) (by omega) (by omega) (by omega))
            | exact Z _ (les_N (by omega) (by omega) (by omega))
        · refine go_sipush dX10_widens_46 (by decide +kernel) ⟨by decide, by decide⟩ ?_
          refine go_goto (tgt := 54) dX10_widens_49 (by decide) ?_
          first
            | exact Z _ (les_0 (by omega))
            | exact Z _ (les_H (by omega) (by omega))
            | exact Z _ (les_Q (by omega) (by omega) (by omega) (by omega))
            | exact Z _ (les_N (by omega) (by omega) (by omega))
    · refine go_ldc dX10_widens_22 knX10_84 ⟨by decide, by decide⟩ ?_
      refine go_goto (tgt := 54) dX10_widens_24 (by decide) ?_
      first
        | exact Z _ (les_0 (by omega))
        | exact Z _ (les_H (by omega) (by omega))
        | exact Z _ (les_Q (by omega) (by omega) (by omega) (by omega))
        | exact Z _ (les_N (by omega) (by omega) (by omega))
  · refine go_iconst dX10_widens_9 ⟨by decide, by decide⟩ ?_
    refine go_goto (tgt := 54) dX10_widens_10 (by decide) ?_
    first
      | exact Z _ (les_0 (by omega))
      | exact Z _ (les_H (by omega) (by omega))
      | exact Z _ (les_Q (by omega) (by omega) (by omega) (by omega))
      | exact Z _ (les_N (by omega) (by omega) (by omega))

set_option maxHeartbeats 4000000 in
set_option maxRecDepth 100000 in
theorem md_widens_r54 {x : mX} {h : mH} {Q : Int → mH → Prop} {bs : List Int} {c : Rd} {K L : Int} (hL : les c.1 c.2.1 = L) (H : MR h bs c) (hN : bs.length ≤ 2800) (hsf : ∀ k, srF bs k = 0 ∨ srF bs k = 1) (hB : CdB c.1 c.2.1) (hV : RdV K c) (hK : K ≤ 90000) (hQ0 : les c.1 c.2.1 = -9 → Q 0 h) (hQ1 : les c.1 c.2.1 ≠ -9 → ∀ h', MR h' bs (rstp (srF bs) c) → FrX h h' → Q 1 h') : Go x mtX10_widens 54 [xR 52, xU] [xI L] h (qI Q) := by
  obtain ⟨lo, hi, ow, va, nr⟩ := c
  have e12 : h 52 12 = lo := H.1
  have e13 : h 52 13 = hi := H.2.1
  have e14 : h 52 14 = ow := H.2.2.1
  have e21 : h 52 21 = va := H.2.2.2.1
  have e20 : h 52 20 = nr := H.2.2.2.2.1
  have e17 : h 52 17 = 1 := H.2.2.2.2.2.1
  have eS : SrS h bs := H.2.2.2.2.2.2
  obtain ⟨b1, b2, b3⟩ := hB
  obtain ⟨v1, v2, v3, v4, v5, v6⟩ := hV
  dsimp only at hL hQ0 hQ1 b1 b2 b3 v1 v2 v3 v4 v5 v6
  have hs := hsf nr
  rcases les_cases (lo := lo) (hi := hi) with q | q | q | q
  · have hLL : L = 0 := by omega
    subst hLL
    refine go_istore_n 1 dX10_widens_54 rfl (Nat.le_of_ble_eq_true rfl) rfl (by dsimp only [List.set]) ?_
    refine go_iload_n dX10_widens_55 rfl ?_
    refine go_bipush dX10_widens_56 (by decide +kernel) ⟨by decide, by decide⟩ ?_
    refine go_icmp_ne_t (tgt := 63) dX10_widens_58 (by decide) (by decide) ?_
    refine go_iload_n dX10_widens_63 rfl ?_
    refine go_sipush dX10_widens_64 (by decide +kernel) ⟨by decide, by decide⟩ ?_
    refine go_icmp_ne_t (tgt := 83) dX10_widens_67 (by decide) (by decide) ?_
    refine go_aload_n dX10_widens_83 rfl ?_
    refine gfX10_mode (by first | assumption | rfl) flX10_46 dX10_widens_84 ?_
    try simp (disch := decide) only [hset_eq, hset_nk, hset_ni, e12, e13, e14, e17, e20, e21]
    refine go_if_ne_t (tgt := 103) dX10_widens_87 (by decide) (by decide) ?_
    refine go_aload_n dX10_widens_103 rfl ?_
    refine go_iconst dX10_widens_104 ⟨by decide, by decide⟩ ?_
    refine go_aload_n dX10_widens_105 rfl ?_
    refine gfX10_low (by first | assumption | rfl) flX10_55 dX10_widens_106 ?_
    try simp (disch := decide) only [hset_eq, hset_nk, hset_ni, e12, e13, e14, e17, e20, e21]
    refine go_iload_n dX10_widens_109 rfl ?_
    refine go_isub dX10_widens_110 (by omega) (by omega) ?_
    refine go_imul dX10_widens_111 (by omega) (by omega) ?_
    refine pfX10_low (by first | assumption | rfl) flX10_55 dX10_widens_112 ?_
    refine go_aload_n dX10_widens_115 rfl ?_
    refine go_iconst dX10_widens_116 ⟨by decide, by decide⟩ ?_
    refine go_aload_n dX10_widens_117 rfl ?_
    refine gfX10_high (by first | assumption | rfl) flX10_59 dX10_widens_118 ?_
    try simp (disch := decide) only [hset_eq, hset_nk, hset_ni, e12, e13, e14, e17, e20, e21]
    refine go_iload_n dX10_widens_121 rfl ?_
    refine go_isub dX10_widens_122 (by omega) (by omega) ?_
    refine go_imul dX10_widens_123 (by omega) (by omega) ?_
    refine go_iconst dX10_widens_124 ⟨by decide, by decide⟩ ?_
    refine go_iadd dX10_widens_125 (by omega) (by omega) ?_
    refine pfX10_high (by first | assumption | rfl) flX10_59 dX10_widens_126 ?_
    refine go_aload_n dX10_widens_129 rfl ?_
    refine go_aload_n dX10_widens_130 rfl ?_
    refine gfX10_mode (by first | assumption | rfl) flX10_46 dX10_widens_131 ?_
    try simp (disch := decide) only [hset_eq, hset_nk, hset_ni, e12, e13, e14, e17, e20, e21]
    refine go_iconst dX10_widens_134 ⟨by decide, by decide⟩ ?_
    refine go_icmp_ne_f (tgt := 154) dX10_widens_135 (by decide) (rfl) ?_
    refine go_iconst dX10_widens_138 ⟨by decide, by decide⟩ ?_
    refine go_aload_n dX10_widens_139 rfl ?_
    refine gfX10_value (by first | assumption | rfl) flX10_71 dX10_widens_140 ?_
    try simp (disch := decide) only [hset_eq, hset_nk, hset_ni, e12, e13, e14, e17, e20, e21]
    refine go_iload_n dX10_widens_143 rfl ?_
    refine go_isub dX10_widens_144 (by omega) (by omega) ?_
    refine go_imul dX10_widens_145 (by omega) (by omega) ?_
    refine go_aload_n dX10_widens_146 rfl ?_
    refine go_cV0I (by first | assumption | rfl) vlX10_77 dX10_widens_147 (by decide) rfl rfl (by decide) (Nat.le_of_ble_eq_true rfl) (md_nextBit (bs := bs) (eS.congr (by simp (disch := decide) only [hset_eq, hset_nk, hset_ni]) (by simp (disch := decide) only [hset_eq, hset_nk, hset_ni])) hN (by simp (disch := decide) only [hset_eq, hset_nk, hset_ni]; omega) (by simp (disch := decide) only [hset_eq, hset_nk, hset_ni]; omega) ?_)
    simp (disch := decide) only [hset_eq, hset_nk, hset_ni, e12, e13, e14, e17, e20, e21]
    refine go_iadd dX10_widens_150 (by omega) (by omega) ?_
    refine go_goto (tgt := 155) dX10_widens_151 (by decide) ?_
    refine pfX10_value (by first | assumption | rfl) flX10_71 dX10_widens_155 ?_
    refine go_iconst dX10_widens_158 ⟨by decide, by decide⟩ ?_
    refine go_zreturn dX10_widens_159 rfl (by first | exact Or.inl rfl | exact Or.inr rfl) ?_
    rw [rstp_L hL (by decide)] at hQ1
    refine hQ1 (by rw [hL]; decide) _ ⟨?_, ?_, ?_, ?_, ?_, ?_, ?_⟩ (FrX.st (FrX.st (FrX.st (FrX.st FrX.rf (by decide)) (by decide)) (by decide)) (by decide))
    · simp (disch := decide) only [hset_eq, hset_nk, hset_ni]
    · simp (disch := decide) only [hset_eq, hset_nk, hset_ni]
    · simp (disch := decide) only [hset_eq, hset_nk, hset_ni]; exact e14
    · simp (disch := decide) only [hset_eq, hset_nk, hset_ni]
    · simp (disch := decide) only [hset_eq, hset_nk, hset_ni]
    · simp (disch := decide) only [hset_eq, hset_nk, hset_ni]; exact e17
    · exact eS.congr (by simp (disch := decide) only [hset_eq, hset_nk, hset_ni]) (by simp (disch := decide) only [hset_eq, hset_nk, hset_ni])
  · have hLL : L = 32768 := by omega
    subst hLL
    refine go_istore_n 1 dX10_widens_54 rfl (Nat.le_of_ble_eq_true rfl) rfl (by dsimp only [List.set]) ?_
    refine go_iload_n dX10_widens_55 rfl ?_
    refine go_bipush dX10_widens_56 (by decide +kernel) ⟨by decide, by decide⟩ ?_
    refine go_icmp_ne_t (tgt := 63) dX10_widens_58 (by decide) (by decide) ?_
    refine go_iload_n dX10_widens_63 rfl ?_
    refine go_sipush dX10_widens_64 (by decide +kernel) ⟨by decide, by decide⟩ ?_
    refine go_icmp_ne_t (tgt := 83) dX10_widens_67 (by decide) (by decide) ?_
    refine go_aload_n dX10_widens_83 rfl ?_
    refine gfX10_mode (by first | assumption | rfl) flX10_46 dX10_widens_84 ?_
    try simp (disch := decide) only [hset_eq, hset_nk, hset_ni, e12, e13, e14, e17, e20, e21]
    refine go_if_ne_t (tgt := 103) dX10_widens_87 (by decide) (by decide) ?_
    refine go_aload_n dX10_widens_103 rfl ?_
    refine go_iconst dX10_widens_104 ⟨by decide, by decide⟩ ?_
    refine go_aload_n dX10_widens_105 rfl ?_
    refine gfX10_low (by first | assumption | rfl) flX10_55 dX10_widens_106 ?_
    try simp (disch := decide) only [hset_eq, hset_nk, hset_ni, e12, e13, e14, e17, e20, e21]
    refine go_iload_n dX10_widens_109 rfl ?_
    refine go_isub dX10_widens_110 (by omega) (by omega) ?_
    refine go_imul dX10_widens_111 (by omega) (by omega) ?_
    refine pfX10_low (by first | assumption | rfl) flX10_55 dX10_widens_112 ?_
    refine go_aload_n dX10_widens_115 rfl ?_
    refine go_iconst dX10_widens_116 ⟨by decide, by decide⟩ ?_
    refine go_aload_n dX10_widens_117 rfl ?_
    refine gfX10_high (by first | assumption | rfl) flX10_59 dX10_widens_118 ?_
    try simp (disch := decide) only [hset_eq, hset_nk, hset_ni, e12, e13, e14, e17, e20, e21]
    refine go_iload_n dX10_widens_121 rfl ?_
    refine go_isub dX10_widens_122 (by omega) (by omega) ?_
    refine go_imul dX10_widens_123 (by omega) (by omega) ?_
    refine go_iconst dX10_widens_124 ⟨by decide, by decide⟩ ?_
    refine go_iadd dX10_widens_125 (by omega) (by omega) ?_
    refine pfX10_high (by first | assumption | rfl) flX10_59 dX10_widens_126 ?_
    refine go_aload_n dX10_widens_129 rfl ?_
    refine go_aload_n dX10_widens_130 rfl ?_
    refine gfX10_mode (by first | assumption | rfl) flX10_46 dX10_widens_131 ?_
    try simp (disch := decide) only [hset_eq, hset_nk, hset_ni, e12, e13, e14, e17, e20, e21]
    refine go_iconst dX10_widens_134 ⟨by decide, by decide⟩ ?_
    refine go_icmp_ne_f (tgt := 154) dX10_widens_135 (by decide) (rfl) ?_
    refine go_iconst dX10_widens_138 ⟨by decide, by decide⟩ ?_
    refine go_aload_n dX10_widens_139 rfl ?_
    refine gfX10_value (by first | assumption | rfl) flX10_71 dX10_widens_140 ?_
    try simp (disch := decide) only [hset_eq, hset_nk, hset_ni, e12, e13, e14, e17, e20, e21]
    refine go_iload_n dX10_widens_143 rfl ?_
    refine go_isub dX10_widens_144 (by omega) (by omega) ?_
    refine go_imul dX10_widens_145 (by omega) (by omega) ?_
    refine go_aload_n dX10_widens_146 rfl ?_
    refine go_cV0I (by first | assumption | rfl) vlX10_77 dX10_widens_147 (by decide) rfl rfl (by decide) (Nat.le_of_ble_eq_true rfl) (md_nextBit (bs := bs) (eS.congr (by simp (disch := decide) only [hset_eq, hset_nk, hset_ni]) (by simp (disch := decide) only [hset_eq, hset_nk, hset_ni])) hN (by simp (disch := decide) only [hset_eq, hset_nk, hset_ni]; omega) (by simp (disch := decide) only [hset_eq, hset_nk, hset_ni]; omega) ?_)
    simp (disch := decide) only [hset_eq, hset_nk, hset_ni, e12, e13, e14, e17, e20, e21]
    refine go_iadd dX10_widens_150 (by omega) (by omega) ?_
    refine go_goto (tgt := 155) dX10_widens_151 (by decide) ?_
    refine pfX10_value (by first | assumption | rfl) flX10_71 dX10_widens_155 ?_
    refine go_iconst dX10_widens_158 ⟨by decide, by decide⟩ ?_
    refine go_zreturn dX10_widens_159 rfl (by first | exact Or.inl rfl | exact Or.inr rfl) ?_
    rw [rstp_L hL (by decide)] at hQ1
    refine hQ1 (by rw [hL]; decide) _ ⟨?_, ?_, ?_, ?_, ?_, ?_, ?_⟩ (FrX.st (FrX.st (FrX.st (FrX.st FrX.rf (by decide)) (by decide)) (by decide)) (by decide))
    · simp (disch := decide) only [hset_eq, hset_nk, hset_ni]
    · simp (disch := decide) only [hset_eq, hset_nk, hset_ni]
    · simp (disch := decide) only [hset_eq, hset_nk, hset_ni]; exact e14
    · simp (disch := decide) only [hset_eq, hset_nk, hset_ni]
    · simp (disch := decide) only [hset_eq, hset_nk, hset_ni]
    · simp (disch := decide) only [hset_eq, hset_nk, hset_ni]; exact e17
    · exact eS.congr (by simp (disch := decide) only [hset_eq, hset_nk, hset_ni]) (by simp (disch := decide) only [hset_eq, hset_nk, hset_ni])
  · have hLL : L = 16384 := by omega
    subst hLL
    refine go_istore_n 1 dX10_widens_54 rfl (Nat.le_of_ble_eq_true rfl) rfl (by dsimp only [List.set]) ?_
    refine go_iload_n dX10_widens_55 rfl ?_
    refine go_bipush dX10_widens_56 (by decide +kernel) ⟨by decide, by decide⟩ ?_
    refine go_icmp_ne_t (tgt := 63) dX10_widens_58 (by decide) (by decide) ?_
    refine go_iload_n dX10_widens_63 rfl ?_
    refine go_sipush dX10_widens_64 (by decide +kernel) ⟨by decide, by decide⟩ ?_
    refine go_icmp_ne_f (tgt := 83) dX10_widens_67 (by decide) (rfl) ?_
    refine go_aload_n dX10_widens_70 rfl ?_
    first | refine go_dupR dX10_widens_71 ?_ | refine go_dupI dX10_widens_71 ?_
    refine gfX10_owed (by first | assumption | rfl) flX10_62 dX10_widens_72 ?_
    try simp (disch := decide) only [hset_eq, hset_nk, hset_ni, e12, e13, e14, e17, e20, e21]
    refine go_iconst dX10_widens_75 ⟨by decide, by decide⟩ ?_
    refine go_iadd dX10_widens_76 (by omega) (by omega) ?_
    refine pfX10_owed (by first | assumption | rfl) flX10_62 dX10_widens_77 ?_
    refine go_goto (tgt := 103) dX10_widens_80 (by decide) ?_
    refine go_aload_n dX10_widens_103 rfl ?_
    refine go_iconst dX10_widens_104 ⟨by decide, by decide⟩ ?_
    refine go_aload_n dX10_widens_105 rfl ?_
    refine gfX10_low (by first | assumption | rfl) flX10_55 dX10_widens_106 ?_
    try simp (disch := decide) only [hset_eq, hset_nk, hset_ni, e12, e13, e14, e17, e20, e21]
    refine go_iload_n dX10_widens_109 rfl ?_
    refine go_isub dX10_widens_110 (by omega) (by omega) ?_
    refine go_imul dX10_widens_111 (by omega) (by omega) ?_
    refine pfX10_low (by first | assumption | rfl) flX10_55 dX10_widens_112 ?_
    refine go_aload_n dX10_widens_115 rfl ?_
    refine go_iconst dX10_widens_116 ⟨by decide, by decide⟩ ?_
    refine go_aload_n dX10_widens_117 rfl ?_
    refine gfX10_high (by first | assumption | rfl) flX10_59 dX10_widens_118 ?_
    try simp (disch := decide) only [hset_eq, hset_nk, hset_ni, e12, e13, e14, e17, e20, e21]
    refine go_iload_n dX10_widens_121 rfl ?_
    refine go_isub dX10_widens_122 (by omega) (by omega) ?_
    refine go_imul dX10_widens_123 (by omega) (by omega) ?_
    refine go_iconst dX10_widens_124 ⟨by decide, by decide⟩ ?_
    refine go_iadd dX10_widens_125 (by omega) (by omega) ?_
    refine pfX10_high (by first | assumption | rfl) flX10_59 dX10_widens_126 ?_
    refine go_aload_n dX10_widens_129 rfl ?_
    refine go_aload_n dX10_widens_130 rfl ?_
    refine gfX10_mode (by first | assumption | rfl) flX10_46 dX10_widens_131 ?_
    try simp (disch := decide) only [hset_eq, hset_nk, hset_ni, e12, e13, e14, e17, e20, e21]
    refine go_iconst dX10_widens_134 ⟨by decide, by decide⟩ ?_
    refine go_icmp_ne_f (tgt := 154) dX10_widens_135 (by decide) (rfl) ?_
    refine go_iconst dX10_widens_138 ⟨by decide, by decide⟩ ?_
    refine go_aload_n dX10_widens_139 rfl ?_
    refine gfX10_value (by first | assumption | rfl) flX10_71 dX10_widens_140 ?_
    try simp (disch := decide) only [hset_eq, hset_nk, hset_ni, e12, e13, e14, e17, e20, e21]
    refine go_iload_n dX10_widens_143 rfl ?_
    refine go_isub dX10_widens_144 (by omega) (by omega) ?_
    refine go_imul dX10_widens_145 (by omega) (by omega) ?_
    refine go_aload_n dX10_widens_146 rfl ?_
    refine go_cV0I (by first | assumption | rfl) vlX10_77 dX10_widens_147 (by decide) rfl rfl (by decide) (Nat.le_of_ble_eq_true rfl) (md_nextBit (bs := bs) (eS.congr (by simp (disch := decide) only [hset_eq, hset_nk, hset_ni]) (by simp (disch := decide) only [hset_eq, hset_nk, hset_ni])) hN (by simp (disch := decide) only [hset_eq, hset_nk, hset_ni]; omega) (by simp (disch := decide) only [hset_eq, hset_nk, hset_ni]; omega) ?_)
    simp (disch := decide) only [hset_eq, hset_nk, hset_ni, e12, e13, e14, e17, e20, e21]
    refine go_iadd dX10_widens_150 (by omega) (by omega) ?_
    refine go_goto (tgt := 155) dX10_widens_151 (by decide) ?_
    refine pfX10_value (by first | assumption | rfl) flX10_71 dX10_widens_155 ?_
    refine go_iconst dX10_widens_158 ⟨by decide, by decide⟩ ?_
    refine go_zreturn dX10_widens_159 rfl (by first | exact Or.inl rfl | exact Or.inr rfl) ?_
    rw [rstp_Q hL] at hQ1
    refine hQ1 (by rw [hL]; decide) _ ⟨?_, ?_, ?_, ?_, ?_, ?_, ?_⟩ (FrX.st (FrX.st (FrX.st (FrX.st (FrX.rf.st (by decide)) (by decide)) (by decide)) (by decide)) (by decide))
    · simp (disch := decide) only [hset_eq, hset_nk, hset_ni]
    · simp (disch := decide) only [hset_eq, hset_nk, hset_ni]
    · simp (disch := decide) only [hset_eq, hset_nk, hset_ni]
    · simp (disch := decide) only [hset_eq, hset_nk, hset_ni]
    · simp (disch := decide) only [hset_eq, hset_nk, hset_ni]
    · simp (disch := decide) only [hset_eq, hset_nk, hset_ni]; exact e17
    · exact eS.congr (by simp (disch := decide) only [hset_eq, hset_nk, hset_ni]) (by simp (disch := decide) only [hset_eq, hset_nk, hset_ni])
  · have hLL : L = -9 := by omega
    subst hLL
    refine go_istore_n 1 dX10_widens_54 rfl (Nat.le_of_ble_eq_true rfl) rfl (by dsimp only [List.set]) ?_
    refine go_iload_n dX10_widens_55 rfl ?_
    refine go_bipush dX10_widens_56 (by decide +kernel) ⟨by decide, by decide⟩ ?_
    refine go_icmp_ne_f (tgt := 63) dX10_widens_58 (by decide) (rfl) ?_
    refine go_iconst dX10_widens_61 ⟨by decide, by decide⟩ ?_
    refine go_zreturn dX10_widens_62 rfl (by first | exact Or.inl rfl | exact Or.inr rfl) ?_
    exact hQ0 hL

set_option maxHeartbeats 4000000 in
set_option maxRecDepth 100000 in
theorem md_widens_r {x : mX} {h : mH} {Q : Int → mH → Prop} {bs : List Int} {c : Rd} {K : Int} (H : MR h bs c) (hN : bs.length ≤ 2800) (hsf : ∀ k, srF bs k = 0 ∨ srF bs k = 1) (hB : CdB c.1 c.2.1) (hV : RdV K c) (hK : K ≤ 90000) (hQ0 : les c.1 c.2.1 = -9 → Q 0 h) (hQ1 : les c.1 c.2.1 ≠ -9 → ∀ h', MR h' bs (rstp (srF bs) c) → FrX h h' → Q 1 h') : CtI x mtX10_widens [xR 52] h Q := by
  have Z : ∀ L, les c.1 c.2.1 = L → Go x mtX10_widens 54 [xR 52, xU] [xI L] h (qI Q) := fun L hL => md_widens_r54 hL H hN hsf hB hV hK hQ0 hQ1
  obtain ⟨lo, hi, ow, va, nr⟩ := c
  have e12 : h 52 12 = lo := H.1
  have e13 : h 52 13 = hi := H.2.1
  dsimp only at Z
  refine ct_go (ls := [xR 52, xU]) (by decide +kernel) (Nat.le_of_ble_eq_true rfl) rfl ?_
  refine go_aload_n dX10_widens_0 rfl ?_
  refine gfX10_high (by first | assumption | rfl) flX10_59 dX10_widens_1 ?_
  try simp (disch := decide) only [hset_eq, hset_nk, hset_ni, e12, e13]
  refine go_ldc dX10_widens_4 knX10_84 ⟨by decide, by decide⟩ ?_
  refine go_icmp_ge (tgt := 13) dX10_widens_6 (by decide) (fun c6 => ?_) (fun c6 => ?_)
  · refine go_aload_n dX10_widens_13 rfl ?_
    refine gfX10_low (by first | assumption | rfl) flX10_55 dX10_widens_14 ?_
    try simp (disch := decide) only [hset_eq, hset_nk, hset_ni, e12, e13]
    refine go_ldc dX10_widens_17 knX10_84 ⟨by decide, by decide⟩ ?_
    refine go_icmp_lt (tgt := 27) dX10_widens_19 (by decide) (fun c19 => ?_) (fun c19 => ?_)
    · refine go_aload_n dX10_widens_27 rfl ?_
      refine gfX10_low (by first | assumption | rfl) flX10_55 dX10_widens_28 ?_
      try simp (disch := decide) only [hset_eq, hset_nk, hset_ni, e12, e13]
      refine go_sipush dX10_widens_31 (by decide +kernel) ⟨by decide, by decide⟩ ?_
      refine go_icmp_lt (tgt := 52) dX10_widens_34 (by decide) (fun c34 => ?_) (fun c34 => ?_)
      · refine go_bipush dX10_widens_52 (by decide +kernel) ⟨by decide, by decide⟩ ?_
        first
          | exact Z _ (les_0 (by omega))
          | exact Z _ (les_H (by omega) (by omega))
          | exact Z _ (les_Q (by omega) (by omega) (by omega) (by omega))
          | exact Z _ (les_N (by omega) (by omega) (by omega))
      · refine go_aload_n dX10_widens_37 rfl ?_
        refine gfX10_high (by first | assumption | rfl) flX10_59 dX10_widens_38 ?_
        try simp (disch := decide) only [hset_eq, hset_nk, hset_ni, e12, e13]
        refine go_ldc dX10_widens_41 knX10_85 ⟨by decide, by decide⟩ ?_
        refine go_icmp_ge (tgt := 52) dX10_widens_43 (by decide) (fun c43 => ?_) (fun c43 => ?_)
        · refine go_bipush dX10_widens_52 (by decide +kernel) ⟨by decide, by decide⟩ ?_
          first
            | exact Z _ (les_0 (by omega))
            | exact Z _ (les_H (by omega) (by omega))
            | exact Z _ (les_Q (by omega) (by omega) (by omega) (by omega))
            | exact Z _ (les_N (by omega) (by omega) (by omega))
        · refine go_sipush dX10_widens_46 (by decide +kernel) ⟨by decide, by decide⟩ ?_
          refine go_goto (tgt := 54) dX10_widens_49 (by decide) ?_
          first
            | exact Z _ (les_0 (by omega))
            | exact Z _ (les_H (by omega) (by omega))
            | exact Z _ (les_Q (by omega) (by omega) (by omega) (by omega))
            | exact Z _ (les_N (by omega) (by omega) (by omega))
    · refine go_ldc dX10_widens_22 knX10_84 ⟨by decide, by decide⟩ ?_
      refine go_goto (tgt := 54) dX10_widens_24 (by decide) ?_
      first
        | exact Z _ (les_0 (by omega))
        | exact Z _ (les_H (by omega) (by omega))
        | exact Z _ (les_Q (by omega) (by omega) (by omega) (by omega))
        | exact Z _ (les_N (by omega) (by omega) (by omega))
  · refine go_iconst dX10_widens_9 ⟨by decide, by decide⟩ ?_
    refine go_goto (tgt := 54) dX10_widens_10 (by decide) ?_
    first
      | exact Z _ (les_0 (by omega))
      | exact Z _ (les_H (by omega) (by omega))
      | exact Z _ (les_Q (by omega) (by omega) (by omega) (by omega))
      | exact Z _ (les_N (by omega) (by omega) (by omega))
