/-! ===== Odds: weighs, inLeastTerms ===== -/
abbrev Od : Type := Int × Int × Int
def chO (s : Nat) (_ : Od) (w : Nat → Int) : Nat := if 0 < w s then s else 4
def tkO (c : Od) (_ w t : Int) : Od := (c.1 + 1, c.2.1 * w, c.2.2 * t)
def PO (s : Nat) (c : Od) (w : Nat → Int) : Prop := -1 ≤ c.1 ∧ c.1 ≤ 1000 ∧ inL (c.2.1 * w (chO s c w)) ∧ inL (c.2.2 * tot w 5)
theorem inL_small {z : Int} (h0 : 0 ≤ z) (h1 : z ≤ 777600000) : inL z := ⟨by omega, by omega⟩
theorem mul_bd {a b B C : Int} (ha : 1 ≤ a) (ha2 : a ≤ B) (hb : 1 ≤ b) (hb2 : b ≤ C) : 1 ≤ a * b ∧ a * b ≤ B * C := by
  constructor
  · have : 1 * 1 ≤ a * b := Int.mul_le_mul ha hb (by decide) (by omega)
    omega
  · exact Int.mul_le_mul ha2 hb2 (by omega) (by omega)
theorem pow60_s (n : Nat) : (60 : Int) ^ (n + 1) = 60 ^ n * 60 := Int.pow_succ 60 n
theorem pow60_pos (n : Nat) : (1 : Int) ≤ 60 ^ n := by
  induction n with
  | zero => decide
  | succ n ih => rw [pow60_s]; omega
theorem dscO_ok {cs : Int → Int} {ctx : Nat → Int} {s : Nat} (hs : s < 4) (hc : ∀ k, 0 ≤ cs k ∧ cs k ≤ 14) : ∀ (N sh : Nat) (B : Int) (c : Od), (∀ j, j < N → 0 ≤ ctx j) → sh < 16 → hb sh s = false → -1 ≤ c.1 → c.1 + N ≤ 900 → 1 ≤ c.2.1 → c.2.1 ≤ B → 1 ≤ c.2.2 → c.2.2 ≤ B → B * 60 ^ (N + 1) ≤ 777600000 →
    dOk (chO s) tkO (PO s) cs ctx N sh c ∧ (dsc (chO s) tkO cs ctx N sh c).2.1 = s ∧ 1 ≤ (dsc (chO s) tkO cs ctx N sh c).2.2.2.1 ∧ (dsc (chO s) tkO cs ctx N sh c).2.2.2.1 ≤ 777600000 ∧ 1 ≤ (dsc (chO s) tkO cs ctx N sh c).2.2.2.2 ∧ (dsc (chO s) tkO cs ctx N sh c).2.2.2.2 ≤ 777600000 ∧ c.1 ≤ (dsc (chO s) tkO cs ctx N sh c).2.2.1 ∧ (dsc (chO s) tkO cs ctx N sh c).2.2.1 ≤ c.1 + N + 1 ∧ -1 ≤ (dsc (chO s) tkO cs ctx N sh c).1 ∧ (dsc (chO s) tkO cs ctx N sh c).1 < N
  | 0, sh, B, c, hctx, hsh, hns, he, he2, u1, u2, l1, l2, hB => by
    have ht : 0 < tot (wE cs (-1) sh) 5 := by
      obtain ⟨f1, f2⟩ := st_plain (cs := cs) (sh := sh)
      have g0 := f1 0 (by decide); have g1 := f1 1 (by decide); have g2 := f1 2 (by decide); have g3 := f1 3 (by decide)
      have bz0 := b1_bd (hb sh 0); have bz1 := b1_bd (hb sh 1); have bz2 := b1_bd (hb sh 2); have bz3 := b1_bd (hb sh 3)
      have gs := f1 s hs
      rw [hns] at gs
      rw [tot5]
      have : b1 false = 0 := rfl
      rcases (show s = 0 ∨ s = 1 ∨ s = 2 ∨ s = 3 by omega) with rfl | rfl | rfl | rfl <;> omega
    obtain ⟨p1, p2, p3, p4, p5, p6, p7, p8⟩ := part_dear (c := ((0, 0, 0, []) : Cd)) hs hsh hns hc ht
    have hch : chO s c (wE cs (-1) sh) = s := p8 rfl
    have ech : chW s ((0, 0, 0, []) : Cd) (wE cs (-1) sh) = chO s c (wE cs (-1) sh) := rfl
    rw [ech] at p1 p2 p3
    dsimp only [dOk, dsc]
    generalize wE cs (-1) sh = w at *
    rw [show (60 : Int) ^ (0 + 1) = 60 by decide] at hB
    have m1 := mul_bd (C := 60) u1 u2 p1 (by omega)
    have m2 := mul_bd (C := 60) l1 l2 (show 1 ≤ tot w 5 by omega) p4
    refine ⟨⟨he, by omega, inL_small (by omega) (by omega), inL_small (by omega) (by omega)⟩, hch, m1.1, by show c.2.1 * w (chO s c w) ≤ 777600000; omega, m2.1, by show c.2.2 * tot w 5 ≤ 777600000; omega, ?_, ?_, Int.le_refl _, by decide⟩
    · show c.1 ≤ c.1 + 1; omega
    · show c.1 + 1 ≤ c.1 + ((0 : Nat) : Int) + 1; omega
  | N + 1, sh, B, c, hctx, hsh, hns, he, he2, u1, u2, l1, l2, hB => by
    have ih := dscO_ok (cs := cs) (ctx := ctx) hs hc N
    have hpl := hctx N (by omega)
    have hpp := pow60_pos (N + 1)
    have e60 : B * 60 ^ (N + 1 + 1) = B * 60 * 60 ^ (N + 1) := by rw [pow60_s (N + 1), Int.mul_comm ((60 : Int) ^ (N + 1)), ← Int.mul_assoc]
    have hB1 : B * 60 ^ (N + 1) ≤ 777600000 := by
      have : B * 60 ^ (N + 1) * 1 ≤ B * 60 ^ (N + 1) * 60 := Int.mul_le_mul_of_nonneg_left (by decide) (Int.mul_nonneg (by omega) (by omega))
      rw [pow60_s (N + 1), ← Int.mul_assoc] at hB
      omega
    have hB2 : B * 60 ≤ 777600000 := by
      have : B * 60 * 1 ≤ B * 60 * 60 ^ (N + 1) := Int.mul_le_mul_of_nonneg_left hpp (by omega)
      omega
    rw [dOk, dsc]
    by_cases ht : tot (wE cs (ctx N) sh) 5 ≤ 0
    · rw [if_pos ht, if_pos ht]
      obtain ⟨i1, i2, i3, i4, i5, i6, i7, i8, i9, i10⟩ := ih sh B c (fun j hj => hctx j (by omega)) hsh hns he (by omega) u1 u2 l1 l2 hB1
      exact ⟨i1, i2, i3, i4, i5, i6, i7, by omega, i9, by omega⟩
    · rw [if_neg ht, if_neg ht]
      obtain ⟨p1, p2, p3, p4, p5, p6, p7, p8⟩ := part_dear (c := ((0, 0, 0, []) : Cd)) (pl := ctx N) hs hsh hns hc (by omega)
      have ech : chW s ((0, 0, 0, []) : Cd) (wE cs (ctx N) sh) = chO s c (wE cs (ctx N) sh) := rfl
      rw [ech] at p1 p2 p3 p6
      have hpl1 : ctx N ≠ -1 := by omega
      generalize wE cs (ctx N) sh = w at *
      have m1 := mul_bd (C := 60) u1 u2 p1 (by omega)
      have m2 := mul_bd (C := 60) l1 l2 (show 1 ≤ tot w 5 by omega) p4
      have hP : PO s c w := ⟨he, by omega, inL_small (by omega) (by omega), inL_small (by omega) (by omega)⟩
      by_cases hch : chO s c w = 4
      · obtain ⟨r1, r2⟩ := p6 hch hpl1
        rw [if_pos hch]
        obtain ⟨i1, i2, i3, i4, i5, i6, i7, i8, i9, i10⟩ := ih (sh ||| opn w 4) (B * 60) (tkO c (tot w (chO s c w)) (w (chO s c w)) (tot w 5)) (fun j hj => hctx j (by omega)) (orm_bd sh hsh _ (opn_lt w 4)) r1 (by show -1 ≤ c.1 + 1; omega) (by show c.1 + 1 + N ≤ 900; omega) m1.1 m1.2 m2.1 m2.2 (by omega)
        refine ⟨⟨hP, fun _ => i1⟩, i2, i3, i4, i5, i6, ?_, ?_, i9, by omega⟩
        · have : (tkO c (tot w (chO s c w)) (w (chO s c w)) (tot w 5)).1 = c.1 + 1 := rfl
          omega
        · have : (tkO c (tot w (chO s c w)) (w (chO s c w)) (tot w 5)).1 = c.1 + 1 := rfl
          omega
      · have hcs : chO s c w = s := by unfold chO at hch ⊢; split; rfl; rename_i q; rw [if_neg q] at hch; exact absurd rfl hch
        rw [if_neg hch]
        refine ⟨⟨hP, fun q => absurd q hch⟩, hcs, m1.1, by show c.2.1 * w (chO s c w) ≤ 777600000; omega, m2.1, by show c.2.2 * tot w 5 ≤ 777600000; omega, ?_, ?_, by dsimp only; omega, by dsimp only; omega⟩
        · show c.1 ≤ c.1 + 1; omega
        · show c.1 + 1 ≤ c.1 + ((N + 1 : Nat) : Int) + 1; omega
/-- a sign weighed behind T: where it would be found, the sign, and escapes, upper, lower -/
def wgh (o : Int) (T : List Int) (cs : Int → Int) (s : Nat) : Int × Nat × Od := dsc (chO s) tkO cs (fun j => cxp (srF T) ((T.length : Int) - (j : Int)) j) (lng o T.length + 1) 0 (-1, 1, 1)
theorem wgh_ok {o l r t : Int} {T : List Int} {cs : Int → Int} {s : Nat} (hPr : PrOk o l r t) (hT : TxOk T) (hok : CsOk cs l) (hs : s < 4) : dOk (chO s) tkO (PO s) cs (fun j => cxp (srF T) ((T.length : Int) - (j : Int)) j) (lng o T.length + 1) 0 (-1, 1, 1) ∧ 1 ≤ (wgh o T cs s).2.2.2.1 ∧ (wgh o T cs s).2.2.2.1 ≤ 777600000 ∧ 1 ≤ (wgh o T cs s).2.2.2.2 ∧ (wgh o T cs s).2.2.2.2 ≤ 777600000 ∧ -1 ≤ (wgh o T cs s).2.2.1 ∧ (wgh o T cs s).2.2.1 ≤ 10 ∧ -1 ≤ (wgh o T cs s).1 ∧ (wgh o T cs s).1 ≤ 3 := by
  obtain ⟨w1, w2, w3, w4, w5, w6, w7, w8⟩ := hPr
  have h2 := lng_le (o := o) (n := T.length) w1 (by omega)
  have hp : (1 : Int) * 60 ^ (lng o T.length + 1 + 1) ≤ 777600000 := by
    rcases (show lng o T.length = 0 ∨ lng o T.length = 1 ∨ lng o T.length = 2 ∨ lng o T.length = 3 by omega) with q | q | q | q <;> (rw [q]; decide)
  obtain ⟨a1, a2, a3, a4, a5, a6, a7, a8, a9, a10⟩ := dscO_ok (cs := cs) (ctx := fun j => cxp (srF T) ((T.length : Int) - (j : Int)) j) hs (fun k => by have := hok.1 k; omega) (lng o T.length + 1) 0 1 (-1, 1, 1) (fun j hj => (cxp_bd (by omega) (fun k q1 q2 => srF_bd hT (by omega) (by omega))).1) (by decide) (by unfold hb; exact Nat.zero_testBit _) (by decide) (by dsimp only; omega) (by decide) (by decide) (by decide) (by decide) hp
  unfold wgh
  exact ⟨a1, a3, a4, a5, a6, a7, by dsimp only at a8; omega, a9, by omega⟩
def OdS (h : mH) (d : Nat) (s : Int) (c : Od) : Prop := h d 0 = s ∧ h d 1 = c.1 ∧ h d 2 = c.2.1 ∧ h d 3 = c.2.2

set_option maxHeartbeats 4000000 in
set_option maxRecDepth 100000 in
theorem pk_weighs {x : mX} {h : mH} {Q : Int → mH → Prop} {b d : Nat} {o l r t s : Int} {T : List Int} {cs : Int → Int} (hb : isPk b) (hd : isOd d) (hdb : d < b ∨ b + 11 ≤ d) (hPr : PrOk o l r t) (hT : TxOk T) (hPa : PaS h (b + 1) o l r t) (hR : RowL h (b + 1 + 1) T) (e4 : h b 4 = (T.length : Int)) (hC : CtxS h (b + 4) cs) (hok : CsOk cs l) (hs0 : 0 ≤ s) (hs3 : s ≤ 3) (hQ : ∀ h', OdS h' d s (wgh o T cs s.toNat).2.2 → (∀ i, i ≠ d → i ≠ b → i ≠ b + 9 → i ≠ b + 9 + 1 → h' i = h i) → (∀ z, z ≠ 6 → h' b z = h b z) → Q (wgh o T cs s.toNat).1 h') : CtI x mtX3_weighs [xR b, xR d, xI s] h Q := by
  have ok := wgh_ok (s := s.toNat) hPr hT hok (by omega)
  refine ct_go (ls := [xR b, xR d, xI s]) (by decide +kernel) (Nat.le_of_ble_eq_true rfl) rfl ?_
  refine go_aload_n dX3_weighs_0 rfl ?_
  refine go_iload_n dX3_weighs_1 rfl ?_
  refine go_cV1V hd vlX3_100 dX3_weighs_2 (by decide) rfl rfl (by decide) (Nat.le_of_ble_eq_true rfl) (od_wants hd ?_)
  generalize hh1 : hset (hset (hset (hset h d 0 s) d 1 (-1)) d 2 1) d 3 1 = h1
  have nE : ∀ i, i ≠ d → h1 i = h i := fun i q => by rw [← hh1, hset_ni q, hset_ni q, hset_ni q, hset_ni q]
  have hO1 : OdS h1 d s (-1, 1, 1) := by subst hh1; exact ⟨by rw [hset_nk (by decide), hset_nk (by decide), hset_nk (by decide), hset_eq], by rw [hset_nk (by decide), hset_nk (by decide), hset_eq], by rw [hset_nk (by decide), hset_eq], by rw [hset_eq]⟩
  have hPT : PkT h1 b o T.length (h1 (b + 1 + 2)) cs := pkT_of (l := l) (r := r) (t := t) (T := T) hPr hT (Nat.le_refl _) (by unfold PaS; rw [nE _ (by omega)]; exact hPa) (hR.congr (nE _ (by omega)) (nE _ (by omega))) (by rw [nE _ (by omega)]; exact e4) ⟨by rw [nE _ (by omega)]; exact hC.1, by rw [nE _ (by omega)]; exact hC.2⟩ hok
  have hctx : ∀ j : Nat, j < lng o T.length + 1 → cxp (h1 (b + 1 + 2)) ((T.length : Int) - (j : Int)) j = cxp (srF T) ((T.length : Int) - (j : Int)) j := ctx_congr hPr.1 (by omega) (fun k q1 q2 => by rw [nE _ (by omega)]; exact rowL_sg hR k q1 (by omega))
  refine go_aload_n dX3_weighs_5 rfl ?_
  refine go_aload_n dX3_weighs_6 rfl ?_
  refine go_cV1I hb.1 vlX3_89 dX3_weighs_7 (by decide) rfl rfl (by decide) (Nat.le_of_ble_eq_true rfl) (pk_descends (TS := fun h c => OdS h d s c) (T := fun i => i = d) (ch := chO s.toNat) (tk := tkO) (P := PO s.toNat) (o := o) (n := (T.length : Int)) (sg := h1 (b + 1 + 2)) (cs := cs) (c := (-1, 1, 1)) hb hd (by decide) rfl rfl rfl ulX3_120_X2 ulX3_132_X2 (by decide) (by decide) (fun i q => by omega) (fun h h2 c q Z => ?_) (fun c w => ?_) (fun h2 c w sh Q2 Z St Wo Pw q => ?_) (fun h2 c w Q2 Z Wo Pw q => ?_) hPT hO1 ?_ ?_)
  · unfold OdS; rw [q d rfl]; exact Z
  · unfold chO; split <;> omega
  · refine od_chooses (s := s) hd hb.2.2.2.2 Z.1 (by omega) (by omega) ?_
    have e0 := St.1 s.toNat (by omega)
    rw [Int.toNat_of_nonneg (by omega)] at e0
    rw [e0]
    have e9 : (if 0 < w s.toNat then s else 4) = ((chO s.toNat c w : Nat) : Int) := by unfold chO; split <;> omega
    rw [e9]; exact q
  · obtain ⟨p1, p2, p3, p4⟩ := Pw
    refine od_takes hd (by rw [Z.2.1]; exact p1) (by rw [Z.2.1]; exact p2) (by rw [Z.2.2.1]; exact p3) (by rw [Z.2.2.2]; exact p4) (q _ ⟨?_, ?_, ?_, ?_⟩ (fun i qi => ?_))
    · rw [hset_nk (by decide), hset_nk (by decide), hset_nk (by decide)]; exact Z.1
    · rw [hset_nk (by decide), hset_nk (by decide), hset_eq, Z.2.1]; rfl
    · rw [hset_nk (by decide), hset_eq, Z.2.2.1]; rfl
    · rw [hset_eq, Z.2.2.2]; rfl
    · rw [hset_ni qi, hset_ni qi, hset_ni qi]
  · rw [dOk_congr _ _ _ hctx]; exact ok.1
  intro h2 TT2 F2 _
  rw [dsc_congr _ _ _ hctx] at TT2 ⊢
  refine go_ireturn dX3_weighs_10 rfl ?_
  exact hQ h2 TT2 (fun i q1 q2 q3 q4 => (F2.1 i q1 q2 q3 q4).trans (nE i q1)) (fun z hz => by rw [F2.2 z hz, nE b (by omega)])

def gI (a b : Int) : Int := ((Nat.gcd a.toNat b.toNat : Nat) : Int)
theorem gI_0 {a : Int} (h : 0 ≤ a) : gI a 0 = a := by unfold gI; simp; omega
theorem gI_step {a b : Int} (ha : 0 ≤ a) (hb : 0 < b) : gI b (a % b) = gI a b := by
  unfold gI
  rw [Int.toNat_emod ha (by omega), Nat.gcd_comm b.toNat, ← Nat.gcd_rec, Nat.gcd_comm]
theorem gI_comm (a b : Int) : gI a b = gI b a := by unfold gI; rw [Nat.gcd_comm]
theorem gI_pos {a b : Int} (ha : 1 ≤ a) : 1 ≤ gI a b := by
  unfold gI
  have := Nat.gcd_pos_of_pos_left b.toNat (show 0 < a.toNat by omega)
  omega

set_option maxHeartbeats 4000000 in
set_option maxRecDepth 100000 in
theorem od_least_loop {x : mX} {h : mH} {Q : Int → mH → Prop} {d : Nat} {z : Int} (hz0 : 0 ≤ z) (hz1 : z ≤ 777600000) {G : Int} (hQ : Q (z / G) h) :
    ∀ (m : Nat) (dv rs : Int) (k : Nat) (u : mV), 1 ≤ dv → rs ≤ 777600000 → 0 ≤ rs → rs < 2 ^ m → k + 2 * m ≤ 62 → gI dv rs = G → Go x mtX2_inLeastTerms 14 [xR d, xL z, xU, xL dv, xU, xL rs, xU, xI (k : Int), u, xU] [] h (qI Q) := by
  have exit : ∀ (dv : Int) (k : Nat) (u : mV), 1 ≤ dv → k ≤ 63 → gI dv 0 = G → Go x mtX2_inLeastTerms 14 [xR d, xL z, xU, xL dv, xU, xL 0, xU, xI (k : Int), u, xU] [] h (qI Q) := by
    intro dv k u hdv hk hg
    rw [gI_0 (by omega)] at hg
    subst hg
    refine go_iload dX2_inLeastTerms_14 rfl ?_
    refine go_bipush dX2_inLeastTerms_16 (by decide +kernel) ⟨by decide, by decide⟩ ?_
    refine go_icmp_ge_f (tgt := 47) dX2_inLeastTerms_18 (by decide) (by omega) ?_
    refine go_lload dX2_inLeastTerms_21 rfl ?_
    refine go_lconst (z := 0) dX2_inLeastTerms_23 (by decide +kernel) ⟨by decide, by decide⟩ ?_
    refine go_lcmp dX2_inLeastTerms_24 rfl ?_
    refine go_if_eq_t (tgt := 47) dX2_inLeastTerms_25 (by decide) (by rw [if_neg (by omega), if_pos rfl]) ?_
    refine go_lload_n dX2_inLeastTerms_47 rfl ?_
    refine go_lconst (z := 0) dX2_inLeastTerms_48 (by decide +kernel) ⟨by decide, by decide⟩ ?_
    refine go_lcmp dX2_inLeastTerms_49 rfl ?_
    refine go_if_ne_t (tgt := 57) dX2_inLeastTerms_50 (by decide) (by rw [if_pos (by omega)]; decide) ?_
    refine go_lload_n dX2_inLeastTerms_57 rfl ?_
    refine go_lload_n dX2_inLeastTerms_58 rfl ?_
    refine go_ldiv dX2_inLeastTerms_59 (by omega) (by omega) ?_
    refine go_l2i dX2_inLeastTerms_60 (⟨by have := Int.ediv_nonneg hz0 (show 0 ≤ dv by omega); omega, by have := Int.ediv_le_self dv hz0; omega⟩) ?_
    refine go_ireturn dX2_inLeastTerms_61 rfl ?_
    exact hQ
  have step : ∀ (dv rs : Int) (k : Nat) (u : mV), 1 ≤ dv → 0 < rs → k ≤ 63 → (∀ u2 : mV, Go x mtX2_inLeastTerms 14 [xR d, xL z, xU, xL rs, xU, xL (dv % rs), xU, xI ((k : Int) + 1), u2, xU] [] h (qI Q)) → Go x mtX2_inLeastTerms 14 [xR d, xL z, xU, xL dv, xU, xL rs, xU, xI (k : Int), u, xU] [] h (qI Q) := by
    intro dv rs k u hdv hrs hk K
    refine go_iload dX2_inLeastTerms_14 rfl ?_
    refine go_bipush dX2_inLeastTerms_16 (by decide +kernel) ⟨by decide, by decide⟩ ?_
    refine go_icmp_ge_f (tgt := 47) dX2_inLeastTerms_18 (by decide) (by omega) ?_
    refine go_lload dX2_inLeastTerms_21 rfl ?_
    refine go_lconst (z := 0) dX2_inLeastTerms_23 (by decide +kernel) ⟨by decide, by decide⟩ ?_
    refine go_lcmp dX2_inLeastTerms_24 rfl ?_
    refine go_if_eq_f (tgt := 47) dX2_inLeastTerms_25 (by decide) (by rw [if_pos (by omega)]; decide) ?_
    refine go_lload_n dX2_inLeastTerms_28 rfl ?_
    refine go_lload dX2_inLeastTerms_29 rfl ?_
    refine go_lrem dX2_inLeastTerms_31 (by omega) (by omega) ?_
    refine go_lstore dX2_inLeastTerms_32 (Nat.le_of_ble_eq_true rfl) rfl (by dsimp only [List.set]) ?_
    refine go_lload dX2_inLeastTerms_34 rfl ?_
    refine go_lstore_n 3 dX2_inLeastTerms_36 rfl (Nat.le_of_ble_eq_true rfl) rfl (by dsimp only [List.set]) ?_
    refine go_lload dX2_inLeastTerms_37 rfl ?_
    refine go_lstore dX2_inLeastTerms_39 (Nat.le_of_ble_eq_true rfl) rfl (by dsimp only [List.set]) ?_
    refine go_iinc dX2_inLeastTerms_41 rfl rfl rfl (by omega) (by omega) (by dsimp only [List.set]) ?_
    refine go_goto (tgt := 14) dX2_inLeastTerms_44 (by decide) ?_
    exact K _
  intro m
  induction m with
  | zero =>
    intro dv rs k u h1 h2 h3 h4 h5 hg
    rw [Int.pow_zero] at h4
    have : rs = 0 := by omega
    subst this
    exact exit dv k u h1 (by omega) hg
  | succ m ih =>
    intro dv rs k u h1 h2 h3 h4 h5 hg
    by_cases e0 : rs = 0
    · subst e0
      exact exit dv k u h1 (by omega) hg
    · have g1 := Int.emod_nonneg dv (show rs ≠ 0 by omega)
      have g2 := Int.emod_lt_of_pos dv (show 0 < rs by omega)
      have g3 := gI_step (a := dv) (b := rs) (by omega) (by omega)
      refine step dv rs k u h1 (by omega) (by omega) (fun u2 => ?_)
      by_cases e1 : dv % rs = 0
      · rw [e1] at g3 ⊢
        have := exit rs (k + 1) u2 (by omega) (by omega) (by omega)
        exact this
      · have q1 := Int.emod_nonneg rs (show dv % rs ≠ 0 by omega)
        have q2 := Int.emod_lt_of_pos rs (show 0 < dv % rs by omega)
        have q3 := gI_step (a := rs) (b := dv % rs) (by omega) (by omega)
        have q5 : 2 * (rs % (dv % rs)) < rs := by
          have e := Int.mul_ediv_add_emod rs (dv % rs)
          have e3 : 1 ≤ rs / (dv % rs) := by
            apply Int.le_ediv_of_mul_le (by omega)
            omega
          have e4 : dv % rs * 1 ≤ dv % rs * (rs / (dv % rs)) := Int.mul_le_mul_of_nonneg_left e3 (by omega)
          omega
        rw [pow2_s] at h4
        have st2 := step rs (dv % rs) (k + 1) u2 (by omega) (by omega) (by omega) (fun u3 => by
          have := ih (dv % rs) (rs % (dv % rs)) (k + 2) u3 (by omega) (by omega) q1 (by omega) (by omega) (by omega)
          exact this)
        exact st2

set_option maxHeartbeats 4000000 in
set_option maxRecDepth 100000 in
theorem od_least {x : mX} {h : mH} {Q : Int → mH → Prop} {d : Nat} {z s : Int} {c : Od} (hd : isOd d) (H : OdS h d s c) (u1 : 1 ≤ c.2.1) (u2 : c.2.1 ≤ 777600000) (l1 : 1 ≤ c.2.2) (l2 : c.2.2 ≤ 777600000) (hz0 : 0 ≤ z) (hz1 : z ≤ 777600000) (hQ : Q (z / gI c.2.1 c.2.2) h) : CtI x mtX2_inLeastTerms [xR d, xL z] h Q := by
  refine ct_go (ls := [xR d, xL z, xU, xU, xU, xU, xU, xU, xU, xU]) (by decide +kernel) (Nat.le_of_ble_eq_true rfl) rfl ?_
  refine go_aload_n dX2_inLeastTerms_0 rfl ?_
  refine gfX2_lower hd flX2_22 dX2_inLeastTerms_1 ?_
  rw [H.2.2.2]
  refine go_lstore_n 3 dX2_inLeastTerms_4 rfl (Nat.le_of_ble_eq_true rfl) rfl (by dsimp only [List.set]) ?_
  refine go_aload_n dX2_inLeastTerms_5 rfl ?_
  refine gfX2_upper hd flX2_18 dX2_inLeastTerms_6 ?_
  rw [H.2.2.1]
  refine go_lstore dX2_inLeastTerms_9 (Nat.le_of_ble_eq_true rfl) rfl (by dsimp only [List.set]) ?_
  refine go_iconst dX2_inLeastTerms_11 ⟨by decide, by decide⟩ ?_
  refine go_istore dX2_inLeastTerms_12 (Nat.le_of_ble_eq_true rfl) rfl (by dsimp only [List.set]) ?_
  have e30 : (2 : Int) ^ 30 = 1073741824 := by decide
  exact od_least_loop hz0 hz1 hQ 30 c.2.2 c.2.1 0 xU l1 u2 (by omega) (by rw [e30]; omega) (by decide) (gI_comm _ _)
