/-! ===== LongestPast: agrees ===== -/
def b01 (bs : List Int) : Prop := ∀ z ∈ bs, z = 0 ∨ z = 1
theorem b01_put {bs : List Int} {b : Int} {n : Nat} (h : b01 bs) (hb : b = 0 ∨ b = 1) : b01 (bs ++ b :: List.replicate n (1 - b)) := by
  intro z hz
  rcases List.mem_append.mp hz with q | q
  · exact h z q
  · rcases List.mem_cons.mp q with q | q
    · omega
    · have := List.eq_of_mem_replicate q; omega
theorem stp_01 {c : Cd} (h : b01 c.2.2.2) : b01 (stp c).2.2.2 := by
  show b01 (if les c.1 c.2.1 = 16384 then c.2.2.2 else _)
  split
  · exact h
  · refine b01_put h ?_
    split
    · exact Or.inl rfl
    · exact Or.inr rfl
theorem wdn_01 : ∀ (n : Nat) (c : Cd), b01 c.2.2.2 → b01 (wdn n c).2.2.2
  | 0, _, h => h
  | n + 1, c, h => by
    rw [wdn]
    split
    · exact h
    · exact wdn_01 n _ (stp_01 h)
theorem prt_01 {c : Cd} {b w t : Int} (h : b01 c.2.2.2) : b01 (prt c b w t).2.2.2 := wdn_01 17 _ h
theorem dscW_01 {s : Nat} {cs : Int → Int} {ctx : Nat → Int} : ∀ (N sh : Nat) (c : Cd), b01 c.2.2.2 → b01 (dsc (chW s) prt cs ctx N sh c).2.2.2.2.2
  | 0, _, _, h => prt_01 h
  | N + 1, sh, c, h => by
    rw [dsc]
    split
    · exact dscW_01 N _ _ h
    · split
      · exact dscW_01 N _ _ (prt_01 h)
      · exact prt_01 h
theorem pck_01 {o l r t : Int} {T : List Int} : ∀ n : Nat, b01 (pck o l r t T n).2.2.2.2.2
  | 0 => fun z hz => absurd hz (by simp [pck])
  | n + 1 => dscW_01 _ _ _ (pck_01 n)
/-- the bits, ended -/
def ebt (c : Cd) : Int := if c.1 < 16384 then 0 else 1
def ebs (c : Cd) : List Int := c.2.2.2 ++ ebt c :: List.replicate (c.2.2.1 + 1) (1 - ebt c)
theorem ebt_01 (c : Cd) : ebt c = 0 ∨ ebt c = 1 := by unfold ebt; split <;> omega
theorem ebs_len (c : Cd) : (ebs c).length = Dn c + 2 := by unfold ebs Dn; rw [List.length_append, List.length_cons, List.length_replicate]; omega
def agr (f : Nat → Int) (T : List Int) : Nat → Nat → Nat
  | 0, k => k
  | m + 1, k => if f k = T.getD k 0 then agr f T m (k + 1) else k
def agf (a : Ab) : Nat → Int := rsg a.2.1.1 a.2.1.2.1 a.2.1.2.2.1 a.2.1.2.2.2.1 (srF (ebs (pkn a).2.2))
def sp_agrees (a : Ab) : Int := ((agr (agf a) a.2.1.2.2.2.2 a.2.1.2.2.2.2.length 0 : Nat) : Int)

set_option maxHeartbeats 4000000 in
set_option maxRecDepth 100000 in
theorem lp_agrees {x : mX} {h : mH} {Q : Int → mH → Prop} {a : Ab} (H : LpS h a) (ok : AbOk a) (hQ : ∀ h', LpS h' a → FrL h h' → Q (sp_agrees a) h') : CtI x mtX9_agrees [xR 0] h Q := by
  obtain ⟨R, P, Z, ⟨nx, D⟩, E, F⟩ := id H
  have hl := ok.2.1.2.1
  have hD := pck_D ok.2.1.1 ok.2.1.2 (Nat.le_refl _)
  have hDe : Dn (pkn a).2.2 ≤ 720 := hD
  have hN722 : (ebs (pkn a).2.2).length ≤ 722 := by rw [ebs_len]; omega
  have hsf := srF_01 (bs := ebs (pkn a).2.2) (b01_put (pck_01 _) (ebt_01 _))
  have G : RgW h (3 + 6) (pkn a).2.2 := P.2.2.2.2.2
  unfold sp_agrees at hQ
  refine ct_go (ls := [xR 0, xU, xU]) (by decide +kernel) (Nat.le_of_ble_eq_true rfl) rfl ?_
  refine go_aload_n dX9_agrees_0 rfl ?_
  refine gfX9_trial rfl flX9_25 dX9_agrees_1 ?_
  refine go_aload_n dX9_agrees_4 rfl ?_
  refine gfX9_now rfl flX9_21 dX9_agrees_5 ?_
  refine gfX3_past rfl flX9_77 dX9_agrees_8 ?_
  refine go_cV1V rfl vlX9_167 dX9_agrees_11 (by decide) rfl rfl (by decide) (Nat.le_of_ble_eq_true rfl) (pk_startsLike pk14 pk3.2.1 (by decide) P.1 Z ?_)
  intro h1 P1 F1
  refine go_aload_n dX9_agrees_14 rfl ?_
  refine gfX9_trial rfl flX9_25 dX9_agrees_15 ?_
  refine gfX3_range rfl flX9_134 dX9_agrees_18 ?_
  refine go_aload_n dX9_agrees_21 rfl ?_
  refine gfX9_now rfl flX9_21 dX9_agrees_22 ?_
  refine gfX3_range rfl flX9_134 dX9_agrees_25 ?_
  refine go_cV1V rfl vlX9_176 dX9_agrees_28 (by decide) rfl rfl (by decide) (Nat.le_of_ble_eq_true rfl) (rg_endsLike pk14.2.2.2.1 pk3.2.2.2.1 (by decide) (c := (pkn a).2.2) (show RgW h1 (3 + 6) (pkn a).2.2 from ⟨by rw [F1 _ (by decide)]; exact G.1, by rw [F1 _ (by decide)]; exact G.2.1, by rw [F1 _ (by decide)]; exact G.2.2.1, by rw [F1 _ (by decide)]; exact G.2.2.2.1, G.2.2.2.2.congr (F1 _ (by decide)) (F1 _ (by decide))⟩) (by omega) ?_)
  intro h2 B2 F2
  change RowL h2 (14 + 6 + 1) (ebs (pkn a).2.2) at B2
  refine go_aload_n dX9_agrees_31 rfl ?_
  refine gfX9_trial rfl flX9_25 dX9_agrees_32 ?_
  refine gfX3_range rfl flX9_134 dX9_agrees_35 ?_
  refine go_cV0V rfl vlX9_170 dX9_agrees_38 (by decide) rfl rfl (by decide) (Nat.le_of_ble_eq_true rfl) (rg_startsReading pk14.2.2.2.1 B2 hN722 hsf ?_)
  intro h3 G3 F3
  have S3 : RdS h3 14 a.2.1.1 a.2.1.2.1 a.2.1.2.2.1 a.2.1.2.2.2.1 (ebs (pkn a).2.2) (rdk a.2.1.1 a.2.1.2.1 a.2.1.2.2.1 a.2.1.2.2.2.1 (srF (ebs (pkn a).2.2)) 0).1 (rdk a.2.1.1 a.2.1.2.1 a.2.1.2.2.1 a.2.1.2.2.2.1 (srF (ebs (pkn a).2.2)) 0).2 := rdS_start (h1 := h2) (by unfold PaS; rw [F2 _ (by decide) (by decide) (by decide)]; exact P1.1) (P1.2.1.congr (F2 _ (by decide) (by decide) (by decide)) (F2 _ (by decide) (by decide) (by decide))) (by rw [F2 _ (by decide) (by decide) (by decide)]; exact P1.2.2.1) ⟨by rw [F2 _ (by decide) (by decide) (by decide)]; exact P1.2.2.2.1.1, by rw [F2 _ (by decide) (by decide) (by decide)]; exact P1.2.2.2.1.2⟩ (by rw [F2 _ (by decide) (by decide) (by decide)]; exact P1.2.2.2.2.1) G3 F3
  have G0 : ∀ i, i < 14 ∨ 25 ≤ i → h3 i = h i := fun i q => by rw [F3 i (by omega), F2 i (by omega) (by omega) (by omega), F1 i (by omega)]
  refine go_aload_n dX9_agrees_41 rfl ?_
  refine gfX9_now rfl flX9_21 dX9_agrees_42 ?_
  refine gfX3_past rfl flX9_77 dX9_agrees_45 ?_
  refine gfX4_signs rfl flX9_80 dX9_agrees_48 ?_
  refine gfX6_size rfl flX9_66 dX9_agrees_51 ?_
  rw [show h3 (3 + 1 + 1) 1 = (a.2.1.2.2.2.2.length : Int) by rw [G0 _ (by decide)]; exact P.2.1.1]
  refine go_istore_n 1 dX9_agrees_54 rfl (Nat.le_of_ble_eq_true rfl) rfl (by dsimp only [List.set]) ?_
  refine go_iconst dX9_agrees_55 ⟨by decide, by decide⟩ ?_
  refine go_istore_n 2 dX9_agrees_56 rfl (Nat.le_of_ble_eq_true rfl) rfl (by dsimp only [List.set]) ?_
  refine up_indN (P := fun n => ∀ hh : mH, RdS hh 14 a.2.1.1 a.2.1.2.1 a.2.1.2.2.1 a.2.1.2.2.2.1 (ebs (pkn a).2.2) (rdk a.2.1.1 a.2.1.2.1 a.2.1.2.2.1 a.2.1.2.2.2.1 (srF (ebs (pkn a).2.2)) n).1 (rdk a.2.1.1 a.2.1.2.1 a.2.1.2.2.1 a.2.1.2.2.2.1 (srF (ebs (pkn a).2.2)) n).2 → (∀ i, i < 14 ∨ 25 ≤ i → hh i = h i) → agr (agf a) a.2.1.2.2.2.2 (a.2.1.2.2.2.2.length - n) n = agr (agf a) a.2.1.2.2.2.2 a.2.1.2.2.2.2.length 0 → Go x mtX9_agrees 57 [xR 0, xI (a.2.1.2.2.2.2.length : Int), xI (n : Int)] [] hh (qI Q)) a.2.1.2.2.2.2.length (fun n hn ihn hh SS GG hag => ?_) h3 S3 G0 rfl
  have ivn := rdk_inv (o := a.2.1.1) (l := a.2.1.2.1) (r := a.2.1.2.2.1) (t := a.2.1.2.2.2.1) ok.2.1.1 hsf n (by omega)
  by_cases hlt : n < a.2.1.2.2.2.2.length
  · skip
    refine go_iload_n dX9_agrees_57 rfl ?_
    refine go_iload_n dX9_agrees_58 rfl ?_
    refine go_icmp_ge_f (tgt := 94) dX9_agrees_59 (by decide) (by omega) ?_
    refine go_aload_n dX9_agrees_62 rfl ?_
    refine gfX9_trial rfl flX9_25 dX9_agrees_63 ?_
    refine go_cV0I rfl vlX9_173 dX9_agrees_66 (by decide) rfl rfl (by decide) (Nat.le_of_ble_eq_true rfl) (pk_readsNext pk14 ok.2.1.1 hN722 hsf ivn (by rw [rdk_len]; omega) SS ?_)
    intro h4 S4 F4
    change Go x mtX9_agrees _ _ [xI (agf a n)] h4 (qI Q)
    have iv4 := rdk_inv (o := a.2.1.1) (l := a.2.1.2.1) (r := a.2.1.2.2.1) (t := a.2.1.2.2.2.1) ok.2.1.1 hsf (n + 1) (by omega)
    refine go_aload_n dX9_agrees_69 rfl ?_
    refine gfX9_now rfl flX9_21 dX9_agrees_70 ?_
    refine gfX3_past rfl flX9_77 dX9_agrees_73 ?_
    refine gfX4_signs rfl flX9_80 dX9_agrees_76 ?_
    refine go_iload_n dX9_agrees_79 rfl ?_
    refine go_cV1I rfl vlX9_106 dX9_agrees_80 (by decide) rfl rfl (by decide) (Nat.le_of_ble_eq_true rfl) (row_atL pk3.2.1.2 (bs := a.2.1.2.2.2.2) (P.2.1.congr (by rw [F4 _ (by omega), GG _ (by omega)]) (by rw [F4 _ (by omega), GG _ (by omega)])) hl ?_)
    rw [srF_nat hlt]
    refine go_icmp_eq (tgt := 88) dX9_agrees_83 (by decide) (fun c83 => ?_) (fun c83 => ?_)
    · refine go_iinc dX9_agrees_88 rfl rfl rfl (by omega) (by omega) (by dsimp only [List.set]) ?_
      refine go_goto (tgt := 57) dX9_agrees_91 (by decide) ?_
      refine ihn hlt h4 S4 (fun i q => by rw [F4 i (by omega), GG i q]) ?_
      rw [← hag, show a.2.1.2.2.2.2.length - n = (a.2.1.2.2.2.2.length - (n + 1)) + 1 by omega, agr, if_pos c83]
    · refine go_iload_n dX9_agrees_86 rfl ?_
      refine go_ireturn dX9_agrees_87 rfl ?_
      rw [show a.2.1.2.2.2.2.length - n = (a.2.1.2.2.2.2.length - (n + 1)) + 1 by omega, agr, if_neg c83] at hag
      rw [← hag] at hQ
      exact hQ h4 (H.trial (fun i q => by rw [F4 i (by omega), GG i (by omega)]) (RdS.z iv4 S4)) (fun i q => by rw [F4 i (by omega), GG i (by omega)])
  · have hni : n = a.2.1.2.2.2.2.length := by omega
    subst hni
    refine go_iload_n dX9_agrees_57 rfl ?_
    refine go_iload_n dX9_agrees_58 rfl ?_
    refine go_icmp_ge_t (tgt := 94) dX9_agrees_59 (by decide) (by omega) ?_
    refine go_iload_n dX9_agrees_94 rfl ?_
    refine go_ireturn dX9_agrees_95 rfl ?_
    rw [Nat.sub_self, agr] at hag
    rw [← hag] at hQ
    exact hQ hh (H.trial (fun i q => by rw [GG i (by omega)]) (RdS.z ivn SS)) (fun i q => by rw [GG i (by omega)])
