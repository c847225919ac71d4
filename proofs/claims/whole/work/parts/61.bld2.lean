/-! ===== building: calls ===== -/
theorem fm_of {α β : Type} {f : α → Option β} {l : List α} {w : List β} (h : l.map f = w.map some) : l.filterMap f = w := by
  have e : (l.map f).filterMap id = (w.map some).filterMap id := by rw [h]
  rw [List.filterMap_map, List.filterMap_map] at e
  have e2 : List.filterMap (id ∘ some) w = w := List.filterMap_some
  rw [e2] at e
  exact e
theorem nd_of : ∀ (l : List Nat), l.Nodup → va_nd l = true
  | [], _ => rfl
  | a :: l, h => by
    rw [List.nodup_cons] at h
    simp only [va_nd, Bool.and_eq_true, decide_eq_true_eq]
    exact ⟨h.1, nd_of l h.2⟩
theorem rg_map (wr wc : va_W) : (List.range wr.length).map (fun i => (wr ++ wc)[i]?) = wr.map some := by
  apply List.ext_getElem?
  intro i
  rw [List.getElem?_map, List.getElem?_map]
  by_cases h : i < wr.length
  · rw [List.getElem?_range h, List.getElem?_eq_getElem h]
    show some ((wr ++ wc)[i]?) = some (some wr[i])
    rw [List.getElem?_append_left h, List.getElem?_eq_getElem h]
  · rw [List.getElem?_eq_none (by rw [List.length_range]; omega), List.getElem?_eq_none (by omega)]; rfl
theorem sf_map (wr wc : va_W) : ((List.range wc.length).map (fun i => wr.length + i)).map (fun i => (wr ++ wc)[i]?) = wc.map some := by
  apply List.ext_getElem?
  intro i
  rw [List.getElem?_map, List.getElem?_map, List.getElem?_map]
  by_cases h : i < wc.length
  · rw [List.getElem?_range h, List.getElem?_eq_getElem h]
    show some ((wr ++ wc)[wr.length + i]?) = some (some wc[i])
    rw [List.getElem?_append_right (by omega), Nat.add_sub_cancel_left, List.getElem?_eq_getElem h]
  · rw [List.getElem?_eq_none (by rw [List.length_range]; omega), List.getElem?_eq_none (by omega)]; rfl
def mIl (own : String) (idx : Nat) (N : mM) (n : Nat) : Prop := (Cond.methodLink own idx N.1 ∈ gd_tbl ∨ ∃ host, Cond.methodLinkNest own idx N.1 host ∈ nw_tbl) ∧ Cond.instanceMethod N.1 ∈ gd_tbl ∧ mCl N n ∧ N.1.name = "<init>" ∧ N.2.2.2.1 = none
theorem rc_ok {N M : mM} {mc ms mc1 ms1 : Nat} (hR : N.2.2.2.2 < M.2.2.2.2) (hm : N.2.2.1 ≤ 19) : (rmc N.2.2.2.2 mc1 ms1).frames + 1 ≤ (rmc M.2.2.2.2 mc ms).frames ∧ 8 + (N.2.2.1 + 11) + (rmc N.2.2.2.2 mc1 ms1).locals ≤ (rmc M.2.2.2.2 mc ms).locals := by
  show N.2.2.2.2 + 1 ≤ M.2.2.2.2 ∧ 8 + (N.2.2.1 + 11) + 38 * N.2.2.2.2 ≤ 38 * M.2.2.2.2
  omega
theorem wk_moved {x : mX} {s U : State} (hW : s.WarmedH U.vm) (h : Wk x s) : Wk x U := ⟨va_K.moved hW.alike h.1, h.2.1.warm hW, va_AO.moved hW.alike h.2.2⟩
theorem cn_blind {x : mX} {as : List Value} {w0 : va_W} {sz : Nat} : FrameBlind (va_Pc as (fun U => U.heap.size = sz ∧ va_P x.2.2.1 vwCl w0 U.heap ∧ va_D (fun _ => True) w0 ∧ Wk x U)) := fun a U g mk q => by
  obtain ⟨q0, q1, qP, qD, qW⟩ := q
  exact ⟨q0, q1, qP, qD, va_K.moved (u := U) (U := U.calling g mk a) (Vm.Alike.refl U.vm) qW.1, nw_all.same (s := U) rfl qW.2.1, va_AO.moved (u := U) (U := U.calling g mk a) (Vm.Alike.refl U.vm) qW.2.2⟩
section BOC
variable {x : mX} {M : mM} {w0 : va_W} {post : va_W → Prop} {mc ms pc : Nat} {ls : List (Nat × Value)} {st : List Value} {ws : va_W} {cells slots : Nat}
theorem bo_callI {N : mM} {as : List Value} {wc wr : va_W} {post1 : va_W → Prop} {mc1 ms1 idx b n : Nat} (isC isR : List Nat) (hcm : isC.map (fun i => ws[i]?) = wc.map some) (hrm : isR.map (fun i => ws[i]?) = wr.map some) (hnC : va_nd isC = true) (hnR : va_nd isR = true) (hdis : ∀ i ∈ isR, i ∉ isC) (hl : mIl M.1.cls idx N n) (hd : decode M.2.1 pc = .ok (.invokespecial idx, 3)) (hR : N.2.2.2.2 < M.2.2.2.2) (hst : (st.map fun v => v.category).sum ≤ 8) (hn : as.length = n) (cn : Cn x N (.ref b :: as) wc post1 mc1 ms1) (h1 : cells + mc1 ≤ mc) (h2 : slots + ms1 ≤ ms)
    (k : ∀ w : va_W, post1 w → Bo x M w0 post mc ms (pc + 3) ls st (wr ++ w) (cells + mc1) (slots + ms1)) : Bo x M w0 post mc ms pc ls (as.reverse ++ .ref b :: st) ws cells slots := by
  intro p e s m args below meth c H locs la hC hP hD hS hL
  obtain ⟨l1, l2, ⟨l4, l5, l6, l7⟩, l8, l9⟩ := hl
  have hts := hC.2.2.2.2.2.1
  have hPc := hP.sub isC (fm_of hcm)
  have hDc := hD.sub isC hnC hcm
  have hFc := va_free (wc := wc) hD hS va_A_new isC hcm
  have hpre : ∀ U : State, U.heap = H → s.WarmedH U.vm → va_Pc (.ref b :: as) (fun U => U.heap.size = H.size ∧ va_P x.2.2.1 vwCl wc U.heap ∧ va_D (fun _ => True) wc ∧ Wk x U) ((.ref b :: as : List Value).toArray) U := fun U hU hW => ⟨rfl, by rw [hU], by rw [hU]; exact hPc, hDc.weaken (fun _ _ _ _ => trivial), wk_moved hW hC.2.2.2.2.2.2.2.2⟩
  have hrun : va_Run p x.1 e (rmc M.2.2.2.2 mc ms) s m args below meth c H locs cells slots mc1 ms1 (F0 m pc la (as.reverse ++ .ref b :: st)) st (va_Qv post1 (fun w t => va_P x.2.2.1 vwCl w t.heap ∧ va_D (va_A wc H.size) w) (va_A wc H.size) (Value.ref b :: as).toArray) (va_A wc H.size) := by
    have hM := cn H.size
    rcases l1 with l1 | ⟨host, l1⟩
    · refine va_runI (As := as) (rest := st) (own := M.1.cls) (n := n) (bytes := N.2.1) (maxL := N.2.2.1) ⟨hC.1, hC.2.1, hC.2.2.2.1, hC.2.2.2.2.1, hts⟩ hM (cwI n hts (gd_cons l4) (by unfold mws; rw [l9]) rfl rfl (hts _ l5) (hts _ l1) (hts _ l2) l8 l6 (rc_ok hR l7)) ⟨cn_blind, hpre⟩ rfl hn hL.1 rfl (lv_room hst) hd ⟨h1, h2⟩
    · refine va_runIN (As := as) (rest := st) (own := M.1.cls) (host := host) (n := n) (bytes := N.2.1) (maxL := N.2.2.1) ⟨hC.1, hC.2.1, hC.2.2.2.1, hC.2.2.2.2.1, hts⟩ hM ⟨va_cnB n hts (gd_cons l4) (by unfold mws; rw [l9]) rfl rfl (hC.2.2.2.2.2.2.2.2.2.1 _ l1) (hts _ l5) l6 (rc_ok hR l7), l8, hts _ l2⟩ ⟨cn_blind, hpre⟩ rfl hn hL.1 rfl (lv_room hst) hd ⟨h1, h2⟩
  refine va_callv hrun hS (fun q _ h => hFc q h) hFc (fun w t H1 locs1 ht hvm hw hB hz1 hk1 hS1 => ?_)
  obtain ⟨hP1, hD1⟩ := hB
  rw [ht] at hP1
  obtain ⟨hP2, hD2⟩ := va_join hP hD isC isR hcm hrm hnR hdis hk1 hFc hP1 hD1
  exact k w hw p e s m args below meth c H1 locs1 la hC hP2 hD2 hS1 hL
/-- the callee's cells stand last -/
theorem bo_call {N : mM} {as stk : List Value} {wc wr : va_W} {post1 : va_W → Prop} {mc1 ms1 idx b n : Nat} (hw : ws = wr ++ wc) (hl : mIl M.1.cls idx N n) (hd : decode M.2.1 pc = .ok (.invokespecial idx, 3)) (hR : N.2.2.2.2 < M.2.2.2.2) (hst : (st.map fun v => v.category).sum ≤ 8) (hn : as.length = n) (hsk : stk = as.reverse ++ .ref b :: st) (cn : Cn x N (.ref b :: as) wc post1 mc1 ms1) (h1 : cells + mc1 ≤ mc) (h2 : slots + ms1 ≤ ms)
    (k : ∀ w : va_W, post1 w → Bo x M w0 post mc ms (pc + 3) ls st (wr ++ w) (cells + mc1) (slots + ms1)) : Bo x M w0 post mc ms pc ls stk ws cells slots := by
  subst hw
  subst hsk
  refine bo_callI ((List.range wc.length).map (fun i => wr.length + i)) (List.range wr.length) (sf_map wr wc) (rg_map wr wc) (nd_of _ ?_) (nd_of _ List.nodup_range) (fun i hi hj => ?_) hl hd hR hst hn cn h1 h2 k
  · refine List.Pairwise.map _ (fun a b hab => ?_) List.nodup_range
    show wr.length + a ≠ wr.length + b
    intro q
    exact hab (by omega)
  · obtain ⟨j, _, hj⟩ := List.mem_map.mp hj
    have := List.mem_range.mp hi
    omega
/-- an instance method, whose receiver stands first in its cells -/
theorem bo_callV {N : mM} {as stk : List Value} {wc wr : va_W} {post1 : va_W → Prop} {mc1 ms1 idx b n ci : Nat} {q : vw_C} {fs : List Value} (isC isR : List Nat) (hcm : isC.map (fun i => ws[i]?) = wc.map some) (hrm : isR.map (fun i => ws[i]?) = wr.map some) (hnC : va_nd isC = true) (hnR : va_nd isR = true) (hdis : ∀ i ∈ isR, i ∉ isC) (hl : mVl M.1.cls idx N n) (hd : decode M.2.1 pc = .ok (.invokevirtual idx, 3)) (hR : N.2.2.2.2 < M.2.2.2.2) (hst : (st.map fun v => v.category).sum ≤ 8) (hn : as.length = n) (hsk : stk = as.reverse ++ .ref b :: st) (hrc : wc[0]? = some (b, .inr (ci, fs))) (hcl : vwCl[ci]? = some q) (hq : q.1 = N.1.cls) (cn : Cn x N (.ref b :: as) wc post1 mc1 ms1) (h1 : cells + mc1 ≤ mc) (h2 : slots + ms1 ≤ ms)
    (k : ∀ w : va_W, post1 w → Bo x M w0 post mc ms (pc + 3) ls st (wr ++ w) (cells + mc1) (slots + ms1)) : Bo x M w0 post mc ms pc ls stk ws cells slots := by
  subst hsk
  intro p e s m args below meth c H locs la hC hP hD hS hL
  obtain ⟨l1, ⟨l2, l3⟩, l4, l5, l6, l7⟩ := hl
  have hts := hC.2.2.2.2.2.1
  have hPc := hP.sub isC (fm_of hcm)
  have hDc := hD.sub isC hnC hcm
  have hFc := va_free (wc := wc) hD hS va_A_new isC hcm
  have hrec := va_recv (D := x.2.2.1) hC.2.2.2.2.2.2.2.2.1 hPc hcl hrc
  rw [hq] at hrec
  have hpre : ∀ U : State, U.heap = H → s.WarmedH U.vm → va_Pc (.ref b :: as) (fun U => U.heap.size = H.size ∧ va_P x.2.2.1 vwCl wc U.heap ∧ va_D (fun _ => True) wc ∧ Wk x U) ((.ref b :: as : List Value).toArray) U := fun U hU hW => ⟨rfl, by rw [hU], by rw [hU]; exact hPc, hDc.weaken (fun _ _ _ _ => trivial), wk_moved hW hC.2.2.2.2.2.2.2.2⟩
  have hrun : va_Run p x.1 e (rmc M.2.2.2.2 mc ms) s m args below meth c H locs cells slots mc1 ms1 (F0 m pc la (as.reverse ++ .ref b :: st)) st (va_Qv post1 (fun w t => va_P x.2.2.1 vwCl w t.heap ∧ va_D (va_A wc H.size) w) (va_A wc H.size) (Value.ref b :: as).toArray) (va_A wc H.size) :=
    va_runV (As := as) (rest := st) (own := M.1.cls) (C := N.1.cls) (n := n) ⟨hC.1, hC.2.1, hC.2.2.2.1, hC.2.2.2.2.1, hts⟩ (cn H.size) ⟨callB_of n hts (gd_cons l4) rfl rfl rfl (hts _ l5) (hts _ l1) l6 (rc_ok hR l7), hts _ l2, hts _ l3⟩ ⟨cn_blind, hrec, hpre⟩ rfl hn hL.1 rfl (lv_room hst) hd ⟨h1, h2⟩
  refine va_callv hrun hS (fun q _ h => hFc q h) hFc (fun w t H1 locs1 ht hvm hw hB hz1 hk1 hS1 => ?_)
  obtain ⟨hP1, hD1⟩ := hB
  rw [ht] at hP1
  obtain ⟨hP2, hD2⟩ := va_join hP hD isC isR hcm hrm hnR hdis hk1 hFc hP1 hD1
  exact k w hw p e s m args below meth c H1 locs1 la hC hP2 hD2 hS1 hL
end BOC
/-! the words of each class's making -/
def mNw (own : String) (idx : Nat) (C : String) (N : Nat) : Prop := Cond.classLink own idx C ∈ gd_tbl ∧ Cond.instantiable C N ∈ gd_tbl ∧ Cond.initialized C ∈ gd_tbl
