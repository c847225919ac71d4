/-! ===== the start: classes, arrays, the two objects ===== -/
theorem kn_X0 {s : State} {A : Array Value} (hts : ∀ w ∈ gd_tbl, w.before A s = true) : ∃ (cC : ClassId) (iS : Nat → Nat), u_Kn s RX0 TX0 2 cC iS := u_known hts ingX0 (hts _ (show Cond.instantiable RX0 2 ∈ gd_tbl from (inG (i := 120) (by decide +kernel) rfl)))
theorem kn_X1 {s : State} {A : Array Value} (hts : ∀ w ∈ gd_tbl, w.before A s = true) : ∃ (cC : ClassId) (iS : Nat → Nat), u_Kn s RX1 TX1 3 cC iS := u_known hts ingX1 (hts _ (show Cond.instantiable RX1 3 ∈ gd_tbl from (inG (i := 245) (by decide +kernel) rfl)))
theorem kn_X2 {s : State} {A : Array Value} (hts : ∀ w ∈ gd_tbl, w.before A s = true) : ∃ (cC : ClassId) (iS : Nat → Nat), u_Kn s RX2 TX2 4 cC iS := u_known hts ingX2 (hts _ (show Cond.instantiable RX2 4 ∈ gd_tbl from (inG (i := 223) (by decide +kernel) rfl)))
theorem kn_X3 {s : State} {A : Array Value} (hts : ∀ w ∈ gd_tbl, w.before A s = true) : ∃ (cC : ClassId) (iS : Nat → Nat), u_Kn s RX3 TX3 7 cC iS := u_known hts ingX3 (hts _ (show Cond.instantiable RX3 7 ∈ gd_tbl from (inG (i := 80) (by decide +kernel) rfl)))
theorem kn_X4 {s : State} {A : Array Value} (hts : ∀ w ∈ gd_tbl, w.before A s = true) : ∃ (cC : ClassId) (iS : Nat → Nat), u_Kn s RX4 TX4 5 cC iS := u_known hts ingX4 (hts _ (show Cond.instantiable RX4 5 ∈ gd_tbl from (inG (i := 86) (by decide +kernel) rfl)))
theorem kn_X5 {s : State} {A : Array Value} (hts : ∀ w ∈ gd_tbl, w.before A s = true) : ∃ (cC : ClassId) (iS : Nat → Nat), u_Kn s RX5 TX5 8 cC iS := u_known hts ingX5 (hts _ (show Cond.instantiable RX5 8 ∈ gd_tbl from (inG (i := 135) (by decide +kernel) rfl)))
theorem kn_X6 {s : State} {A : Array Value} (hts : ∀ w ∈ gd_tbl, w.before A s = true) : ∃ (cC : ClassId) (iS : Nat → Nat), u_Kn s RX6 TX6 2 cC iS := u_known hts ingX6 (hts _ (show Cond.instantiable RX6 2 ∈ gd_tbl from (inG (i := 60) (by decide +kernel) rfl)))
theorem kn_X7 {s : State} {A : Array Value} (hts : ∀ w ∈ gd_tbl, w.before A s = true) : ∃ (cC : ClassId) (iS : Nat → Nat), u_Kn s RX7 TX7 4 cC iS := u_known hts ingX7 (hts _ (show Cond.instantiable RX7 4 ∈ gd_tbl from (inG (i := 176) (by decide +kernel) rfl)))
theorem kn_X9 {s : State} {A : Array Value} (hts : ∀ w ∈ gd_tbl, w.before A s = true) : ∃ (cC : ClassId) (iS : Nat → Nat), u_Kn s RX9 TX9 9 cC iS := u_known hts ingX9 (hts _ (show Cond.instantiable RX9 9 ∈ gd_tbl from (inG (i := 52) (by decide +kernel) rfl)))
theorem kn_X10 {s : State} {A : Array Value} (hts : ∀ w ∈ gd_tbl, w.before A s = true) : ∃ (cC : ClassId) (iS : Nat → Nat), u_Kn s RX10 TX10 26 cC iS := u_known hts ingX10 (hts _ (show Cond.instantiable RX10 26 ∈ gd_tbl from (inG (i := 604) (by decide +kernel) rfl)))
theorem kn_all {s : State} {A : Array Value} (hts : ∀ w ∈ gd_tbl, w.before A s = true) : ∃ D : va_G, ∀ (c : Nat) (q : vw_C), vwCl[c]? = some q → u_Kn s q.1 q.2.1 q.2.2 (D.1 c) (D.2 c) := by
  obtain ⟨c0, s0, k0⟩ := kn_X0 hts
  obtain ⟨c1, s1, k1⟩ := kn_X1 hts
  obtain ⟨c2, s2, k2⟩ := kn_X2 hts
  obtain ⟨c3, s3, k3⟩ := kn_X3 hts
  obtain ⟨c4, s4, k4⟩ := kn_X4 hts
  obtain ⟨c5, s5, k5⟩ := kn_X5 hts
  obtain ⟨c6, s6, k6⟩ := kn_X6 hts
  obtain ⟨c7, s7, k7⟩ := kn_X7 hts
  obtain ⟨c8, s8, k8⟩ := kn_X9 hts
  obtain ⟨c9, s9, k9⟩ := kn_X10 hts
  refine ⟨(fun k => [c0, c1, c2, c3, c4, c5, c6, c7, c8, c9].getD k c0, fun k => [s0, s1, s2, s3, s4, s5, s6, s7, s8, s9].getD k s0), fun c q hq => ?_⟩
  exact match c, hq with
  | 0, hq => by
    have e1 : (RX0, TX0, 2) = q := Option.some.inj (show some (RX0, TX0, 2) = some q from hq)
    subst e1
    exact k0
  | 1, hq => by
    have e1 : (RX1, TX1, 3) = q := Option.some.inj (show some (RX1, TX1, 3) = some q from hq)
    subst e1
    exact k1
  | 2, hq => by
    have e1 : (RX2, TX2, 4) = q := Option.some.inj (show some (RX2, TX2, 4) = some q from hq)
    subst e1
    exact k2
  | 3, hq => by
    have e1 : (RX3, TX3, 7) = q := Option.some.inj (show some (RX3, TX3, 7) = some q from hq)
    subst e1
    exact k3
  | 4, hq => by
    have e1 : (RX4, TX4, 5) = q := Option.some.inj (show some (RX4, TX4, 5) = some q from hq)
    subst e1
    exact k4
  | 5, hq => by
    have e1 : (RX5, TX5, 8) = q := Option.some.inj (show some (RX5, TX5, 8) = some q from hq)
    subst e1
    exact k5
  | 6, hq => by
    have e1 : (RX6, TX6, 2) = q := Option.some.inj (show some (RX6, TX6, 2) = some q from hq)
    subst e1
    exact k6
  | 7, hq => by
    have e1 : (RX7, TX7, 4) = q := Option.some.inj (show some (RX7, TX7, 4) = some q from hq)
    subst e1
    exact k7
  | 8, hq => by
    have e1 : (RX9, TX9, 9) = q := Option.some.inj (show some (RX9, TX9, 9) = some q from hq)
    subst e1
    exact k8
  | 9, hq => by
    have e1 : (RX10, TX10, 26) = q := Option.some.inj (show some (RX10, TX10, 26) = some q from hq)
    subst e1
    exact k9
  | n + 10, hq => by
    rw [List.getElem?_eq_none (Nat.le_add_left 10 n)] at hq
    cases hq
theorem kn_int {s : State} {A : Array Value} {ty : FieldType} (hR : ∀ cA : ClassId, s.vm.findClass ("[" ++ ty.toString) = some cA → va_RA s cA ty) (h : (Cond.arrayClass ty).before A s = true) : ∃ cA : ClassId, ArrOfT s cA ty ∧ va_RA s cA ty := by
  obtain ⟨cA, kA, comp, h1, h2, h3⟩ := Cond.arrayClass_spec h
  exact ⟨cA, fun n z => ⟨fun k h => (by cases h), kA, h2, comp, h3⟩, hR cA h1⟩
theorem kn_past {s : State} {A : Array Value} {C : String} (h : (Cond.arrayOver (.object C)).before A s = true) : ∃ cA : ClassId, ArrOfT s cA (.object C) ∧ va_RA s cA (.object C) := by
  obtain ⟨comp, cA, kA, h1, h2, h3, h4, h5⟩ := Cond.arrayOver_spec h
  exact ⟨cA, fun n z => ⟨fun k h => (by cases h), kA, h3, comp, h4⟩, kA, comp, h3, h4, h1, h5⟩
theorem ao_in : Cond.arrayOver (.object "LongestPast$Past") ∈ lw_tbl := List.mem_of_getElem? (i := 251) (by decide +kernel)
theorem st_wk {s : State} {A : Array Value} (l : Launch) (hts : ∀ w ∈ lw_tbl, w.before A s = true) : ∃ x : mX, x.1 = l ∧ Wk x s := by
  have hg : ∀ w ∈ gd_tbl, w.before A s = true := fun w hw => hts w (List.mem_filter.mp hw).1
  obtain ⟨D, hD⟩ := kn_all hg
  obtain ⟨cI, i1, i2⟩ := kn_int (ty := .int) (fun _ h => h) (hg _ ac_int)
  obtain ⟨cZ, z1, z2⟩ := kn_int (ty := .boolean) (fun _ h => h) (hg _ ac_bool)
  obtain ⟨cP, p1, p2⟩ := kn_past (hts _ ao_in)
  refine ⟨(l, fun _ => 0, D, cI, cZ, cP), rfl, ⟨hD, fun k q hk => ?_⟩, fun w hw => va_Nw.of (nw_tab (List.mem_filter.mp hw).2) (hts w (List.mem_filter.mp hw).1), va_AO.of (hts _ ao_in)⟩
  exact match k, hk with
  | 0, hk => by
    have e1 : (cI, FieldType.int) = q := Option.some.inj hk
    subst e1
    exact ⟨i1, i2⟩
  | 1, hk => by
    have e1 : (cZ, FieldType.boolean) = q := Option.some.inj hk
    subst e1
    exact ⟨z1, z2⟩
  | 2, hk => by
    have e1 : (cP, FieldType.object "LongestPast$Past") = q := Option.some.inj hk
    subst e1
    exact ⟨p1, p2⟩
  | n + 3, hk => by
    rw [List.getElem?_eq_none (show (tysm (l, fun _ => 0, D, cI, cZ, cP)).length ≤ n + 3 from Nat.le_add_left 3 n)] at hk
    cases hk
section ST
variable {x : mX} {p : Program} {e : Env} {s : State} {m : MethodId} {below : List Frame} {meth : Method} {c : Code} {b : Nat} {Q : State → Prop}
theorem st_call {N : mM} {idx a mc1 ms1 cells slots pc : Nat} {wr wc : va_W} {post1 : va_W → Prop} {st : List Value} {H : Heap} {locs : List Loc} {la : Array Slot} (hx : p.tables.exec = Jvm.exec) (hb : c.code = cL_law) (hml : c.maxLocals = 4) (ho : s.vm.findClass "LongestPastLaw" = some m.cls) (hts : ∀ w ∈ gd_tbl, w.before #[Value.ref b] s = true) (hWk : Wk x s) (hP : va_P x.2.2.1 vwCl (wr ++ wc) H) (hD : va_D (fun q => s.heap.size ≤ q) (wr ++ wc)) (hS : va_S (fun q => s.heap.size ≤ q) s.heap H locs) (hla : la.size = 4) (hl : mIl "LongestPastLaw" idx N 0) (hd : decode cL_law pc = .ok (.invokespecial idx, 3)) (hR : N.2.2.2.2 ≤ 10) (hst : (st.map fun v => v.category).sum ≤ 8) (cn : Cn x N [.ref a] wc post1 mc1 ms1) (h1 : cells + mc1 ≤ 600000) (h2 : slots + ms1 ≤ 7302250)
    (k : ∀ (w : va_W) (H1 : Heap) (locs1 : List Loc), post1 w → va_P x.2.2.1 vwCl (wr ++ w) H1 → va_D (fun q => s.heap.size ≤ q) (wr ++ w) → va_S (fun q => s.heap.size ≤ q) s.heap H1 locs1 → W p x.1 e room_1 s m #[Value.ref b] below meth c H1 locs1 (cells + mc1) (slots + ms1) Q (F0 m (pc + 3) la st)) : W p x.1 e room_1 s m #[Value.ref b] below meth c H locs cells slots Q (F0 m pc la (.ref a :: st)) := by
  obtain ⟨l1, l2, ⟨l4, l5, l6, l7⟩, l8, l9⟩ := hl
  have hcm := sf_map wr wc
  have hrm := rg_map wr wc
  have hnC : va_nd ((List.range wc.length).map (fun i => wr.length + i)) = true := by
    refine nd_of _ (List.Pairwise.map _ (fun a b hab => ?_) List.nodup_range)
    show wr.length + a ≠ wr.length + b
    intro q
    exact hab (by omega)
  have hdis : ∀ i ∈ List.range wr.length, i ∉ (List.range wc.length).map (fun i => wr.length + i) := fun i hi hj => by
    obtain ⟨j, _, hj⟩ := List.mem_map.mp hj
    have := List.mem_range.mp hi
    omega
  have hPc := hP.sub _ (fm_of hcm)
  have hDc := hD.sub _ hnC hcm
  have hFc := va_free (wc := wc) hD hS (fun q h => h) _ hcm
  have hpre : ∀ U : State, U.heap = H → s.WarmedH U.vm → va_Pc [.ref a] (fun U => U.heap.size = H.size ∧ va_P x.2.2.1 vwCl wc U.heap ∧ va_D (fun _ => True) wc ∧ Wk x U) (([.ref a] : List Value).toArray) U := fun U hU hW => ⟨rfl, by rw [hU], by rw [hU]; exact hPc, hDc.weaken (fun _ _ _ _ => trivial), wk_moved hW hWk⟩
  have hroom : (rmc N.2.2.2.2 mc1 ms1).frames + 1 ≤ room_1.frames ∧ 8 + (N.2.2.1 + 11) + (rmc N.2.2.2.2 mc1 ms1).locals ≤ room_1.locals := by
    show N.2.2.2.2 + 1 ≤ 11 ∧ 8 + (N.2.2.1 + 11) + 38 * N.2.2.2.2 ≤ 424
    omega
  have hrun : va_Run p x.1 e room_1 s m #[Value.ref b] below meth c H locs cells slots mc1 ms1 (F0 m pc la (.ref a :: st)) st (va_Qv post1 (fun w t => va_P x.2.2.1 vwCl w t.heap ∧ va_D (va_A wc H.size) w) (va_A wc H.size) (Value.ref a :: []).toArray) (va_A wc H.size) := by
    have hM := cn H.size
    rcases l1 with l1 | ⟨host, l1⟩
    · exact va_runI (As := []) (rest := st) (own := "LongestPastLaw") (n := 0) (bytes := N.2.1) (maxL := N.2.2.1) ⟨hx, hb, hml, ho, hts⟩ hM (cwI 0 hts (gd_cons l4) (by unfold mws; rw [l9]) rfl rfl (hts _ l5) (hts _ l1) (hts _ l2) l8 l6 hroom) ⟨cn_blind, hpre⟩ rfl rfl hla rfl (lv_room hst) hd ⟨h1, h2⟩
    · exact va_runIN (As := []) (rest := st) (own := "LongestPastLaw") (host := host) (n := 0) (bytes := N.2.1) (maxL := N.2.2.1) ⟨hx, hb, hml, ho, hts⟩ hM ⟨va_cnB 0 hts (gd_cons l4) (by unfold mws; rw [l9]) rfl rfl (hWk.2.1 _ l1) (hts _ l5) l6 hroom, l8, hts _ l2⟩ ⟨cn_blind, hpre⟩ rfl rfl hla rfl (lv_room hst) hd ⟨h1, h2⟩
  refine va_callv hrun hS (fun q _ h => hFc q h) hFc (fun w t H1 locs1 ht hvm hw hB hz1 hk1 hS1 => ?_)
  obtain ⟨hP1, hD1⟩ := hB
  rw [ht] at hP1
  obtain ⟨hP2, hD2⟩ := va_join hP hD _ _ hcm hrm (nd_of _ List.nodup_range) hdis hk1 hFc hP1 hD1
  exact k w H1 locs1 hw hP2 hD2 hS1
theorem law_go {L : Nat} {xs : Nat → Int32} (hx : p.tables.exec = Jvm.exec) (hb : c.code = cL_law) (hr : meth.sig.returnType = ret) (hml : c.maxLocals = 4) (ho : s.vm.findClass "LongestPastLaw" = some m.cls) (hts : ∀ w ∈ gd_tbl, w.before #[Value.ref b] s = true) (hWk : Wk x s) (hX : va_X b L xs s s.heap) (hbl : b < s.heap.size) (hlk : meth.locks = false) (hL : L ≤ 3072) : W p x.1 e room_1 s m #[Value.ref b] below meth c s.heap [] 0 0 (lw_Z below #[Value.ref b] s) (entryFrame m ([Value.ref b] : List Value).toArray 4) := by
  have hl := lv_entry [Value.ref b] (n := 4) (Nat.le_of_ble_eq_true rfl)
  rw [show lv_args 0 [Value.ref b] = [(0, .ref b)] from rfl] at hl
  rw [lg_entry_eq]
  refine va_new (D := x.2.2.1) (cl := vwCl) (tys := tysm x) (A := fun q => s.heap.size ≤ q) (H0 := s.heap) (ws := []) (own := "LongestPastLaw") (T := TX9) (ci := 8) (fs := [.null, .null, .null, .null, .null, .null, .null, .int 0, .int 0]) hx hb hts ingX9 tyX9 tyX9_ok ho (hts _ (inG (i := 51) (by decide +kernel) rfl)) (hts _ (inG (i := 52) (by decide +kernel) rfl)) (hts _ (inG (i := 38) (by decide +kernel) rfl)) hWk.1 (fun k q h => by cases h) ⟨(fun i j q r h => by cases h), (fun k q h => by cases h)⟩ va_S.rf (fun q h => h) rfl (by decide +kernel) (show 0 + 1 ≤ 600000 by omega) (show 0 + 9 ≤ 7302250 by omega) dL_law_0 (fun a H1 hP1 hD1 hS1 => ?_)
  refine lv_dup hx hb dL_law_3 rfl ?_
  refine st_call (N := mtX9_init) (wr := []) (wc := [(a, .inr (8, [.null, .null, .null, .null, .null, .null, .null, .int 0, .int 0]))]) hx hb hml ho hts hWk hP1 hD1 hS1 hl.1 ilL_9 dL_law_4 (by decide) (Nat.le_of_ble_eq_true rfl) (cn_LP (a := a)) (show 0 + 1 + 51 ≤ 600000 by omega) (show 0 + 9 + 3065 ≤ 7302250 by omega) (fun w H2 locs2 hw hP2 hD2 hS2 => ?_)
  obtain ⟨ad, rfl, rfl⟩ := hw
  refine lv_astore_n hx hb dL_law_7 rfl hl (by decide) (lv' := [(1, .ref (ad 0)), (0, .ref b)]) rfl (fun la1 hl1 => ?_)
  refine va_new (D := x.2.2.1) (cl := vwCl) (tys := tysm x) (A := fun q => s.heap.size ≤ q) (H0 := s.heap) (ws := wLP x ad) (own := "LongestPastLaw") (T := TX10) (ci := 9) (fs := [.null, .null, .int 0, .null, .null, .null, .int 0, .int 0, .null, .int 0, .null, .int 0, .int 0, .int 0, .int 0, .null, .int 0, .int 0, .null, .int 0, .int 0, .int 0, .long 0, .long 0, .int 0, .int 0]) hx hb hts ingX10 tyX10 tyX10_ok ho (hts _ (inG (i := 603) (by decide +kernel) rfl)) (hts _ (inG (i := 604) (by decide +kernel) rfl)) (hts _ (inG (i := 49) (by decide +kernel) rfl)) hWk.1 hP2 hD2 hS2 (fun q h => h) rfl (by decide +kernel) (show 0 + 1 + 51 + 1 ≤ 600000 by omega) (show 0 + 9 + 3065 + 26 ≤ 7302250 by omega) dL_law_8 (fun a2 H3 hP3 hD3 hS3 => ?_)
  refine lv_dup hx hb dL_law_11 rfl ?_
  refine st_call (N := mtX10_init) (wr := wLP x ad) (wc := [(a2, .inr (9, [.null, .null, .int 0, .null, .null, .null, .int 0, .int 0, .null, .int 0, .null, .int 0, .int 0, .int 0, .int 0, .null, .int 0, .int 0, .null, .int 0, .int 0, .int 0, .long 0, .long 0, .int 0, .int 0]))]) hx hb hml ho hts hWk hP3 hD3 hS3 hl1.1 ilL_12 dL_law_12 (by decide) (Nat.le_of_ble_eq_true rfl) (cn_Md (a := a2)) (show 0 + 1 + 51 + 1 + 9 ≤ 600000 by omega) (show 0 + 9 + 3065 + 26 + 6787 ≤ 7302250 by omega) (fun w H4 locs4 hw hP4 hD4 hS4 => ?_)
  obtain ⟨ad2, rfl, rfl⟩ := hw
  refine lv_astore_n hx hb dL_law_15 rfl hl1 (by decide) (lv' := [(2, .ref (ad2 52)), (1, .ref (ad 0)), (0, .ref b)]) rfl (fun la2 hl2 => ?_)
  refine lv_iconst (v := 0) hx hb dL_law_16 rfl ?_
  refine lv_istore_n hx hb dL_law_17 rfl hl2 (by decide) (lv' := [(3, .int 0), (2, .ref (ad2 52)), (1, .ref (ad 0)), (0, .ref b)]) rfl (fun la3 hl3 => ?_)
  have hO := pool_O (x := x) hD4
  have C : Lc (xA x ad ad2) p s m c b L xs := ⟨hO.1, hx, hb, hml, ho, hts, hWk.2.1, hWk.1, hX, hbl, hL, hO.2⟩
  exact la_loop (e := e) (below := below) (meth := meth) C hr hlk L 0 h0 a0 (by omega) (by decide) (by decide) ⟨lp_a0, md_a0, ok_a0⟩ H4 locs4 la3 (pool_P hP4) hS4 okh0 (fun v hv => by cases hv) hl3
end ST

theorem whole_start {p : Program} {e : Env} {s : State} {m : MethodId} {below : List Frame} {meth : Method} {c : Code} (l : Launch) (hflags : l.flags = flags0) {b L : Nat} {xs : Nat → Int32} (hL : L ≤ 3072) (C0 : lw_At p s m meth c b L xs) : W p l e room_1 s m #[Value.ref b] below meth c s.heap [] 0 0 (lw_Z below #[Value.ref b] s) (entryFrame m ([Value.ref b] : List Value).toArray 4) := by
  obtain ⟨hx, hb, hr, hml, ho, hts0, hX, hbl, hlk, -⟩ := C0
  obtain ⟨x0, rfl, hWk⟩ := st_wk l hts0
  exact law_go hx hb hr hml ho (fun w hw => hts0 w (List.mem_filter.mp hw).1) hWk hX hbl hlk hL
