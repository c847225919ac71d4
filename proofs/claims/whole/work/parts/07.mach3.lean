/-! ===== entry, fields, arrays, calls ===== -/
def ml (args : List mV) : List mV := args.flatMap (fun v => if isLv v = true then [v, xU] else [v])
theorem ml_sl (x : mX) : ∀ (args : List mV), (ml args).length = (lg_sl (args.map (cv x))).length ∧ ∀ (k : Nat) (v : mV), (ml args)[k]? = some v → v ≠ xU → (lg_sl (args.map (cv x)))[k]? = some (.val (cv x v))
  | [] => ⟨rfl, fun k v h => by simp [ml] at h⟩
  | a :: l => by
    obtain ⟨h1, h2⟩ := ml_sl x l
    cases ha : isLv a with
    | false =>
      have e1 : ml (a :: l) = a :: ml l := by simp [ml, ha]
      have e2 : lg_sl ((a :: l).map (cv x)) = .val (cv x a) :: lg_sl (l.map (cv x)) := by simp [lg_sl, cat_lv (x := x) ha]
      rw [e1, e2]
      refine ⟨by simp [h1], fun k v hk hv => ?_⟩
      cases k with
      | zero => simp only [List.getElem?_cons_zero] at hk ⊢; rw [Option.some.inj hk]
      | succ k => simp only [List.getElem?_cons_succ] at hk ⊢; exact h2 k v hk hv
    | true =>
      obtain ⟨z, rfl⟩ : ∃ z, a = xL z := by
        rcases a with z | z | z | z
        · simp [isLv] at ha
        · exact ⟨z, rfl⟩
        · simp [isLv] at ha
        · simp [isLv] at ha
      have e1 : ml (xL z :: l) = xL z :: xU :: ml l := by simp [ml, isLv]
      have e2 : lg_sl ((xL z :: l).map (cv x)) = .val (cv x (xL z)) :: .second :: lg_sl (l.map (cv x)) := by simp [lg_sl, cv, Value.category]
      rw [e1, e2]
      refine ⟨by simp [h1], fun k v hk hv => ?_⟩
      match k with
      | 0 => simp only [List.getElem?_cons_zero] at hk ⊢; rw [Option.some.inj hk]
      | 1 =>
        simp only [List.getElem?_cons_succ, List.getElem?_cons_zero] at hk
        exact absurd (Option.some.inj hk).symm hv
      | k + 2 => simp only [List.getElem?_cons_succ] at hk ⊢; exact h2 k v hk hv
theorem ml_ok {args : List mV} (h : ∀ v ∈ args, okv v) : ∀ v ∈ ml args, okv v := by
  intro v hv
  obtain ⟨a, ha, hm⟩ := List.mem_flatMap.mp hv
  cases hb : isLv a with
  | false =>
    rw [hb] at hm
    rw [List.mem_singleton.mp hm]
    exact h a ha
  | true =>
    rw [hb] at hm
    rcases List.mem_cons.mp hm with q | q
    · rw [q]; exact h a ha
    · rw [List.mem_singleton.mp q]; trivial
theorem ct_go {x : mX} {M : mM} {args ls : List mV} {h : mH} {Q : mV → mH → Prop} (hy : plainName M.1.cls = true) (hln : (ml args).length ≤ M.2.2.1) (hls : ml args ++ List.replicate (M.2.2.1 - (ml args).length) xU = ls) (k : Go x M 0 ls [] h Q) : Ct x M args h Q := by
  subst hls
  intro hO ha hh
  refine Met.ofW (cc := M.2.1) (maxL := M.2.2.1) (ret := M.2.2.2.1) hy rfl ?_
  intro p e s m args' below meth c s₁ B hml hv
  obtain ⟨rfl, hP, hK, hN⟩ := hv
  have hts := atoms_spec (ws := mws M) B.pre
  obtain ⟨m1, m2⟩ := ml_sl x args
  have hl := lv_entry (args.map (cv x)) (n := M.2.2.1) (by rw [← m1]; exact hln)
  rw [lg_entry_eq]
  refine k p e s m _ below meth c s.heap [] _ ⟨hO, B.exec, B.bytes, B.returns, hml, findClass_of_methodNamed B.named, fun w hw => hts w (List.mem_cons_of_mem _ hw), hN, B.notSynchronized, hK⟩ ⟨hP, va_S.rf, hh⟩ ⟨hl.1, hl.2.1, ?_, ?_, ?_⟩ (fun v hv => by cases hv)
  · simp only [List.length_append, List.length_replicate]; omega
  · intro k v hk hv
    by_cases hkl : k < (ml args).length
    · rw [List.getElem?_append_left hkl] at hk
      have := m2 k v hk hv
      rw [List.getElem?_toArray, List.getElem?_append_left (by omega)]
      exact this
    · rw [List.getElem?_append_right (by omega)] at hk
      exact absurd (List.eq_of_mem_replicate (List.mem_of_getElem? hk)) hv
  · intro v hv
    rcases List.mem_append.mp hv with q | q
    · exact ml_ok ha v q
    · rw [List.eq_of_mem_replicate q]; trivial
section MF
variable {x : mX} {M : mM} {pc : Nat} {ls st : List mV} {h : mH} {Q : mV → mH → Prop}
/-- a field's word, of the class itself or of a nest mate -/
def mFl (own : String) (idx : Nat) (ref n d : String) : Prop := Cond.fieldLink own idx ref n d ∈ gd_tbl ∨ ∃ host, Cond.fieldLinkNest own idx ref n d host ∈ nw_tbl
theorem go_get {i k c t idx N : Nat} {C : String} {T : u_T} {v : mV} (hk : kd i = c) (hl : mFl M.1.cls idx (T k).1 (T k).2.1 (T k).2.2.1) (hd : decode M.2.1 pc = .ok (.getfield idx, 3)) (hc : c < 10) (hcl : vwCl[c]? = some (C, T, N)) (hkN : k < N) (ht : (fks c)[k]? = some t) (hin : ∀ w ∈ u_ws C T N, w ∈ gd_tbl) (hv : fv x h c i k t = cv x v) (hok : okh h → okv v) (kk : Go x M (pc + 3) ls (v :: st) h Q) : Go x M pc ls (xR i :: st) h Q := by
  intro p e s m args below meth cc H locs la hC hH hL hs
  have hi := kd_lt hk (by omega)
  have he : (wl x h)[i]? = some (x.2.1 i, .inr (c, (fks c).mapIdx (fun k t => fv x h c i k t))) := by rw [wl_at hi, cell_obj hk hc]
  have kk := kk p e s m args below meth cc H locs la hC hH hL (ok_cons (hok hH.2.2) (ok_tl hs))
  rcases hl with hl | ⟨host, hl⟩
  · exact va_get (D := x.2.2.1) hC.2.1 hC.2.2.1 hC.2.2.2.2.2.2.1 hin hC.2.2.2.2.2.1 hC.2.2.2.2.2.2.2.2.2 hH.1 i he hcl k hkN (hC.2.2.2.2.2.2.1 _ hl) (fun _ q => q) (by rw [fs_get ht, hv]) hd kk
  · exact va_getN (D := x.2.2.1) hC.2.1 hC.2.2.1 hC.2.2.2.2.2.2.1 hin hC.2.2.2.2.2.1 hC.2.2.2.2.2.2.2.2.2 hH.1 i he hcl k hkN (va_Nw.use rfl (hC.2.2.2.2.2.2.2.1 _ hl)) (fun _ q => q) (by rw [fs_get ht, hv]) hd kk
theorem okh_set {h : mH} {i : Nat} {k v : Int} (hh : okh h) (hv : if isLg i k = true then inL v else inR v) : okh (hset h i k v) := by
  intro a b
  by_cases e : a = i ∧ b = k
  · obtain ⟨rfl, rfl⟩ := e
    rw [hset_eq]; exact hv
  · rw [hset_ne (by omega)]; exact hh a b
theorem go_put {i k c t idx N : Nat} {C : String} {T : u_T} {v : mV} {z : Int} {ty : FieldType} (hk : kd i = c) (hl : mFl M.1.cls idx (T k).1 (T k).2.1 (T k).2.2.1) (hd : decode M.2.1 pc = .ok (.putfield idx, 3)) (hc : c < 10) (hcl : vwCl[c]? = some (C, T, N)) (hkN : k < N) (ht : (fks c)[k]? = some t) (hin : ∀ w ∈ u_ws C T N, w ∈ gd_tbl) (ty0 : Nat → FieldType) (hty : ∀ k, k < N → parseFieldDescriptor (T k).2.2.1 = some (ty0 k)) (hnm : ∀ a, a < N → ∀ b, b < N → a ≠ b → (T a).2.1 ≠ (T b).2.1) (hfin : (T k).2.2.2 = false) (hdt : parseFieldDescriptor (T k).2.2.1 = some ty) (hn : narrow ty (cv x v) = cv x v) (hfit : fits ty (cv x v) = true)
    (hv : ∀ h' : mH, h' i (k : Int) = z → fv x h' c i k t = cv x v) (hlg : isLg i (k : Int) = true ∧ v = xL z ∨ isLg i (k : Int) = false ∧ v = xI z) (kk : Go x M (pc + 3) ls st (hset h i (k : Int) z) Q) : Go x M pc ls (v :: xR i :: st) h Q := by
  intro p e s m args below meth cc H locs la hC hH hL hs
  have hi := kd_lt hk (by omega)
  have he : (wl x h)[i]? = some (x.2.1 i, .inr (c, (fks c).mapIdx (fun k t => fv x h c i k t))) := by rw [wl_at hi, cell_obj hk hc]
  have hz : if isLg i (k : Int) = true then inL z else inR z := by
    rcases hlg with ⟨q1, q2⟩ | ⟨q1, q2⟩
    · rw [q2] at hs; rw [if_pos q1]; exact ok_hd hs
    · rw [q2] at hs; rw [if_neg (by rw [q1]; decide)]; exact ok_hd hs
  have e1 : (wl x h).set i (x.2.1 i, .inr (c, ((fks c).mapIdx (fun k t => fv x h c i k t)).set k (cv x v))) = wl x (hset h i (k : Int) z) := by
    rw [← hv (hset h i (k : Int) z) (hset_eq h i k z), fs_set ht, ← wl_set hi, cell_obj hk hc]
  have hll : k < ((fks c).mapIdx (fun k t => fv x h c i k t)).length := by rw [List.length_mapIdx]; exact (List.getElem?_eq_some_iff.mp ht).1
  rcases hl with hl | ⟨host, hl⟩
  · refine va_put (D := x.2.2.1) (A := mA x) hC.2.1 hC.2.2.1 hC.2.2.2.2.2.2.1 hin ty0 hty hnm hC.2.2.2.2.2.1 hC.2.2.2.2.2.2.2.2.2 hH.1 (wl_D hC.1) hH.2.1 i he hcl k hkN (hC.2.2.2.2.2.2.1 _ hl) (fun _ q => q) hfin hdt hn hfit hll hd (fun H1 locs1 hP hD hS => ?_)
    rw [e1] at hP
    exact kk p e s m args below meth cc H1 locs1 la hC ⟨hP, hS, okh_set hH.2.2 hz⟩ hL (ok_tl (ok_tl hs))
  · refine va_putN (D := x.2.2.1) (A := mA x) hC.2.1 hC.2.2.1 hC.2.2.2.2.2.2.1 hin ty0 hty hnm hC.2.2.2.2.2.1 hC.2.2.2.2.2.2.2.2.2 hH.1 (wl_D hC.1) hH.2.1 i he hcl k hkN (va_Nw.use rfl (hC.2.2.2.2.2.2.2.1 _ hl)) (fun _ q => q) hfin hdt hn hfit hll hd (fun H1 locs1 hP hD hS => ?_)
    rw [e1] at hP
    exact kk p e s m args below meth cc H1 locs1 la hC ⟨hP, hS, okh_set hH.2.2 hz⟩ hL (ok_tl (ok_tl hs))
theorem lg_arr {i : Nat} {k : Int} (hk : 10 ≤ kd i) (hk2 : kd i < 99) : isLg i k = false := by
  have : fks (kd i) = [] := by unfold fks; rw [List.getD_eq_getElem?_getD, List.getElem?_eq_none (by simpa [fkL] using hk)]; rfl
  unfold isLg
  rw [this]; rfl
theorem ok_arr {i : Nat} {k : Int} (hh : okh h) (hk : 10 ≤ kd i) (hk2 : kd i < 99) : inR (h i k) := by
  have := hh i k
  rw [lg_arr hk hk2] at this
  exact this
theorem go_iaload {i : Nat} {z : Int} (hk : kd i = 10) (hd : decode M.2.1 pc = .ok (.iaload, 1)) (h0 : 0 ≤ z) (h1 : z < ln i) (k : Go x M (pc + 1) ls (xI (h i z) :: st) h Q) : Go x M pc ls (xI z :: xR i :: st) h Q := by
  intro p e s m args below meth cc H locs la hC hH hL hs
  have hi := kd_lt hk (by omega)
  have hz : inR z := ok_hd hs
  refine va_iald (D := x.2.2.1) hC.2.1 hC.2.2.1 hC.2.2.2.2.2.2.2.2.2 hH.1 i 0 (by rw [wl_at hi, cell_int hk]) rfl (n_in hz h0 h1) hd ?_
  rw [n_clamp hz h0]
  simp only [Int.toNat_of_nonneg h0]
  exact k p e s m args below meth cc H locs la hC hH hL (ok_cons (ok_arr hH.2.2 (by omega) (by omega)) (ok_tl (ok_tl hs)))
theorem go_baload {i : Nat} {z : Int} (hk : kd i = 11) (hd : decode M.2.1 pc = .ok (.baload, 1)) (h0 : 0 ≤ z) (h1 : z < ln i) (k : Go x M (pc + 1) ls (xI (h i z) :: st) h Q) : Go x M pc ls (xI z :: xR i :: st) h Q := by
  intro p e s m args below meth cc H locs la hC hH hL hs
  have hi := kd_lt hk (by omega)
  have hz : inR z := ok_hd hs
  refine va_zald (D := x.2.2.1) hC.2.1 hC.2.2.1 hC.2.2.2.2.2.2.2.2.2 hH.1 i 1 (by rw [wl_at hi, cell_bool hk]) rfl (n_in hz h0 h1) hd ?_
  rw [n_clamp hz h0]
  simp only [Int.toNat_of_nonneg h0]
  exact k p e s m args below meth cc H locs la hC hH hL (ok_cons (ok_arr hH.2.2 (by omega) (by omega)) (ok_tl (ok_tl hs)))
theorem go_aaload {i : Nat} {z : Int} (hk : kd i = 12) (hd : decode M.2.1 pc = .ok (.aaload, 1)) (h0 : 0 ≤ z) (h1 : z < ln i) (k : Go x M (pc + 1) ls (xR (28 + 3 * z.toNat) :: st) h Q) : Go x M pc ls (xI z :: xR i :: st) h Q := by
  intro p e s m args below meth cc H locs la hC hH hL hs
  have hi := kd_lt hk (by omega)
  have hz : inR z := ok_hd hs
  refine va_aldq (D := x.2.2.1) hC.2.1 hC.2.2.1 hC.2.2.2.2.2.2.2.2.2 hH.1 i 2 (by rw [wl_at hi, cell_past hk]) rfl (n_in hz h0 h1) hd ?_
  rw [n_clamp hz h0]
  exact k p e s m args below meth cc H locs la hC hH hL (ok_cons trivial (ok_tl (ok_tl hs)))
theorem go_alen {i : Nat} (hk : kd i = 10 ∨ kd i = 12) (hd : decode M.2.1 pc = .ok (.arraylength, 1)) (hr : inR (ln i)) (k : Go x M (pc + 1) ls (xI (ln i) :: st) h Q) : Go x M pc ls (xR i :: st) h Q := by
  intro p e s m args below meth cc H locs la hC hH hL hs
  have kk := k p e s m args below meth cc H locs la hC hH hL (ok_cons hr (ok_tl hs))
  rcases hk with hk | hk
  · have hi := kd_lt hk (by omega)
    have he : (wl x h)[i]? = some (x.2.1 i, .inl (x.2.2.2.1, ln i, .inl (fun k => Int32.ofInt (h i (k : Int))))) := by rw [wl_at hi, cell_int hk]
    exact va_alen (D := x.2.2.1) hC.2.1 hC.2.2.1 hC.2.2.2.2.2.2.2.2.2 hH.1 i 0 he rfl (Int32.ofInt_eq_ofNat).symm hd kk
  · have hi := kd_lt hk (by omega)
    have he : (wl x h)[i]? = some (x.2.1 i, .inl (x.2.2.2.2.2, ln i, .inr (.inr (.inr (.inr (fun k => some (x.2.1 (28 + 3 * k)))))))) := by rw [wl_at hi, cell_past hk]
    exact va_alen (D := x.2.2.1) hC.2.1 hC.2.2.1 hC.2.2.2.2.2.2.2.2.2 hH.1 i 2 he rfl (Int32.ofInt_eq_ofNat).symm hd kk
theorem upd_hset {h : mH} {i : Nat} {z v : Int} (h0 : 0 ≤ z) : upd (fun k => Int32.ofInt (h i (k : Int))) z.toNat (Int32.ofInt v) = fun j : Nat => Int32.ofInt (hset h i z v i (j : Int)) := by
  funext j
  by_cases e : j = z.toNat
  · subst e; rw [Int.toNat_of_nonneg h0, hset_eq]; simp [upd]
  · rw [hset_nk (by omega)]; simp [upd, e]
theorem go_iastore {i : Nat} {z v : Int} (hk : kd i = 10) (hd : decode M.2.1 pc = .ok (.iastore, 1)) (h0 : 0 ≤ z) (h1 : z < ln i) (k : Go x M (pc + 1) ls st (hset h i z v) Q) : Go x M pc ls (xI v :: xI z :: xR i :: st) h Q := by
  intro p e s m args below meth cc H locs la hC hH hL hs
  have hi := kd_lt hk (by omega)
  have hz : inR z := ok_hd (ok_tl hs)
  refine va_iast (D := x.2.2.1) (A := mA x) hC.2.1 hC.2.2.1 hC.2.2.2.2.2.2.2.2.2 hH.1 (wl_D hC.1) hH.2.1 i 0 (by rw [wl_at hi, cell_int hk]) rfl (n_in hz h0 h1) hd (fun H1 locs1 hP hD hS => ?_)
  rw [n_clamp hz h0, upd_hset h0] at hP
  have e1 := cell_int (x := x) (h := hset h i z v) hk
  rw [← e1, wl_set hi] at hP
  exact k p e s m args below meth cc H1 locs1 la hC ⟨hP, hS, okh_set hH.2.2 (by rw [lg_arr (by omega) (by omega)]; exact ok_hd hs)⟩ hL (ok_tl (ok_tl (ok_tl hs)))
theorem go_bastore {i : Nat} {z v : Int} (hk : kd i = 11) (hd : decode M.2.1 pc = .ok (.bastore, 1)) (h0 : 0 ≤ z) (h1 : z < ln i) (hv : v = 0 ∨ v = 1) (k : Go x M (pc + 1) ls st (hset h i z v) Q) : Go x M pc ls (xI v :: xI z :: xR i :: st) h Q := by
  intro p e s m args below meth cc H locs la hC hH hL hs
  have hi := kd_lt hk (by omega)
  have hz : inR z := ok_hd (ok_tl hs)
  refine va_zast (D := x.2.2.1) (A := mA x) hC.2.1 hC.2.2.1 hC.2.2.2.2.2.2.2.2.2 hH.1 (wl_D hC.1) hH.2.1 i 1 (by rw [wl_at hi, cell_bool hk]) rfl (n_in hz h0 h1) hd (fun H1 locs1 hP hD hS => ?_)
  have e0 : vp_nar .boolean (Int32.ofInt v) = Int32.ofInt v := by rcases hv with rfl | rfl <;> rfl
  rw [n_clamp hz h0, e0, upd_hset h0] at hP
  have e1 := cell_bool (x := x) (h := hset h i z v) hk
  rw [← e1, wl_set hi] at hP
  exact k p e s m args below meth cc H1 locs1 la hC ⟨hP, hS, okh_set hH.2.2 (by rw [lg_arr (by omega) (by omega)]; exact ok_hd hs)⟩ hL (ok_tl (ok_tl (ok_tl hs)))
end MF
/-! ===== calls ===== -/
section MC
variable {x : mX} {M : mM} {pc : Nat} {ls st : List mV} {h : mH} {Q : mV → mH → Prop}
theorem wd_blind {as : List Value} : FrameBlind (va_Pc as (Wd x h)) := fun a U g mk q => by
  obtain ⟨q0, qP, qK, qN⟩ := q
  exact ⟨q0, qP, va_K.moved (u := U) (U := U.calling g mk a) (Vm.Alike.refl U.vm) qK, nw_all.same (s := U) rfl qN⟩
theorem go_after {p : Program} {e : Env} {s : State} {m : MethodId} {args : Array Value} {below : List Frame} {meth : Method} {c : Code} {H : Heap} {locs : List Loc} {R : Room} {Qe : State → Prop} {la : Array Slot} {st0 rest : List Value} {a : Array Value} {Qk : mV → mH → Prop}
    (hr : va_Run p x.1 e R s m args below meth c H locs 0 0 0 0 (F0 m pc la st0) rest (mQ x Qk a) (mA x)) (hS : va_S (mA x) s.heap H locs)
    (kk : ∀ (r : mV) (h' : mH) (H1 : Heap) (locs1 : List Loc), Qk r h' → okv r → Hs x h' s H1 locs1 → W p x.1 e R s m args below meth c H1 locs1 0 0 Qe (F0 m (pc + 3) la ((rv x r).toList ++ rest))) : W p x.1 e R s m args below meth c H locs 0 0 Qe (F0 m pc la st0) := by
  intro T hT X
  obtain ⟨v, st₀, t, T', L, h0, X', hL, e1, e2, ⟨⟨r, h', hv, hq, hok, hh, hP⟩, hz, hk⟩, st⟩ := hr T hT X
  have hv : v = rv x r := by injection hv
  subst hv
  rw [h0] at hz hk
  obtain ⟨t2, a1, b1⟩ := kk r h' T'.heap (locs ++ L) hq hok ⟨by rw [e1]; exact hP, ⟨Nat.le_trans hS.1 (by rw [e1]; exact hz), fun q h1 h2 => by rw [e1, hk q (Nat.lt_of_lt_of_le h1 hS.1) h2]; exact hS.2.1 q h1 h2, fun q hq => by
      rcases List.mem_append.mp hq with h | h
      · exact hS.2.2 q h
      · exact hL q h⟩, hh⟩ T' rfl X'
  exact ⟨t2, st t2 a1, b1⟩
def mDl (N : mM) (n : Nat) : Prop := N.1.cls ≠ "java/lang/invoke/MethodHandle" ∧ N.1.cls ≠ "java/lang/invoke/VarHandle" ∧ (parseMethodDescriptor N.1.desc).map (fun d => d.parameters.length) = some n
/-- a callee, and how it is linked -/
def mCl (N : mM) (n : Nat) : Prop := Cond.code N.1 N.2.1 N.2.2.1 N.2.2.2.1 ∈ gd_tbl ∧ Cond.initialized N.1.cls ∈ gd_tbl ∧ mDl N n ∧ N.2.2.1 ≤ 19
def mVl (own : String) (idx : Nat) (N : mM) (n : Nat) : Prop := Cond.methodLink own idx N.1 ∈ gd_tbl ∧ (Cond.instanceMethod N.1 ∈ gd_tbl ∧ Cond.selects N.1.cls N.1 N.1 ∈ gd_tbl) ∧ mCl N n
def mSl (own : String) (idx : Nat) (N : mM) (n : Nat) : Prop := (Cond.methodLink own idx N.1 ∈ gd_tbl ∨ ∃ host, Cond.methodLinkNest own idx N.1 host ∈ nw_tbl) ∧ Cond.static N.1 ∈ gd_tbl ∧ mCl N n
def mUl (own : String) (idx : Nat) (y0 : MethodName) (N : mM) (n : Nat) : Prop := Cond.methodLink own idx y0 ∈ gd_tbl ∧ Cond.sameMethod y0.cls y0.cls y0.name y0.desc ∈ gd_tbl ∧ Cond.declares y0 ∈ nw_tbl ∧ Cond.selects N.1.cls y0 N.1 ∈ gd_tbl ∧ Cond.instanceMethod N.1 ∈ gd_tbl ∧ (y0.cls ≠ "java/lang/invoke/MethodHandle" ∧ y0.cls ≠ "java/lang/invoke/VarHandle" ∧ (parseMethodDescriptor y0.desc).map (fun d => d.parameters.length) = some n) ∧ mCl N n
def catm (st : List mV) : Nat := (st.map (fun v => if isLv v = true then 2 else 1)).sum
theorem catm_eq (x : mX) (st : List mV) : ((st.map (cv x)).map fun v => v.category).sum = catm st := by
  unfold catm
  rw [List.map_map]
  congr 1
  apply List.map_congr_left
  intro v _
  rcases v with z | z | z | z <;> rfl
theorem rm_ok {N M : mM} (hR : N.2.2.2.2 < M.2.2.2.2) (hm : N.2.2.1 ≤ 19) : (rmk N.2.2.2.2).frames + 1 ≤ (rmk M.2.2.2.2).frames ∧ 8 + (N.2.2.1 + 11) + (rmk N.2.2.2.2).locals ≤ (rmk M.2.2.2.2).locals := by
  show N.2.2.2.2 + 1 ≤ M.2.2.2.2 ∧ 8 + (N.2.2.1 + 11) + 38 * N.2.2.2.2 ≤ 38 * M.2.2.2.2
  omega
theorem wd_pre {s : State} {H : Heap} {locs : List Loc} {as : List mV} (hK : va_K x.2.2.1 vwCl (tysm x) s) (hN : nw_all s) (hH : Hs x h s H locs) : ∀ U : State, U.heap = H → s.WarmedH U.vm → va_Pc (as.map (cv x)) (Wd x h) ((as.map (cv x)).toArray) U :=
  fun U hU hW => ⟨rfl, by rw [hU]; exact hH.1, va_K.moved hW.alike hK, hN.warm hW⟩
theorem run_V {N : mM} {i c n idx : Nat} {as : List mV} {q : vw_C} {Qk : mV → mH → Prop} (hk : kd i = c) (hl : mVl M.1.cls idx N n) (hd : decode M.2.1 pc = .ok (.invokevirtual idx, 3)) (hc : c < 10) (hcl : vwCl[c]? = some q) (hq : q.1 = N.1.cls) (hn : as.length = n) (hR : N.2.2.2.2 < M.2.2.2.2) (hst : catm st ≤ 8) (ct : Ct x N (xR i :: as) h Qk)
    {p : Program} {e : Env} {s : State} {m : MethodId} {args : Array Value} {below : List Frame} {meth : Method} {cc : Code} {H : Heap} {locs : List Loc} {la : Array Slot} (hC : Cc x M p s m args meth cc) (hH : Hs x h s H locs) (hL : Lo x la M.2.2.1 ls) (ha : ∀ v ∈ as, okv v) :
    va_Run p x.1 e (rmk M.2.2.2.2) s m args below meth cc H locs 0 0 0 0 (F0 m pc la ((as.reverse ++ xR i :: st).map (cv x))) (st.map (cv x)) (mQ x Qk (Value.ref (x.2.1 i) :: as.map (cv x)).toArray) (mA x) := by
  have hM := ct hC.1 (ok_cons trivial ha) hH.2.2
  obtain ⟨l1, ⟨l2, l3⟩, l4, l5, l6, l7⟩ := hl
  have hi := kd_lt hk (by omega)
  have he : (wl x h)[i]? = some (x.2.1 i, .inr (c, (fks c).mapIdx (fun k t => fv x h c i k t))) := by rw [wl_at hi, cell_obj hk hc]
  have hts := hC.2.2.2.2.2.2.1
  have hrec := va_recv (D := x.2.2.1) hC.2.2.2.2.2.2.2.2.2 hH.1 hcl he
  rw [hq] at hrec
  exact va_runV (As := as.map (cv x)) (rest := st.map (cv x)) (b := x.2.1 i) (own := M.1.cls) (C := N.1.cls) (n := n) ⟨hC.2.1, hC.2.2.1, hC.2.2.2.2.1, hC.2.2.2.2.2.1, hts⟩ hM
    ⟨callB_of n hts (gd_cons l4) rfl rfl rfl (hts _ l5) (hts _ l1) l6 (rm_ok hR l7), hts _ l2, hts _ l3⟩
    ⟨wd_blind, hrec, wd_pre (as := xR i :: as) hC.2.2.2.2.2.2.2.2.2 hC.2.2.2.2.2.2.2.1 hH⟩ rfl (by rw [List.length_map]; exact hn) hL.1 (by rw [List.map_append, List.map_reverse]; rfl) (lv_room (by rw [catm_eq]; exact hst)) hd ⟨Nat.le_refl _, Nat.le_refl _⟩
theorem run_U {N : mM} {i c n idx : Nat} {as : List mV} {q : vw_C} {y0 : MethodName} {Qk : mV → mH → Prop} (hk : kd i = c) (hl : mUl M.1.cls idx y0 N n) (hd : decode M.2.1 pc = .ok (.invokevirtual idx, 3)) (hc : c < 10) (hcl : vwCl[c]? = some q) (hq : q.1 = N.1.cls) (hn : as.length = n) (hR : N.2.2.2.2 < M.2.2.2.2) (hst : catm st ≤ 8) (ct : Ct x N (xR i :: as) h Qk)
    {p : Program} {e : Env} {s : State} {m : MethodId} {args : Array Value} {below : List Frame} {meth : Method} {cc : Code} {H : Heap} {locs : List Loc} {la : Array Slot} (hC : Cc x M p s m args meth cc) (hH : Hs x h s H locs) (hL : Lo x la M.2.2.1 ls) (ha : ∀ v ∈ as, okv v) :
    va_Run p x.1 e (rmk M.2.2.2.2) s m args below meth cc H locs 0 0 0 0 (F0 m pc la ((as.reverse ++ xR i :: st).map (cv x))) (st.map (cv x)) (mQ x Qk (Value.ref (x.2.1 i) :: as.map (cv x)).toArray) (mA x) := by
  have hM := ct hC.1 (ok_cons trivial ha) hH.2.2
  obtain ⟨l1, l2, l3, l8, l9, l10, l4, l5, l6, l7⟩ := hl
  have hi := kd_lt hk (by omega)
  have he : (wl x h)[i]? = some (x.2.1 i, .inr (c, (fks c).mapIdx (fun k t => fv x h c i k t))) := by rw [wl_at hi, cell_obj hk hc]
  have hts := hC.2.2.2.2.2.2.1
  have hrec := va_recv (D := x.2.2.1) hC.2.2.2.2.2.2.2.2.2 hH.1 hcl he
  rw [hq] at hrec
  have hRm := rm_ok hR l7
  refine va_runU (As := as.map (cv x)) (rest := st.map (cv x)) (b := x.2.1 i) (own := M.1.cls) (C := N.1.cls) (owner := y0.cls) (n := n) (bytes := N.2.1) (maxL := N.2.2.1) (ret := N.2.2.2.1) ⟨hC.2.1, hC.2.2.1, hC.2.2.2.2.1, hC.2.2.2.2.2.1, hts⟩ hM
    ⟨⟨rfl, rfl, hRm.1, hRm.2, pay_in hts (gd_cons l4), List.mem_cons_self⟩, hts _ l4, hts _ l5, ⟨l10.1, l10.2.1⟩, fun sig hs => ?_, hts _ l1, hts _ l2, va_Decl.abs (hC.2.2.2.2.2.2.2.1 _ l3), hts _ l8, hts _ l9⟩
    ⟨wd_blind, hrec, wd_pre (as := xR i :: as) hC.2.2.2.2.2.2.2.2.2 hC.2.2.2.2.2.2.2.1 hH⟩ rfl (by rw [List.length_map]; exact hn) hL.1 (by rw [List.map_append, List.map_reverse]; rfl) (lv_room (by rw [catm_eq]; exact hst)) hd ⟨Nat.le_refl _, Nat.le_refl _⟩
  have h2 := l10.2.2
  rw [hs] at h2
  exact (Option.some.inj h2).symm
theorem run_S {N : mM} {n idx : Nat} {as : List mV} {Qk : mV → mH → Prop} (hl : mSl M.1.cls idx N n) (hd : decode M.2.1 pc = .ok (.invokestatic idx, 3)) (hn : as.length = n) (hR : N.2.2.2.2 < M.2.2.2.2) (hst : catm st ≤ 8) (ct : Ct x N as h Qk)
    {p : Program} {e : Env} {s : State} {m : MethodId} {args : Array Value} {below : List Frame} {meth : Method} {cc : Code} {H : Heap} {locs : List Loc} {la : Array Slot} (hC : Cc x M p s m args meth cc) (hH : Hs x h s H locs) (hL : Lo x la M.2.2.1 ls) (ha : ∀ v ∈ as, okv v) :
    va_Run p x.1 e (rmk M.2.2.2.2) s m args below meth cc H locs 0 0 0 0 (F0 m pc la ((as.reverse ++ st).map (cv x))) (st.map (cv x)) (mQ x Qk (as.map (cv x)).toArray) (mA x) := by
  have hM := ct hC.1 ha hH.2.2
  obtain ⟨l1, l2, l4, l5, l6, l7⟩ := hl
  have hts := hC.2.2.2.2.2.2.1
  rcases l1 with l1 | ⟨host, l1⟩
  · exact va_runS (As := as.map (cv x)) (rest := st.map (cv x)) (own := M.1.cls) (n := n) ⟨hC.2.1, hC.2.2.1, hC.2.2.2.2.1, hC.2.2.2.2.2.1, hts⟩ hM
      ⟨callB_of n hts (gd_cons l4) rfl rfl rfl (hts _ l5) (hts _ l1) l6 (rm_ok hR l7), hts _ l2⟩
      ⟨wd_blind, wd_pre hC.2.2.2.2.2.2.2.2.2 hC.2.2.2.2.2.2.2.1 hH⟩ rfl (by rw [List.length_map]; exact hn) hL.1 (by rw [List.map_append, List.map_reverse]) (lv_room (by rw [catm_eq]; exact hst)) hd ⟨Nat.le_refl _, Nat.le_refl _⟩
  · exact va_runSN (As := as.map (cv x)) (rest := st.map (cv x)) (own := M.1.cls) (host := host) (n := n) ⟨hC.2.1, hC.2.2.1, hC.2.2.2.2.1, hC.2.2.2.2.2.1, hts⟩ hM
      ⟨va_cnB n hts (gd_cons l4) rfl rfl rfl (hC.2.2.2.2.2.2.2.1 _ l1) (hts _ l5) l6 (rm_ok hR l7), hts _ l2, trivial⟩
      ⟨wd_blind, wd_pre hC.2.2.2.2.2.2.2.2.2 hC.2.2.2.2.2.2.2.1 hH⟩ rfl (by rw [List.length_map]; exact hn) hL.1 (by rw [List.map_append, List.map_reverse]) (lv_room (by rw [catm_eq]; exact hst)) hd ⟨Nat.le_refl _, Nat.le_refl _⟩
theorem go_cV0I {N : mM} {i c idx : Nat} {q : vw_C} (hk : kd i = c) (hl : mVl M.1.cls idx N 0) (hd : decode M.2.1 pc = .ok (.invokevirtual idx, 3)) (hc : c < 10) (hcl : vwCl[c]? = some q) (hq : q.1 = N.1.cls) (hR : N.2.2.2.2 < M.2.2.2.2) (hst : catm st ≤ 8) (ct : CtI x N (xR i :: []) h (fun z h' => Go x M (pc + 3) ls (xI z :: st) h' Q)) : Go x M pc ls (xR i :: st) h Q := by
  intro p e s m args below meth cc H locs la hC hH hL hs
  refine go_after (run_V (as := []) hk hl hd hc hcl hq rfl hR hst ct hC hH hL (fun v hv => by cases hv)) hH.2.1 (fun r h' H1 locs1 hq hok hHs => ?_)
  obtain ⟨z, rfl, hg⟩ := hq
  exact hg p e s m args below meth cc H1 locs1 la hC hHs hL (ok_cons hok (ok_tl hs))
theorem go_cV0V {N : mM} {i c idx : Nat} {q : vw_C} (hk : kd i = c) (hl : mVl M.1.cls idx N 0) (hd : decode M.2.1 pc = .ok (.invokevirtual idx, 3)) (hc : c < 10) (hcl : vwCl[c]? = some q) (hq : q.1 = N.1.cls) (hR : N.2.2.2.2 < M.2.2.2.2) (hst : catm st ≤ 8) (ct : CtV x N (xR i :: []) h (fun h' => Go x M (pc + 3) ls (st) h' Q)) : Go x M pc ls (xR i :: st) h Q := by
  intro p e s m args below meth cc H locs la hC hH hL hs
  refine go_after (run_V (as := []) hk hl hd hc hcl hq rfl hR hst ct hC hH hL (fun v hv => by cases hv)) hH.2.1 (fun r h' H1 locs1 hq hok hHs => ?_)
  obtain ⟨rfl, hg⟩ := hq
  exact hg p e s m args below meth cc H1 locs1 la hC hHs hL (ok_tl hs)
theorem go_cV1I {N : mM} {i c idx : Nat} {a1 : mV} {q : vw_C} (hk : kd i = c) (hl : mVl M.1.cls idx N 1) (hd : decode M.2.1 pc = .ok (.invokevirtual idx, 3)) (hc : c < 10) (hcl : vwCl[c]? = some q) (hq : q.1 = N.1.cls) (hR : N.2.2.2.2 < M.2.2.2.2) (hst : catm st ≤ 8) (ct : CtI x N (xR i :: [a1]) h (fun z h' => Go x M (pc + 3) ls (xI z :: st) h' Q)) : Go x M pc ls (a1 :: xR i :: st) h Q := by
  intro p e s m args below meth cc H locs la hC hH hL hs
  refine go_after (run_V (as := [a1]) hk hl hd hc hcl hq rfl hR hst ct hC hH hL (ok_cons (ok_hd hs) (fun v hv => by cases hv))) hH.2.1 (fun r h' H1 locs1 hq hok hHs => ?_)
  obtain ⟨z, rfl, hg⟩ := hq
  exact hg p e s m args below meth cc H1 locs1 la hC hHs hL (ok_cons hok (ok_tl (ok_tl hs)))
theorem go_cU1I {N : mM} {i c idx : Nat} {a1 : mV} {q : vw_C} {y0 : MethodName} (hk : kd i = c) (hl : mUl M.1.cls idx y0 N 1) (hd : decode M.2.1 pc = .ok (.invokevirtual idx, 3)) (hc : c < 10) (hcl : vwCl[c]? = some q) (hq : q.1 = N.1.cls) (hR : N.2.2.2.2 < M.2.2.2.2) (hst : catm st ≤ 8) (ct : CtI x N (xR i :: [a1]) h (fun z h' => Go x M (pc + 3) ls (xI z :: st) h' Q)) : Go x M pc ls (a1 :: xR i :: st) h Q := by
  intro p e s m args below meth cc H locs la hC hH hL hs
  refine go_after (run_U (as := [a1]) hk hl hd hc hcl hq rfl hR hst ct hC hH hL (ok_cons (ok_hd hs) (fun v hv => by cases hv))) hH.2.1 (fun r h' H1 locs1 hq hok hHs => ?_)
  obtain ⟨z, rfl, hg⟩ := hq
  exact hg p e s m args below meth cc H1 locs1 la hC hHs hL (ok_cons hok (ok_tl (ok_tl hs)))
theorem go_cS1I {N : mM} {idx : Nat} {a1 : mV} (hl : mSl M.1.cls idx N 1) (hd : decode M.2.1 pc = .ok (.invokestatic idx, 3)) (hR : N.2.2.2.2 < M.2.2.2.2) (hst : catm st ≤ 8) (ct : CtI x N [a1] h (fun z h' => Go x M (pc + 3) ls (xI z :: st) h' Q)) : Go x M pc ls (a1 :: st) h Q := by
  intro p e s m args below meth cc H locs la hC hH hL hs
  refine go_after (run_S (as := [a1]) hl hd rfl hR hst ct hC hH hL (ok_cons (ok_hd hs) (fun v hv => by cases hv))) hH.2.1 (fun r h' H1 locs1 hq hok hHs => ?_)
  obtain ⟨z, rfl, hg⟩ := hq
  exact hg p e s m args below meth cc H1 locs1 la hC hHs hL (ok_cons hok (ok_tl hs))
theorem go_cV1V {N : mM} {i c idx : Nat} {a1 : mV} {q : vw_C} (hk : kd i = c) (hl : mVl M.1.cls idx N 1) (hd : decode M.2.1 pc = .ok (.invokevirtual idx, 3)) (hc : c < 10) (hcl : vwCl[c]? = some q) (hq : q.1 = N.1.cls) (hR : N.2.2.2.2 < M.2.2.2.2) (hst : catm st ≤ 8) (ct : CtV x N (xR i :: [a1]) h (fun h' => Go x M (pc + 3) ls (st) h' Q)) : Go x M pc ls (a1 :: xR i :: st) h Q := by
  intro p e s m args below meth cc H locs la hC hH hL hs
  refine go_after (run_V (as := [a1]) hk hl hd hc hcl hq rfl hR hst ct hC hH hL (ok_cons (ok_hd hs) (fun v hv => by cases hv))) hH.2.1 (fun r h' H1 locs1 hq hok hHs => ?_)
  obtain ⟨rfl, hg⟩ := hq
  exact hg p e s m args below meth cc H1 locs1 la hC hHs hL (ok_tl (ok_tl hs))
theorem go_cU1V {N : mM} {i c idx : Nat} {a1 : mV} {q : vw_C} {y0 : MethodName} (hk : kd i = c) (hl : mUl M.1.cls idx y0 N 1) (hd : decode M.2.1 pc = .ok (.invokevirtual idx, 3)) (hc : c < 10) (hcl : vwCl[c]? = some q) (hq : q.1 = N.1.cls) (hR : N.2.2.2.2 < M.2.2.2.2) (hst : catm st ≤ 8) (ct : CtV x N (xR i :: [a1]) h (fun h' => Go x M (pc + 3) ls (st) h' Q)) : Go x M pc ls (a1 :: xR i :: st) h Q := by
  intro p e s m args below meth cc H locs la hC hH hL hs
  refine go_after (run_U (as := [a1]) hk hl hd hc hcl hq rfl hR hst ct hC hH hL (ok_cons (ok_hd hs) (fun v hv => by cases hv))) hH.2.1 (fun r h' H1 locs1 hq hok hHs => ?_)
  obtain ⟨rfl, hg⟩ := hq
  exact hg p e s m args below meth cc H1 locs1 la hC hHs hL (ok_tl (ok_tl hs))
theorem go_cS1V {N : mM} {idx : Nat} {a1 : mV} (hl : mSl M.1.cls idx N 1) (hd : decode M.2.1 pc = .ok (.invokestatic idx, 3)) (hR : N.2.2.2.2 < M.2.2.2.2) (hst : catm st ≤ 8) (ct : CtV x N [a1] h (fun h' => Go x M (pc + 3) ls (st) h' Q)) : Go x M pc ls (a1 :: st) h Q := by
  intro p e s m args below meth cc H locs la hC hH hL hs
  refine go_after (run_S (as := [a1]) hl hd rfl hR hst ct hC hH hL (ok_cons (ok_hd hs) (fun v hv => by cases hv))) hH.2.1 (fun r h' H1 locs1 hq hok hHs => ?_)
  obtain ⟨rfl, hg⟩ := hq
  exact hg p e s m args below meth cc H1 locs1 la hC hHs hL (ok_tl hs)
theorem go_cV2I {N : mM} {i c idx : Nat} {a1 a2 : mV} {q : vw_C} (hk : kd i = c) (hl : mVl M.1.cls idx N 2) (hd : decode M.2.1 pc = .ok (.invokevirtual idx, 3)) (hc : c < 10) (hcl : vwCl[c]? = some q) (hq : q.1 = N.1.cls) (hR : N.2.2.2.2 < M.2.2.2.2) (hst : catm st ≤ 8) (ct : CtI x N (xR i :: [a1, a2]) h (fun z h' => Go x M (pc + 3) ls (xI z :: st) h' Q)) : Go x M pc ls (a2 :: a1 :: xR i :: st) h Q := by
  intro p e s m args below meth cc H locs la hC hH hL hs
  refine go_after (run_V (as := [a1, a2]) hk hl hd hc hcl hq rfl hR hst ct hC hH hL (ok_cons (ok_hd (ok_tl hs)) (ok_cons (ok_hd hs) (fun v hv => by cases hv)))) hH.2.1 (fun r h' H1 locs1 hq hok hHs => ?_)
  obtain ⟨z, rfl, hg⟩ := hq
  exact hg p e s m args below meth cc H1 locs1 la hC hHs hL (ok_cons hok (ok_tl (ok_tl (ok_tl hs))))
theorem go_cS2I {N : mM} {idx : Nat} {a1 a2 : mV} (hl : mSl M.1.cls idx N 2) (hd : decode M.2.1 pc = .ok (.invokestatic idx, 3)) (hR : N.2.2.2.2 < M.2.2.2.2) (hst : catm st ≤ 8) (ct : CtI x N [a1, a2] h (fun z h' => Go x M (pc + 3) ls (xI z :: st) h' Q)) : Go x M pc ls (a2 :: a1 :: st) h Q := by
  intro p e s m args below meth cc H locs la hC hH hL hs
  refine go_after (run_S (as := [a1, a2]) hl hd rfl hR hst ct hC hH hL (ok_cons (ok_hd (ok_tl hs)) (ok_cons (ok_hd hs) (fun v hv => by cases hv)))) hH.2.1 (fun r h' H1 locs1 hq hok hHs => ?_)
  obtain ⟨z, rfl, hg⟩ := hq
  exact hg p e s m args below meth cc H1 locs1 la hC hHs hL (ok_cons hok (ok_tl (ok_tl hs)))
theorem go_cV2L {N : mM} {i c idx : Nat} {a1 a2 : mV} {q : vw_C} (hk : kd i = c) (hl : mVl M.1.cls idx N 2) (hd : decode M.2.1 pc = .ok (.invokevirtual idx, 3)) (hc : c < 10) (hcl : vwCl[c]? = some q) (hq : q.1 = N.1.cls) (hR : N.2.2.2.2 < M.2.2.2.2) (hst : catm st ≤ 8) (ct : CtL x N (xR i :: [a1, a2]) h (fun z h' => Go x M (pc + 3) ls (xL z :: st) h' Q)) : Go x M pc ls (a2 :: a1 :: xR i :: st) h Q := by
  intro p e s m args below meth cc H locs la hC hH hL hs
  refine go_after (run_V (as := [a1, a2]) hk hl hd hc hcl hq rfl hR hst ct hC hH hL (ok_cons (ok_hd (ok_tl hs)) (ok_cons (ok_hd hs) (fun v hv => by cases hv)))) hH.2.1 (fun r h' H1 locs1 hq hok hHs => ?_)
  obtain ⟨z, rfl, hg⟩ := hq
  exact hg p e s m args below meth cc H1 locs1 la hC hHs hL (ok_cons hok (ok_tl (ok_tl (ok_tl hs))))
theorem go_cS2L {N : mM} {idx : Nat} {a1 a2 : mV} (hl : mSl M.1.cls idx N 2) (hd : decode M.2.1 pc = .ok (.invokestatic idx, 3)) (hR : N.2.2.2.2 < M.2.2.2.2) (hst : catm st ≤ 8) (ct : CtL x N [a1, a2] h (fun z h' => Go x M (pc + 3) ls (xL z :: st) h' Q)) : Go x M pc ls (a2 :: a1 :: st) h Q := by
  intro p e s m args below meth cc H locs la hC hH hL hs
  refine go_after (run_S (as := [a1, a2]) hl hd rfl hR hst ct hC hH hL (ok_cons (ok_hd (ok_tl hs)) (ok_cons (ok_hd hs) (fun v hv => by cases hv)))) hH.2.1 (fun r h' H1 locs1 hq hok hHs => ?_)
  obtain ⟨z, rfl, hg⟩ := hq
  exact hg p e s m args below meth cc H1 locs1 la hC hHs hL (ok_cons hok (ok_tl (ok_tl hs)))
theorem go_cV2V {N : mM} {i c idx : Nat} {a1 a2 : mV} {q : vw_C} (hk : kd i = c) (hl : mVl M.1.cls idx N 2) (hd : decode M.2.1 pc = .ok (.invokevirtual idx, 3)) (hc : c < 10) (hcl : vwCl[c]? = some q) (hq : q.1 = N.1.cls) (hR : N.2.2.2.2 < M.2.2.2.2) (hst : catm st ≤ 8) (ct : CtV x N (xR i :: [a1, a2]) h (fun h' => Go x M (pc + 3) ls (st) h' Q)) : Go x M pc ls (a2 :: a1 :: xR i :: st) h Q := by
  intro p e s m args below meth cc H locs la hC hH hL hs
  refine go_after (run_V (as := [a1, a2]) hk hl hd hc hcl hq rfl hR hst ct hC hH hL (ok_cons (ok_hd (ok_tl hs)) (ok_cons (ok_hd hs) (fun v hv => by cases hv)))) hH.2.1 (fun r h' H1 locs1 hq hok hHs => ?_)
  obtain ⟨rfl, hg⟩ := hq
  exact hg p e s m args below meth cc H1 locs1 la hC hHs hL (ok_tl (ok_tl (ok_tl hs)))
theorem go_cS2V {N : mM} {idx : Nat} {a1 a2 : mV} (hl : mSl M.1.cls idx N 2) (hd : decode M.2.1 pc = .ok (.invokestatic idx, 3)) (hR : N.2.2.2.2 < M.2.2.2.2) (hst : catm st ≤ 8) (ct : CtV x N [a1, a2] h (fun h' => Go x M (pc + 3) ls (st) h' Q)) : Go x M pc ls (a2 :: a1 :: st) h Q := by
  intro p e s m args below meth cc H locs la hC hH hL hs
  refine go_after (run_S (as := [a1, a2]) hl hd rfl hR hst ct hC hH hL (ok_cons (ok_hd (ok_tl hs)) (ok_cons (ok_hd hs) (fun v hv => by cases hv)))) hH.2.1 (fun r h' H1 locs1 hq hok hHs => ?_)
  obtain ⟨rfl, hg⟩ := hq
  exact hg p e s m args below meth cc H1 locs1 la hC hHs hL (ok_tl (ok_tl hs))
theorem go_cV3I {N : mM} {i c idx : Nat} {a1 a2 a3 : mV} {q : vw_C} (hk : kd i = c) (hl : mVl M.1.cls idx N 3) (hd : decode M.2.1 pc = .ok (.invokevirtual idx, 3)) (hc : c < 10) (hcl : vwCl[c]? = some q) (hq : q.1 = N.1.cls) (hR : N.2.2.2.2 < M.2.2.2.2) (hst : catm st ≤ 8) (ct : CtI x N (xR i :: [a1, a2, a3]) h (fun z h' => Go x M (pc + 3) ls (xI z :: st) h' Q)) : Go x M pc ls (a3 :: a2 :: a1 :: xR i :: st) h Q := by
  intro p e s m args below meth cc H locs la hC hH hL hs
  refine go_after (run_V (as := [a1, a2, a3]) hk hl hd hc hcl hq rfl hR hst ct hC hH hL (ok_cons (ok_hd (ok_tl (ok_tl hs))) (ok_cons (ok_hd (ok_tl hs)) (ok_cons (ok_hd hs) (fun v hv => by cases hv))))) hH.2.1 (fun r h' H1 locs1 hq hok hHs => ?_)
  obtain ⟨z, rfl, hg⟩ := hq
  exact hg p e s m args below meth cc H1 locs1 la hC hHs hL (ok_cons hok (ok_tl (ok_tl (ok_tl (ok_tl hs)))))
theorem go_cU3I {N : mM} {i c idx : Nat} {a1 a2 a3 : mV} {q : vw_C} {y0 : MethodName} (hk : kd i = c) (hl : mUl M.1.cls idx y0 N 3) (hd : decode M.2.1 pc = .ok (.invokevirtual idx, 3)) (hc : c < 10) (hcl : vwCl[c]? = some q) (hq : q.1 = N.1.cls) (hR : N.2.2.2.2 < M.2.2.2.2) (hst : catm st ≤ 8) (ct : CtI x N (xR i :: [a1, a2, a3]) h (fun z h' => Go x M (pc + 3) ls (xI z :: st) h' Q)) : Go x M pc ls (a3 :: a2 :: a1 :: xR i :: st) h Q := by
  intro p e s m args below meth cc H locs la hC hH hL hs
  refine go_after (run_U (as := [a1, a2, a3]) hk hl hd hc hcl hq rfl hR hst ct hC hH hL (ok_cons (ok_hd (ok_tl (ok_tl hs))) (ok_cons (ok_hd (ok_tl hs)) (ok_cons (ok_hd hs) (fun v hv => by cases hv))))) hH.2.1 (fun r h' H1 locs1 hq hok hHs => ?_)
  obtain ⟨z, rfl, hg⟩ := hq
  exact hg p e s m args below meth cc H1 locs1 la hC hHs hL (ok_cons hok (ok_tl (ok_tl (ok_tl (ok_tl hs)))))
theorem go_cS3I {N : mM} {idx : Nat} {a1 a2 a3 : mV} (hl : mSl M.1.cls idx N 3) (hd : decode M.2.1 pc = .ok (.invokestatic idx, 3)) (hR : N.2.2.2.2 < M.2.2.2.2) (hst : catm st ≤ 8) (ct : CtI x N [a1, a2, a3] h (fun z h' => Go x M (pc + 3) ls (xI z :: st) h' Q)) : Go x M pc ls (a3 :: a2 :: a1 :: st) h Q := by
  intro p e s m args below meth cc H locs la hC hH hL hs
  refine go_after (run_S (as := [a1, a2, a3]) hl hd rfl hR hst ct hC hH hL (ok_cons (ok_hd (ok_tl (ok_tl hs))) (ok_cons (ok_hd (ok_tl hs)) (ok_cons (ok_hd hs) (fun v hv => by cases hv))))) hH.2.1 (fun r h' H1 locs1 hq hok hHs => ?_)
  obtain ⟨z, rfl, hg⟩ := hq
  exact hg p e s m args below meth cc H1 locs1 la hC hHs hL (ok_cons hok (ok_tl (ok_tl (ok_tl hs))))
theorem go_cV3V {N : mM} {i c idx : Nat} {a1 a2 a3 : mV} {q : vw_C} (hk : kd i = c) (hl : mVl M.1.cls idx N 3) (hd : decode M.2.1 pc = .ok (.invokevirtual idx, 3)) (hc : c < 10) (hcl : vwCl[c]? = some q) (hq : q.1 = N.1.cls) (hR : N.2.2.2.2 < M.2.2.2.2) (hst : catm st ≤ 8) (ct : CtV x N (xR i :: [a1, a2, a3]) h (fun h' => Go x M (pc + 3) ls (st) h' Q)) : Go x M pc ls (a3 :: a2 :: a1 :: xR i :: st) h Q := by
  intro p e s m args below meth cc H locs la hC hH hL hs
  refine go_after (run_V (as := [a1, a2, a3]) hk hl hd hc hcl hq rfl hR hst ct hC hH hL (ok_cons (ok_hd (ok_tl (ok_tl hs))) (ok_cons (ok_hd (ok_tl hs)) (ok_cons (ok_hd hs) (fun v hv => by cases hv))))) hH.2.1 (fun r h' H1 locs1 hq hok hHs => ?_)
  obtain ⟨rfl, hg⟩ := hq
  exact hg p e s m args below meth cc H1 locs1 la hC hHs hL (ok_tl (ok_tl (ok_tl (ok_tl hs))))
theorem go_cU3V {N : mM} {i c idx : Nat} {a1 a2 a3 : mV} {q : vw_C} {y0 : MethodName} (hk : kd i = c) (hl : mUl M.1.cls idx y0 N 3) (hd : decode M.2.1 pc = .ok (.invokevirtual idx, 3)) (hc : c < 10) (hcl : vwCl[c]? = some q) (hq : q.1 = N.1.cls) (hR : N.2.2.2.2 < M.2.2.2.2) (hst : catm st ≤ 8) (ct : CtV x N (xR i :: [a1, a2, a3]) h (fun h' => Go x M (pc + 3) ls (st) h' Q)) : Go x M pc ls (a3 :: a2 :: a1 :: xR i :: st) h Q := by
  intro p e s m args below meth cc H locs la hC hH hL hs
  refine go_after (run_U (as := [a1, a2, a3]) hk hl hd hc hcl hq rfl hR hst ct hC hH hL (ok_cons (ok_hd (ok_tl (ok_tl hs))) (ok_cons (ok_hd (ok_tl hs)) (ok_cons (ok_hd hs) (fun v hv => by cases hv))))) hH.2.1 (fun r h' H1 locs1 hq hok hHs => ?_)
  obtain ⟨rfl, hg⟩ := hq
  exact hg p e s m args below meth cc H1 locs1 la hC hHs hL (ok_tl (ok_tl (ok_tl (ok_tl hs))))
theorem go_cS3V {N : mM} {idx : Nat} {a1 a2 a3 : mV} (hl : mSl M.1.cls idx N 3) (hd : decode M.2.1 pc = .ok (.invokestatic idx, 3)) (hR : N.2.2.2.2 < M.2.2.2.2) (hst : catm st ≤ 8) (ct : CtV x N [a1, a2, a3] h (fun h' => Go x M (pc + 3) ls (st) h' Q)) : Go x M pc ls (a3 :: a2 :: a1 :: st) h Q := by
  intro p e s m args below meth cc H locs la hC hH hL hs
  refine go_after (run_S (as := [a1, a2, a3]) hl hd rfl hR hst ct hC hH hL (ok_cons (ok_hd (ok_tl (ok_tl hs))) (ok_cons (ok_hd (ok_tl hs)) (ok_cons (ok_hd hs) (fun v hv => by cases hv))))) hH.2.1 (fun r h' H1 locs1 hq hok hHs => ?_)
  obtain ⟨rfl, hg⟩ := hq
  exact hg p e s m args below meth cc H1 locs1 la hC hHs hL (ok_tl (ok_tl (ok_tl hs)))
theorem go_cV4I {N : mM} {i c idx : Nat} {a1 a2 a3 a4 : mV} {q : vw_C} (hk : kd i = c) (hl : mVl M.1.cls idx N 4) (hd : decode M.2.1 pc = .ok (.invokevirtual idx, 3)) (hc : c < 10) (hcl : vwCl[c]? = some q) (hq : q.1 = N.1.cls) (hR : N.2.2.2.2 < M.2.2.2.2) (hst : catm st ≤ 8) (ct : CtI x N (xR i :: [a1, a2, a3, a4]) h (fun z h' => Go x M (pc + 3) ls (xI z :: st) h' Q)) : Go x M pc ls (a4 :: a3 :: a2 :: a1 :: xR i :: st) h Q := by
  intro p e s m args below meth cc H locs la hC hH hL hs
  refine go_after (run_V (as := [a1, a2, a3, a4]) hk hl hd hc hcl hq rfl hR hst ct hC hH hL (ok_cons (ok_hd (ok_tl (ok_tl (ok_tl hs)))) (ok_cons (ok_hd (ok_tl (ok_tl hs))) (ok_cons (ok_hd (ok_tl hs)) (ok_cons (ok_hd hs) (fun v hv => by cases hv)))))) hH.2.1 (fun r h' H1 locs1 hq hok hHs => ?_)
  obtain ⟨z, rfl, hg⟩ := hq
  exact hg p e s m args below meth cc H1 locs1 la hC hHs hL (ok_cons hok (ok_tl (ok_tl (ok_tl (ok_tl (ok_tl hs))))))
theorem go_cS4I {N : mM} {idx : Nat} {a1 a2 a3 a4 : mV} (hl : mSl M.1.cls idx N 4) (hd : decode M.2.1 pc = .ok (.invokestatic idx, 3)) (hR : N.2.2.2.2 < M.2.2.2.2) (hst : catm st ≤ 8) (ct : CtI x N [a1, a2, a3, a4] h (fun z h' => Go x M (pc + 3) ls (xI z :: st) h' Q)) : Go x M pc ls (a4 :: a3 :: a2 :: a1 :: st) h Q := by
  intro p e s m args below meth cc H locs la hC hH hL hs
  refine go_after (run_S (as := [a1, a2, a3, a4]) hl hd rfl hR hst ct hC hH hL (ok_cons (ok_hd (ok_tl (ok_tl (ok_tl hs)))) (ok_cons (ok_hd (ok_tl (ok_tl hs))) (ok_cons (ok_hd (ok_tl hs)) (ok_cons (ok_hd hs) (fun v hv => by cases hv)))))) hH.2.1 (fun r h' H1 locs1 hq hok hHs => ?_)
  obtain ⟨z, rfl, hg⟩ := hq
  exact hg p e s m args below meth cc H1 locs1 la hC hHs hL (ok_cons hok (ok_tl (ok_tl (ok_tl (ok_tl hs)))))
theorem go_cV4V {N : mM} {i c idx : Nat} {a1 a2 a3 a4 : mV} {q : vw_C} (hk : kd i = c) (hl : mVl M.1.cls idx N 4) (hd : decode M.2.1 pc = .ok (.invokevirtual idx, 3)) (hc : c < 10) (hcl : vwCl[c]? = some q) (hq : q.1 = N.1.cls) (hR : N.2.2.2.2 < M.2.2.2.2) (hst : catm st ≤ 8) (ct : CtV x N (xR i :: [a1, a2, a3, a4]) h (fun h' => Go x M (pc + 3) ls (st) h' Q)) : Go x M pc ls (a4 :: a3 :: a2 :: a1 :: xR i :: st) h Q := by
  intro p e s m args below meth cc H locs la hC hH hL hs
  refine go_after (run_V (as := [a1, a2, a3, a4]) hk hl hd hc hcl hq rfl hR hst ct hC hH hL (ok_cons (ok_hd (ok_tl (ok_tl (ok_tl hs)))) (ok_cons (ok_hd (ok_tl (ok_tl hs))) (ok_cons (ok_hd (ok_tl hs)) (ok_cons (ok_hd hs) (fun v hv => by cases hv)))))) hH.2.1 (fun r h' H1 locs1 hq hok hHs => ?_)
  obtain ⟨rfl, hg⟩ := hq
  exact hg p e s m args below meth cc H1 locs1 la hC hHs hL (ok_tl (ok_tl (ok_tl (ok_tl (ok_tl hs)))))
theorem go_cS4V {N : mM} {idx : Nat} {a1 a2 a3 a4 : mV} (hl : mSl M.1.cls idx N 4) (hd : decode M.2.1 pc = .ok (.invokestatic idx, 3)) (hR : N.2.2.2.2 < M.2.2.2.2) (hst : catm st ≤ 8) (ct : CtV x N [a1, a2, a3, a4] h (fun h' => Go x M (pc + 3) ls (st) h' Q)) : Go x M pc ls (a4 :: a3 :: a2 :: a1 :: st) h Q := by
  intro p e s m args below meth cc H locs la hC hH hL hs
  refine go_after (run_S (as := [a1, a2, a3, a4]) hl hd rfl hR hst ct hC hH hL (ok_cons (ok_hd (ok_tl (ok_tl (ok_tl hs)))) (ok_cons (ok_hd (ok_tl (ok_tl hs))) (ok_cons (ok_hd (ok_tl hs)) (ok_cons (ok_hd hs) (fun v hv => by cases hv)))))) hH.2.1 (fun r h' H1 locs1 hq hok hHs => ?_)
  obtain ⟨rfl, hg⟩ := hq
  exact hg p e s m args below meth cc H1 locs1 la hC hHs hL (ok_tl (ok_tl (ok_tl (ok_tl hs))))
theorem go_cV5I {N : mM} {i c idx : Nat} {a1 a2 a3 a4 a5 : mV} {q : vw_C} (hk : kd i = c) (hl : mVl M.1.cls idx N 5) (hd : decode M.2.1 pc = .ok (.invokevirtual idx, 3)) (hc : c < 10) (hcl : vwCl[c]? = some q) (hq : q.1 = N.1.cls) (hR : N.2.2.2.2 < M.2.2.2.2) (hst : catm st ≤ 8) (ct : CtI x N (xR i :: [a1, a2, a3, a4, a5]) h (fun z h' => Go x M (pc + 3) ls (xI z :: st) h' Q)) : Go x M pc ls (a5 :: a4 :: a3 :: a2 :: a1 :: xR i :: st) h Q := by
  intro p e s m args below meth cc H locs la hC hH hL hs
  refine go_after (run_V (as := [a1, a2, a3, a4, a5]) hk hl hd hc hcl hq rfl hR hst ct hC hH hL (ok_cons (ok_hd (ok_tl (ok_tl (ok_tl (ok_tl hs))))) (ok_cons (ok_hd (ok_tl (ok_tl (ok_tl hs)))) (ok_cons (ok_hd (ok_tl (ok_tl hs))) (ok_cons (ok_hd (ok_tl hs)) (ok_cons (ok_hd hs) (fun v hv => by cases hv))))))) hH.2.1 (fun r h' H1 locs1 hq hok hHs => ?_)
  obtain ⟨z, rfl, hg⟩ := hq
  exact hg p e s m args below meth cc H1 locs1 la hC hHs hL (ok_cons hok (ok_tl (ok_tl (ok_tl (ok_tl (ok_tl (ok_tl hs)))))))
theorem go_cS5I {N : mM} {idx : Nat} {a1 a2 a3 a4 a5 : mV} (hl : mSl M.1.cls idx N 5) (hd : decode M.2.1 pc = .ok (.invokestatic idx, 3)) (hR : N.2.2.2.2 < M.2.2.2.2) (hst : catm st ≤ 8) (ct : CtI x N [a1, a2, a3, a4, a5] h (fun z h' => Go x M (pc + 3) ls (xI z :: st) h' Q)) : Go x M pc ls (a5 :: a4 :: a3 :: a2 :: a1 :: st) h Q := by
  intro p e s m args below meth cc H locs la hC hH hL hs
  refine go_after (run_S (as := [a1, a2, a3, a4, a5]) hl hd rfl hR hst ct hC hH hL (ok_cons (ok_hd (ok_tl (ok_tl (ok_tl (ok_tl hs))))) (ok_cons (ok_hd (ok_tl (ok_tl (ok_tl hs)))) (ok_cons (ok_hd (ok_tl (ok_tl hs))) (ok_cons (ok_hd (ok_tl hs)) (ok_cons (ok_hd hs) (fun v hv => by cases hv))))))) hH.2.1 (fun r h' H1 locs1 hq hok hHs => ?_)
  obtain ⟨z, rfl, hg⟩ := hq
  exact hg p e s m args below meth cc H1 locs1 la hC hHs hL (ok_cons hok (ok_tl (ok_tl (ok_tl (ok_tl (ok_tl hs))))))
theorem go_cV5V {N : mM} {i c idx : Nat} {a1 a2 a3 a4 a5 : mV} {q : vw_C} (hk : kd i = c) (hl : mVl M.1.cls idx N 5) (hd : decode M.2.1 pc = .ok (.invokevirtual idx, 3)) (hc : c < 10) (hcl : vwCl[c]? = some q) (hq : q.1 = N.1.cls) (hR : N.2.2.2.2 < M.2.2.2.2) (hst : catm st ≤ 8) (ct : CtV x N (xR i :: [a1, a2, a3, a4, a5]) h (fun h' => Go x M (pc + 3) ls (st) h' Q)) : Go x M pc ls (a5 :: a4 :: a3 :: a2 :: a1 :: xR i :: st) h Q := by
  intro p e s m args below meth cc H locs la hC hH hL hs
  refine go_after (run_V (as := [a1, a2, a3, a4, a5]) hk hl hd hc hcl hq rfl hR hst ct hC hH hL (ok_cons (ok_hd (ok_tl (ok_tl (ok_tl (ok_tl hs))))) (ok_cons (ok_hd (ok_tl (ok_tl (ok_tl hs)))) (ok_cons (ok_hd (ok_tl (ok_tl hs))) (ok_cons (ok_hd (ok_tl hs)) (ok_cons (ok_hd hs) (fun v hv => by cases hv))))))) hH.2.1 (fun r h' H1 locs1 hq hok hHs => ?_)
  obtain ⟨rfl, hg⟩ := hq
  exact hg p e s m args below meth cc H1 locs1 la hC hHs hL (ok_tl (ok_tl (ok_tl (ok_tl (ok_tl (ok_tl hs))))))
theorem go_cS5V {N : mM} {idx : Nat} {a1 a2 a3 a4 a5 : mV} (hl : mSl M.1.cls idx N 5) (hd : decode M.2.1 pc = .ok (.invokestatic idx, 3)) (hR : N.2.2.2.2 < M.2.2.2.2) (hst : catm st ≤ 8) (ct : CtV x N [a1, a2, a3, a4, a5] h (fun h' => Go x M (pc + 3) ls (st) h' Q)) : Go x M pc ls (a5 :: a4 :: a3 :: a2 :: a1 :: st) h Q := by
  intro p e s m args below meth cc H locs la hC hH hL hs
  refine go_after (run_S (as := [a1, a2, a3, a4, a5]) hl hd rfl hR hst ct hC hH hL (ok_cons (ok_hd (ok_tl (ok_tl (ok_tl (ok_tl hs))))) (ok_cons (ok_hd (ok_tl (ok_tl (ok_tl hs)))) (ok_cons (ok_hd (ok_tl (ok_tl hs))) (ok_cons (ok_hd (ok_tl hs)) (ok_cons (ok_hd hs) (fun v hv => by cases hv))))))) hH.2.1 (fun r h' H1 locs1 hq hok hHs => ?_)
  obtain ⟨rfl, hg⟩ := hq
  exact hg p e s m args below meth cc H1 locs1 la hC hHs hL (ok_tl (ok_tl (ok_tl (ok_tl (ok_tl hs)))))
def mMl (own : String) (idx : Nat) (y : MethodName) (cd : ByteArray) : Prop := Cond.methodLink own idx y ∈ gd_tbl ∧ Cond.static y ∈ gd_tbl ∧ Cond.initialized "java/lang/Math" ∈ gd_tbl ∧ Cond.code y cd 2 (some .int) ∈ gd_tbl
theorem go_max {idx : Nat} {a b : Int} (hl : mMl M.1.cls idx Lib.Math.max.name Lib.Math.max.code) (hd : decode M.2.1 pc = .ok (.invokestatic idx, 3)) (hR : 0 < M.2.2.2.2) (hst : catm st ≤ 8) (k : Go x M (pc + 3) ls (xI (if a < b then b else a) :: st) h Q) : Go x M pc ls (xI b :: xI a :: st) h Q := by
  intro p e s m args below meth cc H locs la hC hH hL hs
  obtain ⟨l1, l2, l3, l4⟩ := hl
  have hts := hC.2.2.2.2.2.2.1
  have hb : inR b := ok_hd hs
  have ha : inR a := ok_hd (ok_tl hs)
  refine va_mmax hC.2.1 hC.2.2.1 (by rw [hC.2.2.2.2.1, hL.1]) hC.2.2.2.2.2.1 (hts _ l1) (hts _ l2) (hts _ l3) (hts _ l4) (by show 1 ≤ M.2.2.2.2; omega) (by rw [catm_eq]; show _ ≤ 38 * M.2.2.2.2; omega) (Nat.zero_le _) (Nat.zero_le _) hd ?_
  have e1 : (if Int32.ofInt a < Int32.ofInt b then Int32.ofInt b else Int32.ofInt a) = Int32.ofInt (if a < b then b else a) := by
    by_cases q : a < b
    · rw [if_pos ((n_lt ha hb).mpr q), if_pos q]
    · rw [if_neg (fun w => q ((n_lt ha hb).mp w)), if_neg q]
  rw [e1]
  exact k p e s m args below meth cc H locs la hC hH hL (ok_cons (by show inR _; by_cases q : a < b <;> simp [q, ha, hb]) (ok_tl (ok_tl hs)))
theorem go_min {idx : Nat} {a b : Int} (hl : mMl M.1.cls idx Lib.Math.min.name Lib.Math.min.code) (hd : decode M.2.1 pc = .ok (.invokestatic idx, 3)) (hR : 0 < M.2.2.2.2) (hst : catm st ≤ 8) (k : Go x M (pc + 3) ls (xI (if b < a then b else a) :: st) h Q) : Go x M pc ls (xI b :: xI a :: st) h Q := by
  intro p e s m args below meth cc H locs la hC hH hL hs
  obtain ⟨l1, l2, l3, l4⟩ := hl
  have hts := hC.2.2.2.2.2.2.1
  have hb : inR b := ok_hd hs
  have ha : inR a := ok_hd (ok_tl hs)
  refine va_mmin hC.2.1 hC.2.2.1 (by rw [hC.2.2.2.2.1, hL.1]) hC.2.2.2.2.2.1 (hts _ l1) (hts _ l2) (hts _ l3) (hts _ l4) (by show 1 ≤ M.2.2.2.2; omega) (by rw [catm_eq]; show _ ≤ 38 * M.2.2.2.2; omega) (Nat.zero_le _) (Nat.zero_le _) hd ?_
  have e1 : (if Int32.ofInt b < Int32.ofInt a then Int32.ofInt b else Int32.ofInt a) = Int32.ofInt (if b < a then b else a) := by
    by_cases q : b < a
    · rw [if_pos ((n_lt hb ha).mpr q), if_pos q]
    · rw [if_neg (fun w => q ((n_lt hb ha).mp w)), if_neg q]
  rw [e1]
  exact k p e s m args below meth cc H locs la hC hH hL (ok_cons (by show inR _; by_cases q : b < a <;> simp [q, ha, hb]) (ok_tl (ok_tl hs)))
end MC
