/-! ===== building: constructors, over worlds that grow ===== -/
def rmc (k mc ms : Nat) : Room := { frames := k, cells := mc, slots := ms, locals := 38 * k }
def Wk (x : mX) (U : State) : Prop := va_K x.2.2.1 vwCl (tysm x) U ∧ nw_all U ∧ va_AO "LongestPast$Past" U
/-- a constructor's contract: from the cells w0 it comes to cells w with post w -/
def Cn (x : mX) (M : mM) (as : List Value) (w0 : va_W) (post : va_W → Prop) (mc ms : Nat) : Prop :=
  ∀ sz : Nat, Met x.1 M.1 (mws M) (rmc M.2.2.2.2 mc ms) (va_Pc as (fun U => U.heap.size = sz ∧ va_P x.2.2.1 vwCl w0 U.heap ∧ va_D (fun _ => True) w0 ∧ Wk x U)) (va_Qv post (fun w t => va_P x.2.2.1 vwCl w t.heap ∧ va_D (va_A w0 sz) w) (va_A w0 sz)) mc ms (va_A w0 sz)
def Bc (x : mX) (M : mM) (p : Program) (s : State) (m : MethodId) (args : Array Value) (meth : Method) (c : Code) : Prop :=
  p.tables.exec = Jvm.exec ∧ c.code = M.2.1 ∧ meth.sig.returnType = none ∧ c.maxLocals = M.2.2.1 ∧ s.vm.findClass M.1.cls = some m.cls ∧ (∀ w ∈ gd_tbl, w.before args s = true) ∧ meth.locks = false ∧ meth.name = M.1.name ∧ Wk x s
def Bo (x : mX) (M : mM) (w0 : va_W) (post : va_W → Prop) (mc ms : Nat) (pc : Nat) (ls : List (Nat × Value)) (st : List Value) (ws : va_W) (cells slots : Nat) : Prop :=
  ∀ (p : Program) (e : Env) (s : State) (m : MethodId) (args : Array Value) (below : List Frame) (meth : Method) (c : Code) (H : Heap) (locs : List Loc) (la : Array Slot),
    Bc x M p s m args meth c → va_P x.2.2.1 vwCl ws H → va_D (va_A w0 s.heap.size) ws → va_S (va_A w0 s.heap.size) s.heap H locs → lv_has la M.2.2.1 ls →
    W p x.1 e (rmc M.2.2.2.2 mc ms) s m args below meth c H locs cells slots (MQ below (va_Qv post (fun w t => va_P x.2.2.1 vwCl w t.heap ∧ va_D (va_A w0 s.heap.size) w) (va_A w0 s.heap.size)) args s mc ms (va_A w0 s.heap.size)) (F0 m pc la st)
section BO
variable {x : mX} {M : mM} {w0 : va_W} {post : va_W → Prop} {mc ms pc : Nat} {ls : List (Nat × Value)} {st : List Value} {ws : va_W} {cells slots : Nat}
theorem bo_enter {as : List Value} (hy : plainName M.1.cls = true) (hr : M.2.2.2.1 = none) (hlen : (lg_sl as).length ≤ M.2.2.1) (hls : lv_args 0 as = ls) (k : Bo x M w0 post mc ms 0 ls [] w0 0 0) : Cn x M as w0 post mc ms := by
  intro sz
  refine Met.ofW (cc := M.2.1) (maxL := M.2.2.1) (ret := M.2.2.2.1) hy rfl ?_
  intro p e s m args' below meth c s₁ B hml hv
  obtain ⟨rfl, hsz, hP, hD, hW⟩ := hv
  subst hsz
  have hts := atoms_spec (ws := mws M) B.pre
  have hl := lv_entry as (n := M.2.2.1) hlen
  rw [hls] at hl
  rw [lg_entry_eq]
  exact k p e s m _ below meth c s.heap [] _ ⟨B.exec, B.bytes, by rw [B.returns]; exact hr, hml, findClass_of_methodNamed B.named, fun w hw => hts w (List.mem_cons_of_mem _ hw), B.notSynchronized, (name_of_methodNamed B.named B.method).1, hW⟩ hP hD.self va_S.rf hl
theorem bo_ret (hd : decode M.2.1 pc = .ok (.return_, 1)) (h1 : cells ≤ mc) (h2 : slots ≤ ms) (hp : post ws) : Bo x M w0 post mc ms pc ls [] ws cells slots := by
  intro p e s m args below meth c H locs la hC hP hD hS hL
  refine W.widen h1 h2 ?_
  exact W.vret hC.1 hC.2.1 hC.2.2.1 (fun t ht hW => ⟨⟨ws, rfl, hp, by rw [ht]; exact hP, hD⟩, hS.F ht⟩) hS.2.2 hd hC.2.2.2.2.2.2.1
theorem bo_perm {ws' : va_W} (is : List Nat) (h1 : is.filterMap (fun i => ws[i]?) = ws') (hn : va_nd is = true) (h2 : is.map (fun i => ws[i]?) = ws'.map some) (k : Bo x M w0 post mc ms pc ls st ws' cells slots) : Bo x M w0 post mc ms pc ls st ws cells slots :=
  fun p e s m args below meth c H locs la hC hP hD hS hL => k p e s m args below meth c H locs la hC (hP.sub is h1) (hD.sub is hn h2) hS hL
theorem bo_aload {j : Fin 4} {a i : Nat} (q : Nat) (hd : decode M.2.1 pc = .ok (.aload_n j, 1)) (hj : (j : Nat) = i) (hq : ls[q]? = some (i, .ref a)) (k : Bo x M w0 post mc ms (pc + 1) ls (.ref a :: st) ws cells slots) : Bo x M w0 post mc ms pc ls st ws cells slots :=
  fun p e s m args below meth c H locs la hC hP hD hS hL => lv_aload_n hC.1 hC.2.1 hd hj (lv_at hL q hq) (k p e s m args below meth c H locs la hC hP hD hS hL)
theorem bo_iload {j : Fin 4} {z : Int32} {i : Nat} (q : Nat) (hd : decode M.2.1 pc = .ok (.iload_n j, 1)) (hj : (j : Nat) = i) (hq : ls[q]? = some (i, .int z)) (k : Bo x M w0 post mc ms (pc + 1) ls (.int z :: st) ws cells slots) : Bo x M w0 post mc ms pc ls st ws cells slots :=
  fun p e s m args below meth c H locs la hC hP hD hS hL => lv_iload_n hC.1 hC.2.1 hd hj (lv_at hL q hq) (k p e s m args below meth c H locs la hC hP hD hS hL)
theorem bo_iload4 {z : Int32} {i : Nat} (q : Nat) (hd : decode M.2.1 pc = .ok (.iload i, 2)) (hq : ls[q]? = some (i, .int z)) (k : Bo x M w0 post mc ms (pc + 2) ls (.int z :: st) ws cells slots) : Bo x M w0 post mc ms pc ls st ws cells slots :=
  fun p e s m args below meth c H locs la hC hP hD hS hL => lv_iload hC.1 hC.2.1 hd (lv_at hL q hq) (k p e s m args below meth c H locs la hC hP hD hS hL)
theorem bo_iconst {n : Int} {v : Int32} (hd : decode M.2.1 pc = .ok (.iconst n, 1)) (hv : Int32.ofInt n = v) (k : Bo x M w0 post mc ms (pc + 1) ls (.int v :: st) ws cells slots) : Bo x M w0 post mc ms pc ls st ws cells slots :=
  fun p e s m args below meth c H locs la hC hP hD hS hL => lv_iconst hC.1 hC.2.1 hd hv (k p e s m args below meth c H locs la hC hP hD hS hL)
theorem bo_bipush {n : Int} {v : Int32} (hd : decode M.2.1 pc = .ok (.bipush n, 2)) (hv : (Int8.ofInt n).toInt32 = v) (k : Bo x M w0 post mc ms (pc + 2) ls (.int v :: st) ws cells slots) : Bo x M w0 post mc ms pc ls st ws cells slots :=
  fun p e s m args below meth c H locs la hC hP hD hS hL => lv_bipush hC.1 hC.2.1 hd hv (k p e s m args below meth c H locs la hC hP hD hS hL)
theorem bo_sipush {n : Int} {v : Int32} (hd : decode M.2.1 pc = .ok (.sipush n, 3)) (hv : (Int16.ofInt n).toInt32 = v) (k : Bo x M w0 post mc ms (pc + 3) ls (.int v :: st) ws cells slots) : Bo x M w0 post mc ms pc ls st ws cells slots :=
  fun p e s m args below meth c H locs la hC hP hD hS hL => lv_sipush hC.1 hC.2.1 hd hv (k p e s m args below meth c H locs la hC hP hD hS hL)
theorem bo_lconst {n : Fin 2} {v : Int64} (hd : decode M.2.1 pc = .ok (.lconst n, 1)) (hv : Int64.ofNat (n : Nat) = v) (k : Bo x M w0 post mc ms (pc + 1) ls (.long v :: st) ws cells slots) : Bo x M w0 post mc ms pc ls st ws cells slots :=
  fun p e s m args below meth c H locs la hC hP hD hS hL => lv_lconst hC.1 hC.2.1 hd hv (k p e s m args below meth c H locs la hC hP hD hS hL)
theorem bo_ldc {idx : Nat} {v : Int32} (hd : decode M.2.1 pc = .ok (.ldc idx, 2)) (hw : Cond.constant M.1.cls idx v ∈ gd_tbl) (k : Bo x M w0 post mc ms (pc + 2) ls (.int v :: st) ws cells slots) : Bo x M w0 post mc ms pc ls st ws cells slots :=
  fun p e s m args below meth c H locs la hC hP hD hS hL => lv_ldc hC.1 hC.2.1 hC.2.2.2.2.1 (hC.2.2.2.2.2.1 _ hw) hd (k p e s m args below meth c H locs la hC hP hD hS hL)
theorem bo_dup {a : Nat} (hd : decode M.2.1 pc = .ok (.dup, 1)) (k : Bo x M w0 post mc ms (pc + 1) ls (.ref a :: .ref a :: st) ws cells slots) : Bo x M w0 post mc ms pc ls (.ref a :: st) ws cells slots :=
  fun p e s m args below meth c H locs la hC hP hD hS hL => lv_dup hC.1 hC.2.1 hd rfl (k p e s m args below meth c H locs la hC hP hD hS hL)
theorem bo_istore {j : Fin 4} {i : Nat} {z : Int32} {ls' : List (Nat × Value)} (hd : decode M.2.1 pc = .ok (.istore_n j, 1)) (hj : (j : Nat) = i) (hn : i < M.2.2.1) (hl : (i, Value.int z) :: ls.filter (fun q => !(q.1 == i) && !(q.1 + 1 == i && q.2.category == 2)) = ls') (k : Bo x M w0 post mc ms (pc + 1) ls' st ws cells slots) : Bo x M w0 post mc ms pc ls (.int z :: st) ws cells slots :=
  fun p e s m args below meth c H locs la hC hP hD hS hL => lv_istore_n hC.1 hC.2.1 hd hj hL hn hl (fun la' hL' => k p e s m args below meth c H locs la' hC hP hD hS hL')
theorem bo_iinc {i : Nat} {n : Int} {z v : Int32} {ls' : List (Nat × Value)} (q : Nat) (hd : decode M.2.1 pc = .ok (.iinc i n, 3)) (hq : ls[q]? = some (i, .int z)) (hv : z + Int32.ofInt n = v) (hn : i < M.2.2.1) (hl : (i, Value.int v) :: ls.filter (fun q => !(q.1 == i) && !(q.1 + 1 == i && q.2.category == 2)) = ls') (k : Bo x M w0 post mc ms (pc + 3) ls' st ws cells slots) : Bo x M w0 post mc ms pc ls st ws cells slots :=
  fun p e s m args below meth c H locs la hC hP hD hS hL => lv_iinc hC.1 hC.2.1 hd hL hq hv hn hl (fun la' hL' => k p e s m args below meth c H locs la' hC hP hD hS hL')
theorem bo_goto {off : Int} {tgt : Nat} (hd : decode M.2.1 pc = .ok (.goto off, 3)) (ht : (pc : Int) + off = (tgt : Int)) (k : Bo x M w0 post mc ms tgt ls st ws cells slots) : Bo x M w0 post mc ms pc ls st ws cells slots :=
  fun p e s m args below meth c H locs la hC hP hD hS hL => lv_goto hC.1 hC.2.1 hd ht (k p e s m args below meth c H locs la hC hP hD hS hL)
theorem bo_ge_f {a b : Int32} {off : Int} {tgt : Nat} (hd : decode M.2.1 pc = .ok (.if_icmp .ge off, 3)) (ht : (pc : Int) + off = (tgt : Int)) (hc : ¬ b ≤ a) (k : Bo x M w0 post mc ms (pc + 3) ls st ws cells slots) : Bo x M w0 post mc ms pc ls (.int b :: .int a :: st) ws cells slots :=
  fun p e s m args below meth c H locs la hC hP hD hS hL => lv_icmp_ge hC.1 hC.2.1 hd ht (fun q => absurd q hc) (fun _ => k p e s m args below meth c H locs la hC hP hD hS hL)
theorem bo_ge_t {a b : Int32} {off : Int} {tgt : Nat} (hd : decode M.2.1 pc = .ok (.if_icmp .ge off, 3)) (ht : (pc : Int) + off = (tgt : Int)) (hc : b ≤ a) (k : Bo x M w0 post mc ms tgt ls st ws cells slots) : Bo x M w0 post mc ms pc ls (.int b :: .int a :: st) ws cells slots :=
  fun p e s m args below meth c H locs la hC hP hD hS hL => lv_icmp_ge hC.1 hC.2.1 hd ht (fun _ => k p e s m args below meth c H locs la hC hP hD hS hL) (fun q => absurd hc q)
theorem ob_in : Cond.instanceMethod Lib.objectInit ∈ gd_tbl := inG (i := 57) (by decide +kernel) rfl
theorem ob_code : Cond.code Lib.objectInit ⟨#[0xb1]⟩ 1 none ∈ gd_tbl := inG (i := 58) (by decide +kernel) rfl
theorem bo_obj {idx a : Nat} (hl : Cond.methodLink M.1.cls idx Lib.objectInit ∈ gd_tbl) (hd : decode M.2.1 pc = .ok (.invokespecial idx, 3)) (hk : 1 ≤ M.2.2.2.2) (hst : (st.map fun v => v.category).sum ≤ 8) (k : Bo x M w0 post mc ms (pc + 3) ls st ws cells slots) : Bo x M w0 post mc ms pc ls (.ref a :: st) ws cells slots := by
  intro p e s m args below meth c H locs la hC hP hD hS hL
  refine W.objInit hC.1 hC.2.1 hC.2.2.2.2.1 (hC.2.2.2.2.2.1 _ hl) (hC.2.2.2.2.2.1 _ ob_in) (hC.2.2.2.2.2.1 _ ob_code) rfl (by rw [hC.2.2.2.1]; exact hL.1) rfl hd hk ?_ ?_
  · show 2 * 0 + (st.map fun v => v.category).sum + 12 ≤ 38 * M.2.2.2.2
    omega
  · exact W.eq (g2 := F0 m (pc + 3) la st) rfl (k p e s m args below meth c H locs la hC hP hD hS hL)
theorem bo_put {own C : String} {T : u_T} {N ci idx : Nat} {wr wq : va_W} {a : Nat} {fs : List Value} (hc : vwCl[ci]? = some (C, T, N)) (hin : ∀ w ∈ u_ws C T N, w ∈ gd_tbl) (ty0 : Nat → FieldType) (hty : ∀ k, k < N → parseFieldDescriptor (T k).2.2.1 = some (ty0 k)) (hnm : ∀ a, a < N → ∀ b, b < N → a ≠ b → (T a).2.1 ≠ (T b).2.1) (kf : Nat) (hk : kf < N) (hl : Cond.fieldLink M.1.cls idx C (T kf).2.1 (T kf).2.2.1 ∈ gd_tbl) (hC0 : (T kf).1 = C) (hown : (T kf).2.2.2 = true → M.1.name = "<init>" ∧ (T kf).1 = M.1.cls) {ty : FieldType} {v : Value} (hdt : parseFieldDescriptor (T kf).2.2.1 = some ty) (hn : narrow ty v = v) (hfit : fits ty v = true) (hlen : kf < fs.length) (hd : decode M.2.1 pc = .ok (.putfield idx, 3)) (hw : ws = wr ++ (a, .inr (ci, fs)) :: wq)
    (k : Bo x M w0 post mc ms (pc + 3) ls st (wr ++ (a, .inr (ci, fs.set kf v)) :: wq) cells slots) : Bo x M w0 post mc ms pc ls (v :: .ref a :: st) ws cells slots := by
  intro p e s m args below meth c H locs la hC hP hD hS hL
  subst hw
  have he : (wr ++ (a, .inr (ci, fs)) :: wq)[wr.length]? = some (a, .inr (ci, fs)) := by rw [List.getElem?_append_right (Nat.le_refl _), Nat.sub_self]; rfl
  have hs : (wr ++ (a, .inr (ci, fs)) :: wq).set wr.length (a, .inr (ci, fs.set kf v)) = wr ++ (a, .inr (ci, fs.set kf v)) :: wq := by
    rw [List.set_append_right _ _ (Nat.le_refl _), Nat.sub_self]; rfl
  cases hf : (T kf).2.2.2 with
  | false =>
    refine va_put hC.1 hC.2.1 hC.2.2.2.2.2.1 hin ty0 hty hnm hC.2.2.2.2.1 hC.2.2.2.2.2.2.2.2.1 hP hD hS wr.length he hc kf hk (hC.2.2.2.2.2.1 _ hl) (by rw [hC0]; exact fun _ h => h) hf hdt hn hfit hlen hd (fun H1 locs1 hP1 hD1 hS1 => ?_)
    rw [hs] at hP1 hD1
    exact k p e s m args below meth c H1 locs1 la hC hP1 hD1 hS1 hL
  | true =>
    obtain ⟨o1, o2⟩ := hown hf
    refine va_putF hC.1 hC.2.1 hC.2.2.2.2.2.1 hin ty0 hty hnm hC.2.2.2.2.1 hC.2.2.2.2.2.2.2.2.1 hP hD hS wr.length he hc kf hk (hC.2.2.2.2.2.1 _ hl) (by rw [hC0]; exact fun _ h => h) hf (by rw [hC.2.2.2.2.2.2.2.1]; exact o1) o2 hdt hn hfit hlen hd (fun H1 locs1 hP1 hD1 hS1 => ?_)
    rw [hs] at hP1 hD1
    exact k p e s m args below meth c H1 locs1 la hC hP1 hD1 hS1 hL
theorem bo_get {C : String} {T : u_T} {N ci idx a : Nat} {fs : List Value} {v : Value} (q : Nat) (he : ws[q]? = some (a, .inr (ci, fs))) (hc : vwCl[ci]? = some (C, T, N)) (hin : ∀ w ∈ u_ws C T N, w ∈ gd_tbl) (kf : Nat) (hk : kf < N) (hl : Cond.fieldLink M.1.cls idx C (T kf).2.1 (T kf).2.2.1 ∈ gd_tbl) (hC0 : (T kf).1 = C) (hv : fs[kf]? = some v) (hd : decode M.2.1 pc = .ok (.getfield idx, 3)) (k : Bo x M w0 post mc ms (pc + 3) ls (v :: st) ws cells slots) : Bo x M w0 post mc ms pc ls (.ref a :: st) ws cells slots :=
  fun p e s m args below meth c H locs la hC hP hD hS hL => va_get hC.1 hC.2.1 hC.2.2.2.2.2.1 hin hC.2.2.2.2.1 hC.2.2.2.2.2.2.2.2.1 hP q he hc kf hk (hC.2.2.2.2.2.1 _ hl) (by rw [hC0]; exact fun _ h => h) hv hd (k p e s m args below meth c H locs la hC hP hD hS hL)
theorem va_A_new {w0 : va_W} {sz : Nat} : ∀ q, sz ≤ q → va_A w0 sz q := fun _ h => Or.inr h
theorem bo_new {C : String} {T : u_T} {N ci idx : Nat} {fs : List Value} (hc : vwCl[ci]? = some (C, T, N)) (hin : ∀ w ∈ u_ws C T N, w ∈ gd_tbl) (ty0 : Nat → FieldType) (hty : ∀ k, k < N → parseFieldDescriptor (T k).2.2.1 = some (ty0 k)) (hl : Cond.classLink M.1.cls idx C ∈ gd_tbl) (hi : Cond.instantiable C N ∈ gd_tbl) (hini : Cond.initialized C ∈ gd_tbl) (hfs : ∀ j, j < N → defaultValue (ty0 j) = vp_V fs j) (h1 : cells + 1 ≤ mc) (h2 : slots + N ≤ ms) (hd : decode M.2.1 pc = .ok (.new idx, 3))
    (k : ∀ q : Nat, Bo x M w0 post mc ms (pc + 3) ls (.ref q :: st) (ws ++ [(q, .inr (ci, fs))]) (cells + 1) (slots + N)) : Bo x M w0 post mc ms pc ls st ws cells slots :=
  fun p e s m args below meth c H locs la hC hP hD hS hL => va_new hC.1 hC.2.1 hC.2.2.2.2.2.1 hin ty0 hty hC.2.2.2.2.1 (hC.2.2.2.2.2.1 _ hl) (hC.2.2.2.2.2.1 _ hi) (hC.2.2.2.2.2.1 _ hini) hC.2.2.2.2.2.2.2.2.1 hP hD hS va_A_new hc hfs h1 h2 hd (fun q H1 hP1 hD1 hS1 => k q p e s m args below meth c H1 locs la hC hP1 hD1 hS1 hL)
theorem ac_int : Cond.arrayClass .int ∈ gd_tbl := inG (i := 78) (by decide +kernel) rfl
theorem ac_bool : Cond.arrayClass .boolean ∈ gd_tbl := inG (i := 692) (by decide +kernel) rfl
theorem bo_newa {n : Int32} {N : Nat} (hd : decode M.2.1 pc = .ok (.newarray .int, 2)) (hn : ¬ n < 0) (hN : n.toNatClampNeg = N) (hb : N * 4 ≤ 536870912) (h1 : cells + 1 ≤ mc) (h2 : slots + N ≤ ms)
    (k : ∀ q : Nat, Bo x M w0 post mc ms (pc + 2) ls (.ref q :: st) (ws ++ [(q, .inl (x.2.2.2.1, N, .inl (fun _ => 0)))]) (cells + 1) (slots + N)) : Bo x M w0 post mc ms pc ls (.int n :: st) ws cells slots := by
  intro p e s m args below meth c H locs la hC hP hD hS hL
  refine va_newa (atype := .int) (ty := .int) (a0 := (N, .inl (fun _ => 0))) hC.1 hC.2.1 (hC.2.2.2.2.2.1 _ ac_int) rfl hC.2.2.2.2.2.2.2.2.1 hP hD hS va_A_new (fun cA => rfl) hn hN hb h1 h2 hd (fun q cA H1 hK1 hP1 hD1 hS1 => ?_)
  have e1 : s.vm.findClass ("[" ++ FieldType.int.toString) = some cA := (hK1.2 3 (cA, .int) rfl).2
  have e2 : s.vm.findClass ("[" ++ FieldType.int.toString) = some x.2.2.2.1 := (hC.2.2.2.2.2.2.2.2.1.2 0 (x.2.2.2.1, .int) rfl).2
  have e3 : cA = x.2.2.2.1 := Option.some.inj (e1.symm.trans e2)
  subst e3
  exact k q p e s m args below meth c H1 locs la hC hP1 hD1 hS1 hL
theorem bo_newz {n : Int32} {N : Nat} (hd : decode M.2.1 pc = .ok (.newarray .boolean, 2)) (hn : ¬ n < 0) (hN : n.toNatClampNeg = N) (hb : N * 1 ≤ 536870912) (h1 : cells + 1 ≤ mc) (h2 : slots + N ≤ ms)
    (k : ∀ q : Nat, Bo x M w0 post mc ms (pc + 2) ls (.ref q :: st) (ws ++ [(q, .inl (x.2.2.2.2.1, N, .inl (fun _ => 0)))]) (cells + 1) (slots + N)) : Bo x M w0 post mc ms pc ls (.int n :: st) ws cells slots := by
  intro p e s m args below meth c H locs la hC hP hD hS hL
  refine va_newa (atype := .boolean) (ty := .boolean) (a0 := (N, .inl (fun _ => 0))) hC.1 hC.2.1 (hC.2.2.2.2.2.1 _ ac_bool) rfl hC.2.2.2.2.2.2.2.2.1 hP hD hS va_A_new (fun cA => rfl) hn hN hb h1 h2 hd (fun q cA H1 hK1 hP1 hD1 hS1 => ?_)
  have e1 : s.vm.findClass ("[" ++ FieldType.boolean.toString) = some cA := (hK1.2 3 (cA, .boolean) rfl).2
  have e2 : s.vm.findClass ("[" ++ FieldType.boolean.toString) = some x.2.2.2.2.1 := (hC.2.2.2.2.2.2.2.2.1.2 1 (x.2.2.2.2.1, .boolean) rfl).2
  have e3 : cA = x.2.2.2.2.1 := Option.some.inj (e1.symm.trans e2)
  subst e3
  exact k q p e s m args below meth c H1 locs la hC hP1 hD1 hS1 hL
theorem bo_newq {n : Int32} {N idx : Nat} (hl : Cond.classLink M.1.cls idx "LongestPast$Past" ∈ gd_tbl) (hd : decode M.2.1 pc = .ok (.anewarray idx, 3)) (hn : ¬ n < 0) (hN : n.toNatClampNeg = N) (hb : N * 4 ≤ 536870912) (h1 : cells + 1 ≤ mc) (h2 : slots + N ≤ ms)
    (k : ∀ q : Nat, Bo x M w0 post mc ms (pc + 3) ls (.ref q :: st) (ws ++ [(q, .inl (x.2.2.2.2.2, N, .inr (.inr (.inr (.inr (fun _ => none))))))]) (cells + 1) (slots + N)) : Bo x M w0 post mc ms pc ls (.int n :: st) ws cells slots := by
  intro p e s m args below meth c H locs la hC hP hD hS hL
  refine va_newq hC.1 hC.2.1 hC.2.2.2.2.1 (hC.2.2.2.2.2.1 _ hl) hC.2.2.2.2.2.2.2.2.2.2 hC.2.2.2.2.2.2.2.2.1 hP hD hS va_A_new hn hN hb h1 h2 hd (fun q cA H1 hK1 hP1 hD1 hS1 => ?_)
  obtain ⟨_, _, _, _, _, e1⟩ := (hK1.2 3 (cA, .object "LongestPast$Past") rfl).2
  obtain ⟨_, _, _, _, _, e2⟩ := (hC.2.2.2.2.2.2.2.2.1.2 2 (x.2.2.2.2.2, .object "LongestPast$Past") rfl).2
  have e3 : cA = x.2.2.2.2.2 := Option.some.inj (e1.symm.trans e2)
  subst e3
  exact k q p e s m args below meth c H1 locs la hC hP1 hD1 hS1 hL
theorem bo_iast {a n : Nat} {f : Nat → Int32} {i z : Int32} {wr wq : va_W} (hw : ws = wr ++ (a, .inl (x.2.2.2.1, n, .inl f)) :: wq) (hin : vp_in i n) (hd : decode M.2.1 pc = .ok (.iastore, 1)) (k : Bo x M w0 post mc ms (pc + 1) ls st (wr ++ (a, .inl (x.2.2.2.1, n, .inl (upd f i.toNatClampNeg z))) :: wq) cells slots) : Bo x M w0 post mc ms pc ls (.int z :: .int i :: .ref a :: st) ws cells slots := by
  intro p e s m args below meth c H locs la hC hP hD hS hL
  subst hw
  have he : (wr ++ (a, .inl (x.2.2.2.1, n, .inl f)) :: wq)[wr.length]? = some (a, .inl (x.2.2.2.1, n, .inl f)) := by rw [List.getElem?_append_right (Nat.le_refl _), Nat.sub_self]; rfl
  refine va_iast hC.1 hC.2.1 hC.2.2.2.2.2.2.2.2.1 hP hD hS wr.length 0 he rfl hin hd (fun H1 locs1 hP1 hD1 hS1 => ?_)
  rw [List.set_append_right _ _ (Nat.le_refl _), Nat.sub_self] at hP1 hD1
  exact k p e s m args below meth c H1 locs1 la hC hP1 hD1 hS1 hL
theorem bo_aast {a n v : Nat} {f : Nat → Option Nat} {i : Int32} {wr wq : va_W} {vs : List Value} (qk : Nat) (hw : ws = wr ++ (a, .inl (x.2.2.2.2.2, n, .inr (.inr (.inr (.inr f))))) :: wq) (hv : ws[qk]? = some (v, .inr (4, vs))) (hin : vp_in i n) (hd : decode M.2.1 pc = .ok (.aastore, 1)) (k : Bo x M w0 post mc ms (pc + 1) ls st (wr ++ (a, .inl (x.2.2.2.2.2, n, .inr (.inr (.inr (.inr (va_up f i.toNatClampNeg (some v))))))) :: wq) cells slots) : Bo x M w0 post mc ms pc ls (.ref v :: .int i :: .ref a :: st) ws cells slots := by
  intro p e s m args below meth c H locs la hC hP hD hS hL
  subst hw
  have he : (wr ++ (a, .inl (x.2.2.2.2.2, n, .inr (.inr (.inr (.inr f))))) :: wq)[wr.length]? = some (a, .inl (x.2.2.2.2.2, n, .inr (.inr (.inr (.inr f))))) := by rw [List.getElem?_append_right (Nat.le_refl _), Nat.sub_self]; rfl
  refine va_astq hC.1 hC.2.1 hC.2.2.2.2.2.2.2.2.1 hP hD hS wr.length 2 qk 4 he rfl hv rfl hin hd (fun H1 locs1 hP1 hD1 hS1 => ?_)
  rw [List.set_append_right _ _ (Nat.le_refl _), Nat.sub_self] at hP1 hD1
  exact k p e s m args below meth c H1 locs1 la hC hP1 hD1 hS1 hL
theorem bo_alen {a : Nat} {g : vp_A} {v : Int32} (q : Nat) (he : ws[q]? = some (a, .inl (x.2.2.2.2.2, g))) (hv : Int32.ofNat g.1 = v) (hd : decode M.2.1 pc = .ok (.arraylength, 1)) (k : Bo x M w0 post mc ms (pc + 1) ls (.int v :: st) ws cells slots) : Bo x M w0 post mc ms pc ls (.ref a :: st) ws cells slots :=
  fun p e s m args below meth c H locs la hC hP hD hS hL => va_alen (ty := .object "LongestPast$Past") hC.1 hC.2.1 hC.2.2.2.2.2.2.2.2.1 hP q 2 he rfl hv hd (k p e s m args below meth c H locs la hC hP hD hS hL)
theorem bo_max {idx : Nat} {a b r : Int32} (hl : mMl M.1.cls idx Lib.Math.max.name Lib.Math.max.code) (hd : decode M.2.1 pc = .ok (.invokestatic idx, 3)) (hk : 1 ≤ M.2.2.2.2) (hst : (st.map fun v => v.category).sum ≤ 8) (h1 : cells ≤ mc) (h2 : slots ≤ ms) (hr : (if a < b then b else a) = r) (k : Bo x M w0 post mc ms (pc + 3) ls (.int r :: st) ws cells slots) : Bo x M w0 post mc ms pc ls (.int b :: .int a :: st) ws cells slots := by
  intro p e s m args below meth c H locs la hC hP hD hS hL
  subst hr
  obtain ⟨l1, l2, l3, l4⟩ := hl
  refine va_mmax hC.1 hC.2.1 (by rw [hC.2.2.2.1]; exact hL.1.symm) hC.2.2.2.2.1 (hC.2.2.2.2.2.1 _ l1) (hC.2.2.2.2.2.1 _ l2) (hC.2.2.2.2.2.1 _ l3) (hC.2.2.2.2.2.1 _ l4) hk ?_ h1 h2 hd (k p e s m args below meth c H locs la hC hP hD hS hL)
  show (st.map fun v => v.category).sum + 13 ≤ 38 * M.2.2.2.2
  omega
end BO
