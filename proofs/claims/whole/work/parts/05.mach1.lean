/-! ===== a small machine over mathematical integers: values, the static graph of objects, the world as a function ===== -/
abbrev mV : Type := Int ⊕ (Int ⊕ (Nat ⊕ Unit))
abbrev xI (z : Int) : mV := Sum.inl z
abbrev xL (z : Int) : mV := Sum.inr (Sum.inl z)
abbrev xR (i : Nat) : mV := Sum.inr (Sum.inr (Sum.inl i))
abbrev xU : mV := Sum.inr (Sum.inr (Sum.inr ()))
abbrev mH : Type := Nat → Int → Int
/-- the launch, the address of each of the 62 objects, the tables' numbers, the classes of the three kinds of array -/
abbrev mX : Type := Launch × (Nat → Nat) × va_G × ClassId × ClassId × ClassId
/-- name, code, locals, return type, height in the call graph -/
abbrev mM : Type := MethodName × ByteArray × Nat × Option FieldType × Nat
def inR (z : Int) : Prop := -2147483648 ≤ z ∧ z < 2147483648
def inL (z : Int) : Prop := -9223372036854775808 ≤ z ∧ z < 9223372036854775808
def okv (v : mV) : Prop := match v with
  | .inl z => inR z
  | .inr (.inl z) => inL z
  | _ => True
def cv (x : mX) (v : mV) : Value := match v with
  | .inl z => .int (Int32.ofInt z)
  | .inr (.inl z) => .long (Int64.ofInt z)
  | .inr (.inr (.inl i)) => .ref (x.2.1 i)
  | _ => .null
def rv (x : mX) (v : mV) : Option Value := match v with
  | .inr (.inr (.inr _)) => none
  | w => some (cv x w)
/-- the kinds of the 62 objects: 0..9 the classes of vwCl, 10 int[], 11 boolean[], 12 Past[] -/
def kdL : List Nat := [8, 6, 10, 3, 4, 6, 10, 0, 10, 5, 6, 10, 7, 10, 3, 4, 6, 10, 0, 10, 5, 6, 10, 7, 10, 2, 1, 12, 4, 6, 10, 4, 6, 10, 4, 6, 10, 4, 6, 10, 4, 6, 10, 4, 6, 10, 4, 6, 10, 4, 6, 10, 9, 10, 10, 10, 11, 10, 10, 10, 10, 10]
def kd (i : Nat) : Nat := kdL.getD i 99
def lnL : List Nat := [0, 0, 200, 0, 0, 0, 60, 0, 340, 0, 0, 722, 0, 5, 0, 0, 0, 60, 0, 340, 0, 0, 722, 0, 5, 0, 0, 6, 0, 0, 60, 0, 0, 60, 0, 0, 60, 0, 0, 60, 0, 0, 60, 0, 0, 60, 0, 0, 60, 0, 0, 60, 0, 65, 390, 130, 2, 200, 60, 340, 2800, 2800]
def ln (i : Nat) : Nat := lnL.getD i 0
/-- the kinds of the fields of each class: 0 int, 1 long, 2 reference, 3 boolean -/
def fkL : List (List Nat) := [[2, 0], [2, 0, 0], [0, 0, 1, 1], [2, 2, 2, 2, 0, 0, 0], [0, 0, 0, 0, 2], [2, 0, 0, 0, 0, 3, 0, 0], [2, 0], [2, 0, 0, 0], [2, 2, 2, 2, 2, 2, 2, 3, 3], [2, 2, 0, 2, 2, 2, 0, 0, 2, 0, 2, 0, 0, 0, 0, 2, 0, 0, 2, 0, 0, 0, 1, 1, 0, 0]]
def fks (c : Nat) : List Nat := fkL.getD c []
/-- where a reference field points -/
def tgc (c i k : Nat) : Nat := if c = 8 then [1, 3, 14, 25, 26, 46, 49].getD k 0 else if c = 3 then i + [1, 4, 6, 9].getD k 0 else if c = 9 then [53, 54, 0, 55, 56, 57, 0, 0, 58, 0, 59, 0, 0, 0, 0, 60, 0, 0, 61].getD k 0 else i + 1
def isLg (i : Nat) (k : Int) : Bool := (fks (kd i))[k.toNat]? == some 1
def okh (h : mH) : Prop := ∀ (i : Nat) (k : Int), if isLg i k = true then inL (h i k) else inR (h i k)
def fv (x : mX) (h : mH) (c i k t : Nat) : Value := if t = 1 then .long (Int64.ofInt (h i (k : Int))) else if t = 2 then .ref (x.2.1 (tgc c i k)) else .int (Int32.ofInt (h i (k : Int)))
def cell (x : mX) (h : mH) (i : Nat) : va_E := if kd i = 10 then .inl (x.2.2.2.1, ln i, .inl (fun k => Int32.ofInt (h i (k : Int)))) else if kd i = 11 then .inl (x.2.2.2.2.1, ln i, .inl (fun k => Int32.ofInt (h i (k : Int)))) else if kd i = 12 then .inl (x.2.2.2.2.2, ln i, .inr (.inr (.inr (.inr (fun k => some (x.2.1 (28 + 3 * k))))))) else .inr (kd i, (fks (kd i)).mapIdx (fun k t => fv x h (kd i) i k t))
def wl (x : mX) (h : mH) : va_W := (List.range 62).map (fun i => (x.2.1 i, cell x h i))
def hset (h : mH) (i : Nat) (k v : Int) : mH := fun a b => if a = i ∧ b = k then v else h a b
theorem hset_eq (h : mH) (i : Nat) (k v : Int) : hset h i k v i k = v := by simp [hset]
theorem hset_ni {h : mH} {i : Nat} {k v : Int} {a : Nat} (e : a ≠ i) : hset h i k v a = h a := by
  funext b; simp [hset, e]
theorem hset_ne {h : mH} {i : Nat} {k v : Int} {a : Nat} {b : Int} (e : a ≠ i ∨ b ≠ k) : hset h i k v a b = h a b := by
  unfold hset
  rw [if_neg]
  omega
theorem hset_nk {h : mH} {i : Nat} {k v : Int} {a : Nat} {b : Int} (e : b ≠ k) : hset h i k v a b = h a b := hset_ne (Or.inr e)
theorem kd_lt {i c : Nat} (h : kd i = c) (hc : c < 99) : i < 62 := by
  rcases Nat.lt_or_ge i 62 with q | q
  · exact q
  · have : kd i = 99 := by unfold kd; rw [List.getD_eq_getElem?_getD, List.getElem?_eq_none (by simpa [kdL] using q)]; rfl
    omega
theorem wl_at {x : mX} {h : mH} {i : Nat} (hi : i < 62) : (wl x h)[i]? = some (x.2.1 i, cell x h i) := by
  unfold wl
  rw [List.getElem?_map, List.getElem?_range hi]; rfl
theorem wl_len (x : mX) (h : mH) : (wl x h).length = 62 := by simp [wl]
theorem cell_congr {x : mX} {h h' : mH} {i : Nat} (e : h i = h' i) : cell x h i = cell x h' i := by
  unfold cell fv
  rw [e]
theorem wl_set {x : mX} {h : mH} {i : Nat} {k v : Int} (hi : i < 62) : (wl x h).set i (x.2.1 i, cell x (hset h i k v) i) = wl x (hset h i k v) := by
  apply List.ext_getElem?
  intro j
  by_cases hj : j < 62
  · rw [wl_at hj]
    by_cases e : i = j
    · subst e
      rw [List.getElem?_set_self (by rw [wl_len]; exact hi)]
    · rw [List.getElem?_set_ne e, wl_at hj]
      rw [cell_congr (h := h) (h' := hset h i k v) (hset_ni (Ne.symm e)).symm]
  · rw [List.getElem?_eq_none (by rw [List.length_set, wl_len]; omega), List.getElem?_eq_none (by rw [wl_len]; omega)]
def Okx (x : mX) : Prop := ∀ i j, i < 62 → j < 62 → x.2.1 i = x.2.1 j → i = j
def mA (x : mX) : Nat → Prop := fun q => ∃ i, i < 62 ∧ x.2.1 i = q
theorem wl_get {x : mX} {h : mH} {k : Nat} {q : Nat × va_E} (e : (wl x h)[k]? = some q) : k < 62 ∧ q = (x.2.1 k, cell x h k) := by
  have hk : k < 62 := by have := (List.getElem?_eq_some_iff.mp e).1; rw [wl_len] at this; exact this
  rw [wl_at hk] at e
  exact ⟨hk, (Option.some.inj e).symm⟩
theorem wl_D {x : mX} {h : mH} (hx : Okx x) : va_D (mA x) (wl x h) := by
  refine ⟨fun i j p q hp hq hpq => ?_, fun k q hk => ?_⟩
  · obtain ⟨hi, rfl⟩ := wl_get hp
    obtain ⟨hj, rfl⟩ := wl_get hq
    exact hx i j hi hj hpq
  · obtain ⟨hk', rfl⟩ := wl_get hk
    exact ⟨k, hk', rfl⟩
theorem cell_obj {x : mX} {h : mH} {i c : Nat} (hk : kd i = c) (hc : c < 10) : cell x h i = .inr (c, (fks c).mapIdx (fun k t => fv x h c i k t)) := by
  unfold cell
  rw [hk, if_neg (by omega), if_neg (by omega), if_neg (by omega)]
theorem cell_int {x : mX} {h : mH} {i : Nat} (hk : kd i = 10) : cell x h i = .inl (x.2.2.2.1, ln i, .inl (fun k => Int32.ofInt (h i (k : Int)))) := by
  unfold cell
  rw [hk, if_pos rfl]
theorem cell_bool {x : mX} {h : mH} {i : Nat} (hk : kd i = 11) : cell x h i = .inl (x.2.2.2.2.1, ln i, .inl (fun k => Int32.ofInt (h i (k : Int)))) := by
  unfold cell
  rw [hk, if_neg (by decide), if_pos rfl]
theorem cell_past {x : mX} {h : mH} {i : Nat} (hk : kd i = 12) : cell x h i = .inl (x.2.2.2.2.2, ln i, .inr (.inr (.inr (.inr (fun k => some (x.2.1 (28 + 3 * k))))))) := by
  unfold cell
  rw [hk, if_neg (by decide), if_neg (by decide), if_pos rfl]
theorem fs_get {x : mX} {h : mH} {c i k t : Nat} (ht : (fks c)[k]? = some t) : ((fks c).mapIdx (fun k t => fv x h c i k t))[k]? = some (fv x h c i k t) := by
  rw [List.getElem?_mapIdx, ht]; rfl
theorem fs_set {x : mX} {h : mH} {c i k t : Nat} {v : Int} (ht : (fks c)[k]? = some t) : ((fks c).mapIdx (fun k t => fv x h c i k t)).set k (fv x (hset h i (k : Int) v) c i k t) = (fks c).mapIdx (fun a t => fv x (hset h i (k : Int) v) c i a t) := by
  have hlt := (List.getElem?_eq_some_iff.mp ht).1
  apply List.ext_getElem?
  intro j
  by_cases e : k = j
  · subst e
    rw [List.getElem?_set_self (by rw [List.length_mapIdx]; exact hlt), List.getElem?_mapIdx, ht]; rfl
  · rw [List.getElem?_set_ne e, List.getElem?_mapIdx, List.getElem?_mapIdx]
    congr 1
    funext t'
    unfold fv
    rw [hset_nk (by omega)]
def tysm (x : mX) : List (ClassId × FieldType) := [(x.2.2.2.1, .int), (x.2.2.2.2.1, .boolean), (x.2.2.2.2.2, .object "LongestPast$Past")]
/-! ===== words ===== -/
def gd_tbl : List Cond := lw_tbl.filter goodWord
def isNw (w : Cond) : Bool := match w with
  | .fieldLinkNest .. => true
  | .methodLinkNest .. => true
  | .declares _ => true
  | _ => false
def nw_tbl : List Cond := lw_tbl.filter isNw
theorem inG {i : Nat} {w : Cond} (h : lw_tbl[i]? = some w) (hg : goodWord w = true) : w ∈ gd_tbl := List.mem_filter.mpr ⟨List.mem_of_getElem? h, hg⟩
theorem inN {i : Nat} {w : Cond} (h : lw_tbl[i]? = some w) (hg : isNw w = true) : w ∈ nw_tbl := List.mem_filter.mpr ⟨List.mem_of_getElem? h, hg⟩
theorem gd_good {w : Cond} (h : w ∈ gd_tbl) : (w.onTables && w.keeps) = true ∨ ∃ ty, w = .arrayClass ty := good_of_word (List.mem_filter.mp h).2
theorem gd_in : GoodIn gd_tbl gd_tbl := fun _ h => ⟨h, gd_good h⟩
theorem gd_cons {w : Cond} (h : w ∈ gd_tbl) : GoodIn gd_tbl (w :: gd_tbl) := fun v hv => by
  rcases List.mem_cons.mp hv with rfl | hv
  · exact ⟨h, gd_good h⟩
  · exact gd_in v hv
theorem nw_warm {w : Cond} (hw : isNw w = true) {s U : State} (hW : s.WarmedH U.vm) (h : va_Nw w s) : va_Nw w U := by
  cases w with
  | fieldLinkNest a i b n d h1 => exact va_Nw.warmF hW h
  | methodLinkNest a i x h1 => exact va_Nw.warmM hW h
  | declares x => exact va_Nw.warmD hW h
  | _ => simp [isNw] at hw
theorem nw_tab {w : Cond} (hw : isNw w = true) : w.onTables = true := by
  cases w with
  | fieldLinkNest a i b n d h1 => rfl
  | methodLinkNest a i x h1 => rfl
  | declares x => rfl
  | _ => simp [isNw] at hw
def nw_all (U : State) : Prop := ∀ w ∈ nw_tbl, va_Nw w U
theorem nw_all.warm {s U : State} (hW : s.WarmedH U.vm) (h : nw_all s) : nw_all U := fun w hw => nw_warm (List.mem_filter.mp hw).2 hW (h w hw)
theorem nw_all.same {s U : State} (hv : s.vm = U.vm) (h : nw_all s) : nw_all U := fun w hw => va_Nw.same (nw_tab (List.mem_filter.mp hw).2) hv (h w hw)
/-! ===== the judgements ===== -/
def rmk (k : Nat) : Room := { frames := k, cells := 0, slots := 0, locals := 38 * k }
def Wd (x : mX) (h : mH) (U : State) : Prop := va_P x.2.2.1 vwCl (wl x h) U.heap ∧ va_K x.2.2.1 vwCl (tysm x) U ∧ nw_all U
def mQ (x : mX) (Q : mV → mH → Prop) : Array Value → State → Outcome → State → Prop := fun _ st oc t => (∃ (r : mV) (h' : mH), oc = .returned (rv x r) ∧ Q r h' ∧ okv r ∧ okh h' ∧ va_P x.2.2.1 vwCl (wl x h') t.heap) ∧ va_F (mA x) st t
def mws (M : mM) : List Cond := Cond.code M.1 M.2.1 M.2.2.1 M.2.2.2.1 :: gd_tbl
/-- a method's contract: called with these arguments in this world it returns, and Q holds of its answer and the world then -/
def Ct (x : mX) (M : mM) (args : List mV) (h : mH) (Q : mV → mH → Prop) : Prop :=
  Okx x → (∀ v ∈ args, okv v) → okh h → Met x.1 M.1 (mws M) (rmk M.2.2.2.2) (va_Pc (args.map (cv x)) (Wd x h)) (mQ x Q) 0 0 (mA x)
def Cc (x : mX) (M : mM) (p : Program) (s : State) (m : MethodId) (args : Array Value) (meth : Method) (c : Code) : Prop :=
  Okx x ∧ p.tables.exec = Jvm.exec ∧ c.code = M.2.1 ∧ meth.sig.returnType = M.2.2.2.1 ∧ c.maxLocals = M.2.2.1 ∧ s.vm.findClass M.1.cls = some m.cls ∧ (∀ w ∈ gd_tbl, w.before args s = true) ∧ nw_all s ∧ meth.locks = false ∧ va_K x.2.2.1 vwCl (tysm x) s
def Hs (x : mX) (h : mH) (s : State) (H : Heap) (locs : List Loc) : Prop := va_P x.2.2.1 vwCl (wl x h) H ∧ va_S (mA x) s.heap H locs ∧ okh h
def Lo (x : mX) (la : Array Slot) (n : Nat) (ls : List mV) : Prop := la.size = n ∧ lv_wf la ∧ ls.length ≤ n ∧ (∀ (k : Nat) (v : mV), ls[k]? = some v → v ≠ xU → la[k]? = some (.val (cv x v))) ∧ ∀ v ∈ ls, okv v
/-- the machine in method M at pc, with these locals, this stack, this world, comes to an end with Q -/
def Go (x : mX) (M : mM) (pc : Nat) (ls st : List mV) (h : mH) (Q : mV → mH → Prop) : Prop :=
  ∀ (p : Program) (e : Env) (s : State) (m : MethodId) (args : Array Value) (below : List Frame) (meth : Method) (c : Code) (H : Heap) (locs : List Loc) (la : Array Slot),
    Cc x M p s m args meth c → Hs x h s H locs → Lo x la M.2.2.1 ls → (∀ v ∈ st, okv v) →
    W p x.1 e (rmk M.2.2.2.2) s m args below meth c H locs 0 0 (MQ below (mQ x Q) args s 0 0 (mA x)) (F0 m pc la (st.map (cv x)))
def qI (Q : Int → mH → Prop) : mV → mH → Prop := fun r h => ∃ z, r = xI z ∧ Q z h
def qL (Q : Int → mH → Prop) : mV → mH → Prop := fun r h => ∃ z, r = xL z ∧ Q z h
def qV (Q : mH → Prop) : mV → mH → Prop := fun r h => r = xU ∧ Q h
def CtI (x : mX) (M : mM) (args : List mV) (h : mH) (Q : Int → mH → Prop) : Prop := Ct x M args h (qI Q)
def CtL (x : mX) (M : mM) (args : List mV) (h : mH) (Q : Int → mH → Prop) : Prop := Ct x M args h (qL Q)
def CtV (x : mX) (M : mM) (args : List mV) (h : mH) (Q : mH → Prop) : Prop := Ct x M args h (qV Q)
theorem ok_cons {v : mV} {st : List mV} (h1 : okv v) (h2 : ∀ w ∈ st, okv w) : ∀ w ∈ v :: st, okv w := List.forall_mem_cons.mpr ⟨h1, h2⟩
theorem ok_hd {v : mV} {st : List mV} (h : ∀ w ∈ v :: st, okv w) : okv v := h v List.mem_cons_self
theorem ok_tl {v : mV} {st : List mV} (h : ∀ w ∈ v :: st, okv w) : ∀ w ∈ st, okv w := fun w hw => h w (List.mem_cons_of_mem _ hw)
/-! ===== numbers ===== -/
theorem n_toI {z : Int} (h : inR z) : (Int32.ofInt z).toInt = z := Int32.toInt_ofInt_of_le (by have := h.1; omega) (by have := h.2; omega)
theorem n_lt {a b : Int} (ha : inR a) (hb : inR b) : Int32.ofInt a < Int32.ofInt b ↔ a < b := by rw [Int32.lt_iff_toInt_lt, n_toI ha, n_toI hb]
theorem n_le {a b : Int} (ha : inR a) (hb : inR b) : Int32.ofInt a ≤ Int32.ofInt b ↔ a ≤ b := by rw [Int32.le_iff_toInt_le, n_toI ha, n_toI hb]
theorem n_eq {a b : Int} (ha : inR a) (hb : inR b) : Int32.ofInt a = Int32.ofInt b ↔ a = b := by rw [← Int32.toInt_inj, n_toI ha, n_toI hb]
theorem n_r0 : inR 0 := ⟨by decide, by decide⟩
theorem n_r1 : inR 1 := ⟨by decide, by decide⟩
theorem n_0 : Int32.ofInt 0 = 0 := rfl
theorem n_clamp {z : Int} (h : inR z) (h0 : 0 ≤ z) : (Int32.ofInt z).toNatClampNeg = z.toNat := by
  show (Int32.ofInt z).toInt.toNat = z.toNat
  rw [n_toI h]
theorem n_in {z : Int} {n : Nat} (h : inR z) (h0 : 0 ≤ z) (h1 : z < n) : vp_in (Int32.ofInt z) n := by
  rw [vp_in_iff, n_toI h]
  exact ⟨h0, h1⟩
theorem n_toL {z : Int} (h : inL z) : (Int64.ofInt z).toInt = z := Int64.toInt_ofInt_of_le (by have := h.1; omega) (by have := h.2; omega)
theorem n_ltL {a b : Int} (ha : inL a) (hb : inL b) : Int64.ofInt a < Int64.ofInt b ↔ a < b := by rw [Int64.lt_iff_toInt_lt, n_toL ha, n_toL hb]
theorem n_eqL {a b : Int} (ha : inL a) (hb : inL b) : Int64.ofInt a = Int64.ofInt b ↔ a = b := by rw [← Int64.toInt_inj, n_toL ha, n_toL hb]
theorem n_div {a b : Int} (ha : inR a) (h0 : 0 ≤ a) (hb : inR b) (hb0 : 0 < b) : Int32.ofInt a / Int32.ofInt b = Int32.ofInt (a / b) := by
  have hr : inR (a / b) := ⟨by have := Int.ediv_nonneg h0 (Int.le_of_lt hb0); omega, by have := Int.ediv_le_self b h0; have := ha.2; omega⟩
  apply Int32.toInt.inj
  rw [n_toI hr, Int32.toInt_div_of_ne_right _ _ (by intro e; have := congrArg Int32.toInt e; rw [n_toI hb] at this; have e2 : (-1 : Int32).toInt = -1 := rfl; omega), n_toI ha, n_toI hb, Int.tdiv_eq_ediv_of_nonneg h0]
theorem n_divL {a b : Int} (ha : inL a) (h0 : 0 ≤ a) (hb : inL b) (hb0 : 0 < b) : Int64.ofInt a / Int64.ofInt b = Int64.ofInt (a / b) := by
  have hr : inL (a / b) := ⟨by have := Int.ediv_nonneg h0 (Int.le_of_lt hb0); omega, by have := Int.ediv_le_self b h0; have := ha.2; omega⟩
  apply Int64.toInt.inj
  rw [n_toL hr, Int64.toInt_div_of_ne_right _ _ (by intro e; have := congrArg Int64.toInt e; rw [n_toL hb] at this; have e2 : (-1 : Int64).toInt = -1 := rfl; omega), n_toL ha, n_toL hb, Int.tdiv_eq_ediv_of_nonneg h0]
