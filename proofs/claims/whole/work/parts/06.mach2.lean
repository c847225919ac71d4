/-! ===== one instruction, a row ===== -/
section MROWS
variable {x : mX} {M : mM} {pc : Nat} {ls st : List mV} {h : mH} {Q : mV → mH → Prop}
theorem go_iconst {n : Int} (hd : decode M.2.1 pc = .ok (.iconst n, 1)) (h1 : inR n) (k : Go x M (pc + 1) ls (xI n :: st) h Q) : Go x M pc ls st h Q :=
  fun p e s m args below meth c H locs la hC hH hL hs => lv_iconst hC.2.1 hC.2.2.1 hd rfl (k p e s m args below meth c H locs la hC hH hL (ok_cons h1 hs))
theorem go_bipush {n : Int} (hd : decode M.2.1 pc = .ok (.bipush n, 2)) (hv : (Int8.ofInt n).toInt32 = Int32.ofInt n) (h1 : inR n) (k : Go x M (pc + 2) ls (xI n :: st) h Q) : Go x M pc ls st h Q :=
  fun p e s m args below meth c H locs la hC hH hL hs => lv_bipush hC.2.1 hC.2.2.1 hd hv (k p e s m args below meth c H locs la hC hH hL (ok_cons h1 hs))
theorem go_sipush {n : Int} (hd : decode M.2.1 pc = .ok (.sipush n, 3)) (hv : (Int16.ofInt n).toInt32 = Int32.ofInt n) (h1 : inR n) (k : Go x M (pc + 3) ls (xI n :: st) h Q) : Go x M pc ls st h Q :=
  fun p e s m args below meth c H locs la hC hH hL hs => lv_sipush hC.2.1 hC.2.2.1 hd hv (k p e s m args below meth c H locs la hC hH hL (ok_cons h1 hs))
theorem go_ldc {idx : Nat} {n : Int} (hd : decode M.2.1 pc = .ok (.ldc idx, 2)) (hw : Cond.constant M.1.cls idx (Int32.ofInt n) ∈ gd_tbl) (h1 : inR n) (k : Go x M (pc + 2) ls (xI n :: st) h Q) : Go x M pc ls st h Q :=
  fun p e s m args below meth c H locs la hC hH hL hs => lv_ldc hC.2.1 hC.2.2.1 hC.2.2.2.2.2.1 (hC.2.2.2.2.2.2.1 _ hw) hd (k p e s m args below meth c H locs la hC hH hL (ok_cons h1 hs))
theorem go_ldcw {idx : Nat} {n : Int} (hd : decode M.2.1 pc = .ok (.ldc_w idx, 3)) (hw : Cond.constant M.1.cls idx (Int32.ofInt n) ∈ gd_tbl) (h1 : inR n) (k : Go x M (pc + 3) ls (xI n :: st) h Q) : Go x M pc ls st h Q :=
  fun p e s m args below meth c H locs la hC hH hL hs => lv_ldcw hC.2.1 hC.2.2.1 hC.2.2.2.2.2.1 (hC.2.2.2.2.2.2.1 _ hw) hd (k p e s m args below meth c H locs la hC hH hL (ok_cons h1 hs))
theorem go_lconst {n : Fin 2} {z : Int} (hd : decode M.2.1 pc = .ok (.lconst n, 1)) (hv : Int64.ofNat (n : Nat) = Int64.ofInt z) (h1 : inL z) (k : Go x M (pc + 1) ls (xL z :: st) h Q) : Go x M pc ls st h Q :=
  fun p e s m args below meth c H locs la hC hH hL hs => lv_lconst hC.2.1 hC.2.2.1 hd hv (k p e s m args below meth c H locs la hC hH hL (ok_cons h1 hs))
theorem lo_get {la : Array Slot} {n i : Nat} {v : mV} (hL : Lo x la n ls) (hi : ls[i]? = some v) (hv : v ≠ xU) : la[i]? = some (.val (cv x v)) := hL.2.2.2.1 i v hi hv
theorem lo_ok {la : Array Slot} {n i : Nat} {v : mV} (hL : Lo x la n ls) (hi : ls[i]? = some v) : okv v := hL.2.2.2.2 v (List.mem_of_getElem? hi)
theorem go_iload_n {j : Fin 4} {z : Int} (hd : decode M.2.1 pc = .ok (.iload_n j, 1)) (hi : ls[(j : Nat)]? = some (xI z)) (k : Go x M (pc + 1) ls (xI z :: st) h Q) : Go x M pc ls st h Q :=
  fun p e s m args below meth c H locs la hC hH hL hs => lv_iload_n hC.2.1 hC.2.2.1 hd rfl (lo_get hL hi (by simp)) (k p e s m args below meth c H locs la hC hH hL (ok_cons (lo_ok hL hi) hs))
theorem go_iload {j : Nat} {z : Int} (hd : decode M.2.1 pc = .ok (.iload j, 2)) (hi : ls[j]? = some (xI z)) (k : Go x M (pc + 2) ls (xI z :: st) h Q) : Go x M pc ls st h Q :=
  fun p e s m args below meth c H locs la hC hH hL hs => lv_iload hC.2.1 hC.2.2.1 hd (lo_get hL hi (by simp)) (k p e s m args below meth c H locs la hC hH hL (ok_cons (lo_ok hL hi) hs))
theorem go_lload_n {j : Fin 4} {z : Int} (hd : decode M.2.1 pc = .ok (.lload_n j, 1)) (hi : ls[(j : Nat)]? = some (xL z)) (k : Go x M (pc + 1) ls (xL z :: st) h Q) : Go x M pc ls st h Q :=
  fun p e s m args below meth c H locs la hC hH hL hs => lv_lload_n hC.2.1 hC.2.2.1 hd rfl (lo_get hL hi (by simp)) (k p e s m args below meth c H locs la hC hH hL (ok_cons (lo_ok hL hi) hs))
theorem go_lload {j : Nat} {z : Int} (hd : decode M.2.1 pc = .ok (.lload j, 2)) (hi : ls[j]? = some (xL z)) (k : Go x M (pc + 2) ls (xL z :: st) h Q) : Go x M pc ls st h Q :=
  fun p e s m args below meth c H locs la hC hH hL hs => lv_lload hC.2.1 hC.2.2.1 hd (lo_get hL hi (by simp)) (k p e s m args below meth c H locs la hC hH hL (ok_cons (lo_ok hL hi) hs))
theorem go_aload_n {j : Fin 4} {i : Nat} (hd : decode M.2.1 pc = .ok (.aload_n j, 1)) (hi : ls[(j : Nat)]? = some (xR i)) (k : Go x M (pc + 1) ls (xR i :: st) h Q) : Go x M pc ls st h Q :=
  fun p e s m args below meth c H locs la hC hH hL hs => lv_aload_n hC.2.1 hC.2.2.1 hd rfl (lo_get hL hi (by simp)) (k p e s m args below meth c H locs la hC hH hL (ok_cons trivial hs))
/-- the locals, as the kit lists them -/
def lpr (x : mX) (ls : List mV) : List (Nat × Value) := (List.range ls.length).filterMap (fun k => match (ls[k]? : Option mV) with
  | some (Sum.inr (Sum.inr (Sum.inr _))) => none
  | some v => some (k, cv x v)
  | none => none)
theorem lpr_mem {k : Nat} {v : mV} (hk : ls[k]? = some v) (hv : v ≠ xU) : (k, cv x v) ∈ lpr x ls := by
  refine List.mem_filterMap.mpr ⟨k, List.mem_range.mpr (List.getElem?_eq_some_iff.mp hk).1, ?_⟩
  rw [hk]
  rcases v with z | z | i | u
  · rfl
  · rfl
  · rfl
  · exact absurd rfl hv
theorem lpr_of {q : Nat × Value} (hq : q ∈ lpr x ls) : ∃ v, ls[q.1]? = some v ∧ v ≠ xU ∧ q.2 = cv x v := by
  obtain ⟨k, -, hk⟩ := List.mem_filterMap.mp hq
  cases hv : ls[k]? with
  | none => rw [hv] at hk; cases hk
  | some v =>
    rw [hv] at hk
    rcases v with z | z | i | u
    · cases hk; exact ⟨_, hv, by simp, rfl⟩
    · cases hk; exact ⟨_, hv, by simp, rfl⟩
    · cases hk; exact ⟨_, hv, by simp, rfl⟩
    · cases hk
theorem lo_has {la : Array Slot} {n : Nat} (hL : Lo x la n ls) : lv_has la n (lpr x ls) := ⟨hL.1, hL.2.1, fun q hq => by
  obtain ⟨v, h1, h2, h3⟩ := lpr_of hq
  rw [h3]
  exact hL.2.2.2.1 _ _ h1 h2⟩
def isLv (v : mV) : Bool := match v with
  | .inr (.inl _) => true
  | _ => false
theorem cat_lv {v : mV} (h : isLv v = false) : (cv x v).category = 1 := by
  rcases v with z | z | i | u
  · rfl
  · simp [isLv] at h
  · rfl
  · rfl
theorem lo_set1 {la la' : Array Slot} {n i : Nat} {v : mV} {w : Value} (hL : Lo x la n ls) (hw : w = cv x v) (hok : okv v) (hi : i < ls.length) (hp : isLv (ls.getD (i - 1) xU) = false) (h1 : lv_has la' n ((i, w) :: (lpr x ls).filter (fun q => !(q.1 == i) && !(q.1 + 1 == i && q.2.category == 2)))) : Lo x la' n (ls.set i v) := by
  refine ⟨h1.1, h1.2.1, by rw [List.length_set]; exact hL.2.2.1, fun k u hk hu => ?_, fun u hu => ?_⟩
  · by_cases e : i = k
    · subst e
      rw [List.getElem?_set_self hi] at hk
      cases hk
      subst hw
      exact h1.2.2 (i, cv x v) List.mem_cons_self
    · rw [List.getElem?_set_ne e] at hk
      refine h1.2.2 (k, cv x u) (List.mem_cons_of_mem _ (List.mem_filter.mpr ⟨lpr_mem hk hu, ?_⟩))
      have e1 : (k == i) = false := by simpa using (Ne.symm e)
      have e2 : (k + 1 == i && (cv x u).category == 2) = false := by
        by_cases z : k + 1 = i
        · have : isLv u = false := by
            have hk2 : ls.getD (i - 1) xU = u := by rw [List.getD_eq_getElem?_getD, show i - 1 = k by omega, hk]; rfl
            rw [← hk2]; exact hp
          rw [cat_lv this]; simp
        · simp [z]
      simp only [e1, e2]; rfl
  · rcases List.mem_or_eq_of_mem_set hu with q | q
    · exact hL.2.2.2.2 u q
    · rw [q]; exact hok
theorem lo_set2 {la la' : Array Slot} {n i : Nat} {z : Int} {w : Value} (hL : Lo x la n ls) (hw : w = cv x (xL z)) (hok : okv (xL z)) (hi : i + 1 < ls.length) (hp : isLv (ls.getD (i - 1) xU) = false) (h1 : lv_has la' n ((i, w) :: (lpr x ls).filter (fun q => !(q.1 == i) && (!(q.1 == i + 1) && !(q.1 + 1 == i && q.2.category == 2))))) : Lo x la' n ((ls.set i (xL z)).set (i + 1) xU) := by
  refine ⟨h1.1, h1.2.1, by rw [List.length_set, List.length_set]; exact hL.2.2.1, fun k u hk hu => ?_, fun u hu => ?_⟩
  · by_cases e0 : i + 1 = k
    · subst e0
      rw [List.getElem?_set_self (by rw [List.length_set]; exact hi)] at hk
      cases hk
      exact absurd rfl hu
    · rw [List.getElem?_set_ne e0] at hk
      by_cases e : i = k
      · subst e
        rw [List.getElem?_set_self (by omega)] at hk
        cases hk
        subst hw
        exact h1.2.2 (i, cv x (xL z)) List.mem_cons_self
      · rw [List.getElem?_set_ne e] at hk
        have e1 : (k == i) = false := by simpa using (Ne.symm e)
        have e3 : (k == i + 1) = false := by simpa using (Ne.symm e0)
        have e2 : (k + 1 == i && (cv x u).category == 2) = false := by
          by_cases zz : k + 1 = i
          · have : isLv u = false := by
              have hk2 : ls.getD (i - 1) xU = u := by rw [List.getD_eq_getElem?_getD, show i - 1 = k by omega, hk]; rfl
              rw [← hk2]; exact hp
            rw [cat_lv this]; simp
          · simp [zz]
        refine h1.2.2 (k, cv x u) (List.mem_cons_of_mem _ (List.mem_filter.mpr ⟨lpr_mem hk hu, ?_⟩))
        simp only [e1, e2, e3]; rfl
  · rcases List.mem_or_eq_of_mem_set hu with q | q
    · rcases List.mem_or_eq_of_mem_set q with q | q
      · exact hL.2.2.2.2 u q
      · rw [q]; exact hok
    · rw [q]; trivial
theorem go_istore_n {j : Fin 4} {z : Int} {ls' : List mV} (n : Nat) (hd : decode M.2.1 pc = .ok (.istore_n j, 1)) (hj : (j : Nat) = n) (hi : n < ls.length) (hp : isLv (ls.getD (n - 1) xU) = false) (hl : ls.set n (xI z) = ls') (k : Go x M (pc + 1) ls' st h Q) : Go x M pc ls (xI z :: st) h Q := by
  subst hj
  subst hl
  intro p e s m args below meth c H locs la hC hH hL hs
  refine lv_istore_n hC.2.1 hC.2.2.1 hd rfl (lo_has hL) (Nat.lt_of_lt_of_le hi hL.2.2.1) rfl fun la' h1 => ?_
  exact k p e s m args below meth c H locs la' hC hH (lo_set1 hL rfl (ok_hd hs) hi hp h1) (ok_tl hs)
theorem go_istore {j : Nat} {z : Int} {ls' : List mV} (hd : decode M.2.1 pc = .ok (.istore j, 2)) (hi : j < ls.length) (hp : isLv (ls.getD (j - 1) xU) = false) (hl : ls.set j (xI z) = ls') (k : Go x M (pc + 2) ls' st h Q) : Go x M pc ls (xI z :: st) h Q := by
  subst hl
  intro p e s m args below meth c H locs la hC hH hL hs
  refine lv_istore hC.2.1 hC.2.2.1 hd (lo_has hL) (Nat.lt_of_lt_of_le hi hL.2.2.1) rfl fun la' h1 => ?_
  exact k p e s m args below meth c H locs la' hC hH (lo_set1 hL rfl (ok_hd hs) hi hp h1) (ok_tl hs)
theorem go_astore_n {j : Fin 4} {i : Nat} {ls' : List mV} (n : Nat) (hd : decode M.2.1 pc = .ok (.astore_n j, 1)) (hj : (j : Nat) = n) (hi : n < ls.length) (hp : isLv (ls.getD (n - 1) xU) = false) (hl : ls.set n (xR i) = ls') (k : Go x M (pc + 1) ls' st h Q) : Go x M pc ls (xR i :: st) h Q := by
  subst hj
  subst hl
  intro p e s m args below meth c H locs la hC hH hL hs
  refine lv_astore_n hC.2.1 hC.2.2.1 hd rfl (lo_has hL) (Nat.lt_of_lt_of_le hi hL.2.2.1) rfl fun la' h1 => ?_
  exact k p e s m args below meth c H locs la' hC hH (lo_set1 hL rfl (ok_hd hs) hi hp h1) (ok_tl hs)
theorem go_lstore_n {j : Fin 4} {z : Int} {ls' : List mV} (n : Nat) (hd : decode M.2.1 pc = .ok (.lstore_n j, 1)) (hj : (j : Nat) = n) (hi : n + 1 < ls.length) (hp : isLv (ls.getD (n - 1) xU) = false) (hl : (ls.set n (xL z)).set (n + 1) xU = ls') (k : Go x M (pc + 1) ls' st h Q) : Go x M pc ls (xL z :: st) h Q := by
  subst hj
  subst hl
  intro p e s m args below meth c H locs la hC hH hL hs
  refine lv_lstore_n hC.2.1 hC.2.2.1 hd rfl (lo_has hL) (Nat.lt_of_lt_of_le hi hL.2.2.1) rfl fun la' h1 => ?_
  exact k p e s m args below meth c H locs la' hC hH (lo_set2 hL rfl (ok_hd hs) hi hp h1) (ok_tl hs)
theorem go_lstore {j : Nat} {z : Int} {ls' : List mV} (hd : decode M.2.1 pc = .ok (.lstore j, 2)) (hi : j + 1 < ls.length) (hp : isLv (ls.getD (j - 1) xU) = false) (hl : (ls.set j (xL z)).set (j + 1) xU = ls') (k : Go x M (pc + 2) ls' st h Q) : Go x M pc ls (xL z :: st) h Q := by
  subst hl
  intro p e s m args below meth c H locs la hC hH hL hs
  refine lv_lstore hC.2.1 hC.2.2.1 hd (lo_has hL) (Nat.lt_of_lt_of_le hi hL.2.2.1) rfl fun la' h1 => ?_
  exact k p e s m args below meth c H locs la' hC hH (lo_set2 hL rfl (ok_hd hs) hi hp h1) (ok_tl hs)
theorem go_iinc {j : Nat} {n z y : Int} {ls' : List mV} (hd : decode M.2.1 pc = .ok (.iinc j n, 3)) (hg : ls[j]? = some (xI z)) (hp : isLv (ls.getD (j - 1) xU) = false) (hy : z + n = y) (h1 : -2147483648 ≤ y) (h2 : y < 2147483648) (hl : ls.set j (xI y) = ls') (k : Go x M (pc + 3) ls' st h Q) : Go x M pc ls st h Q := by
  subst hl
  subst hy
  intro p e s m args below meth c H locs la hC hH hL hs
  have hi : j < ls.length := (List.getElem?_eq_some_iff.mp hg).1
  obtain ⟨kk, hk⟩ := List.getElem?_of_mem (lpr_mem (x := x) hg (by simp))
  refine lv_iinc hC.2.1 hC.2.2.1 hd (lo_has hL) hk (Int32.ofInt_add z n).symm (Nat.lt_of_lt_of_le hi hL.2.2.1) rfl fun la' h3 => ?_
  exact k p e s m args below meth c H locs la' hC hH (lo_set1 hL rfl ⟨h1, h2⟩ hi hp h3) hs
theorem go_iadd {a b : Int} (hd : decode M.2.1 pc = .ok (.iadd, 1)) (h1 : -2147483648 ≤ a + b) (h2 : a + b < 2147483648) (k : Go x M (pc + 1) ls (xI (a + b) :: st) h Q) : Go x M pc ls (xI b :: xI a :: st) h Q := by
  intro p e s m args below meth c H locs la hC hH hL hs
  refine lv_iadd hC.2.1 hC.2.2.1 hd ?_
  rw [← Int32.ofInt_add]
  exact k p e s m args below meth c H locs la hC hH hL (ok_cons ⟨h1, h2⟩ (ok_tl (ok_tl hs)))
theorem go_isub {a b : Int} (hd : decode M.2.1 pc = .ok (.isub, 1)) (h1 : -2147483648 ≤ a - b) (h2 : a - b < 2147483648) (k : Go x M (pc + 1) ls (xI (a - b) :: st) h Q) : Go x M pc ls (xI b :: xI a :: st) h Q := by
  intro p e s m args below meth c H locs la hC hH hL hs
  refine lv_isub hC.2.1 hC.2.2.1 hd ?_
  rw [← Int32.ofInt_sub]
  exact k p e s m args below meth c H locs la hC hH hL (ok_cons ⟨h1, h2⟩ (ok_tl (ok_tl hs)))
theorem go_imul {a b : Int} (hd : decode M.2.1 pc = .ok (.imul, 1)) (h1 : -2147483648 ≤ a * b) (h2 : a * b < 2147483648) (k : Go x M (pc + 1) ls (xI (a * b) :: st) h Q) : Go x M pc ls (xI b :: xI a :: st) h Q := by
  intro p e s m args below meth c H locs la hC hH hL hs
  refine lv_imul hC.2.1 hC.2.2.1 hd ?_
  rw [← Int32.ofInt_mul]
  exact k p e s m args below meth c H locs la hC hH hL (ok_cons ⟨h1, h2⟩ (ok_tl (ok_tl hs)))
theorem go_idiv {a b : Int} (hd : decode M.2.1 pc = .ok (.idiv, 1)) (h1 : 0 ≤ a) (h2 : 0 < b) (k : Go x M (pc + 1) ls (xI (a / b) :: st) h Q) : Go x M pc ls (xI b :: xI a :: st) h Q := by
  intro p e s m args below meth c H locs la hC hH hL hs
  have hb : inR b := ok_hd hs
  have ha : inR a := ok_hd (ok_tl hs)
  refine lv_idiv hC.2.1 hC.2.2.1 hd (fun q => by rw [← n_0, n_eq hb n_r0] at q; omega) ?_
  rw [n_div ha h1 hb h2]
  exact k p e s m args below meth c H locs la hC hH hL (ok_cons ⟨by have := Int.ediv_nonneg h1 (Int.le_of_lt h2); omega, by have := Int.ediv_le_self b h1; have := ha.2; omega⟩ (ok_tl (ok_tl hs)))
theorem go_iand {a b z : Int} (hd : decode M.2.1 pc = .ok (.iand, 1)) (hz : Int32.ofInt a &&& Int32.ofInt b = Int32.ofInt z) (h1 : inR z) (k : Go x M (pc + 1) ls (xI z :: st) h Q) : Go x M pc ls (xI b :: xI a :: st) h Q := by
  intro p e s m args below meth c H locs la hC hH hL hs
  refine lv_iand hC.2.1 hC.2.2.1 hd ?_
  rw [hz]
  exact k p e s m args below meth c H locs la hC hH hL (ok_cons h1 (ok_tl (ok_tl hs)))
theorem go_ior {a b z : Int} (hd : decode M.2.1 pc = .ok (.ior, 1)) (hz : Int32.ofInt a ||| Int32.ofInt b = Int32.ofInt z) (h1 : inR z) (k : Go x M (pc + 1) ls (xI z :: st) h Q) : Go x M pc ls (xI b :: xI a :: st) h Q := by
  intro p e s m args below meth c H locs la hC hH hL hs
  refine lv_ior hC.2.1 hC.2.2.1 hd ?_
  rw [hz]
  exact k p e s m args below meth c H locs la hC hH hL (ok_cons h1 (ok_tl (ok_tl hs)))
theorem go_ishl {a b z : Int} (hd : decode M.2.1 pc = .ok (.ishl, 1)) (hz : Int32.ofInt a <<< (Int32.ofInt b &&& 31) = Int32.ofInt z) (h1 : inR z) (k : Go x M (pc + 1) ls (xI z :: st) h Q) : Go x M pc ls (xI b :: xI a :: st) h Q := by
  intro p e s m args below meth c H locs la hC hH hL hs
  refine lv_ishl hC.2.1 hC.2.2.1 hd ?_
  rw [hz]
  exact k p e s m args below meth c H locs la hC hH hL (ok_cons h1 (ok_tl (ok_tl hs)))
theorem go_ishr {a b z : Int} (hd : decode M.2.1 pc = .ok (.ishr, 1)) (hz : Int32.ofInt a >>> (Int32.ofInt b &&& 31) = Int32.ofInt z) (h1 : inR z) (k : Go x M (pc + 1) ls (xI z :: st) h Q) : Go x M pc ls (xI b :: xI a :: st) h Q := by
  intro p e s m args below meth c H locs la hC hH hL hs
  refine lv_ishr hC.2.1 hC.2.2.1 hd ?_
  rw [hz]
  exact k p e s m args below meth c H locs la hC hH hL (ok_cons h1 (ok_tl (ok_tl hs)))
theorem go_iushr {a b z : Int} (hd : decode M.2.1 pc = .ok (.iushr, 1)) (hz : ((Int32.ofInt a).toUInt32 >>> ((Int32.ofInt b).toUInt32 &&& Int32.toUInt32 31)).toInt32 = Int32.ofInt z) (h1 : inR z) (k : Go x M (pc + 1) ls (xI z :: st) h Q) : Go x M pc ls (xI b :: xI a :: st) h Q := by
  intro p e s m args below meth c H locs la hC hH hL hs
  exact lv_iushr hC.2.1 hC.2.2.1 hd hz (k p e s m args below meth c H locs la hC hH hL (ok_cons h1 (ok_tl (ok_tl hs))))
theorem go_dupI {a : Int} (hd : decode M.2.1 pc = .ok (.dup, 1)) (k : Go x M (pc + 1) ls (xI a :: xI a :: st) h Q) : Go x M pc ls (xI a :: st) h Q :=
  fun p e s m args below meth c H locs la hC hH hL hs => lv_dup hC.2.1 hC.2.2.1 hd rfl (k p e s m args below meth c H locs la hC hH hL (ok_cons (ok_hd hs) hs))
theorem go_dupR {a : Nat} (hd : decode M.2.1 pc = .ok (.dup, 1)) (k : Go x M (pc + 1) ls (xR a :: xR a :: st) h Q) : Go x M pc ls (xR a :: st) h Q :=
  fun p e s m args below meth c H locs la hC hH hL hs => lv_dup hC.2.1 hC.2.2.1 hd rfl (k p e s m args below meth c H locs la hC hH hL (ok_cons (ok_hd hs) hs))
theorem go_dup2 {a : Int} {b : Nat} (hd : decode M.2.1 pc = .ok (.dup2, 1)) (k : Go x M (pc + 1) ls (xI a :: xR b :: xI a :: xR b :: st) h Q) : Go x M pc ls (xI a :: xR b :: st) h Q :=
  fun p e s m args below meth c H locs la hC hH hL hs => lv_dup2_11 hC.2.1 hC.2.2.1 hd rfl rfl (k p e s m args below meth c H locs la hC hH hL (ok_cons (ok_hd hs) (ok_cons (ok_hd (ok_tl hs)) hs)))
theorem go_popI {a : Int} (hd : decode M.2.1 pc = .ok (.pop, 1)) (k : Go x M (pc + 1) ls st h Q) : Go x M pc ls (xI a :: st) h Q :=
  fun p e s m args below meth c H locs la hC hH hL hs => lv_pop hC.2.1 hC.2.2.1 hd rfl (k p e s m args below meth c H locs la hC hH hL (ok_tl hs))
theorem go_goto {off : Int} {tgt : Nat} (hd : decode M.2.1 pc = .ok (.goto off, 3)) (ht : (pc : Int) + off = (tgt : Int)) (k : Go x M tgt ls st h Q) : Go x M pc ls st h Q :=
  fun p e s m args below meth c H locs la hC hH hL hs => lv_goto hC.2.1 hC.2.2.1 hd ht (k p e s m args below meth c H locs la hC hH hL hs)
theorem go_ifnonnull {i : Nat} {off : Int} {tgt : Nat} (hd : decode M.2.1 pc = .ok (.ifnonnull off, 3)) (ht : (pc : Int) + off = (tgt : Int)) (k : Go x M tgt ls st h Q) : Go x M pc ls (xR i :: st) h Q :=
  fun p e s m args below meth c H locs la hC hH hL hs => lv_ifnonnull hC.2.1 hC.2.2.1 hd ht (k p e s m args below meth c H locs la hC hH hL (ok_tl hs))
theorem go_icmp_eq {a b : Int} {off : Int} {tgt : Nat} (hd : decode M.2.1 pc = .ok (.if_icmp .eq off, 3)) (ht : (pc : Int) + off = (tgt : Int)) (k1 : a = b → Go x M tgt ls st h Q) (k2 : a ≠ b → Go x M (pc + 3) ls st h Q) : Go x M pc ls (xI b :: xI a :: st) h Q := by
  intro p e s m args below meth c H locs la hC hH hL hs
  have hb : inR b := ok_hd hs
  have ha : inR a := ok_hd (ok_tl hs)
  have k1 := fun q => k1 q p e s m args below meth c H locs la hC hH hL (ok_tl (ok_tl hs))
  have k2 := fun q => k2 q p e s m args below meth c H locs la hC hH hL (ok_tl (ok_tl hs))
  exact lv_icmp_eq hC.2.1 hC.2.2.1 hd ht (fun q => k1 ((n_eq ha hb).mp q)) (fun q => k2 (fun z => q ((n_eq ha hb).mpr z)))
theorem go_if_eq {a : Int} {off : Int} {tgt : Nat} (hd : decode M.2.1 pc = .ok (.ifCond .eq off, 3)) (ht : (pc : Int) + off = (tgt : Int)) (k1 : a = 0 → Go x M tgt ls st h Q) (k2 : a ≠ 0 → Go x M (pc + 3) ls st h Q) : Go x M pc ls (xI a :: st) h Q := by
  intro p e s m args below meth c H locs la hC hH hL hs
  have ha : inR a := ok_hd hs
  have k1 := fun q => k1 q p e s m args below meth c H locs la hC hH hL (ok_tl hs)
  have k2 := fun q => k2 q p e s m args below meth c H locs la hC hH hL (ok_tl hs)
  refine lv_if_eq hC.2.1 hC.2.2.1 hd ht ?_ ?_
  · rw [← n_0]; exact fun q => k1 ((n_eq ha n_r0).mp q)
  · rw [← n_0]; exact fun q => k2 (fun z => q ((n_eq ha n_r0).mpr z))
theorem go_icmp_eq_t {a b : Int} {off : Int} {tgt : Nat} (hd : decode M.2.1 pc = .ok (.if_icmp .eq off, 3)) (ht : (pc : Int) + off = (tgt : Int)) (q : a = b) (k : Go x M tgt ls st h Q) : Go x M pc ls (xI b :: xI a :: st) h Q := go_icmp_eq hd ht (fun _ => k) (fun z => by omega)
theorem go_icmp_eq_f {a b : Int} {off : Int} {tgt : Nat} (hd : decode M.2.1 pc = .ok (.if_icmp .eq off, 3)) (ht : (pc : Int) + off = (tgt : Int)) (q : a ≠ b) (k : Go x M (pc + 3) ls st h Q) : Go x M pc ls (xI b :: xI a :: st) h Q := go_icmp_eq hd ht (fun z => by omega) (fun _ => k)
theorem go_if_eq_t {a : Int} {off : Int} {tgt : Nat} (hd : decode M.2.1 pc = .ok (.ifCond .eq off, 3)) (ht : (pc : Int) + off = (tgt : Int)) (q : a = 0) (k : Go x M tgt ls st h Q) : Go x M pc ls (xI a :: st) h Q := go_if_eq hd ht (fun _ => k) (fun z => by omega)
theorem go_if_eq_f {a : Int} {off : Int} {tgt : Nat} (hd : decode M.2.1 pc = .ok (.ifCond .eq off, 3)) (ht : (pc : Int) + off = (tgt : Int)) (q : a ≠ 0) (k : Go x M (pc + 3) ls st h Q) : Go x M pc ls (xI a :: st) h Q := go_if_eq hd ht (fun z => by omega) (fun _ => k)
theorem go_icmp_ne {a b : Int} {off : Int} {tgt : Nat} (hd : decode M.2.1 pc = .ok (.if_icmp .ne off, 3)) (ht : (pc : Int) + off = (tgt : Int)) (k1 : a ≠ b → Go x M tgt ls st h Q) (k2 : a = b → Go x M (pc + 3) ls st h Q) : Go x M pc ls (xI b :: xI a :: st) h Q := by
  intro p e s m args below meth c H locs la hC hH hL hs
  have hb : inR b := ok_hd hs
  have ha : inR a := ok_hd (ok_tl hs)
  have k1 := fun q => k1 q p e s m args below meth c H locs la hC hH hL (ok_tl (ok_tl hs))
  have k2 := fun q => k2 q p e s m args below meth c H locs la hC hH hL (ok_tl (ok_tl hs))
  exact lv_icmp_ne hC.2.1 hC.2.2.1 hd ht (fun q => k1 (fun z => q ((n_eq ha hb).mpr z))) (fun q => k2 ((n_eq ha hb).mp q))
theorem go_if_ne {a : Int} {off : Int} {tgt : Nat} (hd : decode M.2.1 pc = .ok (.ifCond .ne off, 3)) (ht : (pc : Int) + off = (tgt : Int)) (k1 : a ≠ 0 → Go x M tgt ls st h Q) (k2 : a = 0 → Go x M (pc + 3) ls st h Q) : Go x M pc ls (xI a :: st) h Q := by
  intro p e s m args below meth c H locs la hC hH hL hs
  have ha : inR a := ok_hd hs
  have k1 := fun q => k1 q p e s m args below meth c H locs la hC hH hL (ok_tl hs)
  have k2 := fun q => k2 q p e s m args below meth c H locs la hC hH hL (ok_tl hs)
  refine lv_if_ne hC.2.1 hC.2.2.1 hd ht ?_ ?_
  · rw [← n_0]; exact fun q => k1 (fun z => q ((n_eq ha n_r0).mpr z))
  · rw [← n_0]; exact fun q => k2 ((n_eq ha n_r0).mp q)
theorem go_icmp_ne_t {a b : Int} {off : Int} {tgt : Nat} (hd : decode M.2.1 pc = .ok (.if_icmp .ne off, 3)) (ht : (pc : Int) + off = (tgt : Int)) (q : a ≠ b) (k : Go x M tgt ls st h Q) : Go x M pc ls (xI b :: xI a :: st) h Q := go_icmp_ne hd ht (fun _ => k) (fun z => by omega)
theorem go_icmp_ne_f {a b : Int} {off : Int} {tgt : Nat} (hd : decode M.2.1 pc = .ok (.if_icmp .ne off, 3)) (ht : (pc : Int) + off = (tgt : Int)) (q : a = b) (k : Go x M (pc + 3) ls st h Q) : Go x M pc ls (xI b :: xI a :: st) h Q := go_icmp_ne hd ht (fun z => by omega) (fun _ => k)
theorem go_if_ne_t {a : Int} {off : Int} {tgt : Nat} (hd : decode M.2.1 pc = .ok (.ifCond .ne off, 3)) (ht : (pc : Int) + off = (tgt : Int)) (q : a ≠ 0) (k : Go x M tgt ls st h Q) : Go x M pc ls (xI a :: st) h Q := go_if_ne hd ht (fun _ => k) (fun z => by omega)
theorem go_if_ne_f {a : Int} {off : Int} {tgt : Nat} (hd : decode M.2.1 pc = .ok (.ifCond .ne off, 3)) (ht : (pc : Int) + off = (tgt : Int)) (q : a = 0) (k : Go x M (pc + 3) ls st h Q) : Go x M pc ls (xI a :: st) h Q := go_if_ne hd ht (fun z => by omega) (fun _ => k)
theorem go_icmp_lt {a b : Int} {off : Int} {tgt : Nat} (hd : decode M.2.1 pc = .ok (.if_icmp .lt off, 3)) (ht : (pc : Int) + off = (tgt : Int)) (k1 : a < b → Go x M tgt ls st h Q) (k2 : b ≤ a → Go x M (pc + 3) ls st h Q) : Go x M pc ls (xI b :: xI a :: st) h Q := by
  intro p e s m args below meth c H locs la hC hH hL hs
  have hb : inR b := ok_hd hs
  have ha : inR a := ok_hd (ok_tl hs)
  have k1 := fun q => k1 q p e s m args below meth c H locs la hC hH hL (ok_tl (ok_tl hs))
  have k2 := fun q => k2 q p e s m args below meth c H locs la hC hH hL (ok_tl (ok_tl hs))
  exact lv_icmp_lt hC.2.1 hC.2.2.1 hd ht (fun q => k1 ((n_lt ha hb).mp q)) (fun q => k2 (by rw [n_lt ha hb] at q; omega))
theorem go_if_lt {a : Int} {off : Int} {tgt : Nat} (hd : decode M.2.1 pc = .ok (.ifCond .lt off, 3)) (ht : (pc : Int) + off = (tgt : Int)) (k1 : a < 0 → Go x M tgt ls st h Q) (k2 : 0 ≤ a → Go x M (pc + 3) ls st h Q) : Go x M pc ls (xI a :: st) h Q := by
  intro p e s m args below meth c H locs la hC hH hL hs
  have ha : inR a := ok_hd hs
  have k1 := fun q => k1 q p e s m args below meth c H locs la hC hH hL (ok_tl hs)
  have k2 := fun q => k2 q p e s m args below meth c H locs la hC hH hL (ok_tl hs)
  refine lv_if_lt hC.2.1 hC.2.2.1 hd ht ?_ ?_
  · rw [← n_0]; exact fun q => k1 ((n_lt ha n_r0).mp q)
  · rw [← n_0]; exact fun q => k2 (by rw [n_lt ha n_r0] at q; omega)
theorem go_icmp_lt_t {a b : Int} {off : Int} {tgt : Nat} (hd : decode M.2.1 pc = .ok (.if_icmp .lt off, 3)) (ht : (pc : Int) + off = (tgt : Int)) (q : a < b) (k : Go x M tgt ls st h Q) : Go x M pc ls (xI b :: xI a :: st) h Q := go_icmp_lt hd ht (fun _ => k) (fun z => by omega)
theorem go_icmp_lt_f {a b : Int} {off : Int} {tgt : Nat} (hd : decode M.2.1 pc = .ok (.if_icmp .lt off, 3)) (ht : (pc : Int) + off = (tgt : Int)) (q : b ≤ a) (k : Go x M (pc + 3) ls st h Q) : Go x M pc ls (xI b :: xI a :: st) h Q := go_icmp_lt hd ht (fun z => by omega) (fun _ => k)
theorem go_if_lt_t {a : Int} {off : Int} {tgt : Nat} (hd : decode M.2.1 pc = .ok (.ifCond .lt off, 3)) (ht : (pc : Int) + off = (tgt : Int)) (q : a < 0) (k : Go x M tgt ls st h Q) : Go x M pc ls (xI a :: st) h Q := go_if_lt hd ht (fun _ => k) (fun z => by omega)
theorem go_if_lt_f {a : Int} {off : Int} {tgt : Nat} (hd : decode M.2.1 pc = .ok (.ifCond .lt off, 3)) (ht : (pc : Int) + off = (tgt : Int)) (q : 0 ≤ a) (k : Go x M (pc + 3) ls st h Q) : Go x M pc ls (xI a :: st) h Q := go_if_lt hd ht (fun z => by omega) (fun _ => k)
theorem go_icmp_ge {a b : Int} {off : Int} {tgt : Nat} (hd : decode M.2.1 pc = .ok (.if_icmp .ge off, 3)) (ht : (pc : Int) + off = (tgt : Int)) (k1 : b ≤ a → Go x M tgt ls st h Q) (k2 : a < b → Go x M (pc + 3) ls st h Q) : Go x M pc ls (xI b :: xI a :: st) h Q := by
  intro p e s m args below meth c H locs la hC hH hL hs
  have hb : inR b := ok_hd hs
  have ha : inR a := ok_hd (ok_tl hs)
  have k1 := fun q => k1 q p e s m args below meth c H locs la hC hH hL (ok_tl (ok_tl hs))
  have k2 := fun q => k2 q p e s m args below meth c H locs la hC hH hL (ok_tl (ok_tl hs))
  exact lv_icmp_ge hC.2.1 hC.2.2.1 hd ht (fun q => k1 ((n_le hb ha).mp q)) (fun q => k2 (by rw [n_le hb ha] at q; omega))
theorem go_if_ge {a : Int} {off : Int} {tgt : Nat} (hd : decode M.2.1 pc = .ok (.ifCond .ge off, 3)) (ht : (pc : Int) + off = (tgt : Int)) (k1 : 0 ≤ a → Go x M tgt ls st h Q) (k2 : a < 0 → Go x M (pc + 3) ls st h Q) : Go x M pc ls (xI a :: st) h Q := by
  intro p e s m args below meth c H locs la hC hH hL hs
  have ha : inR a := ok_hd hs
  have k1 := fun q => k1 q p e s m args below meth c H locs la hC hH hL (ok_tl hs)
  have k2 := fun q => k2 q p e s m args below meth c H locs la hC hH hL (ok_tl hs)
  refine lv_if_ge hC.2.1 hC.2.2.1 hd ht ?_ ?_
  · rw [← n_0]; exact fun q => k1 ((n_le n_r0 ha).mp q)
  · rw [← n_0]; exact fun q => k2 (by rw [n_le n_r0 ha] at q; omega)
theorem go_icmp_ge_t {a b : Int} {off : Int} {tgt : Nat} (hd : decode M.2.1 pc = .ok (.if_icmp .ge off, 3)) (ht : (pc : Int) + off = (tgt : Int)) (q : b ≤ a) (k : Go x M tgt ls st h Q) : Go x M pc ls (xI b :: xI a :: st) h Q := go_icmp_ge hd ht (fun _ => k) (fun z => by omega)
theorem go_icmp_ge_f {a b : Int} {off : Int} {tgt : Nat} (hd : decode M.2.1 pc = .ok (.if_icmp .ge off, 3)) (ht : (pc : Int) + off = (tgt : Int)) (q : a < b) (k : Go x M (pc + 3) ls st h Q) : Go x M pc ls (xI b :: xI a :: st) h Q := go_icmp_ge hd ht (fun z => by omega) (fun _ => k)
theorem go_if_ge_t {a : Int} {off : Int} {tgt : Nat} (hd : decode M.2.1 pc = .ok (.ifCond .ge off, 3)) (ht : (pc : Int) + off = (tgt : Int)) (q : 0 ≤ a) (k : Go x M tgt ls st h Q) : Go x M pc ls (xI a :: st) h Q := go_if_ge hd ht (fun _ => k) (fun z => by omega)
theorem go_if_ge_f {a : Int} {off : Int} {tgt : Nat} (hd : decode M.2.1 pc = .ok (.ifCond .ge off, 3)) (ht : (pc : Int) + off = (tgt : Int)) (q : a < 0) (k : Go x M (pc + 3) ls st h Q) : Go x M pc ls (xI a :: st) h Q := go_if_ge hd ht (fun z => by omega) (fun _ => k)
theorem go_icmp_gt {a b : Int} {off : Int} {tgt : Nat} (hd : decode M.2.1 pc = .ok (.if_icmp .gt off, 3)) (ht : (pc : Int) + off = (tgt : Int)) (k1 : b < a → Go x M tgt ls st h Q) (k2 : a ≤ b → Go x M (pc + 3) ls st h Q) : Go x M pc ls (xI b :: xI a :: st) h Q := by
  intro p e s m args below meth c H locs la hC hH hL hs
  have hb : inR b := ok_hd hs
  have ha : inR a := ok_hd (ok_tl hs)
  have k1 := fun q => k1 q p e s m args below meth c H locs la hC hH hL (ok_tl (ok_tl hs))
  have k2 := fun q => k2 q p e s m args below meth c H locs la hC hH hL (ok_tl (ok_tl hs))
  exact lv_icmp_gt hC.2.1 hC.2.2.1 hd ht (fun q => k1 ((n_lt hb ha).mp q)) (fun q => k2 (by rw [n_lt hb ha] at q; omega))
theorem go_if_gt {a : Int} {off : Int} {tgt : Nat} (hd : decode M.2.1 pc = .ok (.ifCond .gt off, 3)) (ht : (pc : Int) + off = (tgt : Int)) (k1 : 0 < a → Go x M tgt ls st h Q) (k2 : a ≤ 0 → Go x M (pc + 3) ls st h Q) : Go x M pc ls (xI a :: st) h Q := by
  intro p e s m args below meth c H locs la hC hH hL hs
  have ha : inR a := ok_hd hs
  have k1 := fun q => k1 q p e s m args below meth c H locs la hC hH hL (ok_tl hs)
  have k2 := fun q => k2 q p e s m args below meth c H locs la hC hH hL (ok_tl hs)
  refine lv_if_gt hC.2.1 hC.2.2.1 hd ht ?_ ?_
  · rw [← n_0]; exact fun q => k1 ((n_lt n_r0 ha).mp q)
  · rw [← n_0]; exact fun q => k2 (by rw [n_lt n_r0 ha] at q; omega)
theorem go_icmp_gt_t {a b : Int} {off : Int} {tgt : Nat} (hd : decode M.2.1 pc = .ok (.if_icmp .gt off, 3)) (ht : (pc : Int) + off = (tgt : Int)) (q : b < a) (k : Go x M tgt ls st h Q) : Go x M pc ls (xI b :: xI a :: st) h Q := go_icmp_gt hd ht (fun _ => k) (fun z => by omega)
theorem go_icmp_gt_f {a b : Int} {off : Int} {tgt : Nat} (hd : decode M.2.1 pc = .ok (.if_icmp .gt off, 3)) (ht : (pc : Int) + off = (tgt : Int)) (q : a ≤ b) (k : Go x M (pc + 3) ls st h Q) : Go x M pc ls (xI b :: xI a :: st) h Q := go_icmp_gt hd ht (fun z => by omega) (fun _ => k)
theorem go_if_gt_t {a : Int} {off : Int} {tgt : Nat} (hd : decode M.2.1 pc = .ok (.ifCond .gt off, 3)) (ht : (pc : Int) + off = (tgt : Int)) (q : 0 < a) (k : Go x M tgt ls st h Q) : Go x M pc ls (xI a :: st) h Q := go_if_gt hd ht (fun _ => k) (fun z => by omega)
theorem go_if_gt_f {a : Int} {off : Int} {tgt : Nat} (hd : decode M.2.1 pc = .ok (.ifCond .gt off, 3)) (ht : (pc : Int) + off = (tgt : Int)) (q : a ≤ 0) (k : Go x M (pc + 3) ls st h Q) : Go x M pc ls (xI a :: st) h Q := go_if_gt hd ht (fun z => by omega) (fun _ => k)
theorem go_icmp_le {a b : Int} {off : Int} {tgt : Nat} (hd : decode M.2.1 pc = .ok (.if_icmp .le off, 3)) (ht : (pc : Int) + off = (tgt : Int)) (k1 : a ≤ b → Go x M tgt ls st h Q) (k2 : b < a → Go x M (pc + 3) ls st h Q) : Go x M pc ls (xI b :: xI a :: st) h Q := by
  intro p e s m args below meth c H locs la hC hH hL hs
  have hb : inR b := ok_hd hs
  have ha : inR a := ok_hd (ok_tl hs)
  have k1 := fun q => k1 q p e s m args below meth c H locs la hC hH hL (ok_tl (ok_tl hs))
  have k2 := fun q => k2 q p e s m args below meth c H locs la hC hH hL (ok_tl (ok_tl hs))
  exact lv_icmp_le hC.2.1 hC.2.2.1 hd ht (fun q => k1 ((n_le ha hb).mp q)) (fun q => k2 (by rw [n_le ha hb] at q; omega))
theorem go_if_le {a : Int} {off : Int} {tgt : Nat} (hd : decode M.2.1 pc = .ok (.ifCond .le off, 3)) (ht : (pc : Int) + off = (tgt : Int)) (k1 : a ≤ 0 → Go x M tgt ls st h Q) (k2 : 0 < a → Go x M (pc + 3) ls st h Q) : Go x M pc ls (xI a :: st) h Q := by
  intro p e s m args below meth c H locs la hC hH hL hs
  have ha : inR a := ok_hd hs
  have k1 := fun q => k1 q p e s m args below meth c H locs la hC hH hL (ok_tl hs)
  have k2 := fun q => k2 q p e s m args below meth c H locs la hC hH hL (ok_tl hs)
  refine lv_if_le hC.2.1 hC.2.2.1 hd ht ?_ ?_
  · rw [← n_0]; exact fun q => k1 ((n_le ha n_r0).mp q)
  · rw [← n_0]; exact fun q => k2 (by rw [n_le ha n_r0] at q; omega)
theorem go_icmp_le_t {a b : Int} {off : Int} {tgt : Nat} (hd : decode M.2.1 pc = .ok (.if_icmp .le off, 3)) (ht : (pc : Int) + off = (tgt : Int)) (q : a ≤ b) (k : Go x M tgt ls st h Q) : Go x M pc ls (xI b :: xI a :: st) h Q := go_icmp_le hd ht (fun _ => k) (fun z => by omega)
theorem go_icmp_le_f {a b : Int} {off : Int} {tgt : Nat} (hd : decode M.2.1 pc = .ok (.if_icmp .le off, 3)) (ht : (pc : Int) + off = (tgt : Int)) (q : b < a) (k : Go x M (pc + 3) ls st h Q) : Go x M pc ls (xI b :: xI a :: st) h Q := go_icmp_le hd ht (fun z => by omega) (fun _ => k)
theorem go_if_le_t {a : Int} {off : Int} {tgt : Nat} (hd : decode M.2.1 pc = .ok (.ifCond .le off, 3)) (ht : (pc : Int) + off = (tgt : Int)) (q : a ≤ 0) (k : Go x M tgt ls st h Q) : Go x M pc ls (xI a :: st) h Q := go_if_le hd ht (fun _ => k) (fun z => by omega)
theorem go_if_le_f {a : Int} {off : Int} {tgt : Nat} (hd : decode M.2.1 pc = .ok (.ifCond .le off, 3)) (ht : (pc : Int) + off = (tgt : Int)) (q : 0 < a) (k : Go x M (pc + 3) ls st h Q) : Go x M pc ls (xI a :: st) h Q := go_if_le hd ht (fun z => by omega) (fun _ => k)
theorem go_tsw_in {dflt lo hi : Int} {offs : Array Int} {len : Nat} {a off : Int} {tgt : Nat} (hd : decode M.2.1 pc = .ok (.tableswitch dflt lo hi offs, len)) (h1 : lo ≤ a) (h2 : a ≤ hi) (ho : offs[(a - lo).toNat]? = some off) (ht : (pc : Int) + off = (tgt : Int)) (k : Go x M tgt ls st h Q) : Go x M pc ls (xI a :: st) h Q := by
  intro p e s m args below meth c H locs la hC hH hL hs
  have ha : inR a := ok_hd hs
  refine lv_tableIn hC.2.1 hC.2.2.1 hd (off := off) (tgt := tgt) ?_ ?_ ?_ ht (k p e s m args below meth c H locs la hC hH hL (ok_tl hs)) <;> rw [n_toI ha]
  · omega
  · omega
  · exact ho
theorem go_tsw_out {dflt lo hi : Int} {offs : Array Int} {len : Nat} {a : Int} {tgt : Nat} (hd : decode M.2.1 pc = .ok (.tableswitch dflt lo hi offs, len)) (h1 : a < lo ∨ hi < a) (ht : (pc : Int) + dflt = (tgt : Int)) (k : Go x M tgt ls st h Q) : Go x M pc ls (xI a :: st) h Q := by
  intro p e s m args below meth c H locs la hC hH hL hs
  have ha : inR a := ok_hd hs
  exact lv_tableOut hC.2.1 hC.2.2.1 hd (by rw [n_toI ha]; exact h1) ht (k p e s m args below meth c H locs la hC hH hL (ok_tl hs))
/-! longs -/
theorem go_lmul {a b : Int} (hd : decode M.2.1 pc = .ok (.lmul, 1)) (h1 : inL (a * b)) (k : Go x M (pc + 1) ls (xL (a * b) :: st) h Q) : Go x M pc ls (xL b :: xL a :: st) h Q := by
  intro p e s m args below meth c H locs la hC hH hL hs
  refine lv_lmul hC.2.1 hC.2.2.1 hd ?_
  rw [← Int64.ofInt_mul]
  exact k p e s m args below meth c H locs la hC hH hL (ok_cons h1 (ok_tl (ok_tl hs)))
theorem inL_div {a b : Int} (ha : inL a) (h1 : 0 ≤ a) (h2 : 0 < b) : inL (a / b) := ⟨by have := Int.ediv_nonneg h1 (Int.le_of_lt h2); omega, by have := Int.ediv_le_self b h1; have := ha.2; omega⟩
theorem go_ldiv {a b : Int} (hd : decode M.2.1 pc = .ok (.ldiv, 1)) (h1 : 0 ≤ a) (h2 : 0 < b) (k : Go x M (pc + 1) ls (xL (a / b) :: st) h Q) : Go x M pc ls (xL b :: xL a :: st) h Q := by
  intro p e s m args below meth c H locs la hC hH hL hs
  have hb : inL b := ok_hd hs
  have ha : inL a := ok_hd (ok_tl hs)
  refine lv_ldiv hC.2.1 hC.2.2.1 hd (fun q => by rw [show (0 : Int64) = Int64.ofInt 0 from rfl, n_eqL hb ⟨by decide, by decide⟩] at q; omega) ?_
  rw [n_divL ha h1 hb h2]
  exact k p e s m args below meth c H locs la hC hH hL (ok_cons (inL_div ha h1 h2) (ok_tl (ok_tl hs)))
theorem go_lrem {a b : Int} (hd : decode M.2.1 pc = .ok (.lrem, 1)) (h1 : 0 ≤ a) (h2 : 0 < b) (k : Go x M (pc + 1) ls (xL (a % b) :: st) h Q) : Go x M pc ls (xL b :: xL a :: st) h Q := by
  intro p e s m args below meth c H locs la hC hH hL hs
  have hb : inL b := ok_hd hs
  have ha : inL a := ok_hd (ok_tl hs)
  refine lv_lrem hC.2.1 hC.2.2.1 hd (fun q => by rw [show (0 : Int64) = Int64.ofInt 0 from rfl, n_eqL hb ⟨by decide, by decide⟩] at q; omega) ?_
  have e1 : Int64.ofInt a - Int64.ofInt a / Int64.ofInt b * Int64.ofInt b = Int64.ofInt (a % b) := by
    rw [n_divL ha h1 hb h2, ← Int64.ofInt_mul, ← Int64.ofInt_sub]
    congr 1
    have := Int.mul_ediv_add_emod a b
    rw [Int.mul_comm] at this
    omega
  rw [e1]
  have g1 := Int.emod_nonneg a (Int.ne_of_gt h2)
  have g2 := Int.emod_lt_of_pos a h2
  exact k p e s m args below meth c H locs la hC hH hL (ok_cons ⟨by omega, by have := hb.2; omega⟩ (ok_tl (ok_tl hs)))
theorem go_i2l {a : Int} (hd : decode M.2.1 pc = .ok (.i2l, 1)) (k : Go x M (pc + 1) ls (xL a :: st) h Q) : Go x M pc ls (xI a :: st) h Q := by
  intro p e s m args below meth c H locs la hC hH hL hs
  have ha : inR a := ok_hd hs
  have hl : inL a := ⟨by have := ha.1; omega, by have := ha.2; omega⟩
  refine lv_i2l hC.2.1 hC.2.2.1 hd (v := Int64.ofInt a) ?_ (k p e s m args below meth c H locs la hC hH hL (ok_cons hl (ok_tl hs)))
  apply Int64.toInt.inj
  rw [Int32.toInt_toInt64, n_toI ha, n_toL hl]
theorem go_l2i {a : Int} (hd : decode M.2.1 pc = .ok (.l2i, 1)) (h1 : inR a) (k : Go x M (pc + 1) ls (xI a :: st) h Q) : Go x M pc ls (xL a :: st) h Q := by
  intro p e s m args below meth c H locs la hC hH hL hs
  have hl : inL a := ok_hd hs
  refine lv_l2i hC.2.1 hC.2.2.1 hd (v := Int32.ofInt a) ?_ (k p e s m args below meth c H locs la hC hH hL (ok_cons h1 (ok_tl hs)))
  apply Int32.toInt.inj
  rw [Int64.toInt_toInt32, n_toL hl, n_toI h1]
  have := n_toI h1
  rw [Int32.toInt_ofInt] at this
  exact this
theorem go_lcmp {a b z : Int} (hd : decode M.2.1 pc = .ok (.lcmp, 1)) (hz : z = if b < a then 1 else if a = b then 0 else -1) (k : Go x M (pc + 1) ls (xI z :: st) h Q) : Go x M pc ls (xL b :: xL a :: st) h Q := by
  intro p e s m args below meth c H locs la hC hH hL hs
  have hb : inL b := ok_hd hs
  have ha : inL a := ok_hd (ok_tl hs)
  refine W.lcmp hC.2.1 hC.2.2.1 hd ?_
  have e1 : lg_cmp (Int64.ofInt a) (Int64.ofInt b) = Int32.ofInt z := by
    rw [hz]
    unfold lg_cmp
    by_cases q : b < a
    · rw [if_pos ((n_ltL hb ha).mpr q), if_pos q]; rfl
    · rw [if_neg (fun w => q ((n_ltL hb ha).mp w)), if_neg q]
      by_cases q2 : a = b
      · rw [if_pos (by rw [q2]), if_pos q2]; rfl
      · rw [if_neg (fun w => q2 ((n_eqL ha hb).mp w)), if_neg q2]; rfl
  rw [e1]
  have hr : inR z := by
    rw [hz]
    by_cases q : b < a
    · rw [if_pos q]; exact n_r1
    · rw [if_neg q]
      by_cases q2 : a = b
      · rw [if_pos q2]; exact n_r0
      · rw [if_neg q2]; exact ⟨by decide, by decide⟩
  exact k p e s m args below meth c H locs la hC hH hL (ok_cons hr (ok_tl (ok_tl hs)))
/-! returns -/
theorem go_ireturn {z : Int} {Q : Int → mH → Prop} (hd : decode M.2.1 pc = .ok (.ireturn, 1)) (hr : M.2.2.2.1 = some .int) (k : Q z h) : Go x M pc ls [xI z] h (qI Q) := by
  intro p e s m args below meth c H locs la hC hH hL hs
  refine W.iret hC.2.1 hC.2.2.1 (by rw [hC.2.2.2.1, hr]) (fun t ht hW => ?_) hH.2.1.2.2 hd hC.2.2.2.2.2.2.2.2.1
  exact ⟨⟨xI z, h, rfl, ⟨z, rfl, k⟩, ok_hd hs, hH.2.2, by rw [ht]; exact hH.1⟩, hH.2.1.F ht⟩
theorem go_zreturn {z : Int} {Q : Int → mH → Prop} (hd : decode M.2.1 pc = .ok (.ireturn, 1)) (hr : M.2.2.2.1 = some .boolean) (hz : z = 0 ∨ z = 1) (k : Q z h) : Go x M pc ls [xI z] h (qI Q) := by
  intro p e s m args below meth c H locs la hC hH hL hs
  refine W.zret hC.2.1 hC.2.2.1 (ty := .boolean) (by rw [hC.2.2.2.1, hr]) ?_ (fun t ht hW => ?_) hH.2.1.2.2 hd hC.2.2.2.2.2.2.2.2.1
  · rcases hz with rfl | rfl <;> rfl
  · exact ⟨⟨xI z, h, rfl, ⟨z, rfl, k⟩, ok_hd hs, hH.2.2, by rw [ht]; exact hH.1⟩, hH.2.1.F ht⟩
theorem go_lreturn {z : Int} {Q : Int → mH → Prop} (hd : decode M.2.1 pc = .ok (.lreturn, 1)) (hr : M.2.2.2.1 = some .long) (k : Q z h) : Go x M pc ls [xL z] h (qL Q) := by
  intro p e s m args below meth c H locs la hC hH hL hs
  refine W.lret hC.2.1 hC.2.2.1 (by rw [hC.2.2.2.1, hr]) (fun t ht hW => ?_) hH.2.1.2.2 hd hC.2.2.2.2.2.2.2.2.1
  exact ⟨⟨xL z, h, rfl, ⟨z, rfl, k⟩, ok_hd hs, hH.2.2, by rw [ht]; exact hH.1⟩, hH.2.1.F ht⟩
theorem go_return {Q : mH → Prop} (hd : decode M.2.1 pc = .ok (.return_, 1)) (hr : M.2.2.2.1 = none) (k : Q h) : Go x M pc ls [] h (qV Q) := by
  intro p e s m args below meth c H locs la hC hH hL hs
  refine W.vret hC.2.1 hC.2.2.1 (by rw [hC.2.2.2.1, hr]) (fun t ht hW => ?_) hH.2.1.2.2 hd hC.2.2.2.2.2.2.2.2.1
  exact ⟨⟨xU, h, rfl, ⟨rfl, k⟩, trivial, hH.2.2, by rw [ht]; exact hH.1⟩, hH.2.1.F ht⟩
end MROWS
