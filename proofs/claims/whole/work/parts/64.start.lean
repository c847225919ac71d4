/-! ===== the first state ===== -/
def h0 : mH := fun i k => if kd i = 4 then (if k = 0 then 2 else if k = 1 then 7 else if k = 2 then 24 else if k = 3 then 4 else 0) else if kd i = 5 then (if k = 2 then 65535 else 0) else if kd i = 2 then (if k = 2 then 1 else if k = 3 then 1 else 0) else if i = 53 then (if k = 0 then 2 else if k = 1 then 7 else if k = 2 then 24 else if k = 3 then 4 else 0) else 0
def a0 : Ab := ([], (2, 7, 24, 4, []), [], none, none)
theorem h0_bd (i : Nat) (k : Int) : 0 ≤ h0 i k ∧ h0 i k ≤ 65535 := by
  unfold h0
  repeat' split
  all_goals omega
theorem okh0 : okh h0 := by
  intro i k
  have := h0_bd i k
  split
  · exact ⟨by omega, by omega⟩
  · exact ⟨by omega, by omega⟩
theorem ok_a0 : AbOk a0 := ⟨⟨Nat.zero_le _, fun k hk => absurd hk (Nat.not_lt_zero k)⟩, ⟨⟨by decide, by decide, by decide, by decide, by decide, by decide, by decide, by decide⟩, Nat.zero_le _, fun k hk => absurd hk (Nat.not_lt_zero k)⟩, ⟨Nat.zero_le _, fun v hv => absurd hv (by simp [a0])⟩, (fun v hv => by cases hv), (fun v hv => by cases hv)⟩
theorem row0 {r : Nat} (h : h0 r 1 = 0) : RowL h0 r [] := ⟨h, fun k hk => absurd hk (Nat.not_lt_zero k)⟩
theorem lp_a0 : LpS h0 a0 := by
  refine ⟨row0 rfl, ⟨⟨rfl, rfl, rfl, rfl⟩, row0 rfl, rfl, ⟨rfl, ?_⟩, rfl, ⟨rfl, rfl, rfl, rfl, row0 rfl⟩⟩, ⟨fun k _ => rfl, (h0_bd _ _).1, (h0_bd _ _).1⟩, ⟨0, rfl, rfl, by decide, Nat.zero_le _, fun k _ => (h0_bd _ _).1, fun j v hv => by simp [a0] at hv⟩, ⟨rfl, (h0_bd _ _).1, fun v hv => by cases hv⟩, ⟨rfl, (h0_bd _ _).1, fun v hv => by cases hv⟩⟩
  show h0 7 1 = thC (fun _ => 0) 85
  rw [thC_zero]; rfl
theorem md_a0 : MdS h0 a0 := ⟨⟨rfl, fun k hk => absurd hk (Nat.not_lt_zero k)⟩, ⟨rfl, rfl, rfl, rfl, rfl, fun k hk => absurd hk (Nat.not_lt_zero k)⟩, ⟨rfl, fun j v hv => by simp [a0] at hv⟩, ⟨⟨rfl, fun v hv => by cases hv⟩, ⟨rfl, fun v hv => by cases hv⟩⟩, fun k _ => rfl⟩
/-! the cells that were made are the pool -/
def adA (ad ad2 : Nat → Nat) : Nat → Nat := fun i => if i < 52 then ad i else ad2 i
abbrev xA (x : mX) (ad ad2 : Nat → Nat) : mX := (x.1, adA ad ad2, x.2.2)
theorem nwF_h0 : nwF = fun k : Nat => Int32.ofInt (h0 53 (k : Int)) := by
  funext k
  match k with
  | 0 => rfl
  | 1 => rfl
  | 2 => rfl
  | 3 => rfl
  | 4 => rfl
  | k + 5 =>
    have e1 : nwF (k + 5) = 0 := by
      show upd (upd (upd (upd (upd (fun _ => 0) 0 2) 1 7) 2 24) 3 4) 4 0 (k + 5) = 0
      unfold upd
      rw [if_neg (by omega), if_neg (by omega), if_neg (by omega), if_neg (by omega), if_neg (by omega)]
    have e2 : h0 53 ((k + 5 : Nat) : Int) = 0 := by
      show (if (((k + 5 : Nat) : Int)) = 0 then (2 : Int) else if (((k + 5 : Nat) : Int)) = 1 then 7 else if (((k + 5 : Nat) : Int)) = 2 then 24 else if (((k + 5 : Nat) : Int)) = 3 then 4 else 0) = 0
      rw [if_neg (by omega), if_neg (by omega), if_neg (by omega), if_neg (by omega)]
    rw [e1, e2]; rfl
theorem arrV_congr {cI : ClassId} {N : Nat} {f g : Nat → Value} (h : ∀ j, j < N → f j = g j) : arrV cI N f = arrV cI N g := by
  unfold arrV
  congr 2
  funext j
  exact h j.val j.isLt
theorem rng_at (p0 p1 p2 p3 p4 p5 : Nat) : ∀ j, j < 6 → rngF p0 p1 p2 p3 p4 p5 j = some ([p0, p1, p2, p3, p4, p5].getD j 0)
  | 0, _ => rfl
  | 1, _ => rfl
  | 2, _ => rfl
  | 3, _ => rfl
  | 4, _ => rfl
  | 5, _ => rfl
  | j + 6, h => absurd h (by omega)

set_option maxHeartbeats 4000000 in
set_option maxRecDepth 100000 in
theorem pool_ad (x : mX) (ad ad2 : Nat → Nat) : ∀ k, k < 62 → ∃ e : va_E, (wLP x ad ++ wMd x ad2)[k]? = some (adA ad ad2 k, e)
  | 0, _ => ⟨_, rfl⟩
  | 1, _ => ⟨_, rfl⟩
  | 2, _ => ⟨_, rfl⟩
  | 3, _ => ⟨_, rfl⟩
  | 4, _ => ⟨_, rfl⟩
  | 5, _ => ⟨_, rfl⟩
  | 6, _ => ⟨_, rfl⟩
  | 7, _ => ⟨_, rfl⟩
  | 8, _ => ⟨_, rfl⟩
  | 9, _ => ⟨_, rfl⟩
  | 10, _ => ⟨_, rfl⟩
  | 11, _ => ⟨_, rfl⟩
  | 12, _ => ⟨_, rfl⟩
  | 13, _ => ⟨_, rfl⟩
  | 14, _ => ⟨_, rfl⟩
  | 15, _ => ⟨_, rfl⟩
  | 16, _ => ⟨_, rfl⟩
  | 17, _ => ⟨_, rfl⟩
  | 18, _ => ⟨_, rfl⟩
  | 19, _ => ⟨_, rfl⟩
  | 20, _ => ⟨_, rfl⟩
  | 21, _ => ⟨_, rfl⟩
  | 22, _ => ⟨_, rfl⟩
  | 23, _ => ⟨_, rfl⟩
  | 24, _ => ⟨_, rfl⟩
  | 25, _ => ⟨_, rfl⟩
  | 26, _ => ⟨_, rfl⟩
  | 27, _ => ⟨_, rfl⟩
  | 28, _ => ⟨_, rfl⟩
  | 29, _ => ⟨_, rfl⟩
  | 30, _ => ⟨_, rfl⟩
  | 31, _ => ⟨_, rfl⟩
  | 32, _ => ⟨_, rfl⟩
  | 33, _ => ⟨_, rfl⟩
  | 34, _ => ⟨_, rfl⟩
  | 35, _ => ⟨_, rfl⟩
  | 36, _ => ⟨_, rfl⟩
  | 37, _ => ⟨_, rfl⟩
  | 38, _ => ⟨_, rfl⟩
  | 39, _ => ⟨_, rfl⟩
  | 40, _ => ⟨_, rfl⟩
  | 41, _ => ⟨_, rfl⟩
  | 42, _ => ⟨_, rfl⟩
  | 43, _ => ⟨_, rfl⟩
  | 44, _ => ⟨_, rfl⟩
  | 45, _ => ⟨_, rfl⟩
  | 46, _ => ⟨_, rfl⟩
  | 47, _ => ⟨_, rfl⟩
  | 48, _ => ⟨_, rfl⟩
  | 49, _ => ⟨_, rfl⟩
  | 50, _ => ⟨_, rfl⟩
  | 51, _ => ⟨_, rfl⟩
  | 52, _ => ⟨_, rfl⟩
  | 53, _ => ⟨_, rfl⟩
  | 54, _ => ⟨_, rfl⟩
  | 55, _ => ⟨_, rfl⟩
  | 56, _ => ⟨_, rfl⟩
  | 57, _ => ⟨_, rfl⟩
  | 58, _ => ⟨_, rfl⟩
  | 59, _ => ⟨_, rfl⟩
  | 60, _ => ⟨_, rfl⟩
  | 61, _ => ⟨_, rfl⟩
  | k + 62, h => absurd h (by omega)

set_option maxHeartbeats 4000000 in
set_option maxRecDepth 100000 in
theorem md_fs (x : mX) (ad ad2 : Nat → Nat) : ∀ k, k < 26 → vp_V (mdF ad2) k = (((fks 9)[k]?).map (fun t => fv (xA x ad ad2) h0 9 52 k t)).getD .null
  | 0, _ => rfl
  | 1, _ => rfl
  | 2, _ => rfl
  | 3, _ => rfl
  | 4, _ => rfl
  | 5, _ => rfl
  | 6, _ => rfl
  | 7, _ => rfl
  | 8, _ => rfl
  | 9, _ => rfl
  | 10, _ => rfl
  | 11, _ => rfl
  | 12, _ => rfl
  | 13, _ => rfl
  | 14, _ => rfl
  | 15, _ => rfl
  | 16, _ => rfl
  | 17, _ => rfl
  | 18, _ => rfl
  | 19, _ => rfl
  | 20, _ => rfl
  | 21, _ => rfl
  | 22, _ => rfl
  | 23, _ => rfl
  | 24, _ => rfl
  | 25, _ => rfl
  | k + 26, h => absurd h (by omega)

theorem vp_idx (l : List Nat) (g : Nat → Nat → Value) (k : Nat) : vp_V (l.mapIdx g) k = ((l[k]?).map (g k)).getD .null := by
  unfold vp_V
  rw [List.getD_eq_getElem?_getD, List.getElem?_mapIdx]
theorem w52 (x : mX) (ad ad2 : Nat → Nat) : (wLP x ad ++ wMd x ad2)[52]? = some (ad2 52, .inr (9, mdF ad2)) := rfl
theorem cl9 {r : vw_C} (h : vwCl[9]? = some r) : r.2.2 = 26 := by
  have h1 : vwCl[9]? = some (RX10, TX10, 26) := rfl
  rw [h1] at h
  rw [← Option.some.inj h]
theorem pool_52 {x : mX} {ad ad2 : Nat → Nat} {H : Heap} (hP : va_P x.2.2.1 vwCl (wLP x ad ++ wMd x ad2) H) : va_at x.2.2.1 vwCl (adA ad ad2 52, cell (xA x ad ad2) h0 52) H := by
  have z := hP 52 _ (w52 x ad ad2)
  rw [cell_obj (x := xA x ad ad2) (h := h0) (i := 52) (c := 9) rfl (by decide)]
  obtain ⟨r, hr, ht⟩ := z
  refine ⟨r, hr, ?_⟩
  refine t_OB.to ht (fun k hk => ?_)
  have hk : k < r.2.2 := hk
  rw [cl9 hr] at hk
  rw [vp_idx]
  exact md_fs x ad ad2 k hk
theorem w27 (x : mX) (ad ad2 : Nat → Nat) : (wLP x ad ++ wMd x ad2)[27]? = some (ad 27, .inl (x.2.2.2.2.2, 6, .inr (.inr (.inr (.inr (rngF (ad 28) (ad 31) (ad 34) (ad 37) (ad 40) (ad 43))))))) := rfl
theorem rng_ad (ad ad2 : Nat → Nat) : ∀ j, j < 6 → rngF (ad 28) (ad 31) (ad 34) (ad 37) (ad 40) (ad 43) j = some (adA ad ad2 (28 + 3 * j))
  | 0, _ => rfl
  | 1, _ => rfl
  | 2, _ => rfl
  | 3, _ => rfl
  | 4, _ => rfl
  | 5, _ => rfl
  | j + 6, h => absurd h (by omega)
theorem pool_27 {x : mX} {ad ad2 : Nat → Nat} {H : Heap} (hP : va_P x.2.2.1 vwCl (wLP x ad ++ wMd x ad2) H) : va_at x.2.2.1 vwCl (adA ad ad2 27, cell (xA x ad ad2) h0 27) H := by
  have z := hP 27 _ (w27 x ad ad2)
  rw [cell_past (x := xA x ad ad2) (h := h0) (i := 27) rfl]
  have z : H[ad 27]? = some (arrV x.2.2.2.2.2 6 (fun j => va_rf (rngF (ad 28) (ad 31) (ad 34) (ad 37) (ad 40) (ad 43) j))) := z
  show H[ad 27]? = some (arrV x.2.2.2.2.2 6 (fun j => va_rf (some (adA ad ad2 (28 + 3 * j)))))
  refine z.trans (congrArg some (arrV_congr (fun j hj => ?_)))
  show va_rf _ = va_rf _
  rw [rng_ad ad ad2 j hj]
theorem pool_53 {x : mX} {ad ad2 : Nat → Nat} {H : Heap} (hP : va_P x.2.2.1 vwCl (wLP x ad ++ wMd x ad2) H) : va_at x.2.2.1 vwCl (adA ad ad2 53, cell (xA x ad ad2) h0 53) H := by
  have z : H[adA ad ad2 53]? = some (vp_cell x.2.2.2.1 (65, .inl nwF)) := hP 53 (adA ad ad2 53, .inl (x.2.2.2.1, 65, .inl nwF)) rfl
  rw [nwF_h0] at z
  exact z

set_option maxHeartbeats 4000000 in
set_option maxRecDepth 100000 in
theorem pool_at {x : mX} {ad ad2 : Nat → Nat} {H : Heap} (hP : va_P x.2.2.1 vwCl (wLP x ad ++ wMd x ad2) H) : ∀ k, k < 62 → va_at x.2.2.1 vwCl (adA ad ad2 k, cell (xA x ad ad2) h0 k) H
  | 0, _ => hP 0 (adA ad ad2 0, cell (xA x ad ad2) h0 0) rfl
  | 1, _ => hP 1 (adA ad ad2 1, cell (xA x ad ad2) h0 1) rfl
  | 2, _ => hP 2 (adA ad ad2 2, cell (xA x ad ad2) h0 2) rfl
  | 3, _ => hP 3 (adA ad ad2 3, cell (xA x ad ad2) h0 3) rfl
  | 4, _ => hP 4 (adA ad ad2 4, cell (xA x ad ad2) h0 4) rfl
  | 5, _ => hP 5 (adA ad ad2 5, cell (xA x ad ad2) h0 5) rfl
  | 6, _ => hP 6 (adA ad ad2 6, cell (xA x ad ad2) h0 6) rfl
  | 7, _ => hP 7 (adA ad ad2 7, cell (xA x ad ad2) h0 7) rfl
  | 8, _ => hP 8 (adA ad ad2 8, cell (xA x ad ad2) h0 8) rfl
  | 9, _ => hP 9 (adA ad ad2 9, cell (xA x ad ad2) h0 9) rfl
  | 10, _ => hP 10 (adA ad ad2 10, cell (xA x ad ad2) h0 10) rfl
  | 11, _ => hP 11 (adA ad ad2 11, cell (xA x ad ad2) h0 11) rfl
  | 12, _ => hP 12 (adA ad ad2 12, cell (xA x ad ad2) h0 12) rfl
  | 13, _ => hP 13 (adA ad ad2 13, cell (xA x ad ad2) h0 13) rfl
  | 14, _ => hP 14 (adA ad ad2 14, cell (xA x ad ad2) h0 14) rfl
  | 15, _ => hP 15 (adA ad ad2 15, cell (xA x ad ad2) h0 15) rfl
  | 16, _ => hP 16 (adA ad ad2 16, cell (xA x ad ad2) h0 16) rfl
  | 17, _ => hP 17 (adA ad ad2 17, cell (xA x ad ad2) h0 17) rfl
  | 18, _ => hP 18 (adA ad ad2 18, cell (xA x ad ad2) h0 18) rfl
  | 19, _ => hP 19 (adA ad ad2 19, cell (xA x ad ad2) h0 19) rfl
  | 20, _ => hP 20 (adA ad ad2 20, cell (xA x ad ad2) h0 20) rfl
  | 21, _ => hP 21 (adA ad ad2 21, cell (xA x ad ad2) h0 21) rfl
  | 22, _ => hP 22 (adA ad ad2 22, cell (xA x ad ad2) h0 22) rfl
  | 23, _ => hP 23 (adA ad ad2 23, cell (xA x ad ad2) h0 23) rfl
  | 24, _ => hP 24 (adA ad ad2 24, cell (xA x ad ad2) h0 24) rfl
  | 25, _ => hP 25 (adA ad ad2 25, cell (xA x ad ad2) h0 25) rfl
  | 26, _ => hP 26 (adA ad ad2 26, cell (xA x ad ad2) h0 26) rfl
  | 27, _ => pool_27 hP
  | 28, _ => hP 28 (adA ad ad2 28, cell (xA x ad ad2) h0 28) rfl
  | 29, _ => hP 29 (adA ad ad2 29, cell (xA x ad ad2) h0 29) rfl
  | 30, _ => hP 30 (adA ad ad2 30, cell (xA x ad ad2) h0 30) rfl
  | 31, _ => hP 31 (adA ad ad2 31, cell (xA x ad ad2) h0 31) rfl
  | 32, _ => hP 32 (adA ad ad2 32, cell (xA x ad ad2) h0 32) rfl
  | 33, _ => hP 33 (adA ad ad2 33, cell (xA x ad ad2) h0 33) rfl
  | 34, _ => hP 34 (adA ad ad2 34, cell (xA x ad ad2) h0 34) rfl
  | 35, _ => hP 35 (adA ad ad2 35, cell (xA x ad ad2) h0 35) rfl
  | 36, _ => hP 36 (adA ad ad2 36, cell (xA x ad ad2) h0 36) rfl
  | 37, _ => hP 37 (adA ad ad2 37, cell (xA x ad ad2) h0 37) rfl
  | 38, _ => hP 38 (adA ad ad2 38, cell (xA x ad ad2) h0 38) rfl
  | 39, _ => hP 39 (adA ad ad2 39, cell (xA x ad ad2) h0 39) rfl
  | 40, _ => hP 40 (adA ad ad2 40, cell (xA x ad ad2) h0 40) rfl
  | 41, _ => hP 41 (adA ad ad2 41, cell (xA x ad ad2) h0 41) rfl
  | 42, _ => hP 42 (adA ad ad2 42, cell (xA x ad ad2) h0 42) rfl
  | 43, _ => hP 43 (adA ad ad2 43, cell (xA x ad ad2) h0 43) rfl
  | 44, _ => hP 44 (adA ad ad2 44, cell (xA x ad ad2) h0 44) rfl
  | 45, _ => hP 45 (adA ad ad2 45, cell (xA x ad ad2) h0 45) rfl
  | 46, _ => hP 46 (adA ad ad2 46, cell (xA x ad ad2) h0 46) rfl
  | 47, _ => hP 47 (adA ad ad2 47, cell (xA x ad ad2) h0 47) rfl
  | 48, _ => hP 48 (adA ad ad2 48, cell (xA x ad ad2) h0 48) rfl
  | 49, _ => hP 49 (adA ad ad2 49, cell (xA x ad ad2) h0 49) rfl
  | 50, _ => hP 50 (adA ad ad2 50, cell (xA x ad ad2) h0 50) rfl
  | 51, _ => hP 51 (adA ad ad2 51, cell (xA x ad ad2) h0 51) rfl
  | 52, _ => pool_52 hP
  | 53, _ => pool_53 hP
  | 54, _ => hP 54 (adA ad ad2 54, cell (xA x ad ad2) h0 54) rfl
  | 55, _ => hP 55 (adA ad ad2 55, cell (xA x ad ad2) h0 55) rfl
  | 56, _ => hP 56 (adA ad ad2 56, cell (xA x ad ad2) h0 56) rfl
  | 57, _ => hP 57 (adA ad ad2 57, cell (xA x ad ad2) h0 57) rfl
  | 58, _ => hP 58 (adA ad ad2 58, cell (xA x ad ad2) h0 58) rfl
  | 59, _ => hP 59 (adA ad ad2 59, cell (xA x ad ad2) h0 59) rfl
  | 60, _ => hP 60 (adA ad ad2 60, cell (xA x ad ad2) h0 60) rfl
  | 61, _ => hP 61 (adA ad ad2 61, cell (xA x ad ad2) h0 61) rfl
  | k + 62, h => absurd h (by omega)

theorem pool_P {x : mX} {ad ad2 : Nat → Nat} {H : Heap} (hP : va_P x.2.2.1 vwCl (wLP x ad ++ wMd x ad2) H) : va_P x.2.2.1 vwCl (wl (xA x ad ad2) h0) H := fun k q hk => by
  obtain ⟨h1, rfl⟩ := wl_get hk
  exact pool_at hP k h1
theorem pool_O {x : mX} {ad ad2 : Nat → Nat} {A : Nat → Prop} (hD : va_D A (wLP x ad ++ wMd x ad2)) : Okx (xA x ad ad2) ∧ ∀ i, i < 62 → A (adA ad ad2 i) := by
  refine ⟨fun i j hi hj e => ?_, fun i hi => ?_⟩
  · obtain ⟨e1, h1⟩ := pool_ad x ad ad2 i hi
    obtain ⟨e2, h2⟩ := pool_ad x ad ad2 j hj
    exact hD.1 i j _ _ h1 h2 e
  · obtain ⟨e1, h1⟩ := pool_ad x ad ad2 i hi
    exact hD.2 i _ h1
