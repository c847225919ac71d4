/-! ===== the constructors ===== -/
abbrev zI (x : mX) (n : Nat) : va_E := .inl (x.2.2.2.1, n, .inl (fun _ => 0))
abbrev wRow (x : mX) (a b n : Nat) : va_W := [(a, .inr (6, [.ref b, .int 0])), (b, zI x n)]
abbrev wPast (x : mX) (a b c : Nat) : va_W := (a, .inr (4, [.int 2, .int 7, .int 24, .int 4, .ref b])) :: wRow x b c 60
abbrev wCtx (x : mX) (a b : Nat) : va_W := [(a, .inr (0, [.ref b, .int 0])), (b, zI x 340)]
abbrev wRng (x : mX) (a b c : Nat) : va_W := (a, .inr (5, [.ref b, .int 0, .int 65535, .int 0, .int 0, .int 0, .int 0, .int 0])) :: wRow x b c 722
abbrev wStg (x : mX) (a b : Nat) : va_W := [(a, .inr (7, [.ref b, .int 0, .int 0, .int 0])), (b, zI x 5)]
abbrev wOd (a : Nat) : va_W := [(a, .inr (2, [.int 0, .int 0, .long 1, .long 1]))]
abbrev wPk (x : mX) (a b c d e f g h i j k : Nat) : va_W := (a, .inr (3, [.ref b, .ref e, .ref g, .ref j, .int 0, .int 0, .int 0])) :: (wPast x b c d ++ (wCtx x e f ++ (wRng x g h i ++ wStg x j k)))

theorem ccX6_init : Cond.instanceMethod mtX6_init.1 ∈ gd_tbl ∧ mCl mtX6_init 1 := ⟨(inG (i := 62) (by decide +kernel) rfl), (inG (i := 63) (by decide +kernel) rfl), (inG (i := 39) (by decide +kernel) rfl), ⟨by decide +kernel, by decide +kernel, by decide +kernel⟩, by decide⟩
theorem ilX4_26 : mIl RX4 26 mtX6_init 1 := ⟨Or.inl (inG (i := 92) (by decide +kernel) rfl), ccX6_init.1, ccX6_init.2, rfl, rfl⟩
theorem ccX8_init : Cond.instanceMethod mtX8_init.1 ∈ gd_tbl ∧ mCl mtX8_init 0 := ⟨(inG (i := 140) (by decide +kernel) rfl), (inG (i := 141) (by decide +kernel) rfl), (inG (i := 44) (by decide +kernel) rfl), ⟨by decide +kernel, by decide +kernel, by decide +kernel⟩, by decide⟩
theorem ilX5_3 : mIl RX5 3 mtX8_init 0 := ⟨Or.inr ⟨"LongestPast", (inN (i := 139) (by decide +kernel) rfl)⟩, ccX8_init.1, ccX8_init.2, rfl, rfl⟩
theorem ilX5_11 : mIl RX5 11 mtX6_init 1 := ⟨Or.inl (inG (i := 144) (by decide +kernel) rfl), ccX6_init.1, ccX6_init.2, rfl, rfl⟩
theorem ccX4_init : Cond.instanceMethod mtX4_init.1 ∈ gd_tbl ∧ mCl mtX4_init 0 := ⟨(inG (i := 88) (by decide +kernel) rfl), (inG (i := 89) (by decide +kernel) rfl), (inG (i := 42) (by decide +kernel) rfl), ⟨by decide +kernel, by decide +kernel, by decide +kernel⟩, by decide⟩
theorem ilX3_11 : mIl RX3 11 mtX4_init 0 := ⟨Or.inr ⟨"LongestPast", (inN (i := 87) (by decide +kernel) rfl)⟩, ccX4_init.1, ccX4_init.2, rfl, rfl⟩
theorem ccX0_init : Cond.instanceMethod mtX0_init.1 ∈ gd_tbl ∧ mCl mtX0_init 0 := ⟨(inG (i := 122) (by decide +kernel) rfl), (inG (i := 123) (by decide +kernel) rfl), (inG (i := 43) (by decide +kernel) rfl), ⟨by decide +kernel, by decide +kernel, by decide +kernel⟩, by decide⟩
theorem ilX3_20 : mIl RX3 20 mtX0_init 0 := ⟨Or.inr ⟨"LongestPast", (inN (i := 121) (by decide +kernel) rfl)⟩, ccX0_init.1, ccX0_init.2, rfl, rfl⟩
theorem ccX5_init : Cond.instanceMethod mtX5_init.1 ∈ gd_tbl ∧ mCl mtX5_init 0 := ⟨(inG (i := 137) (by decide +kernel) rfl), (inG (i := 138) (by decide +kernel) rfl), (inG (i := 45) (by decide +kernel) rfl), ⟨by decide +kernel, by decide +kernel, by decide +kernel⟩, by decide⟩
theorem ilX3_27 : mIl RX3 27 mtX5_init 0 := ⟨Or.inr ⟨"LongestPast", (inN (i := 136) (by decide +kernel) rfl)⟩, ccX5_init.1, ccX5_init.2, rfl, rfl⟩
theorem ccX7_init : Cond.instanceMethod mtX7_init.1 ∈ gd_tbl ∧ mCl mtX7_init 0 := ⟨(inG (i := 178) (by decide +kernel) rfl), (inG (i := 179) (by decide +kernel) rfl), (inG (i := 46) (by decide +kernel) rfl), ⟨by decide +kernel, by decide +kernel, by decide +kernel⟩, by decide⟩
theorem ilX3_34 : mIl RX3 34 mtX7_init 0 := ⟨Or.inr ⟨"LongestPast", (inN (i := 177) (by decide +kernel) rfl)⟩, ccX7_init.1, ccX7_init.2, rfl, rfl⟩
theorem ilX2_3 : mIl RX2 3 mtX8_init 0 := ⟨Or.inr ⟨"LongestPast", (inN (i := 227) (by decide +kernel) rfl)⟩, ccX8_init.1, ccX8_init.2, rfl, rfl⟩
theorem ilX1_24 : mIl RX1 24 mtX4_init 0 := ⟨Or.inr ⟨"LongestPast", (inN (i := 252) (by decide +kernel) rfl)⟩, ccX4_init.1, ccX4_init.2, rfl, rfl⟩
theorem ilX9_11 : mIl RX9 11 mtX6_init 1 := ⟨Or.inl (inG (i := 61) (by decide +kernel) rfl), ccX6_init.1, ccX6_init.2, rfl, rfl⟩
theorem ccX3_init : Cond.instanceMethod mtX3_init.1 ∈ gd_tbl ∧ mCl mtX3_init 0 := ⟨(inG (i := 82) (by decide +kernel) rfl), (inG (i := 83) (by decide +kernel) rfl), (inG (i := 41) (by decide +kernel) rfl), ⟨by decide +kernel, by decide +kernel, by decide +kernel⟩, by decide⟩
theorem ilX9_20 : mIl RX9 20 mtX3_init 0 := ⟨Or.inr ⟨"LongestPast", (inN (i := 81) (by decide +kernel) rfl)⟩, ccX3_init.1, ccX3_init.2, rfl, rfl⟩
theorem ccX2_init : Cond.instanceMethod mtX2_init.1 ∈ gd_tbl ∧ mCl mtX2_init 0 := ⟨(inG (i := 225) (by decide +kernel) rfl), (inG (i := 226) (by decide +kernel) rfl), (inG (i := 47) (by decide +kernel) rfl), ⟨by decide +kernel, by decide +kernel, by decide +kernel⟩, by decide⟩
theorem ilX9_30 : mIl RX9 30 mtX2_init 0 := ⟨Or.inr ⟨"LongestPast", (inN (i := 224) (by decide +kernel) rfl)⟩, ccX2_init.1, ccX2_init.2, rfl, rfl⟩
theorem ccX1_init : Cond.instanceMethod mtX1_init.1 ∈ gd_tbl ∧ mCl mtX1_init 0 := ⟨(inG (i := 247) (by decide +kernel) rfl), (inG (i := 248) (by decide +kernel) rfl), (inG (i := 48) (by decide +kernel) rfl), ⟨by decide +kernel, by decide +kernel, by decide +kernel⟩, by decide⟩
theorem ilX9_37 : mIl RX9 37 mtX1_init 0 := ⟨Or.inl (inG (i := 246) (by decide +kernel) rfl), ccX1_init.1, ccX1_init.2, rfl, rfl⟩
theorem ilX9_44 : mIl RX9 44 mtX4_init 0 := ⟨Or.inr ⟨"LongestPast", (inN (i := 265) (by decide +kernel) rfl)⟩, ccX4_init.1, ccX4_init.2, rfl, rfl⟩
set_option maxHeartbeats 4000000 in
set_option maxRecDepth 100000 in
theorem cn_Row {x : mX} {a N : Nat} {n : Int32} (hn : ¬ n < 0) (hN : n.toNatClampNeg = N) (hb : N * 4 ≤ 536870912) : Cn x mtX6_init [.ref a, .int n] [(a, .inr (6, [.null, .int 0]))] (fun w => ∃ b, w = wRow x a b N) 1 N := by
  refine bo_enter (by decide +kernel) rfl (Nat.le_of_ble_eq_true rfl) rfl ?_
  refine bo_aload 0 dX6_init_0 rfl rfl ?_
  refine bo_obj (inG (i := 64) (by decide +kernel) rfl) dX6_init_1 (by decide) (Nat.le_of_ble_eq_true rfl) ?_
  refine bo_aload 0 dX6_init_4 rfl rfl ?_
  refine bo_iconst (v := 0) dX6_init_5 (by decide +kernel) ?_
  refine bo_put (own := RX6) (wr := []) (T := TX6) rfl ingX6 tyX6 tyX6_ok nmX6 1 (by decide) (inG (i := 69) (by decide +kernel) rfl) rfl (fun _ => ⟨rfl, rfl⟩) (tyX6_ok 1 (by decide)) rfl rfl (Nat.le_of_ble_eq_true rfl) dX6_init_6 rfl ?_
  dsimp only [List.set, List.nil_append, List.cons_append]
  refine bo_aload 0 dX6_init_9 rfl rfl ?_
  refine bo_iload 1 dX6_init_10 rfl rfl ?_
  refine bo_iconst (v := 0) dX6_init_11 (by decide +kernel) ?_
  refine bo_max (r := n) mmX6_13 dX6_init_12 (by decide) (Nat.le_of_ble_eq_true rfl) (by omega) (by omega) (if_neg hn) ?_
  refine bo_newa dX6_init_15 hn hN hb (by omega) (by omega) (fun b => ?_)
  refine bo_put (own := RX6) (wr := []) (T := TX6) rfl ingX6 tyX6 tyX6_ok nmX6 0 (by decide) (inG (i := 68) (by decide +kernel) rfl) rfl (fun _ => ⟨rfl, rfl⟩) (tyX6_ok 0 (by decide)) rfl rfl (Nat.le_of_ble_eq_true rfl) dX6_init_17 rfl ?_
  dsimp only [List.set, List.nil_append, List.cons_append]
  exact bo_ret dX6_init_20 (by omega) (by omega) ⟨b, rfl⟩

set_option maxHeartbeats 4000000 in
set_option maxRecDepth 100000 in
theorem cn_Tk {x : mX} {a : Nat} : Cn x mtX8_init [.ref a] [] (fun w => w = []) 0 0 := by
  refine bo_enter (by decide +kernel) rfl (Nat.le_of_ble_eq_true rfl) rfl ?_
  refine bo_aload 0 dX8_init_0 rfl rfl ?_
  refine bo_obj (inG (i := 142) (by decide +kernel) rfl) dX8_init_1 (by decide) (Nat.le_of_ble_eq_true rfl) ?_
  exact bo_ret dX8_init_4 (by omega) (by omega) rfl

set_option maxHeartbeats 4000000 in
set_option maxRecDepth 100000 in
theorem cn_Past {x : mX} {a : Nat} : Cn x mtX4_init [.ref a] [(a, .inr (4, [.int 0, .int 0, .int 0, .int 0, .null]))] (fun w => ∃ b c, w = wPast x a b c) 2 62 := by
  refine bo_enter (by decide +kernel) rfl (Nat.le_of_ble_eq_true rfl) rfl ?_
  refine bo_aload 0 dX4_init_0 rfl rfl ?_
  refine bo_obj (inG (i := 90) (by decide +kernel) rfl) dX4_init_1 (by decide) (Nat.le_of_ble_eq_true rfl) ?_
  refine bo_aload 0 dX4_init_4 rfl rfl ?_
  refine bo_iconst (v := 2) dX4_init_5 (by decide +kernel) ?_
  refine bo_put (own := RX4) (wr := []) (T := TX4) rfl ingX4 tyX4 tyX4_ok nmX4 0 (by decide) (inG (i := 93) (by decide +kernel) rfl) rfl (fun _ => ⟨rfl, rfl⟩) (tyX4_ok 0 (by decide)) rfl rfl (Nat.le_of_ble_eq_true rfl) dX4_init_6 rfl ?_
  dsimp only [List.set, List.nil_append, List.cons_append]
  refine bo_aload 0 dX4_init_9 rfl rfl ?_
  refine bo_bipush (v := 7) dX4_init_10 (by decide +kernel) ?_
  refine bo_put (own := RX4) (wr := []) (T := TX4) rfl ingX4 tyX4 tyX4_ok nmX4 1 (by decide) (inG (i := 96) (by decide +kernel) rfl) rfl (fun _ => ⟨rfl, rfl⟩) (tyX4_ok 1 (by decide)) rfl rfl (Nat.le_of_ble_eq_true rfl) dX4_init_12 rfl ?_
  dsimp only [List.set, List.nil_append, List.cons_append]
  refine bo_aload 0 dX4_init_15 rfl rfl ?_
  refine bo_bipush (v := 24) dX4_init_16 (by decide +kernel) ?_
  refine bo_put (own := RX4) (wr := []) (T := TX4) rfl ingX4 tyX4 tyX4_ok nmX4 2 (by decide) (inG (i := 99) (by decide +kernel) rfl) rfl (fun _ => ⟨rfl, rfl⟩) (tyX4_ok 2 (by decide)) rfl rfl (Nat.le_of_ble_eq_true rfl) dX4_init_18 rfl ?_
  dsimp only [List.set, List.nil_append, List.cons_append]
  refine bo_aload 0 dX4_init_21 rfl rfl ?_
  refine bo_iconst (v := 4) dX4_init_22 (by decide +kernel) ?_
  refine bo_put (own := RX4) (wr := []) (T := TX4) rfl ingX4 tyX4 tyX4_ok nmX4 3 (by decide) (inG (i := 102) (by decide +kernel) rfl) rfl (fun _ => ⟨rfl, rfl⟩) (tyX4_ok 3 (by decide)) rfl rfl (Nat.le_of_ble_eq_true rfl) dX4_init_23 rfl ?_
  dsimp only [List.set, List.nil_append, List.cons_append]
  refine bo_aload 0 dX4_init_26 rfl rfl ?_
  refine bo_new (ci := 6) (T := TX6) (fs := [.null, .int 0]) rfl ingX6 tyX6 tyX6_ok (inG (i := 91) (by decide +kernel) rfl) (inG (i := 60) (by decide +kernel) rfl) (inG (i := 39) (by decide +kernel) rfl) (by decide +kernel) (by omega) (by omega) dX4_init_27 (fun b => ?_)
  refine bo_dup dX4_init_30 ?_
  refine bo_bipush (v := 60) dX4_init_31 (by decide +kernel) ?_
  refine bo_call (N := mtX6_init) (as := [.int 60]) (wc := [(b, .inr (6, [.null, .int 0]))]) rfl ilX4_26 dX4_init_33 (by decide) (Nat.le_of_ble_eq_true rfl) rfl rfl (cn_Row (a := b) (N := 60) (n := 60) (by decide +kernel) rfl (Nat.le_of_ble_eq_true rfl)) (by omega) (by omega) (fun w hw => ?_)
  obtain ⟨c, rfl⟩ := hw
  simp only [List.cons_append, List.nil_append]
  refine bo_put (own := RX4) (wr := []) (T := TX4) rfl ingX4 tyX4 tyX4_ok nmX4 4 (by decide) (inG (i := 105) (by decide +kernel) rfl) rfl (fun _ => ⟨rfl, rfl⟩) (tyX4_ok 4 (by decide)) rfl rfl (Nat.le_of_ble_eq_true rfl) dX4_init_36 rfl ?_
  dsimp only [List.set, List.nil_append, List.cons_append]
  exact bo_ret dX4_init_39 (by omega) (by omega) ⟨b, c, rfl⟩

set_option maxHeartbeats 4000000 in
set_option maxRecDepth 100000 in
theorem cn_Ctx {x : mX} {a : Nat} : Cn x mtX0_init [.ref a] [(a, .inr (0, [.null, .int 0]))] (fun w => ∃ b, w = wCtx x a b) 1 340 := by
  refine bo_enter (by decide +kernel) rfl (Nat.le_of_ble_eq_true rfl) rfl ?_
  refine bo_aload 0 dX0_init_0 rfl rfl ?_
  refine bo_obj (inG (i := 124) (by decide +kernel) rfl) dX0_init_1 (by decide) (Nat.le_of_ble_eq_true rfl) ?_
  refine bo_aload 0 dX0_init_4 rfl rfl ?_
  refine bo_sipush (v := 340) dX0_init_5 (by decide +kernel) ?_
  refine bo_newa (N := 340) dX0_init_8 (by decide +kernel) rfl (Nat.le_of_ble_eq_true rfl) (by omega) (by omega) (fun b => ?_)
  refine bo_put (own := RX0) (wr := []) (T := TX0) rfl ingX0 tyX0 tyX0_ok nmX0 0 (by decide) (inG (i := 125) (by decide +kernel) rfl) rfl (fun _ => ⟨rfl, rfl⟩) (tyX0_ok 0 (by decide)) rfl rfl (Nat.le_of_ble_eq_true rfl) dX0_init_10 rfl ?_
  dsimp only [List.set, List.nil_append, List.cons_append]
  refine bo_aload 0 dX0_init_13 rfl rfl ?_
  refine bo_iconst (v := 0) dX0_init_14 (by decide +kernel) ?_
  refine bo_put (own := RX0) (wr := []) (T := TX0) rfl ingX0 tyX0 tyX0_ok nmX0 1 (by decide) (inG (i := 126) (by decide +kernel) rfl) rfl (fun _ => ⟨rfl, rfl⟩) (tyX0_ok 1 (by decide)) rfl rfl (Nat.le_of_ble_eq_true rfl) dX0_init_15 rfl ?_
  dsimp only [List.set, List.nil_append, List.cons_append]
  exact bo_ret dX0_init_18 (by omega) (by omega) ⟨b, rfl⟩

set_option maxHeartbeats 4000000 in
set_option maxRecDepth 100000 in
theorem cn_Stg {x : mX} {a : Nat} : Cn x mtX7_init [.ref a] [(a, .inr (7, [.null, .int 0, .int 0, .int 0]))] (fun w => ∃ b, w = wStg x a b) 1 5 := by
  refine bo_enter (by decide +kernel) rfl (Nat.le_of_ble_eq_true rfl) rfl ?_
  refine bo_aload 0 dX7_init_0 rfl rfl ?_
  refine bo_obj (inG (i := 180) (by decide +kernel) rfl) dX7_init_1 (by decide) (Nat.le_of_ble_eq_true rfl) ?_
  refine bo_aload 0 dX7_init_4 rfl rfl ?_
  refine bo_iconst (v := 5) dX7_init_5 (by decide +kernel) ?_
  refine bo_newa (N := 5) dX7_init_6 (by decide +kernel) rfl (Nat.le_of_ble_eq_true rfl) (by omega) (by omega) (fun b => ?_)
  refine bo_put (own := RX7) (wr := []) (T := TX7) rfl ingX7 tyX7 tyX7_ok nmX7 0 (by decide) (inG (i := 181) (by decide +kernel) rfl) rfl (fun _ => ⟨rfl, rfl⟩) (tyX7_ok 0 (by decide)) rfl rfl (Nat.le_of_ble_eq_true rfl) dX7_init_8 rfl ?_
  dsimp only [List.set, List.nil_append, List.cons_append]
  refine bo_aload 0 dX7_init_11 rfl rfl ?_
  refine bo_iconst (v := 0) dX7_init_12 (by decide +kernel) ?_
  refine bo_put (own := RX7) (wr := []) (T := TX7) rfl ingX7 tyX7 tyX7_ok nmX7 1 (by decide) (inG (i := 182) (by decide +kernel) rfl) rfl (fun _ => ⟨rfl, rfl⟩) (tyX7_ok 1 (by decide)) rfl rfl (Nat.le_of_ble_eq_true rfl) dX7_init_13 rfl ?_
  dsimp only [List.set, List.nil_append, List.cons_append]
  refine bo_aload 0 dX7_init_16 rfl rfl ?_
  refine bo_iconst (v := 0) dX7_init_17 (by decide +kernel) ?_
  refine bo_put (own := RX7) (wr := []) (T := TX7) rfl ingX7 tyX7 tyX7_ok nmX7 2 (by decide) (inG (i := 185) (by decide +kernel) rfl) rfl (fun _ => ⟨rfl, rfl⟩) (tyX7_ok 2 (by decide)) rfl rfl (Nat.le_of_ble_eq_true rfl) dX7_init_18 rfl ?_
  dsimp only [List.set, List.nil_append, List.cons_append]
  refine bo_aload 0 dX7_init_21 rfl rfl ?_
  refine bo_iconst (v := 0) dX7_init_22 (by decide +kernel) ?_
  refine bo_put (own := RX7) (wr := []) (T := TX7) rfl ingX7 tyX7 tyX7_ok nmX7 3 (by decide) (inG (i := 186) (by decide +kernel) rfl) rfl (fun _ => ⟨rfl, rfl⟩) (tyX7_ok 3 (by decide)) rfl rfl (Nat.le_of_ble_eq_true rfl) dX7_init_23 rfl ?_
  dsimp only [List.set, List.nil_append, List.cons_append]
  exact bo_ret dX7_init_26 (by omega) (by omega) ⟨b, rfl⟩

set_option maxHeartbeats 4000000 in
set_option maxRecDepth 100000 in
theorem cn_Od {x : mX} {a : Nat} : Cn x mtX2_init [.ref a] [(a, .inr (2, [.int 0, .int 0, .long 0, .long 0]))] (fun w => w = wOd a) 0 0 := by
  refine bo_enter (by decide +kernel) rfl (Nat.le_of_ble_eq_true rfl) rfl ?_
  refine bo_aload 0 dX2_init_0 rfl rfl ?_
  refine bo_call (N := mtX8_init) (as := []) (wc := []) (List.append_nil _).symm ilX2_3 dX2_init_1 (by decide) (Nat.le_of_ble_eq_true rfl) rfl rfl (cn_Tk) (by omega) (by omega) (fun w hw => ?_)
  subst hw
  simp only [List.cons_append, List.nil_append, List.append_nil]
  refine bo_aload 0 dX2_init_4 rfl rfl ?_
  refine bo_iconst (v := 0) dX2_init_5 (by decide +kernel) ?_
  refine bo_put (own := RX2) (wr := []) (T := TX2) rfl ingX2 tyX2 tyX2_ok nmX2 0 (by decide) (inG (i := 228) (by decide +kernel) rfl) rfl (fun _ => ⟨rfl, rfl⟩) (tyX2_ok 0 (by decide)) rfl rfl (Nat.le_of_ble_eq_true rfl) dX2_init_6 rfl ?_
  dsimp only [List.set, List.nil_append, List.cons_append]
  refine bo_aload 0 dX2_init_9 rfl rfl ?_
  refine bo_iconst (v := 0) dX2_init_10 (by decide +kernel) ?_
  refine bo_put (own := RX2) (wr := []) (T := TX2) rfl ingX2 tyX2 tyX2_ok nmX2 1 (by decide) (inG (i := 229) (by decide +kernel) rfl) rfl (fun _ => ⟨rfl, rfl⟩) (tyX2_ok 1 (by decide)) rfl rfl (Nat.le_of_ble_eq_true rfl) dX2_init_11 rfl ?_
  dsimp only [List.set, List.nil_append, List.cons_append]
  refine bo_aload 0 dX2_init_14 rfl rfl ?_
  refine bo_lconst (v := 1) dX2_init_15 (by decide +kernel) ?_
  refine bo_put (own := RX2) (wr := []) (T := TX2) rfl ingX2 tyX2 tyX2_ok nmX2 2 (by decide) (inG (i := 231) (by decide +kernel) rfl) rfl (fun _ => ⟨rfl, rfl⟩) (tyX2_ok 2 (by decide)) rfl rfl (Nat.le_of_ble_eq_true rfl) dX2_init_16 rfl ?_
  dsimp only [List.set, List.nil_append, List.cons_append]
  refine bo_aload 0 dX2_init_19 rfl rfl ?_
  refine bo_lconst (v := 1) dX2_init_20 (by decide +kernel) ?_
  refine bo_put (own := RX2) (wr := []) (T := TX2) rfl ingX2 tyX2 tyX2_ok nmX2 3 (by decide) (inG (i := 233) (by decide +kernel) rfl) rfl (fun _ => ⟨rfl, rfl⟩) (tyX2_ok 3 (by decide)) rfl rfl (Nat.le_of_ble_eq_true rfl) dX2_init_21 rfl ?_
  dsimp only [List.set, List.nil_append, List.cons_append]
  exact bo_ret dX2_init_24 (by omega) (by omega) rfl

set_option maxHeartbeats 4000000 in
set_option maxRecDepth 100000 in
theorem cn_Rng {x : mX} {a : Nat} : Cn x mtX5_init [.ref a] [(a, .inr (5, [.null, .int 0, .int 0, .int 0, .int 0, .int 0, .int 0, .int 0]))] (fun w => ∃ b c, w = wRng x a b c) 2 724 := by
  refine bo_enter (by decide +kernel) rfl (Nat.le_of_ble_eq_true rfl) rfl ?_
  refine bo_aload 0 dX5_init_0 rfl rfl ?_
  refine bo_call (N := mtX8_init) (as := []) (wc := []) (List.append_nil _).symm ilX5_3 dX5_init_1 (by decide) (Nat.le_of_ble_eq_true rfl) rfl rfl (cn_Tk) (by omega) (by omega) (fun w hw => ?_)
  subst hw
  simp only [List.cons_append, List.nil_append, List.append_nil]
  refine bo_aload 0 dX5_init_4 rfl rfl ?_
  refine bo_new (ci := 6) (T := TX6) (fs := [.null, .int 0]) rfl ingX6 tyX6 tyX6_ok (inG (i := 143) (by decide +kernel) rfl) (inG (i := 60) (by decide +kernel) rfl) (inG (i := 39) (by decide +kernel) rfl) (by decide +kernel) (by omega) (by omega) dX5_init_5 (fun b => ?_)
  refine bo_dup dX5_init_8 ?_
  refine bo_sipush (v := 722) dX5_init_9 (by decide +kernel) ?_
  refine bo_call (N := mtX6_init) (as := [.int 722]) (wc := [(b, .inr (6, [.null, .int 0]))]) rfl ilX5_11 dX5_init_12 (by decide) (Nat.le_of_ble_eq_true rfl) rfl rfl (cn_Row (a := b) (N := 722) (n := 722) (by decide +kernel) rfl (Nat.le_of_ble_eq_true rfl)) (by omega) (by omega) (fun w hw => ?_)
  obtain ⟨c, rfl⟩ := hw
  simp only [List.cons_append, List.nil_append]
  refine bo_put (own := RX5) (wr := []) (T := TX5) rfl ingX5 tyX5 tyX5_ok nmX5 0 (by decide) (inG (i := 146) (by decide +kernel) rfl) rfl (fun _ => ⟨rfl, rfl⟩) (tyX5_ok 0 (by decide)) rfl rfl (Nat.le_of_ble_eq_true rfl) dX5_init_15 rfl ?_
  dsimp only [List.set, List.nil_append, List.cons_append]
  refine bo_aload 0 dX5_init_18 rfl rfl ?_
  refine bo_iconst (v := 0) dX5_init_19 (by decide +kernel) ?_
  refine bo_put (own := RX5) (wr := []) (T := TX5) rfl ingX5 tyX5 tyX5_ok nmX5 1 (by decide) (inG (i := 148) (by decide +kernel) rfl) rfl (fun _ => ⟨rfl, rfl⟩) (tyX5_ok 1 (by decide)) rfl rfl (Nat.le_of_ble_eq_true rfl) dX5_init_20 rfl ?_
  dsimp only [List.set, List.nil_append, List.cons_append]
  refine bo_aload 0 dX5_init_23 rfl rfl ?_
  refine bo_ldc (v := 65535) dX5_init_24 (inG (i := 145) (by decide +kernel) rfl) ?_
  refine bo_put (own := RX5) (wr := []) (T := TX5) rfl ingX5 tyX5 tyX5_ok nmX5 2 (by decide) (inG (i := 150) (by decide +kernel) rfl) rfl (fun _ => ⟨rfl, rfl⟩) (tyX5_ok 2 (by decide)) rfl rfl (Nat.le_of_ble_eq_true rfl) dX5_init_26 rfl ?_
  dsimp only [List.set, List.nil_append, List.cons_append]
  refine bo_aload 0 dX5_init_29 rfl rfl ?_
  refine bo_iconst (v := 0) dX5_init_30 (by decide +kernel) ?_
  refine bo_put (own := RX5) (wr := []) (T := TX5) rfl ingX5 tyX5 tyX5_ok nmX5 3 (by decide) (inG (i := 152) (by decide +kernel) rfl) rfl (fun _ => ⟨rfl, rfl⟩) (tyX5_ok 3 (by decide)) rfl rfl (Nat.le_of_ble_eq_true rfl) dX5_init_31 rfl ?_
  dsimp only [List.set, List.nil_append, List.cons_append]
  refine bo_aload 0 dX5_init_34 rfl rfl ?_
  refine bo_iconst (v := 0) dX5_init_35 (by decide +kernel) ?_
  refine bo_put (own := RX5) (wr := []) (T := TX5) rfl ingX5 tyX5 tyX5_ok nmX5 4 (by decide) (inG (i := 154) (by decide +kernel) rfl) rfl (fun _ => ⟨rfl, rfl⟩) (tyX5_ok 4 (by decide)) rfl rfl (Nat.le_of_ble_eq_true rfl) dX5_init_36 rfl ?_
  dsimp only [List.set, List.nil_append, List.cons_append]
  refine bo_aload 0 dX5_init_39 rfl rfl ?_
  refine bo_iconst (v := 0) dX5_init_40 (by decide +kernel) ?_
  refine bo_put (own := RX5) (wr := []) (T := TX5) rfl ingX5 tyX5 tyX5_ok nmX5 5 (by decide) (inG (i := 155) (by decide +kernel) rfl) rfl (fun _ => ⟨rfl, rfl⟩) (tyX5_ok 5 (by decide)) rfl rfl (Nat.le_of_ble_eq_true rfl) dX5_init_41 rfl ?_
  dsimp only [List.set, List.nil_append, List.cons_append]
  refine bo_aload 0 dX5_init_44 rfl rfl ?_
  refine bo_iconst (v := 0) dX5_init_45 (by decide +kernel) ?_
  refine bo_put (own := RX5) (wr := []) (T := TX5) rfl ingX5 tyX5 tyX5_ok nmX5 6 (by decide) (inG (i := 156) (by decide +kernel) rfl) rfl (fun _ => ⟨rfl, rfl⟩) (tyX5_ok 6 (by decide)) rfl rfl (Nat.le_of_ble_eq_true rfl) dX5_init_46 rfl ?_
  dsimp only [List.set, List.nil_append, List.cons_append]
  refine bo_aload 0 dX5_init_49 rfl rfl ?_
  refine bo_iconst (v := 0) dX5_init_50 (by decide +kernel) ?_
  refine bo_put (own := RX5) (wr := []) (T := TX5) rfl ingX5 tyX5 tyX5_ok nmX5 7 (by decide) (inG (i := 157) (by decide +kernel) rfl) rfl (fun _ => ⟨rfl, rfl⟩) (tyX5_ok 7 (by decide)) rfl rfl (Nat.le_of_ble_eq_true rfl) dX5_init_51 rfl ?_
  dsimp only [List.set, List.nil_append, List.cons_append]
  exact bo_ret dX5_init_54 (by omega) (by omega) ⟨b, c, rfl⟩

set_option maxHeartbeats 4000000 in
set_option maxRecDepth 100000 in
theorem cn_Pk {x : mX} {a : Nat} : Cn x mtX3_init [.ref a] [(a, .inr (3, [.null, .null, .null, .null, .int 0, .int 0, .int 0]))] (fun w => ∃ b c d e f g h i j k, w = wPk x a b c d e f g h i j k) 10 1150 := by
  refine bo_enter (by decide +kernel) rfl (Nat.le_of_ble_eq_true rfl) rfl ?_
  refine bo_aload 0 dX3_init_0 rfl rfl ?_
  refine bo_obj (inG (i := 84) (by decide +kernel) rfl) dX3_init_1 (by decide) (Nat.le_of_ble_eq_true rfl) ?_
  refine bo_aload 0 dX3_init_4 rfl rfl ?_
  refine bo_new (ci := 4) (T := TX4) (fs := [.int 0, .int 0, .int 0, .int 0, .null]) rfl ingX4 tyX4 tyX4_ok (inG (i := 85) (by decide +kernel) rfl) (inG (i := 86) (by decide +kernel) rfl) (inG (i := 42) (by decide +kernel) rfl) (by decide +kernel) (by omega) (by omega) dX3_init_5 (fun b => ?_)
  refine bo_dup dX3_init_8 ?_
  refine bo_call (N := mtX4_init) (as := []) (wc := [(b, .inr (4, [.int 0, .int 0, .int 0, .int 0, .null]))]) rfl ilX3_11 dX3_init_9 (by decide) (Nat.le_of_ble_eq_true rfl) rfl rfl (cn_Past (a := b)) (by omega) (by omega) (fun w hw => ?_)
  obtain ⟨c, d, rfl⟩ := hw
  simp only [List.cons_append, List.nil_append]
  refine bo_put (own := RX3) (wr := []) (T := TX3) rfl ingX3 tyX3 tyX3_ok nmX3 0 (by decide) (inG (i := 196) (by decide +kernel) rfl) rfl (fun _ => ⟨rfl, rfl⟩) (tyX3_ok 0 (by decide)) rfl rfl (Nat.le_of_ble_eq_true rfl) dX3_init_12 rfl ?_
  dsimp only [List.set, List.nil_append, List.cons_append]
  refine bo_aload 0 dX3_init_15 rfl rfl ?_
  refine bo_new (ci := 0) (T := TX0) (fs := [.null, .int 0]) rfl ingX0 tyX0 tyX0_ok (inG (i := 119) (by decide +kernel) rfl) (inG (i := 120) (by decide +kernel) rfl) (inG (i := 43) (by decide +kernel) rfl) (by decide +kernel) (by omega) (by omega) dX3_init_16 (fun e => ?_)
  refine bo_dup dX3_init_19 ?_
  refine bo_call (N := mtX0_init) (as := []) (wc := [(e, .inr (0, [.null, .int 0]))]) rfl ilX3_20 dX3_init_20 (by decide) (Nat.le_of_ble_eq_true rfl) rfl rfl (cn_Ctx (a := e)) (by omega) (by omega) (fun w hw => ?_)
  obtain ⟨f, rfl⟩ := hw
  simp only [List.cons_append, List.nil_append]
  refine bo_put (own := RX3) (wr := []) (T := TX3) rfl ingX3 tyX3 tyX3_ok nmX3 1 (by decide) (inG (i := 198) (by decide +kernel) rfl) rfl (fun _ => ⟨rfl, rfl⟩) (tyX3_ok 1 (by decide)) rfl rfl (Nat.le_of_ble_eq_true rfl) dX3_init_23 rfl ?_
  dsimp only [List.set, List.nil_append, List.cons_append]
  refine bo_aload 0 dX3_init_26 rfl rfl ?_
  refine bo_new (ci := 5) (T := TX5) (fs := [.null, .int 0, .int 0, .int 0, .int 0, .int 0, .int 0, .int 0]) rfl ingX5 tyX5 tyX5_ok (inG (i := 134) (by decide +kernel) rfl) (inG (i := 135) (by decide +kernel) rfl) (inG (i := 45) (by decide +kernel) rfl) (by decide +kernel) (by omega) (by omega) dX3_init_27 (fun g => ?_)
  refine bo_dup dX3_init_30 ?_
  refine bo_call (N := mtX5_init) (as := []) (wc := [(g, .inr (5, [.null, .int 0, .int 0, .int 0, .int 0, .int 0, .int 0, .int 0]))]) rfl ilX3_27 dX3_init_31 (by decide) (Nat.le_of_ble_eq_true rfl) rfl rfl (cn_Rng (a := g)) (by omega) (by omega) (fun w hw => ?_)
  obtain ⟨h, i, rfl⟩ := hw
  simp only [List.cons_append, List.nil_append]
  refine bo_put (own := RX3) (wr := []) (T := TX3) rfl ingX3 tyX3 tyX3_ok nmX3 2 (by decide) (inG (i := 200) (by decide +kernel) rfl) rfl (fun _ => ⟨rfl, rfl⟩) (tyX3_ok 2 (by decide)) rfl rfl (Nat.le_of_ble_eq_true rfl) dX3_init_34 rfl ?_
  dsimp only [List.set, List.nil_append, List.cons_append]
  refine bo_aload 0 dX3_init_37 rfl rfl ?_
  refine bo_new (ci := 7) (T := TX7) (fs := [.null, .int 0, .int 0, .int 0]) rfl ingX7 tyX7 tyX7_ok (inG (i := 175) (by decide +kernel) rfl) (inG (i := 176) (by decide +kernel) rfl) (inG (i := 46) (by decide +kernel) rfl) (by decide +kernel) (by omega) (by omega) dX3_init_38 (fun j => ?_)
  refine bo_dup dX3_init_41 ?_
  refine bo_call (N := mtX7_init) (as := []) (wc := [(j, .inr (7, [.null, .int 0, .int 0, .int 0]))]) rfl ilX3_34 dX3_init_42 (by decide) (Nat.le_of_ble_eq_true rfl) rfl rfl (cn_Stg (a := j)) (by omega) (by omega) (fun w hw => ?_)
  obtain ⟨k, rfl⟩ := hw
  simp only [List.cons_append, List.nil_append]
  refine bo_put (own := RX3) (wr := []) (T := TX3) rfl ingX3 tyX3 tyX3_ok nmX3 3 (by decide) (inG (i := 202) (by decide +kernel) rfl) rfl (fun _ => ⟨rfl, rfl⟩) (tyX3_ok 3 (by decide)) rfl rfl (Nat.le_of_ble_eq_true rfl) dX3_init_45 rfl ?_
  dsimp only [List.set, List.nil_append, List.cons_append]
  refine bo_aload 0 dX3_init_48 rfl rfl ?_
  refine bo_iconst (v := 0) dX3_init_49 (by decide +kernel) ?_
  refine bo_put (own := RX3) (wr := []) (T := TX3) rfl ingX3 tyX3 tyX3_ok nmX3 4 (by decide) (inG (i := 203) (by decide +kernel) rfl) rfl (fun _ => ⟨rfl, rfl⟩) (tyX3_ok 4 (by decide)) rfl rfl (Nat.le_of_ble_eq_true rfl) dX3_init_50 rfl ?_
  dsimp only [List.set, List.nil_append, List.cons_append]
  refine bo_aload 0 dX3_init_53 rfl rfl ?_
  refine bo_iconst (v := 0) dX3_init_54 (by decide +kernel) ?_
  refine bo_put (own := RX3) (wr := []) (T := TX3) rfl ingX3 tyX3 tyX3_ok nmX3 5 (by decide) (inG (i := 204) (by decide +kernel) rfl) rfl (fun _ => ⟨rfl, rfl⟩) (tyX3_ok 5 (by decide)) rfl rfl (Nat.le_of_ble_eq_true rfl) dX3_init_55 rfl ?_
  dsimp only [List.set, List.nil_append, List.cons_append]
  refine bo_aload 0 dX3_init_58 rfl rfl ?_
  refine bo_iconst (v := 0) dX3_init_59 (by decide +kernel) ?_
  refine bo_put (own := RX3) (wr := []) (T := TX3) rfl ingX3 tyX3 tyX3_ok nmX3 6 (by decide) (inG (i := 206) (by decide +kernel) rfl) rfl (fun _ => ⟨rfl, rfl⟩) (tyX3_ok 6 (by decide)) rfl rfl (Nat.le_of_ble_eq_true rfl) dX3_init_60 rfl ?_
  dsimp only [List.set, List.nil_append, List.cons_append]
  exact bo_ret dX3_init_63 (by omega) (by omega) ⟨b, c, d, e, f, g, h, i, j, k, rfl⟩
