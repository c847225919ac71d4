/-! ===== History, LongestPast, the model: made ===== -/
abbrev rngF (p0 p1 p2 p3 p4 p5 : Nat) : Nat → Option Nat := va_up (va_up (va_up (va_up (va_up (va_up (fun _ => none) 0 (some p0)) 1 (some p1)) 2 (some p2)) 3 (some p3)) 4 (some p4)) 5 (some p5)
abbrev wHi (x : mX) (a r p0 a0 b0 p1 a1 b1 p2 a2 b2 p3 a3 b3 p4 a4 b4 p5 a5 b5 : Nat) : va_W := (a, .inr (1, [.ref r, .int 0, .int 0])) :: (r, .inl (x.2.2.2.2.2, 6, .inr (.inr (.inr (.inr (rngF p0 p1 p2 p3 p4 p5)))))) :: (wPast x p0 a0 b0 ++ (wPast x p1 a1 b1 ++ (wPast x p2 a2 b2 ++ (wPast x p3 a3 b3 ++ (wPast x p4 a4 b4 ++ wPast x p5 a5 b5)))))
/-- the cells of a LongestPast that was made, at addresses ad 0, ad 1 .. -/
abbrev wLP (x : mX) (ad : Nat → Nat) : va_W := (ad 0, .inr (8, [.ref (ad 1), .ref (ad 3), .ref (ad 14), .ref (ad 25), .ref (ad 26), .ref (ad 46), .ref (ad 49), .int 0, .int 0])) :: (wRow x (ad 1) (ad 2) 200 ++ (wPk x (ad 3) (ad 4) (ad 5) (ad 6) (ad 7) (ad 8) (ad 9) (ad 10) (ad 11) (ad 12) (ad 13) ++ (wPk x (ad 14) (ad 15) (ad 16) (ad 17) (ad 18) (ad 19) (ad 20) (ad 21) (ad 22) (ad 23) (ad 24) ++ (wOd (ad 25) ++ (wHi x (ad 26) (ad 27) (ad 28) (ad 29) (ad 30) (ad 31) (ad 32) (ad 33) (ad 34) (ad 35) (ad 36) (ad 37) (ad 38) (ad 39) (ad 40) (ad 41) (ad 42) (ad 43) (ad 44) (ad 45) ++ (wPast x (ad 46) (ad 47) (ad 48) ++ wPast x (ad 49) (ad 50) (ad 51)))))))
abbrev nwF : Nat → Int32 := upd (upd (upd (upd (upd (fun _ => 0) 0 2) 1 7) 2 24) 3 4) 4 0
abbrev mdF (ad : Nat → Nat) : List Value := [.ref (ad 53), .ref (ad 54), .int 0, .ref (ad 55), .ref (ad 56), .ref (ad 57), .int 0, .int 0, .ref (ad 58), .int 0, .ref (ad 59), .int 0, .int 0, .int 0, .int 0, .ref (ad 60), .int 0, .int 0, .ref (ad 61), .int 0, .int 0, .int 0, .long 0, .long 0, .int 0, .int 0]
abbrev wMd (x : mX) (ad : Nat → Nat) : va_W := [(ad 52, .inr (9, mdF ad)), (ad 53, .inl (x.2.2.2.1, 65, .inl nwF)), (ad 54, zI x 390), (ad 55, zI x 130), (ad 56, .inl (x.2.2.2.2.1, 2, .inl (fun _ => 0))), (ad 57, zI x 200), (ad 58, zI x 60), (ad 59, zI x 340), (ad 60, zI x 2800), (ad 61, zI x 2800)]

set_option maxHeartbeats 4000000 in
set_option maxRecDepth 100000 in
theorem cn_Hi {x : mX} {a : Nat} : Cn x mtX1_init [.ref a] [(a, .inr (1, [.null, .int 0, .int 0]))] (fun w => ∃ r p0 a0 b0 p1 a1 b1 p2 a2 b2 p3 a3 b3 p4 a4 b4 p5 a5 b5, w = wHi x a r p0 a0 b0 p1 a1 b1 p2 a2 b2 p3 a3 b3 p4 a4 b4 p5 a5 b5) 19 408 := by
  refine bo_enter (by decide +kernel) rfl (Nat.le_of_ble_eq_true rfl) rfl ?_
  refine bo_aload 0 dX1_init_0 rfl rfl ?_
  refine bo_obj (inG (i := 249) (by decide +kernel) rfl) dX1_init_1 (by decide) (Nat.le_of_ble_eq_true rfl) ?_
  refine bo_aload 0 dX1_init_4 rfl rfl ?_
  refine bo_bipush (v := 6) dX1_init_5 (by decide +kernel) ?_
  refine bo_newq (N := 6) (inG (i := 250) (by decide +kernel) rfl) dX1_init_7 (by decide +kernel) rfl (Nat.le_of_ble_eq_true rfl) (by omega) (by omega) (fun r => ?_)
  refine bo_put (own := RX1) (wr := []) (T := TX1) rfl ingX1 tyX1 tyX1_ok nmX1 0 (by decide) (inG (i := 253) (by decide +kernel) rfl) rfl (fun _ => ⟨rfl, rfl⟩) (tyX1_ok 0 (by decide)) rfl rfl (Nat.le_of_ble_eq_true rfl) dX1_init_10 rfl ?_
  dsimp only [List.set, List.nil_append, List.cons_append]
  refine bo_aload 0 dX1_init_13 rfl rfl ?_
  refine bo_iconst (v := 0) dX1_init_14 (by decide +kernel) ?_
  refine bo_put (own := RX1) (wr := []) (T := TX1) rfl ingX1 tyX1 tyX1_ok nmX1 1 (by decide) (inG (i := 254) (by decide +kernel) rfl) rfl (fun _ => ⟨rfl, rfl⟩) (tyX1_ok 1 (by decide)) rfl rfl (Nat.le_of_ble_eq_true rfl) dX1_init_15 rfl ?_
  dsimp only [List.set, List.nil_append, List.cons_append]
  refine bo_aload 0 dX1_init_18 rfl rfl ?_
  refine bo_iconst (v := 0) dX1_init_19 (by decide +kernel) ?_
  refine bo_put (own := RX1) (wr := []) (T := TX1) rfl ingX1 tyX1 tyX1_ok nmX1 2 (by decide) (inG (i := 255) (by decide +kernel) rfl) rfl (fun _ => ⟨rfl, rfl⟩) (tyX1_ok 2 (by decide)) rfl rfl (Nat.le_of_ble_eq_true rfl) dX1_init_20 rfl ?_
  dsimp only [List.set, List.nil_append, List.cons_append]
  refine bo_iconst (v := 0) dX1_init_23 (by decide +kernel) ?_
  refine bo_istore (ls' := [(1, .int 0), (0, .ref a)]) dX1_init_24 rfl (by decide) rfl ?_
  refine bo_iload 0 dX1_init_25 rfl rfl ?_
  refine bo_aload 1 dX1_init_26 rfl rfl ?_
  refine bo_get (T := TX1) 0 rfl rfl ingX1 0 (by decide) (inG (i := 253) (by decide +kernel) rfl) rfl rfl dX1_init_27 ?_
  refine bo_alen 1 rfl (v := 6) rfl dX1_init_30 ?_
  refine bo_ge_f (tgt := 53) dX1_init_31 (by decide) (by decide +kernel) ?_
  refine bo_aload 1 dX1_init_34 rfl rfl ?_
  refine bo_get (T := TX1) 0 rfl rfl ingX1 0 (by decide) (inG (i := 253) (by decide +kernel) rfl) rfl rfl dX1_init_35 ?_
  refine bo_iload 0 dX1_init_38 rfl rfl ?_
  refine bo_new (ci := 4) (T := TX4) (fs := [.int 0, .int 0, .int 0, .int 0, .null]) rfl ingX4 tyX4 tyX4_ok (inG (i := 250) (by decide +kernel) rfl) (inG (i := 86) (by decide +kernel) rfl) (inG (i := 42) (by decide +kernel) rfl) (by decide +kernel) (by omega) (by omega) dX1_init_39 (fun p0 => ?_)
  refine bo_dup dX1_init_42 ?_
  refine bo_call (N := mtX4_init) (as := []) (wc := [(p0, .inr (4, [.int 0, .int 0, .int 0, .int 0, .null]))]) rfl ilX1_24 dX1_init_43 (by decide) (Nat.le_of_ble_eq_true rfl) rfl rfl (cn_Past (a := p0)) (by omega) (by omega) (fun w hw => ?_)
  obtain ⟨a0, b0, rfl⟩ := hw
  simp only [List.cons_append, List.nil_append]
  refine bo_aast 2 (wr := [(a, .inr (1, [.ref r, .int 0, .int 0]))]) rfl rfl (by unfold vp_in; decide +kernel) dX1_init_46 ?_
  dsimp only [List.cons_append, List.nil_append]
  refine bo_iinc (v := 1) (ls' := [(1, .int 1), (0, .ref a)]) 0 dX1_init_47 rfl (by decide +kernel) (by decide) rfl ?_
  refine bo_goto (tgt := 25) dX1_init_50 (by decide) ?_
  refine bo_iload 0 dX1_init_25 rfl rfl ?_
  refine bo_aload 1 dX1_init_26 rfl rfl ?_
  refine bo_get (T := TX1) 0 rfl rfl ingX1 0 (by decide) (inG (i := 253) (by decide +kernel) rfl) rfl rfl dX1_init_27 ?_
  refine bo_alen 1 rfl (v := 6) rfl dX1_init_30 ?_
  refine bo_ge_f (tgt := 53) dX1_init_31 (by decide) (by decide +kernel) ?_
  refine bo_aload 1 dX1_init_34 rfl rfl ?_
  refine bo_get (T := TX1) 0 rfl rfl ingX1 0 (by decide) (inG (i := 253) (by decide +kernel) rfl) rfl rfl dX1_init_35 ?_
  refine bo_iload 0 dX1_init_38 rfl rfl ?_
  refine bo_new (ci := 4) (T := TX4) (fs := [.int 0, .int 0, .int 0, .int 0, .null]) rfl ingX4 tyX4 tyX4_ok (inG (i := 250) (by decide +kernel) rfl) (inG (i := 86) (by decide +kernel) rfl) (inG (i := 42) (by decide +kernel) rfl) (by decide +kernel) (by omega) (by omega) dX1_init_39 (fun p1 => ?_)
  refine bo_dup dX1_init_42 ?_
  refine bo_call (N := mtX4_init) (as := []) (wc := [(p1, .inr (4, [.int 0, .int 0, .int 0, .int 0, .null]))]) rfl ilX1_24 dX1_init_43 (by decide) (Nat.le_of_ble_eq_true rfl) rfl rfl (cn_Past (a := p1)) (by omega) (by omega) (fun w hw => ?_)
  obtain ⟨a1, b1, rfl⟩ := hw
  simp only [List.cons_append, List.nil_append]
  refine bo_aast 5 (wr := [(a, .inr (1, [.ref r, .int 0, .int 0]))]) rfl rfl (by unfold vp_in; decide +kernel) dX1_init_46 ?_
  dsimp only [List.cons_append, List.nil_append]
  refine bo_iinc (v := 2) (ls' := [(1, .int 2), (0, .ref a)]) 0 dX1_init_47 rfl (by decide +kernel) (by decide) rfl ?_
  refine bo_goto (tgt := 25) dX1_init_50 (by decide) ?_
  refine bo_iload 0 dX1_init_25 rfl rfl ?_
  refine bo_aload 1 dX1_init_26 rfl rfl ?_
  refine bo_get (T := TX1) 0 rfl rfl ingX1 0 (by decide) (inG (i := 253) (by decide +kernel) rfl) rfl rfl dX1_init_27 ?_
  refine bo_alen 1 rfl (v := 6) rfl dX1_init_30 ?_
  refine bo_ge_f (tgt := 53) dX1_init_31 (by decide) (by decide +kernel) ?_
  refine bo_aload 1 dX1_init_34 rfl rfl ?_
  refine bo_get (T := TX1) 0 rfl rfl ingX1 0 (by decide) (inG (i := 253) (by decide +kernel) rfl) rfl rfl dX1_init_35 ?_
  refine bo_iload 0 dX1_init_38 rfl rfl ?_
  refine bo_new (ci := 4) (T := TX4) (fs := [.int 0, .int 0, .int 0, .int 0, .null]) rfl ingX4 tyX4 tyX4_ok (inG (i := 250) (by decide +kernel) rfl) (inG (i := 86) (by decide +kernel) rfl) (inG (i := 42) (by decide +kernel) rfl) (by decide +kernel) (by omega) (by omega) dX1_init_39 (fun p2 => ?_)
  refine bo_dup dX1_init_42 ?_
  refine bo_call (N := mtX4_init) (as := []) (wc := [(p2, .inr (4, [.int 0, .int 0, .int 0, .int 0, .null]))]) rfl ilX1_24 dX1_init_43 (by decide) (Nat.le_of_ble_eq_true rfl) rfl rfl (cn_Past (a := p2)) (by omega) (by omega) (fun w hw => ?_)
  obtain ⟨a2, b2, rfl⟩ := hw
  simp only [List.cons_append, List.nil_append]
  refine bo_aast 8 (wr := [(a, .inr (1, [.ref r, .int 0, .int 0]))]) rfl rfl (by unfold vp_in; decide +kernel) dX1_init_46 ?_
  dsimp only [List.cons_append, List.nil_append]
  refine bo_iinc (v := 3) (ls' := [(1, .int 3), (0, .ref a)]) 0 dX1_init_47 rfl (by decide +kernel) (by decide) rfl ?_
  refine bo_goto (tgt := 25) dX1_init_50 (by decide) ?_
  refine bo_iload 0 dX1_init_25 rfl rfl ?_
  refine bo_aload 1 dX1_init_26 rfl rfl ?_
  refine bo_get (T := TX1) 0 rfl rfl ingX1 0 (by decide) (inG (i := 253) (by decide +kernel) rfl) rfl rfl dX1_init_27 ?_
  refine bo_alen 1 rfl (v := 6) rfl dX1_init_30 ?_
  refine bo_ge_f (tgt := 53) dX1_init_31 (by decide) (by decide +kernel) ?_
  refine bo_aload 1 dX1_init_34 rfl rfl ?_
  refine bo_get (T := TX1) 0 rfl rfl ingX1 0 (by decide) (inG (i := 253) (by decide +kernel) rfl) rfl rfl dX1_init_35 ?_
  refine bo_iload 0 dX1_init_38 rfl rfl ?_
  refine bo_new (ci := 4) (T := TX4) (fs := [.int 0, .int 0, .int 0, .int 0, .null]) rfl ingX4 tyX4 tyX4_ok (inG (i := 250) (by decide +kernel) rfl) (inG (i := 86) (by decide +kernel) rfl) (inG (i := 42) (by decide +kernel) rfl) (by decide +kernel) (by omega) (by omega) dX1_init_39 (fun p3 => ?_)
  refine bo_dup dX1_init_42 ?_
  refine bo_call (N := mtX4_init) (as := []) (wc := [(p3, .inr (4, [.int 0, .int 0, .int 0, .int 0, .null]))]) rfl ilX1_24 dX1_init_43 (by decide) (Nat.le_of_ble_eq_true rfl) rfl rfl (cn_Past (a := p3)) (by omega) (by omega) (fun w hw => ?_)
  obtain ⟨a3, b3, rfl⟩ := hw
  simp only [List.cons_append, List.nil_append]
  refine bo_aast 11 (wr := [(a, .inr (1, [.ref r, .int 0, .int 0]))]) rfl rfl (by unfold vp_in; decide +kernel) dX1_init_46 ?_
  dsimp only [List.cons_append, List.nil_append]
  refine bo_iinc (v := 4) (ls' := [(1, .int 4), (0, .ref a)]) 0 dX1_init_47 rfl (by decide +kernel) (by decide) rfl ?_
  refine bo_goto (tgt := 25) dX1_init_50 (by decide) ?_
  refine bo_iload 0 dX1_init_25 rfl rfl ?_
  refine bo_aload 1 dX1_init_26 rfl rfl ?_
  refine bo_get (T := TX1) 0 rfl rfl ingX1 0 (by decide) (inG (i := 253) (by decide +kernel) rfl) rfl rfl dX1_init_27 ?_
  refine bo_alen 1 rfl (v := 6) rfl dX1_init_30 ?_
  refine bo_ge_f (tgt := 53) dX1_init_31 (by decide) (by decide +kernel) ?_
  refine bo_aload 1 dX1_init_34 rfl rfl ?_
  refine bo_get (T := TX1) 0 rfl rfl ingX1 0 (by decide) (inG (i := 253) (by decide +kernel) rfl) rfl rfl dX1_init_35 ?_
  refine bo_iload 0 dX1_init_38 rfl rfl ?_
  refine bo_new (ci := 4) (T := TX4) (fs := [.int 0, .int 0, .int 0, .int 0, .null]) rfl ingX4 tyX4 tyX4_ok (inG (i := 250) (by decide +kernel) rfl) (inG (i := 86) (by decide +kernel) rfl) (inG (i := 42) (by decide +kernel) rfl) (by decide +kernel) (by omega) (by omega) dX1_init_39 (fun p4 => ?_)
  refine bo_dup dX1_init_42 ?_
  refine bo_call (N := mtX4_init) (as := []) (wc := [(p4, .inr (4, [.int 0, .int 0, .int 0, .int 0, .null]))]) rfl ilX1_24 dX1_init_43 (by decide) (Nat.le_of_ble_eq_true rfl) rfl rfl (cn_Past (a := p4)) (by omega) (by omega) (fun w hw => ?_)
  obtain ⟨a4, b4, rfl⟩ := hw
  simp only [List.cons_append, List.nil_append]
  refine bo_aast 14 (wr := [(a, .inr (1, [.ref r, .int 0, .int 0]))]) rfl rfl (by unfold vp_in; decide +kernel) dX1_init_46 ?_
  dsimp only [List.cons_append, List.nil_append]
  refine bo_iinc (v := 5) (ls' := [(1, .int 5), (0, .ref a)]) 0 dX1_init_47 rfl (by decide +kernel) (by decide) rfl ?_
  refine bo_goto (tgt := 25) dX1_init_50 (by decide) ?_
  refine bo_iload 0 dX1_init_25 rfl rfl ?_
  refine bo_aload 1 dX1_init_26 rfl rfl ?_
  refine bo_get (T := TX1) 0 rfl rfl ingX1 0 (by decide) (inG (i := 253) (by decide +kernel) rfl) rfl rfl dX1_init_27 ?_
  refine bo_alen 1 rfl (v := 6) rfl dX1_init_30 ?_
  refine bo_ge_f (tgt := 53) dX1_init_31 (by decide) (by decide +kernel) ?_
  refine bo_aload 1 dX1_init_34 rfl rfl ?_
  refine bo_get (T := TX1) 0 rfl rfl ingX1 0 (by decide) (inG (i := 253) (by decide +kernel) rfl) rfl rfl dX1_init_35 ?_
  refine bo_iload 0 dX1_init_38 rfl rfl ?_
  refine bo_new (ci := 4) (T := TX4) (fs := [.int 0, .int 0, .int 0, .int 0, .null]) rfl ingX4 tyX4 tyX4_ok (inG (i := 250) (by decide +kernel) rfl) (inG (i := 86) (by decide +kernel) rfl) (inG (i := 42) (by decide +kernel) rfl) (by decide +kernel) (by omega) (by omega) dX1_init_39 (fun p5 => ?_)
  refine bo_dup dX1_init_42 ?_
  refine bo_call (N := mtX4_init) (as := []) (wc := [(p5, .inr (4, [.int 0, .int 0, .int 0, .int 0, .null]))]) rfl ilX1_24 dX1_init_43 (by decide) (Nat.le_of_ble_eq_true rfl) rfl rfl (cn_Past (a := p5)) (by omega) (by omega) (fun w hw => ?_)
  obtain ⟨a5, b5, rfl⟩ := hw
  simp only [List.cons_append, List.nil_append]
  refine bo_aast 17 (wr := [(a, .inr (1, [.ref r, .int 0, .int 0]))]) rfl rfl (by unfold vp_in; decide +kernel) dX1_init_46 ?_
  dsimp only [List.cons_append, List.nil_append]
  refine bo_iinc (v := 6) (ls' := [(1, .int 6), (0, .ref a)]) 0 dX1_init_47 rfl (by decide +kernel) (by decide) rfl ?_
  refine bo_goto (tgt := 25) dX1_init_50 (by decide) ?_
  refine bo_iload 0 dX1_init_25 rfl rfl ?_
  refine bo_aload 1 dX1_init_26 rfl rfl ?_
  refine bo_get (T := TX1) 0 rfl rfl ingX1 0 (by decide) (inG (i := 253) (by decide +kernel) rfl) rfl rfl dX1_init_27 ?_
  refine bo_alen 1 rfl (v := 6) rfl dX1_init_30 ?_
  refine bo_ge_t (tgt := 53) dX1_init_31 (by decide) (by decide +kernel) ?_
  exact bo_ret dX1_init_53 (by omega) (by omega) ⟨r, p0, a0, b0, p1, a1, b1, p2, a2, b2, p3, a3, b3, p4, a4, b4, p5, a5, b5, rfl⟩

set_option maxHeartbeats 4000000 in
set_option maxRecDepth 100000 in
theorem cn_LP {x : mX} {a : Nat} : Cn x mtX9_init [.ref a] [(a, .inr (8, [.null, .null, .null, .null, .null, .null, .null, .int 0, .int 0]))] (fun w => ∃ ad : Nat → Nat, ad 0 = a ∧ w = wLP x ad) 51 3065 := by
  refine bo_enter (by decide +kernel) rfl (Nat.le_of_ble_eq_true rfl) rfl ?_
  refine bo_aload 0 dX9_init_0 rfl rfl ?_
  refine bo_obj (inG (i := 56) (by decide +kernel) rfl) dX9_init_1 (by decide) (Nat.le_of_ble_eq_true rfl) ?_
  refine bo_aload 0 dX9_init_4 rfl rfl ?_
  refine bo_new (ci := 6) (T := TX6) (fs := [.null, .int 0]) rfl ingX6 tyX6 tyX6_ok (inG (i := 59) (by decide +kernel) rfl) (inG (i := 60) (by decide +kernel) rfl) (inG (i := 39) (by decide +kernel) rfl) (by decide +kernel) (by omega) (by omega) dX9_init_5 (fun q1 => ?_)
  refine bo_dup dX9_init_8 ?_
  refine bo_sipush (v := 200) dX9_init_9 (by decide +kernel) ?_
  refine bo_call (N := mtX6_init) (as := [.int 200]) (wc := [(q1, .inr (6, [.null, .int 0]))]) rfl ilX9_11 dX9_init_12 (by decide) (Nat.le_of_ble_eq_true rfl) rfl rfl (cn_Row (a := q1) (N := 200) (n := 200) (by decide +kernel) rfl (Nat.le_of_ble_eq_true rfl)) (by omega) (by omega) (fun w hw => ?_)
  obtain ⟨q2, rfl⟩ := hw
  simp only [List.cons_append, List.nil_append]
  refine bo_put (own := RX9) (wr := []) (T := TX9) rfl ingX9 tyX9 tyX9_ok nmX9 0 (by decide) (inG (i := 266) (by decide +kernel) rfl) rfl (fun _ => ⟨rfl, rfl⟩) (tyX9_ok 0 (by decide)) rfl rfl (Nat.le_of_ble_eq_true rfl) dX9_init_15 rfl ?_
  dsimp only [List.set, List.nil_append, List.cons_append]
  refine bo_aload 0 dX9_init_18 rfl rfl ?_
  refine bo_new (ci := 3) (T := TX3) (fs := [.null, .null, .null, .null, .int 0, .int 0, .int 0]) rfl ingX3 tyX3 tyX3_ok (inG (i := 79) (by decide +kernel) rfl) (inG (i := 80) (by decide +kernel) rfl) (inG (i := 41) (by decide +kernel) rfl) (by decide +kernel) (by omega) (by omega) dX9_init_19 (fun q3 => ?_)
  refine bo_dup dX9_init_22 ?_
  refine bo_call (N := mtX3_init) (as := []) (wc := [(q3, .inr (3, [.null, .null, .null, .null, .int 0, .int 0, .int 0]))]) rfl ilX9_20 dX9_init_23 (by decide) (Nat.le_of_ble_eq_true rfl) rfl rfl (cn_Pk (a := q3)) (by omega) (by omega) (fun w hw => ?_)
  obtain ⟨q4, q5, q6, q7, q8, q9, q10, q11, q12, q13, rfl⟩ := hw
  simp only [List.cons_append, List.nil_append]
  refine bo_put (own := RX9) (wr := []) (T := TX9) rfl ingX9 tyX9 tyX9_ok nmX9 1 (by decide) (inG (i := 267) (by decide +kernel) rfl) rfl (fun _ => ⟨rfl, rfl⟩) (tyX9_ok 1 (by decide)) rfl rfl (Nat.le_of_ble_eq_true rfl) dX9_init_26 rfl ?_
  dsimp only [List.set, List.nil_append, List.cons_append]
  refine bo_aload 0 dX9_init_29 rfl rfl ?_
  refine bo_new (ci := 3) (T := TX3) (fs := [.null, .null, .null, .null, .int 0, .int 0, .int 0]) rfl ingX3 tyX3 tyX3_ok (inG (i := 79) (by decide +kernel) rfl) (inG (i := 80) (by decide +kernel) rfl) (inG (i := 41) (by decide +kernel) rfl) (by decide +kernel) (by omega) (by omega) dX9_init_30 (fun q14 => ?_)
  refine bo_dup dX9_init_33 ?_
  refine bo_call (N := mtX3_init) (as := []) (wc := [(q14, .inr (3, [.null, .null, .null, .null, .int 0, .int 0, .int 0]))]) rfl ilX9_20 dX9_init_34 (by decide) (Nat.le_of_ble_eq_true rfl) rfl rfl (cn_Pk (a := q14)) (by omega) (by omega) (fun w hw => ?_)
  obtain ⟨q15, q16, q17, q18, q19, q20, q21, q22, q23, q24, rfl⟩ := hw
  simp only [List.cons_append, List.nil_append]
  refine bo_put (own := RX9) (wr := []) (T := TX9) rfl ingX9 tyX9 tyX9_ok nmX9 2 (by decide) (inG (i := 268) (by decide +kernel) rfl) rfl (fun _ => ⟨rfl, rfl⟩) (tyX9_ok 2 (by decide)) rfl rfl (Nat.le_of_ble_eq_true rfl) dX9_init_37 rfl ?_
  dsimp only [List.set, List.nil_append, List.cons_append]
  refine bo_aload 0 dX9_init_40 rfl rfl ?_
  refine bo_new (ci := 2) (T := TX2) (fs := [.int 0, .int 0, .long 0, .long 0]) rfl ingX2 tyX2 tyX2_ok (inG (i := 222) (by decide +kernel) rfl) (inG (i := 223) (by decide +kernel) rfl) (inG (i := 47) (by decide +kernel) rfl) (by decide +kernel) (by omega) (by omega) dX9_init_41 (fun q25 => ?_)
  refine bo_dup dX9_init_44 ?_
  refine bo_call (N := mtX2_init) (as := []) (wc := [(q25, .inr (2, [.int 0, .int 0, .long 0, .long 0]))]) rfl ilX9_30 dX9_init_45 (by decide) (Nat.le_of_ble_eq_true rfl) rfl rfl (cn_Od (a := q25)) (by omega) (by omega) (fun w hw => ?_)
  subst hw
  simp only [List.cons_append, List.nil_append]
  refine bo_put (own := RX9) (wr := []) (T := TX9) rfl ingX9 tyX9 tyX9_ok nmX9 3 (by decide) (inG (i := 269) (by decide +kernel) rfl) rfl (fun _ => ⟨rfl, rfl⟩) (tyX9_ok 3 (by decide)) rfl rfl (Nat.le_of_ble_eq_true rfl) dX9_init_48 rfl ?_
  dsimp only [List.set, List.nil_append, List.cons_append]
  refine bo_aload 0 dX9_init_51 rfl rfl ?_
  refine bo_new (ci := 1) (T := TX1) (fs := [.null, .int 0, .int 0]) rfl ingX1 tyX1 tyX1_ok (inG (i := 244) (by decide +kernel) rfl) (inG (i := 245) (by decide +kernel) rfl) (inG (i := 48) (by decide +kernel) rfl) (by decide +kernel) (by omega) (by omega) dX9_init_52 (fun q26 => ?_)
  refine bo_dup dX9_init_55 ?_
  refine bo_call (N := mtX1_init) (as := []) (wc := [(q26, .inr (1, [.null, .int 0, .int 0]))]) rfl ilX9_37 dX9_init_56 (by decide) (Nat.le_of_ble_eq_true rfl) rfl rfl (cn_Hi (a := q26)) (by omega) (by omega) (fun w hw => ?_)
  obtain ⟨q27, q28, q29, q30, q31, q32, q33, q34, q35, q36, q37, q38, q39, q40, q41, q42, q43, q44, q45, rfl⟩ := hw
  simp only [List.cons_append, List.nil_append]
  refine bo_put (own := RX9) (wr := []) (T := TX9) rfl ingX9 tyX9 tyX9_ok nmX9 4 (by decide) (inG (i := 270) (by decide +kernel) rfl) rfl (fun _ => ⟨rfl, rfl⟩) (tyX9_ok 4 (by decide)) rfl rfl (Nat.le_of_ble_eq_true rfl) dX9_init_59 rfl ?_
  dsimp only [List.set, List.nil_append, List.cons_append]
  refine bo_aload 0 dX9_init_62 rfl rfl ?_
  refine bo_new (ci := 4) (T := TX4) (fs := [.int 0, .int 0, .int 0, .int 0, .null]) rfl ingX4 tyX4 tyX4_ok (inG (i := 264) (by decide +kernel) rfl) (inG (i := 86) (by decide +kernel) rfl) (inG (i := 42) (by decide +kernel) rfl) (by decide +kernel) (by omega) (by omega) dX9_init_63 (fun q46 => ?_)
  refine bo_dup dX9_init_66 ?_
  refine bo_call (N := mtX4_init) (as := []) (wc := [(q46, .inr (4, [.int 0, .int 0, .int 0, .int 0, .null]))]) rfl ilX9_44 dX9_init_67 (by decide) (Nat.le_of_ble_eq_true rfl) rfl rfl (cn_Past (a := q46)) (by omega) (by omega) (fun w hw => ?_)
  obtain ⟨q47, q48, rfl⟩ := hw
  simp only [List.cons_append, List.nil_append]
  refine bo_put (own := RX9) (wr := []) (T := TX9) rfl ingX9 tyX9 tyX9_ok nmX9 5 (by decide) (inG (i := 271) (by decide +kernel) rfl) rfl (fun _ => ⟨rfl, rfl⟩) (tyX9_ok 5 (by decide)) rfl rfl (Nat.le_of_ble_eq_true rfl) dX9_init_70 rfl ?_
  dsimp only [List.set, List.nil_append, List.cons_append]
  refine bo_aload 0 dX9_init_73 rfl rfl ?_
  refine bo_new (ci := 4) (T := TX4) (fs := [.int 0, .int 0, .int 0, .int 0, .null]) rfl ingX4 tyX4 tyX4_ok (inG (i := 264) (by decide +kernel) rfl) (inG (i := 86) (by decide +kernel) rfl) (inG (i := 42) (by decide +kernel) rfl) (by decide +kernel) (by omega) (by omega) dX9_init_74 (fun q49 => ?_)
  refine bo_dup dX9_init_77 ?_
  refine bo_call (N := mtX4_init) (as := []) (wc := [(q49, .inr (4, [.int 0, .int 0, .int 0, .int 0, .null]))]) rfl ilX9_44 dX9_init_78 (by decide) (Nat.le_of_ble_eq_true rfl) rfl rfl (cn_Past (a := q49)) (by omega) (by omega) (fun w hw => ?_)
  obtain ⟨q50, q51, rfl⟩ := hw
  simp only [List.cons_append, List.nil_append]
  refine bo_put (own := RX9) (wr := []) (T := TX9) rfl ingX9 tyX9 tyX9_ok nmX9 6 (by decide) (inG (i := 272) (by decide +kernel) rfl) rfl (fun _ => ⟨rfl, rfl⟩) (tyX9_ok 6 (by decide)) rfl rfl (Nat.le_of_ble_eq_true rfl) dX9_init_81 rfl ?_
  dsimp only [List.set, List.nil_append, List.cons_append]
  refine bo_aload 0 dX9_init_84 rfl rfl ?_
  refine bo_iconst (v := 0) dX9_init_85 (by decide +kernel) ?_
  refine bo_put (own := RX9) (wr := []) (T := TX9) rfl ingX9 tyX9 tyX9_ok nmX9 7 (by decide) (inG (i := 273) (by decide +kernel) rfl) rfl (fun _ => ⟨rfl, rfl⟩) (tyX9_ok 7 (by decide)) rfl rfl (Nat.le_of_ble_eq_true rfl) dX9_init_86 rfl ?_
  dsimp only [List.set, List.nil_append, List.cons_append]
  refine bo_aload 0 dX9_init_89 rfl rfl ?_
  refine bo_iconst (v := 0) dX9_init_90 (by decide +kernel) ?_
  refine bo_put (own := RX9) (wr := []) (T := TX9) rfl ingX9 tyX9 tyX9_ok nmX9 8 (by decide) (inG (i := 274) (by decide +kernel) rfl) rfl (fun _ => ⟨rfl, rfl⟩) (tyX9_ok 8 (by decide)) rfl rfl (Nat.le_of_ble_eq_true rfl) dX9_init_91 rfl ?_
  dsimp only [List.set, List.nil_append, List.cons_append]
  exact bo_ret dX9_init_94 (by omega) (by omega) ⟨fun i => ([a, q1, q2, q3, q4, q5, q6, q7, q8, q9, q10, q11, q12, q13, q14, q15, q16, q17, q18, q19, q20, q21, q22, q23, q24, q25, q26, q27, q28, q29, q30, q31, q32, q33, q34, q35, q36, q37, q38, q39, q40, q41, q42, q43, q44, q45, q46, q47, q48, q49, q50, q51] : List Nat).getD i 0, rfl, rfl⟩

set_option maxHeartbeats 4000000 in
set_option maxRecDepth 100000 in
theorem cn_lays {x : mX} {a b : Nat} {fs : List Value} (hf : fs[0]? = some (.ref b)) : Cn x mtX10_lays [.ref a, .int 2, .int 7, .int 24, .int 4] [(a, .inr (9, fs)), (b, zI x 65)] (fun w => w = [(a, .inr (9, fs)), (b, .inl (x.2.2.2.1, 65, .inl nwF))]) 0 0 := by
  refine bo_enter (by decide +kernel) rfl (Nat.le_of_ble_eq_true rfl) rfl ?_
  refine bo_aload 0 dX10_lays_0 rfl rfl ?_
  refine bo_get (T := TX10) (v := .ref b) 0 rfl rfl ingX10 0 (by decide) (inG (i := 613) (by decide +kernel) rfl) rfl hf dX10_lays_1 ?_
  refine bo_iconst (v := 0) dX10_lays_4 (by decide +kernel) ?_
  refine bo_iload 1 dX10_lays_5 rfl rfl ?_
  refine bo_iast (wr := [(a, .inr (9, fs))]) rfl (by unfold vp_in; decide +kernel) dX10_lays_6 ?_
  dsimp only [List.cons_append, List.nil_append]
  refine bo_aload 0 dX10_lays_7 rfl rfl ?_
  refine bo_get (T := TX10) (v := .ref b) 0 rfl rfl ingX10 0 (by decide) (inG (i := 613) (by decide +kernel) rfl) rfl hf dX10_lays_8 ?_
  refine bo_iconst (v := 1) dX10_lays_11 (by decide +kernel) ?_
  refine bo_iload 2 dX10_lays_12 rfl rfl ?_
  refine bo_iast (wr := [(a, .inr (9, fs))]) rfl (by unfold vp_in; decide +kernel) dX10_lays_13 ?_
  dsimp only [List.cons_append, List.nil_append]
  refine bo_aload 0 dX10_lays_14 rfl rfl ?_
  refine bo_get (T := TX10) (v := .ref b) 0 rfl rfl ingX10 0 (by decide) (inG (i := 613) (by decide +kernel) rfl) rfl hf dX10_lays_15 ?_
  refine bo_iconst (v := 2) dX10_lays_18 (by decide +kernel) ?_
  refine bo_iload 3 dX10_lays_19 rfl rfl ?_
  refine bo_iast (wr := [(a, .inr (9, fs))]) rfl (by unfold vp_in; decide +kernel) dX10_lays_20 ?_
  dsimp only [List.cons_append, List.nil_append]
  refine bo_aload 0 dX10_lays_21 rfl rfl ?_
  refine bo_get (T := TX10) (v := .ref b) 0 rfl rfl ingX10 0 (by decide) (inG (i := 613) (by decide +kernel) rfl) rfl hf dX10_lays_22 ?_
  refine bo_iconst (v := 3) dX10_lays_25 (by decide +kernel) ?_
  refine bo_iload4 4 dX10_lays_26 rfl ?_
  refine bo_iast (wr := [(a, .inr (9, fs))]) rfl (by unfold vp_in; decide +kernel) dX10_lays_28 ?_
  dsimp only [List.cons_append, List.nil_append]
  refine bo_aload 0 dX10_lays_29 rfl rfl ?_
  refine bo_get (T := TX10) (v := .ref b) 0 rfl rfl ingX10 0 (by decide) (inG (i := 613) (by decide +kernel) rfl) rfl hf dX10_lays_30 ?_
  refine bo_iconst (v := 4) dX10_lays_33 (by decide +kernel) ?_
  refine bo_iconst (v := 0) dX10_lays_34 (by decide +kernel) ?_
  refine bo_iast (wr := [(a, .inr (9, fs))]) rfl (by unfold vp_in; decide +kernel) dX10_lays_35 ?_
  dsimp only [List.cons_append, List.nil_append]
  exact bo_ret dX10_lays_36 (by omega) (by omega) rfl

set_option maxHeartbeats 4000000 in
set_option maxRecDepth 100000 in
theorem cn_Md {x : mX} {a : Nat} : Cn x mtX10_init [.ref a] [(a, .inr (9, [.null, .null, .int 0, .null, .null, .null, .int 0, .int 0, .null, .int 0, .null, .int 0, .int 0, .int 0, .int 0, .null, .int 0, .int 0, .null, .int 0, .int 0, .int 0, .long 0, .long 0, .int 0, .int 0]))] (fun w => ∃ ad : Nat → Nat, ad 52 = a ∧ w = wMd x ad) 9 6787 := by
  refine bo_enter (by decide +kernel) rfl (Nat.le_of_ble_eq_true rfl) rfl ?_
  refine bo_aload 0 dX10_init_0 rfl rfl ?_
  refine bo_obj (inG (i := 608) (by decide +kernel) rfl) dX10_init_1 (by decide) (Nat.le_of_ble_eq_true rfl) ?_
  refine bo_aload 0 dX10_init_4 rfl rfl ?_
  refine bo_bipush (v := 65) dX10_init_5 (by decide +kernel) ?_
  refine bo_newa (N := 65) dX10_init_7 (by decide +kernel) rfl (Nat.le_of_ble_eq_true rfl) (by omega) (by omega) (fun m53 => ?_)
  refine bo_put (own := RX10) (wr := []) (T := TX10) rfl ingX10 tyX10 tyX10_ok nmX10 0 (by decide) (inG (i := 613) (by decide +kernel) rfl) rfl (fun _ => ⟨rfl, rfl⟩) (tyX10_ok 0 (by decide)) rfl rfl (Nat.le_of_ble_eq_true rfl) dX10_init_9 rfl ?_
  dsimp only [List.set, List.nil_append, List.cons_append]
  refine bo_aload 0 dX10_init_12 rfl rfl ?_
  refine bo_sipush (v := 390) dX10_init_13 (by decide +kernel) ?_
  refine bo_newa (N := 390) dX10_init_16 (by decide +kernel) rfl (Nat.le_of_ble_eq_true rfl) (by omega) (by omega) (fun m54 => ?_)
  refine bo_put (own := RX10) (wr := []) (T := TX10) rfl ingX10 tyX10 tyX10_ok nmX10 1 (by decide) (inG (i := 614) (by decide +kernel) rfl) rfl (fun _ => ⟨rfl, rfl⟩) (tyX10_ok 1 (by decide)) rfl rfl (Nat.le_of_ble_eq_true rfl) dX10_init_18 rfl ?_
  dsimp only [List.set, List.nil_append, List.cons_append]
  refine bo_aload 0 dX10_init_21 rfl rfl ?_
  refine bo_sipush (v := 130) dX10_init_22 (by decide +kernel) ?_
  refine bo_newa (N := 130) dX10_init_25 (by decide +kernel) rfl (Nat.le_of_ble_eq_true rfl) (by omega) (by omega) (fun m55 => ?_)
  refine bo_put (own := RX10) (wr := []) (T := TX10) rfl ingX10 tyX10 tyX10_ok nmX10 3 (by decide) (inG (i := 616) (by decide +kernel) rfl) rfl (fun _ => ⟨rfl, rfl⟩) (tyX10_ok 3 (by decide)) rfl rfl (Nat.le_of_ble_eq_true rfl) dX10_init_27 rfl ?_
  dsimp only [List.set, List.nil_append, List.cons_append]
  refine bo_aload 0 dX10_init_30 rfl rfl ?_
  refine bo_iconst (v := 2) dX10_init_31 (by decide +kernel) ?_
  refine bo_newz (N := 2) dX10_init_32 (by decide +kernel) rfl (Nat.le_of_ble_eq_true rfl) (by omega) (by omega) (fun m56 => ?_)
  refine bo_put (own := RX10) (wr := []) (T := TX10) rfl ingX10 tyX10 tyX10_ok nmX10 4 (by decide) (inG (i := 617) (by decide +kernel) rfl) rfl (fun _ => ⟨rfl, rfl⟩) (tyX10_ok 4 (by decide)) rfl rfl (Nat.le_of_ble_eq_true rfl) dX10_init_34 rfl ?_
  dsimp only [List.set, List.nil_append, List.cons_append]
  refine bo_aload 0 dX10_init_37 rfl rfl ?_
  refine bo_sipush (v := 200) dX10_init_38 (by decide +kernel) ?_
  refine bo_newa (N := 200) dX10_init_41 (by decide +kernel) rfl (Nat.le_of_ble_eq_true rfl) (by omega) (by omega) (fun m57 => ?_)
  refine bo_put (own := RX10) (wr := []) (T := TX10) rfl ingX10 tyX10 tyX10_ok nmX10 5 (by decide) (inG (i := 618) (by decide +kernel) rfl) rfl (fun _ => ⟨rfl, rfl⟩) (tyX10_ok 5 (by decide)) rfl rfl (Nat.le_of_ble_eq_true rfl) dX10_init_43 rfl ?_
  dsimp only [List.set, List.nil_append, List.cons_append]
  refine bo_aload 0 dX10_init_46 rfl rfl ?_
  refine bo_bipush (v := 60) dX10_init_47 (by decide +kernel) ?_
  refine bo_newa (N := 60) dX10_init_49 (by decide +kernel) rfl (Nat.le_of_ble_eq_true rfl) (by omega) (by omega) (fun m58 => ?_)
  refine bo_put (own := RX10) (wr := []) (T := TX10) rfl ingX10 tyX10 tyX10_ok nmX10 8 (by decide) (inG (i := 621) (by decide +kernel) rfl) rfl (fun _ => ⟨rfl, rfl⟩) (tyX10_ok 8 (by decide)) rfl rfl (Nat.le_of_ble_eq_true rfl) dX10_init_51 rfl ?_
  dsimp only [List.set, List.nil_append, List.cons_append]
  refine bo_aload 0 dX10_init_54 rfl rfl ?_
  refine bo_sipush (v := 340) dX10_init_55 (by decide +kernel) ?_
  refine bo_newa (N := 340) dX10_init_58 (by decide +kernel) rfl (Nat.le_of_ble_eq_true rfl) (by omega) (by omega) (fun m59 => ?_)
  refine bo_put (own := RX10) (wr := []) (T := TX10) rfl ingX10 tyX10 tyX10_ok nmX10 10 (by decide) (inG (i := 623) (by decide +kernel) rfl) rfl (fun _ => ⟨rfl, rfl⟩) (tyX10_ok 10 (by decide)) rfl rfl (Nat.le_of_ble_eq_true rfl) dX10_init_60 rfl ?_
  dsimp only [List.set, List.nil_append, List.cons_append]
  refine bo_aload 0 dX10_init_63 rfl rfl ?_
  refine bo_sipush (v := 2800) dX10_init_64 (by decide +kernel) ?_
  refine bo_newa (N := 2800) dX10_init_67 (by decide +kernel) rfl (Nat.le_of_ble_eq_true rfl) (by omega) (by omega) (fun m60 => ?_)
  refine bo_put (own := RX10) (wr := []) (T := TX10) rfl ingX10 tyX10 tyX10_ok nmX10 15 (by decide) (inG (i := 628) (by decide +kernel) rfl) rfl (fun _ => ⟨rfl, rfl⟩) (tyX10_ok 15 (by decide)) rfl rfl (Nat.le_of_ble_eq_true rfl) dX10_init_69 rfl ?_
  dsimp only [List.set, List.nil_append, List.cons_append]
  refine bo_aload 0 dX10_init_72 rfl rfl ?_
  refine bo_sipush (v := 2800) dX10_init_73 (by decide +kernel) ?_
  refine bo_newa (N := 2800) dX10_init_76 (by decide +kernel) rfl (Nat.le_of_ble_eq_true rfl) (by omega) (by omega) (fun m61 => ?_)
  refine bo_put (own := RX10) (wr := []) (T := TX10) rfl ingX10 tyX10 tyX10_ok nmX10 18 (by decide) (inG (i := 631) (by decide +kernel) rfl) rfl (fun _ => ⟨rfl, rfl⟩) (tyX10_ok 18 (by decide)) rfl rfl (Nat.le_of_ble_eq_true rfl) dX10_init_78 rfl ?_
  dsimp only [List.set, List.nil_append, List.cons_append]
  refine bo_aload 0 dX10_init_81 rfl rfl ?_
  refine bo_iconst (v := 2) dX10_init_82 (by decide +kernel) ?_
  refine bo_bipush (v := 7) dX10_init_83 (by decide +kernel) ?_
  refine bo_bipush (v := 24) dX10_init_85 (by decide +kernel) ?_
  refine bo_iconst (v := 4) dX10_init_87 (by decide +kernel) ?_
  refine bo_callV (N := mtX10_lays) (as := [.int 2, .int 7, .int 24, .int 4]) (ci := 9) (wr := [(m54, zI x 390), (m55, zI x 130), (m56, .inl (x.2.2.2.2.1, 2, .inl (fun _ => 0))), (m57, zI x 200), (m58, zI x 60), (m59, zI x 340), (m60, zI x 2800), (m61, zI x 2800)]) (wc := [(a, .inr (9, mdF (fun i => ([a, m53, m54, m55, m56, m57, m58, m59, m60, m61] : List Nat).getD (i - 52) 0))), (m53, zI x 65)]) [0, 1] [2, 3, 4, 5, 6, 7, 8, 9] rfl rfl (by decide) (by decide) (by decide) vlX10_38 dX10_init_88 (by decide) (Nat.le_of_ble_eq_true rfl) rfl rfl rfl rfl rfl (cn_lays (a := a) (b := m53) rfl) (by omega) (by omega) (fun w hw => ?_)
  subst hw
  refine bo_perm [8, 9, 0, 1, 2, 3, 4, 5, 6, 7] rfl (by decide) rfl ?_
  exact bo_ret dX10_init_91 (by omega) (by omega) ⟨fun i => ([a, m53, m54, m55, m56, m57, m58, m59, m60, m61] : List Nat).getD (i - 52) 0, rfl, rfl⟩
