/-! THE CLAIM OUT OF ONE WALK OF THE LAW'S BODY. Your part is whole_start (and what it stands on); all else here is the same for every law, but numbers. -/
def R_law : String := "LongestPastLaw"
def lw_P (b : Addr) (xs : List Int32) (args : Array Value) (s : State) : Prop := args = #[.ref b] ∧ s.IntsAt b xs ∧ xs.length ≤ 3072 ∧ (Jvm.Cond.and given_1 narrow_1).before args s = true
def lw_Q (_ : Array Value) (s : State) (o : Outcome) (t : State) : Prop := o = .returned (some (.int 1)) ∧ Framed s o t [] 600000 7302250
def lw_Z (below : List Frame) (a : Array Value) (s : State) : State → Prop := fun t => ∃ o, t.status = .running ∧ Ended t below o ∧ lw_Q a s o t
/-- the law's own end, with 1 on the stack, nothing written that was there before, its room as the claim has it -/
theorem lw_ret {p : Program} {l : Launch} {e : Env} {s : State} {m : MethodId} {below : List Frame} {meth : Method} {c : Code} {b : Nat} (hx : p.tables.exec = Jvm.exec) (hb : c.code = code) (hr : meth.sig.returnType = ret) (hlocks : meth.locks = false) {pc : Nat} {H : Heap} {ls : Array Slot} (hdg : decode code pc = .ok (.ireturn, 1)) : W p l e room_1 s m #[Value.ref b] below meth c H [] 600000 7302250 (lw_Z below #[Value.ref b] s) (F0 m pc ls [.int 1]) := by
  intro T hT X
  obtain ⟨fs, hret, hrun, hended, hW, hframe⟩ := X.leave (v := some (.int 1)) (hlocks := hlocks) (fun h => by rw [hr] at h; cases h)
  have hmeth' : T.vm.method? m = some meth := X.method'
  refine ⟨T.setFrames fs, ?_, .returned (some (.int 1)), hrun, hended, rfl, ⟨_, rfl⟩, hW, hframe⟩
  jvm_step X.here [X.here.top, hx, hb, hdg, hmeth', hr, ret, narrow_b1]
  (try refine ⟨rfl, ?_⟩); (try refine ⟨rfl, ?_⟩)
  first | (intro acts; rw [hret _ acts rfl rfl rfl]) | rw [hret _ _ rfl rfl rfl]
  exact Steps.refl _
/-- what holds at the law's entry: the machine, the code, the tables' words (any of lw_tbl by 'hts w (by decide +kernel)'), the script of L ints xs at the cell b, what the Statement gives of the start (any of its parts by flat_of_before) -/
def lw_At (p : Program) (s : State) (m : MethodId) (meth : Method) (c : Code) (b L : Nat) (xs : Nat → Int32) : Prop :=
  p.tables.exec = Jvm.exec ∧ c.code = code ∧ meth.sig.returnType = ret ∧ c.maxLocals = 4 ∧ s.vm.findClass R_law = some m.cls ∧ (∀ w ∈ lw_tbl, w.before #[Value.ref b] s = true) ∧ va_X b L xs s s.heap ∧ b < s.heap.size ∧ meth.locks = false ∧ (Jvm.Cond.and given_1 narrow_1).before #[Value.ref b] s = true

/-! ===== the law: links ===== -/
theorem ccX9_init : Cond.instanceMethod mtX9_init.1 ∈ gd_tbl ∧ mCl mtX9_init 0 := ⟨(inG (i := 54) (by decide +kernel) rfl), (inG (i := 55) (by decide +kernel) rfl), (inG (i := 38) (by decide +kernel) rfl), ⟨by decide +kernel, by decide +kernel, by decide +kernel⟩, by decide⟩
theorem ilL_9 : mIl "LongestPastLaw" 9 mtX9_init 0 := ⟨Or.inl (inG (i := 53) (by decide +kernel) rfl), ccX9_init.1, ccX9_init.2, rfl, rfl⟩
theorem ccX10_init : Cond.instanceMethod mtX10_init.1 ∈ gd_tbl ∧ mCl mtX10_init 0 := ⟨(inG (i := 606) (by decide +kernel) rfl), (inG (i := 607) (by decide +kernel) rfl), (inG (i := 49) (by decide +kernel) rfl), ⟨by decide +kernel, by decide +kernel, by decide +kernel⟩, by decide⟩
theorem ilL_12 : mIl "LongestPastLaw" 12 mtX10_init 0 := ⟨Or.inl (inG (i := 605) (by decide +kernel) rfl), ccX10_init.1, ccX10_init.2, rfl, rfl⟩
theorem clX9_type : mCl mtX9_type 1 := ⟨(inG (i := 297) (by decide +kernel) rfl), (inG (i := 38) (by decide +kernel) rfl), ⟨by decide +kernel, by decide +kernel, by decide +kernel⟩, by decide⟩
theorem ivX9_type : Cond.instanceMethod mtX9_type.1 ∈ gd_tbl ∧ Cond.selects mtX9_type.1.cls mtX9_type.1 mtX9_type.1 ∈ gd_tbl := ⟨(inG (i := 295) (by decide +kernel) rfl), (inG (i := 296) (by decide +kernel) rfl)⟩
theorem vlL_13 : mVl "LongestPastLaw" 13 mtX9_type 1 := ⟨(inG (i := 294) (by decide +kernel) rfl), ivX9_type, clX9_type⟩
theorem clX10_type : mCl mtX10_type 1 := ⟨(inG (i := 696) (by decide +kernel) rfl), (inG (i := 49) (by decide +kernel) rfl), ⟨by decide +kernel, by decide +kernel, by decide +kernel⟩, by decide⟩
theorem ivX10_type : Cond.instanceMethod mtX10_type.1 ∈ gd_tbl ∧ Cond.selects mtX10_type.1.cls mtX10_type.1 mtX10_type.1 ∈ gd_tbl := ⟨(inG (i := 694) (by decide +kernel) rfl), (inG (i := 695) (by decide +kernel) rfl)⟩
theorem vlL_17 : mVl "LongestPastLaw" 17 mtX10_type 1 := ⟨(inG (i := 693) (by decide +kernel) rfl), ivX10_type, clX10_type⟩
theorem clX9_clear : mCl mtX9_clear 0 := ⟨(inG (i := 309) (by decide +kernel) rfl), (inG (i := 38) (by decide +kernel) rfl), ⟨by decide +kernel, by decide +kernel, by decide +kernel⟩, by decide⟩
theorem ivX9_clear : Cond.instanceMethod mtX9_clear.1 ∈ gd_tbl ∧ Cond.selects mtX9_clear.1.cls mtX9_clear.1 mtX9_clear.1 ∈ gd_tbl := ⟨(inG (i := 307) (by decide +kernel) rfl), (inG (i := 308) (by decide +kernel) rfl)⟩
theorem vlL_18 : mVl "LongestPastLaw" 18 mtX9_clear 0 := ⟨(inG (i := 306) (by decide +kernel) rfl), ivX9_clear, clX9_clear⟩
theorem clX10_clear : mCl mtX10_clear 0 := ⟨(inG (i := 703) (by decide +kernel) rfl), (inG (i := 49) (by decide +kernel) rfl), ⟨by decide +kernel, by decide +kernel, by decide +kernel⟩, by decide⟩
theorem ivX10_clear : Cond.instanceMethod mtX10_clear.1 ∈ gd_tbl ∧ Cond.selects mtX10_clear.1.cls mtX10_clear.1 mtX10_clear.1 ∈ gd_tbl := ⟨(inG (i := 701) (by decide +kernel) rfl), (inG (i := 702) (by decide +kernel) rfl)⟩
theorem vlL_22 : mVl "LongestPastLaw" 22 mtX10_clear 0 := ⟨(inG (i := 700) (by decide +kernel) rfl), ivX10_clear, clX10_clear⟩
theorem clX9_begins : mCl mtX9_begins 4 := ⟨(inG (i := 317) (by decide +kernel) rfl), (inG (i := 38) (by decide +kernel) rfl), ⟨by decide +kernel, by decide +kernel, by decide +kernel⟩, by decide⟩
theorem ivX9_begins : Cond.instanceMethod mtX9_begins.1 ∈ gd_tbl ∧ Cond.selects mtX9_begins.1.cls mtX9_begins.1 mtX9_begins.1 ∈ gd_tbl := ⟨(inG (i := 315) (by decide +kernel) rfl), (inG (i := 316) (by decide +kernel) rfl)⟩
theorem vlL_23 : mVl "LongestPastLaw" 23 mtX9_begins 4 := ⟨(inG (i := 314) (by decide +kernel) rfl), ivX9_begins, clX9_begins⟩
theorem clX10_begins : mCl mtX10_begins 4 := ⟨(inG (i := 707) (by decide +kernel) rfl), (inG (i := 49) (by decide +kernel) rfl), ⟨by decide +kernel, by decide +kernel, by decide +kernel⟩, by decide⟩
theorem ivX10_begins : Cond.instanceMethod mtX10_begins.1 ∈ gd_tbl ∧ Cond.selects mtX10_begins.1.cls mtX10_begins.1 mtX10_begins.1 ∈ gd_tbl := ⟨(inG (i := 705) (by decide +kernel) rfl), (inG (i := 706) (by decide +kernel) rfl)⟩
theorem vlL_27 : mVl "LongestPastLaw" 27 mtX10_begins 4 := ⟨(inG (i := 704) (by decide +kernel) rfl), ivX10_begins, clX10_begins⟩
theorem clX9_packs : mCl mtX9_packs 1 := ⟨(inG (i := 480) (by decide +kernel) rfl), (inG (i := 38) (by decide +kernel) rfl), ⟨by decide +kernel, by decide +kernel, by decide +kernel⟩, by decide⟩
theorem ivX9_packs : Cond.instanceMethod mtX9_packs.1 ∈ gd_tbl ∧ Cond.selects mtX9_packs.1.cls mtX9_packs.1 mtX9_packs.1 ∈ gd_tbl := ⟨(inG (i := 478) (by decide +kernel) rfl), (inG (i := 479) (by decide +kernel) rfl)⟩
theorem vlL_28 : mVl "LongestPastLaw" 28 mtX9_packs 1 := ⟨(inG (i := 477) (by decide +kernel) rfl), ivX9_packs, clX9_packs⟩
theorem clX10_packs : mCl mtX10_packs 1 := ⟨(inG (i := 715) (by decide +kernel) rfl), (inG (i := 49) (by decide +kernel) rfl), ⟨by decide +kernel, by decide +kernel, by decide +kernel⟩, by decide⟩
theorem ivX10_packs : Cond.instanceMethod mtX10_packs.1 ∈ gd_tbl ∧ Cond.selects mtX10_packs.1.cls mtX10_packs.1 mtX10_packs.1 ∈ gd_tbl := ⟨(inG (i := 713) (by decide +kernel) rfl), (inG (i := 714) (by decide +kernel) rfl)⟩
theorem vlL_31 : mVl "LongestPastLaw" 31 mtX10_packs 1 := ⟨(inG (i := 712) (by decide +kernel) rfl), ivX10_packs, clX10_packs⟩
theorem clX9_word : mCl mtX9_word 0 := ⟨(inG (i := 488) (by decide +kernel) rfl), (inG (i := 38) (by decide +kernel) rfl), ⟨by decide +kernel, by decide +kernel, by decide +kernel⟩, by decide⟩
theorem ivX9_word : Cond.instanceMethod mtX9_word.1 ∈ gd_tbl ∧ Cond.selects mtX9_word.1.cls mtX9_word.1 mtX9_word.1 ∈ gd_tbl := ⟨(inG (i := 486) (by decide +kernel) rfl), (inG (i := 487) (by decide +kernel) rfl)⟩
theorem vlL_32 : mVl "LongestPastLaw" 32 mtX9_word 0 := ⟨(inG (i := 485) (by decide +kernel) rfl), ivX9_word, clX9_word⟩
theorem clX10_word : mCl mtX10_word 0 := ⟨(inG (i := 811) (by decide +kernel) rfl), (inG (i := 49) (by decide +kernel) rfl), ⟨by decide +kernel, by decide +kernel, by decide +kernel⟩, by decide⟩
theorem ivX10_word : Cond.instanceMethod mtX10_word.1 ∈ gd_tbl ∧ Cond.selects mtX10_word.1.cls mtX10_word.1 mtX10_word.1 ∈ gd_tbl := ⟨(inG (i := 809) (by decide +kernel) rfl), (inG (i := 810) (by decide +kernel) rfl)⟩
theorem vlL_35 : mVl "LongestPastLaw" 35 mtX10_word 0 := ⟨(inG (i := 808) (by decide +kernel) rfl), ivX10_word, clX10_word⟩
theorem clX9_cuts : mCl mtX9_cuts 1 := ⟨(inG (i := 497) (by decide +kernel) rfl), (inG (i := 38) (by decide +kernel) rfl), ⟨by decide +kernel, by decide +kernel, by decide +kernel⟩, by decide⟩
theorem ivX9_cuts : Cond.instanceMethod mtX9_cuts.1 ∈ gd_tbl ∧ Cond.selects mtX9_cuts.1.cls mtX9_cuts.1 mtX9_cuts.1 ∈ gd_tbl := ⟨(inG (i := 495) (by decide +kernel) rfl), (inG (i := 496) (by decide +kernel) rfl)⟩
theorem vlL_36 : mVl "LongestPastLaw" 36 mtX9_cuts 1 := ⟨(inG (i := 494) (by decide +kernel) rfl), ivX9_cuts, clX9_cuts⟩
theorem clX10_cuts : mCl mtX10_cuts 1 := ⟨(inG (i := 819) (by decide +kernel) rfl), (inG (i := 49) (by decide +kernel) rfl), ⟨by decide +kernel, by decide +kernel, by decide +kernel⟩, by decide⟩
theorem ivX10_cuts : Cond.instanceMethod mtX10_cuts.1 ∈ gd_tbl ∧ Cond.selects mtX10_cuts.1.cls mtX10_cuts.1 mtX10_cuts.1 ∈ gd_tbl := ⟨(inG (i := 817) (by decide +kernel) rfl), (inG (i := 818) (by decide +kernel) rfl)⟩
theorem vlL_39 : mVl "LongestPastLaw" 39 mtX10_cuts 1 := ⟨(inG (i := 816) (by decide +kernel) rfl), ivX10_cuts, clX10_cuts⟩
theorem clX9_undo : mCl mtX9_undo 0 := ⟨(inG (i := 501) (by decide +kernel) rfl), (inG (i := 38) (by decide +kernel) rfl), ⟨by decide +kernel, by decide +kernel, by decide +kernel⟩, by decide⟩
theorem ivX9_undo : Cond.instanceMethod mtX9_undo.1 ∈ gd_tbl ∧ Cond.selects mtX9_undo.1.cls mtX9_undo.1 mtX9_undo.1 ∈ gd_tbl := ⟨(inG (i := 499) (by decide +kernel) rfl), (inG (i := 500) (by decide +kernel) rfl)⟩
theorem vlL_40 : mVl "LongestPastLaw" 40 mtX9_undo 0 := ⟨(inG (i := 498) (by decide +kernel) rfl), ivX9_undo, clX9_undo⟩
theorem clX10_undo : mCl mtX10_undo 0 := ⟨(inG (i := 823) (by decide +kernel) rfl), (inG (i := 49) (by decide +kernel) rfl), ⟨by decide +kernel, by decide +kernel, by decide +kernel⟩, by decide⟩
theorem ivX10_undo : Cond.instanceMethod mtX10_undo.1 ∈ gd_tbl ∧ Cond.selects mtX10_undo.1.cls mtX10_undo.1 mtX10_undo.1 ∈ gd_tbl := ⟨(inG (i := 821) (by decide +kernel) rfl), (inG (i := 822) (by decide +kernel) rfl)⟩
theorem vlL_43 : mVl "LongestPastLaw" 43 mtX10_undo 0 := ⟨(inG (i := 820) (by decide +kernel) rfl), ivX10_undo, clX10_undo⟩
theorem clX9_sign : mCl mtX9_sign 1 := ⟨(inG (i := 509) (by decide +kernel) rfl), (inG (i := 38) (by decide +kernel) rfl), ⟨by decide +kernel, by decide +kernel, by decide +kernel⟩, by decide⟩
theorem ivX9_sign : Cond.instanceMethod mtX9_sign.1 ∈ gd_tbl ∧ Cond.selects mtX9_sign.1.cls mtX9_sign.1 mtX9_sign.1 ∈ gd_tbl := ⟨(inG (i := 507) (by decide +kernel) rfl), (inG (i := 508) (by decide +kernel) rfl)⟩
theorem vlL_44 : mVl "LongestPastLaw" 44 mtX9_sign 1 := ⟨(inG (i := 506) (by decide +kernel) rfl), ivX9_sign, clX9_sign⟩
theorem clX10_sign : mCl mtX10_sign 1 := ⟨(inG (i := 827) (by decide +kernel) rfl), (inG (i := 49) (by decide +kernel) rfl), ⟨by decide +kernel, by decide +kernel, by decide +kernel⟩, by decide⟩
theorem ivX10_sign : Cond.instanceMethod mtX10_sign.1 ∈ gd_tbl ∧ Cond.selects mtX10_sign.1.cls mtX10_sign.1 mtX10_sign.1 ∈ gd_tbl := ⟨(inG (i := 825) (by decide +kernel) rfl), (inG (i := 826) (by decide +kernel) rfl)⟩
theorem vlL_47 : mVl "LongestPastLaw" 47 mtX10_sign 1 := ⟨(inG (i := 824) (by decide +kernel) rfl), ivX10_sign, clX10_sign⟩
theorem clX9_count : mCl mtX9_count 5 := ⟨(inG (i := 513) (by decide +kernel) rfl), (inG (i := 38) (by decide +kernel) rfl), ⟨by decide +kernel, by decide +kernel, by decide +kernel⟩, by decide⟩
theorem ivX9_count : Cond.instanceMethod mtX9_count.1 ∈ gd_tbl ∧ Cond.selects mtX9_count.1.cls mtX9_count.1 mtX9_count.1 ∈ gd_tbl := ⟨(inG (i := 511) (by decide +kernel) rfl), (inG (i := 512) (by decide +kernel) rfl)⟩
theorem vlL_48 : mVl "LongestPastLaw" 48 mtX9_count 5 := ⟨(inG (i := 510) (by decide +kernel) rfl), ivX9_count, clX9_count⟩
theorem clX10_count : mCl mtX10_count 5 := ⟨(inG (i := 831) (by decide +kernel) rfl), (inG (i := 49) (by decide +kernel) rfl), ⟨by decide +kernel, by decide +kernel, by decide +kernel⟩, by decide⟩
theorem ivX10_count : Cond.instanceMethod mtX10_count.1 ∈ gd_tbl ∧ Cond.selects mtX10_count.1.cls mtX10_count.1 mtX10_count.1 ∈ gd_tbl := ⟨(inG (i := 829) (by decide +kernel) rfl), (inG (i := 830) (by decide +kernel) rfl)⟩
theorem vlL_52 : mVl "LongestPastLaw" 52 mtX10_count 5 := ⟨(inG (i := 828) (by decide +kernel) rfl), ivX10_count, clX10_count⟩
theorem clX9_bit : mCl mtX9_bit 1 := ⟨(inG (i := 522) (by decide +kernel) rfl), (inG (i := 38) (by decide +kernel) rfl), ⟨by decide +kernel, by decide +kernel, by decide +kernel⟩, by decide⟩
theorem ivX9_bit : Cond.instanceMethod mtX9_bit.1 ∈ gd_tbl ∧ Cond.selects mtX9_bit.1.cls mtX9_bit.1 mtX9_bit.1 ∈ gd_tbl := ⟨(inG (i := 520) (by decide +kernel) rfl), (inG (i := 521) (by decide +kernel) rfl)⟩
theorem vlL_53 : mVl "LongestPastLaw" 53 mtX9_bit 1 := ⟨(inG (i := 519) (by decide +kernel) rfl), ivX9_bit, clX9_bit⟩
theorem clX10_bit : mCl mtX10_bit 1 := ⟨(inG (i := 842) (by decide +kernel) rfl), (inG (i := 49) (by decide +kernel) rfl), ⟨by decide +kernel, by decide +kernel, by decide +kernel⟩, by decide⟩
theorem ivX10_bit : Cond.instanceMethod mtX10_bit.1 ∈ gd_tbl ∧ Cond.selects mtX10_bit.1.cls mtX10_bit.1 mtX10_bit.1 ∈ gd_tbl := ⟨(inG (i := 840) (by decide +kernel) rfl), (inG (i := 841) (by decide +kernel) rfl)⟩
theorem vlL_56 : mVl "LongestPastLaw" 56 mtX10_bit 1 := ⟨(inG (i := 839) (by decide +kernel) rfl), ivX10_bit, clX10_bit⟩
theorem clX9_chance : mCl mtX9_chance 2 := ⟨(inG (i := 526) (by decide +kernel) rfl), (inG (i := 38) (by decide +kernel) rfl), ⟨by decide +kernel, by decide +kernel, by decide +kernel⟩, by decide⟩
theorem ivX9_chance : Cond.instanceMethod mtX9_chance.1 ∈ gd_tbl ∧ Cond.selects mtX9_chance.1.cls mtX9_chance.1 mtX9_chance.1 ∈ gd_tbl := ⟨(inG (i := 524) (by decide +kernel) rfl), (inG (i := 525) (by decide +kernel) rfl)⟩
theorem vlL_57 : mVl "LongestPastLaw" 57 mtX9_chance 2 := ⟨(inG (i := 523) (by decide +kernel) rfl), ivX9_chance, clX9_chance⟩
theorem clX10_chance : mCl mtX10_chance 2 := ⟨(inG (i := 846) (by decide +kernel) rfl), (inG (i := 49) (by decide +kernel) rfl), ⟨by decide +kernel, by decide +kernel, by decide +kernel⟩, by decide⟩
theorem ivX10_chance : Cond.instanceMethod mtX10_chance.1 ∈ gd_tbl ∧ Cond.selects mtX10_chance.1.cls mtX10_chance.1 mtX10_chance.1 ∈ gd_tbl := ⟨(inG (i := 844) (by decide +kernel) rfl), (inG (i := 845) (by decide +kernel) rfl)⟩
theorem vlL_61 : mVl "LongestPastLaw" 61 mtX10_chance 2 := ⟨(inG (i := 843) (by decide +kernel) rfl), ivX10_chance, clX10_chance⟩
theorem clX9_escapes : mCl mtX9_escapes 2 := ⟨(inG (i := 542) (by decide +kernel) rfl), (inG (i := 38) (by decide +kernel) rfl), ⟨by decide +kernel, by decide +kernel, by decide +kernel⟩, by decide⟩
theorem ivX9_escapes : Cond.instanceMethod mtX9_escapes.1 ∈ gd_tbl ∧ Cond.selects mtX9_escapes.1.cls mtX9_escapes.1 mtX9_escapes.1 ∈ gd_tbl := ⟨(inG (i := 540) (by decide +kernel) rfl), (inG (i := 541) (by decide +kernel) rfl)⟩
theorem vlL_62 : mVl "LongestPastLaw" 62 mtX9_escapes 2 := ⟨(inG (i := 539) (by decide +kernel) rfl), ivX9_escapes, clX9_escapes⟩
theorem clX10_escapes : mCl mtX10_escapes 2 := ⟨(inG (i := 857) (by decide +kernel) rfl), (inG (i := 49) (by decide +kernel) rfl), ⟨by decide +kernel, by decide +kernel, by decide +kernel⟩, by decide⟩
theorem ivX10_escapes : Cond.instanceMethod mtX10_escapes.1 ∈ gd_tbl ∧ Cond.selects mtX10_escapes.1.cls mtX10_escapes.1 mtX10_escapes.1 ∈ gd_tbl := ⟨(inG (i := 855) (by decide +kernel) rfl), (inG (i := 856) (by decide +kernel) rfl)⟩
theorem vlL_65 : mVl "LongestPastLaw" 65 mtX10_escapes 2 := ⟨(inG (i := 854) (by decide +kernel) rfl), ivX10_escapes, clX10_escapes⟩
theorem clX9_likeliest : mCl mtX9_likeliest 0 := ⟨(inG (i := 546) (by decide +kernel) rfl), (inG (i := 38) (by decide +kernel) rfl), ⟨by decide +kernel, by decide +kernel, by decide +kernel⟩, by decide⟩
theorem ivX9_likeliest : Cond.instanceMethod mtX9_likeliest.1 ∈ gd_tbl ∧ Cond.selects mtX9_likeliest.1.cls mtX9_likeliest.1 mtX9_likeliest.1 ∈ gd_tbl := ⟨(inG (i := 544) (by decide +kernel) rfl), (inG (i := 545) (by decide +kernel) rfl)⟩
theorem vlL_66 : mVl "LongestPastLaw" 66 mtX9_likeliest 0 := ⟨(inG (i := 543) (by decide +kernel) rfl), ivX9_likeliest, clX9_likeliest⟩
theorem clX10_likeliest : mCl mtX10_likeliest 0 := ⟨(inG (i := 861) (by decide +kernel) rfl), (inG (i := 49) (by decide +kernel) rfl), ⟨by decide +kernel, by decide +kernel, by decide +kernel⟩, by decide⟩
theorem ivX10_likeliest : Cond.instanceMethod mtX10_likeliest.1 ∈ gd_tbl ∧ Cond.selects mtX10_likeliest.1.cls mtX10_likeliest.1 mtX10_likeliest.1 ∈ gd_tbl := ⟨(inG (i := 859) (by decide +kernel) rfl), (inG (i := 860) (by decide +kernel) rfl)⟩
theorem vlL_69 : mVl "LongestPastLaw" 69 mtX10_likeliest 0 := ⟨(inG (i := 858) (by decide +kernel) rfl), ivX10_likeliest, clX10_likeliest⟩
theorem clX9_length : mCl mtX9_length 0 := ⟨(inG (i := 550) (by decide +kernel) rfl), (inG (i := 38) (by decide +kernel) rfl), ⟨by decide +kernel, by decide +kernel, by decide +kernel⟩, by decide⟩
theorem ivX9_length : Cond.instanceMethod mtX9_length.1 ∈ gd_tbl ∧ Cond.selects mtX9_length.1.cls mtX9_length.1 mtX9_length.1 ∈ gd_tbl := ⟨(inG (i := 548) (by decide +kernel) rfl), (inG (i := 549) (by decide +kernel) rfl)⟩
theorem vlL_70 : mVl "LongestPastLaw" 70 mtX9_length 0 := ⟨(inG (i := 547) (by decide +kernel) rfl), ivX9_length, clX9_length⟩
theorem clX10_length : mCl mtX10_length 0 := ⟨(inG (i := 865) (by decide +kernel) rfl), (inG (i := 49) (by decide +kernel) rfl), ⟨by decide +kernel, by decide +kernel, by decide +kernel⟩, by decide⟩
theorem ivX10_length : Cond.instanceMethod mtX10_length.1 ∈ gd_tbl ∧ Cond.selects mtX10_length.1.cls mtX10_length.1 mtX10_length.1 ∈ gd_tbl := ⟨(inG (i := 863) (by decide +kernel) rfl), (inG (i := 864) (by decide +kernel) rfl)⟩
theorem vlL_73 : mVl "LongestPastLaw" 73 mtX10_length 0 := ⟨(inG (i := 862) (by decide +kernel) rfl), ivX10_length, clX10_length⟩
theorem clX9_best : mCl mtX9_best 0 := ⟨(inG (i := 558) (by decide +kernel) rfl), (inG (i := 38) (by decide +kernel) rfl), ⟨by decide +kernel, by decide +kernel, by decide +kernel⟩, by decide⟩
theorem ivX9_best : Cond.instanceMethod mtX9_best.1 ∈ gd_tbl ∧ Cond.selects mtX9_best.1.cls mtX9_best.1 mtX9_best.1 ∈ gd_tbl := ⟨(inG (i := 556) (by decide +kernel) rfl), (inG (i := 557) (by decide +kernel) rfl)⟩
theorem vlL_74 : mVl "LongestPastLaw" 74 mtX9_best 0 := ⟨(inG (i := 555) (by decide +kernel) rfl), ivX9_best, clX9_best⟩
theorem clX10_best : mCl mtX10_best 0 := ⟨(inG (i := 873) (by decide +kernel) rfl), (inG (i := 49) (by decide +kernel) rfl), ⟨by decide +kernel, by decide +kernel, by decide +kernel⟩, by decide⟩
theorem ivX10_best : Cond.instanceMethod mtX10_best.1 ∈ gd_tbl ∧ Cond.selects mtX10_best.1.cls mtX10_best.1 mtX10_best.1 ∈ gd_tbl := ⟨(inG (i := 871) (by decide +kernel) rfl), (inG (i := 872) (by decide +kernel) rfl)⟩
theorem vlL_77 : mVl "LongestPastLaw" 77 mtX10_best 0 := ⟨(inG (i := 870) (by decide +kernel) rfl), ivX10_best, clX10_best⟩
theorem clX9_unpacked : mCl mtX9_unpacked 1 := ⟨(inG (i := 563) (by decide +kernel) rfl), (inG (i := 38) (by decide +kernel) rfl), ⟨by decide +kernel, by decide +kernel, by decide +kernel⟩, by decide⟩
theorem ivX9_unpacked : Cond.instanceMethod mtX9_unpacked.1 ∈ gd_tbl ∧ Cond.selects mtX9_unpacked.1.cls mtX9_unpacked.1 mtX9_unpacked.1 ∈ gd_tbl := ⟨(inG (i := 561) (by decide +kernel) rfl), (inG (i := 562) (by decide +kernel) rfl)⟩
theorem vlL_78 : mVl "LongestPastLaw" 78 mtX9_unpacked 1 := ⟨(inG (i := 560) (by decide +kernel) rfl), ivX9_unpacked, clX9_unpacked⟩
theorem clX10_unpacked : mCl mtX10_unpacked 1 := ⟨(inG (i := 877) (by decide +kernel) rfl), (inG (i := 49) (by decide +kernel) rfl), ⟨by decide +kernel, by decide +kernel, by decide +kernel⟩, by decide⟩
theorem ivX10_unpacked : Cond.instanceMethod mtX10_unpacked.1 ∈ gd_tbl ∧ Cond.selects mtX10_unpacked.1.cls mtX10_unpacked.1 mtX10_unpacked.1 ∈ gd_tbl := ⟨(inG (i := 875) (by decide +kernel) rfl), (inG (i := 876) (by decide +kernel) rfl)⟩
theorem vlL_81 : mVl "LongestPastLaw" 81 mtX10_unpacked 1 := ⟨(inG (i := 874) (by decide +kernel) rfl), ivX10_unpacked, clX10_unpacked⟩
theorem clX9_agrees : mCl mtX9_agrees 0 := ⟨(inG (i := 581) (by decide +kernel) rfl), (inG (i := 38) (by decide +kernel) rfl), ⟨by decide +kernel, by decide +kernel, by decide +kernel⟩, by decide⟩
theorem ivX9_agrees : Cond.instanceMethod mtX9_agrees.1 ∈ gd_tbl ∧ Cond.selects mtX9_agrees.1.cls mtX9_agrees.1 mtX9_agrees.1 ∈ gd_tbl := ⟨(inG (i := 579) (by decide +kernel) rfl), (inG (i := 580) (by decide +kernel) rfl)⟩
theorem vlL_82 : mVl "LongestPastLaw" 82 mtX9_agrees 0 := ⟨(inG (i := 578) (by decide +kernel) rfl), ivX9_agrees, clX9_agrees⟩
theorem clX10_agrees : mCl mtX10_agrees 0 := ⟨(inG (i := 885) (by decide +kernel) rfl), (inG (i := 49) (by decide +kernel) rfl), ⟨by decide +kernel, by decide +kernel, by decide +kernel⟩, by decide⟩
theorem ivX10_agrees : Cond.instanceMethod mtX10_agrees.1 ∈ gd_tbl ∧ Cond.selects mtX10_agrees.1.cls mtX10_agrees.1 mtX10_agrees.1 ∈ gd_tbl := ⟨(inG (i := 883) (by decide +kernel) rfl), (inG (i := 884) (by decide +kernel) rfl)⟩
theorem vlL_85 : mVl "LongestPastLaw" 85 mtX10_agrees 0 := ⟨(inG (i := 882) (by decide +kernel) rfl), ivX10_agrees, clX10_agrees⟩
theorem clX9_keep : mCl mtX9_keep 1 := ⟨(inG (i := 590) (by decide +kernel) rfl), (inG (i := 38) (by decide +kernel) rfl), ⟨by decide +kernel, by decide +kernel, by decide +kernel⟩, by decide⟩
theorem ivX9_keep : Cond.instanceMethod mtX9_keep.1 ∈ gd_tbl ∧ Cond.selects mtX9_keep.1.cls mtX9_keep.1 mtX9_keep.1 ∈ gd_tbl := ⟨(inG (i := 588) (by decide +kernel) rfl), (inG (i := 589) (by decide +kernel) rfl)⟩
theorem vlL_86 : mVl "LongestPastLaw" 86 mtX9_keep 1 := ⟨(inG (i := 587) (by decide +kernel) rfl), ivX9_keep, clX9_keep⟩
theorem clX10_keep : mCl mtX10_keep 1 := ⟨(inG (i := 889) (by decide +kernel) rfl), (inG (i := 49) (by decide +kernel) rfl), ⟨by decide +kernel, by decide +kernel, by decide +kernel⟩, by decide⟩
theorem ivX10_keep : Cond.instanceMethod mtX10_keep.1 ∈ gd_tbl ∧ Cond.selects mtX10_keep.1.cls mtX10_keep.1 mtX10_keep.1 ∈ gd_tbl := ⟨(inG (i := 887) (by decide +kernel) rfl), (inG (i := 888) (by decide +kernel) rfl)⟩
theorem vlL_89 : mVl "LongestPastLaw" 89 mtX10_keep 1 := ⟨(inG (i := 886) (by decide +kernel) rfl), ivX10_keep, clX10_keep⟩
theorem clX9_back : mCl mtX9_back 1 := ⟨(inG (i := 594) (by decide +kernel) rfl), (inG (i := 38) (by decide +kernel) rfl), ⟨by decide +kernel, by decide +kernel, by decide +kernel⟩, by decide⟩
theorem ivX9_back : Cond.instanceMethod mtX9_back.1 ∈ gd_tbl ∧ Cond.selects mtX9_back.1.cls mtX9_back.1 mtX9_back.1 ∈ gd_tbl := ⟨(inG (i := 592) (by decide +kernel) rfl), (inG (i := 593) (by decide +kernel) rfl)⟩
theorem vlL_90 : mVl "LongestPastLaw" 90 mtX9_back 1 := ⟨(inG (i := 591) (by decide +kernel) rfl), ivX9_back, clX9_back⟩
theorem clX10_back : mCl mtX10_back 1 := ⟨(inG (i := 893) (by decide +kernel) rfl), (inG (i := 49) (by decide +kernel) rfl), ⟨by decide +kernel, by decide +kernel, by decide +kernel⟩, by decide⟩
theorem ivX10_back : Cond.instanceMethod mtX10_back.1 ∈ gd_tbl ∧ Cond.selects mtX10_back.1.cls mtX10_back.1 mtX10_back.1 ∈ gd_tbl := ⟨(inG (i := 891) (by decide +kernel) rfl), (inG (i := 892) (by decide +kernel) rfl)⟩
theorem vlL_93 : mVl "LongestPastLaw" 93 mtX10_back 1 := ⟨(inG (i := 890) (by decide +kernel) rfl), ivX10_back, clX10_back⟩
theorem clX9_told : mCl mtX9_told 1 := ⟨(inG (i := 602) (by decide +kernel) rfl), (inG (i := 38) (by decide +kernel) rfl), ⟨by decide +kernel, by decide +kernel, by decide +kernel⟩, by decide⟩
theorem ivX9_told : Cond.instanceMethod mtX9_told.1 ∈ gd_tbl ∧ Cond.selects mtX9_told.1.cls mtX9_told.1 mtX9_told.1 ∈ gd_tbl := ⟨(inG (i := 600) (by decide +kernel) rfl), (inG (i := 601) (by decide +kernel) rfl)⟩
theorem vlL_94 : mVl "LongestPastLaw" 94 mtX9_told 1 := ⟨(inG (i := 599) (by decide +kernel) rfl), ivX9_told, clX9_told⟩
theorem clX10_told : mCl mtX10_told 1 := ⟨(inG (i := 897) (by decide +kernel) rfl), (inG (i := 49) (by decide +kernel) rfl), ⟨by decide +kernel, by decide +kernel, by decide +kernel⟩, by decide⟩
theorem ivX10_told : Cond.instanceMethod mtX10_told.1 ∈ gd_tbl ∧ Cond.selects mtX10_told.1.cls mtX10_told.1 mtX10_told.1 ∈ gd_tbl := ⟨(inG (i := 895) (by decide +kernel) rfl), (inG (i := 896) (by decide +kernel) rfl)⟩
theorem vlL_97 : mVl "LongestPastLaw" 97 mtX10_told 1 := ⟨(inG (i := 894) (by decide +kernel) rfl), ivX10_told, clX10_told⟩
/-! ===== the two states do not touch each other ===== -/
theorem LpS.congr {h h' : mH} {a : Ab} (H : LpS h a) (e : FrM h h') : LpS h' a := by
  obtain ⟨H1, H2, H3, ⟨nx, H4⟩, H5, H6⟩ := H
  exact ⟨H1.congr (e _ (by decide)) (e _ (by decide)), PkS.congr H2 (fun i _ h => e i (by omega)), H3.congr (fun i _ h => e i (by omega)), ⟨nx, H4.congr (fun i _ h => e i (by omega))⟩, H5.congr (by rw [e _ (by decide)]) (fun i _ h => e i (by omega)), H6.congr (by rw [e _ (by decide)]) (fun i _ h => e i (by omega))⟩
theorem MdS.congr {h h' : mH} {a : Ab} (H : MdS h a) (e : FrL h h') : MdS h' a := by
  obtain ⟨H1, H2, H3, ⟨H4, H5⟩, H6⟩ := H
  exact ⟨H1.congr (by rw [e _ (by decide)]) (e _ (by decide)), by rw [e _ (by decide)]; exact H2, H3.congr (by rw [e _ (by decide)]) (e _ (by decide)), ⟨H4.congr (e _ (by decide)) (e _ (by decide)), H5.congr (e _ (by decide)) (e _ (by decide))⟩, by rw [e _ (by decide)]; exact H6⟩
/-! ===== the law's machine ===== -/
def Lc (x : mX) (p : Program) (s : State) (m : MethodId) (c : Code) (b L : Nat) (xs : Nat → Int32) : Prop :=
  Okx x ∧ p.tables.exec = Jvm.exec ∧ c.code = cL_law ∧ c.maxLocals = 4 ∧ s.vm.findClass "LongestPastLaw" = some m.cls ∧ (∀ w ∈ gd_tbl, w.before #[Value.ref b] s = true) ∧ nw_all s ∧ va_K x.2.2.1 vwCl (tysm x) s ∧ va_X b L xs s s.heap ∧ b < s.heap.size ∧ L ≤ 3072 ∧ ∀ i, i < 62 → s.heap.size ≤ x.2.1 i
abbrev lll (x : mX) (b : Nat) (i : Int) : List (Nat × Value) := [(3, .int (Int32.ofInt i)), (2, .ref (x.2.1 52)), (1, .ref (x.2.1 0)), (0, .ref b)]
def La (x : mX) (p : Program) (e : Env) (s : State) (m : MethodId) (below : List Frame) (meth : Method) (c : Code) (b : Nat) (Qe : State → Prop) (pc : Nat) (i : Int) (st : List mV) (h : mH) : Prop :=
  ∀ (H : Heap) (locs : List Loc) (la : Array Slot), va_P x.2.2.1 vwCl (wl x h) H → va_S (fun q => s.heap.size ≤ q) s.heap H locs → okh h → (∀ v ∈ st, okv v) → lv_has la 4 (lll x b i) →
    W p x.1 e room_1 s m #[Value.ref b] below meth c H locs 62 9887 Qe (F0 m pc la (st.map (cv x)))
/-- the script's int at i + k -/
def sc (xs : Nat → Int32) (i k : Int) : Int := (xs (i + k).toNat).toInt
theorem sc_r (xs : Nat → Int32) (i k : Int) : inR (sc xs i k) := ⟨by have := Int32.le_toInt (xs (i + k).toNat); unfold sc; omega, by have := Int32.toInt_lt (xs (i + k).toNat); unfold sc; omega⟩
section LAW
variable {x : mX} {p : Program} {e : Env} {s : State} {m : MethodId} {below : List Frame} {meth : Method} {c : Code} {b L : Nat} {xs : Nat → Int32} {Qe : State → Prop} {pc : Nat} {i : Int} {st : List mV} {h : mH}
theorem la_x (C : Lc x p s m c b L xs) (d : decode cL_law pc = .ok (.aload_n 1, 1)) (kk : La x p e s m below meth c b Qe (pc + 1) i (xR 0 :: st) h) : La x p e s m below meth c b Qe pc i st h :=
  fun H locs la hP hS hh hs hL => lv_aload_n C.2.1 C.2.2.1 d rfl (lv_at hL 2 rfl) (kk H locs la hP hS hh (ok_cons trivial hs) hL)
theorem la_m (C : Lc x p s m c b L xs) (d : decode cL_law pc = .ok (.aload_n 2, 1)) (kk : La x p e s m below meth c b Qe (pc + 1) i (xR 52 :: st) h) : La x p e s m below meth c b Qe pc i st h :=
  fun H locs la hP hS hh hs hL => lv_aload_n C.2.1 C.2.2.1 d rfl (lv_at hL 1 rfl) (kk H locs la hP hS hh (ok_cons trivial hs) hL)
theorem la_arg {k : Int} (C : Lc x p s m c b L xs) (h0 : 0 ≤ i) (h1 : i + 6 ≤ L) (d0 : decode cL_law pc = .ok (.aload_n 0, 1)) (d1 : decode cL_law (pc + 1) = .ok (.iload_n 3, 1)) (d2 : decode cL_law (pc + 2) = .ok (.iconst k, 1)) (d3 : decode cL_law (pc + 3) = .ok (.iadd, 1)) (d4 : decode cL_law (pc + 4) = .ok (.iaload, 1)) (hk0 : 0 ≤ k) (hk : k ≤ 5) (kk : La x p e s m below meth c b Qe (pc + 5) i (xI (sc xs i k) :: st) h) : La x p e s m below meth c b Qe pc i st h := by
  intro H locs la hP hS hh hs hL
  have hLb : L ≤ 3072 := C.2.2.2.2.2.2.2.2.2.2.1
  have hbl : b < s.heap.size := C.2.2.2.2.2.2.2.2.2.1
  refine lv_aload_n C.2.1 C.2.2.1 d0 rfl (lv_at hL 3 rfl) ?_
  refine lv_iload_n C.2.1 C.2.2.1 d1 rfl (lv_at hL 0 rfl) ?_
  refine lv_iconst C.2.1 C.2.2.1 d2 rfl ?_
  refine lv_iadd C.2.1 C.2.2.1 d3 ?_
  rw [← Int32.ofInt_add]
  have hr : inR (i + k) := ⟨by omega, by omega⟩
  refine va_sld (A := fun q => s.heap.size ≤ q) C.2.1 C.2.2.1 C.2.2.2.2.2.2.2.2.1 hbl (by omega) hS (n_in hr (by omega) (by omega)) d4 ?_
  rw [n_clamp hr (by omega)]
  have e1 : Value.int (xs (i + k).toNat) = cv x (xI (sc xs i k)) := by
    show Value.int _ = Value.int (Int32.ofInt (xs (i + k).toNat).toInt)
    rw [Int32.ofInt_toInt]
  rw [e1]
  exact kk H locs la hP hS hh (ok_cons (sc_r xs i k) hs) hL
theorem la_call {N : mM} {o cc n idx : Nat} {as st0 : List mV} {q : vw_C} (C : Lc x p s m c b L xs) (hk : kd o = cc) (hl : mVl "LongestPastLaw" idx N n) (hd : decode cL_law pc = .ok (.invokevirtual idx, 3)) (hc : cc < 10) (hcl : vwCl[cc]? = some q) (hq : q.1 = N.1.cls) (hn : as.length = n) (hR : N.2.2.2.2 ≤ 10) (hst : catm st ≤ 8) (hst0 : st0 = as.reverse ++ xR o :: st) (ct : CtI x N (xR o :: as) h (fun z h' => La x p e s m below meth c b Qe (pc + 3) i (xI z :: st) h')) : La x p e s m below meth c b Qe pc i st0 h := by
  intro H locs la hP hS hh hs hL
  subst hst0
  have ha : ∀ v ∈ as, okv v := fun v hv => hs v (List.mem_append.mpr (Or.inl (List.mem_reverse.mpr hv)))
  have hs2 : ∀ v ∈ st, okv v := fun v hv => hs v (List.mem_append.mpr (Or.inr (List.mem_cons_of_mem _ hv)))
  have hM := ct C.1 (ok_cons trivial ha) hh
  obtain ⟨l1, ⟨l2, l3⟩, l4, l5, l6, l7⟩ := hl
  have hi := kd_lt hk (by omega)
  have he : (wl x h)[o]? = some (x.2.1 o, .inr (cc, (fks cc).mapIdx (fun k t => fv x h cc o k t))) := by rw [wl_at hi, cell_obj hk hc]
  have hts := C.2.2.2.2.2.1
  have hK := C.2.2.2.2.2.2.2.1
  have hN := C.2.2.2.2.2.2.1
  have hrec := va_recv (D := x.2.2.1) hK hP hcl he
  rw [hq] at hrec
  have hrm : (rmk N.2.2.2.2).frames + 1 ≤ room_1.frames ∧ 8 + (N.2.2.1 + 11) + (rmk N.2.2.2.2).locals ≤ room_1.locals := by
    show N.2.2.2.2 + 1 ≤ 11 ∧ 8 + (N.2.2.1 + 11) + 38 * N.2.2.2.2 ≤ 424
    omega
  have hr : va_Run p x.1 e room_1 s m #[Value.ref b] below meth c H locs 62 9887 0 0 (F0 m pc la ((as.reverse ++ xR o :: st).map (cv x))) (st.map (cv x)) (mQ x (qI (fun z h' => La x p e s m below meth c b Qe (pc + 3) i (xI z :: st) h')) (Value.ref (x.2.1 o) :: as.map (cv x)).toArray) (mA x) :=
    va_runV (As := as.map (cv x)) (rest := st.map (cv x)) (b := x.2.1 o) (own := "LongestPastLaw") (C := N.1.cls) (n := n) ⟨C.2.1, C.2.2.1, C.2.2.2.1, C.2.2.2.2.1, hts⟩ hM
      ⟨callB_of n hts (gd_cons l4) rfl rfl rfl (hts _ l5) (hts _ l1) l6 hrm, hts _ l2, hts _ l3⟩
      ⟨wd_blind, hrec, fun U hU hW => ⟨rfl, by rw [hU]; exact hP, va_K.moved hW.alike hK, hN.warm hW⟩⟩ rfl (by rw [List.length_map]; exact hn) hL.1 (by rw [List.map_append, List.map_reverse]; rfl) (lv_room (by rw [catm_eq]; exact hst)) hd ⟨by show 62 + 0 ≤ 600000; omega, by show 9887 + 0 ≤ 7302250; omega⟩
  have mAs : ∀ q, mA x q → s.heap.size ≤ q := fun q hq => by
    obtain ⟨j, hj, rfl⟩ := hq
    exact C.2.2.2.2.2.2.2.2.2.2.2 j hj
  intro T hT X
  obtain ⟨v, st₀, t, T', L', g0, X', hL', e1, e2, ⟨⟨r, h', hv, hq', hok, hh', hP'⟩, hz, hk'⟩, stp⟩ := hr T hT X
  have hv : v = rv x r := by injection hv
  subst hv
  obtain ⟨z, rfl, hg⟩ := hq'
  rw [g0] at hz hk'
  obtain ⟨t2, a1, b1⟩ := hg T'.heap (locs ++ L') la (by rw [e1]; exact hP') ⟨Nat.le_trans hS.1 (by rw [e1]; exact hz), fun q h1 h2 => by rw [e1, hk' q (Nat.lt_of_lt_of_le h1 hS.1) (fun w => h2 (mAs q w))]; exact hS.2.1 q h1 h2, fun q hq => by
      rcases List.mem_append.mp hq with h | h
      · exact hS.2.2 q h
      · exact mAs _ (hL' q h)⟩ hh' (ok_cons hok hs2) hL T' rfl X'
  exact ⟨t2, stp t2 a1, b1⟩
theorem la_eq {z : Int} {off : Int} (C : Lc x p s m c b L xs) (d : decode cL_law pc = .ok (.if_icmp .eq off, 3)) (ht : (pc : Int) + off = ((608 : Nat) : Int)) (kk : La x p e s m below meth c b Qe 608 i [] h) : La x p e s m below meth c b Qe pc i [xI z, xI z] h :=
  fun H locs la hP hS hh hs hL => lv_icmp_eq C.2.1 C.2.2.1 d ht (fun _ => kk H locs la hP hS hh (ok_tl (ok_tl hs)) hL) (fun q => absurd rfl q)
theorem la_608 (C : Lc x p s m c b L xs) (kk : La x p e s m below meth c b Qe 18 (i + 6) [] h) : La x p e s m below meth c b Qe 608 i [] h := by
  intro H locs la hP hS hh hs hL
  refine lv_iinc (k := 0) C.2.1 C.2.2.1 dL_law_608 hL rfl (v := Int32.ofInt (i + 6)) (Int32.ofInt_add ..).symm (by decide) (lv' := lll x b (i + 6)) rfl (fun la' hL' => ?_)
  exact lv_goto C.2.1 C.2.2.1 dL_law_611 (tgt := 18) rfl (kk H locs la' hP hS hh hs hL')
theorem la_top (C : Lc x p s m c b L xs) (h0 : 0 ≤ i) (hb : i ≤ 4000) (kin : i + 6 ≤ L → La x p e s m below meth c b Qe 27 i [] h) (kout : La x p e s m below meth c b Qe 614 i [] h) : La x p e s m below meth c b Qe 18 i [] h := by
  intro H locs la hP hS hh hs hL
  have hLb : L ≤ 3072 := C.2.2.2.2.2.2.2.2.2.2.1
  have hbl : b < s.heap.size := C.2.2.2.2.2.2.2.2.2.1
  refine lv_iload_n C.2.1 C.2.2.1 dL_law_18 rfl (lv_at hL 0 rfl) ?_
  refine lv_aload_n C.2.1 C.2.2.1 dL_law_19 rfl (lv_at hL 3 rfl) ?_
  refine va_slen (A := fun q => s.heap.size ≤ q) C.2.1 C.2.2.1 C.2.2.2.2.2.2.2.2.1 hbl (by omega) hS dL_law_20 ?_
  refine lv_bipush (v := Int32.ofInt 6) C.2.1 C.2.2.1 dL_law_21 (by decide +kernel) ?_
  refine lv_isub C.2.1 C.2.2.1 dL_law_23 ?_
  rw [show Int32.ofNat L = Int32.ofInt (L : Int) from (Int32.ofInt_eq_ofNat).symm, ← Int32.ofInt_sub]
  have r1 : inR ((L : Int) - 6) := ⟨by omega, by omega⟩
  have r2 : inR i := ⟨by omega, by omega⟩
  refine lv_icmp_gt C.2.1 C.2.2.1 dL_law_24 (tgt := 614) rfl (fun _ => kout H locs la hP hS hh hs hL) (fun q => ?_)
  have hq : ¬ ((L : Int) - 6 < i) := fun w => q ((n_lt r1 r2).mpr w)
  exact kin (by omega) H locs la hP hS hh hs hL
def tgL : List Nat := [128, 151, 164, 217, 240, 253, 276, 289, 312, 375, 398, 431, 464, 477, 490, 503, 526, 539, 562, 585]
def tg (j : Nat) : Nat := tgL.getD j 0
theorem tg_off : ∀ j, j < 20 → (#[95, 118, 131, 184, 207, 220, 243, 256, 279, 342, 365, 398, 431, 444, 457, 470, 493, 506, 529, 552] : Array Int)[j]? = some ((tg j : Int) - 33) := by decide +kernel
theorem la_sw (C : Lc x p s m c b L xs) (h0 : 0 ≤ i) (h1 : i + 6 ≤ L) (k : ∀ j, j < 20 → La x p e s m below meth c b Qe (tg j) i [] h) (ko : La x p e s m below meth c b Qe 608 i [] h) : La x p e s m below meth c b Qe 27 i [] h := by
  intro H locs la hP hS hh hs hL
  have hLb : L ≤ 3072 := C.2.2.2.2.2.2.2.2.2.2.1
  have hbl : b < s.heap.size := C.2.2.2.2.2.2.2.2.2.1
  refine lv_aload_n C.2.1 C.2.2.1 dL_law_27 rfl (lv_at hL 3 rfl) ?_
  refine lv_iload_n C.2.1 C.2.2.1 dL_law_28 rfl (lv_at hL 0 rfl) ?_
  have hr : inR i := ⟨by omega, by omega⟩
  refine va_sld (A := fun q => s.heap.size ≤ q) C.2.1 C.2.2.1 C.2.2.2.2.2.2.2.2.1 hbl (by omega) hS (n_in hr (by omega) (by omega)) dL_law_29 ?_
  refine lv_bipush (v := Int32.ofInt 31) C.2.1 C.2.2.1 dL_law_30 (by decide +kernel) ?_
  refine lv_iand C.2.1 C.2.2.1 dL_law_32 ?_
  generalize xs (Int32.ofInt i).toNatClampNeg &&& Int32.ofInt 31 = v
  by_cases hv : v.toInt < 0 ∨ 19 < v.toInt
  · exact lv_tableOut C.2.1 C.2.2.1 dL_law_33 hv (tgt := 608) rfl (ko H locs la hP hS hh hs hL)
  · have hj : v.toInt.toNat < 20 := by omega
    refine lv_tableIn (tgt := tg v.toInt.toNat) C.2.1 C.2.2.1 dL_law_33 (by omega) (by omega) (off := (tg v.toInt.toNat : Int) - 33) ?_ (by omega) (k _ hj H locs la hP hS hh hs hL)
    rw [Int.sub_zero]
    exact tg_off _ hj
theorem la_end {Hq : (State → Prop)} (C : Lc x p s m c b L xs) (hr : meth.sig.returnType = ret) (hlocks : meth.locks = false) (hq : lw_Z below #[Value.ref b] s = Hq) : La x p e s m below meth c b Hq 614 i [] h := by
  intro H locs la hP hS hh hs hL
  subst hq
  refine lv_iconst (v := 1) C.2.1 C.2.2.1 dL_law_614 rfl ?_
  refine va_forget (fun q hq => hS.2.2 q hq) ?_
  refine W.widen (show 62 ≤ 600000 by omega) (show 9887 ≤ 7302250 by omega) ?_
  exact lw_ret C.2.1 C.2.2.1 hr hlocks dL_law_615
end LAW
