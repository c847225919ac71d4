/-- a private method of a class that the tables say can be made, by its rows of tables_1 -/
def lw_okq (q : MethodName × Nat) : Prop := (q.1.cls ≠ "java/lang/invoke/MethodHandle" ∧ q.1.cls ≠ "java/lang/invoke/VarHandle") ∧ Cond.instantiable q.1.cls q.2 ∈ tables_1 ∧ Cond.privateMethod q.1 ∈ tables_1 ∧ Cond.instanceMethod q.1 ∈ tables_1
theorem lw_p0 : lw_okq (⟨"LongestPast$Packer", "startsAnew", "()V"⟩, 7) := ⟨⟨by decide +kernel, by decide +kernel⟩, List.mem_of_getElem? (i := 43) (by decide +kernel), List.mem_of_getElem? (i := 315) (by decide +kernel), List.mem_of_getElem? (i := 316) (by decide +kernel)⟩
theorem lw_p1 : lw_okq (⟨"LongestPast$Range", "isWhole", "()V"⟩, 8) := ⟨⟨by decide +kernel, by decide +kernel⟩, List.mem_of_getElem? (i := 98) (by decide +kernel), List.mem_of_getElem? (i := 328) (by decide +kernel), List.mem_of_getElem? (i := 329) (by decide +kernel)⟩
theorem lw_p2 : lw_okq (⟨"LongestPast$Packer", "descends", "(LLongestPast$Taker;)I"⟩, 7) := ⟨⟨by decide +kernel, by decide +kernel⟩, List.mem_of_getElem? (i := 43) (by decide +kernel), List.mem_of_getElem? (i := 341) (by decide +kernel), List.mem_of_getElem? (i := 342) (by decide +kernel)⟩
theorem lw_p3 : lw_okq (⟨"LongestPast$Packer", "longest", "()I"⟩, 7) := ⟨⟨by decide +kernel, by decide +kernel⟩, List.mem_of_getElem? (i := 43) (by decide +kernel), List.mem_of_getElem? (i := 349) (by decide +kernel), List.mem_of_getElem? (i := 350) (by decide +kernel)⟩
theorem lw_p4 : lw_okq (⟨"LongestPast$Range", "writesBit", "(I)V"⟩, 8) := ⟨⟨by decide +kernel, by decide +kernel⟩, List.mem_of_getElem? (i := 98) (by decide +kernel), List.mem_of_getElem? (i := 413) (by decide +kernel), List.mem_of_getElem? (i := 414) (by decide +kernel)⟩
theorem lw_p5 : lw_okq (⟨"LongestPast$Range", "doubles", "(I)V"⟩, 8) := ⟨⟨by decide +kernel, by decide +kernel⟩, List.mem_of_getElem? (i := 98) (by decide +kernel), List.mem_of_getElem? (i := 418) (by decide +kernel), List.mem_of_getElem? (i := 419) (by decide +kernel)⟩
theorem lw_p6 : lw_okq (⟨"LongestPast$Packer", "learns", "(II)V"⟩, 7) := ⟨⟨by decide +kernel, by decide +kernel⟩, List.mem_of_getElem? (i := 43) (by decide +kernel), List.mem_of_getElem? (i := 428) (by decide +kernel), List.mem_of_getElem? (i := 429) (by decide +kernel)⟩
theorem lw_p7 : lw_okq (⟨"LongestPast$Packer", "forgets", "()V"⟩, 7) := ⟨⟨by decide +kernel, by decide +kernel⟩, List.mem_of_getElem? (i := 43) (by decide +kernel), List.mem_of_getElem? (i := 437) (by decide +kernel), List.mem_of_getElem? (i := 438) (by decide +kernel)⟩
theorem lw_p8 : lw_okq (⟨"LongestPast", "firstLetterOutside", "(II)I"⟩, 9) := ⟨⟨by decide +kernel, by decide +kernel⟩, List.mem_of_getElem? (i := 15) (by decide +kernel), List.mem_of_getElem? (i := 453) (by decide +kernel), List.mem_of_getElem? (i := 454) (by decide +kernel)⟩
theorem lw_p9 : lw_okq (⟨"LongestPastModel", "lays", "(IIII)V"⟩, 26) := ⟨⟨by decide +kernel, by decide +kernel⟩, List.mem_of_getElem? (i := 567) (by decide +kernel), List.mem_of_getElem? (i := 573) (by decide +kernel), List.mem_of_getElem? (i := 574) (by decide +kernel)⟩
theorem lw_p10 : lw_okq (⟨"LongestPastModel", "keeps", "()V"⟩, 26) := ⟨⟨by decide +kernel, by decide +kernel⟩, List.mem_of_getElem? (i := 567) (by decide +kernel), List.mem_of_getElem? (i := 672) (by decide +kernel), List.mem_of_getElem? (i := 673) (by decide +kernel)⟩
theorem lw_p11 : lw_okq (⟨"LongestPastModel", "appends", "(I)V"⟩, 26) := ⟨⟨by decide +kernel, by decide +kernel⟩, List.mem_of_getElem? (i := 567) (by decide +kernel), List.mem_of_getElem? (i := 680) (by decide +kernel), List.mem_of_getElem? (i := 681) (by decide +kernel)⟩
theorem lw_p12 : lw_okq (⟨"LongestPastModel", "packsNow", "()V"⟩, 26) := ⟨⟨by decide +kernel, by decide +kernel⟩, List.mem_of_getElem? (i := 567) (by decide +kernel), List.mem_of_getElem? (i := 684) (by decide +kernel), List.mem_of_getElem? (i := 685) (by decide +kernel)⟩
theorem lw_p13 : lw_okq (⟨"LongestPastModel", "packsAll", "(I)V"⟩, 26) := ⟨⟨by decide +kernel, by decide +kernel⟩, List.mem_of_getElem? (i := 567) (by decide +kernel), List.mem_of_getElem? (i := 688) (by decide +kernel), List.mem_of_getElem? (i := 689) (by decide +kernel)⟩
theorem lw_p14 : lw_okq (⟨"LongestPastModel", "starts", "(II)V"⟩, 26) := ⟨⟨by decide +kernel, by decide +kernel⟩, List.mem_of_getElem? (i := 567) (by decide +kernel), List.mem_of_getElem? (i := 692) (by decide +kernel), List.mem_of_getElem? (i := 693) (by decide +kernel)⟩
theorem lw_p15 : lw_okq (⟨"LongestPastModel", "clears", "()V"⟩, 26) := ⟨⟨by decide +kernel, by decide +kernel⟩, List.mem_of_getElem? (i := 567) (by decide +kernel), List.mem_of_getElem? (i := 697) (by decide +kernel), List.mem_of_getElem? (i := 698) (by decide +kernel)⟩
def lw_privs_1 : List (MethodName × Nat) := [(⟨"LongestPast$Packer", "startsAnew", "()V"⟩, 7), (⟨"LongestPast$Range", "isWhole", "()V"⟩, 8), (⟨"LongestPast$Packer", "descends", "(LLongestPast$Taker;)I"⟩, 7), (⟨"LongestPast$Packer", "longest", "()I"⟩, 7), (⟨"LongestPast$Range", "writesBit", "(I)V"⟩, 8), (⟨"LongestPast$Range", "doubles", "(I)V"⟩, 8), (⟨"LongestPast$Packer", "learns", "(II)V"⟩, 7), (⟨"LongestPast$Packer", "forgets", "()V"⟩, 7), (⟨"LongestPast", "firstLetterOutside", "(II)I"⟩, 9), (⟨"LongestPastModel", "lays", "(IIII)V"⟩, 26), (⟨"LongestPastModel", "keeps", "()V"⟩, 26), (⟨"LongestPastModel", "appends", "(I)V"⟩, 26), (⟨"LongestPastModel", "packsNow", "()V"⟩, 26), (⟨"LongestPastModel", "packsAll", "(I)V"⟩, 26), (⟨"LongestPastModel", "starts", "(II)V"⟩, 26), (⟨"LongestPastModel", "clears", "()V"⟩, 26)]
theorem lw_r1 : ∀ q ∈ lw_privs_1, lw_okq q := List.forall_mem_cons.mpr ⟨lw_p0, List.forall_mem_cons.mpr ⟨lw_p1, List.forall_mem_cons.mpr ⟨lw_p2, List.forall_mem_cons.mpr ⟨lw_p3, List.forall_mem_cons.mpr ⟨lw_p4, List.forall_mem_cons.mpr ⟨lw_p5, List.forall_mem_cons.mpr ⟨lw_p6, List.forall_mem_cons.mpr ⟨lw_p7, List.forall_mem_cons.mpr ⟨lw_p8, List.forall_mem_cons.mpr ⟨lw_p9, List.forall_mem_cons.mpr ⟨lw_p10, List.forall_mem_cons.mpr ⟨lw_p11, List.forall_mem_cons.mpr ⟨lw_p12, List.forall_mem_cons.mpr ⟨lw_p13, List.forall_mem_cons.mpr ⟨lw_p14, List.forall_mem_cons.mpr ⟨lw_p15, fun _ h => absurd h List.not_mem_nil⟩⟩⟩⟩⟩⟩⟩⟩⟩⟩⟩⟩⟩⟩⟩⟩
theorem lw_p16 : lw_okq (⟨"LongestPastModel", "nextBit", "()I"⟩, 26) := ⟨⟨by decide +kernel, by decide +kernel⟩, List.mem_of_getElem? (i := 567) (by decide +kernel), List.mem_of_getElem? (i := 701) (by decide +kernel), List.mem_of_getElem? (i := 702) (by decide +kernel)⟩
theorem lw_p17 : lw_okq (⟨"LongestPastModel", "goes", "(I)I"⟩, 26) := ⟨⟨by decide +kernel, by decide +kernel⟩, List.mem_of_getElem? (i := 567) (by decide +kernel), List.mem_of_getElem? (i := 705) (by decide +kernel), List.mem_of_getElem? (i := 706) (by decide +kernel)⟩
theorem lw_p18 : lw_okq (⟨"LongestPastModel", "context", "(II)I"⟩, 26) := ⟨⟨by decide +kernel, by decide +kernel⟩, List.mem_of_getElem? (i := 567) (by decide +kernel), List.mem_of_getElem? (i := 712) (by decide +kernel), List.mem_of_getElem? (i := 713) (by decide +kernel)⟩
theorem lw_p19 : lw_okq (⟨"LongestPastModel", "openAt", "(II)I"⟩, 26) := ⟨⟨by decide +kernel, by decide +kernel⟩, List.mem_of_getElem? (i := 567) (by decide +kernel), List.mem_of_getElem? (i := 716) (by decide +kernel), List.mem_of_getElem? (i := 717) (by decide +kernel)⟩
theorem lw_p20 : lw_okq (⟨"LongestPastModel", "sum", "(III)I"⟩, 26) := ⟨⟨by decide +kernel, by decide +kernel⟩, List.mem_of_getElem? (i := 567) (by decide +kernel), List.mem_of_getElem? (i := 726) (by decide +kernel), List.mem_of_getElem? (i := 727) (by decide +kernel)⟩
theorem lw_p21 : lw_okq (⟨"LongestPastModel", "lies", "(I)I"⟩, 26) := ⟨⟨by decide +kernel, by decide +kernel⟩, List.mem_of_getElem? (i := 567) (by decide +kernel), List.mem_of_getElem? (i := 730) (by decide +kernel), List.mem_of_getElem? (i := 731) (by decide +kernel)⟩
theorem lw_p22 : lw_okq (⟨"LongestPastModel", "signAt", "(III)I"⟩, 26) := ⟨⟨by decide +kernel, by decide +kernel⟩, List.mem_of_getElem? (i := 567) (by decide +kernel), List.mem_of_getElem? (i := 734) (by decide +kernel), List.mem_of_getElem? (i := 735) (by decide +kernel)⟩
theorem lw_p23 : lw_okq (⟨"LongestPastModel", "part", "(III)V"⟩, 26) := ⟨⟨by decide +kernel, by decide +kernel⟩, List.mem_of_getElem? (i := 567) (by decide +kernel), List.mem_of_getElem? (i := 738) (by decide +kernel), List.mem_of_getElem? (i := 739) (by decide +kernel)⟩
theorem lw_p24 : lw_okq (⟨"LongestPastModel", "widens", "()Z"⟩, 26) := ⟨⟨by decide +kernel, by decide +kernel⟩, List.mem_of_getElem? (i := 567) (by decide +kernel), List.mem_of_getElem? (i := 742) (by decide +kernel), List.mem_of_getElem? (i := 743) (by decide +kernel)⟩
theorem lw_p25 : lw_okq (⟨"LongestPastModel", "puts", "(I)V"⟩, 26) := ⟨⟨by decide +kernel, by decide +kernel⟩, List.mem_of_getElem? (i := 567) (by decide +kernel), List.mem_of_getElem? (i := 748) (by decide +kernel), List.mem_of_getElem? (i := 749) (by decide +kernel)⟩
theorem lw_p26 : lw_okq (⟨"LongestPastModel", "plain", "(II)I"⟩, 26) := ⟨⟨by decide +kernel, by decide +kernel⟩, List.mem_of_getElem? (i := 567) (by decide +kernel), List.mem_of_getElem? (i := 752) (by decide +kernel), List.mem_of_getElem? (i := 753) (by decide +kernel)⟩
theorem lw_p27 : lw_okq (⟨"LongestPastModel", "learns", "(I)V"⟩, 26) := ⟨⟨by decide +kernel, by decide +kernel⟩, List.mem_of_getElem? (i := 567) (by decide +kernel), List.mem_of_getElem? (i := 756) (by decide +kernel), List.mem_of_getElem? (i := 757) (by decide +kernel)⟩
theorem lw_p28 : lw_okq (⟨"LongestPastModel", "adds", "(II)V"⟩, 26) := ⟨⟨by decide +kernel, by decide +kernel⟩, List.mem_of_getElem? (i := 567) (by decide +kernel), List.mem_of_getElem? (i := 760) (by decide +kernel), List.mem_of_getElem? (i := 761) (by decide +kernel)⟩
theorem lw_p29 : lw_okq (⟨"LongestPastModel", "there", "()I"⟩, 26) := ⟨⟨by decide +kernel, by decide +kernel⟩, List.mem_of_getElem? (i := 567) (by decide +kernel), List.mem_of_getElem? (i := 764) (by decide +kernel), List.mem_of_getElem? (i := 765) (by decide +kernel)⟩
theorem lw_p30 : lw_okq (⟨"LongestPastModel", "forgets", "()V"⟩, 26) := ⟨⟨by decide +kernel, by decide +kernel⟩, List.mem_of_getElem? (i := 567) (by decide +kernel), List.mem_of_getElem? (i := 768) (by decide +kernel), List.mem_of_getElem? (i := 769) (by decide +kernel)⟩
theorem lw_p31 : lw_okq (⟨"LongestPastModel", "wrongLetter", "(II)I"⟩, 26) := ⟨⟨by decide +kernel, by decide +kernel⟩, List.mem_of_getElem? (i := 567) (by decide +kernel), List.mem_of_getElem? (i := 776) (by decide +kernel), List.mem_of_getElem? (i := 777) (by decide +kernel)⟩
def lw_privs_2 : List (MethodName × Nat) := [(⟨"LongestPastModel", "nextBit", "()I"⟩, 26), (⟨"LongestPastModel", "goes", "(I)I"⟩, 26), (⟨"LongestPastModel", "context", "(II)I"⟩, 26), (⟨"LongestPastModel", "openAt", "(II)I"⟩, 26), (⟨"LongestPastModel", "sum", "(III)I"⟩, 26), (⟨"LongestPastModel", "lies", "(I)I"⟩, 26), (⟨"LongestPastModel", "signAt", "(III)I"⟩, 26), (⟨"LongestPastModel", "part", "(III)V"⟩, 26), (⟨"LongestPastModel", "widens", "()Z"⟩, 26), (⟨"LongestPastModel", "puts", "(I)V"⟩, 26), (⟨"LongestPastModel", "plain", "(II)I"⟩, 26), (⟨"LongestPastModel", "learns", "(I)V"⟩, 26), (⟨"LongestPastModel", "adds", "(II)V"⟩, 26), (⟨"LongestPastModel", "there", "()I"⟩, 26), (⟨"LongestPastModel", "forgets", "()V"⟩, 26), (⟨"LongestPastModel", "wrongLetter", "(II)I"⟩, 26)]
theorem lw_r2 : ∀ q ∈ lw_privs_2, lw_okq q := List.forall_mem_cons.mpr ⟨lw_p16, List.forall_mem_cons.mpr ⟨lw_p17, List.forall_mem_cons.mpr ⟨lw_p18, List.forall_mem_cons.mpr ⟨lw_p19, List.forall_mem_cons.mpr ⟨lw_p20, List.forall_mem_cons.mpr ⟨lw_p21, List.forall_mem_cons.mpr ⟨lw_p22, List.forall_mem_cons.mpr ⟨lw_p23, List.forall_mem_cons.mpr ⟨lw_p24, List.forall_mem_cons.mpr ⟨lw_p25, List.forall_mem_cons.mpr ⟨lw_p26, List.forall_mem_cons.mpr ⟨lw_p27, List.forall_mem_cons.mpr ⟨lw_p28, List.forall_mem_cons.mpr ⟨lw_p29, List.forall_mem_cons.mpr ⟨lw_p30, List.forall_mem_cons.mpr ⟨lw_p31, fun _ h => absurd h List.not_mem_nil⟩⟩⟩⟩⟩⟩⟩⟩⟩⟩⟩⟩⟩⟩⟩⟩
theorem lw_p32 : lw_okq (⟨"LongestPastModel", "countOf", "(II)I"⟩, 26) := ⟨⟨by decide +kernel, by decide +kernel⟩, List.mem_of_getElem? (i := 567) (by decide +kernel), List.mem_of_getElem? (i := 799) (by decide +kernel), List.mem_of_getElem? (i := 800) (by decide +kernel)⟩
theorem lw_p33 : lw_okq (⟨"LongestPastModel", "weighs", "(I)V"⟩, 26) := ⟨⟨by decide +kernel, by decide +kernel⟩, List.mem_of_getElem? (i := 567) (by decide +kernel), List.mem_of_getElem? (i := 811) (by decide +kernel), List.mem_of_getElem? (i := 812) (by decide +kernel)⟩
theorem lw_p34 : lw_okq (⟨"LongestPastModel", "ended", "()I"⟩, 26) := ⟨⟨by decide +kernel, by decide +kernel⟩, List.mem_of_getElem? (i := 567) (by decide +kernel), List.mem_of_getElem? (i := 830) (by decide +kernel), List.mem_of_getElem? (i := 831) (by decide +kernel)⟩
theorem lw_p35 : lw_okq (⟨"LongestPastModel", "unpacks", "(I)V"⟩, 26) := ⟨⟨by decide +kernel, by decide +kernel⟩, List.mem_of_getElem? (i := 567) (by decide +kernel), List.mem_of_getElem? (i := 842) (by decide +kernel), List.mem_of_getElem? (i := 843) (by decide +kernel)⟩
theorem lw_p36 : lw_okq (⟨"LongestPastModel", "tellNow", "(I)I"⟩, 26) := ⟨⟨by decide +kernel, by decide +kernel⟩, List.mem_of_getElem? (i := 567) (by decide +kernel), List.mem_of_getElem? (i := 862) (by decide +kernel), List.mem_of_getElem? (i := 863) (by decide +kernel)⟩
def lw_privs_3 : List (MethodName × Nat) := [(⟨"LongestPastModel", "countOf", "(II)I"⟩, 26), (⟨"LongestPastModel", "weighs", "(I)V"⟩, 26), (⟨"LongestPastModel", "ended", "()I"⟩, 26), (⟨"LongestPastModel", "unpacks", "(I)V"⟩, 26), (⟨"LongestPastModel", "tellNow", "(I)I"⟩, 26)]
theorem lw_r3 : ∀ q ∈ lw_privs_3, lw_okq q := List.forall_mem_cons.mpr ⟨lw_p32, List.forall_mem_cons.mpr ⟨lw_p33, List.forall_mem_cons.mpr ⟨lw_p34, List.forall_mem_cons.mpr ⟨lw_p35, List.forall_mem_cons.mpr ⟨lw_p36, fun _ h => absurd h List.not_mem_nil⟩⟩⟩⟩⟩
def lw_privs : List (MethodName × Nat) := lw_privs_1 ++ (lw_privs_2 ++ (lw_privs_3))
def lw_tbl : List Cond := k2_sels lw_privs ++ tables_1
theorem lw_privs_ok : ∀ q ∈ lw_privs, lw_okq q := by
  show ∀ q ∈ lw_privs_1 ++ (lw_privs_2 ++ (lw_privs_3)), lw_okq q
  exact List.forall_mem_append.mpr ⟨lw_r1, List.forall_mem_append.mpr ⟨lw_r2, lw_r3⟩⟩

def RX0 : String := "LongestPast$Contexts"
def TX0 : u_T := fun k => match k with
  | 0 => ("LongestPast$Contexts", "counts", "[I", true)
  | _ => ("LongestPast$Contexts", "there", "I", false)
def tyX0 : Nat → FieldType := fun k => match k with
  | 0 => .array .int
  | _ => .int
abbrev wsX00 : List Cond := u_ws RX0 TX0 2
theorem nmX0 : ∀ a, a < 2 → ∀ b, b < 2 → a ≠ b → (TX0 a).2.1 ≠ (TX0 b).2.1 := by decide +kernel
theorem tyX0_ok : ∀ k, k < 2 → parseFieldDescriptor (TX0 k).2.2.1 = some (tyX0 k) := by decide +kernel
abbrev cX0_init : ByteArray := prog_2_method_1_code
def yX0_init : MethodName := ⟨RX0, "<init>", "()V"⟩
abbrev cX0_empties : ByteArray := prog_2_method_2_code
def yX0_empties : MethodName := ⟨RX0, "empties", "()V"⟩
abbrev cX0_at : ByteArray := prog_2_method_3_code
def yX0_at : MethodName := ⟨RX0, "at", "(II)I"⟩
abbrev cX0_raises : ByteArray := prog_2_method_4_code
def yX0_raises : MethodName := ⟨RX0, "raises", "(III)V"⟩
def RX1 : String := "LongestPast$History"
def TX1 : u_T := fun k => match k with
  | 0 => ("LongestPast$History", "ring", "[LLongestPast$Past;", true)
  | 1 => ("LongestPast$History", "next", "I", false)
  | _ => ("LongestPast$History", "known", "I", false)
def tyX1 : Nat → FieldType := fun k => match k with
  | 0 => .array (.object "LongestPast$Past")
  | 1 => .int
  | _ => .int
abbrev wsX10 : List Cond := u_ws RX1 TX1 3
theorem nmX1 : ∀ a, a < 3 → ∀ b, b < 3 → a ≠ b → (TX1 a).2.1 ≠ (TX1 b).2.1 := by decide +kernel
theorem tyX1_ok : ∀ k, k < 3 → parseFieldDescriptor (TX1 k).2.2.1 = some (tyX1 k) := by decide +kernel
abbrev cX1_init : ByteArray := prog_3_method_1_code
def yX1_init : MethodName := ⟨RX1, "<init>", "()V"⟩
abbrev cX1_remembers : ByteArray := prog_3_method_2_code
def yX1_remembers : MethodName := ⟨RX1, "remembers", "(LLongestPast$Past;)V"⟩
abbrev cX1_recalls : ByteArray := prog_3_method_3_code
def yX1_recalls : MethodName := ⟨RX1, "recalls", "(LLongestPast$Past;)V"⟩
abbrev cX1_losesAll : ByteArray := prog_3_method_4_code
def yX1_losesAll : MethodName := ⟨RX1, "losesAll", "()V"⟩
def RX2 : String := "LongestPast$Odds"
def TX2 : u_T := fun k => match k with
  | 0 => ("LongestPast$Odds", "wanted", "I", false)
  | 1 => ("LongestPast$Odds", "escaped", "I", false)
  | 2 => ("LongestPast$Odds", "upper", "J", false)
  | _ => ("LongestPast$Odds", "lower", "J", false)
def tyX2 : Nat → FieldType := fun k => match k with
  | 0 => .int
  | 1 => .int
  | 2 => .long
  | _ => .long
abbrev wsX20 : List Cond := u_ws RX2 TX2 4
theorem nmX2 : ∀ a, a < 4 → ∀ b, b < 4 → a ≠ b → (TX2 a).2.1 ≠ (TX2 b).2.1 := by decide +kernel
theorem tyX2_ok : ∀ k, k < 4 → parseFieldDescriptor (TX2 k).2.2.1 = some (tyX2 k) := by decide +kernel
abbrev cX2_init : ByteArray := prog_4_method_1_code
def yX2_init : MethodName := ⟨RX2, "<init>", "()V"⟩
abbrev cX2_wants : ByteArray := prog_4_method_2_code
def yX2_wants : MethodName := ⟨RX2, "wants", "(I)V"⟩
abbrev cX2_chooses : ByteArray := prog_4_method_3_code
def yX2_chooses : MethodName := ⟨RX2, "chooses", "(LLongestPast$Stage;)I"⟩
abbrev cX2_takes : ByteArray := prog_4_method_4_code
def yX2_takes : MethodName := ⟨RX2, "takes", "(III)V"⟩
abbrev cX2_inLeastTerms : ByteArray := prog_4_method_5_code
def yX2_inLeastTerms : MethodName := ⟨RX2, "inLeastTerms", "(J)I"⟩
def RX3 : String := "LongestPast$Packer"
def TX3 : u_T := fun k => match k with
  | 0 => ("LongestPast$Packer", "past", "LLongestPast$Past;", true)
  | 1 => ("LongestPast$Packer", "contexts", "LLongestPast$Contexts;", true)
  | 2 => ("LongestPast$Packer", "range", "LLongestPast$Range;", true)
  | 3 => ("LongestPast$Packer", "stage", "LLongestPast$Stage;", true)
  | 4 => ("LongestPast$Packer", "packed", "I", false)
  | 5 => ("LongestPast$Packer", "forgotten", "I", false)
  | _ => ("LongestPast$Packer", "chosen", "I", false)
def tyX3 : Nat → FieldType := fun k => match k with
  | 0 => .object "LongestPast$Past"
  | 1 => .object "LongestPast$Contexts"
  | 2 => .object "LongestPast$Range"
  | 3 => .object "LongestPast$Stage"
  | 4 => .int
  | 5 => .int
  | _ => .int
abbrev wsX30 : List Cond := u_ws RX3 TX3 7
theorem nmX3 : ∀ a, a < 7 → ∀ b, b < 7 → a ≠ b → (TX3 a).2.1 ≠ (TX3 b).2.1 := by decide +kernel
theorem tyX3_ok : ∀ k, k < 7 → parseFieldDescriptor (TX3 k).2.2.1 = some (tyX3 k) := by decide +kernel
abbrev cX3_init : ByteArray := prog_5_method_1_code
def yX3_init : MethodName := ⟨RX3, "<init>", "()V"⟩
abbrev cX3_startsLike : ByteArray := prog_5_method_2_code
def yX3_startsLike : MethodName := ⟨RX3, "startsLike", "(LLongestPast$Past;)V"⟩
abbrev cX3_repacks : ByteArray := prog_5_method_3_code
def yX3_repacks : MethodName := ⟨RX3, "repacks", "()V"⟩
abbrev cX3_packsNext : ByteArray := prog_5_method_4_code
def yX3_packsNext : MethodName := ⟨RX3, "packsNext", "()I"⟩
abbrev cX3_readsNext : ByteArray := prog_5_method_5_code
def yX3_readsNext : MethodName := ⟨RX3, "readsNext", "()I"⟩
abbrev cX3_weighs : ByteArray := prog_5_method_6_code
def yX3_weighs : MethodName := ⟨RX3, "weighs", "(LLongestPast$Odds;I)I"⟩
abbrev cX3_descends : ByteArray := prog_5_method_7_code
def yX3_descends : MethodName := ⟨RX3, "descends", "(LLongestPast$Taker;)I"⟩
abbrev cX3_startsAnew : ByteArray := prog_5_method_8_code
def yX3_startsAnew : MethodName := ⟨RX3, "startsAnew", "()V"⟩
abbrev cX3_longest : ByteArray := prog_5_method_9_code
def yX3_longest : MethodName := ⟨RX3, "longest", "()I"⟩
abbrev cX3_learns : ByteArray := prog_5_method_10_code
def yX3_learns : MethodName := ⟨RX3, "learns", "(II)V"⟩
abbrev cX3_forgets : ByteArray := prog_5_method_11_code
def yX3_forgets : MethodName := ⟨RX3, "forgets", "()V"⟩
def RX4 : String := "LongestPast$Past"
def TX4 : u_T := fun k => match k with
  | 0 => ("LongestPast$Past", "order", "I", false)
  | 1 => ("LongestPast$Past", "limit", "I", false)
  | 2 => ("LongestPast$Past", "room", "I", false)
  | 3 => ("LongestPast$Past", "tail", "I", false)
  | _ => ("LongestPast$Past", "signs", "LLongestPast$Row;", true)
def tyX4 : Nat → FieldType := fun k => match k with
  | 0 => .int
  | 1 => .int
  | 2 => .int
  | 3 => .int
  | _ => .object "LongestPast$Row"
abbrev wsX40 : List Cond := u_ws RX4 TX4 5
theorem nmX4 : ∀ a, a < 5 → ∀ b, b < 5 → a ≠ b → (TX4 a).2.1 ≠ (TX4 b).2.1 := by decide +kernel
theorem tyX4_ok : ∀ k, k < 5 → parseFieldDescriptor (TX4 k).2.2.1 = some (tyX4 k) := by decide +kernel
abbrev cX4_init : ByteArray := prog_6_method_1_code
def yX4_init : MethodName := ⟨RX4, "<init>", "()V"⟩
abbrev cX4_setsOut : ByteArray := prog_6_method_2_code
def yX4_setsOut : MethodName := ⟨RX4, "setsOut", "(IIII)V"⟩
abbrev cX4_becomes : ByteArray := prog_6_method_3_code
def yX4_becomes : MethodName := ⟨RX4, "becomes", "(LLongestPast$Past;)V"⟩
abbrev cX4_contextAhead : ByteArray := prog_6_method_4_code
def yX4_contextAhead : MethodName := ⟨RX4, "contextAhead", "(II)I"⟩
def RX5 : String := "LongestPast$Range"
def TX5 : u_T := fun k => match k with
  | 0 => ("LongestPast$Range", "bits", "LLongestPast$Row;", true)
  | 1 => ("LongestPast$Range", "low", "I", false)
  | 2 => ("LongestPast$Range", "high", "I", false)
  | 3 => ("LongestPast$Range", "owed", "I", false)
  | 4 => ("LongestPast$Range", "wanted", "I", false)
  | 5 => ("LongestPast$Range", "reading", "Z", false)
  | 6 => ("LongestPast$Range", "value", "I", false)
  | _ => ("LongestPast$Range", "nextRead", "I", false)
def tyX5 : Nat → FieldType := fun k => match k with
  | 0 => .object "LongestPast$Row"
  | 1 => .int
  | 2 => .int
  | 3 => .int
  | 4 => .int
  | 5 => .boolean
  | 6 => .int
  | _ => .int
abbrev wsX50 : List Cond := u_ws RX5 TX5 8
theorem nmX5 : ∀ a, a < 8 → ∀ b, b < 8 → a ≠ b → (TX5 a).2.1 ≠ (TX5 b).2.1 := by decide +kernel
theorem tyX5_ok : ∀ k, k < 8 → parseFieldDescriptor (TX5 k).2.2.1 = some (tyX5 k) := by decide +kernel
abbrev cX5_init : ByteArray := prog_7_method_1_code
def yX5_init : MethodName := ⟨RX5, "<init>", "()V"⟩
abbrev cX5_startsWriting : ByteArray := prog_7_method_2_code
def yX5_startsWriting : MethodName := ⟨RX5, "startsWriting", "()V"⟩
abbrev cX5_startsReading : ByteArray := prog_7_method_3_code
def yX5_startsReading : MethodName := ⟨RX5, "startsReading", "()V"⟩
abbrev cX5_endsLike : ByteArray := prog_7_method_4_code
def yX5_endsLike : MethodName := ⟨RX5, "endsLike", "(LLongestPast$Range;)V"⟩
abbrev cX5_endedSize : ByteArray := prog_7_method_5_code
def yX5_endedSize : MethodName := ⟨RX5, "endedSize", "()I"⟩
abbrev cX5_wants : ByteArray := prog_7_method_6_code
def yX5_wants : MethodName := ⟨RX5, "wants", "(I)V"⟩
abbrev cX5_chooses : ByteArray := prog_7_method_7_code
def yX5_chooses : MethodName := ⟨RX5, "chooses", "(LLongestPast$Stage;)I"⟩
abbrev cX5_takes : ByteArray := prog_7_method_8_code
def yX5_takes : MethodName := ⟨RX5, "takes", "(III)V"⟩
abbrev cX5_isWhole : ByteArray := prog_7_method_9_code
def yX5_isWhole : MethodName := ⟨RX5, "isWhole", "()V"⟩
abbrev cX5_doubles : ByteArray := prog_7_method_10_code
def yX5_doubles : MethodName := ⟨RX5, "doubles", "(I)V"⟩
abbrev cX5_writesBit : ByteArray := prog_7_method_11_code
def yX5_writesBit : MethodName := ⟨RX5, "writesBit", "(I)V"⟩
def RX6 : String := "LongestPast$Row"
def TX6 : u_T := fun k => match k with
  | 0 => ("LongestPast$Row", "items", "[I", true)
  | _ => ("LongestPast$Row", "size", "I", false)
def tyX6 : Nat → FieldType := fun k => match k with
  | 0 => .array .int
  | _ => .int
abbrev wsX60 : List Cond := u_ws RX6 TX6 2
theorem nmX6 : ∀ a, a < 2 → ∀ b, b < 2 → a ≠ b → (TX6 a).2.1 ≠ (TX6 b).2.1 := by decide +kernel
theorem tyX6_ok : ∀ k, k < 2 → parseFieldDescriptor (TX6 k).2.2.1 = some (tyX6 k) := by decide +kernel
abbrev cX6_init : ByteArray := prog_8_method_1_code
def yX6_init : MethodName := ⟨RX6, "<init>", "(I)V"⟩
abbrev cX6_isFull : ByteArray := prog_8_method_2_code
def yX6_isFull : MethodName := ⟨RX6, "isFull", "()Z"⟩
abbrev cX6_at : ByteArray := prog_8_method_3_code
def yX6_at : MethodName := ⟨RX6, "at", "(I)I"⟩
abbrev cX6_puts : ByteArray := prog_8_method_4_code
def yX6_puts : MethodName := ⟨RX6, "puts", "(I)V"⟩
abbrev cX6_shortens : ByteArray := prog_8_method_5_code
def yX6_shortens : MethodName := ⟨RX6, "shortens", "(I)V"⟩
abbrev cX6_copies : ByteArray := prog_8_method_6_code
def yX6_copies : MethodName := ⟨RX6, "copies", "(LLongestPast$Row;)V"⟩
def RX7 : String := "LongestPast$Stage"
def TX7 : u_T := fun k => match k with
  | 0 => ("LongestPast$Stage", "widths", "[I", true)
  | 1 => ("LongestPast$Stage", "total", "I", false)
  | 2 => ("LongestPast$Stage", "shut", "I", false)
  | _ => ("LongestPast$Stage", "open", "I", false)
def tyX7 : Nat → FieldType := fun k => match k with
  | 0 => .array .int
  | 1 => .int
  | 2 => .int
  | _ => .int
abbrev wsX70 : List Cond := u_ws RX7 TX7 4
theorem nmX7 : ∀ a, a < 4 → ∀ b, b < 4 → a ≠ b → (TX7 a).2.1 ≠ (TX7 b).2.1 := by decide +kernel
theorem tyX7_ok : ∀ k, k < 4 → parseFieldDescriptor (TX7 k).2.2.1 = some (tyX7 k) := by decide +kernel
abbrev cX7_init : ByteArray := prog_9_method_1_code
def yX7_init : MethodName := ⟨RX7, "<init>", "()V"⟩
abbrev cX7_shutsNone : ByteArray := prog_9_method_2_code
def yX7_shutsNone : MethodName := ⟨RX7, "shutsNone", "()V"⟩
abbrev cX7_shutsOpen : ByteArray := prog_9_method_3_code
def yX7_shutsOpen : MethodName := ⟨RX7, "shutsOpen", "()V"⟩
abbrev cX7_shows : ByteArray := prog_9_method_4_code
def yX7_shows : MethodName := ⟨RX7, "shows", "(LLongestPast$Contexts;I)V"⟩
abbrev cX7_width : ByteArray := prog_9_method_5_code
def yX7_width : MethodName := ⟨RX7, "width", "(I)I"⟩
abbrev cX7_beginOf : ByteArray := prog_9_method_6_code
def yX7_beginOf : MethodName := ⟨RX7, "beginOf", "(I)I"⟩
abbrev cX7_choiceFor : ByteArray := prog_9_method_7_code
def yX7_choiceFor : MethodName := ⟨RX7, "choiceFor", "(I)I"⟩
abbrev cX7_choiceAt : ByteArray := prog_9_method_8_code
def yX7_choiceAt : MethodName := ⟨RX7, "choiceAt", "(I)I"⟩
def RX8 : String := "LongestPast$Taker"
def TX8 : u_T := fun k => match k with
  | _ => ("", "", "", false)
def tyX8 : Nat → FieldType := fun k => match k with
  | _ => .int
abbrev wsX80 : List Cond := u_ws RX8 TX8 0
theorem nmX8 : ∀ a, a < 0 → ∀ b, b < 0 → a ≠ b → (TX8 a).2.1 ≠ (TX8 b).2.1 := by decide +kernel
theorem tyX8_ok : ∀ k, k < 0 → parseFieldDescriptor (TX8 k).2.2.1 = some (tyX8 k) := by decide +kernel
abbrev cX8_init : ByteArray := prog_10_method_1_code
def yX8_init : MethodName := ⟨RX8, "<init>", "()V"⟩
def RX9 : String := "LongestPast"
def TX9 : u_T := fun k => match k with
  | 0 => ("LongestPast", "letters", "LLongestPast$Row;", true)
  | 1 => ("LongestPast", "now", "LLongestPast$Packer;", true)
  | 2 => ("LongestPast", "trial", "LLongestPast$Packer;", true)
  | 3 => ("LongestPast", "odds", "LLongestPast$Odds;", true)
  | 4 => ("LongestPast", "history", "LLongestPast$History;", true)
  | 5 => ("LongestPast", "firstImage", "LLongestPast$Past;", true)
  | 6 => ("LongestPast", "secondImage", "LLongestPast$Past;", true)
  | 7 => ("LongestPast", "firstKept", "Z", false)
  | _ => ("LongestPast", "secondKept", "Z", false)
def tyX9 : Nat → FieldType := fun k => match k with
  | 0 => .object "LongestPast$Row"
  | 1 => .object "LongestPast$Packer"
  | 2 => .object "LongestPast$Packer"
  | 3 => .object "LongestPast$Odds"
  | 4 => .object "LongestPast$History"
  | 5 => .object "LongestPast$Past"
  | 6 => .object "LongestPast$Past"
  | 7 => .boolean
  | _ => .boolean
abbrev wsX90 : List Cond := u_ws RX9 TX9 9
theorem nmX9 : ∀ a, a < 9 → ∀ b, b < 9 → a ≠ b → (TX9 a).2.1 ≠ (TX9 b).2.1 := by decide +kernel
theorem tyX9_ok : ∀ k, k < 9 → parseFieldDescriptor (TX9 k).2.2.1 = some (tyX9 k) := by decide +kernel
abbrev cX9_init : ByteArray := prog_1_method_1_code
def yX9_init : MethodName := ⟨RX9, "<init>", "()V"⟩
abbrev cX9_type : ByteArray := prog_1_method_2_code
def yX9_type : MethodName := ⟨RX9, "type", "(I)I"⟩
abbrev cX9_clear : ByteArray := prog_1_method_3_code
def yX9_clear : MethodName := ⟨RX9, "clear", "()I"⟩
abbrev cX9_begins : ByteArray := prog_1_method_4_code
def yX9_begins : MethodName := ⟨RX9, "begins", "(IIII)I"⟩
abbrev cX9_packs : ByteArray := prog_1_method_5_code
def yX9_packs : MethodName := ⟨RX9, "packs", "(I)I"⟩
abbrev cX9_word : ByteArray := prog_1_method_6_code
def yX9_word : MethodName := ⟨RX9, "word", "()I"⟩
abbrev cX9_cuts : ByteArray := prog_1_method_7_code
def yX9_cuts : MethodName := ⟨RX9, "cuts", "(I)I"⟩
abbrev cX9_undo : ByteArray := prog_1_method_8_code
def yX9_undo : MethodName := ⟨RX9, "undo", "()I"⟩
abbrev cX9_sign : ByteArray := prog_1_method_9_code
def yX9_sign : MethodName := ⟨RX9, "sign", "(I)I"⟩
abbrev cX9_count : ByteArray := prog_1_method_10_code
def yX9_count : MethodName := ⟨RX9, "count", "(IIIII)I"⟩
abbrev cX9_bit : ByteArray := prog_1_method_11_code
def yX9_bit : MethodName := ⟨RX9, "bit", "(I)I"⟩
abbrev cX9_chance : ByteArray := prog_1_method_12_code
def yX9_chance : MethodName := ⟨RX9, "chance", "(II)I"⟩
abbrev cX9_escapes : ByteArray := prog_1_method_13_code
def yX9_escapes : MethodName := ⟨RX9, "escapes", "(II)I"⟩
abbrev cX9_likeliest : ByteArray := prog_1_method_14_code
def yX9_likeliest : MethodName := ⟨RX9, "likeliest", "()I"⟩
abbrev cX9_length : ByteArray := prog_1_method_15_code
def yX9_length : MethodName := ⟨RX9, "length", "()I"⟩
abbrev cX9_best : ByteArray := prog_1_method_16_code
def yX9_best : MethodName := ⟨RX9, "best", "()I"⟩
abbrev cX9_unpacked : ByteArray := prog_1_method_17_code
def yX9_unpacked : MethodName := ⟨RX9, "unpacked", "(I)I"⟩
abbrev cX9_agrees : ByteArray := prog_1_method_18_code
def yX9_agrees : MethodName := ⟨RX9, "agrees", "()I"⟩
abbrev cX9_keep : ByteArray := prog_1_method_19_code
def yX9_keep : MethodName := ⟨RX9, "keep", "(I)I"⟩
abbrev cX9_back : ByteArray := prog_1_method_20_code
def yX9_back : MethodName := ⟨RX9, "back", "(I)I"⟩
abbrev cX9_told : ByteArray := prog_1_method_21_code
def yX9_told : MethodName := ⟨RX9, "told", "(I)I"⟩
abbrev cX9_isWithin : ByteArray := prog_1_method_22_code
def yX9_isWithin : MethodName := ⟨RX9, "isWithin", "(III)Z"⟩
abbrev cX9_isSign : ByteArray := prog_1_method_23_code
def yX9_isSign : MethodName := ⟨RX9, "isSign", "(I)Z"⟩
abbrev cX9_isContextSign : ByteArray := prog_1_method_24_code
def yX9_isContextSign : MethodName := ⟨RX9, "isContextSign", "(IZ)Z"⟩
abbrev cX9_longerContext : ByteArray := prog_1_method_25_code
def yX9_longerContext : MethodName := ⟨RX9, "longerContext", "(II)I"⟩
abbrev cX9_firstLetterOutside : ByteArray := prog_1_method_26_code
def yX9_firstLetterOutside : MethodName := ⟨RX9, "firstLetterOutside", "(II)I"⟩
def RX10 : String := "LongestPastModel"
def TX10 : u_T := fun k => match k with
  | 0 => ("LongestPastModel", "now", "[I", true)
  | 1 => ("LongestPastModel", "past", "[I", true)
  | 2 => ("LongestPastModel", "undos", "I", false)
  | 3 => ("LongestPastModel", "images", "[I", true)
  | 4 => ("LongestPastModel", "isKept", "[Z", true)
  | 5 => ("LongestPastModel", "text", "[I", true)
  | 6 => ("LongestPastModel", "letters", "I", false)
  | 7 => ("LongestPastModel", "order", "I", false)
  | 8 => ("LongestPastModel", "run", "[I", true)
  | 9 => ("LongestPastModel", "many", "I", false)
  | 10 => ("LongestPastModel", "counts", "[I", true)
  | 11 => ("LongestPastModel", "forgotten", "I", false)
  | 12 => ("LongestPastModel", "low", "I", false)
  | 13 => ("LongestPastModel", "high", "I", false)
  | 14 => ("LongestPastModel", "owed", "I", false)
  | 15 => ("LongestPastModel", "bits", "[I", true)
  | 16 => ("LongestPastModel", "bitMany", "I", false)
  | 17 => ("LongestPastModel", "mode", "I", false)
  | 18 => ("LongestPastModel", "source", "[I", true)
  | 19 => ("LongestPastModel", "sourceMany", "I", false)
  | 20 => ("LongestPastModel", "sourceAt", "I", false)
  | 21 => ("LongestPastModel", "value", "I", false)
  | 22 => ("LongestPastModel", "upper", "J", false)
  | 23 => ("LongestPastModel", "lower", "J", false)
  | 24 => ("LongestPastModel", "found", "I", false)
  | _ => ("LongestPastModel", "escaped", "I", false)
def tyX10 : Nat → FieldType := fun k => match k with
  | 0 => .array .int
  | 1 => .array .int
  | 2 => .int
  | 3 => .array .int
  | 4 => .array .boolean
  | 5 => .array .int
  | 6 => .int
  | 7 => .int
  | 8 => .array .int
  | 9 => .int
  | 10 => .array .int
  | 11 => .int
  | 12 => .int
  | 13 => .int
  | 14 => .int
  | 15 => .array .int
  | 16 => .int
  | 17 => .int
  | 18 => .array .int
  | 19 => .int
  | 20 => .int
  | 21 => .int
  | 22 => .long
  | 23 => .long
  | 24 => .int
  | _ => .int
abbrev wsX100 : List Cond := u_ws RX10 TX10 26
theorem nmX10 : ∀ a, a < 26 → ∀ b, b < 26 → a ≠ b → (TX10 a).2.1 ≠ (TX10 b).2.1 := by decide +kernel
theorem tyX10_ok : ∀ k, k < 26 → parseFieldDescriptor (TX10 k).2.2.1 = some (tyX10 k) := by decide +kernel
abbrev cX10_init : ByteArray := prog_12_method_1_code
def yX10_init : MethodName := ⟨RX10, "<init>", "()V"⟩
abbrev cX10_within : ByteArray := prog_12_method_3_code
def yX10_within : MethodName := ⟨RX10, "within", "(III)Z"⟩
abbrev cX10_has : ByteArray := prog_12_method_4_code
def yX10_has : MethodName := ⟨RX10, "has", "(II)Z"⟩
abbrev cX10_ones : ByteArray := prog_12_method_5_code
def yX10_ones : MethodName := ⟨RX10, "ones", "(I)I"⟩
abbrev cX10_lesser : ByteArray := prog_12_method_6_code
def yX10_lesser : MethodName := ⟨RX10, "lesser", "(II)I"⟩
abbrev cX10_lays : ByteArray := prog_12_method_7_code
def yX10_lays : MethodName := ⟨RX10, "lays", "(IIII)V"⟩
abbrev cX10_clears : ByteArray := prog_12_method_8_code
def yX10_clears : MethodName := ⟨RX10, "clears", "()V"⟩
abbrev cX10_starts : ByteArray := prog_12_method_9_code
def yX10_starts : MethodName := ⟨RX10, "starts", "(II)V"⟩
abbrev cX10_nextBit : ByteArray := prog_12_method_10_code
def yX10_nextBit : MethodName := ⟨RX10, "nextBit", "()I"⟩
abbrev cX10_puts : ByteArray := prog_12_method_11_code
def yX10_puts : MethodName := ⟨RX10, "puts", "(I)V"⟩
abbrev cX10_widens : ByteArray := prog_12_method_12_code
def yX10_widens : MethodName := ⟨RX10, "widens", "()Z"⟩
abbrev cX10_part : ByteArray := prog_12_method_13_code
def yX10_part : MethodName := ⟨RX10, "part", "(III)V"⟩
abbrev cX10_lies : ByteArray := prog_12_method_14_code
def yX10_lies : MethodName := ⟨RX10, "lies", "(I)I"⟩
abbrev cX10_context : ByteArray := prog_12_method_15_code
def yX10_context : MethodName := ⟨RX10, "context", "(II)I"⟩
abbrev cX10_openAt : ByteArray := prog_12_method_16_code
def yX10_openAt : MethodName := ⟨RX10, "openAt", "(II)I"⟩
abbrev cX10_sum : ByteArray := prog_12_method_17_code
def yX10_sum : MethodName := ⟨RX10, "sum", "(III)I"⟩
abbrev cX10_signAt : ByteArray := prog_12_method_18_code
def yX10_signAt : MethodName := ⟨RX10, "signAt", "(III)I"⟩
abbrev cX10_plain : ByteArray := prog_12_method_19_code
def yX10_plain : MethodName := ⟨RX10, "plain", "(II)I"⟩
abbrev cX10_goes : ByteArray := prog_12_method_20_code
def yX10_goes : MethodName := ⟨RX10, "goes", "(I)I"⟩
abbrev cX10_adds : ByteArray := prog_12_method_21_code
def yX10_adds : MethodName := ⟨RX10, "adds", "(II)V"⟩
abbrev cX10_there : ByteArray := prog_12_method_22_code
def yX10_there : MethodName := ⟨RX10, "there", "()I"⟩
abbrev cX10_forgets : ByteArray := prog_12_method_23_code
def yX10_forgets : MethodName := ⟨RX10, "forgets", "()V"⟩
abbrev cX10_learns : ByteArray := prog_12_method_24_code
def yX10_learns : MethodName := ⟨RX10, "learns", "(I)V"⟩
abbrev cX10_packsAll : ByteArray := prog_12_method_25_code
def yX10_packsAll : MethodName := ⟨RX10, "packsAll", "(I)V"⟩
abbrev cX10_packsNow : ByteArray := prog_12_method_26_code
def yX10_packsNow : MethodName := ⟨RX10, "packsNow", "()V"⟩
abbrev cX10_unpacks : ByteArray := prog_12_method_27_code
def yX10_unpacks : MethodName := ⟨RX10, "unpacks", "(I)V"⟩
abbrev cX10_ended : ByteArray := prog_12_method_28_code
def yX10_ended : MethodName := ⟨RX10, "ended", "()I"⟩
abbrev cX10_type : ByteArray := prog_12_method_29_code
def yX10_type : MethodName := ⟨RX10, "type", "(I)I"⟩
abbrev cX10_clear : ByteArray := prog_12_method_30_code
def yX10_clear : MethodName := ⟨RX10, "clear", "()I"⟩
abbrev cX10_keeps : ByteArray := prog_12_method_31_code
def yX10_keeps : MethodName := ⟨RX10, "keeps", "()V"⟩
abbrev cX10_begins : ByteArray := prog_12_method_32_code
def yX10_begins : MethodName := ⟨RX10, "begins", "(IIII)I"⟩
abbrev cX10_appends : ByteArray := prog_12_method_33_code
def yX10_appends : MethodName := ⟨RX10, "appends", "(I)V"⟩
abbrev cX10_packs : ByteArray := prog_12_method_34_code
def yX10_packs : MethodName := ⟨RX10, "packs", "(I)I"⟩
abbrev cX10_wrongLetter : ByteArray := prog_12_method_35_code
def yX10_wrongLetter : MethodName := ⟨RX10, "wrongLetter", "(II)I"⟩
abbrev cX10_word : ByteArray := prog_12_method_36_code
def yX10_word : MethodName := ⟨RX10, "word", "()I"⟩
abbrev cX10_cuts : ByteArray := prog_12_method_37_code
def yX10_cuts : MethodName := ⟨RX10, "cuts", "(I)I"⟩
abbrev cX10_undo : ByteArray := prog_12_method_38_code
def yX10_undo : MethodName := ⟨RX10, "undo", "()I"⟩
abbrev cX10_sign : ByteArray := prog_12_method_39_code
def yX10_sign : MethodName := ⟨RX10, "sign", "(I)I"⟩
abbrev cX10_isSign : ByteArray := prog_12_method_40_code
def yX10_isSign : MethodName := ⟨RX10, "isSign", "(I)Z"⟩
abbrev cX10_countOf : ByteArray := prog_12_method_41_code
def yX10_countOf : MethodName := ⟨RX10, "countOf", "(II)I"⟩
abbrev cX10_count : ByteArray := prog_12_method_42_code
def yX10_count : MethodName := ⟨RX10, "count", "(IIIII)I"⟩
abbrev cX10_bit : ByteArray := prog_12_method_43_code
def yX10_bit : MethodName := ⟨RX10, "bit", "(I)I"⟩
abbrev cX10_common : ByteArray := prog_12_method_44_code
def yX10_common : MethodName := ⟨RX10, "common", "(JJ)J"⟩
abbrev cX10_weighs : ByteArray := prog_12_method_45_code
def yX10_weighs : MethodName := ⟨RX10, "weighs", "(I)V"⟩
abbrev cX10_chance : ByteArray := prog_12_method_46_code
def yX10_chance : MethodName := ⟨RX10, "chance", "(II)I"⟩
abbrev cX10_escapes : ByteArray := prog_12_method_47_code
def yX10_escapes : MethodName := ⟨RX10, "escapes", "(II)I"⟩
abbrev cX10_likeliest : ByteArray := prog_12_method_48_code
def yX10_likeliest : MethodName := ⟨RX10, "likeliest", "()I"⟩
abbrev cX10_length : ByteArray := prog_12_method_49_code
def yX10_length : MethodName := ⟨RX10, "length", "()I"⟩
abbrev cX10_best : ByteArray := prog_12_method_50_code
def yX10_best : MethodName := ⟨RX10, "best", "()I"⟩
abbrev cX10_unpacked : ByteArray := prog_12_method_51_code
def yX10_unpacked : MethodName := ⟨RX10, "unpacked", "(I)I"⟩
abbrev cX10_agrees : ByteArray := prog_12_method_52_code
def yX10_agrees : MethodName := ⟨RX10, "agrees", "()I"⟩
abbrev cX10_keep : ByteArray := prog_12_method_53_code
def yX10_keep : MethodName := ⟨RX10, "keep", "(I)I"⟩
abbrev cX10_back : ByteArray := prog_12_method_54_code
def yX10_back : MethodName := ⟨RX10, "back", "(I)I"⟩
abbrev cX10_tellNow : ByteArray := prog_12_method_55_code
def yX10_tellNow : MethodName := ⟨RX10, "tellNow", "(I)I"⟩
abbrev cX10_told : ByteArray := prog_12_method_56_code
def yX10_told : MethodName := ⟨RX10, "told", "(I)I"⟩
def RJ6 : String := "java/lang/Integer"
def TJ6 : u_T := fun k => match k with
  | _ => ("", "", "", false)
def tyJ6 : Nat → FieldType := fun k => match k with
  | _ => .int
abbrev wsJ60 : List Cond := u_ws RJ6 TJ6 0
theorem nmJ6 : ∀ a, a < 0 → ∀ b, b < 0 → a ≠ b → (TJ6 a).2.1 ≠ (TJ6 b).2.1 := by decide +kernel
theorem tyJ6_ok : ∀ k, k < 0 → parseFieldDescriptor (TJ6 k).2.2.1 = some (tyJ6 k) := by decide +kernel
abbrev cJ6_bitCount_0f7a4 : ByteArray := prog_13_method_49_code
def yJ6_bitCount_0f7a4 : MethodName := ⟨RJ6, "bitCount", "(I)I"⟩
def RJ9 : String := "java/lang/Math"
def TJ9 : u_T := fun k => match k with
  | _ => ("", "", "", false)
def tyJ9 : Nat → FieldType := fun k => match k with
  | _ => .int
abbrev wsJ90 : List Cond := u_ws RJ9 TJ9 0
theorem nmJ9 : ∀ a, a < 0 → ∀ b, b < 0 → a ≠ b → (TJ9 a).2.1 ≠ (TJ9 b).2.1 := by decide +kernel
theorem tyJ9_ok : ∀ k, k < 0 → parseFieldDescriptor (TJ9 k).2.2.1 = some (tyJ9 k) := by decide +kernel
abbrev cJ9_max_7cf53 : ByteArray := prog_14_method_65_code
def yJ9_max_7cf53 : MethodName := ⟨RJ9, "max", "(II)I"⟩
abbrev cJ9_min_7cf53 : ByteArray := prog_14_method_69_code
def yJ9_min_7cf53 : MethodName := ⟨RJ9, "min", "(II)I"⟩
def RL : String := "LongestPastLaw"
abbrev cL_law : ByteArray := code
def yL_law : MethodName := ⟨RL, "law", "([I)Z"⟩
abbrev vwCl : List vw_C := [(RX0, TX0, 2), (RX1, TX1, 3), (RX2, TX2, 4), (RX3, TX3, 7), (RX4, TX4, 5), (RX5, TX5, 8), (RX6, TX6, 2), (RX7, TX7, 4), (RX9, TX9, 9), (RX10, TX10, 26)]
