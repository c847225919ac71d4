section
/-- a private method of a class that the tables say can be made, by its rows of tables_1 -/
def lw_okq (q : MethodName × Nat) : Prop := (q.1.cls ≠ "java/lang/invoke/MethodHandle" ∧ q.1.cls ≠ "java/lang/invoke/VarHandle") ∧ Cond.instantiable q.1.cls q.2 ∈ tables_1 ∧ Cond.privateMethod q.1 ∈ tables_1 ∧ Cond.instanceMethod q.1 ∈ tables_1
theorem lw_p0 : lw_okq (⟨"LongestPast$Packer", "startsAnew", "()V"⟩, 7) := ⟨⟨by decide +kernel, by decide +kernel⟩, List.mem_of_getElem? (i := 43) (by decide +kernel), List.mem_of_getElem? (i := 315) (by decide +kernel), List.mem_of_getElem? (i := 316) (by decide +kernel)⟩
theorem lw_p1 : lw_okq (⟨"LongestPast$Range", "isWhole", "()V"⟩, 8) := ⟨⟨by decide +kernel, by decide +kernel⟩, List.mem_of_getElem? (i := 98) (by decide +kernel), List.mem_of_getElem? (i := 328) (by decide +kernel), List.mem_of_getElem? (i := 329) (by decide +kernel)⟩
theorem lw_p2 : lw_okq (⟨"LongestPast$Packer", "descends", "(LLongestPast$Taker;)I"⟩, 7) := ⟨⟨by decide +kernel, by decide +kernel⟩, List.mem_of_getElem? (i := 43) (by decide +kernel), List.mem_of_getElem? (i := 341) (by decide +kernel), List.mem_of_getElem? (i := 342) (by decide +kernel)⟩
theorem lw_p3 : lw_okq (⟨"LongestPast$Packer", "longest", "()I"⟩, 7) := ⟨⟨by decide +kernel, by decide +kernel⟩, List.mem_of_getElem? (i := 43) (by decide +kernel), List.mem_of_getElem? (i := 349) (by decide +kernel), List.mem_of_getElem? (i := 350) (by decide +kernel)⟩
theorem lw_p4 : lw_okq (⟨"LongestPast$Range", "writesBit", "(I)V"⟩, 8) := ⟨⟨by decide +kernel, by decide +kernel⟩, List.mem_of_getElem? (i := 98) (by decide +kernel), List.mem_of_getElem? (i := 413) (by decide +kernel), List.mem_of_getElem? (i := 414) (by decide +kernel)⟩
theorem lw_p5 : lw_okq (⟨"LongestPast$Range", "doubles", "(I)V"⟩, 8) := ⟨⟨by decide +kernel, by decide +kernel⟩, List.mem_of_getElem? (i := 98) (by decide +kernel), List.mem_of_getElem? (i := 418) (by decide +kernel), List.mem_of_getElem? (i := 419) (by decide +kernel)⟩
theorem lw_p6 : lw_okq (⟨"LongestPast$Packer", "learns", "(II)V"⟩, 7) := ⟨⟨by decide +kernel, by decide +kernel⟩, List.mem_of_getElem? (i := 43) (by decide +kernel), List.mem_of_getElem? (i := 428) (by decide +kernel), List.mem_of_getElem? (i := 429) (by decide +kernel)⟩
theorem lw_p7 : lw_okq (⟨"LongestPast$Packer", "forgets", "()V"⟩, 7) := ⟨⟨by decide +kernel, by decide +kernel⟩, List.mem_of_getElem? (i := 43) (by decide +kernel), List.mem_of_getElem? (i := 437) (by decide +kernel), List.mem_of_getElem? (i := 438) (by decide +kernel)⟩
theorem lw_p8 : lw_okq (⟨"LongestPast", "firstLetterOutside", "(II)I"⟩, 9) := ⟨⟨by decide +kernel, by decide +kernel⟩, List.mem_of_getElem? (i := 15) (by decide +kernel), List.mem_of_getElem? (i := 453) (by decide +kernel), List.mem_of_getElem? (i := 454) (by decide +kernel)⟩
theorem lw_p9 : lw_okq (⟨"LongestPastModel", "lays", "(IIII)V"⟩, 26) := ⟨⟨by decide +kernel, by decide +kernel⟩, List.mem_of_getElem? (i := 567) (by decide +kernel), List.mem_of_getElem? (i := 573) (by decide +kernel), List.mem_of_getElem? (i := 574) (by decide +kernel)⟩
theorem lw_p10 : lw_okq (⟨"LongestPastModel", "keeps", "()V"⟩, 26) := ⟨⟨by decide +kernel, by decide +kernel⟩, List.mem_of_getElem? (i := 567) (by decide +kernel), List.mem_of_getElem? (i := 672) (by decide +kernel), List.mem_of_getElem? (i := 673) (by decide +kernel)⟩
theorem lw_p11 : lw_okq (⟨"LongestPastModel", "appends", "(I)V"⟩, 26) := ⟨⟨by decide +kernel, by decide +kernel⟩, List.mem_of_getElem? (i := 567) (by decide +kernel), List.mem_of_getElem? (i := 680) (by decide +kernel), List.mem_of_getElem? (i := 681) (by decide +kernel)⟩
theorem lw_p12 : lw_okq (⟨"LongestPastModel", "packsNow", "()V"⟩, 26) := ⟨⟨by decide +kernel, by decide +kernel⟩, List.mem_of_getElem? (i := 567) (by decide +kernel), List.mem_of_getElem? (i := 684) (by decide +kernel), List.mem_of_getElem? (i := 685) (by decide +kernel)⟩
theorem lw_p13 : lw_okq (⟨"LongestPastModel", "packsAll", "(I)V"⟩, 26) := ⟨⟨by decide +kernel, by decide +kernel⟩, List.mem_of_getElem? (i := 567) (by decide +kernel), List.mem_of_getElem? (i := 688) (by decide +kernel), List.mem_of_getElem? (i := 689) (by decide +kernel)⟩
theorem lw_p14 : lw_okq (⟨"LongestPastModel", "starts", "(II)V"⟩, 26) := ⟨⟨by decide +kernel, by decide +kernel⟩, List.mem_of_getElem? (i := 567) (by decide +kernel), List.mem_of_getElem? (i := 692) (by decide +kernel), List.mem_of_getElem? (i := 693) (by decide +kernel)⟩
theorem lw_p15 : lw_okq (⟨"LongestPastModel", "clears", "()V"⟩, 26) := ⟨⟨by decide +kernel, by decide +kernel⟩, List.mem_of_getElem? (i := 567) (by decide +kernel), List.mem_of_getElem? (i := 697) (by decide +kernel), List.mem_of_getElem? (i := 698) (by decide +kernel)⟩
def lw_privs_1 : List (MethodName × Nat) := [(⟨"LongestPast$Packer", "startsAnew", "()V"⟩, 7), (⟨"LongestPast$Range", "isWhole", "()V"⟩, 8), (⟨"LongestPast$Packer", "descends", "(LLongestPast$Taker;)I"⟩, 7), (⟨"LongestPast$Packer", "longest", "()I"⟩, 7), (⟨"LongestPast$Range", "writesBit", "(I)V"⟩, 8), (⟨"LongestPast$Range", "doubles", "(I)V"⟩, 8), (⟨"LongestPast$Packer", "learns", "(II)V"⟩, 7), (⟨"LongestPast$Packer", "forgets", "()V"⟩, 7), (⟨"LongestPast", "firstLetterOutside", "(II)I"⟩, 9), (⟨"LongestPastModel", "lays", "(IIII)V"⟩, 26), (⟨"LongestPastModel", "keeps", "()V"⟩, 26), (⟨"LongestPastModel", "appends", "(I)V"⟩, 26), (⟨"LongestPastModel", "packsNow", "()V"⟩, 26), (⟨"LongestPastModel", "packsAll", "(I)V"⟩, 26), (⟨"LongestPastModel", "starts", "(II)V"⟩, 26), (⟨"LongestPastModel", "clears", "()V"⟩, 26)]
theorem lw_r1 : ∀ q ∈ lw_privs_1, lw_okq q := List.forall_mem_cons.mpr ⟨lw_p0, List.forall_mem_cons.mpr ⟨lw_p1, List.forall_mem_cons.mpr ⟨lw_p2, List.forall_mem_cons.mpr ⟨lw_p3, List.forall_mem_cons.mpr ⟨lw_p4, List.forall_mem_cons.mpr ⟨lw_p5, List.forall_mem_cons.mpr ⟨lw_p6, List.forall_mem_cons.mpr ⟨lw_p7, List.forall_mem_cons.mpr ⟨lw_p8, List.forall_mem_cons.mpr ⟨lw_p9, List.forall_mem_cons.mpr ⟨lw_p10, List.forall_mem_cons.mpr ⟨lw_p11, List.forall_mem_cons.mpr ⟨lw_p12, List.forall_mem_cons.mpr ⟨lw_p13, List.forall_mem_cons.mpr ⟨lw_p14, List.forall_mem_cons.mpr ⟨lw_p15, fun _ h => absurd h List.not_mem_nil⟩⟩⟩⟩⟩⟩⟩⟩⟩⟩⟩⟩⟩⟩⟩⟩
theorem lw_p16 : lw_okq (⟨"LongestPastModel", "nextBit", "()I"⟩, 26) := ⟨⟨by decide +kernel, by decide +kernel⟩, List.mem_of_getElem? (i := 567) (by decide +kernel), List.mem_of_getElem? (i := 701) (by decide +kernel), List.mem_of_getElem? (i := 702) (by decide +kernel)⟩
theorem lw_p17 : lw_okq (⟨"LongestPastModel", "goes", "(I)I"⟩, 26) := ⟨⟨by decide +kernel, by decide +kernel⟩, List.mem_of_getElem? (i := 567) (by decide +kernel), List.mem_of_getElem? (i := 705) (by decide +kernel), List.mem_of_getElem? (i := 706) (by decide +kernel)⟩
theorem lw_p18 : lw_okq (⟨"LongestPastModel", "context", "(II)I"⟩, 26) := ⟨⟨by decide +kernel, by decide +kernel⟩, List.mem_of_getElem? (i := 567) (by decide +kernel), List.mem_of_getElem? (i := 712) (by decide +kernel), List.mem_of_getElem? (i := 713) (by decide +kernel)⟩
theorem lw_p19 : lw_okq (⟨"LongestPastModel", "openAt", "(II)I"⟩, 26) := ⟨⟨by decide +kernel, by decide +kernel⟩, List.mem_of_getElem? (i := 567) (by decide +kernel), List.mem_of_getElem? (i := 716) (by decide +kernel), List.mem_of_getElem? (i := 717) (by decide +kernel)⟩
theorem lw_p20 : lw_okq (⟨"LongestPastModel", "sum", "(III)I"⟩, 26) := ⟨⟨by decide +kernel, by decide +kernel⟩, List.mem_of_getElem? (i := 567) (by decide +kernel), List.mem_of_getElem? (i := 726) (by decide +kernel), List.mem_of_getElem? (i := 727) (by decide +kernel)⟩
theorem lw_p21 : lw_okq (⟨"LongestPastModel", "lies", "(I)I"⟩, 26) := ⟨⟨by decide +kernel, by decide +kernel⟩, List.mem_of_getElem? (i := 567) (by decide +kernel), List.mem_of_getElem? (i := 730) (by decide +kernel), List.mem_of_getElem? (i := 731) (by decide +kernel)⟩
theorem lw_p22 : lw_okq (⟨"LongestPastModel", "signAt", "(III)I"⟩, 26) := ⟨⟨by decide +kernel, by decide +kernel⟩, List.mem_of_getElem? (i := 567) (by decide +kernel), List.mem_of_getElem? (i := 734) (by decide +kernel), List.mem_of_getElem? (i := 735) (by decide +kernel)⟩
theorem lw_p23 : lw_okq (⟨"LongestPastModel", "part", "(III)V"⟩, 26) := ⟨⟨by decide +kernel, by decide +kernel⟩, List.mem_of_getElem? (i := 567) (by decide +kernel), List.mem_of_getElem? (i := 738) (by decide +kernel), List.mem_of_getElem? (i := 739) (by decide +kernel)⟩
theorem lw_p24 : lw_okq (⟨"LongestPastModel", "widens", "()Z"⟩, 26) := ⟨⟨by decide +kernel, by decide +kernel⟩, List.mem_of_getElem? (i := 567) (by decide +kernel), List.mem_of_getElem? (i := 742) (by decide +kernel), List.mem_of_getElem? (i := 743) (by decide +kernel)⟩
theorem lw_p25 : lw_okq (⟨"LongestPastModel", "puts", "(I)V"⟩, 26) := ⟨⟨by decide +kernel, by decide +kernel⟩, List.mem_of_getElem? (i := 567) (by decide +kernel), List.mem_of_getElem? (i := 748) (by decide +kernel), List.mem_of_getElem? (i := 749) (by decide +kernel)⟩
theorem lw_p26 : lw_okq (⟨"LongestPastModel", "plain", "(II)I"⟩, 26) := ⟨⟨by decide +kernel, by decide +kernel⟩, List.mem_of_getElem? (i := 567) (by decide +kernel), List.mem_of_getElem? (i := 752) (by decide +kernel), List.mem_of_getElem? (i := 753) (by decide +kernel)⟩
theorem lw_p27 : lw_okq (⟨"LongestPastModel", "learns", "(I)V"⟩, 26) := ⟨⟨by decide +kernel, by decide +kernel⟩, List.mem_of_getElem? (i := 567) (by decide +kernel), List.mem_of_getElem? (i := 756) (by decide +kernel), List.mem_of_getElem? (i := 757) (by decide +kernel)⟩
theorem lw_p28 : lw_okq (⟨"LongestPastModel", "adds", "(II)V"⟩, 26) := ⟨⟨by decide +kernel, by decide +kernel⟩, List.mem_of_getElem? (i := 567) (by decide +kernel), List.mem_of_getElem? (i := 760) (by decide +kernel), List.mem_of_getElem? (i := 761) (by decide +kernel)⟩
theorem lw_p29 : lw_okq (⟨"LongestPastModel", "there", "()I"⟩, 26) := ⟨⟨by decide +kernel, by decide +kernel⟩, List.mem_of_getElem? (i := 567) (by decide +kernel), List.mem_of_getElem? (i := 764) (by decide +kernel), List.mem_of_getElem? (i := 765) (by decide +kernel)⟩
theorem lw_p30 : lw_okq (⟨"LongestPastModel", "forgets", "()V"⟩, 26) := ⟨⟨by decide +kernel, by decide +kernel⟩, List.mem_of_getElem? (i := 567) (by decide +kernel), List.mem_of_getElem? (i := 768) (by decide +kernel), List.mem_of_getElem? (i := 769) (by decide +kernel)⟩
theorem lw_p31 : lw_okq (⟨"LongestPastModel", "wrongLetter", "(II)I"⟩, 26) := ⟨⟨by decide +kernel, by decide +kernel⟩, List.mem_of_getElem? (i := 567) (by decide +kernel), List.mem_of_getElem? (i := 776) (by decide +kernel), List.mem_of_getElem? (i := 777) (by decide +kernel)⟩
def lw_privs_2 : List (MethodName × Nat) := [(⟨"LongestPastModel", "nextBit", "()I"⟩, 26), (⟨"LongestPastModel", "goes", "(I)I"⟩, 26), (⟨"LongestPastModel", "context", "(II)I"⟩, 26), (⟨"LongestPastModel", "openAt", "(II)I"⟩, 26), (⟨"LongestPastModel", "sum", "(III)I"⟩, 26), (⟨"LongestPastModel", "lies", "(I)I"⟩, 26), (⟨"LongestPastModel", "signAt", "(III)I"⟩, 26), (⟨"LongestPastModel", "part", "(III)V"⟩, 26), (⟨"LongestPastModel", "widens", "()Z"⟩, 26), (⟨"LongestPastModel", "puts", "(I)V"⟩, 26), (⟨"LongestPastModel", "plain", "(II)I"⟩, 26), (⟨"LongestPastModel", "learns", "(I)V"⟩, 26), (⟨"LongestPastModel", "adds", "(II)V"⟩, 26), (⟨"LongestPastModel", "there", "()I"⟩, 26), (⟨"LongestPastModel", "forgets", "()V"⟩, 26), (⟨"LongestPastModel", "wrongLetter", "(II)I"⟩, 26)]
theorem lw_r2 : ∀ q ∈ lw_privs_2, lw_okq q := List.forall_mem_cons.mpr ⟨lw_p16, List.forall_mem_cons.mpr ⟨lw_p17, List.forall_mem_cons.mpr ⟨lw_p18, List.forall_mem_cons.mpr ⟨lw_p19, List.forall_mem_cons.mpr ⟨lw_p20, List.forall_mem_cons.mpr ⟨lw_p21, List.forall_mem_cons.mpr ⟨lw_p22, List.forall_mem_cons.mpr ⟨lw_p23, List.forall_mem_cons.mpr ⟨lw_p24, List.forall_mem_cons.mpr ⟨lw_p25, List.forall_mem_cons.mpr ⟨lw_p26, List.forall_mem_cons.mpr ⟨lw_p27, List.forall_mem_cons.mpr ⟨lw_p28, List.forall_mem_cons.mpr ⟨lw_p29, List.forall_mem_cons.mpr ⟨lw_p30, List.forall_mem_cons.mpr ⟨lw_p31, fun _ h => absurd h List.not_mem_nil⟩⟩⟩⟩⟩⟩⟩⟩⟩⟩⟩⟩⟩⟩⟩⟩
theorem lw_p32 : lw_okq (⟨"LongestPastModel", "countOf", "(II)I"⟩, 26) := ⟨⟨by decide +kernel, by decide +kernel⟩, List.mem_of_getElem? (i := 567) (by decide +kernel), List.mem_of_getElem? (i := 799) (by decide +kernel), List.mem_of_getElem? (i := 800) (by decide +kernel)⟩
theorem lw_p33 : lw_okq (⟨"LongestPastModel", "weighs", "(I)V"⟩, 26) := ⟨⟨by decide +kernel, by decide +kernel⟩, List.mem_of_getElem? (i := 567) (by decide +kernel), List.mem_of_getElem? (i := 811) (by decide +kernel), List.mem_of_getElem? (i := 812) (by decide +kernel)⟩
theorem lw_p34 : lw_okq (⟨"LongestPastModel", "ended", "()I"⟩, 26) := ⟨⟨by decide +kernel, by decide +kernel⟩, List.mem_of_getElem? (i := 567) (by decide +kernel), List.mem_of_getElem? (i := 830) (by decide +kernel), List.mem_of_getElem? (i := 831) (by decide +kernel)⟩
theorem lw_p35 : lw_okq (⟨"LongestPastModel", "unpacks", "(I)V"⟩, 26) := ⟨⟨by decide +kernel, by decide +kernel⟩, List.mem_of_getElem? (i := 567) (by decide +kernel), List.mem_of_getElem? (i := 842) (by decide +kernel), List.mem_of_getElem? (i := 843) (by decide +kernel)⟩
theorem lw_p36 : lw_okq (⟨"LongestPastModel", "tellNow", "(I)I"⟩, 26) := ⟨⟨by decide +kernel, by decide +kernel⟩, List.mem_of_getElem? (i := 567) (by decide +kernel), List.mem_of_getElem? (i := 862) (by decide +kernel), List.mem_of_getElem? (i := 863) (by decide +kernel)⟩
def lw_privs_3 : List (MethodName × Nat) := [(⟨"LongestPastModel", "countOf", "(II)I"⟩, 26), (⟨"LongestPastModel", "weighs", "(I)V"⟩, 26), (⟨"LongestPastModel", "ended", "()I"⟩, 26), (⟨"LongestPastModel", "unpacks", "(I)V"⟩, 26), (⟨"LongestPastModel", "tellNow", "(I)I"⟩, 26)]
theorem lw_r3 : ∀ q ∈ lw_privs_3, lw_okq q := List.forall_mem_cons.mpr ⟨lw_p32, List.forall_mem_cons.mpr ⟨lw_p33, List.forall_mem_cons.mpr ⟨lw_p34, List.forall_mem_cons.mpr ⟨lw_p35, List.forall_mem_cons.mpr ⟨lw_p36, fun _ h => absurd h List.not_mem_nil⟩⟩⟩⟩⟩
def lw_privs : List (MethodName × Nat) := lw_privs_1 ++ (lw_privs_2 ++ (lw_privs_3))
def lw_tbl : List Cond := k2_sels lw_privs ++ tables_1
theorem lw_privs_ok : ∀ q ∈ lw_privs, lw_okq q := by
  show ∀ q ∈ lw_privs_1 ++ (lw_privs_2 ++ (lw_privs_3)), lw_okq q
  exact List.forall_mem_append.mpr ⟨lw_r1, List.forall_mem_append.mpr ⟨lw_r2, lw_r3⟩⟩

def RX0 : String := "LongestPast$Contexts"
def TX0 : u_T := fun k => match k with
  | 0 => ("LongestPast$Contexts", "counts", "[I", true)
  | _ => ("LongestPast$Contexts", "there", "I", false)
def tyX0 : Nat → FieldType := fun k => match k with
  | 0 => .array .int
  | _ => .int
abbrev wsX00 : List Cond := u_ws RX0 TX0 2
theorem nmX0 : ∀ a, a < 2 → ∀ b, b < 2 → a ≠ b → (TX0 a).2.1 ≠ (TX0 b).2.1 := by decide +kernel
theorem tyX0_ok : ∀ k, k < 2 → parseFieldDescriptor (TX0 k).2.2.1 = some (tyX0 k) := by decide +kernel
abbrev cX0_init : ByteArray := prog_2_method_1_code
def yX0_init : MethodName := ⟨RX0, "<init>", "()V"⟩
abbrev cX0_empties : ByteArray := prog_2_method_2_code
def yX0_empties : MethodName := ⟨RX0, "empties", "()V"⟩
abbrev cX0_at : ByteArray := prog_2_method_3_code
def yX0_at : MethodName := ⟨RX0, "at", "(II)I"⟩
abbrev cX0_raises : ByteArray := prog_2_method_4_code
def yX0_raises : MethodName := ⟨RX0, "raises", "(III)V"⟩
def RX1 : String := "LongestPast$History"
def TX1 : u_T := fun k => match k with
  | 0 => ("LongestPast$History", "ring", "[LLongestPast$Past;", true)
  | 1 => ("LongestPast$History", "next", "I", false)
  | _ => ("LongestPast$History", "known", "I", false)
def tyX1 : Nat → FieldType := fun k => match k with
  | 0 => .array (.object "LongestPast$Past")
  | 1 => .int
  | _ => .int
abbrev wsX10 : List Cond := u_ws RX1 TX1 3
theorem nmX1 : ∀ a, a < 3 → ∀ b, b < 3 → a ≠ b → (TX1 a).2.1 ≠ (TX1 b).2.1 := by decide +kernel
theorem tyX1_ok : ∀ k, k < 3 → parseFieldDescriptor (TX1 k).2.2.1 = some (tyX1 k) := by decide +kernel
abbrev cX1_init : ByteArray := prog_3_method_1_code
def yX1_init : MethodName := ⟨RX1, "<init>", "()V"⟩
abbrev cX1_remembers : ByteArray := prog_3_method_2_code
def yX1_remembers : MethodName := ⟨RX1, "remembers", "(LLongestPast$Past;)V"⟩
abbrev cX1_recalls : ByteArray := prog_3_method_3_code
def yX1_recalls : MethodName := ⟨RX1, "recalls", "(LLongestPast$Past;)V"⟩
abbrev cX1_losesAll : ByteArray := prog_3_method_4_code
def yX1_losesAll : MethodName := ⟨RX1, "losesAll", "()V"⟩
def RX2 : String := "LongestPast$Odds"
def TX2 : u_T := fun k => match k with
  | 0 => ("LongestPast$Odds", "wanted", "I", false)
  | 1 => ("LongestPast$Odds", "escaped", "I", false)
  | 2 => ("LongestPast$Odds", "upper", "J", false)
  | _ => ("LongestPast$Odds", "lower", "J", false)
def tyX2 : Nat → FieldType := fun k => match k with
  | 0 => .int
  | 1 => .int
  | 2 => .long
  | _ => .long
abbrev wsX20 : List Cond := u_ws RX2 TX2 4
theorem nmX2 : ∀ a, a < 4 → ∀ b, b < 4 → a ≠ b → (TX2 a).2.1 ≠ (TX2 b).2.1 := by decide +kernel
theorem tyX2_ok : ∀ k, k < 4 → parseFieldDescriptor (TX2 k).2.2.1 = some (tyX2 k) := by decide +kernel
abbrev cX2_init : ByteArray := prog_4_method_1_code
def yX2_init : MethodName := ⟨RX2, "<init>", "()V"⟩
abbrev cX2_wants : ByteArray := prog_4_method_2_code
def yX2_wants : MethodName := ⟨RX2, "wants", "(I)V"⟩
abbrev cX2_chooses : ByteArray := prog_4_method_3_code
def yX2_chooses : MethodName := ⟨RX2, "chooses", "(LLongestPast$Stage;)I"⟩
abbrev cX2_takes : ByteArray := prog_4_method_4_code
def yX2_takes : MethodName := ⟨RX2, "takes", "(III)V"⟩
abbrev cX2_inLeastTerms : ByteArray := prog_4_method_5_code
def yX2_inLeastTerms : MethodName := ⟨RX2, "inLeastTerms", "(J)I"⟩
def RX3 : String := "LongestPast$Packer"
def TX3 : u_T := fun k => match k with
  | 0 => ("LongestPast$Packer", "past", "LLongestPast$Past;", true)
  | 1 => ("LongestPast$Packer", "contexts", "LLongestPast$Contexts;", true)
  | 2 => ("LongestPast$Packer", "range", "LLongestPast$Range;", true)
  | 3 => ("LongestPast$Packer", "stage", "LLongestPast$Stage;", true)
  | 4 => ("LongestPast$Packer", "packed", "I", false)
  | 5 => ("LongestPast$Packer", "forgotten", "I", false)
  | _ => ("LongestPast$Packer", "chosen", "I", false)
def tyX3 : Nat → FieldType := fun k => match k with
  | 0 => .object "LongestPast$Past"
  | 1 => .object "LongestPast$Contexts"
  | 2 => .object "LongestPast$Range"
  | 3 => .object "LongestPast$Stage"
  | 4 => .int
  | 5 => .int
  | _ => .int
abbrev wsX30 : List Cond := u_ws RX3 TX3 7
theorem nmX3 : ∀ a, a < 7 → ∀ b, b < 7 → a ≠ b → (TX3 a).2.1 ≠ (TX3 b).2.1 := by decide +kernel
theorem tyX3_ok : ∀ k, k < 7 → parseFieldDescriptor (TX3 k).2.2.1 = some (tyX3 k) := by decide +kernel
abbrev cX3_init : ByteArray := prog_5_method_1_code
def yX3_init : MethodName := ⟨RX3, "<init>", "()V"⟩
abbrev cX3_startsLike : ByteArray := prog_5_method_2_code
def yX3_startsLike : MethodName := ⟨RX3, "startsLike", "(LLongestPast$Past;)V"⟩
abbrev cX3_repacks : ByteArray := prog_5_method_3_code
def yX3_repacks : MethodName := ⟨RX3, "repacks", "()V"⟩
abbrev cX3_packsNext : ByteArray := prog_5_method_4_code
def yX3_packsNext : MethodName := ⟨RX3, "packsNext", "()I"⟩
abbrev cX3_readsNext : ByteArray := prog_5_method_5_code
def yX3_readsNext : MethodName := ⟨RX3, "readsNext", "()I"⟩
abbrev cX3_weighs : ByteArray := prog_5_method_6_code
def yX3_weighs : MethodName := ⟨RX3, "weighs", "(LLongestPast$Odds;I)I"⟩
abbrev cX3_descends : ByteArray := prog_5_method_7_code
def yX3_descends : MethodName := ⟨RX3, "descends", "(LLongestPast$Taker;)I"⟩
abbrev cX3_startsAnew : ByteArray := prog_5_method_8_code
def yX3_startsAnew : MethodName := ⟨RX3, "startsAnew", "()V"⟩
abbrev cX3_longest : ByteArray := prog_5_method_9_code
def yX3_longest : MethodName := ⟨RX3, "longest", "()I"⟩
abbrev cX3_learns : ByteArray := prog_5_method_10_code
def yX3_learns : MethodName := ⟨RX3, "learns", "(II)V"⟩
abbrev cX3_forgets : ByteArray := prog_5_method_11_code
def yX3_forgets : MethodName := ⟨RX3, "forgets", "()V"⟩
def RX4 : String := "LongestPast$Past"
def TX4 : u_T := fun k => match k with
  | 0 => ("LongestPast$Past", "order", "I", false)
  | 1 => ("LongestPast$Past", "limit", "I", false)
  | 2 => ("LongestPast$Past", "room", "I", false)
  | 3 => ("LongestPast$Past", "tail", "I", false)
  | _ => ("LongestPast$Past", "signs", "LLongestPast$Row;", true)
def tyX4 : Nat → FieldType := fun k => match k with
  | 0 => .int
  | 1 => .int
  | 2 => .int
  | 3 => .int
  | _ => .object "LongestPast$Row"
abbrev wsX40 : List Cond := u_ws RX4 TX4 5
theorem nmX4 : ∀ a, a < 5 → ∀ b, b < 5 → a ≠ b → (TX4 a).2.1 ≠ (TX4 b).2.1 := by decide +kernel
theorem tyX4_ok : ∀ k, k < 5 → parseFieldDescriptor (TX4 k).2.2.1 = some (tyX4 k) := by decide +kernel
abbrev cX4_init : ByteArray := prog_6_method_1_code
def yX4_init : MethodName := ⟨RX4, "<init>", "()V"⟩
abbrev cX4_setsOut : ByteArray := prog_6_method_2_code
def yX4_setsOut : MethodName := ⟨RX4, "setsOut", "(IIII)V"⟩
abbrev cX4_becomes : ByteArray := prog_6_method_3_code
def yX4_becomes : MethodName := ⟨RX4, "becomes", "(LLongestPast$Past;)V"⟩
abbrev cX4_contextAhead : ByteArray := prog_6_method_4_code
def yX4_contextAhead : MethodName := ⟨RX4, "contextAhead", "(II)I"⟩
def RX5 : String := "LongestPast$Range"
def TX5 : u_T := fun k => match k with
  | 0 => ("LongestPast$Range", "bits", "LLongestPast$Row;", true)
  | 1 => ("LongestPast$Range", "low", "I", false)
  | 2 => ("LongestPast$Range", "high", "I", false)
  | 3 => ("LongestPast$Range", "owed", "I", false)
  | 4 => ("LongestPast$Range", "wanted", "I", false)
  | 5 => ("LongestPast$Range", "reading", "Z", false)
  | 6 => ("LongestPast$Range", "value", "I", false)
  | _ => ("LongestPast$Range", "nextRead", "I", false)
def tyX5 : Nat → FieldType := fun k => match k with
  | 0 => .object "LongestPast$Row"
  | 1 => .int
  | 2 => .int
  | 3 => .int
  | 4 => .int
  | 5 => .boolean
  | 6 => .int
  | _ => .int
abbrev wsX50 : List Cond := u_ws RX5 TX5 8
theorem nmX5 : ∀ a, a < 8 → ∀ b, b < 8 → a ≠ b → (TX5 a).2.1 ≠ (TX5 b).2.1 := by decide +kernel
theorem tyX5_ok : ∀ k, k < 8 → parseFieldDescriptor (TX5 k).2.2.1 = some (tyX5 k) := by decide +kernel
abbrev cX5_init : ByteArray := prog_7_method_1_code
def yX5_init : MethodName := ⟨RX5, "<init>", "()V"⟩
abbrev cX5_startsWriting : ByteArray := prog_7_method_2_code
def yX5_startsWriting : MethodName := ⟨RX5, "startsWriting", "()V"⟩
abbrev cX5_startsReading : ByteArray := prog_7_method_3_code
def yX5_startsReading : MethodName := ⟨RX5, "startsReading", "()V"⟩
abbrev cX5_endsLike : ByteArray := prog_7_method_4_code
def yX5_endsLike : MethodName := ⟨RX5, "endsLike", "(LLongestPast$Range;)V"⟩
abbrev cX5_endedSize : ByteArray := prog_7_method_5_code
def yX5_endedSize : MethodName := ⟨RX5, "endedSize", "()I"⟩
abbrev cX5_wants : ByteArray := prog_7_method_6_code
def yX5_wants : MethodName := ⟨RX5, "wants", "(I)V"⟩
abbrev cX5_chooses : ByteArray := prog_7_method_7_code
def yX5_chooses : MethodName := ⟨RX5, "chooses", "(LLongestPast$Stage;)I"⟩
abbrev cX5_takes : ByteArray := prog_7_method_8_code
def yX5_takes : MethodName := ⟨RX5, "takes", "(III)V"⟩
abbrev cX5_isWhole : ByteArray := prog_7_method_9_code
def yX5_isWhole : MethodName := ⟨RX5, "isWhole", "()V"⟩
abbrev cX5_doubles : ByteArray := prog_7_method_10_code
def yX5_doubles : MethodName := ⟨RX5, "doubles", "(I)V"⟩
abbrev cX5_writesBit : ByteArray := prog_7_method_11_code
def yX5_writesBit : MethodName := ⟨RX5, "writesBit", "(I)V"⟩
def RX6 : String := "LongestPast$Row"
def TX6 : u_T := fun k => match k with
  | 0 => ("LongestPast$Row", "items", "[I", true)
  | _ => ("LongestPast$Row", "size", "I", false)
def tyX6 : Nat → FieldType := fun k => match k with
  | 0 => .array .int
  | _ => .int
abbrev wsX60 : List Cond := u_ws RX6 TX6 2
theorem nmX6 : ∀ a, a < 2 → ∀ b, b < 2 → a ≠ b → (TX6 a).2.1 ≠ (TX6 b).2.1 := by decide +kernel
theorem tyX6_ok : ∀ k, k < 2 → parseFieldDescriptor (TX6 k).2.2.1 = some (tyX6 k) := by decide +kernel
abbrev cX6_init : ByteArray := prog_8_method_1_code
def yX6_init : MethodName := ⟨RX6, "<init>", "(I)V"⟩
abbrev cX6_isFull : ByteArray := prog_8_method_2_code
def yX6_isFull : MethodName := ⟨RX6, "isFull", "()Z"⟩
abbrev cX6_at : ByteArray := prog_8_method_3_code
def yX6_at : MethodName := ⟨RX6, "at", "(I)I"⟩
abbrev cX6_puts : ByteArray := prog_8_method_4_code
def yX6_puts : MethodName := ⟨RX6, "puts", "(I)V"⟩
abbrev cX6_shortens : ByteArray := prog_8_method_5_code
def yX6_shortens : MethodName := ⟨RX6, "shortens", "(I)V"⟩
abbrev cX6_copies : ByteArray := prog_8_method_6_code
def yX6_copies : MethodName := ⟨RX6, "copies", "(LLongestPast$Row;)V"⟩
def RX7 : String := "LongestPast$Stage"
def TX7 : u_T := fun k => match k with
  | 0 => ("LongestPast$Stage", "widths", "[I", true)
  | 1 => ("LongestPast$Stage", "total", "I", false)
  | 2 => ("LongestPast$Stage", "shut", "I", false)
  | _ => ("LongestPast$Stage", "open", "I", false)
def tyX7 : Nat → FieldType := fun k => match k with
  | 0 => .array .int
  | 1 => .int
  | 2 => .int
  | _ => .int
abbrev wsX70 : List Cond := u_ws RX7 TX7 4
theorem nmX7 : ∀ a, a < 4 → ∀ b, b < 4 → a ≠ b → (TX7 a).2.1 ≠ (TX7 b).2.1 := by decide +kernel
theorem tyX7_ok : ∀ k, k < 4 → parseFieldDescriptor (TX7 k).2.2.1 = some (tyX7 k) := by decide +kernel
abbrev cX7_init : ByteArray := prog_9_method_1_code
def yX7_init : MethodName := ⟨RX7, "<init>", "()V"⟩
abbrev cX7_shutsNone : ByteArray := prog_9_method_2_code
def yX7_shutsNone : MethodName := ⟨RX7, "shutsNone", "()V"⟩
abbrev cX7_shutsOpen : ByteArray := prog_9_method_3_code
def yX7_shutsOpen : MethodName := ⟨RX7, "shutsOpen", "()V"⟩
abbrev cX7_shows : ByteArray := prog_9_method_4_code
def yX7_shows : MethodName := ⟨RX7, "shows", "(LLongestPast$Contexts;I)V"⟩
abbrev cX7_width : ByteArray := prog_9_method_5_code
def yX7_width : MethodName := ⟨RX7, "width", "(I)I"⟩
abbrev cX7_beginOf : ByteArray := prog_9_method_6_code
def yX7_beginOf : MethodName := ⟨RX7, "beginOf", "(I)I"⟩
abbrev cX7_choiceFor : ByteArray := prog_9_method_7_code
def yX7_choiceFor : MethodName := ⟨RX7, "choiceFor", "(I)I"⟩
abbrev cX7_choiceAt : ByteArray := prog_9_method_8_code
def yX7_choiceAt : MethodName := ⟨RX7, "choiceAt", "(I)I"⟩
def RX8 : String := "LongestPast$Taker"
def TX8 : u_T := fun k => match k with
  | _ => ("", "", "", false)
def tyX8 : Nat → FieldType := fun k => match k with
  | _ => .int
abbrev wsX80 : List Cond := u_ws RX8 TX8 0
theorem nmX8 : ∀ a, a < 0 → ∀ b, b < 0 → a ≠ b → (TX8 a).2.1 ≠ (TX8 b).2.1 := by decide +kernel
theorem tyX8_ok : ∀ k, k < 0 → parseFieldDescriptor (TX8 k).2.2.1 = some (tyX8 k) := by decide +kernel
abbrev cX8_init : ByteArray := prog_10_method_1_code
def yX8_init : MethodName := ⟨RX8, "<init>", "()V"⟩
def RX9 : String := "LongestPast"
def TX9 : u_T := fun k => match k with
  | 0 => ("LongestPast", "letters", "LLongestPast$Row;", true)
  | 1 => ("LongestPast", "now", "LLongestPast$Packer;", true)
  | 2 => ("LongestPast", "trial", "LLongestPast$Packer;", true)
  | 3 => ("LongestPast", "odds", "LLongestPast$Odds;", true)
  | 4 => ("LongestPast", "history", "LLongestPast$History;", true)
  | 5 => ("LongestPast", "firstImage", "LLongestPast$Past;", true)
  | 6 => ("LongestPast", "secondImage", "LLongestPast$Past;", true)
  | 7 => ("LongestPast", "firstKept", "Z", false)
  | _ => ("LongestPast", "secondKept", "Z", false)
def tyX9 : Nat → FieldType := fun k => match k with
  | 0 => .object "LongestPast$Row"
  | 1 => .object "LongestPast$Packer"
  | 2 => .object "LongestPast$Packer"
  | 3 => .object "LongestPast$Odds"
  | 4 => .object "LongestPast$History"
  | 5 => .object "LongestPast$Past"
  | 6 => .object "LongestPast$Past"
  | 7 => .boolean
  | _ => .boolean
abbrev wsX90 : List Cond := u_ws RX9 TX9 9
theorem nmX9 : ∀ a, a < 9 → ∀ b, b < 9 → a ≠ b → (TX9 a).2.1 ≠ (TX9 b).2.1 := by decide +kernel
theorem tyX9_ok : ∀ k, k < 9 → parseFieldDescriptor (TX9 k).2.2.1 = some (tyX9 k) := by decide +kernel
abbrev cX9_init : ByteArray := prog_1_method_1_code
def yX9_init : MethodName := ⟨RX9, "<init>", "()V"⟩
abbrev cX9_type : ByteArray := prog_1_method_2_code
def yX9_type : MethodName := ⟨RX9, "type", "(I)I"⟩
abbrev cX9_clear : ByteArray := prog_1_method_3_code
def yX9_clear : MethodName := ⟨RX9, "clear", "()I"⟩
abbrev cX9_begins : ByteArray := prog_1_method_4_code
def yX9_begins : MethodName := ⟨RX9, "begins", "(IIII)I"⟩
abbrev cX9_packs : ByteArray := prog_1_method_5_code
def yX9_packs : MethodName := ⟨RX9, "packs", "(I)I"⟩
abbrev cX9_word : ByteArray := prog_1_method_6_code
def yX9_word : MethodName := ⟨RX9, "word", "()I"⟩
abbrev cX9_cuts : ByteArray := prog_1_method_7_code
def yX9_cuts : MethodName := ⟨RX9, "cuts", "(I)I"⟩
abbrev cX9_undo : ByteArray := prog_1_method_8_code
def yX9_undo : MethodName := ⟨RX9, "undo", "()I"⟩
abbrev cX9_sign : ByteArray := prog_1_method_9_code
def yX9_sign : MethodName := ⟨RX9, "sign", "(I)I"⟩
abbrev cX9_count : ByteArray := prog_1_method_10_code
def yX9_count : MethodName := ⟨RX9, "count", "(IIIII)I"⟩
abbrev cX9_bit : ByteArray := prog_1_method_11_code
def yX9_bit : MethodName := ⟨RX9, "bit", "(I)I"⟩
abbrev cX9_chance : ByteArray := prog_1_method_12_code
def yX9_chance : MethodName := ⟨RX9, "chance", "(II)I"⟩
abbrev cX9_escapes : ByteArray := prog_1_method_13_code
def yX9_escapes : MethodName := ⟨RX9, "escapes", "(II)I"⟩
abbrev cX9_likeliest : ByteArray := prog_1_method_14_code
def yX9_likeliest : MethodName := ⟨RX9, "likeliest", "()I"⟩
abbrev cX9_length : ByteArray := prog_1_method_15_code
def yX9_length : MethodName := ⟨RX9, "length", "()I"⟩
abbrev cX9_best : ByteArray := prog_1_method_16_code
def yX9_best : MethodName := ⟨RX9, "best", "()I"⟩
abbrev cX9_unpacked : ByteArray := prog_1_method_17_code
def yX9_unpacked : MethodName := ⟨RX9, "unpacked", "(I)I"⟩
abbrev cX9_agrees : ByteArray := prog_1_method_18_code
def yX9_agrees : MethodName := ⟨RX9, "agrees", "()I"⟩
abbrev cX9_keep : ByteArray := prog_1_method_19_code
def yX9_keep : MethodName := ⟨RX9, "keep", "(I)I"⟩
abbrev cX9_back : ByteArray := prog_1_method_20_code
def yX9_back : MethodName := ⟨RX9, "back", "(I)I"⟩
abbrev cX9_told : ByteArray := prog_1_method_21_code
def yX9_told : MethodName := ⟨RX9, "told", "(I)I"⟩
abbrev cX9_isWithin : ByteArray := prog_1_method_22_code
def yX9_isWithin : MethodName := ⟨RX9, "isWithin", "(III)Z"⟩
abbrev cX9_isSign : ByteArray := prog_1_method_23_code
def yX9_isSign : MethodName := ⟨RX9, "isSign", "(I)Z"⟩
abbrev cX9_isContextSign : ByteArray := prog_1_method_24_code
def yX9_isContextSign : MethodName := ⟨RX9, "isContextSign", "(IZ)Z"⟩
abbrev cX9_longerContext : ByteArray := prog_1_method_25_code
def yX9_longerContext : MethodName := ⟨RX9, "longerContext", "(II)I"⟩
abbrev cX9_firstLetterOutside : ByteArray := prog_1_method_26_code
def yX9_firstLetterOutside : MethodName := ⟨RX9, "firstLetterOutside", "(II)I"⟩
def RX10 : String := "LongestPastModel"
def TX10 : u_T := fun k => match k with
  | 0 => ("LongestPastModel", "now", "[I", true)
  | 1 => ("LongestPastModel", "past", "[I", true)
  | 2 => ("LongestPastModel", "undos", "I", false)
  | 3 => ("LongestPastModel", "images", "[I", true)
  | 4 => ("LongestPastModel", "isKept", "[Z", true)
  | 5 => ("LongestPastModel", "text", "[I", true)
  | 6 => ("LongestPastModel", "letters", "I", false)
  | 7 => ("LongestPastModel", "order", "I", false)
  | 8 => ("LongestPastModel", "run", "[I", true)
  | 9 => ("LongestPastModel", "many", "I", false)
  | 10 => ("LongestPastModel", "counts", "[I", true)
  | 11 => ("LongestPastModel", "forgotten", "I", false)
  | 12 => ("LongestPastModel", "low", "I", false)
  | 13 => ("LongestPastModel", "high", "I", false)
  | 14 => ("LongestPastModel", "owed", "I", false)
  | 15 => ("LongestPastModel", "bits", "[I", true)
  | 16 => ("LongestPastModel", "bitMany", "I", false)
  | 17 => ("LongestPastModel", "mode", "I", false)
  | 18 => ("LongestPastModel", "source", "[I", true)
  | 19 => ("LongestPastModel", "sourceMany", "I", false)
  | 20 => ("LongestPastModel", "sourceAt", "I", false)
  | 21 => ("LongestPastModel", "value", "I", false)
  | 22 => ("LongestPastModel", "upper", "J", false)
  | 23 => ("LongestPastModel", "lower", "J", false)
  | 24 => ("LongestPastModel", "found", "I", false)
  | _ => ("LongestPastModel", "escaped", "I", false)
def tyX10 : Nat → FieldType := fun k => match k with
  | 0 => .array .int
  | 1 => .array .int
  | 2 => .int
  | 3 => .array .int
  | 4 => .array .boolean
  | 5 => .array .int
  | 6 => .int
  | 7 => .int
  | 8 => .array .int
  | 9 => .int
  | 10 => .array .int
  | 11 => .int
  | 12 => .int
  | 13 => .int
  | 14 => .int
  | 15 => .array .int
  | 16 => .int
  | 17 => .int
  | 18 => .array .int
  | 19 => .int
  | 20 => .int
  | 21 => .int
  | 22 => .long
  | 23 => .long
  | 24 => .int
  | _ => .int
abbrev wsX100 : List Cond := u_ws RX10 TX10 26
theorem nmX10 : ∀ a, a < 26 → ∀ b, b < 26 → a ≠ b → (TX10 a).2.1 ≠ (TX10 b).2.1 := by decide +kernel
theorem tyX10_ok : ∀ k, k < 26 → parseFieldDescriptor (TX10 k).2.2.1 = some (tyX10 k) := by decide +kernel
abbrev cX10_init : ByteArray := prog_12_method_1_code
def yX10_init : MethodName := ⟨RX10, "<init>", "()V"⟩
abbrev cX10_within : ByteArray := prog_12_method_3_code
def yX10_within : MethodName := ⟨RX10, "within", "(III)Z"⟩
abbrev cX10_has : ByteArray := prog_12_method_4_code
def yX10_has : MethodName := ⟨RX10, "has", "(II)Z"⟩
abbrev cX10_ones : ByteArray := prog_12_method_5_code
def yX10_ones : MethodName := ⟨RX10, "ones", "(I)I"⟩
abbrev cX10_lesser : ByteArray := prog_12_method_6_code
def yX10_lesser : MethodName := ⟨RX10, "lesser", "(II)I"⟩
abbrev cX10_lays : ByteArray := prog_12_method_7_code
def yX10_lays : MethodName := ⟨RX10, "lays", "(IIII)V"⟩
abbrev cX10_clears : ByteArray := prog_12_method_8_code
def yX10_clears : MethodName := ⟨RX10, "clears", "()V"⟩
abbrev cX10_starts : ByteArray := prog_12_method_9_code
def yX10_starts : MethodName := ⟨RX10, "starts", "(II)V"⟩
abbrev cX10_nextBit : ByteArray := prog_12_method_10_code
def yX10_nextBit : MethodName := ⟨RX10, "nextBit", "()I"⟩
abbrev cX10_puts : ByteArray := prog_12_method_11_code
def yX10_puts : MethodName := ⟨RX10, "puts", "(I)V"⟩
abbrev cX10_widens : ByteArray := prog_12_method_12_code
def yX10_widens : MethodName := ⟨RX10, "widens", "()Z"⟩
abbrev cX10_part : ByteArray := prog_12_method_13_code
def yX10_part : MethodName := ⟨RX10, "part", "(III)V"⟩
abbrev cX10_lies : ByteArray := prog_12_method_14_code
def yX10_lies : MethodName := ⟨RX10, "lies", "(I)I"⟩
abbrev cX10_context : ByteArray := prog_12_method_15_code
def yX10_context : MethodName := ⟨RX10, "context", "(II)I"⟩
abbrev cX10_openAt : ByteArray := prog_12_method_16_code
def yX10_openAt : MethodName := ⟨RX10, "openAt", "(II)I"⟩
abbrev cX10_sum : ByteArray := prog_12_method_17_code
def yX10_sum : MethodName := ⟨RX10, "sum", "(III)I"⟩
abbrev cX10_signAt : ByteArray := prog_12_method_18_code
def yX10_signAt : MethodName := ⟨RX10, "signAt", "(III)I"⟩
abbrev cX10_plain : ByteArray := prog_12_method_19_code
def yX10_plain : MethodName := ⟨RX10, "plain", "(II)I"⟩
abbrev cX10_goes : ByteArray := prog_12_method_20_code
def yX10_goes : MethodName := ⟨RX10, "goes", "(I)I"⟩
abbrev cX10_adds : ByteArray := prog_12_method_21_code
def yX10_adds : MethodName := ⟨RX10, "adds", "(II)V"⟩
abbrev cX10_there : ByteArray := prog_12_method_22_code
def yX10_there : MethodName := ⟨RX10, "there", "()I"⟩
abbrev cX10_forgets : ByteArray := prog_12_method_23_code
def yX10_forgets : MethodName := ⟨RX10, "forgets", "()V"⟩
abbrev cX10_learns : ByteArray := prog_12_method_24_code
def yX10_learns : MethodName := ⟨RX10, "learns", "(I)V"⟩
abbrev cX10_packsAll : ByteArray := prog_12_method_25_code
def yX10_packsAll : MethodName := ⟨RX10, "packsAll", "(I)V"⟩
abbrev cX10_packsNow : ByteArray := prog_12_method_26_code
def yX10_packsNow : MethodName := ⟨RX10, "packsNow", "()V"⟩
abbrev cX10_unpacks : ByteArray := prog_12_method_27_code
def yX10_unpacks : MethodName := ⟨RX10, "unpacks", "(I)V"⟩
abbrev cX10_ended : ByteArray := prog_12_method_28_code
def yX10_ended : MethodName := ⟨RX10, "ended", "()I"⟩
abbrev cX10_type : ByteArray := prog_12_method_29_code
def yX10_type : MethodName := ⟨RX10, "type", "(I)I"⟩
abbrev cX10_clear : ByteArray := prog_12_method_30_code
def yX10_clear : MethodName := ⟨RX10, "clear", "()I"⟩
abbrev cX10_keeps : ByteArray := prog_12_method_31_code
def yX10_keeps : MethodName := ⟨RX10, "keeps", "()V"⟩
abbrev cX10_begins : ByteArray := prog_12_method_32_code
def yX10_begins : MethodName := ⟨RX10, "begins", "(IIII)I"⟩
abbrev cX10_appends : ByteArray := prog_12_method_33_code
def yX10_appends : MethodName := ⟨RX10, "appends", "(I)V"⟩
abbrev cX10_packs : ByteArray := prog_12_method_34_code
def yX10_packs : MethodName := ⟨RX10, "packs", "(I)I"⟩
abbrev cX10_wrongLetter : ByteArray := prog_12_method_35_code
def yX10_wrongLetter : MethodName := ⟨RX10, "wrongLetter", "(II)I"⟩
abbrev cX10_word : ByteArray := prog_12_method_36_code
def yX10_word : MethodName := ⟨RX10, "word", "()I"⟩
abbrev cX10_cuts : ByteArray := prog_12_method_37_code
def yX10_cuts : MethodName := ⟨RX10, "cuts", "(I)I"⟩
abbrev cX10_undo : ByteArray := prog_12_method_38_code
def yX10_undo : MethodName := ⟨RX10, "undo", "()I"⟩
abbrev cX10_sign : ByteArray := prog_12_method_39_code
def yX10_sign : MethodName := ⟨RX10, "sign", "(I)I"⟩
abbrev cX10_isSign : ByteArray := prog_12_method_40_code
def yX10_isSign : MethodName := ⟨RX10, "isSign", "(I)Z"⟩
abbrev cX10_countOf : ByteArray := prog_12_method_41_code
def yX10_countOf : MethodName := ⟨RX10, "countOf", "(II)I"⟩
abbrev cX10_count : ByteArray := prog_12_method_42_code
def yX10_count : MethodName := ⟨RX10, "count", "(IIIII)I"⟩
abbrev cX10_bit : ByteArray := prog_12_method_43_code
def yX10_bit : MethodName := ⟨RX10, "bit", "(I)I"⟩
abbrev cX10_common : ByteArray := prog_12_method_44_code
def yX10_common : MethodName := ⟨RX10, "common", "(JJ)J"⟩
abbrev cX10_weighs : ByteArray := prog_12_method_45_code
def yX10_weighs : MethodName := ⟨RX10, "weighs", "(I)V"⟩
abbrev cX10_chance : ByteArray := prog_12_method_46_code
def yX10_chance : MethodName := ⟨RX10, "chance", "(II)I"⟩
abbrev cX10_escapes : ByteArray := prog_12_method_47_code
def yX10_escapes : MethodName := ⟨RX10, "escapes", "(II)I"⟩
abbrev cX10_likeliest : ByteArray := prog_12_method_48_code
def yX10_likeliest : MethodName := ⟨RX10, "likeliest", "()I"⟩
abbrev cX10_length : ByteArray := prog_12_method_49_code
def yX10_length : MethodName := ⟨RX10, "length", "()I"⟩
abbrev cX10_best : ByteArray := prog_12_method_50_code
def yX10_best : MethodName := ⟨RX10, "best", "()I"⟩
abbrev cX10_unpacked : ByteArray := prog_12_method_51_code
def yX10_unpacked : MethodName := ⟨RX10, "unpacked", "(I)I"⟩
abbrev cX10_agrees : ByteArray := prog_12_method_52_code
def yX10_agrees : MethodName := ⟨RX10, "agrees", "()I"⟩
abbrev cX10_keep : ByteArray := prog_12_method_53_code
def yX10_keep : MethodName := ⟨RX10, "keep", "(I)I"⟩
abbrev cX10_back : ByteArray := prog_12_method_54_code
def yX10_back : MethodName := ⟨RX10, "back", "(I)I"⟩
abbrev cX10_tellNow : ByteArray := prog_12_method_55_code
def yX10_tellNow : MethodName := ⟨RX10, "tellNow", "(I)I"⟩
abbrev cX10_told : ByteArray := prog_12_method_56_code
def yX10_told : MethodName := ⟨RX10, "told", "(I)I"⟩
def RJ6 : String := "java/lang/Integer"
def TJ6 : u_T := fun k => match k with
  | _ => ("", "", "", false)
def tyJ6 : Nat → FieldType := fun k => match k with
  | _ => .int
abbrev wsJ60 : List Cond := u_ws RJ6 TJ6 0
theorem nmJ6 : ∀ a, a < 0 → ∀ b, b < 0 → a ≠ b → (TJ6 a).2.1 ≠ (TJ6 b).2.1 := by decide +kernel
theorem tyJ6_ok : ∀ k, k < 0 → parseFieldDescriptor (TJ6 k).2.2.1 = some (tyJ6 k) := by decide +kernel
abbrev cJ6_bitCount_0f7a4 : ByteArray := prog_13_method_49_code
def yJ6_bitCount_0f7a4 : MethodName := ⟨RJ6, "bitCount", "(I)I"⟩
def RJ9 : String := "java/lang/Math"
def TJ9 : u_T := fun k => match k with
  | _ => ("", "", "", false)
def tyJ9 : Nat → FieldType := fun k => match k with
  | _ => .int
abbrev wsJ90 : List Cond := u_ws RJ9 TJ9 0
theorem nmJ9 : ∀ a, a < 0 → ∀ b, b < 0 → a ≠ b → (TJ9 a).2.1 ≠ (TJ9 b).2.1 := by decide +kernel
theorem tyJ9_ok : ∀ k, k < 0 → parseFieldDescriptor (TJ9 k).2.2.1 = some (tyJ9 k) := by decide +kernel
abbrev cJ9_max_7cf53 : ByteArray := prog_14_method_65_code
def yJ9_max_7cf53 : MethodName := ⟨RJ9, "max", "(II)I"⟩
abbrev cJ9_min_7cf53 : ByteArray := prog_14_method_69_code
def yJ9_min_7cf53 : MethodName := ⟨RJ9, "min", "(II)I"⟩
def RL : String := "LongestPastLaw"
abbrev cL_law : ByteArray := code
def yL_law : MethodName := ⟨RL, "law", "([I)Z"⟩
abbrev vwCl : List vw_C := [(RX0, TX0, 2), (RX1, TX1, 3), (RX2, TX2, 4), (RX3, TX3, 7), (RX4, TX4, 5), (RX5, TX5, 8), (RX6, TX6, 2), (RX7, TX7, 4), (RX9, TX9, 9), (RX10, TX10, 26)]
end
section
theorem dX0_init_0 : decode cX0_init 0 = .ok (.aload_n 0, 1) := by decide +kernel
theorem dX0_init_1 : decode cX0_init 1 = .ok (.invokespecial 3, 3) := by decide +kernel
theorem dX0_init_4 : decode cX0_init 4 = .ok (.aload_n 0, 1) := by decide +kernel
theorem dX0_init_5 : decode cX0_init 5 = .ok (.sipush 340, 3) := by decide +kernel
theorem dX0_init_8 : decode cX0_init 8 = .ok (.newarray .int, 2) := by decide +kernel
theorem dX0_init_10 : decode cX0_init 10 = .ok (.putfield 9, 3) := by decide +kernel
theorem dX0_init_13 : decode cX0_init 13 = .ok (.aload_n 0, 1) := by decide +kernel
theorem dX0_init_14 : decode cX0_init 14 = .ok (.iconst 0, 1) := by decide +kernel
theorem dX0_init_15 : decode cX0_init 15 = .ok (.putfield 15, 3) := by decide +kernel
theorem dX0_init_18 : decode cX0_init 18 = .ok (.return_, 1) := by decide +kernel
theorem dX0_empties_0 : decode cX0_empties 0 = .ok (.iconst 0, 1) := by decide +kernel
theorem dX0_empties_1 : decode cX0_empties 1 = .ok (.istore_n 1, 1) := by decide +kernel
theorem dX0_empties_2 : decode cX0_empties 2 = .ok (.iload_n 1, 1) := by decide +kernel
theorem dX0_empties_3 : decode cX0_empties 3 = .ok (.aload_n 0, 1) := by decide +kernel
theorem dX0_empties_4 : decode cX0_empties 4 = .ok (.getfield 9, 3) := by decide +kernel
theorem dX0_empties_7 : decode cX0_empties 7 = .ok (.arraylength, 1) := by decide +kernel
theorem dX0_empties_8 : decode cX0_empties 8 = .ok (.if_icmp .ge 16, 3) := by decide +kernel
theorem dX0_empties_11 : decode cX0_empties 11 = .ok (.aload_n 0, 1) := by decide +kernel
theorem dX0_empties_12 : decode cX0_empties 12 = .ok (.getfield 9, 3) := by decide +kernel
theorem dX0_empties_15 : decode cX0_empties 15 = .ok (.iload_n 1, 1) := by decide +kernel
theorem dX0_empties_16 : decode cX0_empties 16 = .ok (.iconst 0, 1) := by decide +kernel
theorem dX0_empties_17 : decode cX0_empties 17 = .ok (.iastore, 1) := by decide +kernel
theorem dX0_empties_18 : decode cX0_empties 18 = .ok (.iinc 1 1, 3) := by decide +kernel
theorem dX0_empties_21 : decode cX0_empties 21 = .ok (.goto (-19), 3) := by decide +kernel
theorem dX0_empties_24 : decode cX0_empties 24 = .ok (.aload_n 0, 1) := by decide +kernel
theorem dX0_empties_25 : decode cX0_empties 25 = .ok (.iconst 0, 1) := by decide +kernel
theorem dX0_empties_26 : decode cX0_empties 26 = .ok (.putfield 15, 3) := by decide +kernel
theorem dX0_empties_29 : decode cX0_empties 29 = .ok (.return_, 1) := by decide +kernel
theorem dX0_at_0 : decode cX0_at 0 = .ok (.iconst 4, 1) := by decide +kernel
theorem dX0_at_1 : decode cX0_at 1 = .ok (.iload_n 1, 1) := by decide +kernel
theorem dX0_at_2 : decode cX0_at 2 = .ok (.imul, 1) := by decide +kernel
theorem dX0_at_3 : decode cX0_at 3 = .ok (.iload_n 2, 1) := by decide +kernel
theorem dX0_at_4 : decode cX0_at 4 = .ok (.iadd, 1) := by decide +kernel
theorem dX0_at_5 : decode cX0_at 5 = .ok (.istore_n 3, 1) := by decide +kernel
theorem dX0_at_6 : decode cX0_at 6 = .ok (.iload_n 3, 1) := by decide +kernel
theorem dX0_at_7 : decode cX0_at 7 = .ok (.ifCond .lt 21, 3) := by decide +kernel
theorem dX0_at_10 : decode cX0_at 10 = .ok (.iload_n 3, 1) := by decide +kernel
theorem dX0_at_11 : decode cX0_at 11 = .ok (.aload_n 0, 1) := by decide +kernel
theorem dX0_at_12 : decode cX0_at 12 = .ok (.getfield 9, 3) := by decide +kernel
theorem dX0_at_15 : decode cX0_at 15 = .ok (.arraylength, 1) := by decide +kernel
theorem dX0_at_16 : decode cX0_at 16 = .ok (.if_icmp .ge 12, 3) := by decide +kernel
theorem dX0_at_19 : decode cX0_at 19 = .ok (.aload_n 0, 1) := by decide +kernel
theorem dX0_at_20 : decode cX0_at 20 = .ok (.getfield 9, 3) := by decide +kernel
theorem dX0_at_23 : decode cX0_at 23 = .ok (.iload_n 3, 1) := by decide +kernel
theorem dX0_at_24 : decode cX0_at 24 = .ok (.iaload, 1) := by decide +kernel
theorem dX0_at_25 : decode cX0_at 25 = .ok (.goto 4, 3) := by decide +kernel
theorem dX0_at_28 : decode cX0_at 28 = .ok (.iconst 0, 1) := by decide +kernel
theorem dX0_at_29 : decode cX0_at 29 = .ok (.ireturn, 1) := by decide +kernel
theorem dX0_raises_0 : decode cX0_raises 0 = .ok (.iconst 4, 1) := by decide +kernel
theorem dX0_raises_1 : decode cX0_raises 1 = .ok (.iload_n 1, 1) := by decide +kernel
theorem dX0_raises_2 : decode cX0_raises 2 = .ok (.imul, 1) := by decide +kernel
theorem dX0_raises_3 : decode cX0_raises 3 = .ok (.istore 4, 2) := by decide +kernel
theorem dX0_raises_5 : decode cX0_raises 5 = .ok (.iload 4, 2) := by decide +kernel
theorem dX0_raises_7 : decode cX0_raises 7 = .ok (.ifCond .lt 24, 3) := by decide +kernel
theorem dX0_raises_10 : decode cX0_raises 10 = .ok (.iload 4, 2) := by decide +kernel
theorem dX0_raises_12 : decode cX0_raises 12 = .ok (.aload_n 0, 1) := by decide +kernel
theorem dX0_raises_13 : decode cX0_raises 13 = .ok (.getfield 9, 3) := by decide +kernel
theorem dX0_raises_16 : decode cX0_raises 16 = .ok (.arraylength, 1) := by decide +kernel
theorem dX0_raises_17 : decode cX0_raises 17 = .ok (.iconst 4, 1) := by decide +kernel
theorem dX0_raises_18 : decode cX0_raises 18 = .ok (.isub, 1) := by decide +kernel
theorem dX0_raises_19 : decode cX0_raises 19 = .ok (.if_icmp .gt 12, 3) := by decide +kernel
theorem dX0_raises_22 : decode cX0_raises 22 = .ok (.iload_n 2, 1) := by decide +kernel
theorem dX0_raises_23 : decode cX0_raises 23 = .ok (.ifCond .lt 8, 3) := by decide +kernel
theorem dX0_raises_26 : decode cX0_raises 26 = .ok (.iload_n 2, 1) := by decide +kernel
theorem dX0_raises_27 : decode cX0_raises 27 = .ok (.iconst 4, 1) := by decide +kernel
theorem dX0_raises_28 : decode cX0_raises 28 = .ok (.if_icmp .lt 4, 3) := by decide +kernel
theorem dX0_raises_31 : decode cX0_raises 31 = .ok (.return_, 1) := by decide +kernel
theorem dX0_raises_32 : decode cX0_raises 32 = .ok (.iconst 0, 1) := by decide +kernel
theorem dX0_raises_33 : decode cX0_raises 33 = .ok (.istore 5, 2) := by decide +kernel
theorem dX0_raises_35 : decode cX0_raises 35 = .ok (.iload 4, 2) := by decide +kernel
theorem dX0_raises_37 : decode cX0_raises 37 = .ok (.istore 6, 2) := by decide +kernel
theorem dX0_raises_39 : decode cX0_raises 39 = .ok (.iload 6, 2) := by decide +kernel
theorem dX0_raises_41 : decode cX0_raises 41 = .ok (.iload 4, 2) := by decide +kernel
theorem dX0_raises_43 : decode cX0_raises 43 = .ok (.iconst 4, 1) := by decide +kernel
theorem dX0_raises_44 : decode cX0_raises 44 = .ok (.iadd, 1) := by decide +kernel
theorem dX0_raises_45 : decode cX0_raises 45 = .ok (.if_icmp .ge 21, 3) := by decide +kernel
theorem dX0_raises_48 : decode cX0_raises 48 = .ok (.iload 5, 2) := by decide +kernel
theorem dX0_raises_50 : decode cX0_raises 50 = .ok (.aload_n 0, 1) := by decide +kernel
theorem dX0_raises_51 : decode cX0_raises 51 = .ok (.getfield 9, 3) := by decide +kernel
theorem dX0_raises_54 : decode cX0_raises 54 = .ok (.iload 6, 2) := by decide +kernel
theorem dX0_raises_56 : decode cX0_raises 56 = .ok (.iaload, 1) := by decide +kernel
theorem dX0_raises_57 : decode cX0_raises 57 = .ok (.iadd, 1) := by decide +kernel
theorem dX0_raises_58 : decode cX0_raises 58 = .ok (.istore 5, 2) := by decide +kernel
theorem dX0_raises_60 : decode cX0_raises 60 = .ok (.iinc 6 1, 3) := by decide +kernel
theorem dX0_raises_63 : decode cX0_raises 63 = .ok (.goto (-24), 3) := by decide +kernel
theorem dX0_raises_66 : decode cX0_raises 66 = .ok (.iload 5, 2) := by decide +kernel
theorem dX0_raises_68 : decode cX0_raises 68 = .ok (.ifCond .ne 13, 3) := by decide +kernel
theorem dX0_raises_71 : decode cX0_raises 71 = .ok (.aload_n 0, 1) := by decide +kernel
theorem dX0_raises_72 : decode cX0_raises 72 = .ok (.dup, 1) := by decide +kernel
theorem dX0_raises_73 : decode cX0_raises 73 = .ok (.getfield 15, 3) := by decide +kernel
theorem dX0_raises_76 : decode cX0_raises 76 = .ok (.iconst 1, 1) := by decide +kernel
theorem dX0_raises_77 : decode cX0_raises 77 = .ok (.iadd, 1) := by decide +kernel
theorem dX0_raises_78 : decode cX0_raises 78 = .ok (.putfield 15, 3) := by decide +kernel
theorem dX0_raises_81 : decode cX0_raises 81 = .ok (.aload_n 0, 1) := by decide +kernel
theorem dX0_raises_82 : decode cX0_raises 82 = .ok (.getfield 9, 3) := by decide +kernel
theorem dX0_raises_85 : decode cX0_raises 85 = .ok (.iload 4, 2) := by decide +kernel
theorem dX0_raises_87 : decode cX0_raises 87 = .ok (.iload_n 2, 1) := by decide +kernel
theorem dX0_raises_88 : decode cX0_raises 88 = .ok (.iadd, 1) := by decide +kernel
theorem dX0_raises_89 : decode cX0_raises 89 = .ok (.dup2, 1) := by decide +kernel
theorem dX0_raises_90 : decode cX0_raises 90 = .ok (.iaload, 1) := by decide +kernel
theorem dX0_raises_91 : decode cX0_raises 91 = .ok (.iconst 1, 1) := by decide +kernel
theorem dX0_raises_92 : decode cX0_raises 92 = .ok (.iadd, 1) := by decide +kernel
theorem dX0_raises_93 : decode cX0_raises 93 = .ok (.iastore, 1) := by decide +kernel
theorem dX0_raises_94 : decode cX0_raises 94 = .ok (.aload_n 0, 1) := by decide +kernel
theorem dX0_raises_95 : decode cX0_raises 95 = .ok (.getfield 9, 3) := by decide +kernel
theorem dX0_raises_98 : decode cX0_raises 98 = .ok (.iload 4, 2) := by decide +kernel
theorem dX0_raises_100 : decode cX0_raises 100 = .ok (.iload_n 2, 1) := by decide +kernel
theorem dX0_raises_101 : decode cX0_raises 101 = .ok (.iadd, 1) := by decide +kernel
theorem dX0_raises_102 : decode cX0_raises 102 = .ok (.iaload, 1) := by decide +kernel
theorem dX0_raises_103 : decode cX0_raises 103 = .ok (.iload_n 3, 1) := by decide +kernel
theorem dX0_raises_104 : decode cX0_raises 104 = .ok (.if_icmp .eq 4, 3) := by decide +kernel
theorem dX0_raises_107 : decode cX0_raises 107 = .ok (.return_, 1) := by decide +kernel
theorem dX0_raises_108 : decode cX0_raises 108 = .ok (.iload 4, 2) := by decide +kernel
theorem dX0_raises_110 : decode cX0_raises 110 = .ok (.istore 6, 2) := by decide +kernel
theorem dX0_raises_112 : decode cX0_raises 112 = .ok (.iload 6, 2) := by decide +kernel
theorem dX0_raises_114 : decode cX0_raises 114 = .ok (.iload 4, 2) := by decide +kernel
theorem dX0_raises_116 : decode cX0_raises 116 = .ok (.iconst 4, 1) := by decide +kernel
theorem dX0_raises_117 : decode cX0_raises 117 = .ok (.iadd, 1) := by decide +kernel
theorem dX0_raises_118 : decode cX0_raises 118 = .ok (.if_icmp .ge 20, 3) := by decide +kernel
theorem dX0_raises_121 : decode cX0_raises 121 = .ok (.aload_n 0, 1) := by decide +kernel
theorem dX0_raises_122 : decode cX0_raises 122 = .ok (.getfield 9, 3) := by decide +kernel
theorem dX0_raises_125 : decode cX0_raises 125 = .ok (.iload 6, 2) := by decide +kernel
theorem dX0_raises_127 : decode cX0_raises 127 = .ok (.dup2, 1) := by decide +kernel
theorem dX0_raises_128 : decode cX0_raises 128 = .ok (.iaload, 1) := by decide +kernel
theorem dX0_raises_129 : decode cX0_raises 129 = .ok (.iconst 2, 1) := by decide +kernel
theorem dX0_raises_130 : decode cX0_raises 130 = .ok (.idiv, 1) := by decide +kernel
theorem dX0_raises_131 : decode cX0_raises 131 = .ok (.iastore, 1) := by decide +kernel
theorem dX0_raises_132 : decode cX0_raises 132 = .ok (.iinc 6 1, 3) := by decide +kernel
theorem dX0_raises_135 : decode cX0_raises 135 = .ok (.goto (-23), 3) := by decide +kernel
theorem dX0_raises_138 : decode cX0_raises 138 = .ok (.return_, 1) := by decide +kernel
theorem dX1_init_0 : decode cX1_init 0 = .ok (.aload_n 0, 1) := by decide +kernel
theorem dX1_init_1 : decode cX1_init 1 = .ok (.invokespecial 3, 3) := by decide +kernel
theorem dX1_init_4 : decode cX1_init 4 = .ok (.aload_n 0, 1) := by decide +kernel
theorem dX1_init_5 : decode cX1_init 5 = .ok (.bipush 6, 2) := by decide +kernel
theorem dX1_init_7 : decode cX1_init 7 = .ok (.anewarray 9, 3) := by decide +kernel
theorem dX1_init_10 : decode cX1_init 10 = .ok (.putfield 11, 3) := by decide +kernel
theorem dX1_init_13 : decode cX1_init 13 = .ok (.aload_n 0, 1) := by decide +kernel
theorem dX1_init_14 : decode cX1_init 14 = .ok (.iconst 0, 1) := by decide +kernel
theorem dX1_init_15 : decode cX1_init 15 = .ok (.putfield 17, 3) := by decide +kernel
theorem dX1_init_18 : decode cX1_init 18 = .ok (.aload_n 0, 1) := by decide +kernel
theorem dX1_init_19 : decode cX1_init 19 = .ok (.iconst 0, 1) := by decide +kernel
theorem dX1_init_20 : decode cX1_init 20 = .ok (.putfield 21, 3) := by decide +kernel
theorem dX1_init_23 : decode cX1_init 23 = .ok (.iconst 0, 1) := by decide +kernel
theorem dX1_init_24 : decode cX1_init 24 = .ok (.istore_n 1, 1) := by decide +kernel
theorem dX1_init_25 : decode cX1_init 25 = .ok (.iload_n 1, 1) := by decide +kernel
theorem dX1_init_26 : decode cX1_init 26 = .ok (.aload_n 0, 1) := by decide +kernel
theorem dX1_init_27 : decode cX1_init 27 = .ok (.getfield 11, 3) := by decide +kernel
theorem dX1_init_30 : decode cX1_init 30 = .ok (.arraylength, 1) := by decide +kernel
theorem dX1_init_31 : decode cX1_init 31 = .ok (.if_icmp .ge 22, 3) := by decide +kernel
theorem dX1_init_34 : decode cX1_init 34 = .ok (.aload_n 0, 1) := by decide +kernel
theorem dX1_init_35 : decode cX1_init 35 = .ok (.getfield 11, 3) := by decide +kernel
theorem dX1_init_38 : decode cX1_init 38 = .ok (.iload_n 1, 1) := by decide +kernel
theorem dX1_init_39 : decode cX1_init 39 = .ok (.new 9, 3) := by decide +kernel
theorem dX1_init_42 : decode cX1_init 42 = .ok (.dup, 1) := by decide +kernel
theorem dX1_init_43 : decode cX1_init 43 = .ok (.invokespecial 24, 3) := by decide +kernel
theorem dX1_init_46 : decode cX1_init 46 = .ok (.aastore, 1) := by decide +kernel
theorem dX1_init_47 : decode cX1_init 47 = .ok (.iinc 1 1, 3) := by decide +kernel
theorem dX1_init_50 : decode cX1_init 50 = .ok (.goto (-25), 3) := by decide +kernel
theorem dX1_init_53 : decode cX1_init 53 = .ok (.return_, 1) := by decide +kernel
theorem dX1_remembers_0 : decode cX1_remembers 0 = .ok (.aload_n 0, 1) := by decide +kernel
theorem dX1_remembers_1 : decode cX1_remembers 1 = .ok (.getfield 17, 3) := by decide +kernel
theorem dX1_remembers_4 : decode cX1_remembers 4 = .ok (.ifCond .lt 27, 3) := by decide +kernel
theorem dX1_remembers_7 : decode cX1_remembers 7 = .ok (.aload_n 0, 1) := by decide +kernel
theorem dX1_remembers_8 : decode cX1_remembers 8 = .ok (.getfield 17, 3) := by decide +kernel
theorem dX1_remembers_11 : decode cX1_remembers 11 = .ok (.aload_n 0, 1) := by decide +kernel
theorem dX1_remembers_12 : decode cX1_remembers 12 = .ok (.getfield 11, 3) := by decide +kernel
theorem dX1_remembers_15 : decode cX1_remembers 15 = .ok (.arraylength, 1) := by decide +kernel
theorem dX1_remembers_16 : decode cX1_remembers 16 = .ok (.if_icmp .ge 15, 3) := by decide +kernel
theorem dX1_remembers_19 : decode cX1_remembers 19 = .ok (.aload_n 0, 1) := by decide +kernel
theorem dX1_remembers_20 : decode cX1_remembers 20 = .ok (.getfield 11, 3) := by decide +kernel
theorem dX1_remembers_23 : decode cX1_remembers 23 = .ok (.aload_n 0, 1) := by decide +kernel
theorem dX1_remembers_24 : decode cX1_remembers 24 = .ok (.getfield 17, 3) := by decide +kernel
theorem dX1_remembers_27 : decode cX1_remembers 27 = .ok (.aaload, 1) := by decide +kernel
theorem dX1_remembers_28 : decode cX1_remembers 28 = .ok (.ifnonnull 4, 3) := by decide +kernel
theorem dX1_remembers_31 : decode cX1_remembers 31 = .ok (.return_, 1) := by decide +kernel
theorem dX1_remembers_32 : decode cX1_remembers 32 = .ok (.aload_n 0, 1) := by decide +kernel
theorem dX1_remembers_33 : decode cX1_remembers 33 = .ok (.getfield 11, 3) := by decide +kernel
theorem dX1_remembers_36 : decode cX1_remembers 36 = .ok (.aload_n 0, 1) := by decide +kernel
theorem dX1_remembers_37 : decode cX1_remembers 37 = .ok (.getfield 17, 3) := by decide +kernel
theorem dX1_remembers_40 : decode cX1_remembers 40 = .ok (.aaload, 1) := by decide +kernel
theorem dX1_remembers_41 : decode cX1_remembers 41 = .ok (.aload_n 1, 1) := by decide +kernel
theorem dX1_remembers_42 : decode cX1_remembers 42 = .ok (.invokevirtual 25, 3) := by decide +kernel
theorem dX1_remembers_45 : decode cX1_remembers 45 = .ok (.aload_n 0, 1) := by decide +kernel
theorem dX1_remembers_46 : decode cX1_remembers 46 = .ok (.aload_n 0, 1) := by decide +kernel
theorem dX1_remembers_47 : decode cX1_remembers 47 = .ok (.getfield 17, 3) := by decide +kernel
theorem dX1_remembers_50 : decode cX1_remembers 50 = .ok (.iconst 1, 1) := by decide +kernel
theorem dX1_remembers_51 : decode cX1_remembers 51 = .ok (.iadd, 1) := by decide +kernel
theorem dX1_remembers_52 : decode cX1_remembers 52 = .ok (.aload_n 0, 1) := by decide +kernel
theorem dX1_remembers_53 : decode cX1_remembers 53 = .ok (.getfield 11, 3) := by decide +kernel
theorem dX1_remembers_56 : decode cX1_remembers 56 = .ok (.arraylength, 1) := by decide +kernel
theorem dX1_remembers_57 : decode cX1_remembers 57 = .ok (.if_icmp .ge 12, 3) := by decide +kernel
theorem dX1_remembers_60 : decode cX1_remembers 60 = .ok (.aload_n 0, 1) := by decide +kernel
theorem dX1_remembers_61 : decode cX1_remembers 61 = .ok (.getfield 17, 3) := by decide +kernel
theorem dX1_remembers_64 : decode cX1_remembers 64 = .ok (.iconst 1, 1) := by decide +kernel
theorem dX1_remembers_65 : decode cX1_remembers 65 = .ok (.iadd, 1) := by decide +kernel
theorem dX1_remembers_66 : decode cX1_remembers 66 = .ok (.goto 4, 3) := by decide +kernel
theorem dX1_remembers_69 : decode cX1_remembers 69 = .ok (.iconst 0, 1) := by decide +kernel
theorem dX1_remembers_70 : decode cX1_remembers 70 = .ok (.putfield 17, 3) := by decide +kernel
theorem dX1_remembers_73 : decode cX1_remembers 73 = .ok (.aload_n 0, 1) := by decide +kernel
theorem dX1_remembers_74 : decode cX1_remembers 74 = .ok (.aload_n 0, 1) := by decide +kernel
theorem dX1_remembers_75 : decode cX1_remembers 75 = .ok (.getfield 21, 3) := by decide +kernel
theorem dX1_remembers_78 : decode cX1_remembers 78 = .ok (.iconst 1, 1) := by decide +kernel
theorem dX1_remembers_79 : decode cX1_remembers 79 = .ok (.iadd, 1) := by decide +kernel
theorem dX1_remembers_80 : decode cX1_remembers 80 = .ok (.aload_n 0, 1) := by decide +kernel
theorem dX1_remembers_81 : decode cX1_remembers 81 = .ok (.getfield 11, 3) := by decide +kernel
theorem dX1_remembers_84 : decode cX1_remembers 84 = .ok (.arraylength, 1) := by decide +kernel
theorem dX1_remembers_85 : decode cX1_remembers 85 = .ok (.invokestatic 29, 3) := by decide +kernel
theorem dX1_remembers_88 : decode cX1_remembers 88 = .ok (.putfield 21, 3) := by decide +kernel
theorem dX1_remembers_91 : decode cX1_remembers 91 = .ok (.return_, 1) := by decide +kernel
theorem dX1_recalls_0 : decode cX1_recalls 0 = .ok (.aload_n 0, 1) := by decide +kernel
theorem dX1_recalls_1 : decode cX1_recalls 1 = .ok (.getfield 21, 3) := by decide +kernel
theorem dX1_recalls_4 : decode cX1_recalls 4 = .ok (.ifCond .gt 4, 3) := by decide +kernel
theorem dX1_recalls_7 : decode cX1_recalls 7 = .ok (.return_, 1) := by decide +kernel
theorem dX1_recalls_8 : decode cX1_recalls 8 = .ok (.aload_n 0, 1) := by decide +kernel
theorem dX1_recalls_9 : decode cX1_recalls 9 = .ok (.getfield 17, 3) := by decide +kernel
theorem dX1_recalls_12 : decode cX1_recalls 12 = .ok (.ifCond .le 12, 3) := by decide +kernel
theorem dX1_recalls_15 : decode cX1_recalls 15 = .ok (.aload_n 0, 1) := by decide +kernel
theorem dX1_recalls_16 : decode cX1_recalls 16 = .ok (.getfield 17, 3) := by decide +kernel
theorem dX1_recalls_19 : decode cX1_recalls 19 = .ok (.iconst 1, 1) := by decide +kernel
theorem dX1_recalls_20 : decode cX1_recalls 20 = .ok (.isub, 1) := by decide +kernel
theorem dX1_recalls_21 : decode cX1_recalls 21 = .ok (.goto 10, 3) := by decide +kernel
theorem dX1_recalls_24 : decode cX1_recalls 24 = .ok (.aload_n 0, 1) := by decide +kernel
theorem dX1_recalls_25 : decode cX1_recalls 25 = .ok (.getfield 11, 3) := by decide +kernel
theorem dX1_recalls_28 : decode cX1_recalls 28 = .ok (.arraylength, 1) := by decide +kernel
theorem dX1_recalls_29 : decode cX1_recalls 29 = .ok (.iconst 1, 1) := by decide +kernel
theorem dX1_recalls_30 : decode cX1_recalls 30 = .ok (.isub, 1) := by decide +kernel
theorem dX1_recalls_31 : decode cX1_recalls 31 = .ok (.istore_n 2, 1) := by decide +kernel
theorem dX1_recalls_32 : decode cX1_recalls 32 = .ok (.iload_n 2, 1) := by decide +kernel
theorem dX1_recalls_33 : decode cX1_recalls 33 = .ok (.ifCond .lt 21, 3) := by decide +kernel
theorem dX1_recalls_36 : decode cX1_recalls 36 = .ok (.iload_n 2, 1) := by decide +kernel
theorem dX1_recalls_37 : decode cX1_recalls 37 = .ok (.aload_n 0, 1) := by decide +kernel
theorem dX1_recalls_38 : decode cX1_recalls 38 = .ok (.getfield 11, 3) := by decide +kernel
theorem dX1_recalls_41 : decode cX1_recalls 41 = .ok (.arraylength, 1) := by decide +kernel
theorem dX1_recalls_42 : decode cX1_recalls 42 = .ok (.if_icmp .ge 12, 3) := by decide +kernel
theorem dX1_recalls_45 : decode cX1_recalls 45 = .ok (.aload_n 0, 1) := by decide +kernel
theorem dX1_recalls_46 : decode cX1_recalls 46 = .ok (.getfield 11, 3) := by decide +kernel
theorem dX1_recalls_49 : decode cX1_recalls 49 = .ok (.iload_n 2, 1) := by decide +kernel
theorem dX1_recalls_50 : decode cX1_recalls 50 = .ok (.aaload, 1) := by decide +kernel
theorem dX1_recalls_51 : decode cX1_recalls 51 = .ok (.ifnonnull 4, 3) := by decide +kernel
theorem dX1_recalls_54 : decode cX1_recalls 54 = .ok (.return_, 1) := by decide +kernel
theorem dX1_recalls_55 : decode cX1_recalls 55 = .ok (.aload_n 1, 1) := by decide +kernel
theorem dX1_recalls_56 : decode cX1_recalls 56 = .ok (.aload_n 0, 1) := by decide +kernel
theorem dX1_recalls_57 : decode cX1_recalls 57 = .ok (.getfield 11, 3) := by decide +kernel
theorem dX1_recalls_60 : decode cX1_recalls 60 = .ok (.iload_n 2, 1) := by decide +kernel
theorem dX1_recalls_61 : decode cX1_recalls 61 = .ok (.aaload, 1) := by decide +kernel
theorem dX1_recalls_62 : decode cX1_recalls 62 = .ok (.invokevirtual 25, 3) := by decide +kernel
theorem dX1_recalls_65 : decode cX1_recalls 65 = .ok (.aload_n 0, 1) := by decide +kernel
theorem dX1_recalls_66 : decode cX1_recalls 66 = .ok (.iload_n 2, 1) := by decide +kernel
theorem dX1_recalls_67 : decode cX1_recalls 67 = .ok (.putfield 17, 3) := by decide +kernel
theorem dX1_recalls_70 : decode cX1_recalls 70 = .ok (.aload_n 0, 1) := by decide +kernel
theorem dX1_recalls_71 : decode cX1_recalls 71 = .ok (.dup, 1) := by decide +kernel
theorem dX1_recalls_72 : decode cX1_recalls 72 = .ok (.getfield 21, 3) := by decide +kernel
theorem dX1_recalls_75 : decode cX1_recalls 75 = .ok (.iconst 1, 1) := by decide +kernel
theorem dX1_recalls_76 : decode cX1_recalls 76 = .ok (.isub, 1) := by decide +kernel
theorem dX1_recalls_77 : decode cX1_recalls 77 = .ok (.putfield 21, 3) := by decide +kernel
theorem dX1_recalls_80 : decode cX1_recalls 80 = .ok (.return_, 1) := by decide +kernel
theorem dX1_losesAll_0 : decode cX1_losesAll 0 = .ok (.aload_n 0, 1) := by decide +kernel
theorem dX1_losesAll_1 : decode cX1_losesAll 1 = .ok (.iconst 0, 1) := by decide +kernel
theorem dX1_losesAll_2 : decode cX1_losesAll 2 = .ok (.putfield 21, 3) := by decide +kernel
theorem dX1_losesAll_5 : decode cX1_losesAll 5 = .ok (.return_, 1) := by decide +kernel
theorem dX2_init_0 : decode cX2_init 0 = .ok (.aload_n 0, 1) := by decide +kernel
theorem dX2_init_1 : decode cX2_init 1 = .ok (.invokespecial 3, 3) := by decide +kernel
theorem dX2_init_4 : decode cX2_init 4 = .ok (.aload_n 0, 1) := by decide +kernel
theorem dX2_init_5 : decode cX2_init 5 = .ok (.iconst 0, 1) := by decide +kernel
theorem dX2_init_6 : decode cX2_init 6 = .ok (.putfield 9, 3) := by decide +kernel
theorem dX2_init_9 : decode cX2_init 9 = .ok (.aload_n 0, 1) := by decide +kernel
theorem dX2_init_10 : decode cX2_init 10 = .ok (.iconst 0, 1) := by decide +kernel
theorem dX2_init_11 : decode cX2_init 11 = .ok (.putfield 15, 3) := by decide +kernel
theorem dX2_init_14 : decode cX2_init 14 = .ok (.aload_n 0, 1) := by decide +kernel
theorem dX2_init_15 : decode cX2_init 15 = .ok (.lconst 1, 1) := by decide +kernel
theorem dX2_init_16 : decode cX2_init 16 = .ok (.putfield 18, 3) := by decide +kernel
theorem dX2_init_19 : decode cX2_init 19 = .ok (.aload_n 0, 1) := by decide +kernel
theorem dX2_init_20 : decode cX2_init 20 = .ok (.lconst 1, 1) := by decide +kernel
theorem dX2_init_21 : decode cX2_init 21 = .ok (.putfield 22, 3) := by decide +kernel
theorem dX2_init_24 : decode cX2_init 24 = .ok (.return_, 1) := by decide +kernel
theorem dX2_wants_0 : decode cX2_wants 0 = .ok (.aload_n 0, 1) := by decide +kernel
theorem dX2_wants_1 : decode cX2_wants 1 = .ok (.iload_n 1, 1) := by decide +kernel
theorem dX2_wants_2 : decode cX2_wants 2 = .ok (.putfield 9, 3) := by decide +kernel
theorem dX2_wants_5 : decode cX2_wants 5 = .ok (.aload_n 0, 1) := by decide +kernel
theorem dX2_wants_6 : decode cX2_wants 6 = .ok (.iconst (-1), 1) := by decide +kernel
theorem dX2_wants_7 : decode cX2_wants 7 = .ok (.putfield 15, 3) := by decide +kernel
theorem dX2_wants_10 : decode cX2_wants 10 = .ok (.aload_n 0, 1) := by decide +kernel
theorem dX2_wants_11 : decode cX2_wants 11 = .ok (.lconst 1, 1) := by decide +kernel
theorem dX2_wants_12 : decode cX2_wants 12 = .ok (.putfield 18, 3) := by decide +kernel
theorem dX2_wants_15 : decode cX2_wants 15 = .ok (.aload_n 0, 1) := by decide +kernel
theorem dX2_wants_16 : decode cX2_wants 16 = .ok (.lconst 1, 1) := by decide +kernel
theorem dX2_wants_17 : decode cX2_wants 17 = .ok (.putfield 22, 3) := by decide +kernel
theorem dX2_wants_20 : decode cX2_wants 20 = .ok (.return_, 1) := by decide +kernel
theorem dX2_chooses_0 : decode cX2_chooses 0 = .ok (.aload_n 1, 1) := by decide +kernel
theorem dX2_chooses_1 : decode cX2_chooses 1 = .ok (.aload_n 0, 1) := by decide +kernel
theorem dX2_chooses_2 : decode cX2_chooses 2 = .ok (.getfield 9, 3) := by decide +kernel
theorem dX2_chooses_5 : decode cX2_chooses 5 = .ok (.invokevirtual 25, 3) := by decide +kernel
theorem dX2_chooses_8 : decode cX2_chooses 8 = .ok (.ireturn, 1) := by decide +kernel
theorem dX2_takes_0 : decode cX2_takes 0 = .ok (.aload_n 0, 1) := by decide +kernel
theorem dX2_takes_1 : decode cX2_takes 1 = .ok (.dup, 1) := by decide +kernel
theorem dX2_takes_2 : decode cX2_takes 2 = .ok (.getfield 15, 3) := by decide +kernel
theorem dX2_takes_5 : decode cX2_takes 5 = .ok (.iconst 1, 1) := by decide +kernel
theorem dX2_takes_6 : decode cX2_takes 6 = .ok (.iadd, 1) := by decide +kernel
theorem dX2_takes_7 : decode cX2_takes 7 = .ok (.putfield 15, 3) := by decide +kernel
theorem dX2_takes_10 : decode cX2_takes 10 = .ok (.aload_n 0, 1) := by decide +kernel
theorem dX2_takes_11 : decode cX2_takes 11 = .ok (.dup, 1) := by decide +kernel
theorem dX2_takes_12 : decode cX2_takes 12 = .ok (.getfield 18, 3) := by decide +kernel
theorem dX2_takes_15 : decode cX2_takes 15 = .ok (.iload_n 2, 1) := by decide +kernel
theorem dX2_takes_16 : decode cX2_takes 16 = .ok (.i2l, 1) := by decide +kernel
theorem dX2_takes_17 : decode cX2_takes 17 = .ok (.lmul, 1) := by decide +kernel
theorem dX2_takes_18 : decode cX2_takes 18 = .ok (.putfield 18, 3) := by decide +kernel
theorem dX2_takes_21 : decode cX2_takes 21 = .ok (.aload_n 0, 1) := by decide +kernel
theorem dX2_takes_22 : decode cX2_takes 22 = .ok (.dup, 1) := by decide +kernel
theorem dX2_takes_23 : decode cX2_takes 23 = .ok (.getfield 22, 3) := by decide +kernel
theorem dX2_takes_26 : decode cX2_takes 26 = .ok (.iload_n 3, 1) := by decide +kernel
theorem dX2_takes_27 : decode cX2_takes 27 = .ok (.i2l, 1) := by decide +kernel
theorem dX2_takes_28 : decode cX2_takes 28 = .ok (.lmul, 1) := by decide +kernel
theorem dX2_takes_29 : decode cX2_takes 29 = .ok (.putfield 22, 3) := by decide +kernel
theorem dX2_takes_32 : decode cX2_takes 32 = .ok (.return_, 1) := by decide +kernel
theorem dX2_inLeastTerms_0 : decode cX2_inLeastTerms 0 = .ok (.aload_n 0, 1) := by decide +kernel
theorem dX2_inLeastTerms_1 : decode cX2_inLeastTerms 1 = .ok (.getfield 22, 3) := by decide +kernel
theorem dX2_inLeastTerms_4 : decode cX2_inLeastTerms 4 = .ok (.lstore_n 3, 1) := by decide +kernel
theorem dX2_inLeastTerms_5 : decode cX2_inLeastTerms 5 = .ok (.aload_n 0, 1) := by decide +kernel
theorem dX2_inLeastTerms_6 : decode cX2_inLeastTerms 6 = .ok (.getfield 18, 3) := by decide +kernel
theorem dX2_inLeastTerms_9 : decode cX2_inLeastTerms 9 = .ok (.lstore 5, 2) := by decide +kernel
theorem dX2_inLeastTerms_11 : decode cX2_inLeastTerms 11 = .ok (.iconst 0, 1) := by decide +kernel
theorem dX2_inLeastTerms_12 : decode cX2_inLeastTerms 12 = .ok (.istore 7, 2) := by decide +kernel
theorem dX2_inLeastTerms_14 : decode cX2_inLeastTerms 14 = .ok (.iload 7, 2) := by decide +kernel
theorem dX2_inLeastTerms_16 : decode cX2_inLeastTerms 16 = .ok (.bipush 64, 2) := by decide +kernel
theorem dX2_inLeastTerms_18 : decode cX2_inLeastTerms 18 = .ok (.if_icmp .ge 29, 3) := by decide +kernel
theorem dX2_inLeastTerms_21 : decode cX2_inLeastTerms 21 = .ok (.lload 5, 2) := by decide +kernel
theorem dX2_inLeastTerms_23 : decode cX2_inLeastTerms 23 = .ok (.lconst 0, 1) := by decide +kernel
theorem dX2_inLeastTerms_24 : decode cX2_inLeastTerms 24 = .ok (.lcmp, 1) := by decide +kernel
theorem dX2_inLeastTerms_25 : decode cX2_inLeastTerms 25 = .ok (.ifCond .eq 22, 3) := by decide +kernel
theorem dX2_inLeastTerms_28 : decode cX2_inLeastTerms 28 = .ok (.lload_n 3, 1) := by decide +kernel
theorem dX2_inLeastTerms_29 : decode cX2_inLeastTerms 29 = .ok (.lload 5, 2) := by decide +kernel
theorem dX2_inLeastTerms_31 : decode cX2_inLeastTerms 31 = .ok (.lrem, 1) := by decide +kernel
theorem dX2_inLeastTerms_32 : decode cX2_inLeastTerms 32 = .ok (.lstore 8, 2) := by decide +kernel
theorem dX2_inLeastTerms_34 : decode cX2_inLeastTerms 34 = .ok (.lload 5, 2) := by decide +kernel
theorem dX2_inLeastTerms_36 : decode cX2_inLeastTerms 36 = .ok (.lstore_n 3, 1) := by decide +kernel
theorem dX2_inLeastTerms_37 : decode cX2_inLeastTerms 37 = .ok (.lload 8, 2) := by decide +kernel
theorem dX2_inLeastTerms_39 : decode cX2_inLeastTerms 39 = .ok (.lstore 5, 2) := by decide +kernel
theorem dX2_inLeastTerms_41 : decode cX2_inLeastTerms 41 = .ok (.iinc 7 1, 3) := by decide +kernel
theorem dX2_inLeastTerms_44 : decode cX2_inLeastTerms 44 = .ok (.goto (-30), 3) := by decide +kernel
theorem dX2_inLeastTerms_47 : decode cX2_inLeastTerms 47 = .ok (.lload_n 3, 1) := by decide +kernel
theorem dX2_inLeastTerms_48 : decode cX2_inLeastTerms 48 = .ok (.lconst 0, 1) := by decide +kernel
theorem dX2_inLeastTerms_49 : decode cX2_inLeastTerms 49 = .ok (.lcmp, 1) := by decide +kernel
theorem dX2_inLeastTerms_50 : decode cX2_inLeastTerms 50 = .ok (.ifCond .ne 7, 3) := by decide +kernel
theorem dX2_inLeastTerms_53 : decode cX2_inLeastTerms 53 = .ok (.iconst 0, 1) := by decide +kernel
theorem dX2_inLeastTerms_54 : decode cX2_inLeastTerms 54 = .ok (.goto 7, 3) := by decide +kernel
theorem dX2_inLeastTerms_57 : decode cX2_inLeastTerms 57 = .ok (.lload_n 1, 1) := by decide +kernel
theorem dX2_inLeastTerms_58 : decode cX2_inLeastTerms 58 = .ok (.lload_n 3, 1) := by decide +kernel
theorem dX2_inLeastTerms_59 : decode cX2_inLeastTerms 59 = .ok (.ldiv, 1) := by decide +kernel
theorem dX2_inLeastTerms_60 : decode cX2_inLeastTerms 60 = .ok (.l2i, 1) := by decide +kernel
theorem dX2_inLeastTerms_61 : decode cX2_inLeastTerms 61 = .ok (.ireturn, 1) := by decide +kernel
theorem dX3_init_0 : decode cX3_init 0 = .ok (.aload_n 0, 1) := by decide +kernel
theorem dX3_init_1 : decode cX3_init 1 = .ok (.invokespecial 3, 3) := by decide +kernel
theorem dX3_init_4 : decode cX3_init 4 = .ok (.aload_n 0, 1) := by decide +kernel
theorem dX3_init_5 : decode cX3_init 5 = .ok (.new 9, 3) := by decide +kernel
theorem dX3_init_8 : decode cX3_init 8 = .ok (.dup, 1) := by decide +kernel
theorem dX3_init_9 : decode cX3_init 9 = .ok (.invokespecial 11, 3) := by decide +kernel
theorem dX3_init_12 : decode cX3_init 12 = .ok (.putfield 12, 3) := by decide +kernel
theorem dX3_init_15 : decode cX3_init 15 = .ok (.aload_n 0, 1) := by decide +kernel
theorem dX3_init_16 : decode cX3_init 16 = .ok (.new 18, 3) := by decide +kernel
theorem dX3_init_19 : decode cX3_init 19 = .ok (.dup, 1) := by decide +kernel
theorem dX3_init_20 : decode cX3_init 20 = .ok (.invokespecial 20, 3) := by decide +kernel
theorem dX3_init_23 : decode cX3_init 23 = .ok (.putfield 21, 3) := by decide +kernel
theorem dX3_init_26 : decode cX3_init 26 = .ok (.aload_n 0, 1) := by decide +kernel
theorem dX3_init_27 : decode cX3_init 27 = .ok (.new 25, 3) := by decide +kernel
theorem dX3_init_30 : decode cX3_init 30 = .ok (.dup, 1) := by decide +kernel
theorem dX3_init_31 : decode cX3_init 31 = .ok (.invokespecial 27, 3) := by decide +kernel
theorem dX3_init_34 : decode cX3_init 34 = .ok (.putfield 28, 3) := by decide +kernel
theorem dX3_init_37 : decode cX3_init 37 = .ok (.aload_n 0, 1) := by decide +kernel
theorem dX3_init_38 : decode cX3_init 38 = .ok (.new 32, 3) := by decide +kernel
theorem dX3_init_41 : decode cX3_init 41 = .ok (.dup, 1) := by decide +kernel
theorem dX3_init_42 : decode cX3_init 42 = .ok (.invokespecial 34, 3) := by decide +kernel
theorem dX3_init_45 : decode cX3_init 45 = .ok (.putfield 35, 3) := by decide +kernel
theorem dX3_init_48 : decode cX3_init 48 = .ok (.aload_n 0, 1) := by decide +kernel
theorem dX3_init_49 : decode cX3_init 49 = .ok (.iconst 0, 1) := by decide +kernel
theorem dX3_init_50 : decode cX3_init 50 = .ok (.putfield 39, 3) := by decide +kernel
theorem dX3_init_53 : decode cX3_init 53 = .ok (.aload_n 0, 1) := by decide +kernel
theorem dX3_init_54 : decode cX3_init 54 = .ok (.iconst 0, 1) := by decide +kernel
theorem dX3_init_55 : decode cX3_init 55 = .ok (.putfield 43, 3) := by decide +kernel
theorem dX3_init_58 : decode cX3_init 58 = .ok (.aload_n 0, 1) := by decide +kernel
theorem dX3_init_59 : decode cX3_init 59 = .ok (.iconst 0, 1) := by decide +kernel
theorem dX3_init_60 : decode cX3_init 60 = .ok (.putfield 46, 3) := by decide +kernel
theorem dX3_init_63 : decode cX3_init 63 = .ok (.return_, 1) := by decide +kernel
theorem dX3_startsLike_0 : decode cX3_startsLike 0 = .ok (.aload_n 0, 1) := by decide +kernel
theorem dX3_startsLike_1 : decode cX3_startsLike 1 = .ok (.getfield 12, 3) := by decide +kernel
theorem dX3_startsLike_4 : decode cX3_startsLike 4 = .ok (.aload_n 1, 1) := by decide +kernel
theorem dX3_startsLike_5 : decode cX3_startsLike 5 = .ok (.getfield 49, 3) := by decide +kernel
theorem dX3_startsLike_8 : decode cX3_startsLike 8 = .ok (.aload_n 1, 1) := by decide +kernel
theorem dX3_startsLike_9 : decode cX3_startsLike 9 = .ok (.getfield 52, 3) := by decide +kernel
theorem dX3_startsLike_12 : decode cX3_startsLike 12 = .ok (.aload_n 1, 1) := by decide +kernel
theorem dX3_startsLike_13 : decode cX3_startsLike 13 = .ok (.getfield 55, 3) := by decide +kernel
theorem dX3_startsLike_16 : decode cX3_startsLike 16 = .ok (.aload_n 1, 1) := by decide +kernel
theorem dX3_startsLike_17 : decode cX3_startsLike 17 = .ok (.getfield 58, 3) := by decide +kernel
theorem dX3_startsLike_20 : decode cX3_startsLike 20 = .ok (.invokevirtual 61, 3) := by decide +kernel
theorem dX3_startsLike_23 : decode cX3_startsLike 23 = .ok (.aload_n 0, 1) := by decide +kernel
theorem dX3_startsLike_24 : decode cX3_startsLike 24 = .ok (.invokevirtual 65, 3) := by decide +kernel
theorem dX3_startsLike_27 : decode cX3_startsLike 27 = .ok (.return_, 1) := by decide +kernel
theorem dX3_repacks_0 : decode cX3_repacks 0 = .ok (.aload_n 0, 1) := by decide +kernel
theorem dX3_repacks_1 : decode cX3_repacks 1 = .ok (.invokevirtual 65, 3) := by decide +kernel
theorem dX3_repacks_4 : decode cX3_repacks 4 = .ok (.aload_n 0, 1) := by decide +kernel
theorem dX3_repacks_5 : decode cX3_repacks 5 = .ok (.getfield 12, 3) := by decide +kernel
theorem dX3_repacks_8 : decode cX3_repacks 8 = .ok (.getfield 68, 3) := by decide +kernel
theorem dX3_repacks_11 : decode cX3_repacks 11 = .ok (.getfield 72, 3) := by decide +kernel
theorem dX3_repacks_14 : decode cX3_repacks 14 = .ok (.istore_n 1, 1) := by decide +kernel
theorem dX3_repacks_15 : decode cX3_repacks 15 = .ok (.iconst 0, 1) := by decide +kernel
theorem dX3_repacks_16 : decode cX3_repacks 16 = .ok (.istore_n 2, 1) := by decide +kernel
theorem dX3_repacks_17 : decode cX3_repacks 17 = .ok (.iload_n 2, 1) := by decide +kernel
theorem dX3_repacks_18 : decode cX3_repacks 18 = .ok (.iload_n 1, 1) := by decide +kernel
theorem dX3_repacks_19 : decode cX3_repacks 19 = .ok (.if_icmp .ge 14, 3) := by decide +kernel
theorem dX3_repacks_22 : decode cX3_repacks 22 = .ok (.aload_n 0, 1) := by decide +kernel
theorem dX3_repacks_23 : decode cX3_repacks 23 = .ok (.invokevirtual 77, 3) := by decide +kernel
theorem dX3_repacks_26 : decode cX3_repacks 26 = .ok (.pop, 1) := by decide +kernel
theorem dX3_repacks_27 : decode cX3_repacks 27 = .ok (.iinc 2 1, 3) := by decide +kernel
theorem dX3_repacks_30 : decode cX3_repacks 30 = .ok (.goto (-13), 3) := by decide +kernel
theorem dX3_repacks_33 : decode cX3_repacks 33 = .ok (.return_, 1) := by decide +kernel
theorem dX3_packsNext_0 : decode cX3_packsNext 0 = .ok (.aload_n 0, 1) := by decide +kernel
theorem dX3_packsNext_1 : decode cX3_packsNext 1 = .ok (.getfield 12, 3) := by decide +kernel
theorem dX3_packsNext_4 : decode cX3_packsNext 4 = .ok (.getfield 68, 3) := by decide +kernel
theorem dX3_packsNext_7 : decode cX3_packsNext 7 = .ok (.aload_n 0, 1) := by decide +kernel
theorem dX3_packsNext_8 : decode cX3_packsNext 8 = .ok (.getfield 39, 3) := by decide +kernel
theorem dX3_packsNext_11 : decode cX3_packsNext 11 = .ok (.invokevirtual 81, 3) := by decide +kernel
theorem dX3_packsNext_14 : decode cX3_packsNext 14 = .ok (.istore_n 1, 1) := by decide +kernel
theorem dX3_packsNext_15 : decode cX3_packsNext 15 = .ok (.aload_n 0, 1) := by decide +kernel
theorem dX3_packsNext_16 : decode cX3_packsNext 16 = .ok (.getfield 28, 3) := by decide +kernel
theorem dX3_packsNext_19 : decode cX3_packsNext 19 = .ok (.iload_n 1, 1) := by decide +kernel
theorem dX3_packsNext_20 : decode cX3_packsNext 20 = .ok (.invokevirtual 85, 3) := by decide +kernel
theorem dX3_packsNext_23 : decode cX3_packsNext 23 = .ok (.aload_n 0, 1) := by decide +kernel
theorem dX3_packsNext_24 : decode cX3_packsNext 24 = .ok (.aload_n 0, 1) := by decide +kernel
theorem dX3_packsNext_25 : decode cX3_packsNext 25 = .ok (.getfield 28, 3) := by decide +kernel
theorem dX3_packsNext_28 : decode cX3_packsNext 28 = .ok (.invokevirtual 89, 3) := by decide +kernel
theorem dX3_packsNext_31 : decode cX3_packsNext 31 = .ok (.istore_n 2, 1) := by decide +kernel
theorem dX3_packsNext_32 : decode cX3_packsNext 32 = .ok (.aload_n 0, 1) := by decide +kernel
theorem dX3_packsNext_33 : decode cX3_packsNext 33 = .ok (.iload_n 1, 1) := by decide +kernel
theorem dX3_packsNext_34 : decode cX3_packsNext 34 = .ok (.iload_n 2, 1) := by decide +kernel
theorem dX3_packsNext_35 : decode cX3_packsNext 35 = .ok (.invokevirtual 93, 3) := by decide +kernel
theorem dX3_packsNext_38 : decode cX3_packsNext 38 = .ok (.iload_n 2, 1) := by decide +kernel
theorem dX3_packsNext_39 : decode cX3_packsNext 39 = .ok (.ireturn, 1) := by decide +kernel
theorem dX3_readsNext_0 : decode cX3_readsNext 0 = .ok (.aload_n 0, 1) := by decide +kernel
theorem dX3_readsNext_1 : decode cX3_readsNext 1 = .ok (.aload_n 0, 1) := by decide +kernel
theorem dX3_readsNext_2 : decode cX3_readsNext 2 = .ok (.getfield 28, 3) := by decide +kernel
theorem dX3_readsNext_5 : decode cX3_readsNext 5 = .ok (.invokevirtual 89, 3) := by decide +kernel
theorem dX3_readsNext_8 : decode cX3_readsNext 8 = .ok (.istore_n 1, 1) := by decide +kernel
theorem dX3_readsNext_9 : decode cX3_readsNext 9 = .ok (.aload_n 0, 1) := by decide +kernel
theorem dX3_readsNext_10 : decode cX3_readsNext 10 = .ok (.getfield 46, 3) := by decide +kernel
theorem dX3_readsNext_13 : decode cX3_readsNext 13 = .ok (.istore_n 2, 1) := by decide +kernel
theorem dX3_readsNext_14 : decode cX3_readsNext 14 = .ok (.aload_n 0, 1) := by decide +kernel
theorem dX3_readsNext_15 : decode cX3_readsNext 15 = .ok (.getfield 12, 3) := by decide +kernel
theorem dX3_readsNext_18 : decode cX3_readsNext 18 = .ok (.getfield 68, 3) := by decide +kernel
theorem dX3_readsNext_21 : decode cX3_readsNext 21 = .ok (.iload_n 2, 1) := by decide +kernel
theorem dX3_readsNext_22 : decode cX3_readsNext 22 = .ok (.invokevirtual 97, 3) := by decide +kernel
theorem dX3_readsNext_25 : decode cX3_readsNext 25 = .ok (.aload_n 0, 1) := by decide +kernel
theorem dX3_readsNext_26 : decode cX3_readsNext 26 = .ok (.iload_n 2, 1) := by decide +kernel
theorem dX3_readsNext_27 : decode cX3_readsNext 27 = .ok (.iload_n 1, 1) := by decide +kernel
theorem dX3_readsNext_28 : decode cX3_readsNext 28 = .ok (.invokevirtual 93, 3) := by decide +kernel
theorem dX3_readsNext_31 : decode cX3_readsNext 31 = .ok (.iload_n 2, 1) := by decide +kernel
theorem dX3_readsNext_32 : decode cX3_readsNext 32 = .ok (.ireturn, 1) := by decide +kernel
theorem dX3_weighs_0 : decode cX3_weighs 0 = .ok (.aload_n 1, 1) := by decide +kernel
theorem dX3_weighs_1 : decode cX3_weighs 1 = .ok (.iload_n 2, 1) := by decide +kernel
theorem dX3_weighs_2 : decode cX3_weighs 2 = .ok (.invokevirtual 100, 3) := by decide +kernel
theorem dX3_weighs_5 : decode cX3_weighs 5 = .ok (.aload_n 0, 1) := by decide +kernel
theorem dX3_weighs_6 : decode cX3_weighs 6 = .ok (.aload_n 1, 1) := by decide +kernel
theorem dX3_weighs_7 : decode cX3_weighs 7 = .ok (.invokevirtual 89, 3) := by decide +kernel
theorem dX3_weighs_10 : decode cX3_weighs 10 = .ok (.ireturn, 1) := by decide +kernel
theorem dX3_descends_0 : decode cX3_descends 0 = .ok (.aload_n 0, 1) := by decide +kernel
theorem dX3_descends_1 : decode cX3_descends 1 = .ok (.getfield 35, 3) := by decide +kernel
theorem dX3_descends_4 : decode cX3_descends 4 = .ok (.invokevirtual 103, 3) := by decide +kernel
theorem dX3_descends_7 : decode cX3_descends 7 = .ok (.aload_n 0, 1) := by decide +kernel
theorem dX3_descends_8 : decode cX3_descends 8 = .ok (.invokevirtual 106, 3) := by decide +kernel
theorem dX3_descends_11 : decode cX3_descends 11 = .ok (.istore_n 2, 1) := by decide +kernel
theorem dX3_descends_12 : decode cX3_descends 12 = .ok (.iload_n 2, 1) := by decide +kernel
theorem dX3_descends_13 : decode cX3_descends 13 = .ok (.ifCond .lt 104, 3) := by decide +kernel
theorem dX3_descends_16 : decode cX3_descends 16 = .ok (.aload_n 0, 1) := by decide +kernel
theorem dX3_descends_17 : decode cX3_descends 17 = .ok (.getfield 35, 3) := by decide +kernel
theorem dX3_descends_20 : decode cX3_descends 20 = .ok (.aload_n 0, 1) := by decide +kernel
theorem dX3_descends_21 : decode cX3_descends 21 = .ok (.getfield 21, 3) := by decide +kernel
theorem dX3_descends_24 : decode cX3_descends 24 = .ok (.aload_n 0, 1) := by decide +kernel
theorem dX3_descends_25 : decode cX3_descends 25 = .ok (.getfield 12, 3) := by decide +kernel
theorem dX3_descends_28 : decode cX3_descends 28 = .ok (.aload_n 0, 1) := by decide +kernel
theorem dX3_descends_29 : decode cX3_descends 29 = .ok (.getfield 39, 3) := by decide +kernel
theorem dX3_descends_32 : decode cX3_descends 32 = .ok (.iload_n 2, 1) := by decide +kernel
theorem dX3_descends_33 : decode cX3_descends 33 = .ok (.invokevirtual 109, 3) := by decide +kernel
theorem dX3_descends_36 : decode cX3_descends 36 = .ok (.invokevirtual 113, 3) := by decide +kernel
theorem dX3_descends_39 : decode cX3_descends 39 = .ok (.aload_n 0, 1) := by decide +kernel
theorem dX3_descends_40 : decode cX3_descends 40 = .ok (.getfield 35, 3) := by decide +kernel
theorem dX3_descends_43 : decode cX3_descends 43 = .ok (.getfield 117, 3) := by decide +kernel
theorem dX3_descends_46 : decode cX3_descends 46 = .ok (.ifCond .le 65, 3) := by decide +kernel
theorem dX3_descends_49 : decode cX3_descends 49 = .ok (.aload_n 0, 1) := by decide +kernel
theorem dX3_descends_50 : decode cX3_descends 50 = .ok (.aload_n 1, 1) := by decide +kernel
theorem dX3_descends_51 : decode cX3_descends 51 = .ok (.aload_n 0, 1) := by decide +kernel
theorem dX3_descends_52 : decode cX3_descends 52 = .ok (.getfield 35, 3) := by decide +kernel
theorem dX3_descends_55 : decode cX3_descends 55 = .ok (.invokevirtual 120, 3) := by decide +kernel
theorem dX3_descends_58 : decode cX3_descends 58 = .ok (.putfield 46, 3) := by decide +kernel
theorem dX3_descends_61 : decode cX3_descends 61 = .ok (.aload_n 1, 1) := by decide +kernel
theorem dX3_descends_62 : decode cX3_descends 62 = .ok (.aload_n 0, 1) := by decide +kernel
theorem dX3_descends_63 : decode cX3_descends 63 = .ok (.getfield 35, 3) := by decide +kernel
theorem dX3_descends_66 : decode cX3_descends 66 = .ok (.aload_n 0, 1) := by decide +kernel
theorem dX3_descends_67 : decode cX3_descends 67 = .ok (.getfield 46, 3) := by decide +kernel
theorem dX3_descends_70 : decode cX3_descends 70 = .ok (.invokevirtual 126, 3) := by decide +kernel
theorem dX3_descends_73 : decode cX3_descends 73 = .ok (.aload_n 0, 1) := by decide +kernel
theorem dX3_descends_74 : decode cX3_descends 74 = .ok (.getfield 35, 3) := by decide +kernel
theorem dX3_descends_77 : decode cX3_descends 77 = .ok (.aload_n 0, 1) := by decide +kernel
theorem dX3_descends_78 : decode cX3_descends 78 = .ok (.getfield 46, 3) := by decide +kernel
theorem dX3_descends_81 : decode cX3_descends 81 = .ok (.invokevirtual 129, 3) := by decide +kernel
theorem dX3_descends_84 : decode cX3_descends 84 = .ok (.aload_n 0, 1) := by decide +kernel
theorem dX3_descends_85 : decode cX3_descends 85 = .ok (.getfield 35, 3) := by decide +kernel
theorem dX3_descends_88 : decode cX3_descends 88 = .ok (.getfield 117, 3) := by decide +kernel
theorem dX3_descends_91 : decode cX3_descends 91 = .ok (.invokevirtual 132, 3) := by decide +kernel
theorem dX3_descends_94 : decode cX3_descends 94 = .ok (.aload_n 0, 1) := by decide +kernel
theorem dX3_descends_95 : decode cX3_descends 95 = .ok (.getfield 46, 3) := by decide +kernel
theorem dX3_descends_98 : decode cX3_descends 98 = .ok (.iconst 4, 1) := by decide +kernel
theorem dX3_descends_99 : decode cX3_descends 99 = .ok (.if_icmp .eq 5, 3) := by decide +kernel
theorem dX3_descends_102 : decode cX3_descends 102 = .ok (.iload_n 2, 1) := by decide +kernel
theorem dX3_descends_103 : decode cX3_descends 103 = .ok (.ireturn, 1) := by decide +kernel
theorem dX3_descends_104 : decode cX3_descends 104 = .ok (.aload_n 0, 1) := by decide +kernel
theorem dX3_descends_105 : decode cX3_descends 105 = .ok (.getfield 35, 3) := by decide +kernel
theorem dX3_descends_108 : decode cX3_descends 108 = .ok (.invokevirtual 136, 3) := by decide +kernel
theorem dX3_descends_111 : decode cX3_descends 111 = .ok (.iinc 2 (-1), 3) := by decide +kernel
theorem dX3_descends_114 : decode cX3_descends 114 = .ok (.goto (-102), 3) := by decide +kernel
theorem dX3_descends_117 : decode cX3_descends 117 = .ok (.aload_n 0, 1) := by decide +kernel
theorem dX3_descends_118 : decode cX3_descends 118 = .ok (.getfield 35, 3) := by decide +kernel
theorem dX3_descends_121 : decode cX3_descends 121 = .ok (.aload_n 0, 1) := by decide +kernel
theorem dX3_descends_122 : decode cX3_descends 122 = .ok (.getfield 21, 3) := by decide +kernel
theorem dX3_descends_125 : decode cX3_descends 125 = .ok (.iconst (-1), 1) := by decide +kernel
theorem dX3_descends_126 : decode cX3_descends 126 = .ok (.invokevirtual 113, 3) := by decide +kernel
theorem dX3_descends_129 : decode cX3_descends 129 = .ok (.aload_n 0, 1) := by decide +kernel
theorem dX3_descends_130 : decode cX3_descends 130 = .ok (.aload_n 1, 1) := by decide +kernel
theorem dX3_descends_131 : decode cX3_descends 131 = .ok (.aload_n 0, 1) := by decide +kernel
theorem dX3_descends_132 : decode cX3_descends 132 = .ok (.getfield 35, 3) := by decide +kernel
theorem dX3_descends_135 : decode cX3_descends 135 = .ok (.invokevirtual 120, 3) := by decide +kernel
theorem dX3_descends_138 : decode cX3_descends 138 = .ok (.putfield 46, 3) := by decide +kernel
theorem dX3_descends_141 : decode cX3_descends 141 = .ok (.aload_n 1, 1) := by decide +kernel
theorem dX3_descends_142 : decode cX3_descends 142 = .ok (.aload_n 0, 1) := by decide +kernel
theorem dX3_descends_143 : decode cX3_descends 143 = .ok (.getfield 35, 3) := by decide +kernel
theorem dX3_descends_146 : decode cX3_descends 146 = .ok (.aload_n 0, 1) := by decide +kernel
theorem dX3_descends_147 : decode cX3_descends 147 = .ok (.getfield 46, 3) := by decide +kernel
theorem dX3_descends_150 : decode cX3_descends 150 = .ok (.invokevirtual 126, 3) := by decide +kernel
theorem dX3_descends_153 : decode cX3_descends 153 = .ok (.aload_n 0, 1) := by decide +kernel
theorem dX3_descends_154 : decode cX3_descends 154 = .ok (.getfield 35, 3) := by decide +kernel
theorem dX3_descends_157 : decode cX3_descends 157 = .ok (.aload_n 0, 1) := by decide +kernel
theorem dX3_descends_158 : decode cX3_descends 158 = .ok (.getfield 46, 3) := by decide +kernel
theorem dX3_descends_161 : decode cX3_descends 161 = .ok (.invokevirtual 129, 3) := by decide +kernel
theorem dX3_descends_164 : decode cX3_descends 164 = .ok (.aload_n 0, 1) := by decide +kernel
theorem dX3_descends_165 : decode cX3_descends 165 = .ok (.getfield 35, 3) := by decide +kernel
theorem dX3_descends_168 : decode cX3_descends 168 = .ok (.getfield 117, 3) := by decide +kernel
theorem dX3_descends_171 : decode cX3_descends 171 = .ok (.invokevirtual 132, 3) := by decide +kernel
theorem dX3_descends_174 : decode cX3_descends 174 = .ok (.iconst (-1), 1) := by decide +kernel
theorem dX3_descends_175 : decode cX3_descends 175 = .ok (.ireturn, 1) := by decide +kernel
theorem dX3_startsAnew_0 : decode cX3_startsAnew 0 = .ok (.aload_n 0, 1) := by decide +kernel
theorem dX3_startsAnew_1 : decode cX3_startsAnew 1 = .ok (.iconst 0, 1) := by decide +kernel
theorem dX3_startsAnew_2 : decode cX3_startsAnew 2 = .ok (.putfield 39, 3) := by decide +kernel
theorem dX3_startsAnew_5 : decode cX3_startsAnew 5 = .ok (.aload_n 0, 1) := by decide +kernel
theorem dX3_startsAnew_6 : decode cX3_startsAnew 6 = .ok (.iconst 0, 1) := by decide +kernel
theorem dX3_startsAnew_7 : decode cX3_startsAnew 7 = .ok (.putfield 43, 3) := by decide +kernel
theorem dX3_startsAnew_10 : decode cX3_startsAnew 10 = .ok (.aload_n 0, 1) := by decide +kernel
theorem dX3_startsAnew_11 : decode cX3_startsAnew 11 = .ok (.getfield 21, 3) := by decide +kernel
theorem dX3_startsAnew_14 : decode cX3_startsAnew 14 = .ok (.invokevirtual 139, 3) := by decide +kernel
theorem dX3_startsAnew_17 : decode cX3_startsAnew 17 = .ok (.aload_n 0, 1) := by decide +kernel
theorem dX3_startsAnew_18 : decode cX3_startsAnew 18 = .ok (.getfield 28, 3) := by decide +kernel
theorem dX3_startsAnew_21 : decode cX3_startsAnew 21 = .ok (.invokevirtual 142, 3) := by decide +kernel
theorem dX3_startsAnew_24 : decode cX3_startsAnew 24 = .ok (.return_, 1) := by decide +kernel
theorem dX3_longest_0 : decode cX3_longest 0 = .ok (.aload_n 0, 1) := by decide +kernel
theorem dX3_longest_1 : decode cX3_longest 1 = .ok (.getfield 12, 3) := by decide +kernel
theorem dX3_longest_4 : decode cX3_longest 4 = .ok (.getfield 49, 3) := by decide +kernel
theorem dX3_longest_7 : decode cX3_longest 7 = .ok (.aload_n 0, 1) := by decide +kernel
theorem dX3_longest_8 : decode cX3_longest 8 = .ok (.getfield 39, 3) := by decide +kernel
theorem dX3_longest_11 : decode cX3_longest 11 = .ok (.invokestatic 145, 3) := by decide +kernel
theorem dX3_longest_14 : decode cX3_longest 14 = .ok (.ireturn, 1) := by decide +kernel
theorem dX3_learns_0 : decode cX3_learns 0 = .ok (.aload_n 0, 1) := by decide +kernel
theorem dX3_learns_1 : decode cX3_learns 1 = .ok (.invokevirtual 106, 3) := by decide +kernel
theorem dX3_learns_4 : decode cX3_learns 4 = .ok (.istore_n 3, 1) := by decide +kernel
theorem dX3_learns_5 : decode cX3_learns 5 = .ok (.iload_n 2, 1) := by decide +kernel
theorem dX3_learns_6 : decode cX3_learns 6 = .ok (.iconst 0, 1) := by decide +kernel
theorem dX3_learns_7 : decode cX3_learns 7 = .ok (.invokestatic 150, 3) := by decide +kernel
theorem dX3_learns_10 : decode cX3_learns 10 = .ok (.istore 4, 2) := by decide +kernel
theorem dX3_learns_12 : decode cX3_learns 12 = .ok (.iload 4, 2) := by decide +kernel
theorem dX3_learns_14 : decode cX3_learns 14 = .ok (.iload_n 3, 1) := by decide +kernel
theorem dX3_learns_15 : decode cX3_learns 15 = .ok (.if_icmp .gt 37, 3) := by decide +kernel
theorem dX3_learns_18 : decode cX3_learns 18 = .ok (.aload_n 0, 1) := by decide +kernel
theorem dX3_learns_19 : decode cX3_learns 19 = .ok (.getfield 21, 3) := by decide +kernel
theorem dX3_learns_22 : decode cX3_learns 22 = .ok (.aload_n 0, 1) := by decide +kernel
theorem dX3_learns_23 : decode cX3_learns 23 = .ok (.getfield 12, 3) := by decide +kernel
theorem dX3_learns_26 : decode cX3_learns 26 = .ok (.aload_n 0, 1) := by decide +kernel
theorem dX3_learns_27 : decode cX3_learns 27 = .ok (.getfield 39, 3) := by decide +kernel
theorem dX3_learns_30 : decode cX3_learns 30 = .ok (.iload 4, 2) := by decide +kernel
theorem dX3_learns_32 : decode cX3_learns 32 = .ok (.invokevirtual 109, 3) := by decide +kernel
theorem dX3_learns_35 : decode cX3_learns 35 = .ok (.iload_n 1, 1) := by decide +kernel
theorem dX3_learns_36 : decode cX3_learns 36 = .ok (.aload_n 0, 1) := by decide +kernel
theorem dX3_learns_37 : decode cX3_learns 37 = .ok (.getfield 12, 3) := by decide +kernel
theorem dX3_learns_40 : decode cX3_learns 40 = .ok (.getfield 52, 3) := by decide +kernel
theorem dX3_learns_43 : decode cX3_learns 43 = .ok (.invokevirtual 153, 3) := by decide +kernel
theorem dX3_learns_46 : decode cX3_learns 46 = .ok (.iinc 4 1, 3) := by decide +kernel
theorem dX3_learns_49 : decode cX3_learns 49 = .ok (.goto (-37), 3) := by decide +kernel
theorem dX3_learns_52 : decode cX3_learns 52 = .ok (.aload_n 0, 1) := by decide +kernel
theorem dX3_learns_53 : decode cX3_learns 53 = .ok (.dup, 1) := by decide +kernel
theorem dX3_learns_54 : decode cX3_learns 54 = .ok (.getfield 39, 3) := by decide +kernel
theorem dX3_learns_57 : decode cX3_learns 57 = .ok (.iconst 1, 1) := by decide +kernel
theorem dX3_learns_58 : decode cX3_learns 58 = .ok (.iadd, 1) := by decide +kernel
theorem dX3_learns_59 : decode cX3_learns 59 = .ok (.putfield 39, 3) := by decide +kernel
theorem dX3_learns_62 : decode cX3_learns 62 = .ok (.aload_n 0, 1) := by decide +kernel
theorem dX3_learns_63 : decode cX3_learns 63 = .ok (.getfield 21, 3) := by decide +kernel
theorem dX3_learns_66 : decode cX3_learns 66 = .ok (.getfield 156, 3) := by decide +kernel
theorem dX3_learns_69 : decode cX3_learns 69 = .ok (.aload_n 0, 1) := by decide +kernel
theorem dX3_learns_70 : decode cX3_learns 70 = .ok (.getfield 12, 3) := by decide +kernel
theorem dX3_learns_73 : decode cX3_learns 73 = .ok (.getfield 55, 3) := by decide +kernel
theorem dX3_learns_76 : decode cX3_learns 76 = .ok (.if_icmp .le 7, 3) := by decide +kernel
theorem dX3_learns_79 : decode cX3_learns 79 = .ok (.aload_n 0, 1) := by decide +kernel
theorem dX3_learns_80 : decode cX3_learns 80 = .ok (.invokevirtual 159, 3) := by decide +kernel
theorem dX3_learns_83 : decode cX3_learns 83 = .ok (.return_, 1) := by decide +kernel
theorem dX3_forgets_0 : decode cX3_forgets 0 = .ok (.aload_n 0, 1) := by decide +kernel
theorem dX3_forgets_1 : decode cX3_forgets 1 = .ok (.dup, 1) := by decide +kernel
theorem dX3_forgets_2 : decode cX3_forgets 2 = .ok (.getfield 43, 3) := by decide +kernel
theorem dX3_forgets_5 : decode cX3_forgets 5 = .ok (.iconst 1, 1) := by decide +kernel
theorem dX3_forgets_6 : decode cX3_forgets 6 = .ok (.iadd, 1) := by decide +kernel
theorem dX3_forgets_7 : decode cX3_forgets 7 = .ok (.putfield 43, 3) := by decide +kernel
theorem dX3_forgets_10 : decode cX3_forgets 10 = .ok (.aload_n 0, 1) := by decide +kernel
theorem dX3_forgets_11 : decode cX3_forgets 11 = .ok (.getfield 21, 3) := by decide +kernel
theorem dX3_forgets_14 : decode cX3_forgets 14 = .ok (.invokevirtual 139, 3) := by decide +kernel
theorem dX3_forgets_17 : decode cX3_forgets 17 = .ok (.aload_n 0, 1) := by decide +kernel
theorem dX3_forgets_18 : decode cX3_forgets 18 = .ok (.getfield 39, 3) := by decide +kernel
theorem dX3_forgets_21 : decode cX3_forgets 21 = .ok (.aload_n 0, 1) := by decide +kernel
theorem dX3_forgets_22 : decode cX3_forgets 22 = .ok (.getfield 12, 3) := by decide +kernel
theorem dX3_forgets_25 : decode cX3_forgets 25 = .ok (.getfield 58, 3) := by decide +kernel
theorem dX3_forgets_28 : decode cX3_forgets 28 = .ok (.isub, 1) := by decide +kernel
theorem dX3_forgets_29 : decode cX3_forgets 29 = .ok (.iconst 0, 1) := by decide +kernel
theorem dX3_forgets_30 : decode cX3_forgets 30 = .ok (.invokestatic 150, 3) := by decide +kernel
theorem dX3_forgets_33 : decode cX3_forgets 33 = .ok (.istore_n 1, 1) := by decide +kernel
theorem dX3_forgets_34 : decode cX3_forgets 34 = .ok (.iload_n 1, 1) := by decide +kernel
theorem dX3_forgets_35 : decode cX3_forgets 35 = .ok (.istore_n 2, 1) := by decide +kernel
theorem dX3_forgets_36 : decode cX3_forgets 36 = .ok (.iload_n 2, 1) := by decide +kernel
theorem dX3_forgets_37 : decode cX3_forgets 37 = .ok (.aload_n 0, 1) := by decide +kernel
theorem dX3_forgets_38 : decode cX3_forgets 38 = .ok (.getfield 39, 3) := by decide +kernel
theorem dX3_forgets_41 : decode cX3_forgets 41 = .ok (.if_icmp .ge 73, 3) := by decide +kernel
theorem dX3_forgets_44 : decode cX3_forgets 44 = .ok (.aload_n 0, 1) := by decide +kernel
theorem dX3_forgets_45 : decode cX3_forgets 45 = .ok (.getfield 12, 3) := by decide +kernel
theorem dX3_forgets_48 : decode cX3_forgets 48 = .ok (.getfield 49, 3) := by decide +kernel
theorem dX3_forgets_51 : decode cX3_forgets 51 = .ok (.iload_n 2, 1) := by decide +kernel
theorem dX3_forgets_52 : decode cX3_forgets 52 = .ok (.iload_n 1, 1) := by decide +kernel
theorem dX3_forgets_53 : decode cX3_forgets 53 = .ok (.isub, 1) := by decide +kernel
theorem dX3_forgets_54 : decode cX3_forgets 54 = .ok (.invokestatic 145, 3) := by decide +kernel
theorem dX3_forgets_57 : decode cX3_forgets 57 = .ok (.istore_n 3, 1) := by decide +kernel
theorem dX3_forgets_58 : decode cX3_forgets 58 = .ok (.iconst 0, 1) := by decide +kernel
theorem dX3_forgets_59 : decode cX3_forgets 59 = .ok (.istore 4, 2) := by decide +kernel
theorem dX3_forgets_61 : decode cX3_forgets 61 = .ok (.iload 4, 2) := by decide +kernel
theorem dX3_forgets_63 : decode cX3_forgets 63 = .ok (.iload_n 3, 1) := by decide +kernel
theorem dX3_forgets_64 : decode cX3_forgets 64 = .ok (.if_icmp .gt 44, 3) := by decide +kernel
theorem dX3_forgets_67 : decode cX3_forgets 67 = .ok (.aload_n 0, 1) := by decide +kernel
theorem dX3_forgets_68 : decode cX3_forgets 68 = .ok (.getfield 21, 3) := by decide +kernel
theorem dX3_forgets_71 : decode cX3_forgets 71 = .ok (.aload_n 0, 1) := by decide +kernel
theorem dX3_forgets_72 : decode cX3_forgets 72 = .ok (.getfield 12, 3) := by decide +kernel
theorem dX3_forgets_75 : decode cX3_forgets 75 = .ok (.iload_n 2, 1) := by decide +kernel
theorem dX3_forgets_76 : decode cX3_forgets 76 = .ok (.iload 4, 2) := by decide +kernel
theorem dX3_forgets_78 : decode cX3_forgets 78 = .ok (.invokevirtual 109, 3) := by decide +kernel
theorem dX3_forgets_81 : decode cX3_forgets 81 = .ok (.aload_n 0, 1) := by decide +kernel
theorem dX3_forgets_82 : decode cX3_forgets 82 = .ok (.getfield 12, 3) := by decide +kernel
theorem dX3_forgets_85 : decode cX3_forgets 85 = .ok (.getfield 68, 3) := by decide +kernel
theorem dX3_forgets_88 : decode cX3_forgets 88 = .ok (.iload_n 2, 1) := by decide +kernel
theorem dX3_forgets_89 : decode cX3_forgets 89 = .ok (.invokevirtual 81, 3) := by decide +kernel
theorem dX3_forgets_92 : decode cX3_forgets 92 = .ok (.aload_n 0, 1) := by decide +kernel
theorem dX3_forgets_93 : decode cX3_forgets 93 = .ok (.getfield 12, 3) := by decide +kernel
theorem dX3_forgets_96 : decode cX3_forgets 96 = .ok (.getfield 52, 3) := by decide +kernel
theorem dX3_forgets_99 : decode cX3_forgets 99 = .ok (.invokevirtual 153, 3) := by decide +kernel
theorem dX3_forgets_102 : decode cX3_forgets 102 = .ok (.iinc 4 1, 3) := by decide +kernel
theorem dX3_forgets_105 : decode cX3_forgets 105 = .ok (.goto (-44), 3) := by decide +kernel
theorem dX3_forgets_108 : decode cX3_forgets 108 = .ok (.iinc 2 1, 3) := by decide +kernel
theorem dX3_forgets_111 : decode cX3_forgets 111 = .ok (.goto (-75), 3) := by decide +kernel
theorem dX3_forgets_114 : decode cX3_forgets 114 = .ok (.return_, 1) := by decide +kernel
theorem dX4_init_0 : decode cX4_init 0 = .ok (.aload_n 0, 1) := by decide +kernel
theorem dX4_init_1 : decode cX4_init 1 = .ok (.invokespecial 3, 3) := by decide +kernel
theorem dX4_init_4 : decode cX4_init 4 = .ok (.aload_n 0, 1) := by decide +kernel
theorem dX4_init_5 : decode cX4_init 5 = .ok (.iconst 2, 1) := by decide +kernel
theorem dX4_init_6 : decode cX4_init 6 = .ok (.putfield 9, 3) := by decide +kernel
theorem dX4_init_9 : decode cX4_init 9 = .ok (.aload_n 0, 1) := by decide +kernel
theorem dX4_init_10 : decode cX4_init 10 = .ok (.bipush 7, 2) := by decide +kernel
theorem dX4_init_12 : decode cX4_init 12 = .ok (.putfield 15, 3) := by decide +kernel
theorem dX4_init_15 : decode cX4_init 15 = .ok (.aload_n 0, 1) := by decide +kernel
theorem dX4_init_16 : decode cX4_init 16 = .ok (.bipush 24, 2) := by decide +kernel
theorem dX4_init_18 : decode cX4_init 18 = .ok (.putfield 18, 3) := by decide +kernel
theorem dX4_init_21 : decode cX4_init 21 = .ok (.aload_n 0, 1) := by decide +kernel
theorem dX4_init_22 : decode cX4_init 22 = .ok (.iconst 4, 1) := by decide +kernel
theorem dX4_init_23 : decode cX4_init 23 = .ok (.putfield 21, 3) := by decide +kernel
theorem dX4_init_26 : decode cX4_init 26 = .ok (.aload_n 0, 1) := by decide +kernel
theorem dX4_init_27 : decode cX4_init 27 = .ok (.new 24, 3) := by decide +kernel
theorem dX4_init_30 : decode cX4_init 30 = .ok (.dup, 1) := by decide +kernel
theorem dX4_init_31 : decode cX4_init 31 = .ok (.bipush 60, 2) := by decide +kernel
theorem dX4_init_33 : decode cX4_init 33 = .ok (.invokespecial 26, 3) := by decide +kernel
theorem dX4_init_36 : decode cX4_init 36 = .ok (.putfield 29, 3) := by decide +kernel
theorem dX4_init_39 : decode cX4_init 39 = .ok (.return_, 1) := by decide +kernel
theorem dX4_setsOut_0 : decode cX4_setsOut 0 = .ok (.aload_n 0, 1) := by decide +kernel
theorem dX4_setsOut_1 : decode cX4_setsOut 1 = .ok (.iload_n 1, 1) := by decide +kernel
theorem dX4_setsOut_2 : decode cX4_setsOut 2 = .ok (.putfield 9, 3) := by decide +kernel
theorem dX4_setsOut_5 : decode cX4_setsOut 5 = .ok (.aload_n 0, 1) := by decide +kernel
theorem dX4_setsOut_6 : decode cX4_setsOut 6 = .ok (.iload_n 2, 1) := by decide +kernel
theorem dX4_setsOut_7 : decode cX4_setsOut 7 = .ok (.putfield 15, 3) := by decide +kernel
theorem dX4_setsOut_10 : decode cX4_setsOut 10 = .ok (.aload_n 0, 1) := by decide +kernel
theorem dX4_setsOut_11 : decode cX4_setsOut 11 = .ok (.iload_n 3, 1) := by decide +kernel
theorem dX4_setsOut_12 : decode cX4_setsOut 12 = .ok (.putfield 18, 3) := by decide +kernel
theorem dX4_setsOut_15 : decode cX4_setsOut 15 = .ok (.aload_n 0, 1) := by decide +kernel
theorem dX4_setsOut_16 : decode cX4_setsOut 16 = .ok (.iload 4, 2) := by decide +kernel
theorem dX4_setsOut_18 : decode cX4_setsOut 18 = .ok (.putfield 21, 3) := by decide +kernel
theorem dX4_setsOut_21 : decode cX4_setsOut 21 = .ok (.aload_n 0, 1) := by decide +kernel
theorem dX4_setsOut_22 : decode cX4_setsOut 22 = .ok (.getfield 29, 3) := by decide +kernel
theorem dX4_setsOut_25 : decode cX4_setsOut 25 = .ok (.iconst 0, 1) := by decide +kernel
theorem dX4_setsOut_26 : decode cX4_setsOut 26 = .ok (.invokevirtual 33, 3) := by decide +kernel
theorem dX4_setsOut_29 : decode cX4_setsOut 29 = .ok (.return_, 1) := by decide +kernel
theorem dX4_becomes_0 : decode cX4_becomes 0 = .ok (.aload_n 0, 1) := by decide +kernel
theorem dX4_becomes_1 : decode cX4_becomes 1 = .ok (.aload_n 1, 1) := by decide +kernel
theorem dX4_becomes_2 : decode cX4_becomes 2 = .ok (.getfield 9, 3) := by decide +kernel
theorem dX4_becomes_5 : decode cX4_becomes 5 = .ok (.aload_n 1, 1) := by decide +kernel
theorem dX4_becomes_6 : decode cX4_becomes 6 = .ok (.getfield 15, 3) := by decide +kernel
theorem dX4_becomes_9 : decode cX4_becomes 9 = .ok (.aload_n 1, 1) := by decide +kernel
theorem dX4_becomes_10 : decode cX4_becomes 10 = .ok (.getfield 18, 3) := by decide +kernel
theorem dX4_becomes_13 : decode cX4_becomes 13 = .ok (.aload_n 1, 1) := by decide +kernel
theorem dX4_becomes_14 : decode cX4_becomes 14 = .ok (.getfield 21, 3) := by decide +kernel
theorem dX4_becomes_17 : decode cX4_becomes 17 = .ok (.invokevirtual 36, 3) := by decide +kernel
theorem dX4_becomes_20 : decode cX4_becomes 20 = .ok (.aload_n 0, 1) := by decide +kernel
theorem dX4_becomes_21 : decode cX4_becomes 21 = .ok (.getfield 29, 3) := by decide +kernel
theorem dX4_becomes_24 : decode cX4_becomes 24 = .ok (.aload_n 1, 1) := by decide +kernel
theorem dX4_becomes_25 : decode cX4_becomes 25 = .ok (.getfield 29, 3) := by decide +kernel
theorem dX4_becomes_28 : decode cX4_becomes 28 = .ok (.invokevirtual 40, 3) := by decide +kernel
theorem dX4_becomes_31 : decode cX4_becomes 31 = .ok (.return_, 1) := by decide +kernel
theorem dX4_contextAhead_0 : decode cX4_contextAhead 0 = .ok (.iconst 0, 1) := by decide +kernel
theorem dX4_contextAhead_1 : decode cX4_contextAhead 1 = .ok (.istore_n 3, 1) := by decide +kernel
theorem dX4_contextAhead_2 : decode cX4_contextAhead 2 = .ok (.iload_n 1, 1) := by decide +kernel
theorem dX4_contextAhead_3 : decode cX4_contextAhead 3 = .ok (.iload_n 2, 1) := by decide +kernel
theorem dX4_contextAhead_4 : decode cX4_contextAhead 4 = .ok (.isub, 1) := by decide +kernel
theorem dX4_contextAhead_5 : decode cX4_contextAhead 5 = .ok (.istore 4, 2) := by decide +kernel
theorem dX4_contextAhead_7 : decode cX4_contextAhead 7 = .ok (.iload 4, 2) := by decide +kernel
theorem dX4_contextAhead_9 : decode cX4_contextAhead 9 = .ok (.iload_n 1, 1) := by decide +kernel
theorem dX4_contextAhead_10 : decode cX4_contextAhead 10 = .ok (.if_icmp .ge 23, 3) := by decide +kernel
theorem dX4_contextAhead_13 : decode cX4_contextAhead 13 = .ok (.iload_n 3, 1) := by decide +kernel
theorem dX4_contextAhead_14 : decode cX4_contextAhead 14 = .ok (.aload_n 0, 1) := by decide +kernel
theorem dX4_contextAhead_15 : decode cX4_contextAhead 15 = .ok (.getfield 29, 3) := by decide +kernel
theorem dX4_contextAhead_18 : decode cX4_contextAhead 18 = .ok (.iload 4, 2) := by decide +kernel
theorem dX4_contextAhead_20 : decode cX4_contextAhead 20 = .ok (.invokevirtual 44, 3) := by decide +kernel
theorem dX4_contextAhead_23 : decode cX4_contextAhead 23 = .ok (.invokestatic 48, 3) := by decide +kernel
theorem dX4_contextAhead_26 : decode cX4_contextAhead 26 = .ok (.istore_n 3, 1) := by decide +kernel
theorem dX4_contextAhead_27 : decode cX4_contextAhead 27 = .ok (.iinc 4 1, 3) := by decide +kernel
theorem dX4_contextAhead_30 : decode cX4_contextAhead 30 = .ok (.goto (-23), 3) := by decide +kernel
theorem dX4_contextAhead_33 : decode cX4_contextAhead 33 = .ok (.iload_n 3, 1) := by decide +kernel
theorem dX4_contextAhead_34 : decode cX4_contextAhead 34 = .ok (.ireturn, 1) := by decide +kernel
theorem dX5_init_0 : decode cX5_init 0 = .ok (.aload_n 0, 1) := by decide +kernel
theorem dX5_init_1 : decode cX5_init 1 = .ok (.invokespecial 3, 3) := by decide +kernel
theorem dX5_init_4 : decode cX5_init 4 = .ok (.aload_n 0, 1) := by decide +kernel
theorem dX5_init_5 : decode cX5_init 5 = .ok (.new 9, 3) := by decide +kernel
theorem dX5_init_8 : decode cX5_init 8 = .ok (.dup, 1) := by decide +kernel
theorem dX5_init_9 : decode cX5_init 9 = .ok (.sipush 722, 3) := by decide +kernel
theorem dX5_init_12 : decode cX5_init 12 = .ok (.invokespecial 11, 3) := by decide +kernel
theorem dX5_init_15 : decode cX5_init 15 = .ok (.putfield 14, 3) := by decide +kernel
theorem dX5_init_18 : decode cX5_init 18 = .ok (.aload_n 0, 1) := by decide +kernel
theorem dX5_init_19 : decode cX5_init 19 = .ok (.iconst 0, 1) := by decide +kernel
theorem dX5_init_20 : decode cX5_init 20 = .ok (.putfield 20, 3) := by decide +kernel
theorem dX5_init_23 : decode cX5_init 23 = .ok (.aload_n 0, 1) := by decide +kernel
theorem dX5_init_24 : decode cX5_init 24 = .ok (.ldc 24, 2) := by decide +kernel
theorem dX5_init_26 : decode cX5_init 26 = .ok (.putfield 25, 3) := by decide +kernel
theorem dX5_init_29 : decode cX5_init 29 = .ok (.aload_n 0, 1) := by decide +kernel
theorem dX5_init_30 : decode cX5_init 30 = .ok (.iconst 0, 1) := by decide +kernel
theorem dX5_init_31 : decode cX5_init 31 = .ok (.putfield 28, 3) := by decide +kernel
theorem dX5_init_34 : decode cX5_init 34 = .ok (.aload_n 0, 1) := by decide +kernel
theorem dX5_init_35 : decode cX5_init 35 = .ok (.iconst 0, 1) := by decide +kernel
theorem dX5_init_36 : decode cX5_init 36 = .ok (.putfield 31, 3) := by decide +kernel
theorem dX5_init_39 : decode cX5_init 39 = .ok (.aload_n 0, 1) := by decide +kernel
theorem dX5_init_40 : decode cX5_init 40 = .ok (.iconst 0, 1) := by decide +kernel
theorem dX5_init_41 : decode cX5_init 41 = .ok (.putfield 34, 3) := by decide +kernel
theorem dX5_init_44 : decode cX5_init 44 = .ok (.aload_n 0, 1) := by decide +kernel
theorem dX5_init_45 : decode cX5_init 45 = .ok (.iconst 0, 1) := by decide +kernel
theorem dX5_init_46 : decode cX5_init 46 = .ok (.putfield 38, 3) := by decide +kernel
theorem dX5_init_49 : decode cX5_init 49 = .ok (.aload_n 0, 1) := by decide +kernel
theorem dX5_init_50 : decode cX5_init 50 = .ok (.iconst 0, 1) := by decide +kernel
theorem dX5_init_51 : decode cX5_init 51 = .ok (.putfield 41, 3) := by decide +kernel
theorem dX5_init_54 : decode cX5_init 54 = .ok (.return_, 1) := by decide +kernel
theorem dX5_startsWriting_0 : decode cX5_startsWriting 0 = .ok (.aload_n 0, 1) := by decide +kernel
theorem dX5_startsWriting_1 : decode cX5_startsWriting 1 = .ok (.getfield 14, 3) := by decide +kernel
theorem dX5_startsWriting_4 : decode cX5_startsWriting 4 = .ok (.iconst 0, 1) := by decide +kernel
theorem dX5_startsWriting_5 : decode cX5_startsWriting 5 = .ok (.invokevirtual 44, 3) := by decide +kernel
theorem dX5_startsWriting_8 : decode cX5_startsWriting 8 = .ok (.aload_n 0, 1) := by decide +kernel
theorem dX5_startsWriting_9 : decode cX5_startsWriting 9 = .ok (.invokevirtual 47, 3) := by decide +kernel
theorem dX5_startsWriting_12 : decode cX5_startsWriting 12 = .ok (.aload_n 0, 1) := by decide +kernel
theorem dX5_startsWriting_13 : decode cX5_startsWriting 13 = .ok (.iconst 0, 1) := by decide +kernel
theorem dX5_startsWriting_14 : decode cX5_startsWriting 14 = .ok (.putfield 34, 3) := by decide +kernel
theorem dX5_startsWriting_17 : decode cX5_startsWriting 17 = .ok (.return_, 1) := by decide +kernel
theorem dX5_startsReading_0 : decode cX5_startsReading 0 = .ok (.aload_n 0, 1) := by decide +kernel
theorem dX5_startsReading_1 : decode cX5_startsReading 1 = .ok (.invokevirtual 47, 3) := by decide +kernel
theorem dX5_startsReading_4 : decode cX5_startsReading 4 = .ok (.aload_n 0, 1) := by decide +kernel
theorem dX5_startsReading_5 : decode cX5_startsReading 5 = .ok (.iconst 1, 1) := by decide +kernel
theorem dX5_startsReading_6 : decode cX5_startsReading 6 = .ok (.putfield 34, 3) := by decide +kernel
theorem dX5_startsReading_9 : decode cX5_startsReading 9 = .ok (.aload_n 0, 1) := by decide +kernel
theorem dX5_startsReading_10 : decode cX5_startsReading 10 = .ok (.iconst 0, 1) := by decide +kernel
theorem dX5_startsReading_11 : decode cX5_startsReading 11 = .ok (.putfield 38, 3) := by decide +kernel
theorem dX5_startsReading_14 : decode cX5_startsReading 14 = .ok (.iconst 0, 1) := by decide +kernel
theorem dX5_startsReading_15 : decode cX5_startsReading 15 = .ok (.istore_n 1, 1) := by decide +kernel
theorem dX5_startsReading_16 : decode cX5_startsReading 16 = .ok (.iload_n 1, 1) := by decide +kernel
theorem dX5_startsReading_17 : decode cX5_startsReading 17 = .ok (.bipush 16, 2) := by decide +kernel
theorem dX5_startsReading_19 : decode cX5_startsReading 19 = .ok (.if_icmp .ge 28, 3) := by decide +kernel
theorem dX5_startsReading_22 : decode cX5_startsReading 22 = .ok (.aload_n 0, 1) := by decide +kernel
theorem dX5_startsReading_23 : decode cX5_startsReading 23 = .ok (.iconst 2, 1) := by decide +kernel
theorem dX5_startsReading_24 : decode cX5_startsReading 24 = .ok (.aload_n 0, 1) := by decide +kernel
theorem dX5_startsReading_25 : decode cX5_startsReading 25 = .ok (.getfield 38, 3) := by decide +kernel
theorem dX5_startsReading_28 : decode cX5_startsReading 28 = .ok (.imul, 1) := by decide +kernel
theorem dX5_startsReading_29 : decode cX5_startsReading 29 = .ok (.aload_n 0, 1) := by decide +kernel
theorem dX5_startsReading_30 : decode cX5_startsReading 30 = .ok (.getfield 14, 3) := by decide +kernel
theorem dX5_startsReading_33 : decode cX5_startsReading 33 = .ok (.iload_n 1, 1) := by decide +kernel
theorem dX5_startsReading_34 : decode cX5_startsReading 34 = .ok (.invokevirtual 50, 3) := by decide +kernel
theorem dX5_startsReading_37 : decode cX5_startsReading 37 = .ok (.iadd, 1) := by decide +kernel
theorem dX5_startsReading_38 : decode cX5_startsReading 38 = .ok (.putfield 38, 3) := by decide +kernel
theorem dX5_startsReading_41 : decode cX5_startsReading 41 = .ok (.iinc 1 1, 3) := by decide +kernel
theorem dX5_startsReading_44 : decode cX5_startsReading 44 = .ok (.goto (-28), 3) := by decide +kernel
theorem dX5_startsReading_47 : decode cX5_startsReading 47 = .ok (.aload_n 0, 1) := by decide +kernel
theorem dX5_startsReading_48 : decode cX5_startsReading 48 = .ok (.bipush 16, 2) := by decide +kernel
theorem dX5_startsReading_50 : decode cX5_startsReading 50 = .ok (.putfield 41, 3) := by decide +kernel
theorem dX5_startsReading_53 : decode cX5_startsReading 53 = .ok (.return_, 1) := by decide +kernel
theorem dX5_endsLike_0 : decode cX5_endsLike 0 = .ok (.aload_n 0, 1) := by decide +kernel
theorem dX5_endsLike_1 : decode cX5_endsLike 1 = .ok (.getfield 14, 3) := by decide +kernel
theorem dX5_endsLike_4 : decode cX5_endsLike 4 = .ok (.aload_n 1, 1) := by decide +kernel
theorem dX5_endsLike_5 : decode cX5_endsLike 5 = .ok (.getfield 14, 3) := by decide +kernel
theorem dX5_endsLike_8 : decode cX5_endsLike 8 = .ok (.invokevirtual 54, 3) := by decide +kernel
theorem dX5_endsLike_11 : decode cX5_endsLike 11 = .ok (.aload_n 0, 1) := by decide +kernel
theorem dX5_endsLike_12 : decode cX5_endsLike 12 = .ok (.iconst 0, 1) := by decide +kernel
theorem dX5_endsLike_13 : decode cX5_endsLike 13 = .ok (.putfield 34, 3) := by decide +kernel
theorem dX5_endsLike_16 : decode cX5_endsLike 16 = .ok (.aload_n 0, 1) := by decide +kernel
theorem dX5_endsLike_17 : decode cX5_endsLike 17 = .ok (.aload_n 1, 1) := by decide +kernel
theorem dX5_endsLike_18 : decode cX5_endsLike 18 = .ok (.getfield 28, 3) := by decide +kernel
theorem dX5_endsLike_21 : decode cX5_endsLike 21 = .ok (.iconst 1, 1) := by decide +kernel
theorem dX5_endsLike_22 : decode cX5_endsLike 22 = .ok (.iadd, 1) := by decide +kernel
theorem dX5_endsLike_23 : decode cX5_endsLike 23 = .ok (.putfield 28, 3) := by decide +kernel
theorem dX5_endsLike_26 : decode cX5_endsLike 26 = .ok (.aload_n 0, 1) := by decide +kernel
theorem dX5_endsLike_27 : decode cX5_endsLike 27 = .ok (.aload_n 1, 1) := by decide +kernel
theorem dX5_endsLike_28 : decode cX5_endsLike 28 = .ok (.getfield 20, 3) := by decide +kernel
theorem dX5_endsLike_31 : decode cX5_endsLike 31 = .ok (.sipush 16384, 3) := by decide +kernel
theorem dX5_endsLike_34 : decode cX5_endsLike 34 = .ok (.if_icmp .ge 7, 3) := by decide +kernel
theorem dX5_endsLike_37 : decode cX5_endsLike 37 = .ok (.iconst 0, 1) := by decide +kernel
theorem dX5_endsLike_38 : decode cX5_endsLike 38 = .ok (.goto 4, 3) := by decide +kernel
theorem dX5_endsLike_41 : decode cX5_endsLike 41 = .ok (.iconst 1, 1) := by decide +kernel
theorem dX5_endsLike_42 : decode cX5_endsLike 42 = .ok (.invokevirtual 58, 3) := by decide +kernel
theorem dX5_endsLike_45 : decode cX5_endsLike 45 = .ok (.return_, 1) := by decide +kernel
theorem dX5_endedSize_0 : decode cX5_endedSize 0 = .ok (.aload_n 0, 1) := by decide +kernel
theorem dX5_endedSize_1 : decode cX5_endedSize 1 = .ok (.getfield 14, 3) := by decide +kernel
theorem dX5_endedSize_4 : decode cX5_endedSize 4 = .ok (.getfield 61, 3) := by decide +kernel
theorem dX5_endedSize_7 : decode cX5_endedSize 7 = .ok (.aload_n 0, 1) := by decide +kernel
theorem dX5_endedSize_8 : decode cX5_endedSize 8 = .ok (.getfield 28, 3) := by decide +kernel
theorem dX5_endedSize_11 : decode cX5_endedSize 11 = .ok (.iadd, 1) := by decide +kernel
theorem dX5_endedSize_12 : decode cX5_endedSize 12 = .ok (.iconst 2, 1) := by decide +kernel
theorem dX5_endedSize_13 : decode cX5_endedSize 13 = .ok (.iadd, 1) := by decide +kernel
theorem dX5_endedSize_14 : decode cX5_endedSize 14 = .ok (.ireturn, 1) := by decide +kernel
theorem dX5_wants_0 : decode cX5_wants 0 = .ok (.aload_n 0, 1) := by decide +kernel
theorem dX5_wants_1 : decode cX5_wants 1 = .ok (.iload_n 1, 1) := by decide +kernel
theorem dX5_wants_2 : decode cX5_wants 2 = .ok (.putfield 31, 3) := by decide +kernel
theorem dX5_wants_5 : decode cX5_wants 5 = .ok (.return_, 1) := by decide +kernel
theorem dX5_chooses_0 : decode cX5_chooses 0 = .ok (.aload_n 0, 1) := by decide +kernel
theorem dX5_chooses_1 : decode cX5_chooses 1 = .ok (.getfield 34, 3) := by decide +kernel
theorem dX5_chooses_4 : decode cX5_chooses 4 = .ok (.ifCond .ne 12, 3) := by decide +kernel
theorem dX5_chooses_7 : decode cX5_chooses 7 = .ok (.aload_n 1, 1) := by decide +kernel
theorem dX5_chooses_8 : decode cX5_chooses 8 = .ok (.aload_n 0, 1) := by decide +kernel
theorem dX5_chooses_9 : decode cX5_chooses 9 = .ok (.getfield 31, 3) := by decide +kernel
theorem dX5_chooses_12 : decode cX5_chooses 12 = .ok (.invokevirtual 64, 3) := by decide +kernel
theorem dX5_chooses_15 : decode cX5_chooses 15 = .ok (.ireturn, 1) := by decide +kernel
theorem dX5_chooses_16 : decode cX5_chooses 16 = .ok (.aload_n 0, 1) := by decide +kernel
theorem dX5_chooses_17 : decode cX5_chooses 17 = .ok (.getfield 25, 3) := by decide +kernel
theorem dX5_chooses_20 : decode cX5_chooses 20 = .ok (.aload_n 0, 1) := by decide +kernel
theorem dX5_chooses_21 : decode cX5_chooses 21 = .ok (.getfield 20, 3) := by decide +kernel
theorem dX5_chooses_24 : decode cX5_chooses 24 = .ok (.isub, 1) := by decide +kernel
theorem dX5_chooses_25 : decode cX5_chooses 25 = .ok (.iconst 1, 1) := by decide +kernel
theorem dX5_chooses_26 : decode cX5_chooses 26 = .ok (.iadd, 1) := by decide +kernel
theorem dX5_chooses_27 : decode cX5_chooses 27 = .ok (.istore_n 2, 1) := by decide +kernel
theorem dX5_chooses_28 : decode cX5_chooses 28 = .ok (.iload_n 2, 1) := by decide +kernel
theorem dX5_chooses_29 : decode cX5_chooses 29 = .ok (.ifCond .le 26, 3) := by decide +kernel
theorem dX5_chooses_32 : decode cX5_chooses 32 = .ok (.aload_n 0, 1) := by decide +kernel
theorem dX5_chooses_33 : decode cX5_chooses 33 = .ok (.getfield 38, 3) := by decide +kernel
theorem dX5_chooses_36 : decode cX5_chooses 36 = .ok (.aload_n 0, 1) := by decide +kernel
theorem dX5_chooses_37 : decode cX5_chooses 37 = .ok (.getfield 20, 3) := by decide +kernel
theorem dX5_chooses_40 : decode cX5_chooses 40 = .ok (.isub, 1) := by decide +kernel
theorem dX5_chooses_41 : decode cX5_chooses 41 = .ok (.iconst 1, 1) := by decide +kernel
theorem dX5_chooses_42 : decode cX5_chooses 42 = .ok (.iadd, 1) := by decide +kernel
theorem dX5_chooses_43 : decode cX5_chooses 43 = .ok (.aload_n 1, 1) := by decide +kernel
theorem dX5_chooses_44 : decode cX5_chooses 44 = .ok (.getfield 69, 3) := by decide +kernel
theorem dX5_chooses_47 : decode cX5_chooses 47 = .ok (.imul, 1) := by decide +kernel
theorem dX5_chooses_48 : decode cX5_chooses 48 = .ok (.iconst 1, 1) := by decide +kernel
theorem dX5_chooses_49 : decode cX5_chooses 49 = .ok (.isub, 1) := by decide +kernel
theorem dX5_chooses_50 : decode cX5_chooses 50 = .ok (.iload_n 2, 1) := by decide +kernel
theorem dX5_chooses_51 : decode cX5_chooses 51 = .ok (.idiv, 1) := by decide +kernel
theorem dX5_chooses_52 : decode cX5_chooses 52 = .ok (.goto 4, 3) := by decide +kernel
theorem dX5_chooses_55 : decode cX5_chooses 55 = .ok (.iconst 0, 1) := by decide +kernel
theorem dX5_chooses_56 : decode cX5_chooses 56 = .ok (.istore_n 3, 1) := by decide +kernel
theorem dX5_chooses_57 : decode cX5_chooses 57 = .ok (.aload_n 1, 1) := by decide +kernel
theorem dX5_chooses_58 : decode cX5_chooses 58 = .ok (.iload_n 3, 1) := by decide +kernel
theorem dX5_chooses_59 : decode cX5_chooses 59 = .ok (.invokevirtual 72, 3) := by decide +kernel
theorem dX5_chooses_62 : decode cX5_chooses 62 = .ok (.ireturn, 1) := by decide +kernel
theorem dX5_takes_0 : decode cX5_takes 0 = .ok (.iload_n 3, 1) := by decide +kernel
theorem dX5_takes_1 : decode cX5_takes 1 = .ok (.ifCond .gt 4, 3) := by decide +kernel
theorem dX5_takes_4 : decode cX5_takes 4 = .ok (.return_, 1) := by decide +kernel
theorem dX5_takes_5 : decode cX5_takes 5 = .ok (.aload_n 0, 1) := by decide +kernel
theorem dX5_takes_6 : decode cX5_takes 6 = .ok (.getfield 25, 3) := by decide +kernel
theorem dX5_takes_9 : decode cX5_takes 9 = .ok (.aload_n 0, 1) := by decide +kernel
theorem dX5_takes_10 : decode cX5_takes 10 = .ok (.getfield 20, 3) := by decide +kernel
theorem dX5_takes_13 : decode cX5_takes 13 = .ok (.isub, 1) := by decide +kernel
theorem dX5_takes_14 : decode cX5_takes 14 = .ok (.iconst 1, 1) := by decide +kernel
theorem dX5_takes_15 : decode cX5_takes 15 = .ok (.iadd, 1) := by decide +kernel
theorem dX5_takes_16 : decode cX5_takes 16 = .ok (.istore 4, 2) := by decide +kernel
theorem dX5_takes_18 : decode cX5_takes 18 = .ok (.aload_n 0, 1) := by decide +kernel
theorem dX5_takes_19 : decode cX5_takes 19 = .ok (.aload_n 0, 1) := by decide +kernel
theorem dX5_takes_20 : decode cX5_takes 20 = .ok (.getfield 20, 3) := by decide +kernel
theorem dX5_takes_23 : decode cX5_takes 23 = .ok (.iload 4, 2) := by decide +kernel
theorem dX5_takes_25 : decode cX5_takes 25 = .ok (.iload_n 1, 1) := by decide +kernel
theorem dX5_takes_26 : decode cX5_takes 26 = .ok (.iload_n 2, 1) := by decide +kernel
theorem dX5_takes_27 : decode cX5_takes 27 = .ok (.iadd, 1) := by decide +kernel
theorem dX5_takes_28 : decode cX5_takes 28 = .ok (.imul, 1) := by decide +kernel
theorem dX5_takes_29 : decode cX5_takes 29 = .ok (.iload_n 3, 1) := by decide +kernel
theorem dX5_takes_30 : decode cX5_takes 30 = .ok (.idiv, 1) := by decide +kernel
theorem dX5_takes_31 : decode cX5_takes 31 = .ok (.iadd, 1) := by decide +kernel
theorem dX5_takes_32 : decode cX5_takes 32 = .ok (.iconst 1, 1) := by decide +kernel
theorem dX5_takes_33 : decode cX5_takes 33 = .ok (.isub, 1) := by decide +kernel
theorem dX5_takes_34 : decode cX5_takes 34 = .ok (.putfield 25, 3) := by decide +kernel
theorem dX5_takes_37 : decode cX5_takes 37 = .ok (.aload_n 0, 1) := by decide +kernel
theorem dX5_takes_38 : decode cX5_takes 38 = .ok (.aload_n 0, 1) := by decide +kernel
theorem dX5_takes_39 : decode cX5_takes 39 = .ok (.getfield 20, 3) := by decide +kernel
theorem dX5_takes_42 : decode cX5_takes 42 = .ok (.iload 4, 2) := by decide +kernel
theorem dX5_takes_44 : decode cX5_takes 44 = .ok (.iload_n 1, 1) := by decide +kernel
theorem dX5_takes_45 : decode cX5_takes 45 = .ok (.imul, 1) := by decide +kernel
theorem dX5_takes_46 : decode cX5_takes 46 = .ok (.iload_n 3, 1) := by decide +kernel
theorem dX5_takes_47 : decode cX5_takes 47 = .ok (.idiv, 1) := by decide +kernel
theorem dX5_takes_48 : decode cX5_takes 48 = .ok (.iadd, 1) := by decide +kernel
theorem dX5_takes_49 : decode cX5_takes 49 = .ok (.putfield 20, 3) := by decide +kernel
theorem dX5_takes_52 : decode cX5_takes 52 = .ok (.iconst 0, 1) := by decide +kernel
theorem dX5_takes_53 : decode cX5_takes 53 = .ok (.istore 5, 2) := by decide +kernel
theorem dX5_takes_55 : decode cX5_takes 55 = .ok (.iload 5, 2) := by decide +kernel
theorem dX5_takes_57 : decode cX5_takes 57 = .ok (.bipush 64, 2) := by decide +kernel
theorem dX5_takes_59 : decode cX5_takes 59 = .ok (.if_icmp .ge 94, 3) := by decide +kernel
theorem dX5_takes_62 : decode cX5_takes 62 = .ok (.aload_n 0, 1) := by decide +kernel
theorem dX5_takes_63 : decode cX5_takes 63 = .ok (.getfield 25, 3) := by decide +kernel
theorem dX5_takes_66 : decode cX5_takes 66 = .ok (.ldc 75, 2) := by decide +kernel
theorem dX5_takes_68 : decode cX5_takes 68 = .ok (.if_icmp .ge 16, 3) := by decide +kernel
theorem dX5_takes_71 : decode cX5_takes 71 = .ok (.aload_n 0, 1) := by decide +kernel
theorem dX5_takes_72 : decode cX5_takes 72 = .ok (.iconst 0, 1) := by decide +kernel
theorem dX5_takes_73 : decode cX5_takes 73 = .ok (.invokevirtual 58, 3) := by decide +kernel
theorem dX5_takes_76 : decode cX5_takes 76 = .ok (.aload_n 0, 1) := by decide +kernel
theorem dX5_takes_77 : decode cX5_takes 77 = .ok (.iconst 0, 1) := by decide +kernel
theorem dX5_takes_78 : decode cX5_takes 78 = .ok (.invokevirtual 76, 3) := by decide +kernel
theorem dX5_takes_81 : decode cX5_takes 81 = .ok (.goto 66, 3) := by decide +kernel
theorem dX5_takes_84 : decode cX5_takes 84 = .ok (.aload_n 0, 1) := by decide +kernel
theorem dX5_takes_85 : decode cX5_takes 85 = .ok (.getfield 20, 3) := by decide +kernel
theorem dX5_takes_88 : decode cX5_takes 88 = .ok (.ldc 75, 2) := by decide +kernel
theorem dX5_takes_90 : decode cX5_takes 90 = .ok (.if_icmp .lt 17, 3) := by decide +kernel
theorem dX5_takes_93 : decode cX5_takes 93 = .ok (.aload_n 0, 1) := by decide +kernel
theorem dX5_takes_94 : decode cX5_takes 94 = .ok (.iconst 1, 1) := by decide +kernel
theorem dX5_takes_95 : decode cX5_takes 95 = .ok (.invokevirtual 58, 3) := by decide +kernel
theorem dX5_takes_98 : decode cX5_takes 98 = .ok (.aload_n 0, 1) := by decide +kernel
theorem dX5_takes_99 : decode cX5_takes 99 = .ok (.ldc 75, 2) := by decide +kernel
theorem dX5_takes_101 : decode cX5_takes 101 = .ok (.invokevirtual 76, 3) := by decide +kernel
theorem dX5_takes_104 : decode cX5_takes 104 = .ok (.goto 43, 3) := by decide +kernel
theorem dX5_takes_107 : decode cX5_takes 107 = .ok (.aload_n 0, 1) := by decide +kernel
theorem dX5_takes_108 : decode cX5_takes 108 = .ok (.getfield 20, 3) := by decide +kernel
theorem dX5_takes_111 : decode cX5_takes 111 = .ok (.sipush 16384, 3) := by decide +kernel
theorem dX5_takes_114 : decode cX5_takes 114 = .ok (.if_icmp .lt 32, 3) := by decide +kernel
theorem dX5_takes_117 : decode cX5_takes 117 = .ok (.aload_n 0, 1) := by decide +kernel
theorem dX5_takes_118 : decode cX5_takes 118 = .ok (.getfield 25, 3) := by decide +kernel
theorem dX5_takes_121 : decode cX5_takes 121 = .ok (.ldc 79, 2) := by decide +kernel
theorem dX5_takes_123 : decode cX5_takes 123 = .ok (.if_icmp .ge 23, 3) := by decide +kernel
theorem dX5_takes_126 : decode cX5_takes 126 = .ok (.aload_n 0, 1) := by decide +kernel
theorem dX5_takes_127 : decode cX5_takes 127 = .ok (.dup, 1) := by decide +kernel
theorem dX5_takes_128 : decode cX5_takes 128 = .ok (.getfield 28, 3) := by decide +kernel
theorem dX5_takes_131 : decode cX5_takes 131 = .ok (.iconst 1, 1) := by decide +kernel
theorem dX5_takes_132 : decode cX5_takes 132 = .ok (.iadd, 1) := by decide +kernel
theorem dX5_takes_133 : decode cX5_takes 133 = .ok (.putfield 28, 3) := by decide +kernel
theorem dX5_takes_136 : decode cX5_takes 136 = .ok (.aload_n 0, 1) := by decide +kernel
theorem dX5_takes_137 : decode cX5_takes 137 = .ok (.sipush 16384, 3) := by decide +kernel
theorem dX5_takes_140 : decode cX5_takes 140 = .ok (.invokevirtual 76, 3) := by decide +kernel
theorem dX5_takes_143 : decode cX5_takes 143 = .ok (.goto 4, 3) := by decide +kernel
theorem dX5_takes_146 : decode cX5_takes 146 = .ok (.return_, 1) := by decide +kernel
theorem dX5_takes_147 : decode cX5_takes 147 = .ok (.iinc 5 1, 3) := by decide +kernel
theorem dX5_takes_150 : decode cX5_takes 150 = .ok (.goto (-95), 3) := by decide +kernel
theorem dX5_takes_153 : decode cX5_takes 153 = .ok (.return_, 1) := by decide +kernel
theorem dX5_isWhole_0 : decode cX5_isWhole 0 = .ok (.aload_n 0, 1) := by decide +kernel
theorem dX5_isWhole_1 : decode cX5_isWhole 1 = .ok (.iconst 0, 1) := by decide +kernel
theorem dX5_isWhole_2 : decode cX5_isWhole 2 = .ok (.putfield 20, 3) := by decide +kernel
theorem dX5_isWhole_5 : decode cX5_isWhole 5 = .ok (.aload_n 0, 1) := by decide +kernel
theorem dX5_isWhole_6 : decode cX5_isWhole 6 = .ok (.ldc 24, 2) := by decide +kernel
theorem dX5_isWhole_8 : decode cX5_isWhole 8 = .ok (.putfield 25, 3) := by decide +kernel
theorem dX5_isWhole_11 : decode cX5_isWhole 11 = .ok (.aload_n 0, 1) := by decide +kernel
theorem dX5_isWhole_12 : decode cX5_isWhole 12 = .ok (.iconst 0, 1) := by decide +kernel
theorem dX5_isWhole_13 : decode cX5_isWhole 13 = .ok (.putfield 28, 3) := by decide +kernel
theorem dX5_isWhole_16 : decode cX5_isWhole 16 = .ok (.return_, 1) := by decide +kernel
theorem dX5_doubles_0 : decode cX5_doubles 0 = .ok (.aload_n 0, 1) := by decide +kernel
theorem dX5_doubles_1 : decode cX5_doubles 1 = .ok (.iconst 2, 1) := by decide +kernel
theorem dX5_doubles_2 : decode cX5_doubles 2 = .ok (.aload_n 0, 1) := by decide +kernel
theorem dX5_doubles_3 : decode cX5_doubles 3 = .ok (.getfield 20, 3) := by decide +kernel
theorem dX5_doubles_6 : decode cX5_doubles 6 = .ok (.iload_n 1, 1) := by decide +kernel
theorem dX5_doubles_7 : decode cX5_doubles 7 = .ok (.isub, 1) := by decide +kernel
theorem dX5_doubles_8 : decode cX5_doubles 8 = .ok (.imul, 1) := by decide +kernel
theorem dX5_doubles_9 : decode cX5_doubles 9 = .ok (.putfield 20, 3) := by decide +kernel
theorem dX5_doubles_12 : decode cX5_doubles 12 = .ok (.aload_n 0, 1) := by decide +kernel
theorem dX5_doubles_13 : decode cX5_doubles 13 = .ok (.iconst 2, 1) := by decide +kernel
theorem dX5_doubles_14 : decode cX5_doubles 14 = .ok (.aload_n 0, 1) := by decide +kernel
theorem dX5_doubles_15 : decode cX5_doubles 15 = .ok (.getfield 25, 3) := by decide +kernel
theorem dX5_doubles_18 : decode cX5_doubles 18 = .ok (.iload_n 1, 1) := by decide +kernel
theorem dX5_doubles_19 : decode cX5_doubles 19 = .ok (.isub, 1) := by decide +kernel
theorem dX5_doubles_20 : decode cX5_doubles 20 = .ok (.imul, 1) := by decide +kernel
theorem dX5_doubles_21 : decode cX5_doubles 21 = .ok (.iconst 1, 1) := by decide +kernel
theorem dX5_doubles_22 : decode cX5_doubles 22 = .ok (.iadd, 1) := by decide +kernel
theorem dX5_doubles_23 : decode cX5_doubles 23 = .ok (.putfield 25, 3) := by decide +kernel
theorem dX5_doubles_26 : decode cX5_doubles 26 = .ok (.aload_n 0, 1) := by decide +kernel
theorem dX5_doubles_27 : decode cX5_doubles 27 = .ok (.getfield 34, 3) := by decide +kernel
theorem dX5_doubles_30 : decode cX5_doubles 30 = .ok (.ifCond .ne 4, 3) := by decide +kernel
theorem dX5_doubles_33 : decode cX5_doubles 33 = .ok (.return_, 1) := by decide +kernel
theorem dX5_doubles_34 : decode cX5_doubles 34 = .ok (.aload_n 0, 1) := by decide +kernel
theorem dX5_doubles_35 : decode cX5_doubles 35 = .ok (.iconst 2, 1) := by decide +kernel
theorem dX5_doubles_36 : decode cX5_doubles 36 = .ok (.aload_n 0, 1) := by decide +kernel
theorem dX5_doubles_37 : decode cX5_doubles 37 = .ok (.getfield 38, 3) := by decide +kernel
theorem dX5_doubles_40 : decode cX5_doubles 40 = .ok (.iload_n 1, 1) := by decide +kernel
theorem dX5_doubles_41 : decode cX5_doubles 41 = .ok (.isub, 1) := by decide +kernel
theorem dX5_doubles_42 : decode cX5_doubles 42 = .ok (.imul, 1) := by decide +kernel
theorem dX5_doubles_43 : decode cX5_doubles 43 = .ok (.aload_n 0, 1) := by decide +kernel
theorem dX5_doubles_44 : decode cX5_doubles 44 = .ok (.getfield 14, 3) := by decide +kernel
theorem dX5_doubles_47 : decode cX5_doubles 47 = .ok (.aload_n 0, 1) := by decide +kernel
theorem dX5_doubles_48 : decode cX5_doubles 48 = .ok (.getfield 41, 3) := by decide +kernel
theorem dX5_doubles_51 : decode cX5_doubles 51 = .ok (.invokevirtual 50, 3) := by decide +kernel
theorem dX5_doubles_54 : decode cX5_doubles 54 = .ok (.iadd, 1) := by decide +kernel
theorem dX5_doubles_55 : decode cX5_doubles 55 = .ok (.putfield 38, 3) := by decide +kernel
theorem dX5_doubles_58 : decode cX5_doubles 58 = .ok (.aload_n 0, 1) := by decide +kernel
theorem dX5_doubles_59 : decode cX5_doubles 59 = .ok (.dup, 1) := by decide +kernel
theorem dX5_doubles_60 : decode cX5_doubles 60 = .ok (.getfield 41, 3) := by decide +kernel
theorem dX5_doubles_63 : decode cX5_doubles 63 = .ok (.iconst 1, 1) := by decide +kernel
theorem dX5_doubles_64 : decode cX5_doubles 64 = .ok (.iadd, 1) := by decide +kernel
theorem dX5_doubles_65 : decode cX5_doubles 65 = .ok (.putfield 41, 3) := by decide +kernel
theorem dX5_doubles_68 : decode cX5_doubles 68 = .ok (.return_, 1) := by decide +kernel
theorem dX5_writesBit_0 : decode cX5_writesBit 0 = .ok (.aload_n 0, 1) := by decide +kernel
theorem dX5_writesBit_1 : decode cX5_writesBit 1 = .ok (.getfield 34, 3) := by decide +kernel
theorem dX5_writesBit_4 : decode cX5_writesBit 4 = .ok (.ifCond .eq 4, 3) := by decide +kernel
theorem dX5_writesBit_7 : decode cX5_writesBit 7 = .ok (.return_, 1) := by decide +kernel
theorem dX5_writesBit_8 : decode cX5_writesBit 8 = .ok (.aload_n 0, 1) := by decide +kernel
theorem dX5_writesBit_9 : decode cX5_writesBit 9 = .ok (.getfield 14, 3) := by decide +kernel
theorem dX5_writesBit_12 : decode cX5_writesBit 12 = .ok (.iload_n 1, 1) := by decide +kernel
theorem dX5_writesBit_13 : decode cX5_writesBit 13 = .ok (.invokevirtual 80, 3) := by decide +kernel
theorem dX5_writesBit_16 : decode cX5_writesBit 16 = .ok (.iconst 0, 1) := by decide +kernel
theorem dX5_writesBit_17 : decode cX5_writesBit 17 = .ok (.istore_n 2, 1) := by decide +kernel
theorem dX5_writesBit_18 : decode cX5_writesBit 18 = .ok (.iload_n 2, 1) := by decide +kernel
theorem dX5_writesBit_19 : decode cX5_writesBit 19 = .ok (.aload_n 0, 1) := by decide +kernel
theorem dX5_writesBit_20 : decode cX5_writesBit 20 = .ok (.getfield 28, 3) := by decide +kernel
theorem dX5_writesBit_23 : decode cX5_writesBit 23 = .ok (.if_icmp .ge 26, 3) := by decide +kernel
theorem dX5_writesBit_26 : decode cX5_writesBit 26 = .ok (.iload_n 2, 1) := by decide +kernel
theorem dX5_writesBit_27 : decode cX5_writesBit 27 = .ok (.sipush 722, 3) := by decide +kernel
theorem dX5_writesBit_30 : decode cX5_writesBit 30 = .ok (.if_icmp .ge 19, 3) := by decide +kernel
theorem dX5_writesBit_33 : decode cX5_writesBit 33 = .ok (.aload_n 0, 1) := by decide +kernel
theorem dX5_writesBit_34 : decode cX5_writesBit 34 = .ok (.getfield 14, 3) := by decide +kernel
theorem dX5_writesBit_37 : decode cX5_writesBit 37 = .ok (.iconst 1, 1) := by decide +kernel
theorem dX5_writesBit_38 : decode cX5_writesBit 38 = .ok (.iload_n 1, 1) := by decide +kernel
theorem dX5_writesBit_39 : decode cX5_writesBit 39 = .ok (.isub, 1) := by decide +kernel
theorem dX5_writesBit_40 : decode cX5_writesBit 40 = .ok (.invokevirtual 80, 3) := by decide +kernel
theorem dX5_writesBit_43 : decode cX5_writesBit 43 = .ok (.iinc 2 1, 3) := by decide +kernel
theorem dX5_writesBit_46 : decode cX5_writesBit 46 = .ok (.goto (-28), 3) := by decide +kernel
theorem dX5_writesBit_49 : decode cX5_writesBit 49 = .ok (.aload_n 0, 1) := by decide +kernel
theorem dX5_writesBit_50 : decode cX5_writesBit 50 = .ok (.iconst 0, 1) := by decide +kernel
theorem dX5_writesBit_51 : decode cX5_writesBit 51 = .ok (.putfield 28, 3) := by decide +kernel
theorem dX5_writesBit_54 : decode cX5_writesBit 54 = .ok (.return_, 1) := by decide +kernel
theorem dX6_init_0 : decode cX6_init 0 = .ok (.aload_n 0, 1) := by decide +kernel
theorem dX6_init_1 : decode cX6_init 1 = .ok (.invokespecial 1, 3) := by decide +kernel
theorem dX6_init_4 : decode cX6_init 4 = .ok (.aload_n 0, 1) := by decide +kernel
theorem dX6_init_5 : decode cX6_init 5 = .ok (.iconst 0, 1) := by decide +kernel
theorem dX6_init_6 : decode cX6_init 6 = .ok (.putfield 7, 3) := by decide +kernel
theorem dX6_init_9 : decode cX6_init 9 = .ok (.aload_n 0, 1) := by decide +kernel
theorem dX6_init_10 : decode cX6_init 10 = .ok (.iload_n 1, 1) := by decide +kernel
theorem dX6_init_11 : decode cX6_init 11 = .ok (.iconst 0, 1) := by decide +kernel
theorem dX6_init_12 : decode cX6_init 12 = .ok (.invokestatic 13, 3) := by decide +kernel
theorem dX6_init_15 : decode cX6_init 15 = .ok (.newarray .int, 2) := by decide +kernel
theorem dX6_init_17 : decode cX6_init 17 = .ok (.putfield 19, 3) := by decide +kernel
theorem dX6_init_20 : decode cX6_init 20 = .ok (.return_, 1) := by decide +kernel
theorem dX6_isFull_0 : decode cX6_isFull 0 = .ok (.aload_n 0, 1) := by decide +kernel
theorem dX6_isFull_1 : decode cX6_isFull 1 = .ok (.getfield 7, 3) := by decide +kernel
theorem dX6_isFull_4 : decode cX6_isFull 4 = .ok (.aload_n 0, 1) := by decide +kernel
theorem dX6_isFull_5 : decode cX6_isFull 5 = .ok (.getfield 19, 3) := by decide +kernel
theorem dX6_isFull_8 : decode cX6_isFull 8 = .ok (.arraylength, 1) := by decide +kernel
theorem dX6_isFull_9 : decode cX6_isFull 9 = .ok (.if_icmp .lt 7, 3) := by decide +kernel
theorem dX6_isFull_12 : decode cX6_isFull 12 = .ok (.iconst 1, 1) := by decide +kernel
theorem dX6_isFull_13 : decode cX6_isFull 13 = .ok (.goto 4, 3) := by decide +kernel
theorem dX6_isFull_16 : decode cX6_isFull 16 = .ok (.iconst 0, 1) := by decide +kernel
theorem dX6_isFull_17 : decode cX6_isFull 17 = .ok (.ireturn, 1) := by decide +kernel
theorem dX6_at_0 : decode cX6_at 0 = .ok (.iload_n 1, 1) := by decide +kernel
theorem dX6_at_1 : decode cX6_at 1 = .ok (.ifCond .lt 29, 3) := by decide +kernel
theorem dX6_at_4 : decode cX6_at 4 = .ok (.iload_n 1, 1) := by decide +kernel
theorem dX6_at_5 : decode cX6_at 5 = .ok (.aload_n 0, 1) := by decide +kernel
theorem dX6_at_6 : decode cX6_at 6 = .ok (.getfield 7, 3) := by decide +kernel
theorem dX6_at_9 : decode cX6_at 9 = .ok (.if_icmp .ge 21, 3) := by decide +kernel
theorem dX6_at_12 : decode cX6_at 12 = .ok (.iload_n 1, 1) := by decide +kernel
theorem dX6_at_13 : decode cX6_at 13 = .ok (.aload_n 0, 1) := by decide +kernel
theorem dX6_at_14 : decode cX6_at 14 = .ok (.getfield 19, 3) := by decide +kernel
theorem dX6_at_17 : decode cX6_at 17 = .ok (.arraylength, 1) := by decide +kernel
theorem dX6_at_18 : decode cX6_at 18 = .ok (.if_icmp .ge 12, 3) := by decide +kernel
theorem dX6_at_21 : decode cX6_at 21 = .ok (.aload_n 0, 1) := by decide +kernel
theorem dX6_at_22 : decode cX6_at 22 = .ok (.getfield 19, 3) := by decide +kernel
theorem dX6_at_25 : decode cX6_at 25 = .ok (.iload_n 1, 1) := by decide +kernel
theorem dX6_at_26 : decode cX6_at 26 = .ok (.iaload, 1) := by decide +kernel
theorem dX6_at_27 : decode cX6_at 27 = .ok (.goto 4, 3) := by decide +kernel
theorem dX6_at_30 : decode cX6_at 30 = .ok (.iconst 0, 1) := by decide +kernel
theorem dX6_at_31 : decode cX6_at 31 = .ok (.ireturn, 1) := by decide +kernel
theorem dX6_puts_0 : decode cX6_puts 0 = .ok (.aload_n 0, 1) := by decide +kernel
theorem dX6_puts_1 : decode cX6_puts 1 = .ok (.getfield 7, 3) := by decide +kernel
theorem dX6_puts_4 : decode cX6_puts 4 = .ok (.ifCond .lt 15, 3) := by decide +kernel
theorem dX6_puts_7 : decode cX6_puts 7 = .ok (.aload_n 0, 1) := by decide +kernel
theorem dX6_puts_8 : decode cX6_puts 8 = .ok (.getfield 7, 3) := by decide +kernel
theorem dX6_puts_11 : decode cX6_puts 11 = .ok (.aload_n 0, 1) := by decide +kernel
theorem dX6_puts_12 : decode cX6_puts 12 = .ok (.getfield 19, 3) := by decide +kernel
theorem dX6_puts_15 : decode cX6_puts 15 = .ok (.arraylength, 1) := by decide +kernel
theorem dX6_puts_16 : decode cX6_puts 16 = .ok (.if_icmp .lt 4, 3) := by decide +kernel
theorem dX6_puts_19 : decode cX6_puts 19 = .ok (.return_, 1) := by decide +kernel
theorem dX6_puts_20 : decode cX6_puts 20 = .ok (.aload_n 0, 1) := by decide +kernel
theorem dX6_puts_21 : decode cX6_puts 21 = .ok (.getfield 19, 3) := by decide +kernel
theorem dX6_puts_24 : decode cX6_puts 24 = .ok (.aload_n 0, 1) := by decide +kernel
theorem dX6_puts_25 : decode cX6_puts 25 = .ok (.getfield 7, 3) := by decide +kernel
theorem dX6_puts_28 : decode cX6_puts 28 = .ok (.iload_n 1, 1) := by decide +kernel
theorem dX6_puts_29 : decode cX6_puts 29 = .ok (.iastore, 1) := by decide +kernel
theorem dX6_puts_30 : decode cX6_puts 30 = .ok (.aload_n 0, 1) := by decide +kernel
theorem dX6_puts_31 : decode cX6_puts 31 = .ok (.dup, 1) := by decide +kernel
theorem dX6_puts_32 : decode cX6_puts 32 = .ok (.getfield 7, 3) := by decide +kernel
theorem dX6_puts_35 : decode cX6_puts 35 = .ok (.iconst 1, 1) := by decide +kernel
theorem dX6_puts_36 : decode cX6_puts 36 = .ok (.iadd, 1) := by decide +kernel
theorem dX6_puts_37 : decode cX6_puts 37 = .ok (.putfield 7, 3) := by decide +kernel
theorem dX6_puts_40 : decode cX6_puts 40 = .ok (.return_, 1) := by decide +kernel
theorem dX6_shortens_0 : decode cX6_shortens 0 = .ok (.iload_n 1, 1) := by decide +kernel
theorem dX6_shortens_1 : decode cX6_shortens 1 = .ok (.ifCond .lt 16, 3) := by decide +kernel
theorem dX6_shortens_4 : decode cX6_shortens 4 = .ok (.iload_n 1, 1) := by decide +kernel
theorem dX6_shortens_5 : decode cX6_shortens 5 = .ok (.aload_n 0, 1) := by decide +kernel
theorem dX6_shortens_6 : decode cX6_shortens 6 = .ok (.getfield 7, 3) := by decide +kernel
theorem dX6_shortens_9 : decode cX6_shortens 9 = .ok (.if_icmp .ge 8, 3) := by decide +kernel
theorem dX6_shortens_12 : decode cX6_shortens 12 = .ok (.aload_n 0, 1) := by decide +kernel
theorem dX6_shortens_13 : decode cX6_shortens 13 = .ok (.iload_n 1, 1) := by decide +kernel
theorem dX6_shortens_14 : decode cX6_shortens 14 = .ok (.putfield 7, 3) := by decide +kernel
theorem dX6_shortens_17 : decode cX6_shortens 17 = .ok (.return_, 1) := by decide +kernel
theorem dX6_copies_0 : decode cX6_copies 0 = .ok (.aload_n 1, 1) := by decide +kernel
theorem dX6_copies_1 : decode cX6_copies 1 = .ok (.getfield 7, 3) := by decide +kernel
theorem dX6_copies_4 : decode cX6_copies 4 = .ok (.istore_n 2, 1) := by decide +kernel
theorem dX6_copies_5 : decode cX6_copies 5 = .ok (.aload_n 0, 1) := by decide +kernel
theorem dX6_copies_6 : decode cX6_copies 6 = .ok (.iconst 0, 1) := by decide +kernel
theorem dX6_copies_7 : decode cX6_copies 7 = .ok (.putfield 7, 3) := by decide +kernel
theorem dX6_copies_10 : decode cX6_copies 10 = .ok (.iconst 0, 1) := by decide +kernel
theorem dX6_copies_11 : decode cX6_copies 11 = .ok (.istore_n 3, 1) := by decide +kernel
theorem dX6_copies_12 : decode cX6_copies 12 = .ok (.iload_n 3, 1) := by decide +kernel
theorem dX6_copies_13 : decode cX6_copies 13 = .ok (.iload_n 2, 1) := by decide +kernel
theorem dX6_copies_14 : decode cX6_copies 14 = .ok (.if_icmp .ge 18, 3) := by decide +kernel
theorem dX6_copies_17 : decode cX6_copies 17 = .ok (.aload_n 0, 1) := by decide +kernel
theorem dX6_copies_18 : decode cX6_copies 18 = .ok (.aload_n 1, 1) := by decide +kernel
theorem dX6_copies_19 : decode cX6_copies 19 = .ok (.iload_n 3, 1) := by decide +kernel
theorem dX6_copies_20 : decode cX6_copies 20 = .ok (.invokevirtual 23, 3) := by decide +kernel
theorem dX6_copies_23 : decode cX6_copies 23 = .ok (.invokevirtual 27, 3) := by decide +kernel
theorem dX6_copies_26 : decode cX6_copies 26 = .ok (.iinc 3 1, 3) := by decide +kernel
theorem dX6_copies_29 : decode cX6_copies 29 = .ok (.goto (-17), 3) := by decide +kernel
theorem dX6_copies_32 : decode cX6_copies 32 = .ok (.return_, 1) := by decide +kernel
theorem dX7_init_0 : decode cX7_init 0 = .ok (.aload_n 0, 1) := by decide +kernel
theorem dX7_init_1 : decode cX7_init 1 = .ok (.invokespecial 3, 3) := by decide +kernel
theorem dX7_init_4 : decode cX7_init 4 = .ok (.aload_n 0, 1) := by decide +kernel
theorem dX7_init_5 : decode cX7_init 5 = .ok (.iconst 5, 1) := by decide +kernel
theorem dX7_init_6 : decode cX7_init 6 = .ok (.newarray .int, 2) := by decide +kernel
theorem dX7_init_8 : decode cX7_init 8 = .ok (.putfield 9, 3) := by decide +kernel
theorem dX7_init_11 : decode cX7_init 11 = .ok (.aload_n 0, 1) := by decide +kernel
theorem dX7_init_12 : decode cX7_init 12 = .ok (.iconst 0, 1) := by decide +kernel
theorem dX7_init_13 : decode cX7_init 13 = .ok (.putfield 15, 3) := by decide +kernel
theorem dX7_init_16 : decode cX7_init 16 = .ok (.aload_n 0, 1) := by decide +kernel
theorem dX7_init_17 : decode cX7_init 17 = .ok (.iconst 0, 1) := by decide +kernel
theorem dX7_init_18 : decode cX7_init 18 = .ok (.putfield 19, 3) := by decide +kernel
theorem dX7_init_21 : decode cX7_init 21 = .ok (.aload_n 0, 1) := by decide +kernel
theorem dX7_init_22 : decode cX7_init 22 = .ok (.iconst 0, 1) := by decide +kernel
theorem dX7_init_23 : decode cX7_init 23 = .ok (.putfield 22, 3) := by decide +kernel
theorem dX7_init_26 : decode cX7_init 26 = .ok (.return_, 1) := by decide +kernel
theorem dX7_shutsNone_0 : decode cX7_shutsNone 0 = .ok (.aload_n 0, 1) := by decide +kernel
theorem dX7_shutsNone_1 : decode cX7_shutsNone 1 = .ok (.iconst 0, 1) := by decide +kernel
theorem dX7_shutsNone_2 : decode cX7_shutsNone 2 = .ok (.putfield 19, 3) := by decide +kernel
theorem dX7_shutsNone_5 : decode cX7_shutsNone 5 = .ok (.return_, 1) := by decide +kernel
theorem dX7_shutsOpen_0 : decode cX7_shutsOpen 0 = .ok (.aload_n 0, 1) := by decide +kernel
theorem dX7_shutsOpen_1 : decode cX7_shutsOpen 1 = .ok (.dup, 1) := by decide +kernel
theorem dX7_shutsOpen_2 : decode cX7_shutsOpen 2 = .ok (.getfield 19, 3) := by decide +kernel
theorem dX7_shutsOpen_5 : decode cX7_shutsOpen 5 = .ok (.aload_n 0, 1) := by decide +kernel
theorem dX7_shutsOpen_6 : decode cX7_shutsOpen 6 = .ok (.getfield 22, 3) := by decide +kernel
theorem dX7_shutsOpen_9 : decode cX7_shutsOpen 9 = .ok (.ior, 1) := by decide +kernel
theorem dX7_shutsOpen_10 : decode cX7_shutsOpen 10 = .ok (.putfield 19, 3) := by decide +kernel
theorem dX7_shutsOpen_13 : decode cX7_shutsOpen 13 = .ok (.return_, 1) := by decide +kernel
theorem dX7_shows_0 : decode cX7_shows 0 = .ok (.aload_n 0, 1) := by decide +kernel
theorem dX7_shows_1 : decode cX7_shows 1 = .ok (.iconst 0, 1) := by decide +kernel
theorem dX7_shows_2 : decode cX7_shows 2 = .ok (.putfield 22, 3) := by decide +kernel
theorem dX7_shows_5 : decode cX7_shows 5 = .ok (.aload_n 0, 1) := by decide +kernel
theorem dX7_shows_6 : decode cX7_shows 6 = .ok (.iconst 0, 1) := by decide +kernel
theorem dX7_shows_7 : decode cX7_shows 7 = .ok (.putfield 15, 3) := by decide +kernel
theorem dX7_shows_10 : decode cX7_shows 10 = .ok (.iconst 0, 1) := by decide +kernel
theorem dX7_shows_11 : decode cX7_shows 11 = .ok (.istore_n 3, 1) := by decide +kernel
theorem dX7_shows_12 : decode cX7_shows 12 = .ok (.iload_n 3, 1) := by decide +kernel
theorem dX7_shows_13 : decode cX7_shows 13 = .ok (.iconst 4, 1) := by decide +kernel
theorem dX7_shows_14 : decode cX7_shows 14 = .ok (.if_icmp .ge 85, 3) := by decide +kernel
theorem dX7_shows_17 : decode cX7_shows 17 = .ok (.iload_n 3, 1) := by decide +kernel
theorem dX7_shows_18 : decode cX7_shows 18 = .ok (.aload_n 0, 1) := by decide +kernel
theorem dX7_shows_19 : decode cX7_shows 19 = .ok (.getfield 9, 3) := by decide +kernel
theorem dX7_shows_22 : decode cX7_shows 22 = .ok (.arraylength, 1) := by decide +kernel
theorem dX7_shows_23 : decode cX7_shows 23 = .ok (.if_icmp .ge 76, 3) := by decide +kernel
theorem dX7_shows_26 : decode cX7_shows 26 = .ok (.iload_n 2, 1) := by decide +kernel
theorem dX7_shows_27 : decode cX7_shows 27 = .ok (.iconst (-1), 1) := by decide +kernel
theorem dX7_shows_28 : decode cX7_shows 28 = .ok (.if_icmp .ne 7, 3) := by decide +kernel
theorem dX7_shows_31 : decode cX7_shows 31 = .ok (.iconst 1, 1) := by decide +kernel
theorem dX7_shows_32 : decode cX7_shows 32 = .ok (.goto 9, 3) := by decide +kernel
theorem dX7_shows_35 : decode cX7_shows 35 = .ok (.aload_n 1, 1) := by decide +kernel
theorem dX7_shows_36 : decode cX7_shows 36 = .ok (.iload_n 2, 1) := by decide +kernel
theorem dX7_shows_37 : decode cX7_shows 37 = .ok (.iload_n 3, 1) := by decide +kernel
theorem dX7_shows_38 : decode cX7_shows 38 = .ok (.invokevirtual 25, 3) := by decide +kernel
theorem dX7_shows_41 : decode cX7_shows 41 = .ok (.istore 4, 2) := by decide +kernel
theorem dX7_shows_43 : decode cX7_shows 43 = .ok (.aload_n 0, 1) := by decide +kernel
theorem dX7_shows_44 : decode cX7_shows 44 = .ok (.getfield 19, 3) := by decide +kernel
theorem dX7_shows_47 : decode cX7_shows 47 = .ok (.iload_n 3, 1) := by decide +kernel
theorem dX7_shows_48 : decode cX7_shows 48 = .ok (.ishr, 1) := by decide +kernel
theorem dX7_shows_49 : decode cX7_shows 49 = .ok (.iconst 1, 1) := by decide +kernel
theorem dX7_shows_50 : decode cX7_shows 50 = .ok (.iand, 1) := by decide +kernel
theorem dX7_shows_51 : decode cX7_shows 51 = .ok (.ifCond .eq 6, 3) := by decide +kernel
theorem dX7_shows_54 : decode cX7_shows 54 = .ok (.iconst 0, 1) := by decide +kernel
theorem dX7_shows_55 : decode cX7_shows 55 = .ok (.istore 4, 2) := by decide +kernel
theorem dX7_shows_57 : decode cX7_shows 57 = .ok (.iload 4, 2) := by decide +kernel
theorem dX7_shows_59 : decode cX7_shows 59 = .ok (.ifCond .le 15, 3) := by decide +kernel
theorem dX7_shows_62 : decode cX7_shows 62 = .ok (.aload_n 0, 1) := by decide +kernel
theorem dX7_shows_63 : decode cX7_shows 63 = .ok (.dup, 1) := by decide +kernel
theorem dX7_shows_64 : decode cX7_shows 64 = .ok (.getfield 22, 3) := by decide +kernel
theorem dX7_shows_67 : decode cX7_shows 67 = .ok (.iconst 1, 1) := by decide +kernel
theorem dX7_shows_68 : decode cX7_shows 68 = .ok (.iload_n 3, 1) := by decide +kernel
theorem dX7_shows_69 : decode cX7_shows 69 = .ok (.ishl, 1) := by decide +kernel
theorem dX7_shows_70 : decode cX7_shows 70 = .ok (.ior, 1) := by decide +kernel
theorem dX7_shows_71 : decode cX7_shows 71 = .ok (.putfield 22, 3) := by decide +kernel
theorem dX7_shows_74 : decode cX7_shows 74 = .ok (.aload_n 0, 1) := by decide +kernel
theorem dX7_shows_75 : decode cX7_shows 75 = .ok (.getfield 9, 3) := by decide +kernel
theorem dX7_shows_78 : decode cX7_shows 78 = .ok (.iload_n 3, 1) := by decide +kernel
theorem dX7_shows_79 : decode cX7_shows 79 = .ok (.iload 4, 2) := by decide +kernel
theorem dX7_shows_81 : decode cX7_shows 81 = .ok (.iastore, 1) := by decide +kernel
theorem dX7_shows_82 : decode cX7_shows 82 = .ok (.aload_n 0, 1) := by decide +kernel
theorem dX7_shows_83 : decode cX7_shows 83 = .ok (.dup, 1) := by decide +kernel
theorem dX7_shows_84 : decode cX7_shows 84 = .ok (.getfield 15, 3) := by decide +kernel
theorem dX7_shows_87 : decode cX7_shows 87 = .ok (.iload 4, 2) := by decide +kernel
theorem dX7_shows_89 : decode cX7_shows 89 = .ok (.iadd, 1) := by decide +kernel
theorem dX7_shows_90 : decode cX7_shows 90 = .ok (.putfield 15, 3) := by decide +kernel
theorem dX7_shows_93 : decode cX7_shows 93 = .ok (.iinc 3 1, 3) := by decide +kernel
theorem dX7_shows_96 : decode cX7_shows 96 = .ok (.goto (-84), 3) := by decide +kernel
theorem dX7_shows_99 : decode cX7_shows 99 = .ok (.iload_n 2, 1) := by decide +kernel
theorem dX7_shows_100 : decode cX7_shows 100 = .ok (.iconst (-1), 1) := by decide +kernel
theorem dX7_shows_101 : decode cX7_shows 101 = .ok (.if_icmp .eq 17, 3) := by decide +kernel
theorem dX7_shows_104 : decode cX7_shows 104 = .ok (.aload_n 0, 1) := by decide +kernel
theorem dX7_shows_105 : decode cX7_shows 105 = .ok (.getfield 22, 3) := by decide +kernel
theorem dX7_shows_108 : decode cX7_shows 108 = .ok (.aload_n 0, 1) := by decide +kernel
theorem dX7_shows_109 : decode cX7_shows 109 = .ok (.getfield 19, 3) := by decide +kernel
theorem dX7_shows_112 : decode cX7_shows 112 = .ok (.ior, 1) := by decide +kernel
theorem dX7_shows_113 : decode cX7_shows 113 = .ok (.bipush 15, 2) := by decide +kernel
theorem dX7_shows_115 : decode cX7_shows 115 = .ok (.if_icmp .ne 7, 3) := by decide +kernel
theorem dX7_shows_118 : decode cX7_shows 118 = .ok (.iconst 0, 1) := by decide +kernel
theorem dX7_shows_119 : decode cX7_shows 119 = .ok (.goto 10, 3) := by decide +kernel
theorem dX7_shows_122 : decode cX7_shows 122 = .ok (.aload_n 0, 1) := by decide +kernel
theorem dX7_shows_123 : decode cX7_shows 123 = .ok (.getfield 22, 3) := by decide +kernel
theorem dX7_shows_126 : decode cX7_shows 126 = .ok (.invokestatic 31, 3) := by decide +kernel
theorem dX7_shows_129 : decode cX7_shows 129 = .ok (.istore_n 3, 1) := by decide +kernel
theorem dX7_shows_130 : decode cX7_shows 130 = .ok (.iconst 4, 1) := by decide +kernel
theorem dX7_shows_131 : decode cX7_shows 131 = .ok (.aload_n 0, 1) := by decide +kernel
theorem dX7_shows_132 : decode cX7_shows 132 = .ok (.getfield 9, 3) := by decide +kernel
theorem dX7_shows_135 : decode cX7_shows 135 = .ok (.arraylength, 1) := by decide +kernel
theorem dX7_shows_136 : decode cX7_shows 136 = .ok (.if_icmp .ge 10, 3) := by decide +kernel
theorem dX7_shows_139 : decode cX7_shows 139 = .ok (.aload_n 0, 1) := by decide +kernel
theorem dX7_shows_140 : decode cX7_shows 140 = .ok (.getfield 9, 3) := by decide +kernel
theorem dX7_shows_143 : decode cX7_shows 143 = .ok (.iconst 4, 1) := by decide +kernel
theorem dX7_shows_144 : decode cX7_shows 144 = .ok (.iload_n 3, 1) := by decide +kernel
theorem dX7_shows_145 : decode cX7_shows 145 = .ok (.iastore, 1) := by decide +kernel
theorem dX7_shows_146 : decode cX7_shows 146 = .ok (.aload_n 0, 1) := by decide +kernel
theorem dX7_shows_147 : decode cX7_shows 147 = .ok (.dup, 1) := by decide +kernel
theorem dX7_shows_148 : decode cX7_shows 148 = .ok (.getfield 15, 3) := by decide +kernel
theorem dX7_shows_151 : decode cX7_shows 151 = .ok (.iload_n 3, 1) := by decide +kernel
theorem dX7_shows_152 : decode cX7_shows 152 = .ok (.iadd, 1) := by decide +kernel
theorem dX7_shows_153 : decode cX7_shows 153 = .ok (.putfield 15, 3) := by decide +kernel
theorem dX7_shows_156 : decode cX7_shows 156 = .ok (.return_, 1) := by decide +kernel
theorem dX7_width_0 : decode cX7_width 0 = .ok (.iload_n 1, 1) := by decide +kernel
theorem dX7_width_1 : decode cX7_width 1 = .ok (.ifCond .lt 21, 3) := by decide +kernel
theorem dX7_width_4 : decode cX7_width 4 = .ok (.iload_n 1, 1) := by decide +kernel
theorem dX7_width_5 : decode cX7_width 5 = .ok (.aload_n 0, 1) := by decide +kernel
theorem dX7_width_6 : decode cX7_width 6 = .ok (.getfield 9, 3) := by decide +kernel
theorem dX7_width_9 : decode cX7_width 9 = .ok (.arraylength, 1) := by decide +kernel
theorem dX7_width_10 : decode cX7_width 10 = .ok (.if_icmp .ge 12, 3) := by decide +kernel
theorem dX7_width_13 : decode cX7_width 13 = .ok (.aload_n 0, 1) := by decide +kernel
theorem dX7_width_14 : decode cX7_width 14 = .ok (.getfield 9, 3) := by decide +kernel
theorem dX7_width_17 : decode cX7_width 17 = .ok (.iload_n 1, 1) := by decide +kernel
theorem dX7_width_18 : decode cX7_width 18 = .ok (.iaload, 1) := by decide +kernel
theorem dX7_width_19 : decode cX7_width 19 = .ok (.goto 4, 3) := by decide +kernel
theorem dX7_width_22 : decode cX7_width 22 = .ok (.iconst 0, 1) := by decide +kernel
theorem dX7_width_23 : decode cX7_width 23 = .ok (.ireturn, 1) := by decide +kernel
theorem dX7_beginOf_0 : decode cX7_beginOf 0 = .ok (.iconst 0, 1) := by decide +kernel
theorem dX7_beginOf_1 : decode cX7_beginOf 1 = .ok (.istore_n 2, 1) := by decide +kernel
theorem dX7_beginOf_2 : decode cX7_beginOf 2 = .ok (.iconst 0, 1) := by decide +kernel
theorem dX7_beginOf_3 : decode cX7_beginOf 3 = .ok (.istore_n 3, 1) := by decide +kernel
theorem dX7_beginOf_4 : decode cX7_beginOf 4 = .ok (.iload_n 3, 1) := by decide +kernel
theorem dX7_beginOf_5 : decode cX7_beginOf 5 = .ok (.iload_n 1, 1) := by decide +kernel
theorem dX7_beginOf_6 : decode cX7_beginOf 6 = .ok (.if_icmp .ge 17, 3) := by decide +kernel
theorem dX7_beginOf_9 : decode cX7_beginOf 9 = .ok (.iload_n 2, 1) := by decide +kernel
theorem dX7_beginOf_10 : decode cX7_beginOf 10 = .ok (.aload_n 0, 1) := by decide +kernel
theorem dX7_beginOf_11 : decode cX7_beginOf 11 = .ok (.iload_n 3, 1) := by decide +kernel
theorem dX7_beginOf_12 : decode cX7_beginOf 12 = .ok (.invokevirtual 37, 3) := by decide +kernel
theorem dX7_beginOf_15 : decode cX7_beginOf 15 = .ok (.iadd, 1) := by decide +kernel
theorem dX7_beginOf_16 : decode cX7_beginOf 16 = .ok (.istore_n 2, 1) := by decide +kernel
theorem dX7_beginOf_17 : decode cX7_beginOf 17 = .ok (.iinc 3 1, 3) := by decide +kernel
theorem dX7_beginOf_20 : decode cX7_beginOf 20 = .ok (.goto (-16), 3) := by decide +kernel
theorem dX7_beginOf_23 : decode cX7_beginOf 23 = .ok (.iload_n 2, 1) := by decide +kernel
theorem dX7_beginOf_24 : decode cX7_beginOf 24 = .ok (.ireturn, 1) := by decide +kernel
theorem dX7_choiceFor_0 : decode cX7_choiceFor 0 = .ok (.aload_n 0, 1) := by decide +kernel
theorem dX7_choiceFor_1 : decode cX7_choiceFor 1 = .ok (.iload_n 1, 1) := by decide +kernel
theorem dX7_choiceFor_2 : decode cX7_choiceFor 2 = .ok (.invokevirtual 37, 3) := by decide +kernel
theorem dX7_choiceFor_5 : decode cX7_choiceFor 5 = .ok (.ifCond .le 7, 3) := by decide +kernel
theorem dX7_choiceFor_8 : decode cX7_choiceFor 8 = .ok (.iload_n 1, 1) := by decide +kernel
theorem dX7_choiceFor_9 : decode cX7_choiceFor 9 = .ok (.goto 4, 3) := by decide +kernel
theorem dX7_choiceFor_12 : decode cX7_choiceFor 12 = .ok (.iconst 4, 1) := by decide +kernel
end
section
theorem dX7_choiceFor_13 : decode cX7_choiceFor 13 = .ok (.ireturn, 1) := by decide +kernel
theorem dX7_choiceAt_0 : decode cX7_choiceAt 0 = .ok (.iconst 0, 1) := by decide +kernel
theorem dX7_choiceAt_1 : decode cX7_choiceAt 1 = .ok (.istore_n 2, 1) := by decide +kernel
theorem dX7_choiceAt_2 : decode cX7_choiceAt 2 = .ok (.iconst 0, 1) := by decide +kernel
theorem dX7_choiceAt_3 : decode cX7_choiceAt 3 = .ok (.istore_n 3, 1) := by decide +kernel
theorem dX7_choiceAt_4 : decode cX7_choiceAt 4 = .ok (.iload_n 3, 1) := by decide +kernel
theorem dX7_choiceAt_5 : decode cX7_choiceAt 5 = .ok (.iconst 4, 1) := by decide +kernel
theorem dX7_choiceAt_6 : decode cX7_choiceAt 6 = .ok (.if_icmp .ge 24, 3) := by decide +kernel
theorem dX7_choiceAt_9 : decode cX7_choiceAt 9 = .ok (.iload_n 2, 1) := by decide +kernel
theorem dX7_choiceAt_10 : decode cX7_choiceAt 10 = .ok (.aload_n 0, 1) := by decide +kernel
theorem dX7_choiceAt_11 : decode cX7_choiceAt 11 = .ok (.iload_n 3, 1) := by decide +kernel
theorem dX7_choiceAt_12 : decode cX7_choiceAt 12 = .ok (.invokevirtual 37, 3) := by decide +kernel
theorem dX7_choiceAt_15 : decode cX7_choiceAt 15 = .ok (.iadd, 1) := by decide +kernel
theorem dX7_choiceAt_16 : decode cX7_choiceAt 16 = .ok (.istore_n 2, 1) := by decide +kernel
theorem dX7_choiceAt_17 : decode cX7_choiceAt 17 = .ok (.iload_n 1, 1) := by decide +kernel
theorem dX7_choiceAt_18 : decode cX7_choiceAt 18 = .ok (.iload_n 2, 1) := by decide +kernel
theorem dX7_choiceAt_19 : decode cX7_choiceAt 19 = .ok (.if_icmp .ge 5, 3) := by decide +kernel
theorem dX7_choiceAt_22 : decode cX7_choiceAt 22 = .ok (.iload_n 3, 1) := by decide +kernel
theorem dX7_choiceAt_23 : decode cX7_choiceAt 23 = .ok (.ireturn, 1) := by decide +kernel
theorem dX7_choiceAt_24 : decode cX7_choiceAt 24 = .ok (.iinc 3 1, 3) := by decide +kernel
theorem dX7_choiceAt_27 : decode cX7_choiceAt 27 = .ok (.goto (-23), 3) := by decide +kernel
theorem dX7_choiceAt_30 : decode cX7_choiceAt 30 = .ok (.iconst 4, 1) := by decide +kernel
theorem dX7_choiceAt_31 : decode cX7_choiceAt 31 = .ok (.ireturn, 1) := by decide +kernel
theorem dX8_init_0 : decode cX8_init 0 = .ok (.aload_n 0, 1) := by decide +kernel
theorem dX8_init_1 : decode cX8_init 1 = .ok (.invokespecial 1, 3) := by decide +kernel
theorem dX8_init_4 : decode cX8_init 4 = .ok (.return_, 1) := by decide +kernel
theorem dX9_init_0 : decode cX9_init 0 = .ok (.aload_n 0, 1) := by decide +kernel
theorem dX9_init_1 : decode cX9_init 1 = .ok (.invokespecial 3, 3) := by decide +kernel
theorem dX9_init_4 : decode cX9_init 4 = .ok (.aload_n 0, 1) := by decide +kernel
theorem dX9_init_5 : decode cX9_init 5 = .ok (.new 9, 3) := by decide +kernel
theorem dX9_init_8 : decode cX9_init 8 = .ok (.dup, 1) := by decide +kernel
theorem dX9_init_9 : decode cX9_init 9 = .ok (.sipush 200, 3) := by decide +kernel
theorem dX9_init_12 : decode cX9_init 12 = .ok (.invokespecial 11, 3) := by decide +kernel
theorem dX9_init_15 : decode cX9_init 15 = .ok (.putfield 14, 3) := by decide +kernel
theorem dX9_init_18 : decode cX9_init 18 = .ok (.aload_n 0, 1) := by decide +kernel
theorem dX9_init_19 : decode cX9_init 19 = .ok (.new 18, 3) := by decide +kernel
theorem dX9_init_22 : decode cX9_init 22 = .ok (.dup, 1) := by decide +kernel
theorem dX9_init_23 : decode cX9_init 23 = .ok (.invokespecial 20, 3) := by decide +kernel
theorem dX9_init_26 : decode cX9_init 26 = .ok (.putfield 21, 3) := by decide +kernel
theorem dX9_init_29 : decode cX9_init 29 = .ok (.aload_n 0, 1) := by decide +kernel
theorem dX9_init_30 : decode cX9_init 30 = .ok (.new 18, 3) := by decide +kernel
theorem dX9_init_33 : decode cX9_init 33 = .ok (.dup, 1) := by decide +kernel
theorem dX9_init_34 : decode cX9_init 34 = .ok (.invokespecial 20, 3) := by decide +kernel
theorem dX9_init_37 : decode cX9_init 37 = .ok (.putfield 25, 3) := by decide +kernel
theorem dX9_init_40 : decode cX9_init 40 = .ok (.aload_n 0, 1) := by decide +kernel
theorem dX9_init_41 : decode cX9_init 41 = .ok (.new 28, 3) := by decide +kernel
theorem dX9_init_44 : decode cX9_init 44 = .ok (.dup, 1) := by decide +kernel
theorem dX9_init_45 : decode cX9_init 45 = .ok (.invokespecial 30, 3) := by decide +kernel
theorem dX9_init_48 : decode cX9_init 48 = .ok (.putfield 31, 3) := by decide +kernel
theorem dX9_init_51 : decode cX9_init 51 = .ok (.aload_n 0, 1) := by decide +kernel
theorem dX9_init_52 : decode cX9_init 52 = .ok (.new 35, 3) := by decide +kernel
theorem dX9_init_55 : decode cX9_init 55 = .ok (.dup, 1) := by decide +kernel
theorem dX9_init_56 : decode cX9_init 56 = .ok (.invokespecial 37, 3) := by decide +kernel
theorem dX9_init_59 : decode cX9_init 59 = .ok (.putfield 38, 3) := by decide +kernel
theorem dX9_init_62 : decode cX9_init 62 = .ok (.aload_n 0, 1) := by decide +kernel
theorem dX9_init_63 : decode cX9_init 63 = .ok (.new 42, 3) := by decide +kernel
theorem dX9_init_66 : decode cX9_init 66 = .ok (.dup, 1) := by decide +kernel
theorem dX9_init_67 : decode cX9_init 67 = .ok (.invokespecial 44, 3) := by decide +kernel
theorem dX9_init_70 : decode cX9_init 70 = .ok (.putfield 45, 3) := by decide +kernel
theorem dX9_init_73 : decode cX9_init 73 = .ok (.aload_n 0, 1) := by decide +kernel
theorem dX9_init_74 : decode cX9_init 74 = .ok (.new 42, 3) := by decide +kernel
theorem dX9_init_77 : decode cX9_init 77 = .ok (.dup, 1) := by decide +kernel
theorem dX9_init_78 : decode cX9_init 78 = .ok (.invokespecial 44, 3) := by decide +kernel
theorem dX9_init_81 : decode cX9_init 81 = .ok (.putfield 49, 3) := by decide +kernel
theorem dX9_init_84 : decode cX9_init 84 = .ok (.aload_n 0, 1) := by decide +kernel
theorem dX9_init_85 : decode cX9_init 85 = .ok (.iconst 0, 1) := by decide +kernel
theorem dX9_init_86 : decode cX9_init 86 = .ok (.putfield 52, 3) := by decide +kernel
theorem dX9_init_89 : decode cX9_init 89 = .ok (.aload_n 0, 1) := by decide +kernel
theorem dX9_init_90 : decode cX9_init 90 = .ok (.iconst 0, 1) := by decide +kernel
theorem dX9_init_91 : decode cX9_init 91 = .ok (.putfield 56, 3) := by decide +kernel
theorem dX9_init_94 : decode cX9_init 94 = .ok (.return_, 1) := by decide +kernel
theorem dX9_type_0 : decode cX9_type 0 = .ok (.iload_n 1, 1) := by decide +kernel
theorem dX9_type_1 : decode cX9_type 1 = .ok (.ifCond .lt 10, 3) := by decide +kernel
theorem dX9_type_4 : decode cX9_type 4 = .ok (.iload_n 1, 1) := by decide +kernel
theorem dX9_type_5 : decode cX9_type 5 = .ok (.sipush 255, 3) := by decide +kernel
theorem dX9_type_8 : decode cX9_type 8 = .ok (.if_icmp .le 5, 3) := by decide +kernel
theorem dX9_type_11 : decode cX9_type 11 = .ok (.iconst (-1), 1) := by decide +kernel
theorem dX9_type_12 : decode cX9_type 12 = .ok (.ireturn, 1) := by decide +kernel
theorem dX9_type_13 : decode cX9_type 13 = .ok (.aload_n 0, 1) := by decide +kernel
theorem dX9_type_14 : decode cX9_type 14 = .ok (.getfield 14, 3) := by decide +kernel
theorem dX9_type_17 : decode cX9_type 17 = .ok (.invokevirtual 59, 3) := by decide +kernel
theorem dX9_type_20 : decode cX9_type 20 = .ok (.ifCond .eq 6, 3) := by decide +kernel
theorem dX9_type_23 : decode cX9_type 23 = .ok (.bipush (-3), 2) := by decide +kernel
theorem dX9_type_25 : decode cX9_type 25 = .ok (.ireturn, 1) := by decide +kernel
theorem dX9_type_26 : decode cX9_type 26 = .ok (.aload_n 0, 1) := by decide +kernel
theorem dX9_type_27 : decode cX9_type 27 = .ok (.getfield 14, 3) := by decide +kernel
theorem dX9_type_30 : decode cX9_type 30 = .ok (.iload_n 1, 1) := by decide +kernel
theorem dX9_type_31 : decode cX9_type 31 = .ok (.invokevirtual 63, 3) := by decide +kernel
theorem dX9_type_34 : decode cX9_type 34 = .ok (.aload_n 0, 1) := by decide +kernel
theorem dX9_type_35 : decode cX9_type 35 = .ok (.getfield 14, 3) := by decide +kernel
theorem dX9_type_38 : decode cX9_type 38 = .ok (.getfield 66, 3) := by decide +kernel
theorem dX9_type_41 : decode cX9_type 41 = .ok (.ireturn, 1) := by decide +kernel
theorem dX9_clear_0 : decode cX9_clear 0 = .ok (.aload_n 0, 1) := by decide +kernel
theorem dX9_clear_1 : decode cX9_clear 1 = .ok (.getfield 14, 3) := by decide +kernel
theorem dX9_clear_4 : decode cX9_clear 4 = .ok (.getfield 66, 3) := by decide +kernel
theorem dX9_clear_7 : decode cX9_clear 7 = .ok (.istore_n 1, 1) := by decide +kernel
theorem dX9_clear_8 : decode cX9_clear 8 = .ok (.aload_n 0, 1) := by decide +kernel
theorem dX9_clear_9 : decode cX9_clear 9 = .ok (.getfield 14, 3) := by decide +kernel
theorem dX9_clear_12 : decode cX9_clear 12 = .ok (.iconst 0, 1) := by decide +kernel
theorem dX9_clear_13 : decode cX9_clear 13 = .ok (.invokevirtual 70, 3) := by decide +kernel
theorem dX9_clear_16 : decode cX9_clear 16 = .ok (.iload_n 1, 1) := by decide +kernel
theorem dX9_clear_17 : decode cX9_clear 17 = .ok (.ireturn, 1) := by decide +kernel
theorem dX9_begins_0 : decode cX9_begins 0 = .ok (.iload_n 1, 1) := by decide +kernel
theorem dX9_begins_1 : decode cX9_begins 1 = .ok (.iconst 0, 1) := by decide +kernel
theorem dX9_begins_2 : decode cX9_begins 2 = .ok (.iconst 3, 1) := by decide +kernel
theorem dX9_begins_3 : decode cX9_begins 3 = .ok (.invokestatic 73, 3) := by decide +kernel
theorem dX9_begins_6 : decode cX9_begins 6 = .ok (.ifCond .eq 13, 3) := by decide +kernel
theorem dX9_begins_9 : decode cX9_begins 9 = .ok (.iload_n 2, 1) := by decide +kernel
theorem dX9_begins_10 : decode cX9_begins 10 = .ok (.iconst 2, 1) := by decide +kernel
theorem dX9_begins_11 : decode cX9_begins 11 = .ok (.bipush 15, 2) := by decide +kernel
theorem dX9_begins_13 : decode cX9_begins 13 = .ok (.invokestatic 73, 3) := by decide +kernel
theorem dX9_begins_16 : decode cX9_begins 16 = .ok (.ifCond .ne 5, 3) := by decide +kernel
theorem dX9_begins_19 : decode cX9_begins 19 = .ok (.iconst (-1), 1) := by decide +kernel
theorem dX9_begins_20 : decode cX9_begins 20 = .ok (.ireturn, 1) := by decide +kernel
theorem dX9_begins_21 : decode cX9_begins 21 = .ok (.iload_n 3, 1) := by decide +kernel
theorem dX9_begins_22 : decode cX9_begins 22 = .ok (.iconst 4, 1) := by decide +kernel
theorem dX9_begins_23 : decode cX9_begins 23 = .ok (.bipush 60, 2) := by decide +kernel
theorem dX9_begins_25 : decode cX9_begins 25 = .ok (.invokestatic 73, 3) := by decide +kernel
theorem dX9_begins_28 : decode cX9_begins 28 = .ok (.ifCond .eq 14, 3) := by decide +kernel
theorem dX9_begins_31 : decode cX9_begins 31 = .ok (.iload 4, 2) := by decide +kernel
theorem dX9_begins_33 : decode cX9_begins 33 = .ok (.iconst 0, 1) := by decide +kernel
theorem dX9_begins_34 : decode cX9_begins 34 = .ok (.bipush 9, 2) := by decide +kernel
theorem dX9_begins_36 : decode cX9_begins 36 = .ok (.invokestatic 73, 3) := by decide +kernel
theorem dX9_begins_39 : decode cX9_begins 39 = .ok (.ifCond .ne 5, 3) := by decide +kernel
theorem dX9_begins_42 : decode cX9_begins 42 = .ok (.iconst (-1), 1) := by decide +kernel
theorem dX9_begins_43 : decode cX9_begins 43 = .ok (.ireturn, 1) := by decide +kernel
theorem dX9_begins_44 : decode cX9_begins 44 = .ok (.aload_n 0, 1) := by decide +kernel
theorem dX9_begins_45 : decode cX9_begins 45 = .ok (.getfield 21, 3) := by decide +kernel
theorem dX9_begins_48 : decode cX9_begins 48 = .ok (.getfield 77, 3) := by decide +kernel
theorem dX9_begins_51 : decode cX9_begins 51 = .ok (.getfield 80, 3) := by decide +kernel
theorem dX9_begins_54 : decode cX9_begins 54 = .ok (.getfield 66, 3) := by decide +kernel
theorem dX9_begins_57 : decode cX9_begins 57 = .ok (.istore 5, 2) := by decide +kernel
theorem dX9_begins_59 : decode cX9_begins 59 = .ok (.aload_n 0, 1) := by decide +kernel
theorem dX9_begins_60 : decode cX9_begins 60 = .ok (.getfield 38, 3) := by decide +kernel
theorem dX9_begins_63 : decode cX9_begins 63 = .ok (.aload_n 0, 1) := by decide +kernel
theorem dX9_begins_64 : decode cX9_begins 64 = .ok (.getfield 21, 3) := by decide +kernel
theorem dX9_begins_67 : decode cX9_begins 67 = .ok (.getfield 77, 3) := by decide +kernel
theorem dX9_begins_70 : decode cX9_begins 70 = .ok (.invokevirtual 83, 3) := by decide +kernel
theorem dX9_begins_73 : decode cX9_begins 73 = .ok (.aload_n 0, 1) := by decide +kernel
theorem dX9_begins_74 : decode cX9_begins 74 = .ok (.getfield 21, 3) := by decide +kernel
theorem dX9_begins_77 : decode cX9_begins 77 = .ok (.getfield 77, 3) := by decide +kernel
theorem dX9_begins_80 : decode cX9_begins 80 = .ok (.iload_n 1, 1) := by decide +kernel
theorem dX9_begins_81 : decode cX9_begins 81 = .ok (.iload_n 2, 1) := by decide +kernel
theorem dX9_begins_82 : decode cX9_begins 82 = .ok (.iload_n 3, 1) := by decide +kernel
theorem dX9_begins_83 : decode cX9_begins 83 = .ok (.iload 4, 2) := by decide +kernel
theorem dX9_begins_85 : decode cX9_begins 85 = .ok (.invokevirtual 87, 3) := by decide +kernel
theorem dX9_begins_88 : decode cX9_begins 88 = .ok (.aload_n 0, 1) := by decide +kernel
theorem dX9_begins_89 : decode cX9_begins 89 = .ok (.getfield 21, 3) := by decide +kernel
theorem dX9_begins_92 : decode cX9_begins 92 = .ok (.invokevirtual 91, 3) := by decide +kernel
theorem dX9_begins_95 : decode cX9_begins 95 = .ok (.iload 5, 2) := by decide +kernel
theorem dX9_begins_97 : decode cX9_begins 97 = .ok (.ireturn, 1) := by decide +kernel
theorem dX9_packs_0 : decode cX9_packs 0 = .ok (.iload_n 1, 1) := by decide +kernel
theorem dX9_packs_1 : decode cX9_packs 1 = .ok (.invokestatic 94, 3) := by decide +kernel
theorem dX9_packs_4 : decode cX9_packs 4 = .ok (.ifCond .ne 6, 3) := by decide +kernel
theorem dX9_packs_7 : decode cX9_packs 7 = .ok (.bipush (-5), 2) := by decide +kernel
theorem dX9_packs_9 : decode cX9_packs 9 = .ok (.ireturn, 1) := by decide +kernel
theorem dX9_packs_10 : decode cX9_packs 10 = .ok (.aload_n 0, 1) := by decide +kernel
theorem dX9_packs_11 : decode cX9_packs 11 = .ok (.getfield 21, 3) := by decide +kernel
theorem dX9_packs_14 : decode cX9_packs 14 = .ok (.getfield 77, 3) := by decide +kernel
theorem dX9_packs_17 : decode cX9_packs 17 = .ok (.getfield 80, 3) := by decide +kernel
theorem dX9_packs_20 : decode cX9_packs 20 = .ok (.invokevirtual 59, 3) := by decide +kernel
theorem dX9_packs_23 : decode cX9_packs 23 = .ok (.ifCond .eq 6, 3) := by decide +kernel
theorem dX9_packs_26 : decode cX9_packs 26 = .ok (.bipush (-6), 2) := by decide +kernel
theorem dX9_packs_28 : decode cX9_packs 28 = .ok (.ireturn, 1) := by decide +kernel
theorem dX9_packs_29 : decode cX9_packs 29 = .ok (.aload_n 0, 1) := by decide +kernel
theorem dX9_packs_30 : decode cX9_packs 30 = .ok (.getfield 38, 3) := by decide +kernel
theorem dX9_packs_33 : decode cX9_packs 33 = .ok (.aload_n 0, 1) := by decide +kernel
theorem dX9_packs_34 : decode cX9_packs 34 = .ok (.getfield 21, 3) := by decide +kernel
theorem dX9_packs_37 : decode cX9_packs 37 = .ok (.getfield 77, 3) := by decide +kernel
theorem dX9_packs_40 : decode cX9_packs 40 = .ok (.invokevirtual 83, 3) := by decide +kernel
theorem dX9_packs_43 : decode cX9_packs 43 = .ok (.aload_n 0, 1) := by decide +kernel
theorem dX9_packs_44 : decode cX9_packs 44 = .ok (.getfield 21, 3) := by decide +kernel
theorem dX9_packs_47 : decode cX9_packs 47 = .ok (.getfield 77, 3) := by decide +kernel
theorem dX9_packs_50 : decode cX9_packs 50 = .ok (.getfield 80, 3) := by decide +kernel
theorem dX9_packs_53 : decode cX9_packs 53 = .ok (.iload_n 1, 1) := by decide +kernel
theorem dX9_packs_54 : decode cX9_packs 54 = .ok (.invokevirtual 63, 3) := by decide +kernel
theorem dX9_packs_57 : decode cX9_packs 57 = .ok (.aload_n 0, 1) := by decide +kernel
theorem dX9_packs_58 : decode cX9_packs 58 = .ok (.getfield 21, 3) := by decide +kernel
theorem dX9_packs_61 : decode cX9_packs 61 = .ok (.invokevirtual 98, 3) := by decide +kernel
theorem dX9_packs_64 : decode cX9_packs 64 = .ok (.ireturn, 1) := by decide +kernel
theorem dX9_word_0 : decode cX9_word 0 = .ok (.aload_n 0, 1) := by decide +kernel
theorem dX9_word_1 : decode cX9_word 1 = .ok (.bipush 97, 2) := by decide +kernel
theorem dX9_word_3 : decode cX9_word 3 = .ok (.iconst 4, 1) := by decide +kernel
theorem dX9_word_4 : decode cX9_word 4 = .ok (.invokevirtual 102, 3) := by decide +kernel
theorem dX9_word_7 : decode cX9_word 7 = .ok (.istore_n 1, 1) := by decide +kernel
theorem dX9_word_8 : decode cX9_word 8 = .ok (.iload_n 1, 1) := by decide +kernel
theorem dX9_word_9 : decode cX9_word 9 = .ok (.ifCond .lt 8, 3) := by decide +kernel
theorem dX9_word_12 : decode cX9_word 12 = .ok (.bipush (-10), 2) := by decide +kernel
theorem dX9_word_14 : decode cX9_word 14 = .ok (.iload_n 1, 1) := by decide +kernel
theorem dX9_word_15 : decode cX9_word 15 = .ok (.isub, 1) := by decide +kernel
theorem dX9_word_16 : decode cX9_word 16 = .ok (.ireturn, 1) := by decide +kernel
theorem dX9_word_17 : decode cX9_word 17 = .ok (.aload_n 0, 1) := by decide +kernel
theorem dX9_word_18 : decode cX9_word 18 = .ok (.getfield 14, 3) := by decide +kernel
theorem dX9_word_21 : decode cX9_word 21 = .ok (.getfield 66, 3) := by decide +kernel
theorem dX9_word_24 : decode cX9_word 24 = .ok (.istore_n 2, 1) := by decide +kernel
theorem dX9_word_25 : decode cX9_word 25 = .ok (.aload_n 0, 1) := by decide +kernel
theorem dX9_word_26 : decode cX9_word 26 = .ok (.getfield 21, 3) := by decide +kernel
theorem dX9_word_29 : decode cX9_word 29 = .ok (.getfield 77, 3) := by decide +kernel
theorem dX9_word_32 : decode cX9_word 32 = .ok (.getfield 80, 3) := by decide +kernel
theorem dX9_word_35 : decode cX9_word 35 = .ok (.getfield 66, 3) := by decide +kernel
theorem dX9_word_38 : decode cX9_word 38 = .ok (.iload_n 2, 1) := by decide +kernel
theorem dX9_word_39 : decode cX9_word 39 = .ok (.iadd, 1) := by decide +kernel
theorem dX9_word_40 : decode cX9_word 40 = .ok (.bipush 60, 2) := by decide +kernel
theorem dX9_word_42 : decode cX9_word 42 = .ok (.if_icmp .le 6, 3) := by decide +kernel
theorem dX9_word_45 : decode cX9_word 45 = .ok (.bipush (-3), 2) := by decide +kernel
theorem dX9_word_47 : decode cX9_word 47 = .ok (.ireturn, 1) := by decide +kernel
theorem dX9_word_48 : decode cX9_word 48 = .ok (.aload_n 0, 1) := by decide +kernel
theorem dX9_word_49 : decode cX9_word 49 = .ok (.getfield 38, 3) := by decide +kernel
theorem dX9_word_52 : decode cX9_word 52 = .ok (.aload_n 0, 1) := by decide +kernel
theorem dX9_word_53 : decode cX9_word 53 = .ok (.getfield 21, 3) := by decide +kernel
theorem dX9_word_56 : decode cX9_word 56 = .ok (.getfield 77, 3) := by decide +kernel
theorem dX9_word_59 : decode cX9_word 59 = .ok (.invokevirtual 83, 3) := by decide +kernel
theorem dX9_word_62 : decode cX9_word 62 = .ok (.iconst 0, 1) := by decide +kernel
theorem dX9_word_63 : decode cX9_word 63 = .ok (.istore_n 3, 1) := by decide +kernel
theorem dX9_word_64 : decode cX9_word 64 = .ok (.iload_n 3, 1) := by decide +kernel
theorem dX9_word_65 : decode cX9_word 65 = .ok (.iload_n 2, 1) := by decide +kernel
theorem dX9_word_66 : decode cX9_word 66 = .ok (.if_icmp .ge 41, 3) := by decide +kernel
theorem dX9_word_69 : decode cX9_word 69 = .ok (.aload_n 0, 1) := by decide +kernel
theorem dX9_word_70 : decode cX9_word 70 = .ok (.getfield 21, 3) := by decide +kernel
theorem dX9_word_73 : decode cX9_word 73 = .ok (.getfield 77, 3) := by decide +kernel
theorem dX9_word_76 : decode cX9_word 76 = .ok (.getfield 80, 3) := by decide +kernel
theorem dX9_word_79 : decode cX9_word 79 = .ok (.aload_n 0, 1) := by decide +kernel
theorem dX9_word_80 : decode cX9_word 80 = .ok (.getfield 14, 3) := by decide +kernel
theorem dX9_word_83 : decode cX9_word 83 = .ok (.iload_n 3, 1) := by decide +kernel
theorem dX9_word_84 : decode cX9_word 84 = .ok (.invokevirtual 106, 3) := by decide +kernel
theorem dX9_word_87 : decode cX9_word 87 = .ok (.bipush 97, 2) := by decide +kernel
theorem dX9_word_89 : decode cX9_word 89 = .ok (.isub, 1) := by decide +kernel
theorem dX9_word_90 : decode cX9_word 90 = .ok (.invokevirtual 63, 3) := by decide +kernel
theorem dX9_word_93 : decode cX9_word 93 = .ok (.aload_n 0, 1) := by decide +kernel
theorem dX9_word_94 : decode cX9_word 94 = .ok (.getfield 21, 3) := by decide +kernel
theorem dX9_word_97 : decode cX9_word 97 = .ok (.invokevirtual 98, 3) := by decide +kernel
theorem dX9_word_100 : decode cX9_word 100 = .ok (.pop, 1) := by decide +kernel
theorem dX9_word_101 : decode cX9_word 101 = .ok (.iinc 3 1, 3) := by decide +kernel
theorem dX9_word_104 : decode cX9_word 104 = .ok (.goto (-40), 3) := by decide +kernel
theorem dX9_word_107 : decode cX9_word 107 = .ok (.aload_n 0, 1) := by decide +kernel
theorem dX9_word_108 : decode cX9_word 108 = .ok (.getfield 14, 3) := by decide +kernel
theorem dX9_word_111 : decode cX9_word 111 = .ok (.iconst 0, 1) := by decide +kernel
theorem dX9_word_112 : decode cX9_word 112 = .ok (.invokevirtual 70, 3) := by decide +kernel
theorem dX9_word_115 : decode cX9_word 115 = .ok (.iload_n 2, 1) := by decide +kernel
theorem dX9_word_116 : decode cX9_word 116 = .ok (.ireturn, 1) := by decide +kernel
theorem dX9_cuts_0 : decode cX9_cuts 0 = .ok (.iload_n 1, 1) := by decide +kernel
theorem dX9_cuts_1 : decode cX9_cuts 1 = .ok (.iconst 1, 1) := by decide +kernel
theorem dX9_cuts_2 : decode cX9_cuts 2 = .ok (.if_icmp .ge 5, 3) := by decide +kernel
theorem dX9_cuts_5 : decode cX9_cuts 5 = .ok (.iconst (-1), 1) := by decide +kernel
theorem dX9_cuts_6 : decode cX9_cuts 6 = .ok (.ireturn, 1) := by decide +kernel
theorem dX9_cuts_7 : decode cX9_cuts 7 = .ok (.iload_n 1, 1) := by decide +kernel
theorem dX9_cuts_8 : decode cX9_cuts 8 = .ok (.aload_n 0, 1) := by decide +kernel
theorem dX9_cuts_9 : decode cX9_cuts 9 = .ok (.getfield 21, 3) := by decide +kernel
theorem dX9_cuts_12 : decode cX9_cuts 12 = .ok (.getfield 77, 3) := by decide +kernel
theorem dX9_cuts_15 : decode cX9_cuts 15 = .ok (.getfield 80, 3) := by decide +kernel
theorem dX9_cuts_18 : decode cX9_cuts 18 = .ok (.getfield 66, 3) := by decide +kernel
theorem dX9_cuts_21 : decode cX9_cuts 21 = .ok (.if_icmp .le 6, 3) := by decide +kernel
theorem dX9_cuts_24 : decode cX9_cuts 24 = .ok (.bipush (-2), 2) := by decide +kernel
theorem dX9_cuts_26 : decode cX9_cuts 26 = .ok (.ireturn, 1) := by decide +kernel
theorem dX9_cuts_27 : decode cX9_cuts 27 = .ok (.aload_n 0, 1) := by decide +kernel
theorem dX9_cuts_28 : decode cX9_cuts 28 = .ok (.getfield 38, 3) := by decide +kernel
theorem dX9_cuts_31 : decode cX9_cuts 31 = .ok (.aload_n 0, 1) := by decide +kernel
theorem dX9_cuts_32 : decode cX9_cuts 32 = .ok (.getfield 21, 3) := by decide +kernel
theorem dX9_cuts_35 : decode cX9_cuts 35 = .ok (.getfield 77, 3) := by decide +kernel
theorem dX9_cuts_38 : decode cX9_cuts 38 = .ok (.invokevirtual 83, 3) := by decide +kernel
theorem dX9_cuts_41 : decode cX9_cuts 41 = .ok (.aload_n 0, 1) := by decide +kernel
theorem dX9_cuts_42 : decode cX9_cuts 42 = .ok (.getfield 21, 3) := by decide +kernel
theorem dX9_cuts_45 : decode cX9_cuts 45 = .ok (.getfield 77, 3) := by decide +kernel
theorem dX9_cuts_48 : decode cX9_cuts 48 = .ok (.getfield 80, 3) := by decide +kernel
theorem dX9_cuts_51 : decode cX9_cuts 51 = .ok (.aload_n 0, 1) := by decide +kernel
theorem dX9_cuts_52 : decode cX9_cuts 52 = .ok (.getfield 21, 3) := by decide +kernel
theorem dX9_cuts_55 : decode cX9_cuts 55 = .ok (.getfield 77, 3) := by decide +kernel
theorem dX9_cuts_58 : decode cX9_cuts 58 = .ok (.getfield 80, 3) := by decide +kernel
theorem dX9_cuts_61 : decode cX9_cuts 61 = .ok (.getfield 66, 3) := by decide +kernel
theorem dX9_cuts_64 : decode cX9_cuts 64 = .ok (.iload_n 1, 1) := by decide +kernel
theorem dX9_cuts_65 : decode cX9_cuts 65 = .ok (.isub, 1) := by decide +kernel
theorem dX9_cuts_66 : decode cX9_cuts 66 = .ok (.invokevirtual 70, 3) := by decide +kernel
theorem dX9_cuts_69 : decode cX9_cuts 69 = .ok (.aload_n 0, 1) := by decide +kernel
theorem dX9_cuts_70 : decode cX9_cuts 70 = .ok (.getfield 21, 3) := by decide +kernel
theorem dX9_cuts_73 : decode cX9_cuts 73 = .ok (.invokevirtual 91, 3) := by decide +kernel
theorem dX9_cuts_76 : decode cX9_cuts 76 = .ok (.aload_n 0, 1) := by decide +kernel
theorem dX9_cuts_77 : decode cX9_cuts 77 = .ok (.getfield 21, 3) := by decide +kernel
theorem dX9_cuts_80 : decode cX9_cuts 80 = .ok (.getfield 77, 3) := by decide +kernel
theorem dX9_cuts_83 : decode cX9_cuts 83 = .ok (.getfield 80, 3) := by decide +kernel
theorem dX9_cuts_86 : decode cX9_cuts 86 = .ok (.getfield 66, 3) := by decide +kernel
theorem dX9_cuts_89 : decode cX9_cuts 89 = .ok (.ireturn, 1) := by decide +kernel
theorem dX9_undo_0 : decode cX9_undo 0 = .ok (.aload_n 0, 1) := by decide +kernel
theorem dX9_undo_1 : decode cX9_undo 1 = .ok (.getfield 38, 3) := by decide +kernel
theorem dX9_undo_4 : decode cX9_undo 4 = .ok (.getfield 110, 3) := by decide +kernel
theorem dX9_undo_7 : decode cX9_undo 7 = .ok (.ifCond .ne 6, 3) := by decide +kernel
theorem dX9_undo_10 : decode cX9_undo 10 = .ok (.bipush (-2), 2) := by decide +kernel
theorem dX9_undo_12 : decode cX9_undo 12 = .ok (.ireturn, 1) := by decide +kernel
theorem dX9_undo_13 : decode cX9_undo 13 = .ok (.aload_n 0, 1) := by decide +kernel
theorem dX9_undo_14 : decode cX9_undo 14 = .ok (.getfield 38, 3) := by decide +kernel
theorem dX9_undo_17 : decode cX9_undo 17 = .ok (.aload_n 0, 1) := by decide +kernel
theorem dX9_undo_18 : decode cX9_undo 18 = .ok (.getfield 21, 3) := by decide +kernel
theorem dX9_undo_21 : decode cX9_undo 21 = .ok (.getfield 77, 3) := by decide +kernel
theorem dX9_undo_24 : decode cX9_undo 24 = .ok (.invokevirtual 113, 3) := by decide +kernel
theorem dX9_undo_27 : decode cX9_undo 27 = .ok (.aload_n 0, 1) := by decide +kernel
theorem dX9_undo_28 : decode cX9_undo 28 = .ok (.getfield 21, 3) := by decide +kernel
theorem dX9_undo_31 : decode cX9_undo 31 = .ok (.invokevirtual 91, 3) := by decide +kernel
theorem dX9_undo_34 : decode cX9_undo 34 = .ok (.aload_n 0, 1) := by decide +kernel
theorem dX9_undo_35 : decode cX9_undo 35 = .ok (.getfield 38, 3) := by decide +kernel
theorem dX9_undo_38 : decode cX9_undo 38 = .ok (.getfield 110, 3) := by decide +kernel
theorem dX9_undo_41 : decode cX9_undo 41 = .ok (.ireturn, 1) := by decide +kernel
theorem dX9_sign_0 : decode cX9_sign 0 = .ok (.iload_n 1, 1) := by decide +kernel
theorem dX9_sign_1 : decode cX9_sign 1 = .ok (.ifCond .lt 20, 3) := by decide +kernel
theorem dX9_sign_4 : decode cX9_sign 4 = .ok (.iload_n 1, 1) := by decide +kernel
theorem dX9_sign_5 : decode cX9_sign 5 = .ok (.aload_n 0, 1) := by decide +kernel
theorem dX9_sign_6 : decode cX9_sign 6 = .ok (.getfield 21, 3) := by decide +kernel
theorem dX9_sign_9 : decode cX9_sign 9 = .ok (.getfield 77, 3) := by decide +kernel
theorem dX9_sign_12 : decode cX9_sign 12 = .ok (.getfield 80, 3) := by decide +kernel
theorem dX9_sign_15 : decode cX9_sign 15 = .ok (.getfield 66, 3) := by decide +kernel
theorem dX9_sign_18 : decode cX9_sign 18 = .ok (.if_icmp .lt 5, 3) := by decide +kernel
theorem dX9_sign_21 : decode cX9_sign 21 = .ok (.iconst (-1), 1) := by decide +kernel
theorem dX9_sign_22 : decode cX9_sign 22 = .ok (.ireturn, 1) := by decide +kernel
theorem dX9_sign_23 : decode cX9_sign 23 = .ok (.aload_n 0, 1) := by decide +kernel
theorem dX9_sign_24 : decode cX9_sign 24 = .ok (.getfield 21, 3) := by decide +kernel
theorem dX9_sign_27 : decode cX9_sign 27 = .ok (.getfield 77, 3) := by decide +kernel
theorem dX9_sign_30 : decode cX9_sign 30 = .ok (.getfield 80, 3) := by decide +kernel
theorem dX9_sign_33 : decode cX9_sign 33 = .ok (.iload_n 1, 1) := by decide +kernel
theorem dX9_sign_34 : decode cX9_sign 34 = .ok (.invokevirtual 106, 3) := by decide +kernel
theorem dX9_sign_37 : decode cX9_sign 37 = .ok (.ireturn, 1) := by decide +kernel
theorem dX9_count_0 : decode cX9_count 0 = .ok (.iload_n 1, 1) := by decide +kernel
theorem dX9_count_1 : decode cX9_count 1 = .ok (.ifCond .lt 25, 3) := by decide +kernel
theorem dX9_count_4 : decode cX9_count 4 = .ok (.iload_n 1, 1) := by decide +kernel
theorem dX9_count_5 : decode cX9_count 5 = .ok (.aload_n 0, 1) := by decide +kernel
theorem dX9_count_6 : decode cX9_count 6 = .ok (.getfield 21, 3) := by decide +kernel
theorem dX9_count_9 : decode cX9_count 9 = .ok (.getfield 77, 3) := by decide +kernel
theorem dX9_count_12 : decode cX9_count 12 = .ok (.getfield 116, 3) := by decide +kernel
theorem dX9_count_15 : decode cX9_count 15 = .ok (.if_icmp .gt 11, 3) := by decide +kernel
theorem dX9_count_18 : decode cX9_count 18 = .ok (.iload 5, 2) := by decide +kernel
theorem dX9_count_20 : decode cX9_count 20 = .ok (.invokestatic 94, 3) := by decide +kernel
theorem dX9_count_23 : decode cX9_count 23 = .ok (.ifCond .ne 5, 3) := by decide +kernel
theorem dX9_count_26 : decode cX9_count 26 = .ok (.iconst (-1), 1) := by decide +kernel
theorem dX9_count_27 : decode cX9_count 27 = .ok (.ireturn, 1) := by decide +kernel
theorem dX9_count_28 : decode cX9_count 28 = .ok (.iload_n 2, 1) := by decide +kernel
theorem dX9_count_29 : decode cX9_count 29 = .ok (.iload_n 1, 1) := by decide +kernel
theorem dX9_count_30 : decode cX9_count 30 = .ok (.ifCond .le 7, 3) := by decide +kernel
theorem dX9_count_33 : decode cX9_count 33 = .ok (.iconst 1, 1) := by decide +kernel
theorem dX9_count_34 : decode cX9_count 34 = .ok (.goto 4, 3) := by decide +kernel
theorem dX9_count_37 : decode cX9_count 37 = .ok (.iconst 0, 1) := by decide +kernel
theorem dX9_count_38 : decode cX9_count 38 = .ok (.invokestatic 119, 3) := by decide +kernel
theorem dX9_count_41 : decode cX9_count 41 = .ok (.ifCond .eq 38, 3) := by decide +kernel
theorem dX9_count_44 : decode cX9_count 44 = .ok (.iload_n 3, 1) := by decide +kernel
theorem dX9_count_45 : decode cX9_count 45 = .ok (.iload_n 1, 1) := by decide +kernel
theorem dX9_count_46 : decode cX9_count 46 = .ok (.iconst 1, 1) := by decide +kernel
theorem dX9_count_47 : decode cX9_count 47 = .ok (.if_icmp .le 7, 3) := by decide +kernel
theorem dX9_count_50 : decode cX9_count 50 = .ok (.iconst 1, 1) := by decide +kernel
theorem dX9_count_51 : decode cX9_count 51 = .ok (.goto 4, 3) := by decide +kernel
theorem dX9_count_54 : decode cX9_count 54 = .ok (.iconst 0, 1) := by decide +kernel
theorem dX9_count_55 : decode cX9_count 55 = .ok (.invokestatic 119, 3) := by decide +kernel
theorem dX9_count_58 : decode cX9_count 58 = .ok (.ifCond .eq 21, 3) := by decide +kernel
theorem dX9_count_61 : decode cX9_count 61 = .ok (.iload 4, 2) := by decide +kernel
theorem dX9_count_63 : decode cX9_count 63 = .ok (.iload_n 1, 1) := by decide +kernel
theorem dX9_count_64 : decode cX9_count 64 = .ok (.iconst 2, 1) := by decide +kernel
theorem dX9_count_65 : decode cX9_count 65 = .ok (.if_icmp .le 7, 3) := by decide +kernel
theorem dX9_count_68 : decode cX9_count 68 = .ok (.iconst 1, 1) := by decide +kernel
theorem dX9_count_69 : decode cX9_count 69 = .ok (.goto 4, 3) := by decide +kernel
theorem dX9_count_72 : decode cX9_count 72 = .ok (.iconst 0, 1) := by decide +kernel
theorem dX9_count_73 : decode cX9_count 73 = .ok (.invokestatic 119, 3) := by decide +kernel
theorem dX9_count_76 : decode cX9_count 76 = .ok (.ifCond .ne 5, 3) := by decide +kernel
theorem dX9_count_79 : decode cX9_count 79 = .ok (.iconst (-1), 1) := by decide +kernel
theorem dX9_count_80 : decode cX9_count 80 = .ok (.ireturn, 1) := by decide +kernel
theorem dX9_count_81 : decode cX9_count 81 = .ok (.iconst 0, 1) := by decide +kernel
theorem dX9_count_82 : decode cX9_count 82 = .ok (.istore 6, 2) := by decide +kernel
theorem dX9_count_84 : decode cX9_count 84 = .ok (.iload_n 1, 1) := by decide +kernel
theorem dX9_count_85 : decode cX9_count 85 = .ok (.ifCond .le 11, 3) := by decide +kernel
theorem dX9_count_88 : decode cX9_count 88 = .ok (.iload 6, 2) := by decide +kernel
theorem dX9_count_90 : decode cX9_count 90 = .ok (.iload_n 2, 1) := by decide +kernel
theorem dX9_count_91 : decode cX9_count 91 = .ok (.invokestatic 123, 3) := by decide +kernel
theorem dX9_count_94 : decode cX9_count 94 = .ok (.istore 6, 2) := by decide +kernel
theorem dX9_count_96 : decode cX9_count 96 = .ok (.iload_n 1, 1) := by decide +kernel
theorem dX9_count_97 : decode cX9_count 97 = .ok (.iconst 1, 1) := by decide +kernel
theorem dX9_count_98 : decode cX9_count 98 = .ok (.if_icmp .le 11, 3) := by decide +kernel
theorem dX9_count_101 : decode cX9_count 101 = .ok (.iload 6, 2) := by decide +kernel
theorem dX9_count_103 : decode cX9_count 103 = .ok (.iload_n 3, 1) := by decide +kernel
theorem dX9_count_104 : decode cX9_count 104 = .ok (.invokestatic 123, 3) := by decide +kernel
theorem dX9_count_107 : decode cX9_count 107 = .ok (.istore 6, 2) := by decide +kernel
theorem dX9_count_109 : decode cX9_count 109 = .ok (.iload_n 1, 1) := by decide +kernel
theorem dX9_count_110 : decode cX9_count 110 = .ok (.iconst 2, 1) := by decide +kernel
theorem dX9_count_111 : decode cX9_count 111 = .ok (.if_icmp .le 12, 3) := by decide +kernel
theorem dX9_count_114 : decode cX9_count 114 = .ok (.iload 6, 2) := by decide +kernel
theorem dX9_count_116 : decode cX9_count 116 = .ok (.iload 4, 2) := by decide +kernel
theorem dX9_count_118 : decode cX9_count 118 = .ok (.invokestatic 123, 3) := by decide +kernel
theorem dX9_count_121 : decode cX9_count 121 = .ok (.istore 6, 2) := by decide +kernel
theorem dX9_count_123 : decode cX9_count 123 = .ok (.aload_n 0, 1) := by decide +kernel
theorem dX9_count_124 : decode cX9_count 124 = .ok (.getfield 21, 3) := by decide +kernel
theorem dX9_count_127 : decode cX9_count 127 = .ok (.getfield 126, 3) := by decide +kernel
theorem dX9_count_130 : decode cX9_count 130 = .ok (.iload 6, 2) := by decide +kernel
theorem dX9_count_132 : decode cX9_count 132 = .ok (.iload 5, 2) := by decide +kernel
theorem dX9_count_134 : decode cX9_count 134 = .ok (.invokevirtual 130, 3) := by decide +kernel
theorem dX9_count_137 : decode cX9_count 137 = .ok (.ireturn, 1) := by decide +kernel
theorem dX9_bit_0 : decode cX9_bit 0 = .ok (.iload_n 1, 1) := by decide +kernel
theorem dX9_bit_1 : decode cX9_bit 1 = .ok (.ifCond .ge 5, 3) := by decide +kernel
theorem dX9_bit_4 : decode cX9_bit 4 = .ok (.iconst (-1), 1) := by decide +kernel
theorem dX9_bit_5 : decode cX9_bit 5 = .ok (.ireturn, 1) := by decide +kernel
theorem dX9_bit_6 : decode cX9_bit 6 = .ok (.iload_n 1, 1) := by decide +kernel
theorem dX9_bit_7 : decode cX9_bit 7 = .ok (.aload_n 0, 1) := by decide +kernel
theorem dX9_bit_8 : decode cX9_bit 8 = .ok (.getfield 21, 3) := by decide +kernel
theorem dX9_bit_11 : decode cX9_bit 11 = .ok (.getfield 134, 3) := by decide +kernel
theorem dX9_bit_14 : decode cX9_bit 14 = .ok (.getfield 138, 3) := by decide +kernel
theorem dX9_bit_17 : decode cX9_bit 17 = .ok (.getfield 66, 3) := by decide +kernel
theorem dX9_bit_20 : decode cX9_bit 20 = .ok (.if_icmp .ge 20, 3) := by decide +kernel
theorem dX9_bit_23 : decode cX9_bit 23 = .ok (.aload_n 0, 1) := by decide +kernel
theorem dX9_bit_24 : decode cX9_bit 24 = .ok (.getfield 21, 3) := by decide +kernel
theorem dX9_bit_27 : decode cX9_bit 27 = .ok (.getfield 134, 3) := by decide +kernel
theorem dX9_bit_30 : decode cX9_bit 30 = .ok (.getfield 138, 3) := by decide +kernel
theorem dX9_bit_33 : decode cX9_bit 33 = .ok (.iload_n 1, 1) := by decide +kernel
theorem dX9_bit_34 : decode cX9_bit 34 = .ok (.invokevirtual 106, 3) := by decide +kernel
theorem dX9_bit_37 : decode cX9_bit 37 = .ok (.goto 5, 3) := by decide +kernel
theorem dX9_bit_40 : decode cX9_bit 40 = .ok (.bipush (-9), 2) := by decide +kernel
theorem dX9_bit_42 : decode cX9_bit 42 = .ok (.ireturn, 1) := by decide +kernel
theorem dX9_chance_0 : decode cX9_chance 0 = .ok (.iload_n 1, 1) := by decide +kernel
theorem dX9_chance_1 : decode cX9_chance 1 = .ok (.invokestatic 94, 3) := by decide +kernel
theorem dX9_chance_4 : decode cX9_chance 4 = .ok (.ifCond .eq 12, 3) := by decide +kernel
theorem dX9_chance_7 : decode cX9_chance 7 = .ok (.iload_n 2, 1) := by decide +kernel
theorem dX9_chance_8 : decode cX9_chance 8 = .ok (.iconst 0, 1) := by decide +kernel
theorem dX9_chance_9 : decode cX9_chance 9 = .ok (.iconst 1, 1) := by decide +kernel
theorem dX9_chance_10 : decode cX9_chance 10 = .ok (.invokestatic 73, 3) := by decide +kernel
theorem dX9_chance_13 : decode cX9_chance 13 = .ok (.ifCond .ne 5, 3) := by decide +kernel
theorem dX9_chance_16 : decode cX9_chance 16 = .ok (.iconst (-1), 1) := by decide +kernel
theorem dX9_chance_17 : decode cX9_chance 17 = .ok (.ireturn, 1) := by decide +kernel
theorem dX9_chance_18 : decode cX9_chance 18 = .ok (.aload_n 0, 1) := by decide +kernel
theorem dX9_chance_19 : decode cX9_chance 19 = .ok (.getfield 21, 3) := by decide +kernel
theorem dX9_chance_22 : decode cX9_chance 22 = .ok (.aload_n 0, 1) := by decide +kernel
theorem dX9_chance_23 : decode cX9_chance 23 = .ok (.getfield 31, 3) := by decide +kernel
theorem dX9_chance_26 : decode cX9_chance 26 = .ok (.iload_n 1, 1) := by decide +kernel
theorem dX9_chance_27 : decode cX9_chance 27 = .ok (.invokevirtual 143, 3) := by decide +kernel
theorem dX9_chance_30 : decode cX9_chance 30 = .ok (.pop, 1) := by decide +kernel
theorem dX9_chance_31 : decode cX9_chance 31 = .ok (.aload_n 0, 1) := by decide +kernel
theorem dX9_chance_32 : decode cX9_chance 32 = .ok (.getfield 31, 3) := by decide +kernel
theorem dX9_chance_35 : decode cX9_chance 35 = .ok (.iload_n 2, 1) := by decide +kernel
theorem dX9_chance_36 : decode cX9_chance 36 = .ok (.ifCond .ne 13, 3) := by decide +kernel
theorem dX9_chance_39 : decode cX9_chance 39 = .ok (.aload_n 0, 1) := by decide +kernel
theorem dX9_chance_40 : decode cX9_chance 40 = .ok (.getfield 31, 3) := by decide +kernel
theorem dX9_chance_43 : decode cX9_chance 43 = .ok (.getfield 147, 3) := by decide +kernel
theorem dX9_chance_46 : decode cX9_chance 46 = .ok (.goto 10, 3) := by decide +kernel
theorem dX9_chance_49 : decode cX9_chance 49 = .ok (.aload_n 0, 1) := by decide +kernel
theorem dX9_chance_50 : decode cX9_chance 50 = .ok (.getfield 31, 3) := by decide +kernel
theorem dX9_chance_53 : decode cX9_chance 53 = .ok (.getfield 151, 3) := by decide +kernel
theorem dX9_chance_56 : decode cX9_chance 56 = .ok (.invokevirtual 154, 3) := by decide +kernel
theorem dX9_chance_59 : decode cX9_chance 59 = .ok (.ireturn, 1) := by decide +kernel
theorem dX9_escapes_0 : decode cX9_escapes 0 = .ok (.iload_n 1, 1) := by decide +kernel
theorem dX9_escapes_1 : decode cX9_escapes 1 = .ok (.invokestatic 94, 3) := by decide +kernel
theorem dX9_escapes_4 : decode cX9_escapes 4 = .ok (.ifCond .eq 12, 3) := by decide +kernel
theorem dX9_escapes_7 : decode cX9_escapes 7 = .ok (.iload_n 2, 1) := by decide +kernel
theorem dX9_escapes_8 : decode cX9_escapes 8 = .ok (.iconst 0, 1) := by decide +kernel
theorem dX9_escapes_9 : decode cX9_escapes 9 = .ok (.iconst 1, 1) := by decide +kernel
theorem dX9_escapes_10 : decode cX9_escapes 10 = .ok (.invokestatic 73, 3) := by decide +kernel
theorem dX9_escapes_13 : decode cX9_escapes 13 = .ok (.ifCond .ne 6, 3) := by decide +kernel
theorem dX9_escapes_16 : decode cX9_escapes 16 = .ok (.bipush (-5), 2) := by decide +kernel
theorem dX9_escapes_18 : decode cX9_escapes 18 = .ok (.ireturn, 1) := by decide +kernel
theorem dX9_escapes_19 : decode cX9_escapes 19 = .ok (.aload_n 0, 1) := by decide +kernel
theorem dX9_escapes_20 : decode cX9_escapes 20 = .ok (.getfield 21, 3) := by decide +kernel
theorem dX9_escapes_23 : decode cX9_escapes 23 = .ok (.aload_n 0, 1) := by decide +kernel
theorem dX9_escapes_24 : decode cX9_escapes 24 = .ok (.getfield 31, 3) := by decide +kernel
theorem dX9_escapes_27 : decode cX9_escapes 27 = .ok (.iload_n 1, 1) := by decide +kernel
theorem dX9_escapes_28 : decode cX9_escapes 28 = .ok (.invokevirtual 143, 3) := by decide +kernel
theorem dX9_escapes_31 : decode cX9_escapes 31 = .ok (.istore_n 3, 1) := by decide +kernel
theorem dX9_escapes_32 : decode cX9_escapes 32 = .ok (.iload_n 2, 1) := by decide +kernel
theorem dX9_escapes_33 : decode cX9_escapes 33 = .ok (.ifCond .ne 13, 3) := by decide +kernel
theorem dX9_escapes_36 : decode cX9_escapes 36 = .ok (.aload_n 0, 1) := by decide +kernel
theorem dX9_escapes_37 : decode cX9_escapes 37 = .ok (.getfield 31, 3) := by decide +kernel
theorem dX9_escapes_40 : decode cX9_escapes 40 = .ok (.getfield 158, 3) := by decide +kernel
theorem dX9_escapes_43 : decode cX9_escapes 43 = .ok (.goto 4, 3) := by decide +kernel
theorem dX9_escapes_46 : decode cX9_escapes 46 = .ok (.iload_n 3, 1) := by decide +kernel
theorem dX9_escapes_47 : decode cX9_escapes 47 = .ok (.ireturn, 1) := by decide +kernel
theorem dX9_likeliest_0 : decode cX9_likeliest 0 = .ok (.iconst 0, 1) := by decide +kernel
theorem dX9_likeliest_1 : decode cX9_likeliest 1 = .ok (.istore_n 1, 1) := by decide +kernel
theorem dX9_likeliest_2 : decode cX9_likeliest 2 = .ok (.lconst 0, 1) := by decide +kernel
theorem dX9_likeliest_3 : decode cX9_likeliest 3 = .ok (.lstore_n 2, 1) := by decide +kernel
theorem dX9_likeliest_4 : decode cX9_likeliest 4 = .ok (.lconst 1, 1) := by decide +kernel
theorem dX9_likeliest_5 : decode cX9_likeliest 5 = .ok (.lstore 4, 2) := by decide +kernel
theorem dX9_likeliest_7 : decode cX9_likeliest 7 = .ok (.iconst 0, 1) := by decide +kernel
theorem dX9_likeliest_8 : decode cX9_likeliest 8 = .ok (.istore 6, 2) := by decide +kernel
theorem dX9_likeliest_10 : decode cX9_likeliest 10 = .ok (.iload 6, 2) := by decide +kernel
theorem dX9_likeliest_12 : decode cX9_likeliest 12 = .ok (.iconst 4, 1) := by decide +kernel
theorem dX9_likeliest_13 : decode cX9_likeliest 13 = .ok (.if_icmp .ge 66, 3) := by decide +kernel
theorem dX9_likeliest_16 : decode cX9_likeliest 16 = .ok (.aload_n 0, 1) := by decide +kernel
theorem dX9_likeliest_17 : decode cX9_likeliest 17 = .ok (.getfield 21, 3) := by decide +kernel
theorem dX9_likeliest_20 : decode cX9_likeliest 20 = .ok (.aload_n 0, 1) := by decide +kernel
theorem dX9_likeliest_21 : decode cX9_likeliest 21 = .ok (.getfield 31, 3) := by decide +kernel
theorem dX9_likeliest_24 : decode cX9_likeliest 24 = .ok (.iload 6, 2) := by decide +kernel
theorem dX9_likeliest_26 : decode cX9_likeliest 26 = .ok (.invokevirtual 143, 3) := by decide +kernel
theorem dX9_likeliest_29 : decode cX9_likeliest 29 = .ok (.pop, 1) := by decide +kernel
theorem dX9_likeliest_30 : decode cX9_likeliest 30 = .ok (.aload_n 0, 1) := by decide +kernel
theorem dX9_likeliest_31 : decode cX9_likeliest 31 = .ok (.getfield 31, 3) := by decide +kernel
theorem dX9_likeliest_34 : decode cX9_likeliest 34 = .ok (.getfield 147, 3) := by decide +kernel
theorem dX9_likeliest_37 : decode cX9_likeliest 37 = .ok (.lload 4, 2) := by decide +kernel
theorem dX9_likeliest_39 : decode cX9_likeliest 39 = .ok (.lmul, 1) := by decide +kernel
theorem dX9_likeliest_40 : decode cX9_likeliest 40 = .ok (.lload_n 2, 1) := by decide +kernel
theorem dX9_likeliest_41 : decode cX9_likeliest 41 = .ok (.aload_n 0, 1) := by decide +kernel
theorem dX9_likeliest_42 : decode cX9_likeliest 42 = .ok (.getfield 31, 3) := by decide +kernel
theorem dX9_likeliest_45 : decode cX9_likeliest 45 = .ok (.getfield 151, 3) := by decide +kernel
theorem dX9_likeliest_48 : decode cX9_likeliest 48 = .ok (.lmul, 1) := by decide +kernel
theorem dX9_likeliest_49 : decode cX9_likeliest 49 = .ok (.lcmp, 1) := by decide +kernel
theorem dX9_likeliest_50 : decode cX9_likeliest 50 = .ok (.ifCond .le 23, 3) := by decide +kernel
theorem dX9_likeliest_53 : decode cX9_likeliest 53 = .ok (.iload 6, 2) := by decide +kernel
theorem dX9_likeliest_55 : decode cX9_likeliest 55 = .ok (.istore_n 1, 1) := by decide +kernel
theorem dX9_likeliest_56 : decode cX9_likeliest 56 = .ok (.aload_n 0, 1) := by decide +kernel
theorem dX9_likeliest_57 : decode cX9_likeliest 57 = .ok (.getfield 31, 3) := by decide +kernel
theorem dX9_likeliest_60 : decode cX9_likeliest 60 = .ok (.getfield 147, 3) := by decide +kernel
theorem dX9_likeliest_63 : decode cX9_likeliest 63 = .ok (.lstore_n 2, 1) := by decide +kernel
theorem dX9_likeliest_64 : decode cX9_likeliest 64 = .ok (.aload_n 0, 1) := by decide +kernel
theorem dX9_likeliest_65 : decode cX9_likeliest 65 = .ok (.getfield 31, 3) := by decide +kernel
theorem dX9_likeliest_68 : decode cX9_likeliest 68 = .ok (.getfield 151, 3) := by decide +kernel
theorem dX9_likeliest_71 : decode cX9_likeliest 71 = .ok (.lstore 4, 2) := by decide +kernel
theorem dX9_likeliest_73 : decode cX9_likeliest 73 = .ok (.iinc 6 1, 3) := by decide +kernel
theorem dX9_likeliest_76 : decode cX9_likeliest 76 = .ok (.goto (-66), 3) := by decide +kernel
theorem dX9_likeliest_79 : decode cX9_likeliest 79 = .ok (.iload_n 1, 1) := by decide +kernel
theorem dX9_likeliest_80 : decode cX9_likeliest 80 = .ok (.ireturn, 1) := by decide +kernel
theorem dX9_length_0 : decode cX9_length 0 = .ok (.aload_n 0, 1) := by decide +kernel
theorem dX9_length_1 : decode cX9_length 1 = .ok (.getfield 21, 3) := by decide +kernel
theorem dX9_length_4 : decode cX9_length 4 = .ok (.getfield 134, 3) := by decide +kernel
theorem dX9_length_7 : decode cX9_length 7 = .ok (.invokevirtual 161, 3) := by decide +kernel
theorem dX9_length_10 : decode cX9_length 10 = .ok (.ireturn, 1) := by decide +kernel
theorem dX9_best_0 : decode cX9_best 0 = .ok (.iconst 0, 1) := by decide +kernel
theorem dX9_best_1 : decode cX9_best 1 = .ok (.istore_n 1, 1) := by decide +kernel
theorem dX9_best_2 : decode cX9_best 2 = .ok (.iconst 0, 1) := by decide +kernel
theorem dX9_best_3 : decode cX9_best 3 = .ok (.istore_n 2, 1) := by decide +kernel
theorem dX9_best_4 : decode cX9_best 4 = .ok (.iconst 0, 1) := by decide +kernel
theorem dX9_best_5 : decode cX9_best 5 = .ok (.istore_n 3, 1) := by decide +kernel
theorem dX9_best_6 : decode cX9_best 6 = .ok (.iload_n 3, 1) := by decide +kernel
theorem dX9_best_7 : decode cX9_best 7 = .ok (.iconst 3, 1) := by decide +kernel
theorem dX9_best_8 : decode cX9_best 8 = .ok (.if_icmp .gt 71, 3) := by decide +kernel
theorem dX9_best_11 : decode cX9_best 11 = .ok (.aload_n 0, 1) := by decide +kernel
theorem dX9_best_12 : decode cX9_best 12 = .ok (.getfield 25, 3) := by decide +kernel
theorem dX9_best_15 : decode cX9_best 15 = .ok (.getfield 77, 3) := by decide +kernel
theorem dX9_best_18 : decode cX9_best 18 = .ok (.aload_n 0, 1) := by decide +kernel
theorem dX9_best_19 : decode cX9_best 19 = .ok (.getfield 21, 3) := by decide +kernel
theorem dX9_best_22 : decode cX9_best 22 = .ok (.getfield 77, 3) := by decide +kernel
theorem dX9_best_25 : decode cX9_best 25 = .ok (.invokevirtual 164, 3) := by decide +kernel
theorem dX9_best_28 : decode cX9_best 28 = .ok (.aload_n 0, 1) := by decide +kernel
theorem dX9_best_29 : decode cX9_best 29 = .ok (.getfield 25, 3) := by decide +kernel
theorem dX9_best_32 : decode cX9_best 32 = .ok (.getfield 77, 3) := by decide +kernel
theorem dX9_best_35 : decode cX9_best 35 = .ok (.iload_n 3, 1) := by decide +kernel
theorem dX9_best_36 : decode cX9_best 36 = .ok (.putfield 116, 3) := by decide +kernel
theorem dX9_best_39 : decode cX9_best 39 = .ok (.aload_n 0, 1) := by decide +kernel
theorem dX9_best_40 : decode cX9_best 40 = .ok (.getfield 25, 3) := by decide +kernel
theorem dX9_best_43 : decode cX9_best 43 = .ok (.invokevirtual 91, 3) := by decide +kernel
theorem dX9_best_46 : decode cX9_best 46 = .ok (.aload_n 0, 1) := by decide +kernel
theorem dX9_best_47 : decode cX9_best 47 = .ok (.getfield 25, 3) := by decide +kernel
theorem dX9_best_50 : decode cX9_best 50 = .ok (.getfield 134, 3) := by decide +kernel
theorem dX9_best_53 : decode cX9_best 53 = .ok (.invokevirtual 161, 3) := by decide +kernel
theorem dX9_best_56 : decode cX9_best 56 = .ok (.istore 4, 2) := by decide +kernel
theorem dX9_best_58 : decode cX9_best 58 = .ok (.iload_n 3, 1) := by decide +kernel
theorem dX9_best_59 : decode cX9_best 59 = .ok (.ifCond .eq 9, 3) := by decide +kernel
theorem dX9_best_62 : decode cX9_best 62 = .ok (.iload 4, 2) := by decide +kernel
theorem dX9_best_64 : decode cX9_best 64 = .ok (.iload_n 2, 1) := by decide +kernel
theorem dX9_best_65 : decode cX9_best 65 = .ok (.if_icmp .ge 8, 3) := by decide +kernel
theorem dX9_best_68 : decode cX9_best 68 = .ok (.iload_n 3, 1) := by decide +kernel
theorem dX9_best_69 : decode cX9_best 69 = .ok (.istore_n 1, 1) := by decide +kernel
theorem dX9_best_70 : decode cX9_best 70 = .ok (.iload 4, 2) := by decide +kernel
theorem dX9_best_72 : decode cX9_best 72 = .ok (.istore_n 2, 1) := by decide +kernel
theorem dX9_best_73 : decode cX9_best 73 = .ok (.iinc 3 1, 3) := by decide +kernel
theorem dX9_best_76 : decode cX9_best 76 = .ok (.goto (-70), 3) := by decide +kernel
theorem dX9_best_79 : decode cX9_best 79 = .ok (.iload_n 1, 1) := by decide +kernel
theorem dX9_best_80 : decode cX9_best 80 = .ok (.ireturn, 1) := by decide +kernel
theorem dX9_unpacked_0 : decode cX9_unpacked 0 = .ok (.iload_n 1, 1) := by decide +kernel
theorem dX9_unpacked_1 : decode cX9_unpacked 1 = .ok (.iconst 0, 1) := by decide +kernel
theorem dX9_unpacked_2 : decode cX9_unpacked 2 = .ok (.bipush 59, 2) := by decide +kernel
theorem dX9_unpacked_4 : decode cX9_unpacked 4 = .ok (.invokestatic 73, 3) := by decide +kernel
theorem dX9_unpacked_7 : decode cX9_unpacked 7 = .ok (.ifCond .ne 5, 3) := by decide +kernel
theorem dX9_unpacked_10 : decode cX9_unpacked 10 = .ok (.iconst (-1), 1) := by decide +kernel
theorem dX9_unpacked_11 : decode cX9_unpacked 11 = .ok (.ireturn, 1) := by decide +kernel
theorem dX9_unpacked_12 : decode cX9_unpacked 12 = .ok (.aload_n 0, 1) := by decide +kernel
theorem dX9_unpacked_13 : decode cX9_unpacked 13 = .ok (.bipush 48, 2) := by decide +kernel
theorem dX9_unpacked_15 : decode cX9_unpacked 15 = .ok (.iconst 2, 1) := by decide +kernel
theorem dX9_unpacked_16 : decode cX9_unpacked 16 = .ok (.invokevirtual 102, 3) := by decide +kernel
theorem dX9_unpacked_19 : decode cX9_unpacked 19 = .ok (.istore_n 2, 1) := by decide +kernel
theorem dX9_unpacked_20 : decode cX9_unpacked 20 = .ok (.iload_n 2, 1) := by decide +kernel
theorem dX9_unpacked_21 : decode cX9_unpacked 21 = .ok (.ifCond .lt 8, 3) := by decide +kernel
theorem dX9_unpacked_24 : decode cX9_unpacked 24 = .ok (.bipush (-10), 2) := by decide +kernel
theorem dX9_unpacked_26 : decode cX9_unpacked 26 = .ok (.iload_n 2, 1) := by decide +kernel
theorem dX9_unpacked_27 : decode cX9_unpacked 27 = .ok (.isub, 1) := by decide +kernel
theorem dX9_unpacked_28 : decode cX9_unpacked 28 = .ok (.ireturn, 1) := by decide +kernel
theorem dX9_unpacked_29 : decode cX9_unpacked 29 = .ok (.aload_n 0, 1) := by decide +kernel
theorem dX9_unpacked_30 : decode cX9_unpacked 30 = .ok (.getfield 25, 3) := by decide +kernel
theorem dX9_unpacked_33 : decode cX9_unpacked 33 = .ok (.aload_n 0, 1) := by decide +kernel
theorem dX9_unpacked_34 : decode cX9_unpacked 34 = .ok (.getfield 21, 3) := by decide +kernel
theorem dX9_unpacked_37 : decode cX9_unpacked 37 = .ok (.getfield 77, 3) := by decide +kernel
theorem dX9_unpacked_40 : decode cX9_unpacked 40 = .ok (.invokevirtual 167, 3) := by decide +kernel
theorem dX9_unpacked_43 : decode cX9_unpacked 43 = .ok (.iconst 0, 1) := by decide +kernel
theorem dX9_unpacked_44 : decode cX9_unpacked 44 = .ok (.istore_n 3, 1) := by decide +kernel
theorem dX9_unpacked_45 : decode cX9_unpacked 45 = .ok (.iload_n 3, 1) := by decide +kernel
theorem dX9_unpacked_46 : decode cX9_unpacked 46 = .ok (.aload_n 0, 1) := by decide +kernel
theorem dX9_unpacked_47 : decode cX9_unpacked 47 = .ok (.getfield 14, 3) := by decide +kernel
theorem dX9_unpacked_50 : decode cX9_unpacked 50 = .ok (.getfield 66, 3) := by decide +kernel
theorem dX9_unpacked_53 : decode cX9_unpacked 53 = .ok (.if_icmp .ge 33, 3) := by decide +kernel
theorem dX9_unpacked_56 : decode cX9_unpacked 56 = .ok (.aload_n 0, 1) := by decide +kernel
theorem dX9_unpacked_57 : decode cX9_unpacked 57 = .ok (.getfield 25, 3) := by decide +kernel
theorem dX9_unpacked_60 : decode cX9_unpacked 60 = .ok (.getfield 134, 3) := by decide +kernel
theorem dX9_unpacked_63 : decode cX9_unpacked 63 = .ok (.getfield 138, 3) := by decide +kernel
theorem dX9_unpacked_66 : decode cX9_unpacked 66 = .ok (.aload_n 0, 1) := by decide +kernel
theorem dX9_unpacked_67 : decode cX9_unpacked 67 = .ok (.getfield 14, 3) := by decide +kernel
theorem dX9_unpacked_70 : decode cX9_unpacked 70 = .ok (.iload_n 3, 1) := by decide +kernel
theorem dX9_unpacked_71 : decode cX9_unpacked 71 = .ok (.invokevirtual 106, 3) := by decide +kernel
theorem dX9_unpacked_74 : decode cX9_unpacked 74 = .ok (.bipush 48, 2) := by decide +kernel
theorem dX9_unpacked_76 : decode cX9_unpacked 76 = .ok (.isub, 1) := by decide +kernel
theorem dX9_unpacked_77 : decode cX9_unpacked 77 = .ok (.invokevirtual 63, 3) := by decide +kernel
theorem dX9_unpacked_80 : decode cX9_unpacked 80 = .ok (.iinc 3 1, 3) := by decide +kernel
theorem dX9_unpacked_83 : decode cX9_unpacked 83 = .ok (.goto (-38), 3) := by decide +kernel
theorem dX9_unpacked_86 : decode cX9_unpacked 86 = .ok (.aload_n 0, 1) := by decide +kernel
theorem dX9_unpacked_87 : decode cX9_unpacked 87 = .ok (.getfield 25, 3) := by decide +kernel
theorem dX9_unpacked_90 : decode cX9_unpacked 90 = .ok (.getfield 134, 3) := by decide +kernel
theorem dX9_unpacked_93 : decode cX9_unpacked 93 = .ok (.invokevirtual 170, 3) := by decide +kernel
theorem dX9_unpacked_96 : decode cX9_unpacked 96 = .ok (.iconst 0, 1) := by decide +kernel
theorem dX9_unpacked_97 : decode cX9_unpacked 97 = .ok (.istore_n 3, 1) := by decide +kernel
theorem dX9_unpacked_98 : decode cX9_unpacked 98 = .ok (.iload_n 3, 1) := by decide +kernel
theorem dX9_unpacked_99 : decode cX9_unpacked 99 = .ok (.iload_n 1, 1) := by decide +kernel
theorem dX9_unpacked_100 : decode cX9_unpacked 100 = .ok (.if_icmp .ge 17, 3) := by decide +kernel
theorem dX9_unpacked_103 : decode cX9_unpacked 103 = .ok (.aload_n 0, 1) := by decide +kernel
theorem dX9_unpacked_104 : decode cX9_unpacked 104 = .ok (.getfield 25, 3) := by decide +kernel
theorem dX9_unpacked_107 : decode cX9_unpacked 107 = .ok (.invokevirtual 173, 3) := by decide +kernel
theorem dX9_unpacked_110 : decode cX9_unpacked 110 = .ok (.pop, 1) := by decide +kernel
theorem dX9_unpacked_111 : decode cX9_unpacked 111 = .ok (.iinc 3 1, 3) := by decide +kernel
theorem dX9_unpacked_114 : decode cX9_unpacked 114 = .ok (.goto (-16), 3) := by decide +kernel
theorem dX9_unpacked_117 : decode cX9_unpacked 117 = .ok (.aload_n 0, 1) := by decide +kernel
theorem dX9_unpacked_118 : decode cX9_unpacked 118 = .ok (.getfield 25, 3) := by decide +kernel
theorem dX9_unpacked_121 : decode cX9_unpacked 121 = .ok (.invokevirtual 173, 3) := by decide +kernel
theorem dX9_unpacked_124 : decode cX9_unpacked 124 = .ok (.ireturn, 1) := by decide +kernel
theorem dX9_agrees_0 : decode cX9_agrees 0 = .ok (.aload_n 0, 1) := by decide +kernel
theorem dX9_agrees_1 : decode cX9_agrees 1 = .ok (.getfield 25, 3) := by decide +kernel
theorem dX9_agrees_4 : decode cX9_agrees 4 = .ok (.aload_n 0, 1) := by decide +kernel
theorem dX9_agrees_5 : decode cX9_agrees 5 = .ok (.getfield 21, 3) := by decide +kernel
theorem dX9_agrees_8 : decode cX9_agrees 8 = .ok (.getfield 77, 3) := by decide +kernel
theorem dX9_agrees_11 : decode cX9_agrees 11 = .ok (.invokevirtual 167, 3) := by decide +kernel
theorem dX9_agrees_14 : decode cX9_agrees 14 = .ok (.aload_n 0, 1) := by decide +kernel
theorem dX9_agrees_15 : decode cX9_agrees 15 = .ok (.getfield 25, 3) := by decide +kernel
theorem dX9_agrees_18 : decode cX9_agrees 18 = .ok (.getfield 134, 3) := by decide +kernel
theorem dX9_agrees_21 : decode cX9_agrees 21 = .ok (.aload_n 0, 1) := by decide +kernel
theorem dX9_agrees_22 : decode cX9_agrees 22 = .ok (.getfield 21, 3) := by decide +kernel
theorem dX9_agrees_25 : decode cX9_agrees 25 = .ok (.getfield 134, 3) := by decide +kernel
theorem dX9_agrees_28 : decode cX9_agrees 28 = .ok (.invokevirtual 176, 3) := by decide +kernel
theorem dX9_agrees_31 : decode cX9_agrees 31 = .ok (.aload_n 0, 1) := by decide +kernel
theorem dX9_agrees_32 : decode cX9_agrees 32 = .ok (.getfield 25, 3) := by decide +kernel
theorem dX9_agrees_35 : decode cX9_agrees 35 = .ok (.getfield 134, 3) := by decide +kernel
theorem dX9_agrees_38 : decode cX9_agrees 38 = .ok (.invokevirtual 170, 3) := by decide +kernel
theorem dX9_agrees_41 : decode cX9_agrees 41 = .ok (.aload_n 0, 1) := by decide +kernel
theorem dX9_agrees_42 : decode cX9_agrees 42 = .ok (.getfield 21, 3) := by decide +kernel
theorem dX9_agrees_45 : decode cX9_agrees 45 = .ok (.getfield 77, 3) := by decide +kernel
theorem dX9_agrees_48 : decode cX9_agrees 48 = .ok (.getfield 80, 3) := by decide +kernel
theorem dX9_agrees_51 : decode cX9_agrees 51 = .ok (.getfield 66, 3) := by decide +kernel
theorem dX9_agrees_54 : decode cX9_agrees 54 = .ok (.istore_n 1, 1) := by decide +kernel
theorem dX9_agrees_55 : decode cX9_agrees 55 = .ok (.iconst 0, 1) := by decide +kernel
theorem dX9_agrees_56 : decode cX9_agrees 56 = .ok (.istore_n 2, 1) := by decide +kernel
theorem dX9_agrees_57 : decode cX9_agrees 57 = .ok (.iload_n 2, 1) := by decide +kernel
theorem dX9_agrees_58 : decode cX9_agrees 58 = .ok (.iload_n 1, 1) := by decide +kernel
theorem dX9_agrees_59 : decode cX9_agrees 59 = .ok (.if_icmp .ge 35, 3) := by decide +kernel
theorem dX9_agrees_62 : decode cX9_agrees 62 = .ok (.aload_n 0, 1) := by decide +kernel
theorem dX9_agrees_63 : decode cX9_agrees 63 = .ok (.getfield 25, 3) := by decide +kernel
theorem dX9_agrees_66 : decode cX9_agrees 66 = .ok (.invokevirtual 173, 3) := by decide +kernel
theorem dX9_agrees_69 : decode cX9_agrees 69 = .ok (.aload_n 0, 1) := by decide +kernel
theorem dX9_agrees_70 : decode cX9_agrees 70 = .ok (.getfield 21, 3) := by decide +kernel
theorem dX9_agrees_73 : decode cX9_agrees 73 = .ok (.getfield 77, 3) := by decide +kernel
theorem dX9_agrees_76 : decode cX9_agrees 76 = .ok (.getfield 80, 3) := by decide +kernel
theorem dX9_agrees_79 : decode cX9_agrees 79 = .ok (.iload_n 2, 1) := by decide +kernel
theorem dX9_agrees_80 : decode cX9_agrees 80 = .ok (.invokevirtual 106, 3) := by decide +kernel
theorem dX9_agrees_83 : decode cX9_agrees 83 = .ok (.if_icmp .eq 5, 3) := by decide +kernel
theorem dX9_agrees_86 : decode cX9_agrees 86 = .ok (.iload_n 2, 1) := by decide +kernel
theorem dX9_agrees_87 : decode cX9_agrees 87 = .ok (.ireturn, 1) := by decide +kernel
theorem dX9_agrees_88 : decode cX9_agrees 88 = .ok (.iinc 2 1, 3) := by decide +kernel
theorem dX9_agrees_91 : decode cX9_agrees 91 = .ok (.goto (-34), 3) := by decide +kernel
theorem dX9_agrees_94 : decode cX9_agrees 94 = .ok (.iload_n 1, 1) := by decide +kernel
theorem dX9_agrees_95 : decode cX9_agrees 95 = .ok (.ireturn, 1) := by decide +kernel
theorem dX9_keep_0 : decode cX9_keep 0 = .ok (.iload_n 1, 1) := by decide +kernel
theorem dX9_keep_1 : decode cX9_keep 1 = .ok (.iconst 0, 1) := by decide +kernel
theorem dX9_keep_2 : decode cX9_keep 2 = .ok (.iconst 1, 1) := by decide +kernel
theorem dX9_keep_3 : decode cX9_keep 3 = .ok (.invokestatic 73, 3) := by decide +kernel
theorem dX9_keep_6 : decode cX9_keep 6 = .ok (.ifCond .ne 5, 3) := by decide +kernel
theorem dX9_keep_9 : decode cX9_keep 9 = .ok (.iconst (-1), 1) := by decide +kernel
theorem dX9_keep_10 : decode cX9_keep 10 = .ok (.ireturn, 1) := by decide +kernel
theorem dX9_keep_11 : decode cX9_keep 11 = .ok (.iload_n 1, 1) := by decide +kernel
theorem dX9_keep_12 : decode cX9_keep 12 = .ok (.ifCond .ne 25, 3) := by decide +kernel
theorem dX9_keep_15 : decode cX9_keep 15 = .ok (.aload_n 0, 1) := by decide +kernel
theorem dX9_keep_16 : decode cX9_keep 16 = .ok (.getfield 45, 3) := by decide +kernel
theorem dX9_keep_19 : decode cX9_keep 19 = .ok (.aload_n 0, 1) := by decide +kernel
theorem dX9_keep_20 : decode cX9_keep 20 = .ok (.getfield 21, 3) := by decide +kernel
theorem dX9_keep_23 : decode cX9_keep 23 = .ok (.getfield 77, 3) := by decide +kernel
theorem dX9_keep_26 : decode cX9_keep 26 = .ok (.invokevirtual 164, 3) := by decide +kernel
theorem dX9_keep_29 : decode cX9_keep 29 = .ok (.aload_n 0, 1) := by decide +kernel
theorem dX9_keep_30 : decode cX9_keep 30 = .ok (.iconst 1, 1) := by decide +kernel
theorem dX9_keep_31 : decode cX9_keep 31 = .ok (.putfield 52, 3) := by decide +kernel
theorem dX9_keep_34 : decode cX9_keep 34 = .ok (.goto 22, 3) := by decide +kernel
theorem dX9_keep_37 : decode cX9_keep 37 = .ok (.aload_n 0, 1) := by decide +kernel
theorem dX9_keep_38 : decode cX9_keep 38 = .ok (.getfield 49, 3) := by decide +kernel
theorem dX9_keep_41 : decode cX9_keep 41 = .ok (.aload_n 0, 1) := by decide +kernel
theorem dX9_keep_42 : decode cX9_keep 42 = .ok (.getfield 21, 3) := by decide +kernel
theorem dX9_keep_45 : decode cX9_keep 45 = .ok (.getfield 77, 3) := by decide +kernel
theorem dX9_keep_48 : decode cX9_keep 48 = .ok (.invokevirtual 164, 3) := by decide +kernel
theorem dX9_keep_51 : decode cX9_keep 51 = .ok (.aload_n 0, 1) := by decide +kernel
theorem dX9_keep_52 : decode cX9_keep 52 = .ok (.iconst 1, 1) := by decide +kernel
theorem dX9_keep_53 : decode cX9_keep 53 = .ok (.putfield 56, 3) := by decide +kernel
theorem dX9_keep_56 : decode cX9_keep 56 = .ok (.aload_n 0, 1) := by decide +kernel
theorem dX9_keep_57 : decode cX9_keep 57 = .ok (.getfield 21, 3) := by decide +kernel
theorem dX9_keep_60 : decode cX9_keep 60 = .ok (.getfield 77, 3) := by decide +kernel
theorem dX9_keep_63 : decode cX9_keep 63 = .ok (.getfield 80, 3) := by decide +kernel
theorem dX9_keep_66 : decode cX9_keep 66 = .ok (.getfield 66, 3) := by decide +kernel
theorem dX9_keep_69 : decode cX9_keep 69 = .ok (.ireturn, 1) := by decide +kernel
theorem dX9_back_0 : decode cX9_back 0 = .ok (.iload_n 1, 1) := by decide +kernel
theorem dX9_back_1 : decode cX9_back 1 = .ok (.iconst 0, 1) := by decide +kernel
theorem dX9_back_2 : decode cX9_back 2 = .ok (.iconst 1, 1) := by decide +kernel
theorem dX9_back_3 : decode cX9_back 3 = .ok (.invokestatic 73, 3) := by decide +kernel
theorem dX9_back_6 : decode cX9_back 6 = .ok (.ifCond .ne 5, 3) := by decide +kernel
theorem dX9_back_9 : decode cX9_back 9 = .ok (.iconst (-1), 1) := by decide +kernel
theorem dX9_back_10 : decode cX9_back 10 = .ok (.ireturn, 1) := by decide +kernel
theorem dX9_back_11 : decode cX9_back 11 = .ok (.iload_n 1, 1) := by decide +kernel
theorem dX9_back_12 : decode cX9_back 12 = .ok (.ifCond .ne 13, 3) := by decide +kernel
theorem dX9_back_15 : decode cX9_back 15 = .ok (.aload_n 0, 1) := by decide +kernel
theorem dX9_back_16 : decode cX9_back 16 = .ok (.getfield 52, 3) := by decide +kernel
theorem dX9_back_19 : decode cX9_back 19 = .ok (.ifCond .ne 16, 3) := by decide +kernel
theorem dX9_back_22 : decode cX9_back 22 = .ok (.goto 10, 3) := by decide +kernel
theorem dX9_back_25 : decode cX9_back 25 = .ok (.aload_n 0, 1) := by decide +kernel
theorem dX9_back_26 : decode cX9_back 26 = .ok (.getfield 56, 3) := by decide +kernel
theorem dX9_back_29 : decode cX9_back 29 = .ok (.ifCond .ne 6, 3) := by decide +kernel
theorem dX9_back_32 : decode cX9_back 32 = .ok (.bipush (-2), 2) := by decide +kernel
theorem dX9_back_34 : decode cX9_back 34 = .ok (.ireturn, 1) := by decide +kernel
theorem dX9_back_35 : decode cX9_back 35 = .ok (.aload_n 0, 1) := by decide +kernel
theorem dX9_back_36 : decode cX9_back 36 = .ok (.getfield 21, 3) := by decide +kernel
theorem dX9_back_39 : decode cX9_back 39 = .ok (.getfield 77, 3) := by decide +kernel
theorem dX9_back_42 : decode cX9_back 42 = .ok (.iload_n 1, 1) := by decide +kernel
theorem dX9_back_43 : decode cX9_back 43 = .ok (.ifCond .ne 10, 3) := by decide +kernel
theorem dX9_back_46 : decode cX9_back 46 = .ok (.aload_n 0, 1) := by decide +kernel
theorem dX9_back_47 : decode cX9_back 47 = .ok (.getfield 45, 3) := by decide +kernel
theorem dX9_back_50 : decode cX9_back 50 = .ok (.goto 7, 3) := by decide +kernel
theorem dX9_back_53 : decode cX9_back 53 = .ok (.aload_n 0, 1) := by decide +kernel
theorem dX9_back_54 : decode cX9_back 54 = .ok (.getfield 49, 3) := by decide +kernel
theorem dX9_back_57 : decode cX9_back 57 = .ok (.invokevirtual 164, 3) := by decide +kernel
theorem dX9_back_60 : decode cX9_back 60 = .ok (.aload_n 0, 1) := by decide +kernel
theorem dX9_back_61 : decode cX9_back 61 = .ok (.getfield 21, 3) := by decide +kernel
theorem dX9_back_64 : decode cX9_back 64 = .ok (.invokevirtual 91, 3) := by decide +kernel
theorem dX9_back_67 : decode cX9_back 67 = .ok (.aload_n 0, 1) := by decide +kernel
theorem dX9_back_68 : decode cX9_back 68 = .ok (.getfield 38, 3) := by decide +kernel
theorem dX9_back_71 : decode cX9_back 71 = .ok (.invokevirtual 180, 3) := by decide +kernel
theorem dX9_back_74 : decode cX9_back 74 = .ok (.aload_n 0, 1) := by decide +kernel
theorem dX9_back_75 : decode cX9_back 75 = .ok (.getfield 21, 3) := by decide +kernel
theorem dX9_back_78 : decode cX9_back 78 = .ok (.getfield 77, 3) := by decide +kernel
theorem dX9_back_81 : decode cX9_back 81 = .ok (.getfield 80, 3) := by decide +kernel
theorem dX9_back_84 : decode cX9_back 84 = .ok (.getfield 66, 3) := by decide +kernel
theorem dX9_back_87 : decode cX9_back 87 = .ok (.ireturn, 1) := by decide +kernel
theorem dX9_told_0 : decode cX9_told 0 = .ok (.iload_n 1, 1) := by decide +kernel
theorem dX9_told_1 : decode cX9_told 1 = .ok (.tableswitch 207 0 12 #[67, 81, 92, 100, 114, 125, 136, 147, 158, 169, 180, 191, 199], 67) := by decide +kernel
theorem dX9_told_68 : decode cX9_told 68 = .ok (.aload_n 0, 1) := by decide +kernel
theorem dX9_told_69 : decode cX9_told 69 = .ok (.getfield 21, 3) := by decide +kernel
theorem dX9_told_72 : decode cX9_told 72 = .ok (.getfield 77, 3) := by decide +kernel
theorem dX9_told_75 : decode cX9_told 75 = .ok (.getfield 80, 3) := by decide +kernel
theorem dX9_told_78 : decode cX9_told 78 = .ok (.getfield 66, 3) := by decide +kernel
theorem dX9_told_81 : decode cX9_told 81 = .ok (.ireturn, 1) := by decide +kernel
theorem dX9_told_82 : decode cX9_told 82 = .ok (.aload_n 0, 1) := by decide +kernel
theorem dX9_told_83 : decode cX9_told 83 = .ok (.getfield 21, 3) := by decide +kernel
theorem dX9_told_86 : decode cX9_told 86 = .ok (.getfield 126, 3) := by decide +kernel
theorem dX9_told_89 : decode cX9_told 89 = .ok (.getfield 183, 3) := by decide +kernel
theorem dX9_told_92 : decode cX9_told 92 = .ok (.ireturn, 1) := by decide +kernel
theorem dX9_told_93 : decode cX9_told 93 = .ok (.aload_n 0, 1) := by decide +kernel
theorem dX9_told_94 : decode cX9_told 94 = .ok (.getfield 21, 3) := by decide +kernel
theorem dX9_told_97 : decode cX9_told 97 = .ok (.getfield 186, 3) := by decide +kernel
theorem dX9_told_100 : decode cX9_told 100 = .ok (.ireturn, 1) := by decide +kernel
theorem dX9_told_101 : decode cX9_told 101 = .ok (.aload_n 0, 1) := by decide +kernel
theorem dX9_told_102 : decode cX9_told 102 = .ok (.getfield 21, 3) := by decide +kernel
theorem dX9_told_105 : decode cX9_told 105 = .ok (.getfield 134, 3) := by decide +kernel
theorem dX9_told_108 : decode cX9_told 108 = .ok (.getfield 138, 3) := by decide +kernel
theorem dX9_told_111 : decode cX9_told 111 = .ok (.getfield 66, 3) := by decide +kernel
theorem dX9_told_114 : decode cX9_told 114 = .ok (.ireturn, 1) := by decide +kernel
theorem dX9_told_115 : decode cX9_told 115 = .ok (.aload_n 0, 1) := by decide +kernel
theorem dX9_told_116 : decode cX9_told 116 = .ok (.getfield 21, 3) := by decide +kernel
theorem dX9_told_119 : decode cX9_told 119 = .ok (.getfield 134, 3) := by decide +kernel
theorem dX9_told_122 : decode cX9_told 122 = .ok (.getfield 189, 3) := by decide +kernel
theorem dX9_told_125 : decode cX9_told 125 = .ok (.ireturn, 1) := by decide +kernel
theorem dX9_told_126 : decode cX9_told 126 = .ok (.aload_n 0, 1) := by decide +kernel
theorem dX9_told_127 : decode cX9_told 127 = .ok (.getfield 21, 3) := by decide +kernel
theorem dX9_told_130 : decode cX9_told 130 = .ok (.getfield 134, 3) := by decide +kernel
theorem dX9_told_133 : decode cX9_told 133 = .ok (.getfield 192, 3) := by decide +kernel
theorem dX9_told_136 : decode cX9_told 136 = .ok (.ireturn, 1) := by decide +kernel
theorem dX9_told_137 : decode cX9_told 137 = .ok (.aload_n 0, 1) := by decide +kernel
theorem dX9_told_138 : decode cX9_told 138 = .ok (.getfield 21, 3) := by decide +kernel
theorem dX9_told_141 : decode cX9_told 141 = .ok (.getfield 134, 3) := by decide +kernel
theorem dX9_told_144 : decode cX9_told 144 = .ok (.getfield 195, 3) := by decide +kernel
theorem dX9_told_147 : decode cX9_told 147 = .ok (.ireturn, 1) := by decide +kernel
theorem dX9_told_148 : decode cX9_told 148 = .ok (.aload_n 0, 1) := by decide +kernel
theorem dX9_told_149 : decode cX9_told 149 = .ok (.getfield 21, 3) := by decide +kernel
theorem dX9_told_152 : decode cX9_told 152 = .ok (.getfield 77, 3) := by decide +kernel
theorem dX9_told_155 : decode cX9_told 155 = .ok (.getfield 116, 3) := by decide +kernel
theorem dX9_told_158 : decode cX9_told 158 = .ok (.ireturn, 1) := by decide +kernel
theorem dX9_told_159 : decode cX9_told 159 = .ok (.aload_n 0, 1) := by decide +kernel
theorem dX9_told_160 : decode cX9_told 160 = .ok (.getfield 21, 3) := by decide +kernel
theorem dX9_told_163 : decode cX9_told 163 = .ok (.getfield 77, 3) := by decide +kernel
theorem dX9_told_166 : decode cX9_told 166 = .ok (.getfield 198, 3) := by decide +kernel
theorem dX9_told_169 : decode cX9_told 169 = .ok (.ireturn, 1) := by decide +kernel
theorem dX9_told_170 : decode cX9_told 170 = .ok (.aload_n 0, 1) := by decide +kernel
theorem dX9_told_171 : decode cX9_told 171 = .ok (.getfield 21, 3) := by decide +kernel
theorem dX9_told_174 : decode cX9_told 174 = .ok (.getfield 77, 3) := by decide +kernel
theorem dX9_told_177 : decode cX9_told 177 = .ok (.getfield 201, 3) := by decide +kernel
theorem dX9_told_180 : decode cX9_told 180 = .ok (.ireturn, 1) := by decide +kernel
theorem dX9_told_181 : decode cX9_told 181 = .ok (.aload_n 0, 1) := by decide +kernel
theorem dX9_told_182 : decode cX9_told 182 = .ok (.getfield 21, 3) := by decide +kernel
theorem dX9_told_185 : decode cX9_told 185 = .ok (.getfield 77, 3) := by decide +kernel
theorem dX9_told_188 : decode cX9_told 188 = .ok (.getfield 204, 3) := by decide +kernel
theorem dX9_told_191 : decode cX9_told 191 = .ok (.ireturn, 1) := by decide +kernel
theorem dX9_told_192 : decode cX9_told 192 = .ok (.aload_n 0, 1) := by decide +kernel
theorem dX9_told_193 : decode cX9_told 193 = .ok (.getfield 14, 3) := by decide +kernel
theorem dX9_told_196 : decode cX9_told 196 = .ok (.getfield 66, 3) := by decide +kernel
theorem dX9_told_199 : decode cX9_told 199 = .ok (.ireturn, 1) := by decide +kernel
theorem dX9_told_200 : decode cX9_told 200 = .ok (.aload_n 0, 1) := by decide +kernel
theorem dX9_told_201 : decode cX9_told 201 = .ok (.getfield 38, 3) := by decide +kernel
theorem dX9_told_204 : decode cX9_told 204 = .ok (.getfield 110, 3) := by decide +kernel
theorem dX9_told_207 : decode cX9_told 207 = .ok (.ireturn, 1) := by decide +kernel
theorem dX9_told_208 : decode cX9_told 208 = .ok (.iconst (-1), 1) := by decide +kernel
theorem dX9_told_209 : decode cX9_told 209 = .ok (.ireturn, 1) := by decide +kernel
theorem dX9_isWithin_0 : decode cX9_isWithin 0 = .ok (.iload_n 0, 1) := by decide +kernel
theorem dX9_isWithin_1 : decode cX9_isWithin 1 = .ok (.iload_n 1, 1) := by decide +kernel
theorem dX9_isWithin_2 : decode cX9_isWithin 2 = .ok (.if_icmp .lt 12, 3) := by decide +kernel
theorem dX9_isWithin_5 : decode cX9_isWithin 5 = .ok (.iload_n 0, 1) := by decide +kernel
theorem dX9_isWithin_6 : decode cX9_isWithin 6 = .ok (.iload_n 2, 1) := by decide +kernel
theorem dX9_isWithin_7 : decode cX9_isWithin 7 = .ok (.if_icmp .gt 7, 3) := by decide +kernel
theorem dX9_isWithin_10 : decode cX9_isWithin 10 = .ok (.iconst 1, 1) := by decide +kernel
theorem dX9_isWithin_11 : decode cX9_isWithin 11 = .ok (.goto 4, 3) := by decide +kernel
theorem dX9_isWithin_14 : decode cX9_isWithin 14 = .ok (.iconst 0, 1) := by decide +kernel
theorem dX9_isWithin_15 : decode cX9_isWithin 15 = .ok (.ireturn, 1) := by decide +kernel
theorem dX9_isSign_0 : decode cX9_isSign 0 = .ok (.iload_n 0, 1) := by decide +kernel
theorem dX9_isSign_1 : decode cX9_isSign 1 = .ok (.iconst 0, 1) := by decide +kernel
theorem dX9_isSign_2 : decode cX9_isSign 2 = .ok (.iconst 3, 1) := by decide +kernel
theorem dX9_isSign_3 : decode cX9_isSign 3 = .ok (.invokestatic 73, 3) := by decide +kernel
theorem dX9_isSign_6 : decode cX9_isSign 6 = .ok (.ireturn, 1) := by decide +kernel
theorem dX9_isContextSign_0 : decode cX9_isContextSign 0 = .ok (.iload_n 1, 1) := by decide +kernel
theorem dX9_isContextSign_1 : decode cX9_isContextSign 1 = .ok (.ifCond .eq 10, 3) := by decide +kernel
theorem dX9_isContextSign_4 : decode cX9_isContextSign 4 = .ok (.iload_n 0, 1) := by decide +kernel
theorem dX9_isContextSign_5 : decode cX9_isContextSign 5 = .ok (.invokestatic 94, 3) := by decide +kernel
theorem dX9_isContextSign_8 : decode cX9_isContextSign 8 = .ok (.goto 12, 3) := by decide +kernel
theorem dX9_isContextSign_11 : decode cX9_isContextSign 11 = .ok (.iload_n 0, 1) := by decide +kernel
theorem dX9_isContextSign_12 : decode cX9_isContextSign 12 = .ok (.ifCond .ne 7, 3) := by decide +kernel
theorem dX9_isContextSign_15 : decode cX9_isContextSign 15 = .ok (.iconst 1, 1) := by decide +kernel
theorem dX9_isContextSign_16 : decode cX9_isContextSign 16 = .ok (.goto 4, 3) := by decide +kernel
theorem dX9_isContextSign_19 : decode cX9_isContextSign 19 = .ok (.iconst 0, 1) := by decide +kernel
theorem dX9_isContextSign_20 : decode cX9_isContextSign 20 = .ok (.ireturn, 1) := by decide +kernel
theorem dX9_longerContext_0 : decode cX9_longerContext 0 = .ok (.iconst 4, 1) := by decide +kernel
theorem dX9_longerContext_1 : decode cX9_longerContext 1 = .ok (.iload_n 0, 1) := by decide +kernel
theorem dX9_longerContext_2 : decode cX9_longerContext 2 = .ok (.imul, 1) := by decide +kernel
theorem dX9_longerContext_3 : decode cX9_longerContext 3 = .ok (.iconst 1, 1) := by decide +kernel
theorem dX9_longerContext_4 : decode cX9_longerContext 4 = .ok (.iadd, 1) := by decide +kernel
theorem dX9_longerContext_5 : decode cX9_longerContext 5 = .ok (.iload_n 1, 1) := by decide +kernel
theorem dX9_longerContext_6 : decode cX9_longerContext 6 = .ok (.iadd, 1) := by decide +kernel
theorem dX9_longerContext_7 : decode cX9_longerContext 7 = .ok (.ireturn, 1) := by decide +kernel
theorem dX9_firstLetterOutside_0 : decode cX9_firstLetterOutside 0 = .ok (.iconst 0, 1) := by decide +kernel
theorem dX9_firstLetterOutside_1 : decode cX9_firstLetterOutside 1 = .ok (.istore_n 3, 1) := by decide +kernel
theorem dX9_firstLetterOutside_2 : decode cX9_firstLetterOutside 2 = .ok (.iload_n 3, 1) := by decide +kernel
theorem dX9_firstLetterOutside_3 : decode cX9_firstLetterOutside 3 = .ok (.aload_n 0, 1) := by decide +kernel
theorem dX9_firstLetterOutside_4 : decode cX9_firstLetterOutside 4 = .ok (.getfield 14, 3) := by decide +kernel
theorem dX9_firstLetterOutside_7 : decode cX9_firstLetterOutside 7 = .ok (.getfield 66, 3) := by decide +kernel
theorem dX9_firstLetterOutside_10 : decode cX9_firstLetterOutside 10 = .ok (.if_icmp .ge 31, 3) := by decide +kernel
theorem dX9_firstLetterOutside_13 : decode cX9_firstLetterOutside 13 = .ok (.aload_n 0, 1) := by decide +kernel
theorem dX9_firstLetterOutside_14 : decode cX9_firstLetterOutside 14 = .ok (.getfield 14, 3) := by decide +kernel
theorem dX9_firstLetterOutside_17 : decode cX9_firstLetterOutside 17 = .ok (.iload_n 3, 1) := by decide +kernel
theorem dX9_firstLetterOutside_18 : decode cX9_firstLetterOutside 18 = .ok (.invokevirtual 106, 3) := by decide +kernel
theorem dX9_firstLetterOutside_21 : decode cX9_firstLetterOutside 21 = .ok (.iload_n 1, 1) := by decide +kernel
theorem dX9_firstLetterOutside_22 : decode cX9_firstLetterOutside 22 = .ok (.iload_n 1, 1) := by decide +kernel
theorem dX9_firstLetterOutside_23 : decode cX9_firstLetterOutside 23 = .ok (.iload_n 2, 1) := by decide +kernel
theorem dX9_firstLetterOutside_24 : decode cX9_firstLetterOutside 24 = .ok (.iadd, 1) := by decide +kernel
theorem dX9_firstLetterOutside_25 : decode cX9_firstLetterOutside 25 = .ok (.iconst 1, 1) := by decide +kernel
theorem dX9_firstLetterOutside_26 : decode cX9_firstLetterOutside 26 = .ok (.isub, 1) := by decide +kernel
theorem dX9_firstLetterOutside_27 : decode cX9_firstLetterOutside 27 = .ok (.invokestatic 73, 3) := by decide +kernel
theorem dX9_firstLetterOutside_30 : decode cX9_firstLetterOutside 30 = .ok (.ifCond .ne 5, 3) := by decide +kernel
theorem dX9_firstLetterOutside_33 : decode cX9_firstLetterOutside 33 = .ok (.iload_n 3, 1) := by decide +kernel
theorem dX9_firstLetterOutside_34 : decode cX9_firstLetterOutside 34 = .ok (.ireturn, 1) := by decide +kernel
theorem dX9_firstLetterOutside_35 : decode cX9_firstLetterOutside 35 = .ok (.iinc 3 1, 3) := by decide +kernel
theorem dX9_firstLetterOutside_38 : decode cX9_firstLetterOutside 38 = .ok (.goto (-36), 3) := by decide +kernel
theorem dX9_firstLetterOutside_41 : decode cX9_firstLetterOutside 41 = .ok (.iconst (-1), 1) := by decide +kernel
theorem dX9_firstLetterOutside_42 : decode cX9_firstLetterOutside 42 = .ok (.ireturn, 1) := by decide +kernel
theorem dJ6_bitCount_0f7a4_0 : decode cJ6_bitCount_0f7a4 0 = .ok (.iload_n 0, 1) := by decide +kernel
theorem dJ6_bitCount_0f7a4_1 : decode cJ6_bitCount_0f7a4 1 = .ok (.iload_n 0, 1) := by decide +kernel
theorem dJ6_bitCount_0f7a4_2 : decode cJ6_bitCount_0f7a4 2 = .ok (.iconst 1, 1) := by decide +kernel
theorem dJ6_bitCount_0f7a4_3 : decode cJ6_bitCount_0f7a4 3 = .ok (.iushr, 1) := by decide +kernel
theorem dJ6_bitCount_0f7a4_4 : decode cJ6_bitCount_0f7a4 4 = .ok (.ldc_w 265, 3) := by decide +kernel
theorem dJ6_bitCount_0f7a4_7 : decode cJ6_bitCount_0f7a4 7 = .ok (.iand, 1) := by decide +kernel
theorem dJ6_bitCount_0f7a4_8 : decode cJ6_bitCount_0f7a4 8 = .ok (.isub, 1) := by decide +kernel
theorem dJ6_bitCount_0f7a4_9 : decode cJ6_bitCount_0f7a4 9 = .ok (.istore_n 0, 1) := by decide +kernel
theorem dJ6_bitCount_0f7a4_10 : decode cJ6_bitCount_0f7a4 10 = .ok (.iload_n 0, 1) := by decide +kernel
theorem dJ6_bitCount_0f7a4_11 : decode cJ6_bitCount_0f7a4 11 = .ok (.ldc_w 266, 3) := by decide +kernel
theorem dJ6_bitCount_0f7a4_14 : decode cJ6_bitCount_0f7a4 14 = .ok (.iand, 1) := by decide +kernel
theorem dJ6_bitCount_0f7a4_15 : decode cJ6_bitCount_0f7a4 15 = .ok (.iload_n 0, 1) := by decide +kernel
theorem dJ6_bitCount_0f7a4_16 : decode cJ6_bitCount_0f7a4 16 = .ok (.iconst 2, 1) := by decide +kernel
theorem dJ6_bitCount_0f7a4_17 : decode cJ6_bitCount_0f7a4 17 = .ok (.iushr, 1) := by decide +kernel
theorem dJ6_bitCount_0f7a4_18 : decode cJ6_bitCount_0f7a4 18 = .ok (.ldc_w 266, 3) := by decide +kernel
theorem dJ6_bitCount_0f7a4_21 : decode cJ6_bitCount_0f7a4 21 = .ok (.iand, 1) := by decide +kernel
theorem dJ6_bitCount_0f7a4_22 : decode cJ6_bitCount_0f7a4 22 = .ok (.iadd, 1) := by decide +kernel
theorem dJ6_bitCount_0f7a4_23 : decode cJ6_bitCount_0f7a4 23 = .ok (.istore_n 0, 1) := by decide +kernel
theorem dJ6_bitCount_0f7a4_24 : decode cJ6_bitCount_0f7a4 24 = .ok (.iload_n 0, 1) := by decide +kernel
theorem dJ6_bitCount_0f7a4_25 : decode cJ6_bitCount_0f7a4 25 = .ok (.iload_n 0, 1) := by decide +kernel
theorem dJ6_bitCount_0f7a4_26 : decode cJ6_bitCount_0f7a4 26 = .ok (.iconst 4, 1) := by decide +kernel
theorem dJ6_bitCount_0f7a4_27 : decode cJ6_bitCount_0f7a4 27 = .ok (.iushr, 1) := by decide +kernel
theorem dJ6_bitCount_0f7a4_28 : decode cJ6_bitCount_0f7a4 28 = .ok (.iadd, 1) := by decide +kernel
theorem dJ6_bitCount_0f7a4_29 : decode cJ6_bitCount_0f7a4 29 = .ok (.ldc_w 267, 3) := by decide +kernel
theorem dJ6_bitCount_0f7a4_32 : decode cJ6_bitCount_0f7a4 32 = .ok (.iand, 1) := by decide +kernel
theorem dJ6_bitCount_0f7a4_33 : decode cJ6_bitCount_0f7a4 33 = .ok (.istore_n 0, 1) := by decide +kernel
theorem dJ6_bitCount_0f7a4_34 : decode cJ6_bitCount_0f7a4 34 = .ok (.iload_n 0, 1) := by decide +kernel
theorem dJ6_bitCount_0f7a4_35 : decode cJ6_bitCount_0f7a4 35 = .ok (.iload_n 0, 1) := by decide +kernel
theorem dJ6_bitCount_0f7a4_36 : decode cJ6_bitCount_0f7a4 36 = .ok (.bipush 8, 2) := by decide +kernel
theorem dJ6_bitCount_0f7a4_38 : decode cJ6_bitCount_0f7a4 38 = .ok (.iushr, 1) := by decide +kernel
theorem dJ6_bitCount_0f7a4_39 : decode cJ6_bitCount_0f7a4 39 = .ok (.iadd, 1) := by decide +kernel
theorem dJ6_bitCount_0f7a4_40 : decode cJ6_bitCount_0f7a4 40 = .ok (.istore_n 0, 1) := by decide +kernel
theorem dJ6_bitCount_0f7a4_41 : decode cJ6_bitCount_0f7a4 41 = .ok (.iload_n 0, 1) := by decide +kernel
theorem dJ6_bitCount_0f7a4_42 : decode cJ6_bitCount_0f7a4 42 = .ok (.iload_n 0, 1) := by decide +kernel
theorem dJ6_bitCount_0f7a4_43 : decode cJ6_bitCount_0f7a4 43 = .ok (.bipush 16, 2) := by decide +kernel
theorem dJ6_bitCount_0f7a4_45 : decode cJ6_bitCount_0f7a4 45 = .ok (.iushr, 1) := by decide +kernel
theorem dJ6_bitCount_0f7a4_46 : decode cJ6_bitCount_0f7a4 46 = .ok (.iadd, 1) := by decide +kernel
theorem dJ6_bitCount_0f7a4_47 : decode cJ6_bitCount_0f7a4 47 = .ok (.istore_n 0, 1) := by decide +kernel
theorem dJ6_bitCount_0f7a4_48 : decode cJ6_bitCount_0f7a4 48 = .ok (.iload_n 0, 1) := by decide +kernel
theorem dJ6_bitCount_0f7a4_49 : decode cJ6_bitCount_0f7a4 49 = .ok (.bipush 63, 2) := by decide +kernel
theorem dJ6_bitCount_0f7a4_51 : decode cJ6_bitCount_0f7a4 51 = .ok (.iand, 1) := by decide +kernel
theorem dJ6_bitCount_0f7a4_52 : decode cJ6_bitCount_0f7a4 52 = .ok (.ireturn, 1) := by decide +kernel
theorem dJ9_max_7cf53_0 : decode cJ9_max_7cf53 0 = .ok (.iload_n 0, 1) := by decide +kernel
theorem dJ9_max_7cf53_1 : decode cJ9_max_7cf53 1 = .ok (.iload_n 1, 1) := by decide +kernel
theorem dJ9_max_7cf53_2 : decode cJ9_max_7cf53 2 = .ok (.if_icmp .lt 7, 3) := by decide +kernel
theorem dJ9_max_7cf53_5 : decode cJ9_max_7cf53 5 = .ok (.iload_n 0, 1) := by decide +kernel
theorem dJ9_max_7cf53_6 : decode cJ9_max_7cf53 6 = .ok (.goto 4, 3) := by decide +kernel
theorem dJ9_max_7cf53_9 : decode cJ9_max_7cf53 9 = .ok (.iload_n 1, 1) := by decide +kernel
theorem dJ9_max_7cf53_10 : decode cJ9_max_7cf53 10 = .ok (.ireturn, 1) := by decide +kernel
theorem dJ9_min_7cf53_0 : decode cJ9_min_7cf53 0 = .ok (.iload_n 0, 1) := by decide +kernel
theorem dJ9_min_7cf53_1 : decode cJ9_min_7cf53 1 = .ok (.iload_n 1, 1) := by decide +kernel
theorem dJ9_min_7cf53_2 : decode cJ9_min_7cf53 2 = .ok (.if_icmp .gt 7, 3) := by decide +kernel
theorem dJ9_min_7cf53_5 : decode cJ9_min_7cf53 5 = .ok (.iload_n 0, 1) := by decide +kernel
theorem dJ9_min_7cf53_6 : decode cJ9_min_7cf53 6 = .ok (.goto 4, 3) := by decide +kernel
theorem dJ9_min_7cf53_9 : decode cJ9_min_7cf53 9 = .ok (.iload_n 1, 1) := by decide +kernel
theorem dJ9_min_7cf53_10 : decode cJ9_min_7cf53 10 = .ok (.ireturn, 1) := by decide +kernel
end
section
theorem dX10_init_0 : decode cX10_init 0 = .ok (.aload_n 0, 1) := by decide +kernel
theorem dX10_init_1 : decode cX10_init 1 = .ok (.invokespecial 1, 3) := by decide +kernel
theorem dX10_init_4 : decode cX10_init 4 = .ok (.aload_n 0, 1) := by decide +kernel
theorem dX10_init_5 : decode cX10_init 5 = .ok (.bipush 65, 2) := by decide +kernel
theorem dX10_init_7 : decode cX10_init 7 = .ok (.newarray .int, 2) := by decide +kernel
theorem dX10_init_9 : decode cX10_init 9 = .ok (.putfield 7, 3) := by decide +kernel
theorem dX10_init_12 : decode cX10_init 12 = .ok (.aload_n 0, 1) := by decide +kernel
theorem dX10_init_13 : decode cX10_init 13 = .ok (.sipush 390, 3) := by decide +kernel
theorem dX10_init_16 : decode cX10_init 16 = .ok (.newarray .int, 2) := by decide +kernel
theorem dX10_init_18 : decode cX10_init 18 = .ok (.putfield 13, 3) := by decide +kernel
theorem dX10_init_21 : decode cX10_init 21 = .ok (.aload_n 0, 1) := by decide +kernel
theorem dX10_init_22 : decode cX10_init 22 = .ok (.sipush 130, 3) := by decide +kernel
theorem dX10_init_25 : decode cX10_init 25 = .ok (.newarray .int, 2) := by decide +kernel
theorem dX10_init_27 : decode cX10_init 27 = .ok (.putfield 16, 3) := by decide +kernel
theorem dX10_init_30 : decode cX10_init 30 = .ok (.aload_n 0, 1) := by decide +kernel
theorem dX10_init_31 : decode cX10_init 31 = .ok (.iconst 2, 1) := by decide +kernel
theorem dX10_init_32 : decode cX10_init 32 = .ok (.newarray .boolean, 2) := by decide +kernel
theorem dX10_init_34 : decode cX10_init 34 = .ok (.putfield 19, 3) := by decide +kernel
theorem dX10_init_37 : decode cX10_init 37 = .ok (.aload_n 0, 1) := by decide +kernel
theorem dX10_init_38 : decode cX10_init 38 = .ok (.sipush 200, 3) := by decide +kernel
theorem dX10_init_41 : decode cX10_init 41 = .ok (.newarray .int, 2) := by decide +kernel
theorem dX10_init_43 : decode cX10_init 43 = .ok (.putfield 23, 3) := by decide +kernel
theorem dX10_init_46 : decode cX10_init 46 = .ok (.aload_n 0, 1) := by decide +kernel
theorem dX10_init_47 : decode cX10_init 47 = .ok (.bipush 60, 2) := by decide +kernel
theorem dX10_init_49 : decode cX10_init 49 = .ok (.newarray .int, 2) := by decide +kernel
theorem dX10_init_51 : decode cX10_init 51 = .ok (.putfield 26, 3) := by decide +kernel
theorem dX10_init_54 : decode cX10_init 54 = .ok (.aload_n 0, 1) := by decide +kernel
theorem dX10_init_55 : decode cX10_init 55 = .ok (.sipush 340, 3) := by decide +kernel
theorem dX10_init_58 : decode cX10_init 58 = .ok (.newarray .int, 2) := by decide +kernel
theorem dX10_init_60 : decode cX10_init 60 = .ok (.putfield 29, 3) := by decide +kernel
theorem dX10_init_63 : decode cX10_init 63 = .ok (.aload_n 0, 1) := by decide +kernel
theorem dX10_init_64 : decode cX10_init 64 = .ok (.sipush 2800, 3) := by decide +kernel
theorem dX10_init_67 : decode cX10_init 67 = .ok (.newarray .int, 2) := by decide +kernel
theorem dX10_init_69 : decode cX10_init 69 = .ok (.putfield 32, 3) := by decide +kernel
theorem dX10_init_72 : decode cX10_init 72 = .ok (.aload_n 0, 1) := by decide +kernel
theorem dX10_init_73 : decode cX10_init 73 = .ok (.sipush 2800, 3) := by decide +kernel
theorem dX10_init_76 : decode cX10_init 76 = .ok (.newarray .int, 2) := by decide +kernel
theorem dX10_init_78 : decode cX10_init 78 = .ok (.putfield 35, 3) := by decide +kernel
theorem dX10_init_81 : decode cX10_init 81 = .ok (.aload_n 0, 1) := by decide +kernel
theorem dX10_init_82 : decode cX10_init 82 = .ok (.iconst 2, 1) := by decide +kernel
theorem dX10_init_83 : decode cX10_init 83 = .ok (.bipush 7, 2) := by decide +kernel
theorem dX10_init_85 : decode cX10_init 85 = .ok (.bipush 24, 2) := by decide +kernel
theorem dX10_init_87 : decode cX10_init 87 = .ok (.iconst 4, 1) := by decide +kernel
theorem dX10_init_88 : decode cX10_init 88 = .ok (.invokevirtual 38, 3) := by decide +kernel
theorem dX10_init_91 : decode cX10_init 91 = .ok (.return_, 1) := by decide +kernel
theorem dX10_within_0 : decode cX10_within 0 = .ok (.iload_n 0, 1) := by decide +kernel
theorem dX10_within_1 : decode cX10_within 1 = .ok (.iload_n 1, 1) := by decide +kernel
theorem dX10_within_2 : decode cX10_within 2 = .ok (.if_icmp .lt 12, 3) := by decide +kernel
theorem dX10_within_5 : decode cX10_within 5 = .ok (.iload_n 0, 1) := by decide +kernel
theorem dX10_within_6 : decode cX10_within 6 = .ok (.iload_n 2, 1) := by decide +kernel
theorem dX10_within_7 : decode cX10_within 7 = .ok (.if_icmp .gt 7, 3) := by decide +kernel
theorem dX10_within_10 : decode cX10_within 10 = .ok (.iconst 1, 1) := by decide +kernel
theorem dX10_within_11 : decode cX10_within 11 = .ok (.goto 4, 3) := by decide +kernel
theorem dX10_within_14 : decode cX10_within 14 = .ok (.iconst 0, 1) := by decide +kernel
theorem dX10_within_15 : decode cX10_within 15 = .ok (.ireturn, 1) := by decide +kernel
theorem dX10_has_0 : decode cX10_has 0 = .ok (.iload_n 0, 1) := by decide +kernel
theorem dX10_has_1 : decode cX10_has 1 = .ok (.iload_n 1, 1) := by decide +kernel
theorem dX10_has_2 : decode cX10_has 2 = .ok (.ishr, 1) := by decide +kernel
theorem dX10_has_3 : decode cX10_has 3 = .ok (.iconst 1, 1) := by decide +kernel
theorem dX10_has_4 : decode cX10_has 4 = .ok (.iand, 1) := by decide +kernel
theorem dX10_has_5 : decode cX10_has 5 = .ok (.iconst 1, 1) := by decide +kernel
theorem dX10_has_6 : decode cX10_has 6 = .ok (.if_icmp .ne 7, 3) := by decide +kernel
theorem dX10_has_9 : decode cX10_has 9 = .ok (.iconst 1, 1) := by decide +kernel
theorem dX10_has_10 : decode cX10_has 10 = .ok (.goto 4, 3) := by decide +kernel
theorem dX10_has_13 : decode cX10_has 13 = .ok (.iconst 0, 1) := by decide +kernel
theorem dX10_has_14 : decode cX10_has 14 = .ok (.ireturn, 1) := by decide +kernel
theorem dX10_ones_0 : decode cX10_ones 0 = .ok (.iload_n 0, 1) := by decide +kernel
theorem dX10_ones_1 : decode cX10_ones 1 = .ok (.iconst 1, 1) := by decide +kernel
theorem dX10_ones_2 : decode cX10_ones 2 = .ok (.iand, 1) := by decide +kernel
theorem dX10_ones_3 : decode cX10_ones 3 = .ok (.iload_n 0, 1) := by decide +kernel
theorem dX10_ones_4 : decode cX10_ones 4 = .ok (.iconst 1, 1) := by decide +kernel
theorem dX10_ones_5 : decode cX10_ones 5 = .ok (.ishr, 1) := by decide +kernel
theorem dX10_ones_6 : decode cX10_ones 6 = .ok (.iconst 1, 1) := by decide +kernel
theorem dX10_ones_7 : decode cX10_ones 7 = .ok (.iand, 1) := by decide +kernel
theorem dX10_ones_8 : decode cX10_ones 8 = .ok (.iadd, 1) := by decide +kernel
theorem dX10_ones_9 : decode cX10_ones 9 = .ok (.iload_n 0, 1) := by decide +kernel
theorem dX10_ones_10 : decode cX10_ones 10 = .ok (.iconst 2, 1) := by decide +kernel
theorem dX10_ones_11 : decode cX10_ones 11 = .ok (.ishr, 1) := by decide +kernel
theorem dX10_ones_12 : decode cX10_ones 12 = .ok (.iconst 1, 1) := by decide +kernel
theorem dX10_ones_13 : decode cX10_ones 13 = .ok (.iand, 1) := by decide +kernel
theorem dX10_ones_14 : decode cX10_ones 14 = .ok (.iadd, 1) := by decide +kernel
theorem dX10_ones_15 : decode cX10_ones 15 = .ok (.iload_n 0, 1) := by decide +kernel
theorem dX10_ones_16 : decode cX10_ones 16 = .ok (.iconst 3, 1) := by decide +kernel
theorem dX10_ones_17 : decode cX10_ones 17 = .ok (.ishr, 1) := by decide +kernel
theorem dX10_ones_18 : decode cX10_ones 18 = .ok (.iconst 1, 1) := by decide +kernel
theorem dX10_ones_19 : decode cX10_ones 19 = .ok (.iand, 1) := by decide +kernel
theorem dX10_ones_20 : decode cX10_ones 20 = .ok (.iadd, 1) := by decide +kernel
theorem dX10_ones_21 : decode cX10_ones 21 = .ok (.ireturn, 1) := by decide +kernel
theorem dX10_lesser_0 : decode cX10_lesser 0 = .ok (.iload_n 0, 1) := by decide +kernel
theorem dX10_lesser_1 : decode cX10_lesser 1 = .ok (.iload_n 1, 1) := by decide +kernel
theorem dX10_lesser_2 : decode cX10_lesser 2 = .ok (.if_icmp .ge 7, 3) := by decide +kernel
theorem dX10_lesser_5 : decode cX10_lesser 5 = .ok (.iload_n 0, 1) := by decide +kernel
theorem dX10_lesser_6 : decode cX10_lesser 6 = .ok (.goto 4, 3) := by decide +kernel
theorem dX10_lesser_9 : decode cX10_lesser 9 = .ok (.iload_n 1, 1) := by decide +kernel
theorem dX10_lesser_10 : decode cX10_lesser 10 = .ok (.ireturn, 1) := by decide +kernel
theorem dX10_lays_0 : decode cX10_lays 0 = .ok (.aload_n 0, 1) := by decide +kernel
theorem dX10_lays_1 : decode cX10_lays 1 = .ok (.getfield 7, 3) := by decide +kernel
theorem dX10_lays_4 : decode cX10_lays 4 = .ok (.iconst 0, 1) := by decide +kernel
theorem dX10_lays_5 : decode cX10_lays 5 = .ok (.iload_n 1, 1) := by decide +kernel
theorem dX10_lays_6 : decode cX10_lays 6 = .ok (.iastore, 1) := by decide +kernel
theorem dX10_lays_7 : decode cX10_lays 7 = .ok (.aload_n 0, 1) := by decide +kernel
theorem dX10_lays_8 : decode cX10_lays 8 = .ok (.getfield 7, 3) := by decide +kernel
theorem dX10_lays_11 : decode cX10_lays 11 = .ok (.iconst 1, 1) := by decide +kernel
theorem dX10_lays_12 : decode cX10_lays 12 = .ok (.iload_n 2, 1) := by decide +kernel
theorem dX10_lays_13 : decode cX10_lays 13 = .ok (.iastore, 1) := by decide +kernel
theorem dX10_lays_14 : decode cX10_lays 14 = .ok (.aload_n 0, 1) := by decide +kernel
theorem dX10_lays_15 : decode cX10_lays 15 = .ok (.getfield 7, 3) := by decide +kernel
theorem dX10_lays_18 : decode cX10_lays 18 = .ok (.iconst 2, 1) := by decide +kernel
theorem dX10_lays_19 : decode cX10_lays 19 = .ok (.iload_n 3, 1) := by decide +kernel
theorem dX10_lays_20 : decode cX10_lays 20 = .ok (.iastore, 1) := by decide +kernel
theorem dX10_lays_21 : decode cX10_lays 21 = .ok (.aload_n 0, 1) := by decide +kernel
theorem dX10_lays_22 : decode cX10_lays 22 = .ok (.getfield 7, 3) := by decide +kernel
theorem dX10_lays_25 : decode cX10_lays 25 = .ok (.iconst 3, 1) := by decide +kernel
theorem dX10_lays_26 : decode cX10_lays 26 = .ok (.iload 4, 2) := by decide +kernel
theorem dX10_lays_28 : decode cX10_lays 28 = .ok (.iastore, 1) := by decide +kernel
theorem dX10_lays_29 : decode cX10_lays 29 = .ok (.aload_n 0, 1) := by decide +kernel
theorem dX10_lays_30 : decode cX10_lays 30 = .ok (.getfield 7, 3) := by decide +kernel
theorem dX10_lays_33 : decode cX10_lays 33 = .ok (.iconst 4, 1) := by decide +kernel
theorem dX10_lays_34 : decode cX10_lays 34 = .ok (.iconst 0, 1) := by decide +kernel
theorem dX10_lays_35 : decode cX10_lays 35 = .ok (.iastore, 1) := by decide +kernel
theorem dX10_lays_36 : decode cX10_lays 36 = .ok (.return_, 1) := by decide +kernel
theorem dX10_clears_0 : decode cX10_clears 0 = .ok (.iconst 0, 1) := by decide +kernel
theorem dX10_clears_1 : decode cX10_clears 1 = .ok (.istore_n 1, 1) := by decide +kernel
theorem dX10_clears_2 : decode cX10_clears 2 = .ok (.iload_n 1, 1) := by decide +kernel
theorem dX10_clears_3 : decode cX10_clears 3 = .ok (.sipush 340, 3) := by decide +kernel
theorem dX10_clears_6 : decode cX10_clears 6 = .ok (.if_icmp .ge 16, 3) := by decide +kernel
theorem dX10_clears_9 : decode cX10_clears 9 = .ok (.aload_n 0, 1) := by decide +kernel
theorem dX10_clears_10 : decode cX10_clears 10 = .ok (.getfield 29, 3) := by decide +kernel
theorem dX10_clears_13 : decode cX10_clears 13 = .ok (.iload_n 1, 1) := by decide +kernel
theorem dX10_clears_14 : decode cX10_clears 14 = .ok (.iconst 0, 1) := by decide +kernel
theorem dX10_clears_15 : decode cX10_clears 15 = .ok (.iastore, 1) := by decide +kernel
theorem dX10_clears_16 : decode cX10_clears 16 = .ok (.iinc 1 1, 3) := by decide +kernel
theorem dX10_clears_19 : decode cX10_clears 19 = .ok (.goto (-17), 3) := by decide +kernel
theorem dX10_clears_22 : decode cX10_clears 22 = .ok (.return_, 1) := by decide +kernel
theorem dX10_starts_0 : decode cX10_starts 0 = .ok (.aload_n 0, 1) := by decide +kernel
theorem dX10_starts_1 : decode cX10_starts 1 = .ok (.iload_n 1, 1) := by decide +kernel
theorem dX10_starts_2 : decode cX10_starts 2 = .ok (.putfield 42, 3) := by decide +kernel
theorem dX10_starts_5 : decode cX10_starts 5 = .ok (.aload_n 0, 1) := by decide +kernel
theorem dX10_starts_6 : decode cX10_starts 6 = .ok (.iload_n 2, 1) := by decide +kernel
theorem dX10_starts_7 : decode cX10_starts 7 = .ok (.putfield 46, 3) := by decide +kernel
theorem dX10_starts_10 : decode cX10_starts 10 = .ok (.aload_n 0, 1) := by decide +kernel
theorem dX10_starts_11 : decode cX10_starts 11 = .ok (.iconst 0, 1) := by decide +kernel
theorem dX10_starts_12 : decode cX10_starts 12 = .ok (.putfield 49, 3) := by decide +kernel
theorem dX10_starts_15 : decode cX10_starts 15 = .ok (.aload_n 0, 1) := by decide +kernel
theorem dX10_starts_16 : decode cX10_starts 16 = .ok (.iconst 0, 1) := by decide +kernel
theorem dX10_starts_17 : decode cX10_starts 17 = .ok (.putfield 52, 3) := by decide +kernel
theorem dX10_starts_20 : decode cX10_starts 20 = .ok (.aload_n 0, 1) := by decide +kernel
theorem dX10_starts_21 : decode cX10_starts 21 = .ok (.iconst 0, 1) := by decide +kernel
theorem dX10_starts_22 : decode cX10_starts 22 = .ok (.putfield 55, 3) := by decide +kernel
theorem dX10_starts_25 : decode cX10_starts 25 = .ok (.aload_n 0, 1) := by decide +kernel
theorem dX10_starts_26 : decode cX10_starts 26 = .ok (.ldc 58, 2) := by decide +kernel
theorem dX10_starts_28 : decode cX10_starts 28 = .ok (.putfield 59, 3) := by decide +kernel
theorem dX10_starts_31 : decode cX10_starts 31 = .ok (.aload_n 0, 1) := by decide +kernel
theorem dX10_starts_32 : decode cX10_starts 32 = .ok (.iconst 0, 1) := by decide +kernel
theorem dX10_starts_33 : decode cX10_starts 33 = .ok (.putfield 62, 3) := by decide +kernel
theorem dX10_starts_36 : decode cX10_starts 36 = .ok (.aload_n 0, 1) := by decide +kernel
theorem dX10_starts_37 : decode cX10_starts 37 = .ok (.iconst 0, 1) := by decide +kernel
theorem dX10_starts_38 : decode cX10_starts 38 = .ok (.putfield 65, 3) := by decide +kernel
theorem dX10_starts_41 : decode cX10_starts 41 = .ok (.aload_n 0, 1) := by decide +kernel
theorem dX10_starts_42 : decode cX10_starts 42 = .ok (.iconst 0, 1) := by decide +kernel
theorem dX10_starts_43 : decode cX10_starts 43 = .ok (.putfield 68, 3) := by decide +kernel
theorem dX10_starts_46 : decode cX10_starts 46 = .ok (.aload_n 0, 1) := by decide +kernel
theorem dX10_starts_47 : decode cX10_starts 47 = .ok (.iconst 0, 1) := by decide +kernel
theorem dX10_starts_48 : decode cX10_starts 48 = .ok (.putfield 71, 3) := by decide +kernel
theorem dX10_starts_51 : decode cX10_starts 51 = .ok (.aload_n 0, 1) := by decide +kernel
theorem dX10_starts_52 : decode cX10_starts 52 = .ok (.invokevirtual 74, 3) := by decide +kernel
theorem dX10_starts_55 : decode cX10_starts 55 = .ok (.iconst 0, 1) := by decide +kernel
theorem dX10_starts_56 : decode cX10_starts 56 = .ok (.istore_n 3, 1) := by decide +kernel
theorem dX10_starts_57 : decode cX10_starts 57 = .ok (.iload_n 3, 1) := by decide +kernel
theorem dX10_starts_58 : decode cX10_starts 58 = .ok (.bipush 16, 2) := by decide +kernel
theorem dX10_starts_60 : decode cX10_starts 60 = .ok (.if_icmp .ge 29, 3) := by decide +kernel
theorem dX10_starts_63 : decode cX10_starts 63 = .ok (.iload_n 2, 1) := by decide +kernel
theorem dX10_starts_64 : decode cX10_starts 64 = .ok (.iconst 1, 1) := by decide +kernel
theorem dX10_starts_65 : decode cX10_starts 65 = .ok (.if_icmp .ne 24, 3) := by decide +kernel
theorem dX10_starts_68 : decode cX10_starts 68 = .ok (.aload_n 0, 1) := by decide +kernel
theorem dX10_starts_69 : decode cX10_starts 69 = .ok (.iconst 2, 1) := by decide +kernel
theorem dX10_starts_70 : decode cX10_starts 70 = .ok (.aload_n 0, 1) := by decide +kernel
theorem dX10_starts_71 : decode cX10_starts 71 = .ok (.getfield 71, 3) := by decide +kernel
theorem dX10_starts_74 : decode cX10_starts 74 = .ok (.imul, 1) := by decide +kernel
theorem dX10_starts_75 : decode cX10_starts 75 = .ok (.aload_n 0, 1) := by decide +kernel
theorem dX10_starts_76 : decode cX10_starts 76 = .ok (.invokevirtual 77, 3) := by decide +kernel
theorem dX10_starts_79 : decode cX10_starts 79 = .ok (.iadd, 1) := by decide +kernel
theorem dX10_starts_80 : decode cX10_starts 80 = .ok (.putfield 71, 3) := by decide +kernel
theorem dX10_starts_83 : decode cX10_starts 83 = .ok (.iinc 3 1, 3) := by decide +kernel
theorem dX10_starts_86 : decode cX10_starts 86 = .ok (.goto (-29), 3) := by decide +kernel
theorem dX10_starts_89 : decode cX10_starts 89 = .ok (.return_, 1) := by decide +kernel
theorem dX10_nextBit_0 : decode cX10_nextBit 0 = .ok (.aload_n 0, 1) := by decide +kernel
theorem dX10_nextBit_1 : decode cX10_nextBit 1 = .ok (.getfield 68, 3) := by decide +kernel
theorem dX10_nextBit_4 : decode cX10_nextBit 4 = .ok (.aload_n 0, 1) := by decide +kernel
theorem dX10_nextBit_5 : decode cX10_nextBit 5 = .ok (.getfield 81, 3) := by decide +kernel
theorem dX10_nextBit_8 : decode cX10_nextBit 8 = .ok (.if_icmp .ge 15, 3) := by decide +kernel
theorem dX10_nextBit_11 : decode cX10_nextBit 11 = .ok (.aload_n 0, 1) := by decide +kernel
theorem dX10_nextBit_12 : decode cX10_nextBit 12 = .ok (.getfield 35, 3) := by decide +kernel
theorem dX10_nextBit_15 : decode cX10_nextBit 15 = .ok (.aload_n 0, 1) := by decide +kernel
theorem dX10_nextBit_16 : decode cX10_nextBit 16 = .ok (.getfield 68, 3) := by decide +kernel
theorem dX10_nextBit_19 : decode cX10_nextBit 19 = .ok (.iaload, 1) := by decide +kernel
theorem dX10_nextBit_20 : decode cX10_nextBit 20 = .ok (.goto 4, 3) := by decide +kernel
theorem dX10_nextBit_23 : decode cX10_nextBit 23 = .ok (.iconst 0, 1) := by decide +kernel
theorem dX10_nextBit_24 : decode cX10_nextBit 24 = .ok (.istore_n 1, 1) := by decide +kernel
theorem dX10_nextBit_25 : decode cX10_nextBit 25 = .ok (.aload_n 0, 1) := by decide +kernel
theorem dX10_nextBit_26 : decode cX10_nextBit 26 = .ok (.dup, 1) := by decide +kernel
theorem dX10_nextBit_27 : decode cX10_nextBit 27 = .ok (.getfield 68, 3) := by decide +kernel
theorem dX10_nextBit_30 : decode cX10_nextBit 30 = .ok (.iconst 1, 1) := by decide +kernel
theorem dX10_nextBit_31 : decode cX10_nextBit 31 = .ok (.iadd, 1) := by decide +kernel
theorem dX10_nextBit_32 : decode cX10_nextBit 32 = .ok (.putfield 68, 3) := by decide +kernel
theorem dX10_nextBit_35 : decode cX10_nextBit 35 = .ok (.iload_n 1, 1) := by decide +kernel
theorem dX10_nextBit_36 : decode cX10_nextBit 36 = .ok (.ireturn, 1) := by decide +kernel
theorem dX10_puts_0 : decode cX10_puts 0 = .ok (.aload_n 0, 1) := by decide +kernel
theorem dX10_puts_1 : decode cX10_puts 1 = .ok (.getfield 32, 3) := by decide +kernel
theorem dX10_puts_4 : decode cX10_puts 4 = .ok (.aload_n 0, 1) := by decide +kernel
theorem dX10_puts_5 : decode cX10_puts 5 = .ok (.getfield 65, 3) := by decide +kernel
theorem dX10_puts_8 : decode cX10_puts 8 = .ok (.iload_n 1, 1) := by decide +kernel
theorem dX10_puts_9 : decode cX10_puts 9 = .ok (.iastore, 1) := by decide +kernel
theorem dX10_puts_10 : decode cX10_puts 10 = .ok (.aload_n 0, 1) := by decide +kernel
theorem dX10_puts_11 : decode cX10_puts 11 = .ok (.dup, 1) := by decide +kernel
theorem dX10_puts_12 : decode cX10_puts 12 = .ok (.getfield 65, 3) := by decide +kernel
theorem dX10_puts_15 : decode cX10_puts 15 = .ok (.iconst 1, 1) := by decide +kernel
theorem dX10_puts_16 : decode cX10_puts 16 = .ok (.iadd, 1) := by decide +kernel
theorem dX10_puts_17 : decode cX10_puts 17 = .ok (.putfield 65, 3) := by decide +kernel
theorem dX10_puts_20 : decode cX10_puts 20 = .ok (.aload_n 0, 1) := by decide +kernel
theorem dX10_puts_21 : decode cX10_puts 21 = .ok (.getfield 62, 3) := by decide +kernel
theorem dX10_puts_24 : decode cX10_puts 24 = .ok (.ifCond .le 38, 3) := by decide +kernel
theorem dX10_puts_27 : decode cX10_puts 27 = .ok (.aload_n 0, 1) := by decide +kernel
theorem dX10_puts_28 : decode cX10_puts 28 = .ok (.getfield 32, 3) := by decide +kernel
theorem dX10_puts_31 : decode cX10_puts 31 = .ok (.aload_n 0, 1) := by decide +kernel
theorem dX10_puts_32 : decode cX10_puts 32 = .ok (.getfield 65, 3) := by decide +kernel
theorem dX10_puts_35 : decode cX10_puts 35 = .ok (.iconst 1, 1) := by decide +kernel
theorem dX10_puts_36 : decode cX10_puts 36 = .ok (.iload_n 1, 1) := by decide +kernel
theorem dX10_puts_37 : decode cX10_puts 37 = .ok (.isub, 1) := by decide +kernel
theorem dX10_puts_38 : decode cX10_puts 38 = .ok (.iastore, 1) := by decide +kernel
theorem dX10_puts_39 : decode cX10_puts 39 = .ok (.aload_n 0, 1) := by decide +kernel
theorem dX10_puts_40 : decode cX10_puts 40 = .ok (.dup, 1) := by decide +kernel
theorem dX10_puts_41 : decode cX10_puts 41 = .ok (.getfield 65, 3) := by decide +kernel
theorem dX10_puts_44 : decode cX10_puts 44 = .ok (.iconst 1, 1) := by decide +kernel
theorem dX10_puts_45 : decode cX10_puts 45 = .ok (.iadd, 1) := by decide +kernel
theorem dX10_puts_46 : decode cX10_puts 46 = .ok (.putfield 65, 3) := by decide +kernel
theorem dX10_puts_49 : decode cX10_puts 49 = .ok (.aload_n 0, 1) := by decide +kernel
theorem dX10_puts_50 : decode cX10_puts 50 = .ok (.dup, 1) := by decide +kernel
theorem dX10_puts_51 : decode cX10_puts 51 = .ok (.getfield 62, 3) := by decide +kernel
theorem dX10_puts_54 : decode cX10_puts 54 = .ok (.iconst 1, 1) := by decide +kernel
theorem dX10_puts_55 : decode cX10_puts 55 = .ok (.isub, 1) := by decide +kernel
theorem dX10_puts_56 : decode cX10_puts 56 = .ok (.putfield 62, 3) := by decide +kernel
theorem dX10_puts_59 : decode cX10_puts 59 = .ok (.goto (-39), 3) := by decide +kernel
theorem dX10_puts_62 : decode cX10_puts 62 = .ok (.return_, 1) := by decide +kernel
theorem dX10_widens_0 : decode cX10_widens 0 = .ok (.aload_n 0, 1) := by decide +kernel
theorem dX10_widens_1 : decode cX10_widens 1 = .ok (.getfield 59, 3) := by decide +kernel
theorem dX10_widens_4 : decode cX10_widens 4 = .ok (.ldc 84, 2) := by decide +kernel
theorem dX10_widens_6 : decode cX10_widens 6 = .ok (.if_icmp .ge 7, 3) := by decide +kernel
theorem dX10_widens_9 : decode cX10_widens 9 = .ok (.iconst 0, 1) := by decide +kernel
theorem dX10_widens_10 : decode cX10_widens 10 = .ok (.goto 44, 3) := by decide +kernel
theorem dX10_widens_13 : decode cX10_widens 13 = .ok (.aload_n 0, 1) := by decide +kernel
theorem dX10_widens_14 : decode cX10_widens 14 = .ok (.getfield 55, 3) := by decide +kernel
theorem dX10_widens_17 : decode cX10_widens 17 = .ok (.ldc 84, 2) := by decide +kernel
theorem dX10_widens_19 : decode cX10_widens 19 = .ok (.if_icmp .lt 8, 3) := by decide +kernel
theorem dX10_widens_22 : decode cX10_widens 22 = .ok (.ldc 84, 2) := by decide +kernel
theorem dX10_widens_24 : decode cX10_widens 24 = .ok (.goto 30, 3) := by decide +kernel
theorem dX10_widens_27 : decode cX10_widens 27 = .ok (.aload_n 0, 1) := by decide +kernel
theorem dX10_widens_28 : decode cX10_widens 28 = .ok (.getfield 55, 3) := by decide +kernel
theorem dX10_widens_31 : decode cX10_widens 31 = .ok (.sipush 16384, 3) := by decide +kernel
theorem dX10_widens_34 : decode cX10_widens 34 = .ok (.if_icmp .lt 18, 3) := by decide +kernel
theorem dX10_widens_37 : decode cX10_widens 37 = .ok (.aload_n 0, 1) := by decide +kernel
theorem dX10_widens_38 : decode cX10_widens 38 = .ok (.getfield 59, 3) := by decide +kernel
theorem dX10_widens_41 : decode cX10_widens 41 = .ok (.ldc 85, 2) := by decide +kernel
theorem dX10_widens_43 : decode cX10_widens 43 = .ok (.if_icmp .ge 9, 3) := by decide +kernel
theorem dX10_widens_46 : decode cX10_widens 46 = .ok (.sipush 16384, 3) := by decide +kernel
theorem dX10_widens_49 : decode cX10_widens 49 = .ok (.goto 5, 3) := by decide +kernel
theorem dX10_widens_52 : decode cX10_widens 52 = .ok (.bipush (-9), 2) := by decide +kernel
theorem dX10_widens_54 : decode cX10_widens 54 = .ok (.istore_n 1, 1) := by decide +kernel
theorem dX10_widens_55 : decode cX10_widens 55 = .ok (.iload_n 1, 1) := by decide +kernel
theorem dX10_widens_56 : decode cX10_widens 56 = .ok (.bipush (-9), 2) := by decide +kernel
theorem dX10_widens_58 : decode cX10_widens 58 = .ok (.if_icmp .ne 5, 3) := by decide +kernel
theorem dX10_widens_61 : decode cX10_widens 61 = .ok (.iconst 0, 1) := by decide +kernel
theorem dX10_widens_62 : decode cX10_widens 62 = .ok (.ireturn, 1) := by decide +kernel
theorem dX10_widens_63 : decode cX10_widens 63 = .ok (.iload_n 1, 1) := by decide +kernel
theorem dX10_widens_64 : decode cX10_widens 64 = .ok (.sipush 16384, 3) := by decide +kernel
theorem dX10_widens_67 : decode cX10_widens 67 = .ok (.if_icmp .ne 16, 3) := by decide +kernel
theorem dX10_widens_70 : decode cX10_widens 70 = .ok (.aload_n 0, 1) := by decide +kernel
theorem dX10_widens_71 : decode cX10_widens 71 = .ok (.dup, 1) := by decide +kernel
theorem dX10_widens_72 : decode cX10_widens 72 = .ok (.getfield 62, 3) := by decide +kernel
theorem dX10_widens_75 : decode cX10_widens 75 = .ok (.iconst 1, 1) := by decide +kernel
theorem dX10_widens_76 : decode cX10_widens 76 = .ok (.iadd, 1) := by decide +kernel
theorem dX10_widens_77 : decode cX10_widens 77 = .ok (.putfield 62, 3) := by decide +kernel
theorem dX10_widens_80 : decode cX10_widens 80 = .ok (.goto 23, 3) := by decide +kernel
theorem dX10_widens_83 : decode cX10_widens 83 = .ok (.aload_n 0, 1) := by decide +kernel
theorem dX10_widens_84 : decode cX10_widens 84 = .ok (.getfield 46, 3) := by decide +kernel
theorem dX10_widens_87 : decode cX10_widens 87 = .ok (.ifCond .ne 16, 3) := by decide +kernel
theorem dX10_widens_90 : decode cX10_widens 90 = .ok (.aload_n 0, 1) := by decide +kernel
theorem dX10_widens_91 : decode cX10_widens 91 = .ok (.iload_n 1, 1) := by decide +kernel
theorem dX10_widens_92 : decode cX10_widens 92 = .ok (.ifCond .ne 7, 3) := by decide +kernel
theorem dX10_widens_95 : decode cX10_widens 95 = .ok (.iconst 0, 1) := by decide +kernel
theorem dX10_widens_96 : decode cX10_widens 96 = .ok (.goto 4, 3) := by decide +kernel
theorem dX10_widens_99 : decode cX10_widens 99 = .ok (.iconst 1, 1) := by decide +kernel
theorem dX10_widens_100 : decode cX10_widens 100 = .ok (.invokevirtual 86, 3) := by decide +kernel
theorem dX10_widens_103 : decode cX10_widens 103 = .ok (.aload_n 0, 1) := by decide +kernel
theorem dX10_widens_104 : decode cX10_widens 104 = .ok (.iconst 2, 1) := by decide +kernel
theorem dX10_widens_105 : decode cX10_widens 105 = .ok (.aload_n 0, 1) := by decide +kernel
theorem dX10_widens_106 : decode cX10_widens 106 = .ok (.getfield 55, 3) := by decide +kernel
theorem dX10_widens_109 : decode cX10_widens 109 = .ok (.iload_n 1, 1) := by decide +kernel
theorem dX10_widens_110 : decode cX10_widens 110 = .ok (.isub, 1) := by decide +kernel
theorem dX10_widens_111 : decode cX10_widens 111 = .ok (.imul, 1) := by decide +kernel
theorem dX10_widens_112 : decode cX10_widens 112 = .ok (.putfield 55, 3) := by decide +kernel
theorem dX10_widens_115 : decode cX10_widens 115 = .ok (.aload_n 0, 1) := by decide +kernel
theorem dX10_widens_116 : decode cX10_widens 116 = .ok (.iconst 2, 1) := by decide +kernel
theorem dX10_widens_117 : decode cX10_widens 117 = .ok (.aload_n 0, 1) := by decide +kernel
theorem dX10_widens_118 : decode cX10_widens 118 = .ok (.getfield 59, 3) := by decide +kernel
theorem dX10_widens_121 : decode cX10_widens 121 = .ok (.iload_n 1, 1) := by decide +kernel
theorem dX10_widens_122 : decode cX10_widens 122 = .ok (.isub, 1) := by decide +kernel
theorem dX10_widens_123 : decode cX10_widens 123 = .ok (.imul, 1) := by decide +kernel
theorem dX10_widens_124 : decode cX10_widens 124 = .ok (.iconst 1, 1) := by decide +kernel
theorem dX10_widens_125 : decode cX10_widens 125 = .ok (.iadd, 1) := by decide +kernel
theorem dX10_widens_126 : decode cX10_widens 126 = .ok (.putfield 59, 3) := by decide +kernel
theorem dX10_widens_129 : decode cX10_widens 129 = .ok (.aload_n 0, 1) := by decide +kernel
theorem dX10_widens_130 : decode cX10_widens 130 = .ok (.aload_n 0, 1) := by decide +kernel
theorem dX10_widens_131 : decode cX10_widens 131 = .ok (.getfield 46, 3) := by decide +kernel
theorem dX10_widens_134 : decode cX10_widens 134 = .ok (.iconst 1, 1) := by decide +kernel
theorem dX10_widens_135 : decode cX10_widens 135 = .ok (.if_icmp .ne 19, 3) := by decide +kernel
theorem dX10_widens_138 : decode cX10_widens 138 = .ok (.iconst 2, 1) := by decide +kernel
theorem dX10_widens_139 : decode cX10_widens 139 = .ok (.aload_n 0, 1) := by decide +kernel
theorem dX10_widens_140 : decode cX10_widens 140 = .ok (.getfield 71, 3) := by decide +kernel
theorem dX10_widens_143 : decode cX10_widens 143 = .ok (.iload_n 1, 1) := by decide +kernel
theorem dX10_widens_144 : decode cX10_widens 144 = .ok (.isub, 1) := by decide +kernel
theorem dX10_widens_145 : decode cX10_widens 145 = .ok (.imul, 1) := by decide +kernel
theorem dX10_widens_146 : decode cX10_widens 146 = .ok (.aload_n 0, 1) := by decide +kernel
theorem dX10_widens_147 : decode cX10_widens 147 = .ok (.invokevirtual 77, 3) := by decide +kernel
theorem dX10_widens_150 : decode cX10_widens 150 = .ok (.iadd, 1) := by decide +kernel
theorem dX10_widens_151 : decode cX10_widens 151 = .ok (.goto 4, 3) := by decide +kernel
theorem dX10_widens_154 : decode cX10_widens 154 = .ok (.iconst 0, 1) := by decide +kernel
theorem dX10_widens_155 : decode cX10_widens 155 = .ok (.putfield 71, 3) := by decide +kernel
theorem dX10_widens_158 : decode cX10_widens 158 = .ok (.iconst 1, 1) := by decide +kernel
theorem dX10_widens_159 : decode cX10_widens 159 = .ok (.ireturn, 1) := by decide +kernel
theorem dX10_part_0 : decode cX10_part 0 = .ok (.aload_n 0, 1) := by decide +kernel
theorem dX10_part_1 : decode cX10_part 1 = .ok (.getfield 46, 3) := by decide +kernel
theorem dX10_part_4 : decode cX10_part 4 = .ok (.iconst 2, 1) := by decide +kernel
theorem dX10_part_5 : decode cX10_part 5 = .ok (.if_icmp .ne 26, 3) := by decide +kernel
theorem dX10_part_8 : decode cX10_part 8 = .ok (.aload_n 0, 1) := by decide +kernel
theorem dX10_part_9 : decode cX10_part 9 = .ok (.dup, 1) := by decide +kernel
theorem dX10_part_10 : decode cX10_part 10 = .ok (.getfield 90, 3) := by decide +kernel
theorem dX10_part_13 : decode cX10_part 13 = .ok (.iload_n 2, 1) := by decide +kernel
theorem dX10_part_14 : decode cX10_part 14 = .ok (.i2l, 1) := by decide +kernel
theorem dX10_part_15 : decode cX10_part 15 = .ok (.lmul, 1) := by decide +kernel
theorem dX10_part_16 : decode cX10_part 16 = .ok (.putfield 90, 3) := by decide +kernel
theorem dX10_part_19 : decode cX10_part 19 = .ok (.aload_n 0, 1) := by decide +kernel
theorem dX10_part_20 : decode cX10_part 20 = .ok (.dup, 1) := by decide +kernel
theorem dX10_part_21 : decode cX10_part 21 = .ok (.getfield 94, 3) := by decide +kernel
theorem dX10_part_24 : decode cX10_part 24 = .ok (.iload_n 3, 1) := by decide +kernel
theorem dX10_part_25 : decode cX10_part 25 = .ok (.i2l, 1) := by decide +kernel
theorem dX10_part_26 : decode cX10_part 26 = .ok (.lmul, 1) := by decide +kernel
theorem dX10_part_27 : decode cX10_part 27 = .ok (.putfield 94, 3) := by decide +kernel
theorem dX10_part_30 : decode cX10_part 30 = .ok (.return_, 1) := by decide +kernel
theorem dX10_part_31 : decode cX10_part 31 = .ok (.aload_n 0, 1) := by decide +kernel
theorem dX10_part_32 : decode cX10_part 32 = .ok (.getfield 59, 3) := by decide +kernel
theorem dX10_part_35 : decode cX10_part 35 = .ok (.aload_n 0, 1) := by decide +kernel
theorem dX10_part_36 : decode cX10_part 36 = .ok (.getfield 55, 3) := by decide +kernel
theorem dX10_part_39 : decode cX10_part 39 = .ok (.isub, 1) := by decide +kernel
theorem dX10_part_40 : decode cX10_part 40 = .ok (.iconst 1, 1) := by decide +kernel
theorem dX10_part_41 : decode cX10_part 41 = .ok (.iadd, 1) := by decide +kernel
theorem dX10_part_42 : decode cX10_part 42 = .ok (.istore 4, 2) := by decide +kernel
theorem dX10_part_44 : decode cX10_part 44 = .ok (.aload_n 0, 1) := by decide +kernel
theorem dX10_part_45 : decode cX10_part 45 = .ok (.aload_n 0, 1) := by decide +kernel
theorem dX10_part_46 : decode cX10_part 46 = .ok (.getfield 55, 3) := by decide +kernel
theorem dX10_part_49 : decode cX10_part 49 = .ok (.iload 4, 2) := by decide +kernel
theorem dX10_part_51 : decode cX10_part 51 = .ok (.iload_n 1, 1) := by decide +kernel
theorem dX10_part_52 : decode cX10_part 52 = .ok (.iload_n 2, 1) := by decide +kernel
theorem dX10_part_53 : decode cX10_part 53 = .ok (.iadd, 1) := by decide +kernel
theorem dX10_part_54 : decode cX10_part 54 = .ok (.imul, 1) := by decide +kernel
theorem dX10_part_55 : decode cX10_part 55 = .ok (.iload_n 3, 1) := by decide +kernel
theorem dX10_part_56 : decode cX10_part 56 = .ok (.idiv, 1) := by decide +kernel
theorem dX10_part_57 : decode cX10_part 57 = .ok (.iadd, 1) := by decide +kernel
theorem dX10_part_58 : decode cX10_part 58 = .ok (.iconst 1, 1) := by decide +kernel
theorem dX10_part_59 : decode cX10_part 59 = .ok (.isub, 1) := by decide +kernel
theorem dX10_part_60 : decode cX10_part 60 = .ok (.putfield 59, 3) := by decide +kernel
theorem dX10_part_63 : decode cX10_part 63 = .ok (.aload_n 0, 1) := by decide +kernel
theorem dX10_part_64 : decode cX10_part 64 = .ok (.aload_n 0, 1) := by decide +kernel
theorem dX10_part_65 : decode cX10_part 65 = .ok (.getfield 55, 3) := by decide +kernel
theorem dX10_part_68 : decode cX10_part 68 = .ok (.iload 4, 2) := by decide +kernel
theorem dX10_part_70 : decode cX10_part 70 = .ok (.iload_n 1, 1) := by decide +kernel
theorem dX10_part_71 : decode cX10_part 71 = .ok (.imul, 1) := by decide +kernel
theorem dX10_part_72 : decode cX10_part 72 = .ok (.iload_n 3, 1) := by decide +kernel
theorem dX10_part_73 : decode cX10_part 73 = .ok (.idiv, 1) := by decide +kernel
theorem dX10_part_74 : decode cX10_part 74 = .ok (.iadd, 1) := by decide +kernel
theorem dX10_part_75 : decode cX10_part 75 = .ok (.putfield 55, 3) := by decide +kernel
theorem dX10_part_78 : decode cX10_part 78 = .ok (.iconst 1, 1) := by decide +kernel
theorem dX10_part_79 : decode cX10_part 79 = .ok (.istore 5, 2) := by decide +kernel
theorem dX10_part_81 : decode cX10_part 81 = .ok (.iload 5, 2) := by decide +kernel
theorem dX10_part_83 : decode cX10_part 83 = .ok (.ifCond .eq 12, 3) := by decide +kernel
theorem dX10_part_86 : decode cX10_part 86 = .ok (.aload_n 0, 1) := by decide +kernel
theorem dX10_part_87 : decode cX10_part 87 = .ok (.invokevirtual 97, 3) := by decide +kernel
theorem dX10_part_90 : decode cX10_part 90 = .ok (.istore 5, 2) := by decide +kernel
theorem dX10_part_92 : decode cX10_part 92 = .ok (.goto (-11), 3) := by decide +kernel
theorem dX10_part_95 : decode cX10_part 95 = .ok (.return_, 1) := by decide +kernel
theorem dX10_lies_0 : decode cX10_lies 0 = .ok (.aload_n 0, 1) := by decide +kernel
theorem dX10_lies_1 : decode cX10_lies 1 = .ok (.getfield 71, 3) := by decide +kernel
theorem dX10_lies_4 : decode cX10_lies 4 = .ok (.aload_n 0, 1) := by decide +kernel
theorem dX10_lies_5 : decode cX10_lies 5 = .ok (.getfield 55, 3) := by decide +kernel
theorem dX10_lies_8 : decode cX10_lies 8 = .ok (.isub, 1) := by decide +kernel
theorem dX10_lies_9 : decode cX10_lies 9 = .ok (.iconst 1, 1) := by decide +kernel
theorem dX10_lies_10 : decode cX10_lies 10 = .ok (.iadd, 1) := by decide +kernel
theorem dX10_lies_11 : decode cX10_lies 11 = .ok (.iload_n 1, 1) := by decide +kernel
theorem dX10_lies_12 : decode cX10_lies 12 = .ok (.imul, 1) := by decide +kernel
theorem dX10_lies_13 : decode cX10_lies 13 = .ok (.iconst 1, 1) := by decide +kernel
theorem dX10_lies_14 : decode cX10_lies 14 = .ok (.isub, 1) := by decide +kernel
theorem dX10_lies_15 : decode cX10_lies 15 = .ok (.aload_n 0, 1) := by decide +kernel
theorem dX10_lies_16 : decode cX10_lies 16 = .ok (.getfield 59, 3) := by decide +kernel
theorem dX10_lies_19 : decode cX10_lies 19 = .ok (.aload_n 0, 1) := by decide +kernel
theorem dX10_lies_20 : decode cX10_lies 20 = .ok (.getfield 55, 3) := by decide +kernel
theorem dX10_lies_23 : decode cX10_lies 23 = .ok (.isub, 1) := by decide +kernel
theorem dX10_lies_24 : decode cX10_lies 24 = .ok (.iconst 1, 1) := by decide +kernel
theorem dX10_lies_25 : decode cX10_lies 25 = .ok (.iadd, 1) := by decide +kernel
theorem dX10_lies_26 : decode cX10_lies 26 = .ok (.idiv, 1) := by decide +kernel
theorem dX10_lies_27 : decode cX10_lies 27 = .ok (.ireturn, 1) := by decide +kernel
theorem dX10_context_0 : decode cX10_context 0 = .ok (.iconst 0, 1) := by decide +kernel
theorem dX10_context_1 : decode cX10_context 1 = .ok (.istore_n 3, 1) := by decide +kernel
theorem dX10_context_2 : decode cX10_context 2 = .ok (.iconst 0, 1) := by decide +kernel
theorem dX10_context_3 : decode cX10_context 3 = .ok (.istore 4, 2) := by decide +kernel
theorem dX10_context_5 : decode cX10_context 5 = .ok (.iload_n 2, 1) := by decide +kernel
theorem dX10_context_6 : decode cX10_context 6 = .ok (.iload_n 1, 1) := by decide +kernel
theorem dX10_context_7 : decode cX10_context 7 = .ok (.isub, 1) := by decide +kernel
theorem dX10_context_8 : decode cX10_context 8 = .ok (.istore 5, 2) := by decide +kernel
theorem dX10_context_10 : decode cX10_context 10 = .ok (.iload 5, 2) := by decide +kernel
theorem dX10_context_12 : decode cX10_context 12 = .ok (.iload_n 2, 1) := by decide +kernel
theorem dX10_context_13 : decode cX10_context 13 = .ok (.if_icmp .ge 29, 3) := by decide +kernel
theorem dX10_context_16 : decode cX10_context 16 = .ok (.iconst 4, 1) := by decide +kernel
theorem dX10_context_17 : decode cX10_context 17 = .ok (.iload_n 3, 1) := by decide +kernel
theorem dX10_context_18 : decode cX10_context 18 = .ok (.imul, 1) := by decide +kernel
theorem dX10_context_19 : decode cX10_context 19 = .ok (.aload_n 0, 1) := by decide +kernel
theorem dX10_context_20 : decode cX10_context 20 = .ok (.getfield 26, 3) := by decide +kernel
theorem dX10_context_23 : decode cX10_context 23 = .ok (.iload 5, 2) := by decide +kernel
theorem dX10_context_25 : decode cX10_context 25 = .ok (.iaload, 1) := by decide +kernel
theorem dX10_context_26 : decode cX10_context 26 = .ok (.iadd, 1) := by decide +kernel
theorem dX10_context_27 : decode cX10_context 27 = .ok (.istore_n 3, 1) := by decide +kernel
theorem dX10_context_28 : decode cX10_context 28 = .ok (.iconst 4, 1) := by decide +kernel
theorem dX10_context_29 : decode cX10_context 29 = .ok (.iload 4, 2) := by decide +kernel
theorem dX10_context_31 : decode cX10_context 31 = .ok (.imul, 1) := by decide +kernel
theorem dX10_context_32 : decode cX10_context 32 = .ok (.iconst 1, 1) := by decide +kernel
theorem dX10_context_33 : decode cX10_context 33 = .ok (.iadd, 1) := by decide +kernel
theorem dX10_context_34 : decode cX10_context 34 = .ok (.istore 4, 2) := by decide +kernel
theorem dX10_context_36 : decode cX10_context 36 = .ok (.iinc 5 1, 3) := by decide +kernel
theorem dX10_context_39 : decode cX10_context 39 = .ok (.goto (-29), 3) := by decide +kernel
theorem dX10_context_42 : decode cX10_context 42 = .ok (.iconst 4, 1) := by decide +kernel
theorem dX10_context_43 : decode cX10_context 43 = .ok (.iload 4, 2) := by decide +kernel
theorem dX10_context_45 : decode cX10_context 45 = .ok (.iload_n 3, 1) := by decide +kernel
theorem dX10_context_46 : decode cX10_context 46 = .ok (.iadd, 1) := by decide +kernel
theorem dX10_context_47 : decode cX10_context 47 = .ok (.imul, 1) := by decide +kernel
theorem dX10_context_48 : decode cX10_context 48 = .ok (.ireturn, 1) := by decide +kernel
theorem dX10_openAt_0 : decode cX10_openAt 0 = .ok (.iconst 0, 1) := by decide +kernel
theorem dX10_openAt_1 : decode cX10_openAt 1 = .ok (.istore_n 3, 1) := by decide +kernel
theorem dX10_openAt_2 : decode cX10_openAt 2 = .ok (.iconst 0, 1) := by decide +kernel
theorem dX10_openAt_3 : decode cX10_openAt 3 = .ok (.istore 4, 2) := by decide +kernel
theorem dX10_openAt_5 : decode cX10_openAt 5 = .ok (.iload 4, 2) := by decide +kernel
theorem dX10_openAt_7 : decode cX10_openAt 7 = .ok (.iconst 4, 1) := by decide +kernel
theorem dX10_openAt_8 : decode cX10_openAt 8 = .ok (.if_icmp .ge 41, 3) := by decide +kernel
theorem dX10_openAt_11 : decode cX10_openAt 11 = .ok (.iload_n 3, 1) := by decide +kernel
theorem dX10_openAt_12 : decode cX10_openAt 12 = .ok (.aload_n 0, 1) := by decide +kernel
theorem dX10_openAt_13 : decode cX10_openAt 13 = .ok (.getfield 29, 3) := by decide +kernel
theorem dX10_openAt_16 : decode cX10_openAt 16 = .ok (.iload_n 1, 1) := by decide +kernel
theorem dX10_openAt_17 : decode cX10_openAt 17 = .ok (.iload 4, 2) := by decide +kernel
theorem dX10_openAt_19 : decode cX10_openAt 19 = .ok (.iadd, 1) := by decide +kernel
theorem dX10_openAt_20 : decode cX10_openAt 20 = .ok (.iaload, 1) := by decide +kernel
theorem dX10_openAt_21 : decode cX10_openAt 21 = .ok (.ifCond .le 19, 3) := by decide +kernel
theorem dX10_openAt_24 : decode cX10_openAt 24 = .ok (.iload_n 2, 1) := by decide +kernel
theorem dX10_openAt_25 : decode cX10_openAt 25 = .ok (.iload 4, 2) := by decide +kernel
theorem dX10_openAt_27 : decode cX10_openAt 27 = .ok (.invokestatic 101, 3) := by decide +kernel
theorem dX10_openAt_30 : decode cX10_openAt 30 = .ok (.ifCond .ne 10, 3) := by decide +kernel
theorem dX10_openAt_33 : decode cX10_openAt 33 = .ok (.iconst 1, 1) := by decide +kernel
theorem dX10_openAt_34 : decode cX10_openAt 34 = .ok (.iload 4, 2) := by decide +kernel
theorem dX10_openAt_36 : decode cX10_openAt 36 = .ok (.ishl, 1) := by decide +kernel
theorem dX10_openAt_37 : decode cX10_openAt 37 = .ok (.goto 4, 3) := by decide +kernel
theorem dX10_openAt_40 : decode cX10_openAt 40 = .ok (.iconst 0, 1) := by decide +kernel
theorem dX10_openAt_41 : decode cX10_openAt 41 = .ok (.ior, 1) := by decide +kernel
theorem dX10_openAt_42 : decode cX10_openAt 42 = .ok (.istore_n 3, 1) := by decide +kernel
theorem dX10_openAt_43 : decode cX10_openAt 43 = .ok (.iinc 4 1, 3) := by decide +kernel
theorem dX10_openAt_46 : decode cX10_openAt 46 = .ok (.goto (-41), 3) := by decide +kernel
theorem dX10_openAt_49 : decode cX10_openAt 49 = .ok (.iload_n 3, 1) := by decide +kernel
theorem dX10_openAt_50 : decode cX10_openAt 50 = .ok (.ireturn, 1) := by decide +kernel
theorem dX10_sum_0 : decode cX10_sum 0 = .ok (.iconst 0, 1) := by decide +kernel
theorem dX10_sum_1 : decode cX10_sum 1 = .ok (.istore 4, 2) := by decide +kernel
theorem dX10_sum_3 : decode cX10_sum 3 = .ok (.iconst 0, 1) := by decide +kernel
theorem dX10_sum_4 : decode cX10_sum 4 = .ok (.istore 5, 2) := by decide +kernel
theorem dX10_sum_6 : decode cX10_sum 6 = .ok (.iload 5, 2) := by decide +kernel
theorem dX10_sum_8 : decode cX10_sum 8 = .ok (.iload_n 3, 1) := by decide +kernel
theorem dX10_sum_9 : decode cX10_sum 9 = .ok (.if_icmp .ge 36, 3) := by decide +kernel
theorem dX10_sum_12 : decode cX10_sum 12 = .ok (.iload 4, 2) := by decide +kernel
theorem dX10_sum_14 : decode cX10_sum 14 = .ok (.iload_n 2, 1) := by decide +kernel
theorem dX10_sum_15 : decode cX10_sum 15 = .ok (.iload 5, 2) := by decide +kernel
theorem dX10_sum_17 : decode cX10_sum 17 = .ok (.invokestatic 101, 3) := by decide +kernel
theorem dX10_sum_20 : decode cX10_sum 20 = .ok (.ifCond .eq 15, 3) := by decide +kernel
theorem dX10_sum_23 : decode cX10_sum 23 = .ok (.aload_n 0, 1) := by decide +kernel
theorem dX10_sum_24 : decode cX10_sum 24 = .ok (.getfield 29, 3) := by decide +kernel
theorem dX10_sum_27 : decode cX10_sum 27 = .ok (.iload_n 1, 1) := by decide +kernel
theorem dX10_sum_28 : decode cX10_sum 28 = .ok (.iload 5, 2) := by decide +kernel
theorem dX10_sum_30 : decode cX10_sum 30 = .ok (.iadd, 1) := by decide +kernel
theorem dX10_sum_31 : decode cX10_sum 31 = .ok (.iaload, 1) := by decide +kernel
theorem dX10_sum_32 : decode cX10_sum 32 = .ok (.goto 4, 3) := by decide +kernel
theorem dX10_sum_35 : decode cX10_sum 35 = .ok (.iconst 0, 1) := by decide +kernel
theorem dX10_sum_36 : decode cX10_sum 36 = .ok (.iadd, 1) := by decide +kernel
theorem dX10_sum_37 : decode cX10_sum 37 = .ok (.istore 4, 2) := by decide +kernel
theorem dX10_sum_39 : decode cX10_sum 39 = .ok (.iinc 5 1, 3) := by decide +kernel
theorem dX10_sum_42 : decode cX10_sum 42 = .ok (.goto (-36), 3) := by decide +kernel
theorem dX10_sum_45 : decode cX10_sum 45 = .ok (.iload 4, 2) := by decide +kernel
theorem dX10_sum_47 : decode cX10_sum 47 = .ok (.ireturn, 1) := by decide +kernel
theorem dX10_signAt_0 : decode cX10_signAt 0 = .ok (.iconst 0, 1) := by decide +kernel
theorem dX10_signAt_1 : decode cX10_signAt 1 = .ok (.istore 4, 2) := by decide +kernel
theorem dX10_signAt_3 : decode cX10_signAt 3 = .ok (.iload 4, 2) := by decide +kernel
theorem dX10_signAt_5 : decode cX10_signAt 5 = .ok (.iconst 4, 1) := by decide +kernel
theorem dX10_signAt_6 : decode cX10_signAt 6 = .ok (.if_icmp .ge 35, 3) := by decide +kernel
theorem dX10_signAt_9 : decode cX10_signAt 9 = .ok (.iload_n 2, 1) := by decide +kernel
theorem dX10_signAt_10 : decode cX10_signAt 10 = .ok (.iload 4, 2) := by decide +kernel
theorem dX10_signAt_12 : decode cX10_signAt 12 = .ok (.invokestatic 101, 3) := by decide +kernel
theorem dX10_signAt_15 : decode cX10_signAt 15 = .ok (.ifCond .eq 20, 3) := by decide +kernel
theorem dX10_signAt_18 : decode cX10_signAt 18 = .ok (.iload_n 3, 1) := by decide +kernel
theorem dX10_signAt_19 : decode cX10_signAt 19 = .ok (.aload_n 0, 1) := by decide +kernel
theorem dX10_signAt_20 : decode cX10_signAt 20 = .ok (.iload_n 1, 1) := by decide +kernel
theorem dX10_signAt_21 : decode cX10_signAt 21 = .ok (.iload_n 2, 1) := by decide +kernel
theorem dX10_signAt_22 : decode cX10_signAt 22 = .ok (.iload 4, 2) := by decide +kernel
theorem dX10_signAt_24 : decode cX10_signAt 24 = .ok (.iconst 1, 1) := by decide +kernel
theorem dX10_signAt_25 : decode cX10_signAt 25 = .ok (.iadd, 1) := by decide +kernel
theorem dX10_signAt_26 : decode cX10_signAt 26 = .ok (.invokevirtual 105, 3) := by decide +kernel
theorem dX10_signAt_29 : decode cX10_signAt 29 = .ok (.if_icmp .ge 6, 3) := by decide +kernel
theorem dX10_signAt_32 : decode cX10_signAt 32 = .ok (.iload 4, 2) := by decide +kernel
theorem dX10_signAt_34 : decode cX10_signAt 34 = .ok (.ireturn, 1) := by decide +kernel
theorem dX10_signAt_35 : decode cX10_signAt 35 = .ok (.iinc 4 1, 3) := by decide +kernel
theorem dX10_signAt_38 : decode cX10_signAt 38 = .ok (.goto (-35), 3) := by decide +kernel
theorem dX10_signAt_41 : decode cX10_signAt 41 = .ok (.bipush (-9), 2) := by decide +kernel
theorem dX10_signAt_43 : decode cX10_signAt 43 = .ok (.ireturn, 1) := by decide +kernel
theorem dX10_plain_0 : decode cX10_plain 0 = .ok (.iconst 4, 1) := by decide +kernel
theorem dX10_plain_1 : decode cX10_plain 1 = .ok (.iload_n 2, 1) := by decide +kernel
theorem dX10_plain_2 : decode cX10_plain 2 = .ok (.invokestatic 109, 3) := by decide +kernel
theorem dX10_plain_5 : decode cX10_plain 5 = .ok (.isub, 1) := by decide +kernel
theorem dX10_plain_6 : decode cX10_plain 6 = .ok (.istore_n 3, 1) := by decide +kernel
theorem dX10_plain_7 : decode cX10_plain 7 = .ok (.aload_n 0, 1) := by decide +kernel
theorem dX10_plain_8 : decode cX10_plain 8 = .ok (.getfield 46, 3) := by decide +kernel
theorem dX10_plain_11 : decode cX10_plain 11 = .ok (.iconst 1, 1) := by decide +kernel
theorem dX10_plain_12 : decode cX10_plain 12 = .ok (.if_icmp .ne 11, 3) := by decide +kernel
theorem dX10_plain_15 : decode cX10_plain 15 = .ok (.aload_n 0, 1) := by decide +kernel
theorem dX10_plain_16 : decode cX10_plain 16 = .ok (.iload_n 3, 1) := by decide +kernel
theorem dX10_plain_17 : decode cX10_plain 17 = .ok (.invokevirtual 113, 3) := by decide +kernel
theorem dX10_plain_20 : decode cX10_plain 20 = .ok (.goto 4, 3) := by decide +kernel
theorem dX10_plain_23 : decode cX10_plain 23 = .ok (.iconst 0, 1) := by decide +kernel
theorem dX10_plain_24 : decode cX10_plain 24 = .ok (.istore 4, 2) := by decide +kernel
theorem dX10_plain_26 : decode cX10_plain 26 = .ok (.iload_n 1, 1) := by decide +kernel
theorem dX10_plain_27 : decode cX10_plain 27 = .ok (.istore 5, 2) := by decide +kernel
theorem dX10_plain_29 : decode cX10_plain 29 = .ok (.iconst 3, 1) := by decide +kernel
theorem dX10_plain_30 : decode cX10_plain 30 = .ok (.istore 6, 2) := by decide +kernel
theorem dX10_plain_32 : decode cX10_plain 32 = .ok (.iload 6, 2) := by decide +kernel
theorem dX10_plain_34 : decode cX10_plain 34 = .ok (.ifCond .lt 54, 3) := by decide +kernel
theorem dX10_plain_37 : decode cX10_plain 37 = .ok (.aload_n 0, 1) := by decide +kernel
theorem dX10_plain_38 : decode cX10_plain 38 = .ok (.getfield 46, 3) := by decide +kernel
theorem dX10_plain_41 : decode cX10_plain 41 = .ok (.iconst 1, 1) := by decide +kernel
theorem dX10_plain_42 : decode cX10_plain 42 = .ok (.if_icmp .ne 46, 3) := by decide +kernel
theorem dX10_plain_45 : decode cX10_plain 45 = .ok (.iload_n 2, 1) := by decide +kernel
theorem dX10_plain_46 : decode cX10_plain 46 = .ok (.iload 6, 2) := by decide +kernel
theorem dX10_plain_48 : decode cX10_plain 48 = .ok (.invokestatic 101, 3) := by decide +kernel
theorem dX10_plain_51 : decode cX10_plain 51 = .ok (.ifCond .ne 27, 3) := by decide +kernel
theorem dX10_plain_54 : decode cX10_plain 54 = .ok (.iload 6, 2) := by decide +kernel
theorem dX10_plain_56 : decode cX10_plain 56 = .ok (.iload_n 2, 1) := by decide +kernel
theorem dX10_plain_57 : decode cX10_plain 57 = .ok (.iconst 1, 1) := by decide +kernel
theorem dX10_plain_58 : decode cX10_plain 58 = .ok (.iload 6, 2) := by decide +kernel
theorem dX10_plain_60 : decode cX10_plain 60 = .ok (.ishl, 1) := by decide +kernel
theorem dX10_plain_61 : decode cX10_plain 61 = .ok (.iconst 1, 1) := by decide +kernel
theorem dX10_plain_62 : decode cX10_plain 62 = .ok (.isub, 1) := by decide +kernel
theorem dX10_plain_63 : decode cX10_plain 63 = .ok (.iand, 1) := by decide +kernel
theorem dX10_plain_64 : decode cX10_plain 64 = .ok (.invokestatic 109, 3) := by decide +kernel
theorem dX10_plain_67 : decode cX10_plain 67 = .ok (.isub, 1) := by decide +kernel
theorem dX10_plain_68 : decode cX10_plain 68 = .ok (.iload 4, 2) := by decide +kernel
theorem dX10_plain_70 : decode cX10_plain 70 = .ok (.if_icmp .ne 8, 3) := by decide +kernel
theorem dX10_plain_73 : decode cX10_plain 73 = .ok (.iload 6, 2) := by decide +kernel
theorem dX10_plain_75 : decode cX10_plain 75 = .ok (.goto 5, 3) := by decide +kernel
theorem dX10_plain_78 : decode cX10_plain 78 = .ok (.iload 5, 2) := by decide +kernel
theorem dX10_plain_80 : decode cX10_plain 80 = .ok (.istore 5, 2) := by decide +kernel
theorem dX10_plain_82 : decode cX10_plain 82 = .ok (.iinc 6 (-1), 3) := by decide +kernel
theorem dX10_plain_85 : decode cX10_plain 85 = .ok (.goto (-53), 3) := by decide +kernel
theorem dX10_plain_88 : decode cX10_plain 88 = .ok (.aload_n 0, 1) := by decide +kernel
theorem dX10_plain_89 : decode cX10_plain 89 = .ok (.iload 5, 2) := by decide +kernel
theorem dX10_plain_91 : decode cX10_plain 91 = .ok (.iload_n 2, 1) := by decide +kernel
theorem dX10_plain_92 : decode cX10_plain 92 = .ok (.iconst 1, 1) := by decide +kernel
theorem dX10_plain_93 : decode cX10_plain 93 = .ok (.iload 5, 2) := by decide +kernel
theorem dX10_plain_95 : decode cX10_plain 95 = .ok (.ishl, 1) := by decide +kernel
theorem dX10_plain_96 : decode cX10_plain 96 = .ok (.iconst 1, 1) := by decide +kernel
theorem dX10_plain_97 : decode cX10_plain 97 = .ok (.isub, 1) := by decide +kernel
theorem dX10_plain_98 : decode cX10_plain 98 = .ok (.iand, 1) := by decide +kernel
theorem dX10_plain_99 : decode cX10_plain 99 = .ok (.invokestatic 109, 3) := by decide +kernel
theorem dX10_plain_102 : decode cX10_plain 102 = .ok (.isub, 1) := by decide +kernel
theorem dX10_plain_103 : decode cX10_plain 103 = .ok (.iconst 1, 1) := by decide +kernel
theorem dX10_plain_104 : decode cX10_plain 104 = .ok (.iload_n 3, 1) := by decide +kernel
theorem dX10_plain_105 : decode cX10_plain 105 = .ok (.invokevirtual 116, 3) := by decide +kernel
theorem dX10_plain_108 : decode cX10_plain 108 = .ok (.aload_n 0, 1) := by decide +kernel
theorem dX10_plain_109 : decode cX10_plain 109 = .ok (.iconst (-1), 1) := by decide +kernel
theorem dX10_plain_110 : decode cX10_plain 110 = .ok (.putfield 120, 3) := by decide +kernel
theorem dX10_plain_113 : decode cX10_plain 113 = .ok (.iload 5, 2) := by decide +kernel
theorem dX10_plain_115 : decode cX10_plain 115 = .ok (.ireturn, 1) := by decide +kernel
theorem dX10_goes_0 : decode cX10_goes 0 = .ok (.iconst 0, 1) := by decide +kernel
theorem dX10_goes_1 : decode cX10_goes 1 = .ok (.istore_n 2, 1) := by decide +kernel
theorem dX10_goes_2 : decode cX10_goes 2 = .ok (.aload_n 0, 1) := by decide +kernel
theorem dX10_goes_3 : decode cX10_goes 3 = .ok (.iconst 0, 1) := by decide +kernel
theorem dX10_goes_4 : decode cX10_goes 4 = .ok (.putfield 123, 3) := by decide +kernel
theorem dX10_goes_7 : decode cX10_goes 7 = .ok (.aload_n 0, 1) := by decide +kernel
theorem dX10_goes_8 : decode cX10_goes 8 = .ok (.getfield 42, 3) := by decide +kernel
theorem dX10_goes_11 : decode cX10_goes 11 = .ok (.aload_n 0, 1) := by decide +kernel
theorem dX10_goes_12 : decode cX10_goes 12 = .ok (.getfield 49, 3) := by decide +kernel
theorem dX10_goes_15 : decode cX10_goes 15 = .ok (.invokestatic 126, 3) := by decide +kernel
theorem dX10_goes_18 : decode cX10_goes 18 = .ok (.istore_n 3, 1) := by decide +kernel
theorem dX10_goes_19 : decode cX10_goes 19 = .ok (.iload_n 3, 1) := by decide +kernel
theorem dX10_goes_20 : decode cX10_goes 20 = .ok (.ifCond .lt 179, 3) := by decide +kernel
theorem dX10_goes_23 : decode cX10_goes 23 = .ok (.aload_n 0, 1) := by decide +kernel
theorem dX10_goes_24 : decode cX10_goes 24 = .ok (.iload_n 3, 1) := by decide +kernel
theorem dX10_goes_25 : decode cX10_goes 25 = .ok (.aload_n 0, 1) := by decide +kernel
theorem dX10_goes_26 : decode cX10_goes 26 = .ok (.getfield 49, 3) := by decide +kernel
theorem dX10_goes_29 : decode cX10_goes 29 = .ok (.invokevirtual 130, 3) := by decide +kernel
theorem dX10_goes_32 : decode cX10_goes 32 = .ok (.istore 4, 2) := by decide +kernel
theorem dX10_goes_34 : decode cX10_goes 34 = .ok (.aload_n 0, 1) := by decide +kernel
theorem dX10_goes_35 : decode cX10_goes 35 = .ok (.iload 4, 2) := by decide +kernel
theorem dX10_goes_37 : decode cX10_goes 37 = .ok (.iload_n 2, 1) := by decide +kernel
theorem dX10_goes_38 : decode cX10_goes 38 = .ok (.invokevirtual 133, 3) := by decide +kernel
theorem dX10_goes_41 : decode cX10_goes 41 = .ok (.istore 5, 2) := by decide +kernel
theorem dX10_goes_43 : decode cX10_goes 43 = .ok (.iload 5, 2) := by decide +kernel
theorem dX10_goes_45 : decode cX10_goes 45 = .ok (.ifCond .eq 148, 3) := by decide +kernel
theorem dX10_goes_48 : decode cX10_goes 48 = .ok (.iload 5, 2) := by decide +kernel
theorem dX10_goes_50 : decode cX10_goes 50 = .ok (.iload_n 2, 1) := by decide +kernel
theorem dX10_goes_51 : decode cX10_goes 51 = .ok (.ior, 1) := by decide +kernel
theorem dX10_goes_52 : decode cX10_goes 52 = .ok (.bipush 15, 2) := by decide +kernel
theorem dX10_goes_54 : decode cX10_goes 54 = .ok (.if_icmp .ne 7, 3) := by decide +kernel
theorem dX10_goes_57 : decode cX10_goes 57 = .ok (.iconst 0, 1) := by decide +kernel
theorem dX10_goes_58 : decode cX10_goes 58 = .ok (.goto 8, 3) := by decide +kernel
theorem dX10_goes_61 : decode cX10_goes 61 = .ok (.iload 5, 2) := by decide +kernel
theorem dX10_goes_63 : decode cX10_goes 63 = .ok (.invokestatic 109, 3) := by decide +kernel
theorem dX10_goes_66 : decode cX10_goes 66 = .ok (.istore 6, 2) := by decide +kernel
theorem dX10_goes_68 : decode cX10_goes 68 = .ok (.aload_n 0, 1) := by decide +kernel
theorem dX10_goes_69 : decode cX10_goes 69 = .ok (.iload 4, 2) := by decide +kernel
theorem dX10_goes_71 : decode cX10_goes 71 = .ok (.iload 5, 2) := by decide +kernel
theorem dX10_goes_73 : decode cX10_goes 73 = .ok (.iconst 4, 1) := by decide +kernel
theorem dX10_goes_74 : decode cX10_goes 74 = .ok (.invokevirtual 105, 3) := by decide +kernel
theorem dX10_goes_77 : decode cX10_goes 77 = .ok (.iload 6, 2) := by decide +kernel
theorem dX10_goes_79 : decode cX10_goes 79 = .ok (.iadd, 1) := by decide +kernel
theorem dX10_goes_80 : decode cX10_goes 80 = .ok (.istore 7, 2) := by decide +kernel
theorem dX10_goes_82 : decode cX10_goes 82 = .ok (.aload_n 0, 1) := by decide +kernel
theorem dX10_goes_83 : decode cX10_goes 83 = .ok (.getfield 46, 3) := by decide +kernel
theorem dX10_goes_86 : decode cX10_goes 86 = .ok (.iconst 1, 1) := by decide +kernel
theorem dX10_goes_87 : decode cX10_goes 87 = .ok (.if_icmp .ne 20, 3) := by decide +kernel
theorem dX10_goes_90 : decode cX10_goes 90 = .ok (.aload_n 0, 1) := by decide +kernel
theorem dX10_goes_91 : decode cX10_goes 91 = .ok (.iload 4, 2) := by decide +kernel
theorem dX10_goes_93 : decode cX10_goes 93 = .ok (.iload 5, 2) := by decide +kernel
theorem dX10_goes_95 : decode cX10_goes 95 = .ok (.aload_n 0, 1) := by decide +kernel
theorem dX10_goes_96 : decode cX10_goes 96 = .ok (.iload 7, 2) := by decide +kernel
theorem dX10_goes_98 : decode cX10_goes 98 = .ok (.invokevirtual 113, 3) := by decide +kernel
theorem dX10_goes_101 : decode cX10_goes 101 = .ok (.invokevirtual 136, 3) := by decide +kernel
theorem dX10_goes_104 : decode cX10_goes 104 = .ok (.goto 18, 3) := by decide +kernel
theorem dX10_goes_107 : decode cX10_goes 107 = .ok (.iload 5, 2) := by decide +kernel
theorem dX10_goes_109 : decode cX10_goes 109 = .ok (.iload_n 1, 1) := by decide +kernel
theorem dX10_goes_110 : decode cX10_goes 110 = .ok (.invokestatic 101, 3) := by decide +kernel
theorem dX10_goes_113 : decode cX10_goes 113 = .ok (.ifCond .eq 7, 3) := by decide +kernel
theorem dX10_goes_116 : decode cX10_goes 116 = .ok (.iload_n 1, 1) := by decide +kernel
theorem dX10_goes_117 : decode cX10_goes 117 = .ok (.goto 5, 3) := by decide +kernel
theorem dX10_goes_120 : decode cX10_goes 120 = .ok (.bipush (-9), 2) := by decide +kernel
theorem dX10_goes_122 : decode cX10_goes 122 = .ok (.istore 8, 2) := by decide +kernel
theorem dX10_goes_124 : decode cX10_goes 124 = .ok (.iload 8, 2) := by decide +kernel
theorem dX10_goes_126 : decode cX10_goes 126 = .ok (.bipush (-9), 2) := by decide +kernel
theorem dX10_goes_128 : decode cX10_goes 128 = .ok (.if_icmp .eq 37, 3) := by decide +kernel
theorem dX10_goes_131 : decode cX10_goes 131 = .ok (.aload_n 0, 1) := by decide +kernel
theorem dX10_goes_132 : decode cX10_goes 132 = .ok (.aload_n 0, 1) := by decide +kernel
theorem dX10_goes_133 : decode cX10_goes 133 = .ok (.iload 4, 2) := by decide +kernel
theorem dX10_goes_135 : decode cX10_goes 135 = .ok (.iload 5, 2) := by decide +kernel
theorem dX10_goes_137 : decode cX10_goes 137 = .ok (.iload 8, 2) := by decide +kernel
theorem dX10_goes_139 : decode cX10_goes 139 = .ok (.invokevirtual 105, 3) := by decide +kernel
theorem dX10_goes_142 : decode cX10_goes 142 = .ok (.aload_n 0, 1) := by decide +kernel
theorem dX10_goes_143 : decode cX10_goes 143 = .ok (.getfield 29, 3) := by decide +kernel
theorem dX10_goes_146 : decode cX10_goes 146 = .ok (.iload 4, 2) := by decide +kernel
theorem dX10_goes_148 : decode cX10_goes 148 = .ok (.iload 8, 2) := by decide +kernel
theorem dX10_goes_150 : decode cX10_goes 150 = .ok (.iadd, 1) := by decide +kernel
theorem dX10_goes_151 : decode cX10_goes 151 = .ok (.iaload, 1) := by decide +kernel
theorem dX10_goes_152 : decode cX10_goes 152 = .ok (.iload 7, 2) := by decide +kernel
theorem dX10_goes_154 : decode cX10_goes 154 = .ok (.invokevirtual 116, 3) := by decide +kernel
theorem dX10_goes_157 : decode cX10_goes 157 = .ok (.aload_n 0, 1) := by decide +kernel
theorem dX10_goes_158 : decode cX10_goes 158 = .ok (.iload_n 3, 1) := by decide +kernel
theorem dX10_goes_159 : decode cX10_goes 159 = .ok (.putfield 120, 3) := by decide +kernel
theorem dX10_goes_162 : decode cX10_goes 162 = .ok (.iload 8, 2) := by decide +kernel
theorem dX10_goes_164 : decode cX10_goes 164 = .ok (.ireturn, 1) := by decide +kernel
theorem dX10_goes_165 : decode cX10_goes 165 = .ok (.aload_n 0, 1) := by decide +kernel
theorem dX10_goes_166 : decode cX10_goes 166 = .ok (.iload 7, 2) := by decide +kernel
theorem dX10_goes_168 : decode cX10_goes 168 = .ok (.iload 6, 2) := by decide +kernel
theorem dX10_goes_170 : decode cX10_goes 170 = .ok (.isub, 1) := by decide +kernel
theorem dX10_goes_171 : decode cX10_goes 171 = .ok (.iload 6, 2) := by decide +kernel
theorem dX10_goes_173 : decode cX10_goes 173 = .ok (.iload 7, 2) := by decide +kernel
theorem dX10_goes_175 : decode cX10_goes 175 = .ok (.invokevirtual 116, 3) := by decide +kernel
theorem dX10_goes_178 : decode cX10_goes 178 = .ok (.iload_n 2, 1) := by decide +kernel
theorem dX10_goes_179 : decode cX10_goes 179 = .ok (.iload 5, 2) := by decide +kernel
theorem dX10_goes_181 : decode cX10_goes 181 = .ok (.ior, 1) := by decide +kernel
theorem dX10_goes_182 : decode cX10_goes 182 = .ok (.istore_n 2, 1) := by decide +kernel
theorem dX10_goes_183 : decode cX10_goes 183 = .ok (.aload_n 0, 1) := by decide +kernel
theorem dX10_goes_184 : decode cX10_goes 184 = .ok (.dup, 1) := by decide +kernel
theorem dX10_goes_185 : decode cX10_goes 185 = .ok (.getfield 123, 3) := by decide +kernel
theorem dX10_goes_188 : decode cX10_goes 188 = .ok (.iconst 1, 1) := by decide +kernel
theorem dX10_goes_189 : decode cX10_goes 189 = .ok (.iadd, 1) := by decide +kernel
theorem dX10_goes_190 : decode cX10_goes 190 = .ok (.putfield 123, 3) := by decide +kernel
theorem dX10_goes_193 : decode cX10_goes 193 = .ok (.iinc 3 (-1), 3) := by decide +kernel
theorem dX10_goes_196 : decode cX10_goes 196 = .ok (.goto (-177), 3) := by decide +kernel
theorem dX10_goes_199 : decode cX10_goes 199 = .ok (.aload_n 0, 1) := by decide +kernel
theorem dX10_goes_200 : decode cX10_goes 200 = .ok (.iload_n 1, 1) := by decide +kernel
theorem dX10_goes_201 : decode cX10_goes 201 = .ok (.iload_n 2, 1) := by decide +kernel
theorem dX10_goes_202 : decode cX10_goes 202 = .ok (.invokevirtual 139, 3) := by decide +kernel
theorem dX10_goes_205 : decode cX10_goes 205 = .ok (.ireturn, 1) := by decide +kernel
theorem dX10_adds_0 : decode cX10_adds 0 = .ok (.aload_n 0, 1) := by decide +kernel
theorem dX10_adds_1 : decode cX10_adds 1 = .ok (.getfield 29, 3) := by decide +kernel
theorem dX10_adds_4 : decode cX10_adds 4 = .ok (.iload_n 1, 1) := by decide +kernel
theorem dX10_adds_5 : decode cX10_adds 5 = .ok (.iload_n 2, 1) := by decide +kernel
theorem dX10_adds_6 : decode cX10_adds 6 = .ok (.iadd, 1) := by decide +kernel
theorem dX10_adds_7 : decode cX10_adds 7 = .ok (.dup2, 1) := by decide +kernel
theorem dX10_adds_8 : decode cX10_adds 8 = .ok (.iaload, 1) := by decide +kernel
theorem dX10_adds_9 : decode cX10_adds 9 = .ok (.iconst 1, 1) := by decide +kernel
theorem dX10_adds_10 : decode cX10_adds 10 = .ok (.iadd, 1) := by decide +kernel
theorem dX10_adds_11 : decode cX10_adds 11 = .ok (.iastore, 1) := by decide +kernel
theorem dX10_adds_12 : decode cX10_adds 12 = .ok (.aload_n 0, 1) := by decide +kernel
theorem dX10_adds_13 : decode cX10_adds 13 = .ok (.getfield 29, 3) := by decide +kernel
theorem dX10_adds_16 : decode cX10_adds 16 = .ok (.iload_n 1, 1) := by decide +kernel
theorem dX10_adds_17 : decode cX10_adds 17 = .ok (.iload_n 2, 1) := by decide +kernel
theorem dX10_adds_18 : decode cX10_adds 18 = .ok (.iadd, 1) := by decide +kernel
theorem dX10_adds_19 : decode cX10_adds 19 = .ok (.iaload, 1) := by decide +kernel
theorem dX10_adds_20 : decode cX10_adds 20 = .ok (.aload_n 0, 1) := by decide +kernel
theorem dX10_adds_21 : decode cX10_adds 21 = .ok (.getfield 7, 3) := by decide +kernel
theorem dX10_adds_24 : decode cX10_adds 24 = .ok (.iconst 1, 1) := by decide +kernel
theorem dX10_adds_25 : decode cX10_adds 25 = .ok (.iaload, 1) := by decide +kernel
theorem dX10_adds_26 : decode cX10_adds 26 = .ok (.if_icmp .ne 7, 3) := by decide +kernel
theorem dX10_adds_29 : decode cX10_adds 29 = .ok (.iconst 1, 1) := by decide +kernel
theorem dX10_adds_30 : decode cX10_adds 30 = .ok (.goto 4, 3) := by decide +kernel
theorem dX10_adds_33 : decode cX10_adds 33 = .ok (.iconst 0, 1) := by decide +kernel
theorem dX10_adds_34 : decode cX10_adds 34 = .ok (.istore_n 3, 1) := by decide +kernel
theorem dX10_adds_35 : decode cX10_adds 35 = .ok (.iconst 0, 1) := by decide +kernel
theorem dX10_adds_36 : decode cX10_adds 36 = .ok (.istore 4, 2) := by decide +kernel
theorem dX10_adds_38 : decode cX10_adds 38 = .ok (.iload 4, 2) := by decide +kernel
theorem dX10_adds_40 : decode cX10_adds 40 = .ok (.iconst 4, 1) := by decide +kernel
theorem dX10_adds_41 : decode cX10_adds 41 = .ok (.if_icmp .ge 26, 3) := by decide +kernel
theorem dX10_adds_44 : decode cX10_adds 44 = .ok (.iload_n 3, 1) := by decide +kernel
theorem dX10_adds_45 : decode cX10_adds 45 = .ok (.ifCond .eq 22, 3) := by decide +kernel
theorem dX10_adds_48 : decode cX10_adds 48 = .ok (.aload_n 0, 1) := by decide +kernel
theorem dX10_adds_49 : decode cX10_adds 49 = .ok (.getfield 29, 3) := by decide +kernel
theorem dX10_adds_52 : decode cX10_adds 52 = .ok (.iload_n 1, 1) := by decide +kernel
theorem dX10_adds_53 : decode cX10_adds 53 = .ok (.iload 4, 2) := by decide +kernel
theorem dX10_adds_55 : decode cX10_adds 55 = .ok (.iadd, 1) := by decide +kernel
theorem dX10_adds_56 : decode cX10_adds 56 = .ok (.dup2, 1) := by decide +kernel
theorem dX10_adds_57 : decode cX10_adds 57 = .ok (.iaload, 1) := by decide +kernel
theorem dX10_adds_58 : decode cX10_adds 58 = .ok (.iconst 2, 1) := by decide +kernel
theorem dX10_adds_59 : decode cX10_adds 59 = .ok (.idiv, 1) := by decide +kernel
theorem dX10_adds_60 : decode cX10_adds 60 = .ok (.iastore, 1) := by decide +kernel
theorem dX10_adds_61 : decode cX10_adds 61 = .ok (.iinc 4 1, 3) := by decide +kernel
theorem dX10_adds_64 : decode cX10_adds 64 = .ok (.goto (-26), 3) := by decide +kernel
theorem dX10_adds_67 : decode cX10_adds 67 = .ok (.return_, 1) := by decide +kernel
theorem dX10_there_0 : decode cX10_there 0 = .ok (.iconst 0, 1) := by decide +kernel
theorem dX10_there_1 : decode cX10_there 1 = .ok (.istore_n 1, 1) := by decide +kernel
theorem dX10_there_2 : decode cX10_there 2 = .ok (.iconst 0, 1) := by decide +kernel
theorem dX10_there_3 : decode cX10_there 3 = .ok (.istore_n 2, 1) := by decide +kernel
theorem dX10_there_4 : decode cX10_there 4 = .ok (.iload_n 2, 1) := by decide +kernel
theorem dX10_there_5 : decode cX10_there 5 = .ok (.bipush 85, 2) := by decide +kernel
theorem dX10_there_7 : decode cX10_there 7 = .ok (.if_icmp .ge 28, 3) := by decide +kernel
theorem dX10_there_10 : decode cX10_there 10 = .ok (.iload_n 1, 1) := by decide +kernel
theorem dX10_there_11 : decode cX10_there 11 = .ok (.aload_n 0, 1) := by decide +kernel
theorem dX10_there_12 : decode cX10_there 12 = .ok (.iconst 4, 1) := by decide +kernel
theorem dX10_there_13 : decode cX10_there 13 = .ok (.iload_n 2, 1) := by decide +kernel
theorem dX10_there_14 : decode cX10_there 14 = .ok (.imul, 1) := by decide +kernel
theorem dX10_there_15 : decode cX10_there 15 = .ok (.iconst 0, 1) := by decide +kernel
theorem dX10_there_16 : decode cX10_there 16 = .ok (.invokevirtual 133, 3) := by decide +kernel
theorem dX10_there_19 : decode cX10_there 19 = .ok (.ifCond .eq 7, 3) := by decide +kernel
theorem dX10_there_22 : decode cX10_there 22 = .ok (.iconst 1, 1) := by decide +kernel
theorem dX10_there_23 : decode cX10_there 23 = .ok (.goto 4, 3) := by decide +kernel
theorem dX10_there_26 : decode cX10_there 26 = .ok (.iconst 0, 1) := by decide +kernel
theorem dX10_there_27 : decode cX10_there 27 = .ok (.iadd, 1) := by decide +kernel
theorem dX10_there_28 : decode cX10_there 28 = .ok (.istore_n 1, 1) := by decide +kernel
theorem dX10_there_29 : decode cX10_there 29 = .ok (.iinc 2 1, 3) := by decide +kernel
theorem dX10_there_32 : decode cX10_there 32 = .ok (.goto (-28), 3) := by decide +kernel
theorem dX10_there_35 : decode cX10_there 35 = .ok (.iload_n 1, 1) := by decide +kernel
theorem dX10_there_36 : decode cX10_there 36 = .ok (.ireturn, 1) := by decide +kernel
theorem dX10_forgets_0 : decode cX10_forgets 0 = .ok (.aload_n 0, 1) := by decide +kernel
theorem dX10_forgets_1 : decode cX10_forgets 1 = .ok (.invokevirtual 74, 3) := by decide +kernel
theorem dX10_forgets_4 : decode cX10_forgets 4 = .ok (.aload_n 0, 1) := by decide +kernel
theorem dX10_forgets_5 : decode cX10_forgets 5 = .ok (.dup, 1) := by decide +kernel
theorem dX10_forgets_6 : decode cX10_forgets 6 = .ok (.getfield 52, 3) := by decide +kernel
theorem dX10_forgets_9 : decode cX10_forgets 9 = .ok (.iconst 1, 1) := by decide +kernel
theorem dX10_forgets_10 : decode cX10_forgets 10 = .ok (.iadd, 1) := by decide +kernel
theorem dX10_forgets_11 : decode cX10_forgets 11 = .ok (.putfield 52, 3) := by decide +kernel
theorem dX10_forgets_14 : decode cX10_forgets 14 = .ok (.aload_n 0, 1) := by decide +kernel
theorem dX10_forgets_15 : decode cX10_forgets 15 = .ok (.getfield 49, 3) := by decide +kernel
theorem dX10_forgets_18 : decode cX10_forgets 18 = .ok (.aload_n 0, 1) := by decide +kernel
theorem dX10_forgets_19 : decode cX10_forgets 19 = .ok (.getfield 7, 3) := by decide +kernel
theorem dX10_forgets_22 : decode cX10_forgets 22 = .ok (.iconst 3, 1) := by decide +kernel
theorem dX10_forgets_23 : decode cX10_forgets 23 = .ok (.iaload, 1) := by decide +kernel
theorem dX10_forgets_24 : decode cX10_forgets 24 = .ok (.aload_n 0, 1) := by decide +kernel
theorem dX10_forgets_25 : decode cX10_forgets 25 = .ok (.getfield 49, 3) := by decide +kernel
theorem dX10_forgets_28 : decode cX10_forgets 28 = .ok (.invokestatic 126, 3) := by decide +kernel
theorem dX10_forgets_31 : decode cX10_forgets 31 = .ok (.isub, 1) := by decide +kernel
theorem dX10_forgets_32 : decode cX10_forgets 32 = .ok (.istore_n 1, 1) := by decide +kernel
theorem dX10_forgets_33 : decode cX10_forgets 33 = .ok (.iload_n 1, 1) := by decide +kernel
theorem dX10_forgets_34 : decode cX10_forgets 34 = .ok (.istore_n 2, 1) := by decide +kernel
theorem dX10_forgets_35 : decode cX10_forgets 35 = .ok (.iload_n 2, 1) := by decide +kernel
theorem dX10_forgets_36 : decode cX10_forgets 36 = .ok (.aload_n 0, 1) := by decide +kernel
theorem dX10_forgets_37 : decode cX10_forgets 37 = .ok (.getfield 49, 3) := by decide +kernel
theorem dX10_forgets_40 : decode cX10_forgets 40 = .ok (.if_icmp .ge 47, 3) := by decide +kernel
theorem dX10_forgets_43 : decode cX10_forgets 43 = .ok (.iconst 0, 1) := by decide +kernel
theorem dX10_forgets_44 : decode cX10_forgets 44 = .ok (.istore_n 3, 1) := by decide +kernel
theorem dX10_forgets_45 : decode cX10_forgets 45 = .ok (.iload_n 3, 1) := by decide +kernel
theorem dX10_forgets_46 : decode cX10_forgets 46 = .ok (.aload_n 0, 1) := by decide +kernel
theorem dX10_forgets_47 : decode cX10_forgets 47 = .ok (.getfield 42, 3) := by decide +kernel
theorem dX10_forgets_50 : decode cX10_forgets 50 = .ok (.iload_n 2, 1) := by decide +kernel
theorem dX10_forgets_51 : decode cX10_forgets 51 = .ok (.iload_n 1, 1) := by decide +kernel
theorem dX10_forgets_52 : decode cX10_forgets 52 = .ok (.isub, 1) := by decide +kernel
theorem dX10_forgets_53 : decode cX10_forgets 53 = .ok (.invokestatic 126, 3) := by decide +kernel
theorem dX10_forgets_56 : decode cX10_forgets 56 = .ok (.if_icmp .gt 25, 3) := by decide +kernel
theorem dX10_forgets_59 : decode cX10_forgets 59 = .ok (.aload_n 0, 1) := by decide +kernel
theorem dX10_forgets_60 : decode cX10_forgets 60 = .ok (.aload_n 0, 1) := by decide +kernel
theorem dX10_forgets_61 : decode cX10_forgets 61 = .ok (.iload_n 3, 1) := by decide +kernel
theorem dX10_forgets_62 : decode cX10_forgets 62 = .ok (.iload_n 2, 1) := by decide +kernel
theorem dX10_forgets_63 : decode cX10_forgets 63 = .ok (.invokevirtual 130, 3) := by decide +kernel
theorem dX10_forgets_66 : decode cX10_forgets 66 = .ok (.aload_n 0, 1) := by decide +kernel
theorem dX10_forgets_67 : decode cX10_forgets 67 = .ok (.getfield 26, 3) := by decide +kernel
theorem dX10_forgets_70 : decode cX10_forgets 70 = .ok (.iload_n 2, 1) := by decide +kernel
theorem dX10_forgets_71 : decode cX10_forgets 71 = .ok (.iaload, 1) := by decide +kernel
theorem dX10_forgets_72 : decode cX10_forgets 72 = .ok (.invokevirtual 142, 3) := by decide +kernel
theorem dX10_forgets_75 : decode cX10_forgets 75 = .ok (.iinc 3 1, 3) := by decide +kernel
theorem dX10_forgets_78 : decode cX10_forgets 78 = .ok (.goto (-33), 3) := by decide +kernel
theorem dX10_forgets_81 : decode cX10_forgets 81 = .ok (.iinc 2 1, 3) := by decide +kernel
theorem dX10_forgets_84 : decode cX10_forgets 84 = .ok (.goto (-49), 3) := by decide +kernel
theorem dX10_forgets_87 : decode cX10_forgets 87 = .ok (.return_, 1) := by decide +kernel
theorem dX10_learns_0 : decode cX10_learns 0 = .ok (.aload_n 0, 1) := by decide +kernel
theorem dX10_learns_1 : decode cX10_learns 1 = .ok (.getfield 120, 3) := by decide +kernel
theorem dX10_learns_4 : decode cX10_learns 4 = .ok (.ifCond .ge 7, 3) := by decide +kernel
theorem dX10_learns_7 : decode cX10_learns 7 = .ok (.iconst 0, 1) := by decide +kernel
theorem dX10_learns_8 : decode cX10_learns 8 = .ok (.goto 7, 3) := by decide +kernel
theorem dX10_learns_11 : decode cX10_learns 11 = .ok (.aload_n 0, 1) := by decide +kernel
theorem dX10_learns_12 : decode cX10_learns 12 = .ok (.getfield 120, 3) := by decide +kernel
theorem dX10_learns_15 : decode cX10_learns 15 = .ok (.istore_n 2, 1) := by decide +kernel
theorem dX10_learns_16 : decode cX10_learns 16 = .ok (.iload_n 2, 1) := by decide +kernel
theorem dX10_learns_17 : decode cX10_learns 17 = .ok (.aload_n 0, 1) := by decide +kernel
theorem dX10_learns_18 : decode cX10_learns 18 = .ok (.getfield 42, 3) := by decide +kernel
theorem dX10_learns_21 : decode cX10_learns 21 = .ok (.aload_n 0, 1) := by decide +kernel
theorem dX10_learns_22 : decode cX10_learns 22 = .ok (.getfield 49, 3) := by decide +kernel
theorem dX10_learns_25 : decode cX10_learns 25 = .ok (.invokestatic 126, 3) := by decide +kernel
theorem dX10_learns_28 : decode cX10_learns 28 = .ok (.if_icmp .gt 23, 3) := by decide +kernel
theorem dX10_learns_31 : decode cX10_learns 31 = .ok (.aload_n 0, 1) := by decide +kernel
theorem dX10_learns_32 : decode cX10_learns 32 = .ok (.aload_n 0, 1) := by decide +kernel
theorem dX10_learns_33 : decode cX10_learns 33 = .ok (.iload_n 2, 1) := by decide +kernel
theorem dX10_learns_34 : decode cX10_learns 34 = .ok (.aload_n 0, 1) := by decide +kernel
theorem dX10_learns_35 : decode cX10_learns 35 = .ok (.getfield 49, 3) := by decide +kernel
theorem dX10_learns_38 : decode cX10_learns 38 = .ok (.invokevirtual 130, 3) := by decide +kernel
theorem dX10_learns_41 : decode cX10_learns 41 = .ok (.iload_n 1, 1) := by decide +kernel
theorem dX10_learns_42 : decode cX10_learns 42 = .ok (.invokevirtual 142, 3) := by decide +kernel
theorem dX10_learns_45 : decode cX10_learns 45 = .ok (.iinc 2 1, 3) := by decide +kernel
theorem dX10_learns_48 : decode cX10_learns 48 = .ok (.goto (-32), 3) := by decide +kernel
theorem dX10_learns_51 : decode cX10_learns 51 = .ok (.aload_n 0, 1) := by decide +kernel
theorem dX10_learns_52 : decode cX10_learns 52 = .ok (.getfield 26, 3) := by decide +kernel
theorem dX10_learns_55 : decode cX10_learns 55 = .ok (.aload_n 0, 1) := by decide +kernel
theorem dX10_learns_56 : decode cX10_learns 56 = .ok (.getfield 49, 3) := by decide +kernel
theorem dX10_learns_59 : decode cX10_learns 59 = .ok (.iload_n 1, 1) := by decide +kernel
theorem dX10_learns_60 : decode cX10_learns 60 = .ok (.iastore, 1) := by decide +kernel
theorem dX10_learns_61 : decode cX10_learns 61 = .ok (.aload_n 0, 1) := by decide +kernel
theorem dX10_learns_62 : decode cX10_learns 62 = .ok (.dup, 1) := by decide +kernel
theorem dX10_learns_63 : decode cX10_learns 63 = .ok (.getfield 49, 3) := by decide +kernel
theorem dX10_learns_66 : decode cX10_learns 66 = .ok (.iconst 1, 1) := by decide +kernel
theorem dX10_learns_67 : decode cX10_learns 67 = .ok (.iadd, 1) := by decide +kernel
theorem dX10_learns_68 : decode cX10_learns 68 = .ok (.putfield 49, 3) := by decide +kernel
theorem dX10_learns_71 : decode cX10_learns 71 = .ok (.aload_n 0, 1) := by decide +kernel
theorem dX10_learns_72 : decode cX10_learns 72 = .ok (.invokevirtual 146, 3) := by decide +kernel
theorem dX10_learns_75 : decode cX10_learns 75 = .ok (.aload_n 0, 1) := by decide +kernel
theorem dX10_learns_76 : decode cX10_learns 76 = .ok (.getfield 7, 3) := by decide +kernel
theorem dX10_learns_79 : decode cX10_learns 79 = .ok (.iconst 2, 1) := by decide +kernel
theorem dX10_learns_80 : decode cX10_learns 80 = .ok (.iaload, 1) := by decide +kernel
theorem dX10_learns_81 : decode cX10_learns 81 = .ok (.if_icmp .le 7, 3) := by decide +kernel
theorem dX10_learns_84 : decode cX10_learns 84 = .ok (.aload_n 0, 1) := by decide +kernel
theorem dX10_learns_85 : decode cX10_learns 85 = .ok (.invokevirtual 149, 3) := by decide +kernel
theorem dX10_learns_88 : decode cX10_learns 88 = .ok (.return_, 1) := by decide +kernel
theorem dX10_packsAll_0 : decode cX10_packsAll 0 = .ok (.aload_n 0, 1) := by decide +kernel
theorem dX10_packsAll_1 : decode cX10_packsAll 1 = .ok (.iload_n 1, 1) := by decide +kernel
theorem dX10_packsAll_2 : decode cX10_packsAll 2 = .ok (.iconst 0, 1) := by decide +kernel
theorem dX10_packsAll_3 : decode cX10_packsAll 3 = .ok (.invokevirtual 152, 3) := by decide +kernel
theorem dX10_packsAll_6 : decode cX10_packsAll 6 = .ok (.iconst 0, 1) := by decide +kernel
theorem dX10_packsAll_7 : decode cX10_packsAll 7 = .ok (.istore_n 2, 1) := by decide +kernel
theorem dX10_packsAll_8 : decode cX10_packsAll 8 = .ok (.iload_n 2, 1) := by decide +kernel
theorem dX10_packsAll_9 : decode cX10_packsAll 9 = .ok (.aload_n 0, 1) := by decide +kernel
theorem dX10_packsAll_10 : decode cX10_packsAll 10 = .ok (.getfield 7, 3) := by decide +kernel
theorem dX10_packsAll_13 : decode cX10_packsAll 13 = .ok (.iconst 4, 1) := by decide +kernel
theorem dX10_packsAll_14 : decode cX10_packsAll 14 = .ok (.iaload, 1) := by decide +kernel
theorem dX10_packsAll_15 : decode cX10_packsAll 15 = .ok (.if_icmp .ge 25, 3) := by decide +kernel
theorem dX10_packsAll_18 : decode cX10_packsAll 18 = .ok (.aload_n 0, 1) := by decide +kernel
theorem dX10_packsAll_19 : decode cX10_packsAll 19 = .ok (.aload_n 0, 1) := by decide +kernel
theorem dX10_packsAll_20 : decode cX10_packsAll 20 = .ok (.aload_n 0, 1) := by decide +kernel
theorem dX10_packsAll_21 : decode cX10_packsAll 21 = .ok (.getfield 7, 3) := by decide +kernel
theorem dX10_packsAll_24 : decode cX10_packsAll 24 = .ok (.iconst 5, 1) := by decide +kernel
theorem dX10_packsAll_25 : decode cX10_packsAll 25 = .ok (.iload_n 2, 1) := by decide +kernel
theorem dX10_packsAll_26 : decode cX10_packsAll 26 = .ok (.iadd, 1) := by decide +kernel
theorem dX10_packsAll_27 : decode cX10_packsAll 27 = .ok (.iaload, 1) := by decide +kernel
theorem dX10_packsAll_28 : decode cX10_packsAll 28 = .ok (.invokevirtual 155, 3) := by decide +kernel
theorem dX10_packsAll_31 : decode cX10_packsAll 31 = .ok (.invokevirtual 158, 3) := by decide +kernel
theorem dX10_packsAll_34 : decode cX10_packsAll 34 = .ok (.iinc 2 1, 3) := by decide +kernel
theorem dX10_packsAll_37 : decode cX10_packsAll 37 = .ok (.goto (-29), 3) := by decide +kernel
theorem dX10_packsAll_40 : decode cX10_packsAll 40 = .ok (.return_, 1) := by decide +kernel
theorem dX10_packsNow_0 : decode cX10_packsNow 0 = .ok (.aload_n 0, 1) := by decide +kernel
theorem dX10_packsNow_1 : decode cX10_packsNow 1 = .ok (.aload_n 0, 1) := by decide +kernel
theorem dX10_packsNow_2 : decode cX10_packsNow 2 = .ok (.getfield 7, 3) := by decide +kernel
theorem dX10_packsNow_5 : decode cX10_packsNow 5 = .ok (.iconst 0, 1) := by decide +kernel
theorem dX10_packsNow_6 : decode cX10_packsNow 6 = .ok (.iaload, 1) := by decide +kernel
theorem dX10_packsNow_7 : decode cX10_packsNow 7 = .ok (.invokevirtual 161, 3) := by decide +kernel
theorem dX10_packsNow_10 : decode cX10_packsNow 10 = .ok (.return_, 1) := by decide +kernel
theorem dX10_unpacks_0 : decode cX10_unpacks 0 = .ok (.aload_n 0, 1) := by decide +kernel
theorem dX10_unpacks_1 : decode cX10_unpacks 1 = .ok (.aload_n 0, 1) := by decide +kernel
theorem dX10_unpacks_2 : decode cX10_unpacks 2 = .ok (.getfield 7, 3) := by decide +kernel
theorem dX10_unpacks_5 : decode cX10_unpacks 5 = .ok (.iconst 0, 1) := by decide +kernel
theorem dX10_unpacks_6 : decode cX10_unpacks 6 = .ok (.iaload, 1) := by decide +kernel
theorem dX10_unpacks_7 : decode cX10_unpacks 7 = .ok (.iconst 1, 1) := by decide +kernel
theorem dX10_unpacks_8 : decode cX10_unpacks 8 = .ok (.invokevirtual 152, 3) := by decide +kernel
theorem dX10_unpacks_11 : decode cX10_unpacks 11 = .ok (.iconst 0, 1) := by decide +kernel
theorem dX10_unpacks_12 : decode cX10_unpacks 12 = .ok (.istore_n 2, 1) := by decide +kernel
theorem dX10_unpacks_13 : decode cX10_unpacks 13 = .ok (.iload_n 2, 1) := by decide +kernel
theorem dX10_unpacks_14 : decode cX10_unpacks 14 = .ok (.iload_n 1, 1) := by decide +kernel
theorem dX10_unpacks_15 : decode cX10_unpacks 15 = .ok (.if_icmp .ge 19, 3) := by decide +kernel
theorem dX10_unpacks_18 : decode cX10_unpacks 18 = .ok (.aload_n 0, 1) := by decide +kernel
theorem dX10_unpacks_19 : decode cX10_unpacks 19 = .ok (.aload_n 0, 1) := by decide +kernel
theorem dX10_unpacks_20 : decode cX10_unpacks 20 = .ok (.bipush (-9), 2) := by decide +kernel
theorem dX10_unpacks_22 : decode cX10_unpacks 22 = .ok (.invokevirtual 155, 3) := by decide +kernel
theorem dX10_unpacks_25 : decode cX10_unpacks 25 = .ok (.invokevirtual 158, 3) := by decide +kernel
theorem dX10_unpacks_28 : decode cX10_unpacks 28 = .ok (.iinc 2 1, 3) := by decide +kernel
theorem dX10_unpacks_31 : decode cX10_unpacks 31 = .ok (.goto (-18), 3) := by decide +kernel
theorem dX10_unpacks_34 : decode cX10_unpacks 34 = .ok (.return_, 1) := by decide +kernel
theorem dX10_ended_0 : decode cX10_ended 0 = .ok (.aload_n 0, 1) := by decide +kernel
theorem dX10_ended_1 : decode cX10_ended 1 = .ok (.getfield 65, 3) := by decide +kernel
theorem dX10_ended_4 : decode cX10_ended 4 = .ok (.aload_n 0, 1) := by decide +kernel
theorem dX10_ended_5 : decode cX10_ended 5 = .ok (.getfield 62, 3) := by decide +kernel
theorem dX10_ended_8 : decode cX10_ended 8 = .ok (.iadd, 1) := by decide +kernel
theorem dX10_ended_9 : decode cX10_ended 9 = .ok (.iconst 2, 1) := by decide +kernel
theorem dX10_ended_10 : decode cX10_ended 10 = .ok (.iadd, 1) := by decide +kernel
theorem dX10_ended_11 : decode cX10_ended 11 = .ok (.ireturn, 1) := by decide +kernel
theorem dX10_type_0 : decode cX10_type 0 = .ok (.iload_n 1, 1) := by decide +kernel
theorem dX10_type_1 : decode cX10_type 1 = .ok (.iconst 0, 1) := by decide +kernel
theorem dX10_type_2 : decode cX10_type 2 = .ok (.sipush 255, 3) := by decide +kernel
theorem dX10_type_5 : decode cX10_type 5 = .ok (.invokestatic 164, 3) := by decide +kernel
theorem dX10_type_8 : decode cX10_type 8 = .ok (.ifCond .ne 5, 3) := by decide +kernel
theorem dX10_type_11 : decode cX10_type 11 = .ok (.iconst (-1), 1) := by decide +kernel
theorem dX10_type_12 : decode cX10_type 12 = .ok (.ireturn, 1) := by decide +kernel
theorem dX10_type_13 : decode cX10_type 13 = .ok (.aload_n 0, 1) := by decide +kernel
theorem dX10_type_14 : decode cX10_type 14 = .ok (.getfield 168, 3) := by decide +kernel
theorem dX10_type_17 : decode cX10_type 17 = .ok (.sipush 200, 3) := by decide +kernel
theorem dX10_type_20 : decode cX10_type 20 = .ok (.if_icmp .ne 6, 3) := by decide +kernel
theorem dX10_type_23 : decode cX10_type 23 = .ok (.bipush (-3), 2) := by decide +kernel
theorem dX10_type_25 : decode cX10_type 25 = .ok (.ireturn, 1) := by decide +kernel
theorem dX10_type_26 : decode cX10_type 26 = .ok (.aload_n 0, 1) := by decide +kernel
theorem dX10_type_27 : decode cX10_type 27 = .ok (.getfield 23, 3) := by decide +kernel
theorem dX10_type_30 : decode cX10_type 30 = .ok (.aload_n 0, 1) := by decide +kernel
theorem dX10_type_31 : decode cX10_type 31 = .ok (.getfield 168, 3) := by decide +kernel
theorem dX10_type_34 : decode cX10_type 34 = .ok (.iload_n 1, 1) := by decide +kernel
theorem dX10_type_35 : decode cX10_type 35 = .ok (.iastore, 1) := by decide +kernel
theorem dX10_type_36 : decode cX10_type 36 = .ok (.aload_n 0, 1) := by decide +kernel
theorem dX10_type_37 : decode cX10_type 37 = .ok (.dup, 1) := by decide +kernel
theorem dX10_type_38 : decode cX10_type 38 = .ok (.getfield 168, 3) := by decide +kernel
theorem dX10_type_41 : decode cX10_type 41 = .ok (.iconst 1, 1) := by decide +kernel
theorem dX10_type_42 : decode cX10_type 42 = .ok (.iadd, 1) := by decide +kernel
theorem dX10_type_43 : decode cX10_type 43 = .ok (.putfield 168, 3) := by decide +kernel
theorem dX10_type_46 : decode cX10_type 46 = .ok (.aload_n 0, 1) := by decide +kernel
theorem dX10_type_47 : decode cX10_type 47 = .ok (.getfield 168, 3) := by decide +kernel
theorem dX10_type_50 : decode cX10_type 50 = .ok (.ireturn, 1) := by decide +kernel
theorem dX10_clear_0 : decode cX10_clear 0 = .ok (.aload_n 0, 1) := by decide +kernel
theorem dX10_clear_1 : decode cX10_clear 1 = .ok (.getfield 168, 3) := by decide +kernel
theorem dX10_clear_4 : decode cX10_clear 4 = .ok (.istore_n 1, 1) := by decide +kernel
theorem dX10_clear_5 : decode cX10_clear 5 = .ok (.aload_n 0, 1) := by decide +kernel
theorem dX10_clear_6 : decode cX10_clear 6 = .ok (.iconst 0, 1) := by decide +kernel
theorem dX10_clear_7 : decode cX10_clear 7 = .ok (.putfield 168, 3) := by decide +kernel
theorem dX10_clear_10 : decode cX10_clear 10 = .ok (.iload_n 1, 1) := by decide +kernel
theorem dX10_clear_11 : decode cX10_clear 11 = .ok (.ireturn, 1) := by decide +kernel
theorem dX10_keeps_0 : decode cX10_keeps 0 = .ok (.aload_n 0, 1) := by decide +kernel
theorem dX10_keeps_1 : decode cX10_keeps 1 = .ok (.getfield 171, 3) := by decide +kernel
theorem dX10_keeps_4 : decode cX10_keeps 4 = .ok (.bipush 6, 2) := by decide +kernel
theorem dX10_keeps_6 : decode cX10_keeps 6 = .ok (.if_icmp .ne 43, 3) := by decide +kernel
theorem dX10_keeps_9 : decode cX10_keeps 9 = .ok (.iconst 0, 1) := by decide +kernel
theorem dX10_keeps_10 : decode cX10_keeps 10 = .ok (.istore_n 1, 1) := by decide +kernel
theorem dX10_keeps_11 : decode cX10_keeps 11 = .ok (.iload_n 1, 1) := by decide +kernel
theorem dX10_keeps_12 : decode cX10_keeps 12 = .ok (.sipush 325, 3) := by decide +kernel
theorem dX10_keeps_15 : decode cX10_keeps 15 = .ok (.if_icmp .ge 24, 3) := by decide +kernel
theorem dX10_keeps_18 : decode cX10_keeps 18 = .ok (.aload_n 0, 1) := by decide +kernel
theorem dX10_keeps_19 : decode cX10_keeps 19 = .ok (.getfield 13, 3) := by decide +kernel
theorem dX10_keeps_22 : decode cX10_keeps 22 = .ok (.iload_n 1, 1) := by decide +kernel
theorem dX10_keeps_23 : decode cX10_keeps 23 = .ok (.aload_n 0, 1) := by decide +kernel
theorem dX10_keeps_24 : decode cX10_keeps 24 = .ok (.getfield 13, 3) := by decide +kernel
theorem dX10_keeps_27 : decode cX10_keeps 27 = .ok (.iload_n 1, 1) := by decide +kernel
theorem dX10_keeps_28 : decode cX10_keeps 28 = .ok (.bipush 65, 2) := by decide +kernel
theorem dX10_keeps_30 : decode cX10_keeps 30 = .ok (.iadd, 1) := by decide +kernel
theorem dX10_keeps_31 : decode cX10_keeps 31 = .ok (.iaload, 1) := by decide +kernel
theorem dX10_keeps_32 : decode cX10_keeps 32 = .ok (.iastore, 1) := by decide +kernel
theorem dX10_keeps_33 : decode cX10_keeps 33 = .ok (.iinc 1 1, 3) := by decide +kernel
theorem dX10_keeps_36 : decode cX10_keeps 36 = .ok (.goto (-25), 3) := by decide +kernel
theorem dX10_keeps_39 : decode cX10_keeps 39 = .ok (.aload_n 0, 1) := by decide +kernel
theorem dX10_keeps_40 : decode cX10_keeps 40 = .ok (.dup, 1) := by decide +kernel
theorem dX10_keeps_41 : decode cX10_keeps 41 = .ok (.getfield 171, 3) := by decide +kernel
theorem dX10_keeps_44 : decode cX10_keeps 44 = .ok (.iconst 1, 1) := by decide +kernel
theorem dX10_keeps_45 : decode cX10_keeps 45 = .ok (.isub, 1) := by decide +kernel
theorem dX10_keeps_46 : decode cX10_keeps 46 = .ok (.putfield 171, 3) := by decide +kernel
theorem dX10_keeps_49 : decode cX10_keeps 49 = .ok (.iconst 0, 1) := by decide +kernel
theorem dX10_keeps_50 : decode cX10_keeps 50 = .ok (.istore_n 1, 1) := by decide +kernel
theorem dX10_keeps_51 : decode cX10_keeps 51 = .ok (.iload_n 1, 1) := by decide +kernel
theorem dX10_keeps_52 : decode cX10_keeps 52 = .ok (.bipush 65, 2) := by decide +kernel
theorem dX10_keeps_54 : decode cX10_keeps 54 = .ok (.if_icmp .ge 29, 3) := by decide +kernel
theorem dX10_keeps_57 : decode cX10_keeps 57 = .ok (.aload_n 0, 1) := by decide +kernel
theorem dX10_keeps_58 : decode cX10_keeps 58 = .ok (.getfield 13, 3) := by decide +kernel
theorem dX10_keeps_61 : decode cX10_keeps 61 = .ok (.bipush 65, 2) := by decide +kernel
theorem dX10_keeps_63 : decode cX10_keeps 63 = .ok (.aload_n 0, 1) := by decide +kernel
theorem dX10_keeps_64 : decode cX10_keeps 64 = .ok (.getfield 171, 3) := by decide +kernel
theorem dX10_keeps_67 : decode cX10_keeps 67 = .ok (.imul, 1) := by decide +kernel
theorem dX10_keeps_68 : decode cX10_keeps 68 = .ok (.iload_n 1, 1) := by decide +kernel
theorem dX10_keeps_69 : decode cX10_keeps 69 = .ok (.iadd, 1) := by decide +kernel
theorem dX10_keeps_70 : decode cX10_keeps 70 = .ok (.aload_n 0, 1) := by decide +kernel
theorem dX10_keeps_71 : decode cX10_keeps 71 = .ok (.getfield 7, 3) := by decide +kernel
theorem dX10_keeps_74 : decode cX10_keeps 74 = .ok (.iload_n 1, 1) := by decide +kernel
theorem dX10_keeps_75 : decode cX10_keeps 75 = .ok (.iaload, 1) := by decide +kernel
theorem dX10_keeps_76 : decode cX10_keeps 76 = .ok (.iastore, 1) := by decide +kernel
theorem dX10_keeps_77 : decode cX10_keeps 77 = .ok (.iinc 1 1, 3) := by decide +kernel
theorem dX10_keeps_80 : decode cX10_keeps 80 = .ok (.goto (-29), 3) := by decide +kernel
theorem dX10_keeps_83 : decode cX10_keeps 83 = .ok (.aload_n 0, 1) := by decide +kernel
theorem dX10_keeps_84 : decode cX10_keeps 84 = .ok (.dup, 1) := by decide +kernel
theorem dX10_keeps_85 : decode cX10_keeps 85 = .ok (.getfield 171, 3) := by decide +kernel
theorem dX10_keeps_88 : decode cX10_keeps 88 = .ok (.iconst 1, 1) := by decide +kernel
theorem dX10_keeps_89 : decode cX10_keeps 89 = .ok (.iadd, 1) := by decide +kernel
theorem dX10_keeps_90 : decode cX10_keeps 90 = .ok (.putfield 171, 3) := by decide +kernel
theorem dX10_keeps_93 : decode cX10_keeps 93 = .ok (.return_, 1) := by decide +kernel
theorem dX10_begins_0 : decode cX10_begins 0 = .ok (.iload_n 1, 1) := by decide +kernel
theorem dX10_begins_1 : decode cX10_begins 1 = .ok (.iconst 0, 1) := by decide +kernel
theorem dX10_begins_2 : decode cX10_begins 2 = .ok (.iconst 3, 1) := by decide +kernel
theorem dX10_begins_3 : decode cX10_begins 3 = .ok (.invokestatic 164, 3) := by decide +kernel
theorem dX10_begins_6 : decode cX10_begins 6 = .ok (.ifCond .eq 34, 3) := by decide +kernel
theorem dX10_begins_9 : decode cX10_begins 9 = .ok (.iload_n 2, 1) := by decide +kernel
theorem dX10_begins_10 : decode cX10_begins 10 = .ok (.iconst 2, 1) := by decide +kernel
theorem dX10_begins_11 : decode cX10_begins 11 = .ok (.bipush 15, 2) := by decide +kernel
theorem dX10_begins_13 : decode cX10_begins 13 = .ok (.invokestatic 164, 3) := by decide +kernel
theorem dX10_begins_16 : decode cX10_begins 16 = .ok (.ifCond .eq 24, 3) := by decide +kernel
theorem dX10_begins_19 : decode cX10_begins 19 = .ok (.iload_n 3, 1) := by decide +kernel
theorem dX10_begins_20 : decode cX10_begins 20 = .ok (.iconst 4, 1) := by decide +kernel
theorem dX10_begins_21 : decode cX10_begins 21 = .ok (.bipush 60, 2) := by decide +kernel
theorem dX10_begins_23 : decode cX10_begins 23 = .ok (.invokestatic 164, 3) := by decide +kernel
theorem dX10_begins_26 : decode cX10_begins 26 = .ok (.ifCond .eq 14, 3) := by decide +kernel
theorem dX10_begins_29 : decode cX10_begins 29 = .ok (.iload 4, 2) := by decide +kernel
theorem dX10_begins_31 : decode cX10_begins 31 = .ok (.iconst 0, 1) := by decide +kernel
theorem dX10_begins_32 : decode cX10_begins 32 = .ok (.bipush 9, 2) := by decide +kernel
theorem dX10_begins_34 : decode cX10_begins 34 = .ok (.invokestatic 164, 3) := by decide +kernel
theorem dX10_begins_37 : decode cX10_begins 37 = .ok (.ifCond .ne 5, 3) := by decide +kernel
theorem dX10_begins_40 : decode cX10_begins 40 = .ok (.iconst (-1), 1) := by decide +kernel
theorem dX10_begins_41 : decode cX10_begins 41 = .ok (.ireturn, 1) := by decide +kernel
theorem dX10_begins_42 : decode cX10_begins 42 = .ok (.aload_n 0, 1) := by decide +kernel
theorem dX10_begins_43 : decode cX10_begins 43 = .ok (.invokevirtual 174, 3) := by decide +kernel
theorem dX10_begins_46 : decode cX10_begins 46 = .ok (.aload_n 0, 1) := by decide +kernel
theorem dX10_begins_47 : decode cX10_begins 47 = .ok (.getfield 7, 3) := by decide +kernel
theorem dX10_begins_50 : decode cX10_begins 50 = .ok (.iconst 4, 1) := by decide +kernel
theorem dX10_begins_51 : decode cX10_begins 51 = .ok (.iaload, 1) := by decide +kernel
theorem dX10_begins_52 : decode cX10_begins 52 = .ok (.istore 5, 2) := by decide +kernel
theorem dX10_begins_54 : decode cX10_begins 54 = .ok (.aload_n 0, 1) := by decide +kernel
theorem dX10_begins_55 : decode cX10_begins 55 = .ok (.iload_n 1, 1) := by decide +kernel
theorem dX10_begins_56 : decode cX10_begins 56 = .ok (.iload_n 2, 1) := by decide +kernel
theorem dX10_begins_57 : decode cX10_begins 57 = .ok (.iload_n 3, 1) := by decide +kernel
theorem dX10_begins_58 : decode cX10_begins 58 = .ok (.iload 4, 2) := by decide +kernel
theorem dX10_begins_60 : decode cX10_begins 60 = .ok (.invokevirtual 38, 3) := by decide +kernel
theorem dX10_begins_63 : decode cX10_begins 63 = .ok (.iload 5, 2) := by decide +kernel
theorem dX10_begins_65 : decode cX10_begins 65 = .ok (.ireturn, 1) := by decide +kernel
theorem dX10_appends_0 : decode cX10_appends 0 = .ok (.aload_n 0, 1) := by decide +kernel
theorem dX10_appends_1 : decode cX10_appends 1 = .ok (.getfield 7, 3) := by decide +kernel
theorem dX10_appends_4 : decode cX10_appends 4 = .ok (.iconst 5, 1) := by decide +kernel
theorem dX10_appends_5 : decode cX10_appends 5 = .ok (.aload_n 0, 1) := by decide +kernel
theorem dX10_appends_6 : decode cX10_appends 6 = .ok (.getfield 7, 3) := by decide +kernel
theorem dX10_appends_9 : decode cX10_appends 9 = .ok (.iconst 4, 1) := by decide +kernel
theorem dX10_appends_10 : decode cX10_appends 10 = .ok (.iaload, 1) := by decide +kernel
theorem dX10_appends_11 : decode cX10_appends 11 = .ok (.iadd, 1) := by decide +kernel
theorem dX10_appends_12 : decode cX10_appends 12 = .ok (.iload_n 1, 1) := by decide +kernel
theorem dX10_appends_13 : decode cX10_appends 13 = .ok (.iastore, 1) := by decide +kernel
theorem dX10_appends_14 : decode cX10_appends 14 = .ok (.aload_n 0, 1) := by decide +kernel
theorem dX10_appends_15 : decode cX10_appends 15 = .ok (.getfield 7, 3) := by decide +kernel
theorem dX10_appends_18 : decode cX10_appends 18 = .ok (.iconst 4, 1) := by decide +kernel
theorem dX10_appends_19 : decode cX10_appends 19 = .ok (.dup2, 1) := by decide +kernel
theorem dX10_appends_20 : decode cX10_appends 20 = .ok (.iaload, 1) := by decide +kernel
theorem dX10_appends_21 : decode cX10_appends 21 = .ok (.iconst 1, 1) := by decide +kernel
theorem dX10_appends_22 : decode cX10_appends 22 = .ok (.iadd, 1) := by decide +kernel
theorem dX10_appends_23 : decode cX10_appends 23 = .ok (.iastore, 1) := by decide +kernel
theorem dX10_appends_24 : decode cX10_appends 24 = .ok (.return_, 1) := by decide +kernel
theorem dX10_packs_0 : decode cX10_packs 0 = .ok (.iload_n 1, 1) := by decide +kernel
theorem dX10_packs_1 : decode cX10_packs 1 = .ok (.iconst 0, 1) := by decide +kernel
theorem dX10_packs_2 : decode cX10_packs 2 = .ok (.iconst 3, 1) := by decide +kernel
theorem dX10_packs_3 : decode cX10_packs 3 = .ok (.invokestatic 164, 3) := by decide +kernel
theorem dX10_packs_6 : decode cX10_packs 6 = .ok (.ifCond .ne 6, 3) := by decide +kernel
theorem dX10_packs_9 : decode cX10_packs 9 = .ok (.bipush (-5), 2) := by decide +kernel
theorem dX10_packs_11 : decode cX10_packs 11 = .ok (.ireturn, 1) := by decide +kernel
theorem dX10_packs_12 : decode cX10_packs 12 = .ok (.aload_n 0, 1) := by decide +kernel
theorem dX10_packs_13 : decode cX10_packs 13 = .ok (.getfield 7, 3) := by decide +kernel
theorem dX10_packs_16 : decode cX10_packs 16 = .ok (.iconst 4, 1) := by decide +kernel
theorem dX10_packs_17 : decode cX10_packs 17 = .ok (.iaload, 1) := by decide +kernel
theorem dX10_packs_18 : decode cX10_packs 18 = .ok (.bipush 60, 2) := by decide +kernel
theorem dX10_packs_20 : decode cX10_packs 20 = .ok (.if_icmp .ne 6, 3) := by decide +kernel
theorem dX10_packs_23 : decode cX10_packs 23 = .ok (.bipush (-6), 2) := by decide +kernel
theorem dX10_packs_25 : decode cX10_packs 25 = .ok (.ireturn, 1) := by decide +kernel
theorem dX10_packs_26 : decode cX10_packs 26 = .ok (.aload_n 0, 1) := by decide +kernel
theorem dX10_packs_27 : decode cX10_packs 27 = .ok (.invokevirtual 174, 3) := by decide +kernel
theorem dX10_packs_30 : decode cX10_packs 30 = .ok (.aload_n 0, 1) := by decide +kernel
theorem dX10_packs_31 : decode cX10_packs 31 = .ok (.iload_n 1, 1) := by decide +kernel
theorem dX10_packs_32 : decode cX10_packs 32 = .ok (.invokevirtual 177, 3) := by decide +kernel
theorem dX10_packs_35 : decode cX10_packs 35 = .ok (.aload_n 0, 1) := by decide +kernel
theorem dX10_packs_36 : decode cX10_packs 36 = .ok (.invokevirtual 180, 3) := by decide +kernel
theorem dX10_packs_39 : decode cX10_packs 39 = .ok (.aload_n 0, 1) := by decide +kernel
theorem dX10_packs_40 : decode cX10_packs 40 = .ok (.getfield 120, 3) := by decide +kernel
theorem dX10_packs_43 : decode cX10_packs 43 = .ok (.ireturn, 1) := by decide +kernel
theorem dX10_wrongLetter_0 : decode cX10_wrongLetter 0 = .ok (.iconst 0, 1) := by decide +kernel
theorem dX10_wrongLetter_1 : decode cX10_wrongLetter 1 = .ok (.istore_n 3, 1) := by decide +kernel
theorem dX10_wrongLetter_2 : decode cX10_wrongLetter 2 = .ok (.iload_n 3, 1) := by decide +kernel
theorem dX10_wrongLetter_3 : decode cX10_wrongLetter 3 = .ok (.aload_n 0, 1) := by decide +kernel
theorem dX10_wrongLetter_4 : decode cX10_wrongLetter 4 = .ok (.getfield 168, 3) := by decide +kernel
theorem dX10_wrongLetter_7 : decode cX10_wrongLetter 7 = .ok (.if_icmp .ge 25, 3) := by decide +kernel
theorem dX10_wrongLetter_10 : decode cX10_wrongLetter 10 = .ok (.aload_n 0, 1) := by decide +kernel
theorem dX10_wrongLetter_11 : decode cX10_wrongLetter 11 = .ok (.getfield 23, 3) := by decide +kernel
theorem dX10_wrongLetter_14 : decode cX10_wrongLetter 14 = .ok (.iload_n 3, 1) := by decide +kernel
theorem dX10_wrongLetter_15 : decode cX10_wrongLetter 15 = .ok (.iaload, 1) := by decide +kernel
theorem dX10_wrongLetter_16 : decode cX10_wrongLetter 16 = .ok (.iload_n 1, 1) := by decide +kernel
theorem dX10_wrongLetter_17 : decode cX10_wrongLetter 17 = .ok (.iload_n 2, 1) := by decide +kernel
theorem dX10_wrongLetter_18 : decode cX10_wrongLetter 18 = .ok (.invokestatic 164, 3) := by decide +kernel
theorem dX10_wrongLetter_21 : decode cX10_wrongLetter 21 = .ok (.ifCond .ne 5, 3) := by decide +kernel
theorem dX10_wrongLetter_24 : decode cX10_wrongLetter 24 = .ok (.iload_n 3, 1) := by decide +kernel
theorem dX10_wrongLetter_25 : decode cX10_wrongLetter 25 = .ok (.ireturn, 1) := by decide +kernel
theorem dX10_wrongLetter_26 : decode cX10_wrongLetter 26 = .ok (.iinc 3 1, 3) := by decide +kernel
theorem dX10_wrongLetter_29 : decode cX10_wrongLetter 29 = .ok (.goto (-27), 3) := by decide +kernel
theorem dX10_wrongLetter_32 : decode cX10_wrongLetter 32 = .ok (.bipush (-9), 2) := by decide +kernel
theorem dX10_wrongLetter_34 : decode cX10_wrongLetter 34 = .ok (.ireturn, 1) := by decide +kernel
theorem dX10_word_0 : decode cX10_word 0 = .ok (.aload_n 0, 1) := by decide +kernel
theorem dX10_word_1 : decode cX10_word 1 = .ok (.bipush 97, 2) := by decide +kernel
theorem dX10_word_3 : decode cX10_word 3 = .ok (.bipush 100, 2) := by decide +kernel
theorem dX10_word_5 : decode cX10_word 5 = .ok (.invokevirtual 183, 3) := by decide +kernel
theorem dX10_word_8 : decode cX10_word 8 = .ok (.istore_n 1, 1) := by decide +kernel
theorem dX10_word_9 : decode cX10_word 9 = .ok (.iload_n 1, 1) := by decide +kernel
theorem dX10_word_10 : decode cX10_word 10 = .ok (.bipush (-9), 2) := by decide +kernel
theorem dX10_word_12 : decode cX10_word 12 = .ok (.if_icmp .eq 8, 3) := by decide +kernel
theorem dX10_word_15 : decode cX10_word 15 = .ok (.bipush (-10), 2) := by decide +kernel
theorem dX10_word_17 : decode cX10_word 17 = .ok (.iload_n 1, 1) := by decide +kernel
theorem dX10_word_18 : decode cX10_word 18 = .ok (.isub, 1) := by decide +kernel
theorem dX10_word_19 : decode cX10_word 19 = .ok (.ireturn, 1) := by decide +kernel
theorem dX10_word_20 : decode cX10_word 20 = .ok (.aload_n 0, 1) := by decide +kernel
theorem dX10_word_21 : decode cX10_word 21 = .ok (.getfield 7, 3) := by decide +kernel
theorem dX10_word_24 : decode cX10_word 24 = .ok (.iconst 4, 1) := by decide +kernel
theorem dX10_word_25 : decode cX10_word 25 = .ok (.iaload, 1) := by decide +kernel
theorem dX10_word_26 : decode cX10_word 26 = .ok (.aload_n 0, 1) := by decide +kernel
theorem dX10_word_27 : decode cX10_word 27 = .ok (.getfield 168, 3) := by decide +kernel
theorem dX10_word_30 : decode cX10_word 30 = .ok (.iadd, 1) := by decide +kernel
theorem dX10_word_31 : decode cX10_word 31 = .ok (.bipush 60, 2) := by decide +kernel
theorem dX10_word_33 : decode cX10_word 33 = .ok (.if_icmp .le 6, 3) := by decide +kernel
theorem dX10_word_36 : decode cX10_word 36 = .ok (.bipush (-3), 2) := by decide +kernel
theorem dX10_word_38 : decode cX10_word 38 = .ok (.ireturn, 1) := by decide +kernel
theorem dX10_word_39 : decode cX10_word 39 = .ok (.aload_n 0, 1) := by decide +kernel
theorem dX10_word_40 : decode cX10_word 40 = .ok (.invokevirtual 174, 3) := by decide +kernel
theorem dX10_word_43 : decode cX10_word 43 = .ok (.iconst 0, 1) := by decide +kernel
theorem dX10_word_44 : decode cX10_word 44 = .ok (.istore_n 2, 1) := by decide +kernel
theorem dX10_word_45 : decode cX10_word 45 = .ok (.iload_n 2, 1) := by decide +kernel
theorem dX10_word_46 : decode cX10_word 46 = .ok (.aload_n 0, 1) := by decide +kernel
theorem dX10_word_47 : decode cX10_word 47 = .ok (.getfield 168, 3) := by decide +kernel
theorem dX10_word_50 : decode cX10_word 50 = .ok (.if_icmp .ge 22, 3) := by decide +kernel
theorem dX10_word_53 : decode cX10_word 53 = .ok (.aload_n 0, 1) := by decide +kernel
theorem dX10_word_54 : decode cX10_word 54 = .ok (.aload_n 0, 1) := by decide +kernel
theorem dX10_word_55 : decode cX10_word 55 = .ok (.getfield 23, 3) := by decide +kernel
theorem dX10_word_58 : decode cX10_word 58 = .ok (.iload_n 2, 1) := by decide +kernel
theorem dX10_word_59 : decode cX10_word 59 = .ok (.iaload, 1) := by decide +kernel
theorem dX10_word_60 : decode cX10_word 60 = .ok (.bipush 97, 2) := by decide +kernel
theorem dX10_word_62 : decode cX10_word 62 = .ok (.isub, 1) := by decide +kernel
theorem dX10_word_63 : decode cX10_word 63 = .ok (.invokevirtual 177, 3) := by decide +kernel
theorem dX10_word_66 : decode cX10_word 66 = .ok (.iinc 2 1, 3) := by decide +kernel
theorem dX10_word_69 : decode cX10_word 69 = .ok (.goto (-24), 3) := by decide +kernel
theorem dX10_word_72 : decode cX10_word 72 = .ok (.aload_n 0, 1) := by decide +kernel
theorem dX10_word_73 : decode cX10_word 73 = .ok (.getfield 168, 3) := by decide +kernel
theorem dX10_word_76 : decode cX10_word 76 = .ok (.istore_n 2, 1) := by decide +kernel
theorem dX10_word_77 : decode cX10_word 77 = .ok (.aload_n 0, 1) := by decide +kernel
theorem dX10_word_78 : decode cX10_word 78 = .ok (.iconst 0, 1) := by decide +kernel
theorem dX10_word_79 : decode cX10_word 79 = .ok (.putfield 168, 3) := by decide +kernel
theorem dX10_word_82 : decode cX10_word 82 = .ok (.iload_n 2, 1) := by decide +kernel
theorem dX10_word_83 : decode cX10_word 83 = .ok (.ireturn, 1) := by decide +kernel
theorem dX10_cuts_0 : decode cX10_cuts 0 = .ok (.iload_n 1, 1) := by decide +kernel
theorem dX10_cuts_1 : decode cX10_cuts 1 = .ok (.iconst 1, 1) := by decide +kernel
theorem dX10_cuts_2 : decode cX10_cuts 2 = .ok (.if_icmp .ge 5, 3) := by decide +kernel
theorem dX10_cuts_5 : decode cX10_cuts 5 = .ok (.iconst (-1), 1) := by decide +kernel
theorem dX10_cuts_6 : decode cX10_cuts 6 = .ok (.ireturn, 1) := by decide +kernel
theorem dX10_cuts_7 : decode cX10_cuts 7 = .ok (.iload_n 1, 1) := by decide +kernel
theorem dX10_cuts_8 : decode cX10_cuts 8 = .ok (.aload_n 0, 1) := by decide +kernel
theorem dX10_cuts_9 : decode cX10_cuts 9 = .ok (.getfield 7, 3) := by decide +kernel
theorem dX10_cuts_12 : decode cX10_cuts 12 = .ok (.iconst 4, 1) := by decide +kernel
theorem dX10_cuts_13 : decode cX10_cuts 13 = .ok (.iaload, 1) := by decide +kernel
theorem dX10_cuts_14 : decode cX10_cuts 14 = .ok (.if_icmp .le 6, 3) := by decide +kernel
theorem dX10_cuts_17 : decode cX10_cuts 17 = .ok (.bipush (-2), 2) := by decide +kernel
theorem dX10_cuts_19 : decode cX10_cuts 19 = .ok (.ireturn, 1) := by decide +kernel
theorem dX10_cuts_20 : decode cX10_cuts 20 = .ok (.aload_n 0, 1) := by decide +kernel
theorem dX10_cuts_21 : decode cX10_cuts 21 = .ok (.invokevirtual 174, 3) := by decide +kernel
theorem dX10_cuts_24 : decode cX10_cuts 24 = .ok (.aload_n 0, 1) := by decide +kernel
theorem dX10_cuts_25 : decode cX10_cuts 25 = .ok (.getfield 7, 3) := by decide +kernel
theorem dX10_cuts_28 : decode cX10_cuts 28 = .ok (.iconst 4, 1) := by decide +kernel
theorem dX10_cuts_29 : decode cX10_cuts 29 = .ok (.dup2, 1) := by decide +kernel
theorem dX10_cuts_30 : decode cX10_cuts 30 = .ok (.iaload, 1) := by decide +kernel
theorem dX10_cuts_31 : decode cX10_cuts 31 = .ok (.iload_n 1, 1) := by decide +kernel
theorem dX10_cuts_32 : decode cX10_cuts 32 = .ok (.isub, 1) := by decide +kernel
theorem dX10_cuts_33 : decode cX10_cuts 33 = .ok (.iastore, 1) := by decide +kernel
theorem dX10_cuts_34 : decode cX10_cuts 34 = .ok (.aload_n 0, 1) := by decide +kernel
theorem dX10_cuts_35 : decode cX10_cuts 35 = .ok (.getfield 7, 3) := by decide +kernel
theorem dX10_cuts_38 : decode cX10_cuts 38 = .ok (.iconst 4, 1) := by decide +kernel
theorem dX10_cuts_39 : decode cX10_cuts 39 = .ok (.iaload, 1) := by decide +kernel
theorem dX10_cuts_40 : decode cX10_cuts 40 = .ok (.ireturn, 1) := by decide +kernel
theorem dX10_undo_0 : decode cX10_undo 0 = .ok (.aload_n 0, 1) := by decide +kernel
theorem dX10_undo_1 : decode cX10_undo 1 = .ok (.getfield 171, 3) := by decide +kernel
theorem dX10_undo_4 : decode cX10_undo 4 = .ok (.ifCond .ne 6, 3) := by decide +kernel
theorem dX10_undo_7 : decode cX10_undo 7 = .ok (.bipush (-2), 2) := by decide +kernel
theorem dX10_undo_9 : decode cX10_undo 9 = .ok (.ireturn, 1) := by decide +kernel
theorem dX10_undo_10 : decode cX10_undo 10 = .ok (.aload_n 0, 1) := by decide +kernel
theorem dX10_undo_11 : decode cX10_undo 11 = .ok (.dup, 1) := by decide +kernel
theorem dX10_undo_12 : decode cX10_undo 12 = .ok (.getfield 171, 3) := by decide +kernel
theorem dX10_undo_15 : decode cX10_undo 15 = .ok (.iconst 1, 1) := by decide +kernel
theorem dX10_undo_16 : decode cX10_undo 16 = .ok (.isub, 1) := by decide +kernel
theorem dX10_undo_17 : decode cX10_undo 17 = .ok (.putfield 171, 3) := by decide +kernel
theorem dX10_undo_20 : decode cX10_undo 20 = .ok (.iconst 0, 1) := by decide +kernel
theorem dX10_undo_21 : decode cX10_undo 21 = .ok (.istore_n 1, 1) := by decide +kernel
theorem dX10_undo_22 : decode cX10_undo 22 = .ok (.iload_n 1, 1) := by decide +kernel
theorem dX10_undo_23 : decode cX10_undo 23 = .ok (.bipush 65, 2) := by decide +kernel
theorem dX10_undo_25 : decode cX10_undo 25 = .ok (.if_icmp .ge 29, 3) := by decide +kernel
theorem dX10_undo_28 : decode cX10_undo 28 = .ok (.aload_n 0, 1) := by decide +kernel
theorem dX10_undo_29 : decode cX10_undo 29 = .ok (.getfield 7, 3) := by decide +kernel
theorem dX10_undo_32 : decode cX10_undo 32 = .ok (.iload_n 1, 1) := by decide +kernel
theorem dX10_undo_33 : decode cX10_undo 33 = .ok (.aload_n 0, 1) := by decide +kernel
theorem dX10_undo_34 : decode cX10_undo 34 = .ok (.getfield 13, 3) := by decide +kernel
theorem dX10_undo_37 : decode cX10_undo 37 = .ok (.bipush 65, 2) := by decide +kernel
theorem dX10_undo_39 : decode cX10_undo 39 = .ok (.aload_n 0, 1) := by decide +kernel
theorem dX10_undo_40 : decode cX10_undo 40 = .ok (.getfield 171, 3) := by decide +kernel
theorem dX10_undo_43 : decode cX10_undo 43 = .ok (.imul, 1) := by decide +kernel
theorem dX10_undo_44 : decode cX10_undo 44 = .ok (.iload_n 1, 1) := by decide +kernel
theorem dX10_undo_45 : decode cX10_undo 45 = .ok (.iadd, 1) := by decide +kernel
theorem dX10_undo_46 : decode cX10_undo 46 = .ok (.iaload, 1) := by decide +kernel
theorem dX10_undo_47 : decode cX10_undo 47 = .ok (.iastore, 1) := by decide +kernel
theorem dX10_undo_48 : decode cX10_undo 48 = .ok (.iinc 1 1, 3) := by decide +kernel
theorem dX10_undo_51 : decode cX10_undo 51 = .ok (.goto (-29), 3) := by decide +kernel
theorem dX10_undo_54 : decode cX10_undo 54 = .ok (.aload_n 0, 1) := by decide +kernel
theorem dX10_undo_55 : decode cX10_undo 55 = .ok (.getfield 171, 3) := by decide +kernel
theorem dX10_undo_58 : decode cX10_undo 58 = .ok (.ireturn, 1) := by decide +kernel
theorem dX10_sign_0 : decode cX10_sign 0 = .ok (.iload_n 1, 1) := by decide +kernel
theorem dX10_sign_1 : decode cX10_sign 1 = .ok (.iconst 0, 1) := by decide +kernel
theorem dX10_sign_2 : decode cX10_sign 2 = .ok (.aload_n 0, 1) := by decide +kernel
theorem dX10_sign_3 : decode cX10_sign 3 = .ok (.getfield 7, 3) := by decide +kernel
theorem dX10_sign_6 : decode cX10_sign 6 = .ok (.iconst 4, 1) := by decide +kernel
theorem dX10_sign_7 : decode cX10_sign 7 = .ok (.iaload, 1) := by decide +kernel
theorem dX10_sign_8 : decode cX10_sign 8 = .ok (.iconst 1, 1) := by decide +kernel
theorem dX10_sign_9 : decode cX10_sign 9 = .ok (.isub, 1) := by decide +kernel
theorem dX10_sign_10 : decode cX10_sign 10 = .ok (.invokestatic 164, 3) := by decide +kernel
theorem dX10_sign_13 : decode cX10_sign 13 = .ok (.ifCond .eq 14, 3) := by decide +kernel
theorem dX10_sign_16 : decode cX10_sign 16 = .ok (.aload_n 0, 1) := by decide +kernel
theorem dX10_sign_17 : decode cX10_sign 17 = .ok (.getfield 7, 3) := by decide +kernel
theorem dX10_sign_20 : decode cX10_sign 20 = .ok (.iconst 5, 1) := by decide +kernel
theorem dX10_sign_21 : decode cX10_sign 21 = .ok (.iload_n 1, 1) := by decide +kernel
theorem dX10_sign_22 : decode cX10_sign 22 = .ok (.iadd, 1) := by decide +kernel
theorem dX10_sign_23 : decode cX10_sign 23 = .ok (.iaload, 1) := by decide +kernel
theorem dX10_sign_24 : decode cX10_sign 24 = .ok (.goto 4, 3) := by decide +kernel
theorem dX10_sign_27 : decode cX10_sign 27 = .ok (.iconst (-1), 1) := by decide +kernel
theorem dX10_sign_28 : decode cX10_sign 28 = .ok (.ireturn, 1) := by decide +kernel
theorem dX10_isSign_0 : decode cX10_isSign 0 = .ok (.iload_n 0, 1) := by decide +kernel
theorem dX10_isSign_1 : decode cX10_isSign 1 = .ok (.iconst 0, 1) := by decide +kernel
theorem dX10_isSign_2 : decode cX10_isSign 2 = .ok (.iconst 3, 1) := by decide +kernel
theorem dX10_isSign_3 : decode cX10_isSign 3 = .ok (.invokestatic 164, 3) := by decide +kernel
theorem dX10_isSign_6 : decode cX10_isSign 6 = .ok (.ireturn, 1) := by decide +kernel
theorem dX10_countOf_0 : decode cX10_countOf 0 = .ok (.aload_n 0, 1) := by decide +kernel
theorem dX10_countOf_1 : decode cX10_countOf 1 = .ok (.invokevirtual 180, 3) := by decide +kernel
theorem dX10_countOf_4 : decode cX10_countOf 4 = .ok (.aload_n 0, 1) := by decide +kernel
theorem dX10_countOf_5 : decode cX10_countOf 5 = .ok (.getfield 29, 3) := by decide +kernel
theorem dX10_countOf_8 : decode cX10_countOf 8 = .ok (.iload_n 1, 1) := by decide +kernel
theorem dX10_countOf_9 : decode cX10_countOf 9 = .ok (.iload_n 2, 1) := by decide +kernel
theorem dX10_countOf_10 : decode cX10_countOf 10 = .ok (.iadd, 1) := by decide +kernel
theorem dX10_countOf_11 : decode cX10_countOf 11 = .ok (.iaload, 1) := by decide +kernel
theorem dX10_countOf_12 : decode cX10_countOf 12 = .ok (.ireturn, 1) := by decide +kernel
theorem dX10_count_0 : decode cX10_count 0 = .ok (.iload_n 1, 1) := by decide +kernel
theorem dX10_count_1 : decode cX10_count 1 = .ok (.iconst 0, 1) := by decide +kernel
theorem dX10_count_2 : decode cX10_count 2 = .ok (.aload_n 0, 1) := by decide +kernel
theorem dX10_count_3 : decode cX10_count 3 = .ok (.getfield 7, 3) := by decide +kernel
theorem dX10_count_6 : decode cX10_count 6 = .ok (.iconst 0, 1) := by decide +kernel
theorem dX10_count_7 : decode cX10_count 7 = .ok (.iaload, 1) := by decide +kernel
theorem dX10_count_8 : decode cX10_count 8 = .ok (.invokestatic 164, 3) := by decide +kernel
theorem dX10_count_11 : decode cX10_count 11 = .ok (.ifCond .eq 33, 3) := by decide +kernel
theorem dX10_count_14 : decode cX10_count 14 = .ok (.iload_n 2, 1) := by decide +kernel
theorem dX10_count_15 : decode cX10_count 15 = .ok (.invokestatic 186, 3) := by decide +kernel
theorem dX10_count_18 : decode cX10_count 18 = .ok (.ifCond .eq 26, 3) := by decide +kernel
theorem dX10_count_21 : decode cX10_count 21 = .ok (.iload_n 3, 1) := by decide +kernel
theorem dX10_count_22 : decode cX10_count 22 = .ok (.invokestatic 186, 3) := by decide +kernel
theorem dX10_count_25 : decode cX10_count 25 = .ok (.ifCond .eq 19, 3) := by decide +kernel
theorem dX10_count_28 : decode cX10_count 28 = .ok (.iload 4, 2) := by decide +kernel
theorem dX10_count_30 : decode cX10_count 30 = .ok (.invokestatic 186, 3) := by decide +kernel
theorem dX10_count_33 : decode cX10_count 33 = .ok (.ifCond .eq 11, 3) := by decide +kernel
theorem dX10_count_36 : decode cX10_count 36 = .ok (.iload 5, 2) := by decide +kernel
theorem dX10_count_38 : decode cX10_count 38 = .ok (.invokestatic 186, 3) := by decide +kernel
theorem dX10_count_41 : decode cX10_count 41 = .ok (.ifCond .ne 5, 3) := by decide +kernel
theorem dX10_count_44 : decode cX10_count 44 = .ok (.iconst (-1), 1) := by decide +kernel
theorem dX10_count_45 : decode cX10_count 45 = .ok (.ireturn, 1) := by decide +kernel
theorem dX10_count_46 : decode cX10_count 46 = .ok (.iload_n 1, 1) := by decide +kernel
theorem dX10_count_47 : decode cX10_count 47 = .ok (.iconst 3, 1) := by decide +kernel
theorem dX10_count_48 : decode cX10_count 48 = .ok (.if_icmp .ge 8, 3) := by decide +kernel
theorem dX10_count_51 : decode cX10_count 51 = .ok (.iload 4, 2) := by decide +kernel
theorem dX10_count_53 : decode cX10_count 53 = .ok (.ifCond .ne 21, 3) := by decide +kernel
theorem dX10_count_56 : decode cX10_count 56 = .ok (.iload_n 1, 1) := by decide +kernel
theorem dX10_count_57 : decode cX10_count 57 = .ok (.iconst 2, 1) := by decide +kernel
theorem dX10_count_58 : decode cX10_count 58 = .ok (.if_icmp .ge 7, 3) := by decide +kernel
theorem dX10_count_61 : decode cX10_count 61 = .ok (.iload_n 3, 1) := by decide +kernel
theorem dX10_count_62 : decode cX10_count 62 = .ok (.ifCond .ne 12, 3) := by decide +kernel
theorem dX10_count_65 : decode cX10_count 65 = .ok (.iload_n 1, 1) := by decide +kernel
theorem dX10_count_66 : decode cX10_count 66 = .ok (.iconst 1, 1) := by decide +kernel
theorem dX10_count_67 : decode cX10_count 67 = .ok (.if_icmp .ge 9, 3) := by decide +kernel
theorem dX10_count_70 : decode cX10_count 70 = .ok (.iload_n 2, 1) := by decide +kernel
theorem dX10_count_71 : decode cX10_count 71 = .ok (.ifCond .eq 5, 3) := by decide +kernel
theorem dX10_count_74 : decode cX10_count 74 = .ok (.iconst (-1), 1) := by decide +kernel
theorem dX10_count_75 : decode cX10_count 75 = .ok (.ireturn, 1) := by decide +kernel
end
section
theorem dX10_count_76 : decode cX10_count 76 = .ok (.iload_n 1, 1) := by decide +kernel
theorem dX10_count_77 : decode cX10_count 77 = .ok (.ifCond .ne 7, 3) := by decide +kernel
theorem dX10_count_80 : decode cX10_count 80 = .ok (.iconst 0, 1) := by decide +kernel
theorem dX10_count_81 : decode cX10_count 81 = .ok (.goto 43, 3) := by decide +kernel
theorem dX10_count_84 : decode cX10_count 84 = .ok (.iload_n 1, 1) := by decide +kernel
theorem dX10_count_85 : decode cX10_count 85 = .ok (.iconst 1, 1) := by decide +kernel
theorem dX10_count_86 : decode cX10_count 86 = .ok (.if_icmp .ne 9, 3) := by decide +kernel
theorem dX10_count_89 : decode cX10_count 89 = .ok (.iconst 1, 1) := by decide +kernel
theorem dX10_count_90 : decode cX10_count 90 = .ok (.iload_n 2, 1) := by decide +kernel
theorem dX10_count_91 : decode cX10_count 91 = .ok (.iadd, 1) := by decide +kernel
theorem dX10_count_92 : decode cX10_count 92 = .ok (.goto 32, 3) := by decide +kernel
theorem dX10_count_95 : decode cX10_count 95 = .ok (.iload_n 1, 1) := by decide +kernel
theorem dX10_count_96 : decode cX10_count 96 = .ok (.iconst 2, 1) := by decide +kernel
theorem dX10_count_97 : decode cX10_count 97 = .ok (.if_icmp .ne 13, 3) := by decide +kernel
theorem dX10_count_100 : decode cX10_count 100 = .ok (.iconst 5, 1) := by decide +kernel
theorem dX10_count_101 : decode cX10_count 101 = .ok (.iconst 4, 1) := by decide +kernel
theorem dX10_count_102 : decode cX10_count 102 = .ok (.iload_n 2, 1) := by decide +kernel
theorem dX10_count_103 : decode cX10_count 103 = .ok (.imul, 1) := by decide +kernel
theorem dX10_count_104 : decode cX10_count 104 = .ok (.iadd, 1) := by decide +kernel
theorem dX10_count_105 : decode cX10_count 105 = .ok (.iload_n 3, 1) := by decide +kernel
theorem dX10_count_106 : decode cX10_count 106 = .ok (.iadd, 1) := by decide +kernel
theorem dX10_count_107 : decode cX10_count 107 = .ok (.goto 17, 3) := by decide +kernel
theorem dX10_count_110 : decode cX10_count 110 = .ok (.bipush 21, 2) := by decide +kernel
theorem dX10_count_112 : decode cX10_count 112 = .ok (.bipush 16, 2) := by decide +kernel
theorem dX10_count_114 : decode cX10_count 114 = .ok (.iload_n 2, 1) := by decide +kernel
theorem dX10_count_115 : decode cX10_count 115 = .ok (.imul, 1) := by decide +kernel
theorem dX10_count_116 : decode cX10_count 116 = .ok (.iadd, 1) := by decide +kernel
theorem dX10_count_117 : decode cX10_count 117 = .ok (.iconst 4, 1) := by decide +kernel
theorem dX10_count_118 : decode cX10_count 118 = .ok (.iload_n 3, 1) := by decide +kernel
theorem dX10_count_119 : decode cX10_count 119 = .ok (.imul, 1) := by decide +kernel
theorem dX10_count_120 : decode cX10_count 120 = .ok (.iadd, 1) := by decide +kernel
theorem dX10_count_121 : decode cX10_count 121 = .ok (.iload 4, 2) := by decide +kernel
theorem dX10_count_123 : decode cX10_count 123 = .ok (.iadd, 1) := by decide +kernel
theorem dX10_count_124 : decode cX10_count 124 = .ok (.istore 6, 2) := by decide +kernel
theorem dX10_count_126 : decode cX10_count 126 = .ok (.aload_n 0, 1) := by decide +kernel
theorem dX10_count_127 : decode cX10_count 127 = .ok (.iconst 4, 1) := by decide +kernel
theorem dX10_count_128 : decode cX10_count 128 = .ok (.iload 6, 2) := by decide +kernel
theorem dX10_count_130 : decode cX10_count 130 = .ok (.imul, 1) := by decide +kernel
theorem dX10_count_131 : decode cX10_count 131 = .ok (.iload 5, 2) := by decide +kernel
theorem dX10_count_133 : decode cX10_count 133 = .ok (.invokevirtual 190, 3) := by decide +kernel
theorem dX10_count_136 : decode cX10_count 136 = .ok (.ireturn, 1) := by decide +kernel
theorem dX10_bit_0 : decode cX10_bit 0 = .ok (.iload_n 1, 1) := by decide +kernel
theorem dX10_bit_1 : decode cX10_bit 1 = .ok (.ifCond .ge 5, 3) := by decide +kernel
theorem dX10_bit_4 : decode cX10_bit 4 = .ok (.iconst (-1), 1) := by decide +kernel
theorem dX10_bit_5 : decode cX10_bit 5 = .ok (.ireturn, 1) := by decide +kernel
theorem dX10_bit_6 : decode cX10_bit 6 = .ok (.aload_n 0, 1) := by decide +kernel
theorem dX10_bit_7 : decode cX10_bit 7 = .ok (.invokevirtual 180, 3) := by decide +kernel
theorem dX10_bit_10 : decode cX10_bit 10 = .ok (.iload_n 1, 1) := by decide +kernel
theorem dX10_bit_11 : decode cX10_bit 11 = .ok (.aload_n 0, 1) := by decide +kernel
theorem dX10_bit_12 : decode cX10_bit 12 = .ok (.getfield 65, 3) := by decide +kernel
theorem dX10_bit_15 : decode cX10_bit 15 = .ok (.if_icmp .ge 12, 3) := by decide +kernel
theorem dX10_bit_18 : decode cX10_bit 18 = .ok (.aload_n 0, 1) := by decide +kernel
theorem dX10_bit_19 : decode cX10_bit 19 = .ok (.getfield 32, 3) := by decide +kernel
theorem dX10_bit_22 : decode cX10_bit 22 = .ok (.iload_n 1, 1) := by decide +kernel
theorem dX10_bit_23 : decode cX10_bit 23 = .ok (.iaload, 1) := by decide +kernel
theorem dX10_bit_24 : decode cX10_bit 24 = .ok (.goto 5, 3) := by decide +kernel
theorem dX10_bit_27 : decode cX10_bit 27 = .ok (.bipush (-9), 2) := by decide +kernel
theorem dX10_bit_29 : decode cX10_bit 29 = .ok (.ireturn, 1) := by decide +kernel
theorem dX10_common_0 : decode cX10_common 0 = .ok (.lload_n 0, 1) := by decide +kernel
theorem dX10_common_1 : decode cX10_common 1 = .ok (.lstore 4, 2) := by decide +kernel
theorem dX10_common_3 : decode cX10_common 3 = .ok (.lload_n 2, 1) := by decide +kernel
theorem dX10_common_4 : decode cX10_common 4 = .ok (.lstore 6, 2) := by decide +kernel
theorem dX10_common_6 : decode cX10_common 6 = .ok (.lload 6, 2) := by decide +kernel
theorem dX10_common_8 : decode cX10_common 8 = .ok (.lconst 0, 1) := by decide +kernel
theorem dX10_common_9 : decode cX10_common 9 = .ok (.lcmp, 1) := by decide +kernel
theorem dX10_common_10 : decode cX10_common 10 = .ok (.ifCond .eq 21, 3) := by decide +kernel
theorem dX10_common_13 : decode cX10_common 13 = .ok (.lload 4, 2) := by decide +kernel
theorem dX10_common_15 : decode cX10_common 15 = .ok (.lload 6, 2) := by decide +kernel
theorem dX10_common_17 : decode cX10_common 17 = .ok (.lrem, 1) := by decide +kernel
theorem dX10_common_18 : decode cX10_common 18 = .ok (.lstore 8, 2) := by decide +kernel
theorem dX10_common_20 : decode cX10_common 20 = .ok (.lload 6, 2) := by decide +kernel
theorem dX10_common_22 : decode cX10_common 22 = .ok (.lstore 4, 2) := by decide +kernel
theorem dX10_common_24 : decode cX10_common 24 = .ok (.lload 8, 2) := by decide +kernel
theorem dX10_common_26 : decode cX10_common 26 = .ok (.lstore 6, 2) := by decide +kernel
theorem dX10_common_28 : decode cX10_common 28 = .ok (.goto (-22), 3) := by decide +kernel
theorem dX10_common_31 : decode cX10_common 31 = .ok (.lload 4, 2) := by decide +kernel
theorem dX10_common_33 : decode cX10_common 33 = .ok (.lreturn, 1) := by decide +kernel
theorem dX10_weighs_0 : decode cX10_weighs 0 = .ok (.aload_n 0, 1) := by decide +kernel
theorem dX10_weighs_1 : decode cX10_weighs 1 = .ok (.iconst 2, 1) := by decide +kernel
theorem dX10_weighs_2 : decode cX10_weighs 2 = .ok (.putfield 46, 3) := by decide +kernel
theorem dX10_weighs_5 : decode cX10_weighs 5 = .ok (.aload_n 0, 1) := by decide +kernel
theorem dX10_weighs_6 : decode cX10_weighs 6 = .ok (.lconst 1, 1) := by decide +kernel
theorem dX10_weighs_7 : decode cX10_weighs 7 = .ok (.putfield 90, 3) := by decide +kernel
theorem dX10_weighs_10 : decode cX10_weighs 10 = .ok (.aload_n 0, 1) := by decide +kernel
theorem dX10_weighs_11 : decode cX10_weighs 11 = .ok (.lconst 1, 1) := by decide +kernel
theorem dX10_weighs_12 : decode cX10_weighs 12 = .ok (.putfield 94, 3) := by decide +kernel
theorem dX10_weighs_15 : decode cX10_weighs 15 = .ok (.aload_n 0, 1) := by decide +kernel
theorem dX10_weighs_16 : decode cX10_weighs 16 = .ok (.iload_n 1, 1) := by decide +kernel
theorem dX10_weighs_17 : decode cX10_weighs 17 = .ok (.invokevirtual 155, 3) := by decide +kernel
theorem dX10_weighs_20 : decode cX10_weighs 20 = .ok (.istore_n 2, 1) := by decide +kernel
theorem dX10_weighs_21 : decode cX10_weighs 21 = .ok (.aload_n 0, 1) := by decide +kernel
theorem dX10_weighs_22 : decode cX10_weighs 22 = .ok (.getfield 90, 3) := by decide +kernel
theorem dX10_weighs_25 : decode cX10_weighs 25 = .ok (.aload_n 0, 1) := by decide +kernel
theorem dX10_weighs_26 : decode cX10_weighs 26 = .ok (.getfield 94, 3) := by decide +kernel
theorem dX10_weighs_29 : decode cX10_weighs 29 = .ok (.invokestatic 193, 3) := by decide +kernel
theorem dX10_weighs_32 : decode cX10_weighs 32 = .ok (.lstore_n 3, 1) := by decide +kernel
theorem dX10_weighs_33 : decode cX10_weighs 33 = .ok (.aload_n 0, 1) := by decide +kernel
theorem dX10_weighs_34 : decode cX10_weighs 34 = .ok (.dup, 1) := by decide +kernel
theorem dX10_weighs_35 : decode cX10_weighs 35 = .ok (.getfield 90, 3) := by decide +kernel
theorem dX10_weighs_38 : decode cX10_weighs 38 = .ok (.lload_n 3, 1) := by decide +kernel
theorem dX10_weighs_39 : decode cX10_weighs 39 = .ok (.ldiv, 1) := by decide +kernel
theorem dX10_weighs_40 : decode cX10_weighs 40 = .ok (.putfield 90, 3) := by decide +kernel
theorem dX10_weighs_43 : decode cX10_weighs 43 = .ok (.aload_n 0, 1) := by decide +kernel
theorem dX10_weighs_44 : decode cX10_weighs 44 = .ok (.dup, 1) := by decide +kernel
theorem dX10_weighs_45 : decode cX10_weighs 45 = .ok (.getfield 94, 3) := by decide +kernel
theorem dX10_weighs_48 : decode cX10_weighs 48 = .ok (.lload_n 3, 1) := by decide +kernel
theorem dX10_weighs_49 : decode cX10_weighs 49 = .ok (.ldiv, 1) := by decide +kernel
theorem dX10_weighs_50 : decode cX10_weighs 50 = .ok (.putfield 94, 3) := by decide +kernel
theorem dX10_weighs_53 : decode cX10_weighs 53 = .ok (.return_, 1) := by decide +kernel
theorem dX10_chance_0 : decode cX10_chance 0 = .ok (.iload_n 1, 1) := by decide +kernel
theorem dX10_chance_1 : decode cX10_chance 1 = .ok (.invokestatic 186, 3) := by decide +kernel
theorem dX10_chance_4 : decode cX10_chance 4 = .ok (.ifCond .eq 12, 3) := by decide +kernel
theorem dX10_chance_7 : decode cX10_chance 7 = .ok (.iload_n 2, 1) := by decide +kernel
theorem dX10_chance_8 : decode cX10_chance 8 = .ok (.iconst 0, 1) := by decide +kernel
theorem dX10_chance_9 : decode cX10_chance 9 = .ok (.iconst 1, 1) := by decide +kernel
theorem dX10_chance_10 : decode cX10_chance 10 = .ok (.invokestatic 164, 3) := by decide +kernel
theorem dX10_chance_13 : decode cX10_chance 13 = .ok (.ifCond .ne 5, 3) := by decide +kernel
theorem dX10_chance_16 : decode cX10_chance 16 = .ok (.iconst (-1), 1) := by decide +kernel
theorem dX10_chance_17 : decode cX10_chance 17 = .ok (.ireturn, 1) := by decide +kernel
theorem dX10_chance_18 : decode cX10_chance 18 = .ok (.aload_n 0, 1) := by decide +kernel
theorem dX10_chance_19 : decode cX10_chance 19 = .ok (.invokevirtual 180, 3) := by decide +kernel
theorem dX10_chance_22 : decode cX10_chance 22 = .ok (.aload_n 0, 1) := by decide +kernel
theorem dX10_chance_23 : decode cX10_chance 23 = .ok (.iload_n 1, 1) := by decide +kernel
theorem dX10_chance_24 : decode cX10_chance 24 = .ok (.invokevirtual 197, 3) := by decide +kernel
theorem dX10_chance_27 : decode cX10_chance 27 = .ok (.iload_n 2, 1) := by decide +kernel
theorem dX10_chance_28 : decode cX10_chance 28 = .ok (.ifCond .ne 10, 3) := by decide +kernel
theorem dX10_chance_31 : decode cX10_chance 31 = .ok (.aload_n 0, 1) := by decide +kernel
theorem dX10_chance_32 : decode cX10_chance 32 = .ok (.getfield 90, 3) := by decide +kernel
theorem dX10_chance_35 : decode cX10_chance 35 = .ok (.goto 7, 3) := by decide +kernel
theorem dX10_chance_38 : decode cX10_chance 38 = .ok (.aload_n 0, 1) := by decide +kernel
theorem dX10_chance_39 : decode cX10_chance 39 = .ok (.getfield 94, 3) := by decide +kernel
theorem dX10_chance_42 : decode cX10_chance 42 = .ok (.l2i, 1) := by decide +kernel
theorem dX10_chance_43 : decode cX10_chance 43 = .ok (.ireturn, 1) := by decide +kernel
theorem dX10_escapes_0 : decode cX10_escapes 0 = .ok (.iload_n 1, 1) := by decide +kernel
theorem dX10_escapes_1 : decode cX10_escapes 1 = .ok (.invokestatic 186, 3) := by decide +kernel
theorem dX10_escapes_4 : decode cX10_escapes 4 = .ok (.ifCond .eq 12, 3) := by decide +kernel
theorem dX10_escapes_7 : decode cX10_escapes 7 = .ok (.iload_n 2, 1) := by decide +kernel
theorem dX10_escapes_8 : decode cX10_escapes 8 = .ok (.iconst 0, 1) := by decide +kernel
theorem dX10_escapes_9 : decode cX10_escapes 9 = .ok (.iconst 1, 1) := by decide +kernel
theorem dX10_escapes_10 : decode cX10_escapes 10 = .ok (.invokestatic 164, 3) := by decide +kernel
theorem dX10_escapes_13 : decode cX10_escapes 13 = .ok (.ifCond .ne 6, 3) := by decide +kernel
theorem dX10_escapes_16 : decode cX10_escapes 16 = .ok (.bipush (-5), 2) := by decide +kernel
theorem dX10_escapes_18 : decode cX10_escapes 18 = .ok (.ireturn, 1) := by decide +kernel
theorem dX10_escapes_19 : decode cX10_escapes 19 = .ok (.aload_n 0, 1) := by decide +kernel
theorem dX10_escapes_20 : decode cX10_escapes 20 = .ok (.invokevirtual 180, 3) := by decide +kernel
theorem dX10_escapes_23 : decode cX10_escapes 23 = .ok (.aload_n 0, 1) := by decide +kernel
theorem dX10_escapes_24 : decode cX10_escapes 24 = .ok (.iload_n 1, 1) := by decide +kernel
theorem dX10_escapes_25 : decode cX10_escapes 25 = .ok (.invokevirtual 197, 3) := by decide +kernel
theorem dX10_escapes_28 : decode cX10_escapes 28 = .ok (.iload_n 2, 1) := by decide +kernel
theorem dX10_escapes_29 : decode cX10_escapes 29 = .ok (.ifCond .ne 10, 3) := by decide +kernel
theorem dX10_escapes_32 : decode cX10_escapes 32 = .ok (.aload_n 0, 1) := by decide +kernel
theorem dX10_escapes_33 : decode cX10_escapes 33 = .ok (.getfield 123, 3) := by decide +kernel
theorem dX10_escapes_36 : decode cX10_escapes 36 = .ok (.goto 7, 3) := by decide +kernel
theorem dX10_escapes_39 : decode cX10_escapes 39 = .ok (.aload_n 0, 1) := by decide +kernel
theorem dX10_escapes_40 : decode cX10_escapes 40 = .ok (.getfield 120, 3) := by decide +kernel
theorem dX10_escapes_43 : decode cX10_escapes 43 = .ok (.ireturn, 1) := by decide +kernel
theorem dX10_likeliest_0 : decode cX10_likeliest 0 = .ok (.aload_n 0, 1) := by decide +kernel
theorem dX10_likeliest_1 : decode cX10_likeliest 1 = .ok (.invokevirtual 180, 3) := by decide +kernel
theorem dX10_likeliest_4 : decode cX10_likeliest 4 = .ok (.iconst 0, 1) := by decide +kernel
theorem dX10_likeliest_5 : decode cX10_likeliest 5 = .ok (.istore_n 1, 1) := by decide +kernel
theorem dX10_likeliest_6 : decode cX10_likeliest 6 = .ok (.aload_n 0, 1) := by decide +kernel
theorem dX10_likeliest_7 : decode cX10_likeliest 7 = .ok (.iconst 0, 1) := by decide +kernel
theorem dX10_likeliest_8 : decode cX10_likeliest 8 = .ok (.invokevirtual 197, 3) := by decide +kernel
theorem dX10_likeliest_11 : decode cX10_likeliest 11 = .ok (.aload_n 0, 1) := by decide +kernel
theorem dX10_likeliest_12 : decode cX10_likeliest 12 = .ok (.getfield 90, 3) := by decide +kernel
theorem dX10_likeliest_15 : decode cX10_likeliest 15 = .ok (.lstore_n 2, 1) := by decide +kernel
theorem dX10_likeliest_16 : decode cX10_likeliest 16 = .ok (.aload_n 0, 1) := by decide +kernel
theorem dX10_likeliest_17 : decode cX10_likeliest 17 = .ok (.getfield 94, 3) := by decide +kernel
theorem dX10_likeliest_20 : decode cX10_likeliest 20 = .ok (.lstore 4, 2) := by decide +kernel
theorem dX10_likeliest_22 : decode cX10_likeliest 22 = .ok (.iconst 1, 1) := by decide +kernel
theorem dX10_likeliest_23 : decode cX10_likeliest 23 = .ok (.istore 6, 2) := by decide +kernel
theorem dX10_likeliest_25 : decode cX10_likeliest 25 = .ok (.iload 6, 2) := by decide +kernel
theorem dX10_likeliest_27 : decode cX10_likeliest 27 = .ok (.iconst 4, 1) := by decide +kernel
theorem dX10_likeliest_28 : decode cX10_likeliest 28 = .ok (.if_icmp .ge 46, 3) := by decide +kernel
theorem dX10_likeliest_31 : decode cX10_likeliest 31 = .ok (.aload_n 0, 1) := by decide +kernel
theorem dX10_likeliest_32 : decode cX10_likeliest 32 = .ok (.iload 6, 2) := by decide +kernel
theorem dX10_likeliest_34 : decode cX10_likeliest 34 = .ok (.invokevirtual 197, 3) := by decide +kernel
theorem dX10_likeliest_37 : decode cX10_likeliest 37 = .ok (.aload_n 0, 1) := by decide +kernel
theorem dX10_likeliest_38 : decode cX10_likeliest 38 = .ok (.getfield 90, 3) := by decide +kernel
theorem dX10_likeliest_41 : decode cX10_likeliest 41 = .ok (.lload 4, 2) := by decide +kernel
theorem dX10_likeliest_43 : decode cX10_likeliest 43 = .ok (.lmul, 1) := by decide +kernel
theorem dX10_likeliest_44 : decode cX10_likeliest 44 = .ok (.lload_n 2, 1) := by decide +kernel
theorem dX10_likeliest_45 : decode cX10_likeliest 45 = .ok (.aload_n 0, 1) := by decide +kernel
theorem dX10_likeliest_46 : decode cX10_likeliest 46 = .ok (.getfield 94, 3) := by decide +kernel
theorem dX10_likeliest_49 : decode cX10_likeliest 49 = .ok (.lmul, 1) := by decide +kernel
theorem dX10_likeliest_50 : decode cX10_likeliest 50 = .ok (.lcmp, 1) := by decide +kernel
theorem dX10_likeliest_51 : decode cX10_likeliest 51 = .ok (.ifCond .le 17, 3) := by decide +kernel
theorem dX10_likeliest_54 : decode cX10_likeliest 54 = .ok (.iload 6, 2) := by decide +kernel
theorem dX10_likeliest_56 : decode cX10_likeliest 56 = .ok (.istore_n 1, 1) := by decide +kernel
theorem dX10_likeliest_57 : decode cX10_likeliest 57 = .ok (.aload_n 0, 1) := by decide +kernel
theorem dX10_likeliest_58 : decode cX10_likeliest 58 = .ok (.getfield 90, 3) := by decide +kernel
theorem dX10_likeliest_61 : decode cX10_likeliest 61 = .ok (.lstore_n 2, 1) := by decide +kernel
theorem dX10_likeliest_62 : decode cX10_likeliest 62 = .ok (.aload_n 0, 1) := by decide +kernel
theorem dX10_likeliest_63 : decode cX10_likeliest 63 = .ok (.getfield 94, 3) := by decide +kernel
theorem dX10_likeliest_66 : decode cX10_likeliest 66 = .ok (.lstore 4, 2) := by decide +kernel
theorem dX10_likeliest_68 : decode cX10_likeliest 68 = .ok (.iinc 6 1, 3) := by decide +kernel
theorem dX10_likeliest_71 : decode cX10_likeliest 71 = .ok (.goto (-46), 3) := by decide +kernel
theorem dX10_likeliest_74 : decode cX10_likeliest 74 = .ok (.iload_n 1, 1) := by decide +kernel
theorem dX10_likeliest_75 : decode cX10_likeliest 75 = .ok (.ireturn, 1) := by decide +kernel
theorem dX10_length_0 : decode cX10_length 0 = .ok (.aload_n 0, 1) := by decide +kernel
theorem dX10_length_1 : decode cX10_length 1 = .ok (.invokevirtual 180, 3) := by decide +kernel
theorem dX10_length_4 : decode cX10_length 4 = .ok (.aload_n 0, 1) := by decide +kernel
theorem dX10_length_5 : decode cX10_length 5 = .ok (.invokevirtual 200, 3) := by decide +kernel
theorem dX10_length_8 : decode cX10_length 8 = .ok (.ireturn, 1) := by decide +kernel
theorem dX10_best_0 : decode cX10_best 0 = .ok (.iconst 0, 1) := by decide +kernel
theorem dX10_best_1 : decode cX10_best 1 = .ok (.istore_n 1, 1) := by decide +kernel
theorem dX10_best_2 : decode cX10_best 2 = .ok (.iconst 0, 1) := by decide +kernel
theorem dX10_best_3 : decode cX10_best 3 = .ok (.istore_n 2, 1) := by decide +kernel
theorem dX10_best_4 : decode cX10_best 4 = .ok (.iconst 0, 1) := by decide +kernel
theorem dX10_best_5 : decode cX10_best 5 = .ok (.istore_n 3, 1) := by decide +kernel
theorem dX10_best_6 : decode cX10_best 6 = .ok (.iload_n 3, 1) := by decide +kernel
theorem dX10_best_7 : decode cX10_best 7 = .ok (.iconst 4, 1) := by decide +kernel
theorem dX10_best_8 : decode cX10_best 8 = .ok (.if_icmp .ge 58, 3) := by decide +kernel
theorem dX10_best_11 : decode cX10_best 11 = .ok (.aload_n 0, 1) := by decide +kernel
theorem dX10_best_12 : decode cX10_best 12 = .ok (.iload_n 3, 1) := by decide +kernel
theorem dX10_best_13 : decode cX10_best 13 = .ok (.invokevirtual 161, 3) := by decide +kernel
theorem dX10_best_16 : decode cX10_best 16 = .ok (.iload_n 3, 1) := by decide +kernel
theorem dX10_best_17 : decode cX10_best 17 = .ok (.ifCond .eq 11, 3) := by decide +kernel
theorem dX10_best_20 : decode cX10_best 20 = .ok (.aload_n 0, 1) := by decide +kernel
theorem dX10_best_21 : decode cX10_best 21 = .ok (.invokevirtual 200, 3) := by decide +kernel
theorem dX10_best_24 : decode cX10_best 24 = .ok (.iload_n 2, 1) := by decide +kernel
theorem dX10_best_25 : decode cX10_best 25 = .ok (.if_icmp .ge 7, 3) := by decide +kernel
theorem dX10_best_28 : decode cX10_best 28 = .ok (.iconst 1, 1) := by decide +kernel
theorem dX10_best_29 : decode cX10_best 29 = .ok (.goto 4, 3) := by decide +kernel
theorem dX10_best_32 : decode cX10_best 32 = .ok (.iconst 0, 1) := by decide +kernel
theorem dX10_best_33 : decode cX10_best 33 = .ok (.istore 4, 2) := by decide +kernel
theorem dX10_best_35 : decode cX10_best 35 = .ok (.iload 4, 2) := by decide +kernel
theorem dX10_best_37 : decode cX10_best 37 = .ok (.ifCond .eq 7, 3) := by decide +kernel
theorem dX10_best_40 : decode cX10_best 40 = .ok (.iload_n 3, 1) := by decide +kernel
theorem dX10_best_41 : decode cX10_best 41 = .ok (.goto 4, 3) := by decide +kernel
theorem dX10_best_44 : decode cX10_best 44 = .ok (.iload_n 1, 1) := by decide +kernel
theorem dX10_best_45 : decode cX10_best 45 = .ok (.istore_n 1, 1) := by decide +kernel
theorem dX10_best_46 : decode cX10_best 46 = .ok (.iload 4, 2) := by decide +kernel
theorem dX10_best_48 : decode cX10_best 48 = .ok (.ifCond .eq 10, 3) := by decide +kernel
theorem dX10_best_51 : decode cX10_best 51 = .ok (.aload_n 0, 1) := by decide +kernel
theorem dX10_best_52 : decode cX10_best 52 = .ok (.invokevirtual 200, 3) := by decide +kernel
theorem dX10_best_55 : decode cX10_best 55 = .ok (.goto 4, 3) := by decide +kernel
theorem dX10_best_58 : decode cX10_best 58 = .ok (.iload_n 2, 1) := by decide +kernel
theorem dX10_best_59 : decode cX10_best 59 = .ok (.istore_n 2, 1) := by decide +kernel
theorem dX10_best_60 : decode cX10_best 60 = .ok (.iinc 3 1, 3) := by decide +kernel
theorem dX10_best_63 : decode cX10_best 63 = .ok (.goto (-57), 3) := by decide +kernel
theorem dX10_best_66 : decode cX10_best 66 = .ok (.iload_n 1, 1) := by decide +kernel
theorem dX10_best_67 : decode cX10_best 67 = .ok (.ireturn, 1) := by decide +kernel
theorem dX10_unpacked_0 : decode cX10_unpacked 0 = .ok (.iload_n 1, 1) := by decide +kernel
theorem dX10_unpacked_1 : decode cX10_unpacked 1 = .ok (.iconst 0, 1) := by decide +kernel
theorem dX10_unpacked_2 : decode cX10_unpacked 2 = .ok (.bipush 59, 2) := by decide +kernel
theorem dX10_unpacked_4 : decode cX10_unpacked 4 = .ok (.invokestatic 164, 3) := by decide +kernel
theorem dX10_unpacked_7 : decode cX10_unpacked 7 = .ok (.ifCond .ne 5, 3) := by decide +kernel
theorem dX10_unpacked_10 : decode cX10_unpacked 10 = .ok (.iconst (-1), 1) := by decide +kernel
theorem dX10_unpacked_11 : decode cX10_unpacked 11 = .ok (.ireturn, 1) := by decide +kernel
theorem dX10_unpacked_12 : decode cX10_unpacked 12 = .ok (.aload_n 0, 1) := by decide +kernel
theorem dX10_unpacked_13 : decode cX10_unpacked 13 = .ok (.bipush 48, 2) := by decide +kernel
theorem dX10_unpacked_15 : decode cX10_unpacked 15 = .ok (.bipush 49, 2) := by decide +kernel
theorem dX10_unpacked_17 : decode cX10_unpacked 17 = .ok (.invokevirtual 183, 3) := by decide +kernel
theorem dX10_unpacked_20 : decode cX10_unpacked 20 = .ok (.istore_n 2, 1) := by decide +kernel
theorem dX10_unpacked_21 : decode cX10_unpacked 21 = .ok (.iload_n 2, 1) := by decide +kernel
theorem dX10_unpacked_22 : decode cX10_unpacked 22 = .ok (.bipush (-9), 2) := by decide +kernel
theorem dX10_unpacked_24 : decode cX10_unpacked 24 = .ok (.if_icmp .eq 8, 3) := by decide +kernel
theorem dX10_unpacked_27 : decode cX10_unpacked 27 = .ok (.bipush (-10), 2) := by decide +kernel
theorem dX10_unpacked_29 : decode cX10_unpacked 29 = .ok (.iload_n 2, 1) := by decide +kernel
theorem dX10_unpacked_30 : decode cX10_unpacked 30 = .ok (.isub, 1) := by decide +kernel
theorem dX10_unpacked_31 : decode cX10_unpacked 31 = .ok (.ireturn, 1) := by decide +kernel
theorem dX10_unpacked_32 : decode cX10_unpacked 32 = .ok (.aload_n 0, 1) := by decide +kernel
theorem dX10_unpacked_33 : decode cX10_unpacked 33 = .ok (.aload_n 0, 1) := by decide +kernel
theorem dX10_unpacked_34 : decode cX10_unpacked 34 = .ok (.getfield 168, 3) := by decide +kernel
theorem dX10_unpacked_37 : decode cX10_unpacked 37 = .ok (.putfield 81, 3) := by decide +kernel
theorem dX10_unpacked_40 : decode cX10_unpacked 40 = .ok (.iconst 0, 1) := by decide +kernel
theorem dX10_unpacked_41 : decode cX10_unpacked 41 = .ok (.istore_n 3, 1) := by decide +kernel
theorem dX10_unpacked_42 : decode cX10_unpacked 42 = .ok (.iload_n 3, 1) := by decide +kernel
theorem dX10_unpacked_43 : decode cX10_unpacked 43 = .ok (.aload_n 0, 1) := by decide +kernel
theorem dX10_unpacked_44 : decode cX10_unpacked 44 = .ok (.getfield 168, 3) := by decide +kernel
theorem dX10_unpacked_47 : decode cX10_unpacked 47 = .ok (.if_icmp .ge 24, 3) := by decide +kernel
theorem dX10_unpacked_50 : decode cX10_unpacked 50 = .ok (.aload_n 0, 1) := by decide +kernel
theorem dX10_unpacked_51 : decode cX10_unpacked 51 = .ok (.getfield 35, 3) := by decide +kernel
theorem dX10_unpacked_54 : decode cX10_unpacked 54 = .ok (.iload_n 3, 1) := by decide +kernel
theorem dX10_unpacked_55 : decode cX10_unpacked 55 = .ok (.aload_n 0, 1) := by decide +kernel
theorem dX10_unpacked_56 : decode cX10_unpacked 56 = .ok (.getfield 23, 3) := by decide +kernel
theorem dX10_unpacked_59 : decode cX10_unpacked 59 = .ok (.iload_n 3, 1) := by decide +kernel
theorem dX10_unpacked_60 : decode cX10_unpacked 60 = .ok (.iaload, 1) := by decide +kernel
theorem dX10_unpacked_61 : decode cX10_unpacked 61 = .ok (.bipush 48, 2) := by decide +kernel
theorem dX10_unpacked_63 : decode cX10_unpacked 63 = .ok (.isub, 1) := by decide +kernel
theorem dX10_unpacked_64 : decode cX10_unpacked 64 = .ok (.iastore, 1) := by decide +kernel
theorem dX10_unpacked_65 : decode cX10_unpacked 65 = .ok (.iinc 3 1, 3) := by decide +kernel
theorem dX10_unpacked_68 : decode cX10_unpacked 68 = .ok (.goto (-26), 3) := by decide +kernel
theorem dX10_unpacked_71 : decode cX10_unpacked 71 = .ok (.aload_n 0, 1) := by decide +kernel
theorem dX10_unpacked_72 : decode cX10_unpacked 72 = .ok (.iload_n 1, 1) := by decide +kernel
theorem dX10_unpacked_73 : decode cX10_unpacked 73 = .ok (.iconst 1, 1) := by decide +kernel
theorem dX10_unpacked_74 : decode cX10_unpacked 74 = .ok (.iadd, 1) := by decide +kernel
theorem dX10_unpacked_75 : decode cX10_unpacked 75 = .ok (.invokevirtual 203, 3) := by decide +kernel
theorem dX10_unpacked_78 : decode cX10_unpacked 78 = .ok (.aload_n 0, 1) := by decide +kernel
theorem dX10_unpacked_79 : decode cX10_unpacked 79 = .ok (.getfield 26, 3) := by decide +kernel
theorem dX10_unpacked_82 : decode cX10_unpacked 82 = .ok (.iload_n 1, 1) := by decide +kernel
theorem dX10_unpacked_83 : decode cX10_unpacked 83 = .ok (.iaload, 1) := by decide +kernel
theorem dX10_unpacked_84 : decode cX10_unpacked 84 = .ok (.ireturn, 1) := by decide +kernel
theorem dX10_agrees_0 : decode cX10_agrees 0 = .ok (.aload_n 0, 1) := by decide +kernel
theorem dX10_agrees_1 : decode cX10_agrees 1 = .ok (.invokevirtual 180, 3) := by decide +kernel
theorem dX10_agrees_4 : decode cX10_agrees 4 = .ok (.aload_n 0, 1) := by decide +kernel
theorem dX10_agrees_5 : decode cX10_agrees 5 = .ok (.dup, 1) := by decide +kernel
theorem dX10_agrees_6 : decode cX10_agrees 6 = .ok (.getfield 62, 3) := by decide +kernel
theorem dX10_agrees_9 : decode cX10_agrees 9 = .ok (.iconst 1, 1) := by decide +kernel
theorem dX10_agrees_10 : decode cX10_agrees 10 = .ok (.iadd, 1) := by decide +kernel
theorem dX10_agrees_11 : decode cX10_agrees 11 = .ok (.putfield 62, 3) := by decide +kernel
theorem dX10_agrees_14 : decode cX10_agrees 14 = .ok (.aload_n 0, 1) := by decide +kernel
theorem dX10_agrees_15 : decode cX10_agrees 15 = .ok (.aload_n 0, 1) := by decide +kernel
theorem dX10_agrees_16 : decode cX10_agrees 16 = .ok (.getfield 55, 3) := by decide +kernel
theorem dX10_agrees_19 : decode cX10_agrees 19 = .ok (.sipush 16384, 3) := by decide +kernel
theorem dX10_agrees_22 : decode cX10_agrees 22 = .ok (.if_icmp .ge 7, 3) := by decide +kernel
theorem dX10_agrees_25 : decode cX10_agrees 25 = .ok (.iconst 0, 1) := by decide +kernel
theorem dX10_agrees_26 : decode cX10_agrees 26 = .ok (.goto 4, 3) := by decide +kernel
theorem dX10_agrees_29 : decode cX10_agrees 29 = .ok (.iconst 1, 1) := by decide +kernel
theorem dX10_agrees_30 : decode cX10_agrees 30 = .ok (.invokevirtual 86, 3) := by decide +kernel
theorem dX10_agrees_33 : decode cX10_agrees 33 = .ok (.aload_n 0, 1) := by decide +kernel
theorem dX10_agrees_34 : decode cX10_agrees 34 = .ok (.aload_n 0, 1) := by decide +kernel
theorem dX10_agrees_35 : decode cX10_agrees 35 = .ok (.getfield 65, 3) := by decide +kernel
theorem dX10_agrees_38 : decode cX10_agrees 38 = .ok (.putfield 81, 3) := by decide +kernel
theorem dX10_agrees_41 : decode cX10_agrees 41 = .ok (.iconst 0, 1) := by decide +kernel
theorem dX10_agrees_42 : decode cX10_agrees 42 = .ok (.istore_n 1, 1) := by decide +kernel
theorem dX10_agrees_43 : decode cX10_agrees 43 = .ok (.iload_n 1, 1) := by decide +kernel
theorem dX10_agrees_44 : decode cX10_agrees 44 = .ok (.aload_n 0, 1) := by decide +kernel
theorem dX10_agrees_45 : decode cX10_agrees 45 = .ok (.getfield 65, 3) := by decide +kernel
theorem dX10_agrees_48 : decode cX10_agrees 48 = .ok (.if_icmp .ge 21, 3) := by decide +kernel
theorem dX10_agrees_51 : decode cX10_agrees 51 = .ok (.aload_n 0, 1) := by decide +kernel
theorem dX10_agrees_52 : decode cX10_agrees 52 = .ok (.getfield 35, 3) := by decide +kernel
theorem dX10_agrees_55 : decode cX10_agrees 55 = .ok (.iload_n 1, 1) := by decide +kernel
theorem dX10_agrees_56 : decode cX10_agrees 56 = .ok (.aload_n 0, 1) := by decide +kernel
theorem dX10_agrees_57 : decode cX10_agrees 57 = .ok (.getfield 32, 3) := by decide +kernel
theorem dX10_agrees_60 : decode cX10_agrees 60 = .ok (.iload_n 1, 1) := by decide +kernel
theorem dX10_agrees_61 : decode cX10_agrees 61 = .ok (.iaload, 1) := by decide +kernel
theorem dX10_agrees_62 : decode cX10_agrees 62 = .ok (.iastore, 1) := by decide +kernel
theorem dX10_agrees_63 : decode cX10_agrees 63 = .ok (.iinc 1 1, 3) := by decide +kernel
theorem dX10_agrees_66 : decode cX10_agrees 66 = .ok (.goto (-23), 3) := by decide +kernel
theorem dX10_agrees_69 : decode cX10_agrees 69 = .ok (.aload_n 0, 1) := by decide +kernel
theorem dX10_agrees_70 : decode cX10_agrees 70 = .ok (.aload_n 0, 1) := by decide +kernel
theorem dX10_agrees_71 : decode cX10_agrees 71 = .ok (.getfield 7, 3) := by decide +kernel
theorem dX10_agrees_74 : decode cX10_agrees 74 = .ok (.iconst 4, 1) := by decide +kernel
theorem dX10_agrees_75 : decode cX10_agrees 75 = .ok (.iaload, 1) := by decide +kernel
theorem dX10_agrees_76 : decode cX10_agrees 76 = .ok (.invokevirtual 203, 3) := by decide +kernel
theorem dX10_agrees_79 : decode cX10_agrees 79 = .ok (.iconst 0, 1) := by decide +kernel
theorem dX10_agrees_80 : decode cX10_agrees 80 = .ok (.istore_n 1, 1) := by decide +kernel
theorem dX10_agrees_81 : decode cX10_agrees 81 = .ok (.iload_n 1, 1) := by decide +kernel
theorem dX10_agrees_82 : decode cX10_agrees 82 = .ok (.aload_n 0, 1) := by decide +kernel
theorem dX10_agrees_83 : decode cX10_agrees 83 = .ok (.getfield 7, 3) := by decide +kernel
theorem dX10_agrees_86 : decode cX10_agrees 86 = .ok (.iconst 4, 1) := by decide +kernel
theorem dX10_agrees_87 : decode cX10_agrees 87 = .ok (.iaload, 1) := by decide +kernel
theorem dX10_agrees_88 : decode cX10_agrees 88 = .ok (.if_icmp .ge 26, 3) := by decide +kernel
theorem dX10_agrees_91 : decode cX10_agrees 91 = .ok (.aload_n 0, 1) := by decide +kernel
theorem dX10_agrees_92 : decode cX10_agrees 92 = .ok (.getfield 26, 3) := by decide +kernel
theorem dX10_agrees_95 : decode cX10_agrees 95 = .ok (.iload_n 1, 1) := by decide +kernel
theorem dX10_agrees_96 : decode cX10_agrees 96 = .ok (.iaload, 1) := by decide +kernel
theorem dX10_agrees_97 : decode cX10_agrees 97 = .ok (.aload_n 0, 1) := by decide +kernel
theorem dX10_agrees_98 : decode cX10_agrees 98 = .ok (.getfield 7, 3) := by decide +kernel
theorem dX10_agrees_101 : decode cX10_agrees 101 = .ok (.iconst 5, 1) := by decide +kernel
theorem dX10_agrees_102 : decode cX10_agrees 102 = .ok (.iload_n 1, 1) := by decide +kernel
theorem dX10_agrees_103 : decode cX10_agrees 103 = .ok (.iadd, 1) := by decide +kernel
theorem dX10_agrees_104 : decode cX10_agrees 104 = .ok (.iaload, 1) := by decide +kernel
theorem dX10_agrees_105 : decode cX10_agrees 105 = .ok (.if_icmp .ne 9, 3) := by decide +kernel
theorem dX10_agrees_108 : decode cX10_agrees 108 = .ok (.iinc 1 1, 3) := by decide +kernel
theorem dX10_agrees_111 : decode cX10_agrees 111 = .ok (.goto (-30), 3) := by decide +kernel
theorem dX10_agrees_114 : decode cX10_agrees 114 = .ok (.iload_n 1, 1) := by decide +kernel
theorem dX10_agrees_115 : decode cX10_agrees 115 = .ok (.ireturn, 1) := by decide +kernel
theorem dX10_keep_0 : decode cX10_keep 0 = .ok (.iload_n 1, 1) := by decide +kernel
theorem dX10_keep_1 : decode cX10_keep 1 = .ok (.iconst 0, 1) := by decide +kernel
theorem dX10_keep_2 : decode cX10_keep 2 = .ok (.iconst 1, 1) := by decide +kernel
theorem dX10_keep_3 : decode cX10_keep 3 = .ok (.invokestatic 164, 3) := by decide +kernel
theorem dX10_keep_6 : decode cX10_keep 6 = .ok (.ifCond .ne 5, 3) := by decide +kernel
theorem dX10_keep_9 : decode cX10_keep 9 = .ok (.iconst (-1), 1) := by decide +kernel
theorem dX10_keep_10 : decode cX10_keep 10 = .ok (.ireturn, 1) := by decide +kernel
theorem dX10_keep_11 : decode cX10_keep 11 = .ok (.iconst 0, 1) := by decide +kernel
theorem dX10_keep_12 : decode cX10_keep 12 = .ok (.istore_n 2, 1) := by decide +kernel
theorem dX10_keep_13 : decode cX10_keep 13 = .ok (.iload_n 2, 1) := by decide +kernel
theorem dX10_keep_14 : decode cX10_keep 14 = .ok (.bipush 65, 2) := by decide +kernel
theorem dX10_keep_16 : decode cX10_keep 16 = .ok (.if_icmp .ge 26, 3) := by decide +kernel
theorem dX10_keep_19 : decode cX10_keep 19 = .ok (.aload_n 0, 1) := by decide +kernel
theorem dX10_keep_20 : decode cX10_keep 20 = .ok (.getfield 16, 3) := by decide +kernel
theorem dX10_keep_23 : decode cX10_keep 23 = .ok (.bipush 65, 2) := by decide +kernel
theorem dX10_keep_25 : decode cX10_keep 25 = .ok (.iload_n 1, 1) := by decide +kernel
theorem dX10_keep_26 : decode cX10_keep 26 = .ok (.imul, 1) := by decide +kernel
theorem dX10_keep_27 : decode cX10_keep 27 = .ok (.iload_n 2, 1) := by decide +kernel
theorem dX10_keep_28 : decode cX10_keep 28 = .ok (.iadd, 1) := by decide +kernel
theorem dX10_keep_29 : decode cX10_keep 29 = .ok (.aload_n 0, 1) := by decide +kernel
theorem dX10_keep_30 : decode cX10_keep 30 = .ok (.getfield 7, 3) := by decide +kernel
theorem dX10_keep_33 : decode cX10_keep 33 = .ok (.iload_n 2, 1) := by decide +kernel
theorem dX10_keep_34 : decode cX10_keep 34 = .ok (.iaload, 1) := by decide +kernel
theorem dX10_keep_35 : decode cX10_keep 35 = .ok (.iastore, 1) := by decide +kernel
theorem dX10_keep_36 : decode cX10_keep 36 = .ok (.iinc 2 1, 3) := by decide +kernel
theorem dX10_keep_39 : decode cX10_keep 39 = .ok (.goto (-26), 3) := by decide +kernel
theorem dX10_keep_42 : decode cX10_keep 42 = .ok (.aload_n 0, 1) := by decide +kernel
theorem dX10_keep_43 : decode cX10_keep 43 = .ok (.getfield 19, 3) := by decide +kernel
theorem dX10_keep_46 : decode cX10_keep 46 = .ok (.iload_n 1, 1) := by decide +kernel
theorem dX10_keep_47 : decode cX10_keep 47 = .ok (.iconst 1, 1) := by decide +kernel
theorem dX10_keep_48 : decode cX10_keep 48 = .ok (.bastore, 1) := by decide +kernel
theorem dX10_keep_49 : decode cX10_keep 49 = .ok (.aload_n 0, 1) := by decide +kernel
theorem dX10_keep_50 : decode cX10_keep 50 = .ok (.getfield 7, 3) := by decide +kernel
theorem dX10_keep_53 : decode cX10_keep 53 = .ok (.iconst 4, 1) := by decide +kernel
theorem dX10_keep_54 : decode cX10_keep 54 = .ok (.iaload, 1) := by decide +kernel
theorem dX10_keep_55 : decode cX10_keep 55 = .ok (.ireturn, 1) := by decide +kernel
theorem dX10_back_0 : decode cX10_back 0 = .ok (.iload_n 1, 1) := by decide +kernel
theorem dX10_back_1 : decode cX10_back 1 = .ok (.iconst 0, 1) := by decide +kernel
theorem dX10_back_2 : decode cX10_back 2 = .ok (.iconst 1, 1) := by decide +kernel
theorem dX10_back_3 : decode cX10_back 3 = .ok (.invokestatic 164, 3) := by decide +kernel
theorem dX10_back_6 : decode cX10_back 6 = .ok (.ifCond .ne 5, 3) := by decide +kernel
theorem dX10_back_9 : decode cX10_back 9 = .ok (.iconst (-1), 1) := by decide +kernel
theorem dX10_back_10 : decode cX10_back 10 = .ok (.ireturn, 1) := by decide +kernel
theorem dX10_back_11 : decode cX10_back 11 = .ok (.aload_n 0, 1) := by decide +kernel
theorem dX10_back_12 : decode cX10_back 12 = .ok (.getfield 19, 3) := by decide +kernel
theorem dX10_back_15 : decode cX10_back 15 = .ok (.iload_n 1, 1) := by decide +kernel
theorem dX10_back_16 : decode cX10_back 16 = .ok (.baload, 1) := by decide +kernel
theorem dX10_back_17 : decode cX10_back 17 = .ok (.ifCond .ne 6, 3) := by decide +kernel
theorem dX10_back_20 : decode cX10_back 20 = .ok (.bipush (-2), 2) := by decide +kernel
theorem dX10_back_22 : decode cX10_back 22 = .ok (.ireturn, 1) := by decide +kernel
theorem dX10_back_23 : decode cX10_back 23 = .ok (.iconst 0, 1) := by decide +kernel
theorem dX10_back_24 : decode cX10_back 24 = .ok (.istore_n 2, 1) := by decide +kernel
theorem dX10_back_25 : decode cX10_back 25 = .ok (.iload_n 2, 1) := by decide +kernel
theorem dX10_back_26 : decode cX10_back 26 = .ok (.bipush 65, 2) := by decide +kernel
theorem dX10_back_28 : decode cX10_back 28 = .ok (.if_icmp .ge 26, 3) := by decide +kernel
theorem dX10_back_31 : decode cX10_back 31 = .ok (.aload_n 0, 1) := by decide +kernel
theorem dX10_back_32 : decode cX10_back 32 = .ok (.getfield 7, 3) := by decide +kernel
theorem dX10_back_35 : decode cX10_back 35 = .ok (.iload_n 2, 1) := by decide +kernel
theorem dX10_back_36 : decode cX10_back 36 = .ok (.aload_n 0, 1) := by decide +kernel
theorem dX10_back_37 : decode cX10_back 37 = .ok (.getfield 16, 3) := by decide +kernel
theorem dX10_back_40 : decode cX10_back 40 = .ok (.bipush 65, 2) := by decide +kernel
theorem dX10_back_42 : decode cX10_back 42 = .ok (.iload_n 1, 1) := by decide +kernel
theorem dX10_back_43 : decode cX10_back 43 = .ok (.imul, 1) := by decide +kernel
theorem dX10_back_44 : decode cX10_back 44 = .ok (.iload_n 2, 1) := by decide +kernel
theorem dX10_back_45 : decode cX10_back 45 = .ok (.iadd, 1) := by decide +kernel
theorem dX10_back_46 : decode cX10_back 46 = .ok (.iaload, 1) := by decide +kernel
theorem dX10_back_47 : decode cX10_back 47 = .ok (.iastore, 1) := by decide +kernel
theorem dX10_back_48 : decode cX10_back 48 = .ok (.iinc 2 1, 3) := by decide +kernel
theorem dX10_back_51 : decode cX10_back 51 = .ok (.goto (-26), 3) := by decide +kernel
theorem dX10_back_54 : decode cX10_back 54 = .ok (.aload_n 0, 1) := by decide +kernel
theorem dX10_back_55 : decode cX10_back 55 = .ok (.iconst 0, 1) := by decide +kernel
theorem dX10_back_56 : decode cX10_back 56 = .ok (.putfield 171, 3) := by decide +kernel
theorem dX10_back_59 : decode cX10_back 59 = .ok (.aload_n 0, 1) := by decide +kernel
theorem dX10_back_60 : decode cX10_back 60 = .ok (.getfield 7, 3) := by decide +kernel
theorem dX10_back_63 : decode cX10_back 63 = .ok (.iconst 4, 1) := by decide +kernel
theorem dX10_back_64 : decode cX10_back 64 = .ok (.iaload, 1) := by decide +kernel
theorem dX10_back_65 : decode cX10_back 65 = .ok (.ireturn, 1) := by decide +kernel
theorem dX10_tellNow_0 : decode cX10_tellNow 0 = .ok (.aload_n 0, 1) := by decide +kernel
theorem dX10_tellNow_1 : decode cX10_tellNow 1 = .ok (.invokevirtual 180, 3) := by decide +kernel
theorem dX10_tellNow_4 : decode cX10_tellNow 4 = .ok (.iload_n 1, 1) := by decide +kernel
theorem dX10_tellNow_5 : decode cX10_tellNow 5 = .ok (.tableswitch 60 1 5 #[35, 40, 45, 50, 55], 35) := by decide +kernel
theorem dX10_tellNow_40 : decode cX10_tellNow 40 = .ok (.aload_n 0, 1) := by decide +kernel
theorem dX10_tellNow_41 : decode cX10_tellNow 41 = .ok (.invokevirtual 146, 3) := by decide +kernel
theorem dX10_tellNow_44 : decode cX10_tellNow 44 = .ok (.ireturn, 1) := by decide +kernel
theorem dX10_tellNow_45 : decode cX10_tellNow 45 = .ok (.aload_n 0, 1) := by decide +kernel
theorem dX10_tellNow_46 : decode cX10_tellNow 46 = .ok (.getfield 52, 3) := by decide +kernel
theorem dX10_tellNow_49 : decode cX10_tellNow 49 = .ok (.ireturn, 1) := by decide +kernel
theorem dX10_tellNow_50 : decode cX10_tellNow 50 = .ok (.aload_n 0, 1) := by decide +kernel
theorem dX10_tellNow_51 : decode cX10_tellNow 51 = .ok (.getfield 65, 3) := by decide +kernel
theorem dX10_tellNow_54 : decode cX10_tellNow 54 = .ok (.ireturn, 1) := by decide +kernel
theorem dX10_tellNow_55 : decode cX10_tellNow 55 = .ok (.aload_n 0, 1) := by decide +kernel
theorem dX10_tellNow_56 : decode cX10_tellNow 56 = .ok (.getfield 62, 3) := by decide +kernel
theorem dX10_tellNow_59 : decode cX10_tellNow 59 = .ok (.ireturn, 1) := by decide +kernel
theorem dX10_tellNow_60 : decode cX10_tellNow 60 = .ok (.aload_n 0, 1) := by decide +kernel
theorem dX10_tellNow_61 : decode cX10_tellNow 61 = .ok (.getfield 55, 3) := by decide +kernel
theorem dX10_tellNow_64 : decode cX10_tellNow 64 = .ok (.ireturn, 1) := by decide +kernel
theorem dX10_tellNow_65 : decode cX10_tellNow 65 = .ok (.aload_n 0, 1) := by decide +kernel
theorem dX10_tellNow_66 : decode cX10_tellNow 66 = .ok (.getfield 59, 3) := by decide +kernel
theorem dX10_tellNow_69 : decode cX10_tellNow 69 = .ok (.ireturn, 1) := by decide +kernel
theorem dX10_told_0 : decode cX10_told 0 = .ok (.iload_n 1, 1) := by decide +kernel
theorem dX10_told_1 : decode cX10_told 1 = .ok (.iconst 1, 1) := by decide +kernel
theorem dX10_told_2 : decode cX10_told 2 = .ok (.bipush 6, 2) := by decide +kernel
theorem dX10_told_4 : decode cX10_told 4 = .ok (.invokestatic 164, 3) := by decide +kernel
theorem dX10_told_7 : decode cX10_told 7 = .ok (.ifCond .eq 9, 3) := by decide +kernel
theorem dX10_told_10 : decode cX10_told 10 = .ok (.aload_n 0, 1) := by decide +kernel
theorem dX10_told_11 : decode cX10_told 11 = .ok (.iload_n 1, 1) := by decide +kernel
theorem dX10_told_12 : decode cX10_told 12 = .ok (.invokevirtual 206, 3) := by decide +kernel
theorem dX10_told_15 : decode cX10_told 15 = .ok (.ireturn, 1) := by decide +kernel
theorem dX10_told_16 : decode cX10_told 16 = .ok (.iload_n 1, 1) := by decide +kernel
theorem dX10_told_17 : decode cX10_told 17 = .ok (.bipush 7, 2) := by decide +kernel
theorem dX10_told_19 : decode cX10_told 19 = .ok (.bipush 10, 2) := by decide +kernel
theorem dX10_told_21 : decode cX10_told 21 = .ok (.invokestatic 164, 3) := by decide +kernel
theorem dX10_told_24 : decode cX10_told 24 = .ok (.ifCond .eq 13, 3) := by decide +kernel
theorem dX10_told_27 : decode cX10_told 27 = .ok (.aload_n 0, 1) := by decide +kernel
theorem dX10_told_28 : decode cX10_told 28 = .ok (.getfield 7, 3) := by decide +kernel
theorem dX10_told_31 : decode cX10_told 31 = .ok (.iload_n 1, 1) := by decide +kernel
theorem dX10_told_32 : decode cX10_told 32 = .ok (.bipush 7, 2) := by decide +kernel
theorem dX10_told_34 : decode cX10_told 34 = .ok (.isub, 1) := by decide +kernel
theorem dX10_told_35 : decode cX10_told 35 = .ok (.iaload, 1) := by decide +kernel
theorem dX10_told_36 : decode cX10_told 36 = .ok (.ireturn, 1) := by decide +kernel
theorem dX10_told_37 : decode cX10_told 37 = .ok (.iload_n 1, 1) := by decide +kernel
theorem dX10_told_38 : decode cX10_told 38 = .ok (.ifCond .ne 12, 3) := by decide +kernel
theorem dX10_told_41 : decode cX10_told 41 = .ok (.aload_n 0, 1) := by decide +kernel
theorem dX10_told_42 : decode cX10_told 42 = .ok (.getfield 7, 3) := by decide +kernel
theorem dX10_told_45 : decode cX10_told 45 = .ok (.iconst 4, 1) := by decide +kernel
theorem dX10_told_46 : decode cX10_told 46 = .ok (.iaload, 1) := by decide +kernel
theorem dX10_told_47 : decode cX10_told 47 = .ok (.goto 30, 3) := by decide +kernel
theorem dX10_told_50 : decode cX10_told 50 = .ok (.iload_n 1, 1) := by decide +kernel
theorem dX10_told_51 : decode cX10_told 51 = .ok (.bipush 11, 2) := by decide +kernel
theorem dX10_told_53 : decode cX10_told 53 = .ok (.if_icmp .ne 10, 3) := by decide +kernel
theorem dX10_told_56 : decode cX10_told 56 = .ok (.aload_n 0, 1) := by decide +kernel
theorem dX10_told_57 : decode cX10_told 57 = .ok (.getfield 168, 3) := by decide +kernel
theorem dX10_told_60 : decode cX10_told 60 = .ok (.goto 17, 3) := by decide +kernel
theorem dX10_told_63 : decode cX10_told 63 = .ok (.iload_n 1, 1) := by decide +kernel
theorem dX10_told_64 : decode cX10_told 64 = .ok (.bipush 12, 2) := by decide +kernel
theorem dX10_told_66 : decode cX10_told 66 = .ok (.if_icmp .ne 10, 3) := by decide +kernel
theorem dX10_told_69 : decode cX10_told 69 = .ok (.aload_n 0, 1) := by decide +kernel
theorem dX10_told_70 : decode cX10_told 70 = .ok (.getfield 171, 3) := by decide +kernel
theorem dX10_told_73 : decode cX10_told 73 = .ok (.goto 4, 3) := by decide +kernel
theorem dX10_told_76 : decode cX10_told 76 = .ok (.iconst (-1), 1) := by decide +kernel
theorem dX10_told_77 : decode cX10_told 77 = .ok (.ireturn, 1) := by decide +kernel
end
section
theorem dL_law_0 : decode cL_law 0 = .ok (.new 7, 3) := by decide +kernel
theorem dL_law_3 : decode cL_law 3 = .ok (.dup, 1) := by decide +kernel
theorem dL_law_4 : decode cL_law 4 = .ok (.invokespecial 9, 3) := by decide +kernel
theorem dL_law_7 : decode cL_law 7 = .ok (.astore_n 1, 1) := by decide +kernel
theorem dL_law_8 : decode cL_law 8 = .ok (.new 10, 3) := by decide +kernel
theorem dL_law_11 : decode cL_law 11 = .ok (.dup, 1) := by decide +kernel
theorem dL_law_12 : decode cL_law 12 = .ok (.invokespecial 12, 3) := by decide +kernel
theorem dL_law_15 : decode cL_law 15 = .ok (.astore_n 2, 1) := by decide +kernel
theorem dL_law_16 : decode cL_law 16 = .ok (.iconst 0, 1) := by decide +kernel
theorem dL_law_17 : decode cL_law 17 = .ok (.istore_n 3, 1) := by decide +kernel
theorem dL_law_18 : decode cL_law 18 = .ok (.iload_n 3, 1) := by decide +kernel
theorem dL_law_19 : decode cL_law 19 = .ok (.aload_n 0, 1) := by decide +kernel
theorem dL_law_20 : decode cL_law 20 = .ok (.arraylength, 1) := by decide +kernel
theorem dL_law_21 : decode cL_law 21 = .ok (.bipush 6, 2) := by decide +kernel
theorem dL_law_23 : decode cL_law 23 = .ok (.isub, 1) := by decide +kernel
theorem dL_law_24 : decode cL_law 24 = .ok (.if_icmp .gt 590, 3) := by decide +kernel
theorem dL_law_27 : decode cL_law 27 = .ok (.aload_n 0, 1) := by decide +kernel
theorem dL_law_28 : decode cL_law 28 = .ok (.iload_n 3, 1) := by decide +kernel
theorem dL_law_29 : decode cL_law 29 = .ok (.iaload, 1) := by decide +kernel
theorem dL_law_30 : decode cL_law 30 = .ok (.bipush 31, 2) := by decide +kernel
theorem dL_law_32 : decode cL_law 32 = .ok (.iand, 1) := by decide +kernel
theorem dL_law_33 : decode cL_law 33 = .ok (.tableswitch 575 0 19 #[95, 118, 131, 184, 207, 220, 243, 256, 279, 342, 365, 398, 431, 444, 457, 470, 493, 506, 529, 552], 95) := by decide +kernel
theorem dL_law_128 : decode cL_law 128 = .ok (.aload_n 1, 1) := by decide +kernel
theorem dL_law_129 : decode cL_law 129 = .ok (.aload_n 0, 1) := by decide +kernel
theorem dL_law_130 : decode cL_law 130 = .ok (.iload_n 3, 1) := by decide +kernel
theorem dL_law_131 : decode cL_law 131 = .ok (.iconst 1, 1) := by decide +kernel
theorem dL_law_132 : decode cL_law 132 = .ok (.iadd, 1) := by decide +kernel
theorem dL_law_133 : decode cL_law 133 = .ok (.iaload, 1) := by decide +kernel
theorem dL_law_134 : decode cL_law 134 = .ok (.invokevirtual 13, 3) := by decide +kernel
theorem dL_law_137 : decode cL_law 137 = .ok (.aload_n 2, 1) := by decide +kernel
theorem dL_law_138 : decode cL_law 138 = .ok (.aload_n 0, 1) := by decide +kernel
theorem dL_law_139 : decode cL_law 139 = .ok (.iload_n 3, 1) := by decide +kernel
theorem dL_law_140 : decode cL_law 140 = .ok (.iconst 1, 1) := by decide +kernel
theorem dL_law_141 : decode cL_law 141 = .ok (.iadd, 1) := by decide +kernel
theorem dL_law_142 : decode cL_law 142 = .ok (.iaload, 1) := by decide +kernel
theorem dL_law_143 : decode cL_law 143 = .ok (.invokevirtual 17, 3) := by decide +kernel
theorem dL_law_146 : decode cL_law 146 = .ok (.if_icmp .eq 462, 3) := by decide +kernel
theorem dL_law_149 : decode cL_law 149 = .ok (.iconst 0, 1) := by decide +kernel
theorem dL_law_150 : decode cL_law 150 = .ok (.ireturn, 1) := by decide +kernel
theorem dL_law_151 : decode cL_law 151 = .ok (.aload_n 1, 1) := by decide +kernel
theorem dL_law_152 : decode cL_law 152 = .ok (.invokevirtual 18, 3) := by decide +kernel
theorem dL_law_155 : decode cL_law 155 = .ok (.aload_n 2, 1) := by decide +kernel
theorem dL_law_156 : decode cL_law 156 = .ok (.invokevirtual 22, 3) := by decide +kernel
theorem dL_law_159 : decode cL_law 159 = .ok (.if_icmp .eq 449, 3) := by decide +kernel
theorem dL_law_162 : decode cL_law 162 = .ok (.iconst 0, 1) := by decide +kernel
theorem dL_law_163 : decode cL_law 163 = .ok (.ireturn, 1) := by decide +kernel
theorem dL_law_164 : decode cL_law 164 = .ok (.aload_n 1, 1) := by decide +kernel
theorem dL_law_165 : decode cL_law 165 = .ok (.aload_n 0, 1) := by decide +kernel
theorem dL_law_166 : decode cL_law 166 = .ok (.iload_n 3, 1) := by decide +kernel
theorem dL_law_167 : decode cL_law 167 = .ok (.iconst 1, 1) := by decide +kernel
theorem dL_law_168 : decode cL_law 168 = .ok (.iadd, 1) := by decide +kernel
theorem dL_law_169 : decode cL_law 169 = .ok (.iaload, 1) := by decide +kernel
theorem dL_law_170 : decode cL_law 170 = .ok (.aload_n 0, 1) := by decide +kernel
theorem dL_law_171 : decode cL_law 171 = .ok (.iload_n 3, 1) := by decide +kernel
theorem dL_law_172 : decode cL_law 172 = .ok (.iconst 2, 1) := by decide +kernel
theorem dL_law_173 : decode cL_law 173 = .ok (.iadd, 1) := by decide +kernel
theorem dL_law_174 : decode cL_law 174 = .ok (.iaload, 1) := by decide +kernel
theorem dL_law_175 : decode cL_law 175 = .ok (.aload_n 0, 1) := by decide +kernel
theorem dL_law_176 : decode cL_law 176 = .ok (.iload_n 3, 1) := by decide +kernel
theorem dL_law_177 : decode cL_law 177 = .ok (.iconst 3, 1) := by decide +kernel
theorem dL_law_178 : decode cL_law 178 = .ok (.iadd, 1) := by decide +kernel
theorem dL_law_179 : decode cL_law 179 = .ok (.iaload, 1) := by decide +kernel
theorem dL_law_180 : decode cL_law 180 = .ok (.aload_n 0, 1) := by decide +kernel
theorem dL_law_181 : decode cL_law 181 = .ok (.iload_n 3, 1) := by decide +kernel
theorem dL_law_182 : decode cL_law 182 = .ok (.iconst 4, 1) := by decide +kernel
theorem dL_law_183 : decode cL_law 183 = .ok (.iadd, 1) := by decide +kernel
theorem dL_law_184 : decode cL_law 184 = .ok (.iaload, 1) := by decide +kernel
theorem dL_law_185 : decode cL_law 185 = .ok (.invokevirtual 23, 3) := by decide +kernel
theorem dL_law_188 : decode cL_law 188 = .ok (.aload_n 2, 1) := by decide +kernel
theorem dL_law_189 : decode cL_law 189 = .ok (.aload_n 0, 1) := by decide +kernel
theorem dL_law_190 : decode cL_law 190 = .ok (.iload_n 3, 1) := by decide +kernel
theorem dL_law_191 : decode cL_law 191 = .ok (.iconst 1, 1) := by decide +kernel
theorem dL_law_192 : decode cL_law 192 = .ok (.iadd, 1) := by decide +kernel
theorem dL_law_193 : decode cL_law 193 = .ok (.iaload, 1) := by decide +kernel
theorem dL_law_194 : decode cL_law 194 = .ok (.aload_n 0, 1) := by decide +kernel
theorem dL_law_195 : decode cL_law 195 = .ok (.iload_n 3, 1) := by decide +kernel
theorem dL_law_196 : decode cL_law 196 = .ok (.iconst 2, 1) := by decide +kernel
theorem dL_law_197 : decode cL_law 197 = .ok (.iadd, 1) := by decide +kernel
theorem dL_law_198 : decode cL_law 198 = .ok (.iaload, 1) := by decide +kernel
theorem dL_law_199 : decode cL_law 199 = .ok (.aload_n 0, 1) := by decide +kernel
theorem dL_law_200 : decode cL_law 200 = .ok (.iload_n 3, 1) := by decide +kernel
theorem dL_law_201 : decode cL_law 201 = .ok (.iconst 3, 1) := by decide +kernel
theorem dL_law_202 : decode cL_law 202 = .ok (.iadd, 1) := by decide +kernel
theorem dL_law_203 : decode cL_law 203 = .ok (.iaload, 1) := by decide +kernel
theorem dL_law_204 : decode cL_law 204 = .ok (.aload_n 0, 1) := by decide +kernel
theorem dL_law_205 : decode cL_law 205 = .ok (.iload_n 3, 1) := by decide +kernel
theorem dL_law_206 : decode cL_law 206 = .ok (.iconst 4, 1) := by decide +kernel
theorem dL_law_207 : decode cL_law 207 = .ok (.iadd, 1) := by decide +kernel
theorem dL_law_208 : decode cL_law 208 = .ok (.iaload, 1) := by decide +kernel
theorem dL_law_209 : decode cL_law 209 = .ok (.invokevirtual 27, 3) := by decide +kernel
theorem dL_law_212 : decode cL_law 212 = .ok (.if_icmp .eq 396, 3) := by decide +kernel
theorem dL_law_215 : decode cL_law 215 = .ok (.iconst 0, 1) := by decide +kernel
theorem dL_law_216 : decode cL_law 216 = .ok (.ireturn, 1) := by decide +kernel
theorem dL_law_217 : decode cL_law 217 = .ok (.aload_n 1, 1) := by decide +kernel
theorem dL_law_218 : decode cL_law 218 = .ok (.aload_n 0, 1) := by decide +kernel
theorem dL_law_219 : decode cL_law 219 = .ok (.iload_n 3, 1) := by decide +kernel
theorem dL_law_220 : decode cL_law 220 = .ok (.iconst 1, 1) := by decide +kernel
theorem dL_law_221 : decode cL_law 221 = .ok (.iadd, 1) := by decide +kernel
theorem dL_law_222 : decode cL_law 222 = .ok (.iaload, 1) := by decide +kernel
theorem dL_law_223 : decode cL_law 223 = .ok (.invokevirtual 28, 3) := by decide +kernel
theorem dL_law_226 : decode cL_law 226 = .ok (.aload_n 2, 1) := by decide +kernel
theorem dL_law_227 : decode cL_law 227 = .ok (.aload_n 0, 1) := by decide +kernel
theorem dL_law_228 : decode cL_law 228 = .ok (.iload_n 3, 1) := by decide +kernel
theorem dL_law_229 : decode cL_law 229 = .ok (.iconst 1, 1) := by decide +kernel
theorem dL_law_230 : decode cL_law 230 = .ok (.iadd, 1) := by decide +kernel
theorem dL_law_231 : decode cL_law 231 = .ok (.iaload, 1) := by decide +kernel
theorem dL_law_232 : decode cL_law 232 = .ok (.invokevirtual 31, 3) := by decide +kernel
theorem dL_law_235 : decode cL_law 235 = .ok (.if_icmp .eq 373, 3) := by decide +kernel
theorem dL_law_238 : decode cL_law 238 = .ok (.iconst 0, 1) := by decide +kernel
theorem dL_law_239 : decode cL_law 239 = .ok (.ireturn, 1) := by decide +kernel
theorem dL_law_240 : decode cL_law 240 = .ok (.aload_n 1, 1) := by decide +kernel
theorem dL_law_241 : decode cL_law 241 = .ok (.invokevirtual 32, 3) := by decide +kernel
theorem dL_law_244 : decode cL_law 244 = .ok (.aload_n 2, 1) := by decide +kernel
theorem dL_law_245 : decode cL_law 245 = .ok (.invokevirtual 35, 3) := by decide +kernel
theorem dL_law_248 : decode cL_law 248 = .ok (.if_icmp .eq 360, 3) := by decide +kernel
theorem dL_law_251 : decode cL_law 251 = .ok (.iconst 0, 1) := by decide +kernel
theorem dL_law_252 : decode cL_law 252 = .ok (.ireturn, 1) := by decide +kernel
theorem dL_law_253 : decode cL_law 253 = .ok (.aload_n 1, 1) := by decide +kernel
theorem dL_law_254 : decode cL_law 254 = .ok (.aload_n 0, 1) := by decide +kernel
theorem dL_law_255 : decode cL_law 255 = .ok (.iload_n 3, 1) := by decide +kernel
theorem dL_law_256 : decode cL_law 256 = .ok (.iconst 1, 1) := by decide +kernel
theorem dL_law_257 : decode cL_law 257 = .ok (.iadd, 1) := by decide +kernel
theorem dL_law_258 : decode cL_law 258 = .ok (.iaload, 1) := by decide +kernel
theorem dL_law_259 : decode cL_law 259 = .ok (.invokevirtual 36, 3) := by decide +kernel
theorem dL_law_262 : decode cL_law 262 = .ok (.aload_n 2, 1) := by decide +kernel
theorem dL_law_263 : decode cL_law 263 = .ok (.aload_n 0, 1) := by decide +kernel
theorem dL_law_264 : decode cL_law 264 = .ok (.iload_n 3, 1) := by decide +kernel
theorem dL_law_265 : decode cL_law 265 = .ok (.iconst 1, 1) := by decide +kernel
theorem dL_law_266 : decode cL_law 266 = .ok (.iadd, 1) := by decide +kernel
theorem dL_law_267 : decode cL_law 267 = .ok (.iaload, 1) := by decide +kernel
theorem dL_law_268 : decode cL_law 268 = .ok (.invokevirtual 39, 3) := by decide +kernel
theorem dL_law_271 : decode cL_law 271 = .ok (.if_icmp .eq 337, 3) := by decide +kernel
theorem dL_law_274 : decode cL_law 274 = .ok (.iconst 0, 1) := by decide +kernel
theorem dL_law_275 : decode cL_law 275 = .ok (.ireturn, 1) := by decide +kernel
theorem dL_law_276 : decode cL_law 276 = .ok (.aload_n 1, 1) := by decide +kernel
theorem dL_law_277 : decode cL_law 277 = .ok (.invokevirtual 40, 3) := by decide +kernel
theorem dL_law_280 : decode cL_law 280 = .ok (.aload_n 2, 1) := by decide +kernel
theorem dL_law_281 : decode cL_law 281 = .ok (.invokevirtual 43, 3) := by decide +kernel
theorem dL_law_284 : decode cL_law 284 = .ok (.if_icmp .eq 324, 3) := by decide +kernel
theorem dL_law_287 : decode cL_law 287 = .ok (.iconst 0, 1) := by decide +kernel
theorem dL_law_288 : decode cL_law 288 = .ok (.ireturn, 1) := by decide +kernel
theorem dL_law_289 : decode cL_law 289 = .ok (.aload_n 1, 1) := by decide +kernel
theorem dL_law_290 : decode cL_law 290 = .ok (.aload_n 0, 1) := by decide +kernel
theorem dL_law_291 : decode cL_law 291 = .ok (.iload_n 3, 1) := by decide +kernel
theorem dL_law_292 : decode cL_law 292 = .ok (.iconst 1, 1) := by decide +kernel
theorem dL_law_293 : decode cL_law 293 = .ok (.iadd, 1) := by decide +kernel
theorem dL_law_294 : decode cL_law 294 = .ok (.iaload, 1) := by decide +kernel
theorem dL_law_295 : decode cL_law 295 = .ok (.invokevirtual 44, 3) := by decide +kernel
theorem dL_law_298 : decode cL_law 298 = .ok (.aload_n 2, 1) := by decide +kernel
theorem dL_law_299 : decode cL_law 299 = .ok (.aload_n 0, 1) := by decide +kernel
theorem dL_law_300 : decode cL_law 300 = .ok (.iload_n 3, 1) := by decide +kernel
theorem dL_law_301 : decode cL_law 301 = .ok (.iconst 1, 1) := by decide +kernel
theorem dL_law_302 : decode cL_law 302 = .ok (.iadd, 1) := by decide +kernel
theorem dL_law_303 : decode cL_law 303 = .ok (.iaload, 1) := by decide +kernel
theorem dL_law_304 : decode cL_law 304 = .ok (.invokevirtual 47, 3) := by decide +kernel
theorem dL_law_307 : decode cL_law 307 = .ok (.if_icmp .eq 301, 3) := by decide +kernel
theorem dL_law_310 : decode cL_law 310 = .ok (.iconst 0, 1) := by decide +kernel
theorem dL_law_311 : decode cL_law 311 = .ok (.ireturn, 1) := by decide +kernel
theorem dL_law_312 : decode cL_law 312 = .ok (.aload_n 1, 1) := by decide +kernel
theorem dL_law_313 : decode cL_law 313 = .ok (.aload_n 0, 1) := by decide +kernel
theorem dL_law_314 : decode cL_law 314 = .ok (.iload_n 3, 1) := by decide +kernel
theorem dL_law_315 : decode cL_law 315 = .ok (.iconst 1, 1) := by decide +kernel
theorem dL_law_316 : decode cL_law 316 = .ok (.iadd, 1) := by decide +kernel
theorem dL_law_317 : decode cL_law 317 = .ok (.iaload, 1) := by decide +kernel
theorem dL_law_318 : decode cL_law 318 = .ok (.aload_n 0, 1) := by decide +kernel
theorem dL_law_319 : decode cL_law 319 = .ok (.iload_n 3, 1) := by decide +kernel
theorem dL_law_320 : decode cL_law 320 = .ok (.iconst 2, 1) := by decide +kernel
theorem dL_law_321 : decode cL_law 321 = .ok (.iadd, 1) := by decide +kernel
theorem dL_law_322 : decode cL_law 322 = .ok (.iaload, 1) := by decide +kernel
theorem dL_law_323 : decode cL_law 323 = .ok (.aload_n 0, 1) := by decide +kernel
theorem dL_law_324 : decode cL_law 324 = .ok (.iload_n 3, 1) := by decide +kernel
theorem dL_law_325 : decode cL_law 325 = .ok (.iconst 3, 1) := by decide +kernel
theorem dL_law_326 : decode cL_law 326 = .ok (.iadd, 1) := by decide +kernel
theorem dL_law_327 : decode cL_law 327 = .ok (.iaload, 1) := by decide +kernel
theorem dL_law_328 : decode cL_law 328 = .ok (.aload_n 0, 1) := by decide +kernel
theorem dL_law_329 : decode cL_law 329 = .ok (.iload_n 3, 1) := by decide +kernel
theorem dL_law_330 : decode cL_law 330 = .ok (.iconst 4, 1) := by decide +kernel
theorem dL_law_331 : decode cL_law 331 = .ok (.iadd, 1) := by decide +kernel
theorem dL_law_332 : decode cL_law 332 = .ok (.iaload, 1) := by decide +kernel
theorem dL_law_333 : decode cL_law 333 = .ok (.aload_n 0, 1) := by decide +kernel
theorem dL_law_334 : decode cL_law 334 = .ok (.iload_n 3, 1) := by decide +kernel
theorem dL_law_335 : decode cL_law 335 = .ok (.iconst 5, 1) := by decide +kernel
theorem dL_law_336 : decode cL_law 336 = .ok (.iadd, 1) := by decide +kernel
theorem dL_law_337 : decode cL_law 337 = .ok (.iaload, 1) := by decide +kernel
theorem dL_law_338 : decode cL_law 338 = .ok (.invokevirtual 48, 3) := by decide +kernel
theorem dL_law_341 : decode cL_law 341 = .ok (.aload_n 2, 1) := by decide +kernel
theorem dL_law_342 : decode cL_law 342 = .ok (.aload_n 0, 1) := by decide +kernel
theorem dL_law_343 : decode cL_law 343 = .ok (.iload_n 3, 1) := by decide +kernel
theorem dL_law_344 : decode cL_law 344 = .ok (.iconst 1, 1) := by decide +kernel
theorem dL_law_345 : decode cL_law 345 = .ok (.iadd, 1) := by decide +kernel
theorem dL_law_346 : decode cL_law 346 = .ok (.iaload, 1) := by decide +kernel
theorem dL_law_347 : decode cL_law 347 = .ok (.aload_n 0, 1) := by decide +kernel
theorem dL_law_348 : decode cL_law 348 = .ok (.iload_n 3, 1) := by decide +kernel
theorem dL_law_349 : decode cL_law 349 = .ok (.iconst 2, 1) := by decide +kernel
theorem dL_law_350 : decode cL_law 350 = .ok (.iadd, 1) := by decide +kernel
theorem dL_law_351 : decode cL_law 351 = .ok (.iaload, 1) := by decide +kernel
theorem dL_law_352 : decode cL_law 352 = .ok (.aload_n 0, 1) := by decide +kernel
theorem dL_law_353 : decode cL_law 353 = .ok (.iload_n 3, 1) := by decide +kernel
theorem dL_law_354 : decode cL_law 354 = .ok (.iconst 3, 1) := by decide +kernel
theorem dL_law_355 : decode cL_law 355 = .ok (.iadd, 1) := by decide +kernel
theorem dL_law_356 : decode cL_law 356 = .ok (.iaload, 1) := by decide +kernel
theorem dL_law_357 : decode cL_law 357 = .ok (.aload_n 0, 1) := by decide +kernel
theorem dL_law_358 : decode cL_law 358 = .ok (.iload_n 3, 1) := by decide +kernel
theorem dL_law_359 : decode cL_law 359 = .ok (.iconst 4, 1) := by decide +kernel
theorem dL_law_360 : decode cL_law 360 = .ok (.iadd, 1) := by decide +kernel
theorem dL_law_361 : decode cL_law 361 = .ok (.iaload, 1) := by decide +kernel
theorem dL_law_362 : decode cL_law 362 = .ok (.aload_n 0, 1) := by decide +kernel
theorem dL_law_363 : decode cL_law 363 = .ok (.iload_n 3, 1) := by decide +kernel
theorem dL_law_364 : decode cL_law 364 = .ok (.iconst 5, 1) := by decide +kernel
theorem dL_law_365 : decode cL_law 365 = .ok (.iadd, 1) := by decide +kernel
theorem dL_law_366 : decode cL_law 366 = .ok (.iaload, 1) := by decide +kernel
theorem dL_law_367 : decode cL_law 367 = .ok (.invokevirtual 52, 3) := by decide +kernel
theorem dL_law_370 : decode cL_law 370 = .ok (.if_icmp .eq 238, 3) := by decide +kernel
theorem dL_law_373 : decode cL_law 373 = .ok (.iconst 0, 1) := by decide +kernel
theorem dL_law_374 : decode cL_law 374 = .ok (.ireturn, 1) := by decide +kernel
theorem dL_law_375 : decode cL_law 375 = .ok (.aload_n 1, 1) := by decide +kernel
theorem dL_law_376 : decode cL_law 376 = .ok (.aload_n 0, 1) := by decide +kernel
theorem dL_law_377 : decode cL_law 377 = .ok (.iload_n 3, 1) := by decide +kernel
theorem dL_law_378 : decode cL_law 378 = .ok (.iconst 1, 1) := by decide +kernel
theorem dL_law_379 : decode cL_law 379 = .ok (.iadd, 1) := by decide +kernel
theorem dL_law_380 : decode cL_law 380 = .ok (.iaload, 1) := by decide +kernel
theorem dL_law_381 : decode cL_law 381 = .ok (.invokevirtual 53, 3) := by decide +kernel
theorem dL_law_384 : decode cL_law 384 = .ok (.aload_n 2, 1) := by decide +kernel
theorem dL_law_385 : decode cL_law 385 = .ok (.aload_n 0, 1) := by decide +kernel
theorem dL_law_386 : decode cL_law 386 = .ok (.iload_n 3, 1) := by decide +kernel
theorem dL_law_387 : decode cL_law 387 = .ok (.iconst 1, 1) := by decide +kernel
theorem dL_law_388 : decode cL_law 388 = .ok (.iadd, 1) := by decide +kernel
theorem dL_law_389 : decode cL_law 389 = .ok (.iaload, 1) := by decide +kernel
theorem dL_law_390 : decode cL_law 390 = .ok (.invokevirtual 56, 3) := by decide +kernel
theorem dL_law_393 : decode cL_law 393 = .ok (.if_icmp .eq 215, 3) := by decide +kernel
theorem dL_law_396 : decode cL_law 396 = .ok (.iconst 0, 1) := by decide +kernel
theorem dL_law_397 : decode cL_law 397 = .ok (.ireturn, 1) := by decide +kernel
theorem dL_law_398 : decode cL_law 398 = .ok (.aload_n 1, 1) := by decide +kernel
theorem dL_law_399 : decode cL_law 399 = .ok (.aload_n 0, 1) := by decide +kernel
theorem dL_law_400 : decode cL_law 400 = .ok (.iload_n 3, 1) := by decide +kernel
theorem dL_law_401 : decode cL_law 401 = .ok (.iconst 1, 1) := by decide +kernel
theorem dL_law_402 : decode cL_law 402 = .ok (.iadd, 1) := by decide +kernel
theorem dL_law_403 : decode cL_law 403 = .ok (.iaload, 1) := by decide +kernel
theorem dL_law_404 : decode cL_law 404 = .ok (.aload_n 0, 1) := by decide +kernel
theorem dL_law_405 : decode cL_law 405 = .ok (.iload_n 3, 1) := by decide +kernel
theorem dL_law_406 : decode cL_law 406 = .ok (.iconst 2, 1) := by decide +kernel
theorem dL_law_407 : decode cL_law 407 = .ok (.iadd, 1) := by decide +kernel
theorem dL_law_408 : decode cL_law 408 = .ok (.iaload, 1) := by decide +kernel
theorem dL_law_409 : decode cL_law 409 = .ok (.invokevirtual 57, 3) := by decide +kernel
theorem dL_law_412 : decode cL_law 412 = .ok (.aload_n 2, 1) := by decide +kernel
theorem dL_law_413 : decode cL_law 413 = .ok (.aload_n 0, 1) := by decide +kernel
theorem dL_law_414 : decode cL_law 414 = .ok (.iload_n 3, 1) := by decide +kernel
theorem dL_law_415 : decode cL_law 415 = .ok (.iconst 1, 1) := by decide +kernel
theorem dL_law_416 : decode cL_law 416 = .ok (.iadd, 1) := by decide +kernel
theorem dL_law_417 : decode cL_law 417 = .ok (.iaload, 1) := by decide +kernel
theorem dL_law_418 : decode cL_law 418 = .ok (.aload_n 0, 1) := by decide +kernel
theorem dL_law_419 : decode cL_law 419 = .ok (.iload_n 3, 1) := by decide +kernel
theorem dL_law_420 : decode cL_law 420 = .ok (.iconst 2, 1) := by decide +kernel
theorem dL_law_421 : decode cL_law 421 = .ok (.iadd, 1) := by decide +kernel
theorem dL_law_422 : decode cL_law 422 = .ok (.iaload, 1) := by decide +kernel
theorem dL_law_423 : decode cL_law 423 = .ok (.invokevirtual 61, 3) := by decide +kernel
theorem dL_law_426 : decode cL_law 426 = .ok (.if_icmp .eq 182, 3) := by decide +kernel
theorem dL_law_429 : decode cL_law 429 = .ok (.iconst 0, 1) := by decide +kernel
theorem dL_law_430 : decode cL_law 430 = .ok (.ireturn, 1) := by decide +kernel
theorem dL_law_431 : decode cL_law 431 = .ok (.aload_n 1, 1) := by decide +kernel
theorem dL_law_432 : decode cL_law 432 = .ok (.aload_n 0, 1) := by decide +kernel
theorem dL_law_433 : decode cL_law 433 = .ok (.iload_n 3, 1) := by decide +kernel
theorem dL_law_434 : decode cL_law 434 = .ok (.iconst 1, 1) := by decide +kernel
theorem dL_law_435 : decode cL_law 435 = .ok (.iadd, 1) := by decide +kernel
theorem dL_law_436 : decode cL_law 436 = .ok (.iaload, 1) := by decide +kernel
theorem dL_law_437 : decode cL_law 437 = .ok (.aload_n 0, 1) := by decide +kernel
theorem dL_law_438 : decode cL_law 438 = .ok (.iload_n 3, 1) := by decide +kernel
theorem dL_law_439 : decode cL_law 439 = .ok (.iconst 2, 1) := by decide +kernel
theorem dL_law_440 : decode cL_law 440 = .ok (.iadd, 1) := by decide +kernel
theorem dL_law_441 : decode cL_law 441 = .ok (.iaload, 1) := by decide +kernel
theorem dL_law_442 : decode cL_law 442 = .ok (.invokevirtual 62, 3) := by decide +kernel
theorem dL_law_445 : decode cL_law 445 = .ok (.aload_n 2, 1) := by decide +kernel
theorem dL_law_446 : decode cL_law 446 = .ok (.aload_n 0, 1) := by decide +kernel
theorem dL_law_447 : decode cL_law 447 = .ok (.iload_n 3, 1) := by decide +kernel
theorem dL_law_448 : decode cL_law 448 = .ok (.iconst 1, 1) := by decide +kernel
theorem dL_law_449 : decode cL_law 449 = .ok (.iadd, 1) := by decide +kernel
theorem dL_law_450 : decode cL_law 450 = .ok (.iaload, 1) := by decide +kernel
theorem dL_law_451 : decode cL_law 451 = .ok (.aload_n 0, 1) := by decide +kernel
theorem dL_law_452 : decode cL_law 452 = .ok (.iload_n 3, 1) := by decide +kernel
theorem dL_law_453 : decode cL_law 453 = .ok (.iconst 2, 1) := by decide +kernel
theorem dL_law_454 : decode cL_law 454 = .ok (.iadd, 1) := by decide +kernel
theorem dL_law_455 : decode cL_law 455 = .ok (.iaload, 1) := by decide +kernel
theorem dL_law_456 : decode cL_law 456 = .ok (.invokevirtual 65, 3) := by decide +kernel
theorem dL_law_459 : decode cL_law 459 = .ok (.if_icmp .eq 149, 3) := by decide +kernel
theorem dL_law_462 : decode cL_law 462 = .ok (.iconst 0, 1) := by decide +kernel
theorem dL_law_463 : decode cL_law 463 = .ok (.ireturn, 1) := by decide +kernel
theorem dL_law_464 : decode cL_law 464 = .ok (.aload_n 1, 1) := by decide +kernel
theorem dL_law_465 : decode cL_law 465 = .ok (.invokevirtual 66, 3) := by decide +kernel
theorem dL_law_468 : decode cL_law 468 = .ok (.aload_n 2, 1) := by decide +kernel
theorem dL_law_469 : decode cL_law 469 = .ok (.invokevirtual 69, 3) := by decide +kernel
theorem dL_law_472 : decode cL_law 472 = .ok (.if_icmp .eq 136, 3) := by decide +kernel
theorem dL_law_475 : decode cL_law 475 = .ok (.iconst 0, 1) := by decide +kernel
theorem dL_law_476 : decode cL_law 476 = .ok (.ireturn, 1) := by decide +kernel
theorem dL_law_477 : decode cL_law 477 = .ok (.aload_n 1, 1) := by decide +kernel
theorem dL_law_478 : decode cL_law 478 = .ok (.invokevirtual 70, 3) := by decide +kernel
theorem dL_law_481 : decode cL_law 481 = .ok (.aload_n 2, 1) := by decide +kernel
theorem dL_law_482 : decode cL_law 482 = .ok (.invokevirtual 73, 3) := by decide +kernel
theorem dL_law_485 : decode cL_law 485 = .ok (.if_icmp .eq 123, 3) := by decide +kernel
theorem dL_law_488 : decode cL_law 488 = .ok (.iconst 0, 1) := by decide +kernel
theorem dL_law_489 : decode cL_law 489 = .ok (.ireturn, 1) := by decide +kernel
theorem dL_law_490 : decode cL_law 490 = .ok (.aload_n 1, 1) := by decide +kernel
theorem dL_law_491 : decode cL_law 491 = .ok (.invokevirtual 74, 3) := by decide +kernel
theorem dL_law_494 : decode cL_law 494 = .ok (.aload_n 2, 1) := by decide +kernel
theorem dL_law_495 : decode cL_law 495 = .ok (.invokevirtual 77, 3) := by decide +kernel
theorem dL_law_498 : decode cL_law 498 = .ok (.if_icmp .eq 110, 3) := by decide +kernel
theorem dL_law_501 : decode cL_law 501 = .ok (.iconst 0, 1) := by decide +kernel
theorem dL_law_502 : decode cL_law 502 = .ok (.ireturn, 1) := by decide +kernel
theorem dL_law_503 : decode cL_law 503 = .ok (.aload_n 1, 1) := by decide +kernel
theorem dL_law_504 : decode cL_law 504 = .ok (.aload_n 0, 1) := by decide +kernel
theorem dL_law_505 : decode cL_law 505 = .ok (.iload_n 3, 1) := by decide +kernel
theorem dL_law_506 : decode cL_law 506 = .ok (.iconst 1, 1) := by decide +kernel
theorem dL_law_507 : decode cL_law 507 = .ok (.iadd, 1) := by decide +kernel
theorem dL_law_508 : decode cL_law 508 = .ok (.iaload, 1) := by decide +kernel
theorem dL_law_509 : decode cL_law 509 = .ok (.invokevirtual 78, 3) := by decide +kernel
theorem dL_law_512 : decode cL_law 512 = .ok (.aload_n 2, 1) := by decide +kernel
theorem dL_law_513 : decode cL_law 513 = .ok (.aload_n 0, 1) := by decide +kernel
theorem dL_law_514 : decode cL_law 514 = .ok (.iload_n 3, 1) := by decide +kernel
theorem dL_law_515 : decode cL_law 515 = .ok (.iconst 1, 1) := by decide +kernel
theorem dL_law_516 : decode cL_law 516 = .ok (.iadd, 1) := by decide +kernel
theorem dL_law_517 : decode cL_law 517 = .ok (.iaload, 1) := by decide +kernel
theorem dL_law_518 : decode cL_law 518 = .ok (.invokevirtual 81, 3) := by decide +kernel
theorem dL_law_521 : decode cL_law 521 = .ok (.if_icmp .eq 87, 3) := by decide +kernel
theorem dL_law_524 : decode cL_law 524 = .ok (.iconst 0, 1) := by decide +kernel
theorem dL_law_525 : decode cL_law 525 = .ok (.ireturn, 1) := by decide +kernel
theorem dL_law_526 : decode cL_law 526 = .ok (.aload_n 1, 1) := by decide +kernel
theorem dL_law_527 : decode cL_law 527 = .ok (.invokevirtual 82, 3) := by decide +kernel
theorem dL_law_530 : decode cL_law 530 = .ok (.aload_n 2, 1) := by decide +kernel
theorem dL_law_531 : decode cL_law 531 = .ok (.invokevirtual 85, 3) := by decide +kernel
theorem dL_law_534 : decode cL_law 534 = .ok (.if_icmp .eq 74, 3) := by decide +kernel
theorem dL_law_537 : decode cL_law 537 = .ok (.iconst 0, 1) := by decide +kernel
theorem dL_law_538 : decode cL_law 538 = .ok (.ireturn, 1) := by decide +kernel
theorem dL_law_539 : decode cL_law 539 = .ok (.aload_n 1, 1) := by decide +kernel
theorem dL_law_540 : decode cL_law 540 = .ok (.aload_n 0, 1) := by decide +kernel
theorem dL_law_541 : decode cL_law 541 = .ok (.iload_n 3, 1) := by decide +kernel
theorem dL_law_542 : decode cL_law 542 = .ok (.iconst 1, 1) := by decide +kernel
theorem dL_law_543 : decode cL_law 543 = .ok (.iadd, 1) := by decide +kernel
theorem dL_law_544 : decode cL_law 544 = .ok (.iaload, 1) := by decide +kernel
theorem dL_law_545 : decode cL_law 545 = .ok (.invokevirtual 86, 3) := by decide +kernel
theorem dL_law_548 : decode cL_law 548 = .ok (.aload_n 2, 1) := by decide +kernel
theorem dL_law_549 : decode cL_law 549 = .ok (.aload_n 0, 1) := by decide +kernel
theorem dL_law_550 : decode cL_law 550 = .ok (.iload_n 3, 1) := by decide +kernel
theorem dL_law_551 : decode cL_law 551 = .ok (.iconst 1, 1) := by decide +kernel
theorem dL_law_552 : decode cL_law 552 = .ok (.iadd, 1) := by decide +kernel
theorem dL_law_553 : decode cL_law 553 = .ok (.iaload, 1) := by decide +kernel
theorem dL_law_554 : decode cL_law 554 = .ok (.invokevirtual 89, 3) := by decide +kernel
theorem dL_law_557 : decode cL_law 557 = .ok (.if_icmp .eq 51, 3) := by decide +kernel
theorem dL_law_560 : decode cL_law 560 = .ok (.iconst 0, 1) := by decide +kernel
theorem dL_law_561 : decode cL_law 561 = .ok (.ireturn, 1) := by decide +kernel
theorem dL_law_562 : decode cL_law 562 = .ok (.aload_n 1, 1) := by decide +kernel
theorem dL_law_563 : decode cL_law 563 = .ok (.aload_n 0, 1) := by decide +kernel
theorem dL_law_564 : decode cL_law 564 = .ok (.iload_n 3, 1) := by decide +kernel
theorem dL_law_565 : decode cL_law 565 = .ok (.iconst 1, 1) := by decide +kernel
theorem dL_law_566 : decode cL_law 566 = .ok (.iadd, 1) := by decide +kernel
theorem dL_law_567 : decode cL_law 567 = .ok (.iaload, 1) := by decide +kernel
theorem dL_law_568 : decode cL_law 568 = .ok (.invokevirtual 90, 3) := by decide +kernel
theorem dL_law_571 : decode cL_law 571 = .ok (.aload_n 2, 1) := by decide +kernel
theorem dL_law_572 : decode cL_law 572 = .ok (.aload_n 0, 1) := by decide +kernel
theorem dL_law_573 : decode cL_law 573 = .ok (.iload_n 3, 1) := by decide +kernel
theorem dL_law_574 : decode cL_law 574 = .ok (.iconst 1, 1) := by decide +kernel
theorem dL_law_575 : decode cL_law 575 = .ok (.iadd, 1) := by decide +kernel
theorem dL_law_576 : decode cL_law 576 = .ok (.iaload, 1) := by decide +kernel
theorem dL_law_577 : decode cL_law 577 = .ok (.invokevirtual 93, 3) := by decide +kernel
theorem dL_law_580 : decode cL_law 580 = .ok (.if_icmp .eq 28, 3) := by decide +kernel
theorem dL_law_583 : decode cL_law 583 = .ok (.iconst 0, 1) := by decide +kernel
theorem dL_law_584 : decode cL_law 584 = .ok (.ireturn, 1) := by decide +kernel
theorem dL_law_585 : decode cL_law 585 = .ok (.aload_n 1, 1) := by decide +kernel
theorem dL_law_586 : decode cL_law 586 = .ok (.aload_n 0, 1) := by decide +kernel
theorem dL_law_587 : decode cL_law 587 = .ok (.iload_n 3, 1) := by decide +kernel
theorem dL_law_588 : decode cL_law 588 = .ok (.iconst 1, 1) := by decide +kernel
theorem dL_law_589 : decode cL_law 589 = .ok (.iadd, 1) := by decide +kernel
theorem dL_law_590 : decode cL_law 590 = .ok (.iaload, 1) := by decide +kernel
theorem dL_law_591 : decode cL_law 591 = .ok (.invokevirtual 94, 3) := by decide +kernel
theorem dL_law_594 : decode cL_law 594 = .ok (.aload_n 2, 1) := by decide +kernel
theorem dL_law_595 : decode cL_law 595 = .ok (.aload_n 0, 1) := by decide +kernel
theorem dL_law_596 : decode cL_law 596 = .ok (.iload_n 3, 1) := by decide +kernel
theorem dL_law_597 : decode cL_law 597 = .ok (.iconst 1, 1) := by decide +kernel
theorem dL_law_598 : decode cL_law 598 = .ok (.iadd, 1) := by decide +kernel
theorem dL_law_599 : decode cL_law 599 = .ok (.iaload, 1) := by decide +kernel
theorem dL_law_600 : decode cL_law 600 = .ok (.invokevirtual 97, 3) := by decide +kernel
theorem dL_law_603 : decode cL_law 603 = .ok (.if_icmp .eq 5, 3) := by decide +kernel
theorem dL_law_606 : decode cL_law 606 = .ok (.iconst 0, 1) := by decide +kernel
theorem dL_law_607 : decode cL_law 607 = .ok (.ireturn, 1) := by decide +kernel
theorem dL_law_608 : decode cL_law 608 = .ok (.iinc 3 6, 3) := by decide +kernel
theorem dL_law_611 : decode cL_law 611 = .ok (.goto (-593), 3) := by decide +kernel
theorem dL_law_614 : decode cL_law 614 = .ok (.iconst 1, 1) := by decide +kernel
theorem dL_law_615 : decode cL_law 615 = .ok (.ireturn, 1) := by decide +kernel
end
section
/-! ===== a small machine over mathematical integers: values, the static graph of objects, the world as a function ===== -/
abbrev mV : Type := Int ⊕ (Int ⊕ (Nat ⊕ Unit))
abbrev xI (z : Int) : mV := Sum.inl z
abbrev xL (z : Int) : mV := Sum.inr (Sum.inl z)
abbrev xR (i : Nat) : mV := Sum.inr (Sum.inr (Sum.inl i))
abbrev xU : mV := Sum.inr (Sum.inr (Sum.inr ()))
abbrev mH : Type := Nat → Int → Int
/-- the launch, the address of each of the 62 objects, the tables' numbers, the classes of the three kinds of array -/
abbrev mX : Type := Launch × (Nat → Nat) × va_G × ClassId × ClassId × ClassId
/-- name, code, locals, return type, height in the call graph -/
abbrev mM : Type := MethodName × ByteArray × Nat × Option FieldType × Nat
def inR (z : Int) : Prop := -2147483648 ≤ z ∧ z < 2147483648
def inL (z : Int) : Prop := -9223372036854775808 ≤ z ∧ z < 9223372036854775808
def okv (v : mV) : Prop := match v with
  | .inl z => inR z
  | .inr (.inl z) => inL z
  | _ => True
def cv (x : mX) (v : mV) : Value := match v with
  | .inl z => .int (Int32.ofInt z)
  | .inr (.inl z) => .long (Int64.ofInt z)
  | .inr (.inr (.inl i)) => .ref (x.2.1 i)
  | _ => .null
def rv (x : mX) (v : mV) : Option Value := match v with
  | .inr (.inr (.inr _)) => none
  | w => some (cv x w)
/-- the kinds of the 62 objects: 0..9 the classes of vwCl, 10 int[], 11 boolean[], 12 Past[] -/
def kdL : List Nat := [8, 6, 10, 3, 4, 6, 10, 0, 10, 5, 6, 10, 7, 10, 3, 4, 6, 10, 0, 10, 5, 6, 10, 7, 10, 2, 1, 12, 4, 6, 10, 4, 6, 10, 4, 6, 10, 4, 6, 10, 4, 6, 10, 4, 6, 10, 4, 6, 10, 4, 6, 10, 9, 10, 10, 10, 11, 10, 10, 10, 10, 10]
def kd (i : Nat) : Nat := kdL.getD i 99
def lnL : List Nat := [0, 0, 200, 0, 0, 0, 60, 0, 340, 0, 0, 722, 0, 5, 0, 0, 0, 60, 0, 340, 0, 0, 722, 0, 5, 0, 0, 6, 0, 0, 60, 0, 0, 60, 0, 0, 60, 0, 0, 60, 0, 0, 60, 0, 0, 60, 0, 0, 60, 0, 0, 60, 0, 65, 390, 130, 2, 200, 60, 340, 2800, 2800]
def ln (i : Nat) : Nat := lnL.getD i 0
/-- the kinds of the fields of each class: 0 int, 1 long, 2 reference, 3 boolean -/
def fkL : List (List Nat) := [[2, 0], [2, 0, 0], [0, 0, 1, 1], [2, 2, 2, 2, 0, 0, 0], [0, 0, 0, 0, 2], [2, 0, 0, 0, 0, 3, 0, 0], [2, 0], [2, 0, 0, 0], [2, 2, 2, 2, 2, 2, 2, 3, 3], [2, 2, 0, 2, 2, 2, 0, 0, 2, 0, 2, 0, 0, 0, 0, 2, 0, 0, 2, 0, 0, 0, 1, 1, 0, 0]]
def fks (c : Nat) : List Nat := fkL.getD c []
/-- where a reference field points -/
def tgc (c i k : Nat) : Nat := if c = 8 then [1, 3, 14, 25, 26, 46, 49].getD k 0 else if c = 3 then i + [1, 4, 6, 9].getD k 0 else if c = 9 then [53, 54, 0, 55, 56, 57, 0, 0, 58, 0, 59, 0, 0, 0, 0, 60, 0, 0, 61].getD k 0 else i + 1
def isLg (i : Nat) (k : Int) : Bool := (fks (kd i))[k.toNat]? == some 1
def okh (h : mH) : Prop := ∀ (i : Nat) (k : Int), if isLg i k = true then inL (h i k) else inR (h i k)
def fv (x : mX) (h : mH) (c i k t : Nat) : Value := if t = 1 then .long (Int64.ofInt (h i (k : Int))) else if t = 2 then .ref (x.2.1 (tgc c i k)) else .int (Int32.ofInt (h i (k : Int)))
def cell (x : mX) (h : mH) (i : Nat) : va_E := if kd i = 10 then .inl (x.2.2.2.1, ln i, .inl (fun k => Int32.ofInt (h i (k : Int)))) else if kd i = 11 then .inl (x.2.2.2.2.1, ln i, .inl (fun k => Int32.ofInt (h i (k : Int)))) else if kd i = 12 then .inl (x.2.2.2.2.2, ln i, .inr (.inr (.inr (.inr (fun k => some (x.2.1 (28 + 3 * k))))))) else .inr (kd i, (fks (kd i)).mapIdx (fun k t => fv x h (kd i) i k t))
def wl (x : mX) (h : mH) : va_W := (List.range 62).map (fun i => (x.2.1 i, cell x h i))
def hset (h : mH) (i : Nat) (k v : Int) : mH := fun a b => if a = i ∧ b = k then v else h a b
theorem hset_eq (h : mH) (i : Nat) (k v : Int) : hset h i k v i k = v := by simp [hset]
theorem hset_ni {h : mH} {i : Nat} {k v : Int} {a : Nat} (e : a ≠ i) : hset h i k v a = h a := by
  funext b; simp [hset, e]
theorem hset_ne {h : mH} {i : Nat} {k v : Int} {a : Nat} {b : Int} (e : a ≠ i ∨ b ≠ k) : hset h i k v a b = h a b := by
  unfold hset
  rw [if_neg]
  omega
theorem hset_nk {h : mH} {i : Nat} {k v : Int} {a : Nat} {b : Int} (e : b ≠ k) : hset h i k v a b = h a b := hset_ne (Or.inr e)
theorem kd_lt {i c : Nat} (h : kd i = c) (hc : c < 99) : i < 62 := by
  rcases Nat.lt_or_ge i 62 with q | q
  · exact q
  · have : kd i = 99 := by unfold kd; rw [List.getD_eq_getElem?_getD, List.getElem?_eq_none (by simpa [kdL] using q)]; rfl
    omega
theorem wl_at {x : mX} {h : mH} {i : Nat} (hi : i < 62) : (wl x h)[i]? = some (x.2.1 i, cell x h i) := by
  unfold wl
  rw [List.getElem?_map, List.getElem?_range hi]; rfl
theorem wl_len (x : mX) (h : mH) : (wl x h).length = 62 := by simp [wl]
theorem cell_congr {x : mX} {h h' : mH} {i : Nat} (e : h i = h' i) : cell x h i = cell x h' i := by
  unfold cell fv
  rw [e]
theorem wl_set {x : mX} {h : mH} {i : Nat} {k v : Int} (hi : i < 62) : (wl x h).set i (x.2.1 i, cell x (hset h i k v) i) = wl x (hset h i k v) := by
  apply List.ext_getElem?
  intro j
  by_cases hj : j < 62
  · rw [wl_at hj]
    by_cases e : i = j
    · subst e
      rw [List.getElem?_set_self (by rw [wl_len]; exact hi)]
    · rw [List.getElem?_set_ne e, wl_at hj]
      rw [cell_congr (h := h) (h' := hset h i k v) (hset_ni (Ne.symm e)).symm]
  · rw [List.getElem?_eq_none (by rw [List.length_set, wl_len]; omega), List.getElem?_eq_none (by rw [wl_len]; omega)]
def Okx (x : mX) : Prop := ∀ i j, i < 62 → j < 62 → x.2.1 i = x.2.1 j → i = j
def mA (x : mX) : Nat → Prop := fun q => ∃ i, i < 62 ∧ x.2.1 i = q
theorem wl_get {x : mX} {h : mH} {k : Nat} {q : Nat × va_E} (e : (wl x h)[k]? = some q) : k < 62 ∧ q = (x.2.1 k, cell x h k) := by
  have hk : k < 62 := by have := (List.getElem?_eq_some_iff.mp e).1; rw [wl_len] at this; exact this
  rw [wl_at hk] at e
  exact ⟨hk, (Option.some.inj e).symm⟩
theorem wl_D {x : mX} {h : mH} (hx : Okx x) : va_D (mA x) (wl x h) := by
  refine ⟨fun i j p q hp hq hpq => ?_, fun k q hk => ?_⟩
  · obtain ⟨hi, rfl⟩ := wl_get hp
    obtain ⟨hj, rfl⟩ := wl_get hq
    exact hx i j hi hj hpq
  · obtain ⟨hk', rfl⟩ := wl_get hk
    exact ⟨k, hk', rfl⟩
theorem cell_obj {x : mX} {h : mH} {i c : Nat} (hk : kd i = c) (hc : c < 10) : cell x h i = .inr (c, (fks c).mapIdx (fun k t => fv x h c i k t)) := by
  unfold cell
  rw [hk, if_neg (by omega), if_neg (by omega), if_neg (by omega)]
theorem cell_int {x : mX} {h : mH} {i : Nat} (hk : kd i = 10) : cell x h i = .inl (x.2.2.2.1, ln i, .inl (fun k => Int32.ofInt (h i (k : Int)))) := by
  unfold cell
  rw [hk, if_pos rfl]
theorem cell_bool {x : mX} {h : mH} {i : Nat} (hk : kd i = 11) : cell x h i = .inl (x.2.2.2.2.1, ln i, .inl (fun k => Int32.ofInt (h i (k : Int)))) := by
  unfold cell
  rw [hk, if_neg (by decide), if_pos rfl]
theorem cell_past {x : mX} {h : mH} {i : Nat} (hk : kd i = 12) : cell x h i = .inl (x.2.2.2.2.2, ln i, .inr (.inr (.inr (.inr (fun k => some (x.2.1 (28 + 3 * k))))))) := by
  unfold cell
  rw [hk, if_neg (by decide), if_neg (by decide), if_pos rfl]
theorem fs_get {x : mX} {h : mH} {c i k t : Nat} (ht : (fks c)[k]? = some t) : ((fks c).mapIdx (fun k t => fv x h c i k t))[k]? = some (fv x h c i k t) := by
  rw [List.getElem?_mapIdx, ht]; rfl
theorem fs_set {x : mX} {h : mH} {c i k t : Nat} {v : Int} (ht : (fks c)[k]? = some t) : ((fks c).mapIdx (fun k t => fv x h c i k t)).set k (fv x (hset h i (k : Int) v) c i k t) = (fks c).mapIdx (fun a t => fv x (hset h i (k : Int) v) c i a t) := by
  have hlt := (List.getElem?_eq_some_iff.mp ht).1
  apply List.ext_getElem?
  intro j
  by_cases e : k = j
  · subst e
    rw [List.getElem?_set_self (by rw [List.length_mapIdx]; exact hlt), List.getElem?_mapIdx, ht]; rfl
  · rw [List.getElem?_set_ne e, List.getElem?_mapIdx, List.getElem?_mapIdx]
    congr 1
    funext t'
    unfold fv
    rw [hset_nk (by omega)]
def tysm (x : mX) : List (ClassId × FieldType) := [(x.2.2.2.1, .int), (x.2.2.2.2.1, .boolean), (x.2.2.2.2.2, .object "LongestPast$Past")]
/-! ===== words ===== -/
def gd_tbl : List Cond := lw_tbl.filter goodWord
def isNw (w : Cond) : Bool := match w with
  | .fieldLinkNest .. => true
  | .methodLinkNest .. => true
  | .declares _ => true
  | _ => false
def nw_tbl : List Cond := lw_tbl.filter isNw
theorem inG {i : Nat} {w : Cond} (h : lw_tbl[i]? = some w) (hg : goodWord w = true) : w ∈ gd_tbl := List.mem_filter.mpr ⟨List.mem_of_getElem? h, hg⟩
theorem inN {i : Nat} {w : Cond} (h : lw_tbl[i]? = some w) (hg : isNw w = true) : w ∈ nw_tbl := List.mem_filter.mpr ⟨List.mem_of_getElem? h, hg⟩
theorem gd_good {w : Cond} (h : w ∈ gd_tbl) : (w.onTables && w.keeps) = true ∨ ∃ ty, w = .arrayClass ty := good_of_word (List.mem_filter.mp h).2
theorem gd_in : GoodIn gd_tbl gd_tbl := fun _ h => ⟨h, gd_good h⟩
theorem gd_cons {w : Cond} (h : w ∈ gd_tbl) : GoodIn gd_tbl (w :: gd_tbl) := fun v hv => by
  rcases List.mem_cons.mp hv with rfl | hv
  · exact ⟨h, gd_good h⟩
  · exact gd_in v hv
theorem nw_warm {w : Cond} (hw : isNw w = true) {s U : State} (hW : s.WarmedH U.vm) (h : va_Nw w s) : va_Nw w U := by
  cases w with
  | fieldLinkNest a i b n d h1 => exact va_Nw.warmF hW h
  | methodLinkNest a i x h1 => exact va_Nw.warmM hW h
  | declares x => exact va_Nw.warmD hW h
  | _ => simp [isNw] at hw
theorem nw_tab {w : Cond} (hw : isNw w = true) : w.onTables = true := by
  cases w with
  | fieldLinkNest a i b n d h1 => rfl
  | methodLinkNest a i x h1 => rfl
  | declares x => rfl
  | _ => simp [isNw] at hw
def nw_all (U : State) : Prop := ∀ w ∈ nw_tbl, va_Nw w U
theorem nw_all.warm {s U : State} (hW : s.WarmedH U.vm) (h : nw_all s) : nw_all U := fun w hw => nw_warm (List.mem_filter.mp hw).2 hW (h w hw)
theorem nw_all.same {s U : State} (hv : s.vm = U.vm) (h : nw_all s) : nw_all U := fun w hw => va_Nw.same (nw_tab (List.mem_filter.mp hw).2) hv (h w hw)
/-! ===== the judgements ===== -/
def rmk (k : Nat) : Room := { frames := k, cells := 0, slots := 0, locals := 38 * k }
def Wd (x : mX) (h : mH) (U : State) : Prop := va_P x.2.2.1 vwCl (wl x h) U.heap ∧ va_K x.2.2.1 vwCl (tysm x) U ∧ nw_all U
def mQ (x : mX) (Q : mV → mH → Prop) : Array Value → State → Outcome → State → Prop := fun _ st oc t => (∃ (r : mV) (h' : mH), oc = .returned (rv x r) ∧ Q r h' ∧ okv r ∧ okh h' ∧ va_P x.2.2.1 vwCl (wl x h') t.heap) ∧ va_F (mA x) st t
def mws (M : mM) : List Cond := Cond.code M.1 M.2.1 M.2.2.1 M.2.2.2.1 :: gd_tbl
/-- a method's contract: called with these arguments in this world it returns, and Q holds of its answer and the world then -/
def Ct (x : mX) (M : mM) (args : List mV) (h : mH) (Q : mV → mH → Prop) : Prop :=
  Okx x → (∀ v ∈ args, okv v) → okh h → Met x.1 M.1 (mws M) (rmk M.2.2.2.2) (va_Pc (args.map (cv x)) (Wd x h)) (mQ x Q) 0 0 (mA x)
def Cc (x : mX) (M : mM) (p : Program) (s : State) (m : MethodId) (args : Array Value) (meth : Method) (c : Code) : Prop :=
  Okx x ∧ p.tables.exec = Jvm.exec ∧ c.code = M.2.1 ∧ meth.sig.returnType = M.2.2.2.1 ∧ c.maxLocals = M.2.2.1 ∧ s.vm.findClass M.1.cls = some m.cls ∧ (∀ w ∈ gd_tbl, w.before args s = true) ∧ nw_all s ∧ meth.locks = false ∧ va_K x.2.2.1 vwCl (tysm x) s
def Hs (x : mX) (h : mH) (s : State) (H : Heap) (locs : List Loc) : Prop := va_P x.2.2.1 vwCl (wl x h) H ∧ va_S (mA x) s.heap H locs ∧ okh h
def Lo (x : mX) (la : Array Slot) (n : Nat) (ls : List mV) : Prop := la.size = n ∧ lv_wf la ∧ ls.length ≤ n ∧ (∀ (k : Nat) (v : mV), ls[k]? = some v → v ≠ xU → la[k]? = some (.val (cv x v))) ∧ ∀ v ∈ ls, okv v
/-- the machine in method M at pc, with these locals, this stack, this world, comes to an end with Q -/
def Go (x : mX) (M : mM) (pc : Nat) (ls st : List mV) (h : mH) (Q : mV → mH → Prop) : Prop :=
  ∀ (p : Program) (e : Env) (s : State) (m : MethodId) (args : Array Value) (below : List Frame) (meth : Method) (c : Code) (H : Heap) (locs : List Loc) (la : Array Slot),
    Cc x M p s m args meth c → Hs x h s H locs → Lo x la M.2.2.1 ls → (∀ v ∈ st, okv v) →
    W p x.1 e (rmk M.2.2.2.2) s m args below meth c H locs 0 0 (MQ below (mQ x Q) args s 0 0 (mA x)) (F0 m pc la (st.map (cv x)))
def qI (Q : Int → mH → Prop) : mV → mH → Prop := fun r h => ∃ z, r = xI z ∧ Q z h
def qL (Q : Int → mH → Prop) : mV → mH → Prop := fun r h => ∃ z, r = xL z ∧ Q z h
def qV (Q : mH → Prop) : mV → mH → Prop := fun r h => r = xU ∧ Q h
def CtI (x : mX) (M : mM) (args : List mV) (h : mH) (Q : Int → mH → Prop) : Prop := Ct x M args h (qI Q)
def CtL (x : mX) (M : mM) (args : List mV) (h : mH) (Q : Int → mH → Prop) : Prop := Ct x M args h (qL Q)
def CtV (x : mX) (M : mM) (args : List mV) (h : mH) (Q : mH → Prop) : Prop := Ct x M args h (qV Q)
theorem ok_cons {v : mV} {st : List mV} (h1 : okv v) (h2 : ∀ w ∈ st, okv w) : ∀ w ∈ v :: st, okv w := List.forall_mem_cons.mpr ⟨h1, h2⟩
theorem ok_hd {v : mV} {st : List mV} (h : ∀ w ∈ v :: st, okv w) : okv v := h v List.mem_cons_self
theorem ok_tl {v : mV} {st : List mV} (h : ∀ w ∈ v :: st, okv w) : ∀ w ∈ st, okv w := fun w hw => h w (List.mem_cons_of_mem _ hw)
/-! ===== numbers ===== -/
theorem n_toI {z : Int} (h : inR z) : (Int32.ofInt z).toInt = z := Int32.toInt_ofInt_of_le (by have := h.1; omega) (by have := h.2; omega)
theorem n_lt {a b : Int} (ha : inR a) (hb : inR b) : Int32.ofInt a < Int32.ofInt b ↔ a < b := by rw [Int32.lt_iff_toInt_lt, n_toI ha, n_toI hb]
theorem n_le {a b : Int} (ha : inR a) (hb : inR b) : Int32.ofInt a ≤ Int32.ofInt b ↔ a ≤ b := by rw [Int32.le_iff_toInt_le, n_toI ha, n_toI hb]
theorem n_eq {a b : Int} (ha : inR a) (hb : inR b) : Int32.ofInt a = Int32.ofInt b ↔ a = b := by rw [← Int32.toInt_inj, n_toI ha, n_toI hb]
theorem n_r0 : inR 0 := ⟨by decide, by decide⟩
theorem n_r1 : inR 1 := ⟨by decide, by decide⟩
theorem n_0 : Int32.ofInt 0 = 0 := rfl
theorem n_clamp {z : Int} (h : inR z) (h0 : 0 ≤ z) : (Int32.ofInt z).toNatClampNeg = z.toNat := by
  show (Int32.ofInt z).toInt.toNat = z.toNat
  rw [n_toI h]
theorem n_in {z : Int} {n : Nat} (h : inR z) (h0 : 0 ≤ z) (h1 : z < n) : vp_in (Int32.ofInt z) n := by
  rw [vp_in_iff, n_toI h]
  exact ⟨h0, h1⟩
theorem n_toL {z : Int} (h : inL z) : (Int64.ofInt z).toInt = z := Int64.toInt_ofInt_of_le (by have := h.1; omega) (by have := h.2; omega)
theorem n_ltL {a b : Int} (ha : inL a) (hb : inL b) : Int64.ofInt a < Int64.ofInt b ↔ a < b := by rw [Int64.lt_iff_toInt_lt, n_toL ha, n_toL hb]
theorem n_eqL {a b : Int} (ha : inL a) (hb : inL b) : Int64.ofInt a = Int64.ofInt b ↔ a = b := by rw [← Int64.toInt_inj, n_toL ha, n_toL hb]
theorem n_div {a b : Int} (ha : inR a) (h0 : 0 ≤ a) (hb : inR b) (hb0 : 0 < b) : Int32.ofInt a / Int32.ofInt b = Int32.ofInt (a / b) := by
  have hr : inR (a / b) := ⟨by have := Int.ediv_nonneg h0 (Int.le_of_lt hb0); omega, by have := Int.ediv_le_self b h0; have := ha.2; omega⟩
  apply Int32.toInt.inj
  rw [n_toI hr, Int32.toInt_div_of_ne_right _ _ (by intro e; have := congrArg Int32.toInt e; rw [n_toI hb] at this; have e2 : (-1 : Int32).toInt = -1 := rfl; omega), n_toI ha, n_toI hb, Int.tdiv_eq_ediv_of_nonneg h0]
theorem n_divL {a b : Int} (ha : inL a) (h0 : 0 ≤ a) (hb : inL b) (hb0 : 0 < b) : Int64.ofInt a / Int64.ofInt b = Int64.ofInt (a / b) := by
  have hr : inL (a / b) := ⟨by have := Int.ediv_nonneg h0 (Int.le_of_lt hb0); omega, by have := Int.ediv_le_self b h0; have := ha.2; omega⟩
  apply Int64.toInt.inj
  rw [n_toL hr, Int64.toInt_div_of_ne_right _ _ (by intro e; have := congrArg Int64.toInt e; rw [n_toL hb] at this; have e2 : (-1 : Int64).toInt = -1 := rfl; omega), n_toL ha, n_toL hb, Int.tdiv_eq_ediv_of_nonneg h0]
end
section
/-! ===== one instruction, a row ===== -/
section MROWS
variable {x : mX} {M : mM} {pc : Nat} {ls st : List mV} {h : mH} {Q : mV → mH → Prop}
theorem go_iconst {n : Int} (hd : decode M.2.1 pc = .ok (.iconst n, 1)) (h1 : inR n) (k : Go x M (pc + 1) ls (xI n :: st) h Q) : Go x M pc ls st h Q :=
  fun p e s m args below meth c H locs la hC hH hL hs => lv_iconst hC.2.1 hC.2.2.1 hd rfl (k p e s m args below meth c H locs la hC hH hL (ok_cons h1 hs))
theorem go_bipush {n : Int} (hd : decode M.2.1 pc = .ok (.bipush n, 2)) (hv : (Int8.ofInt n).toInt32 = Int32.ofInt n) (h1 : inR n) (k : Go x M (pc + 2) ls (xI n :: st) h Q) : Go x M pc ls st h Q :=
  fun p e s m args below meth c H locs la hC hH hL hs => lv_bipush hC.2.1 hC.2.2.1 hd hv (k p e s m args below meth c H locs la hC hH hL (ok_cons h1 hs))
theorem go_sipush {n : Int} (hd : decode M.2.1 pc = .ok (.sipush n, 3)) (hv : (Int16.ofInt n).toInt32 = Int32.ofInt n) (h1 : inR n) (k : Go x M (pc + 3) ls (xI n :: st) h Q) : Go x M pc ls st h Q :=
  fun p e s m args below meth c H locs la hC hH hL hs => lv_sipush hC.2.1 hC.2.2.1 hd hv (k p e s m args below meth c H locs la hC hH hL (ok_cons h1 hs))
theorem go_ldc {idx : Nat} {n : Int} (hd : decode M.2.1 pc = .ok (.ldc idx, 2)) (hw : Cond.constant M.1.cls idx (Int32.ofInt n) ∈ gd_tbl) (h1 : inR n) (k : Go x M (pc + 2) ls (xI n :: st) h Q) : Go x M pc ls st h Q :=
  fun p e s m args below meth c H locs la hC hH hL hs => lv_ldc hC.2.1 hC.2.2.1 hC.2.2.2.2.2.1 (hC.2.2.2.2.2.2.1 _ hw) hd (k p e s m args below meth c H locs la hC hH hL (ok_cons h1 hs))
theorem go_ldcw {idx : Nat} {n : Int} (hd : decode M.2.1 pc = .ok (.ldc_w idx, 3)) (hw : Cond.constant M.1.cls idx (Int32.ofInt n) ∈ gd_tbl) (h1 : inR n) (k : Go x M (pc + 3) ls (xI n :: st) h Q) : Go x M pc ls st h Q :=
  fun p e s m args below meth c H locs la hC hH hL hs => lv_ldcw hC.2.1 hC.2.2.1 hC.2.2.2.2.2.1 (hC.2.2.2.2.2.2.1 _ hw) hd (k p e s m args below meth c H locs la hC hH hL (ok_cons h1 hs))
theorem go_lconst {n : Fin 2} {z : Int} (hd : decode M.2.1 pc = .ok (.lconst n, 1)) (hv : Int64.ofNat (n : Nat) = Int64.ofInt z) (h1 : inL z) (k : Go x M (pc + 1) ls (xL z :: st) h Q) : Go x M pc ls st h Q :=
  fun p e s m args below meth c H locs la hC hH hL hs => lv_lconst hC.2.1 hC.2.2.1 hd hv (k p e s m args below meth c H locs la hC hH hL (ok_cons h1 hs))
theorem lo_get {la : Array Slot} {n i : Nat} {v : mV} (hL : Lo x la n ls) (hi : ls[i]? = some v) (hv : v ≠ xU) : la[i]? = some (.val (cv x v)) := hL.2.2.2.1 i v hi hv
theorem lo_ok {la : Array Slot} {n i : Nat} {v : mV} (hL : Lo x la n ls) (hi : ls[i]? = some v) : okv v := hL.2.2.2.2 v (List.mem_of_getElem? hi)
theorem go_iload_n {j : Fin 4} {z : Int} (hd : decode M.2.1 pc = .ok (.iload_n j, 1)) (hi : ls[(j : Nat)]? = some (xI z)) (k : Go x M (pc + 1) ls (xI z :: st) h Q) : Go x M pc ls st h Q :=
  fun p e s m args below meth c H locs la hC hH hL hs => lv_iload_n hC.2.1 hC.2.2.1 hd rfl (lo_get hL hi (by simp)) (k p e s m args below meth c H locs la hC hH hL (ok_cons (lo_ok hL hi) hs))
theorem go_iload {j : Nat} {z : Int} (hd : decode M.2.1 pc = .ok (.iload j, 2)) (hi : ls[j]? = some (xI z)) (k : Go x M (pc + 2) ls (xI z :: st) h Q) : Go x M pc ls st h Q :=
  fun p e s m args below meth c H locs la hC hH hL hs => lv_iload hC.2.1 hC.2.2.1 hd (lo_get hL hi (by simp)) (k p e s m args below meth c H locs la hC hH hL (ok_cons (lo_ok hL hi) hs))
theorem go_lload_n {j : Fin 4} {z : Int} (hd : decode M.2.1 pc = .ok (.lload_n j, 1)) (hi : ls[(j : Nat)]? = some (xL z)) (k : Go x M (pc + 1) ls (xL z :: st) h Q) : Go x M pc ls st h Q :=
  fun p e s m args below meth c H locs la hC hH hL hs => lv_lload_n hC.2.1 hC.2.2.1 hd rfl (lo_get hL hi (by simp)) (k p e s m args below meth c H locs la hC hH hL (ok_cons (lo_ok hL hi) hs))
theorem go_lload {j : Nat} {z : Int} (hd : decode M.2.1 pc = .ok (.lload j, 2)) (hi : ls[j]? = some (xL z)) (k : Go x M (pc + 2) ls (xL z :: st) h Q) : Go x M pc ls st h Q :=
  fun p e s m args below meth c H locs la hC hH hL hs => lv_lload hC.2.1 hC.2.2.1 hd (lo_get hL hi (by simp)) (k p e s m args below meth c H locs la hC hH hL (ok_cons (lo_ok hL hi) hs))
theorem go_aload_n {j : Fin 4} {i : Nat} (hd : decode M.2.1 pc = .ok (.aload_n j, 1)) (hi : ls[(j : Nat)]? = some (xR i)) (k : Go x M (pc + 1) ls (xR i :: st) h Q) : Go x M pc ls st h Q :=
  fun p e s m args below meth c H locs la hC hH hL hs => lv_aload_n hC.2.1 hC.2.2.1 hd rfl (lo_get hL hi (by simp)) (k p e s m args below meth c H locs la hC hH hL (ok_cons trivial hs))
/-- the locals, as the kit lists them -/
def lpr (x : mX) (ls : List mV) : List (Nat × Value) := (List.range ls.length).filterMap (fun k => match (ls[k]? : Option mV) with
  | some (Sum.inr (Sum.inr (Sum.inr _))) => none
  | some v => some (k, cv x v)
  | none => none)
theorem lpr_mem {k : Nat} {v : mV} (hk : ls[k]? = some v) (hv : v ≠ xU) : (k, cv x v) ∈ lpr x ls := by
  refine List.mem_filterMap.mpr ⟨k, List.mem_range.mpr (List.getElem?_eq_some_iff.mp hk).1, ?_⟩
  rw [hk]
  rcases v with z | z | i | u
  · rfl
  · rfl
  · rfl
  · exact absurd rfl hv
theorem lpr_of {q : Nat × Value} (hq : q ∈ lpr x ls) : ∃ v, ls[q.1]? = some v ∧ v ≠ xU ∧ q.2 = cv x v := by
  obtain ⟨k, -, hk⟩ := List.mem_filterMap.mp hq
  cases hv : ls[k]? with
  | none => rw [hv] at hk; cases hk
  | some v =>
    rw [hv] at hk
    rcases v with z | z | i | u
    · cases hk; exact ⟨_, hv, by simp, rfl⟩
    · cases hk; exact ⟨_, hv, by simp, rfl⟩
    · cases hk; exact ⟨_, hv, by simp, rfl⟩
    · cases hk
theorem lo_has {la : Array Slot} {n : Nat} (hL : Lo x la n ls) : lv_has la n (lpr x ls) := ⟨hL.1, hL.2.1, fun q hq => by
  obtain ⟨v, h1, h2, h3⟩ := lpr_of hq
  rw [h3]
  exact hL.2.2.2.1 _ _ h1 h2⟩
def isLv (v : mV) : Bool := match v with
  | .inr (.inl _) => true
  | _ => false
theorem cat_lv {v : mV} (h : isLv v = false) : (cv x v).category = 1 := by
  rcases v with z | z | i | u
  · rfl
  · simp [isLv] at h
  · rfl
  · rfl
theorem lo_set1 {la la' : Array Slot} {n i : Nat} {v : mV} {w : Value} (hL : Lo x la n ls) (hw : w = cv x v) (hok : okv v) (hi : i < ls.length) (hp : isLv (ls.getD (i - 1) xU) = false) (h1 : lv_has la' n ((i, w) :: (lpr x ls).filter (fun q => !(q.1 == i) && !(q.1 + 1 == i && q.2.category == 2)))) : Lo x la' n (ls.set i v) := by
  refine ⟨h1.1, h1.2.1, by rw [List.length_set]; exact hL.2.2.1, fun k u hk hu => ?_, fun u hu => ?_⟩
  · by_cases e : i = k
    · subst e
      rw [List.getElem?_set_self hi] at hk
      cases hk
      subst hw
      exact h1.2.2 (i, cv x v) List.mem_cons_self
    · rw [List.getElem?_set_ne e] at hk
      refine h1.2.2 (k, cv x u) (List.mem_cons_of_mem _ (List.mem_filter.mpr ⟨lpr_mem hk hu, ?_⟩))
      have e1 : (k == i) = false := by simpa using (Ne.symm e)
      have e2 : (k + 1 == i && (cv x u).category == 2) = false := by
        by_cases z : k + 1 = i
        · have : isLv u = false := by
            have hk2 : ls.getD (i - 1) xU = u := by rw [List.getD_eq_getElem?_getD, show i - 1 = k by omega, hk]; rfl
            rw [← hk2]; exact hp
          rw [cat_lv this]; simp
        · simp [z]
      simp only [e1, e2]; rfl
  · rcases List.mem_or_eq_of_mem_set hu with q | q
    · exact hL.2.2.2.2 u q
    · rw [q]; exact hok
theorem lo_set2 {la la' : Array Slot} {n i : Nat} {z : Int} {w : Value} (hL : Lo x la n ls) (hw : w = cv x (xL z)) (hok : okv (xL z)) (hi : i + 1 < ls.length) (hp : isLv (ls.getD (i - 1) xU) = false) (h1 : lv_has la' n ((i, w) :: (lpr x ls).filter (fun q => !(q.1 == i) && (!(q.1 == i + 1) && !(q.1 + 1 == i && q.2.category == 2))))) : Lo x la' n ((ls.set i (xL z)).set (i + 1) xU) := by
  refine ⟨h1.1, h1.2.1, by rw [List.length_set, List.length_set]; exact hL.2.2.1, fun k u hk hu => ?_, fun u hu => ?_⟩
  · by_cases e0 : i + 1 = k
    · subst e0
      rw [List.getElem?_set_self (by rw [List.length_set]; exact hi)] at hk
      cases hk
      exact absurd rfl hu
    · rw [List.getElem?_set_ne e0] at hk
      by_cases e : i = k
      · subst e
        rw [List.getElem?_set_self (by omega)] at hk
        cases hk
        subst hw
        exact h1.2.2 (i, cv x (xL z)) List.mem_cons_self
      · rw [List.getElem?_set_ne e] at hk
        have e1 : (k == i) = false := by simpa using (Ne.symm e)
        have e3 : (k == i + 1) = false := by simpa using (Ne.symm e0)
        have e2 : (k + 1 == i && (cv x u).category == 2) = false := by
          by_cases zz : k + 1 = i
          · have : isLv u = false := by
              have hk2 : ls.getD (i - 1) xU = u := by rw [List.getD_eq_getElem?_getD, show i - 1 = k by omega, hk]; rfl
              rw [← hk2]; exact hp
            rw [cat_lv this]; simp
          · simp [zz]
        refine h1.2.2 (k, cv x u) (List.mem_cons_of_mem _ (List.mem_filter.mpr ⟨lpr_mem hk hu, ?_⟩))
        simp only [e1, e2, e3]; rfl
  · rcases List.mem_or_eq_of_mem_set hu with q | q
    · rcases List.mem_or_eq_of_mem_set q with q | q
      · exact hL.2.2.2.2 u q
      · rw [q]; exact hok
    · rw [q]; trivial
theorem go_istore_n {j : Fin 4} {z : Int} {ls' : List mV} (n : Nat) (hd : decode M.2.1 pc = .ok (.istore_n j, 1)) (hj : (j : Nat) = n) (hi : n < ls.length) (hp : isLv (ls.getD (n - 1) xU) = false) (hl : ls.set n (xI z) = ls') (k : Go x M (pc + 1) ls' st h Q) : Go x M pc ls (xI z :: st) h Q := by
  subst hj
  subst hl
  intro p e s m args below meth c H locs la hC hH hL hs
  refine lv_istore_n hC.2.1 hC.2.2.1 hd rfl (lo_has hL) (Nat.lt_of_lt_of_le hi hL.2.2.1) rfl fun la' h1 => ?_
  exact k p e s m args below meth c H locs la' hC hH (lo_set1 hL rfl (ok_hd hs) hi hp h1) (ok_tl hs)
theorem go_istore {j : Nat} {z : Int} {ls' : List mV} (hd : decode M.2.1 pc = .ok (.istore j, 2)) (hi : j < ls.length) (hp : isLv (ls.getD (j - 1) xU) = false) (hl : ls.set j (xI z) = ls') (k : Go x M (pc + 2) ls' st h Q) : Go x M pc ls (xI z :: st) h Q := by
  subst hl
  intro p e s m args below meth c H locs la hC hH hL hs
  refine lv_istore hC.2.1 hC.2.2.1 hd (lo_has hL) (Nat.lt_of_lt_of_le hi hL.2.2.1) rfl fun la' h1 => ?_
  exact k p e s m args below meth c H locs la' hC hH (lo_set1 hL rfl (ok_hd hs) hi hp h1) (ok_tl hs)
theorem go_astore_n {j : Fin 4} {i : Nat} {ls' : List mV} (n : Nat) (hd : decode M.2.1 pc = .ok (.astore_n j, 1)) (hj : (j : Nat) = n) (hi : n < ls.length) (hp : isLv (ls.getD (n - 1) xU) = false) (hl : ls.set n (xR i) = ls') (k : Go x M (pc + 1) ls' st h Q) : Go x M pc ls (xR i :: st) h Q := by
  subst hj
  subst hl
  intro p e s m args below meth c H locs la hC hH hL hs
  refine lv_astore_n hC.2.1 hC.2.2.1 hd rfl (lo_has hL) (Nat.lt_of_lt_of_le hi hL.2.2.1) rfl fun la' h1 => ?_
  exact k p e s m args below meth c H locs la' hC hH (lo_set1 hL rfl (ok_hd hs) hi hp h1) (ok_tl hs)
theorem go_lstore_n {j : Fin 4} {z : Int} {ls' : List mV} (n : Nat) (hd : decode M.2.1 pc = .ok (.lstore_n j, 1)) (hj : (j : Nat) = n) (hi : n + 1 < ls.length) (hp : isLv (ls.getD (n - 1) xU) = false) (hl : (ls.set n (xL z)).set (n + 1) xU = ls') (k : Go x M (pc + 1) ls' st h Q) : Go x M pc ls (xL z :: st) h Q := by
  subst hj
  subst hl
  intro p e s m args below meth c H locs la hC hH hL hs
  refine lv_lstore_n hC.2.1 hC.2.2.1 hd rfl (lo_has hL) (Nat.lt_of_lt_of_le hi hL.2.2.1) rfl fun la' h1 => ?_
  exact k p e s m args below meth c H locs la' hC hH (lo_set2 hL rfl (ok_hd hs) hi hp h1) (ok_tl hs)
theorem go_lstore {j : Nat} {z : Int} {ls' : List mV} (hd : decode M.2.1 pc = .ok (.lstore j, 2)) (hi : j + 1 < ls.length) (hp : isLv (ls.getD (j - 1) xU) = false) (hl : (ls.set j (xL z)).set (j + 1) xU = ls') (k : Go x M (pc + 2) ls' st h Q) : Go x M pc ls (xL z :: st) h Q := by
  subst hl
  intro p e s m args below meth c H locs la hC hH hL hs
  refine lv_lstore hC.2.1 hC.2.2.1 hd (lo_has hL) (Nat.lt_of_lt_of_le hi hL.2.2.1) rfl fun la' h1 => ?_
  exact k p e s m args below meth c H locs la' hC hH (lo_set2 hL rfl (ok_hd hs) hi hp h1) (ok_tl hs)
theorem go_iinc {j : Nat} {n z y : Int} {ls' : List mV} (hd : decode M.2.1 pc = .ok (.iinc j n, 3)) (hg : ls[j]? = some (xI z)) (hp : isLv (ls.getD (j - 1) xU) = false) (hy : z + n = y) (h1 : -2147483648 ≤ y) (h2 : y < 2147483648) (hl : ls.set j (xI y) = ls') (k : Go x M (pc + 3) ls' st h Q) : Go x M pc ls st h Q := by
  subst hl
  subst hy
  intro p e s m args below meth c H locs la hC hH hL hs
  have hi : j < ls.length := (List.getElem?_eq_some_iff.mp hg).1
  obtain ⟨kk, hk⟩ := List.getElem?_of_mem (lpr_mem (x := x) hg (by simp))
  refine lv_iinc hC.2.1 hC.2.2.1 hd (lo_has hL) hk (Int32.ofInt_add z n).symm (Nat.lt_of_lt_of_le hi hL.2.2.1) rfl fun la' h3 => ?_
  exact k p e s m args below meth c H locs la' hC hH (lo_set1 hL rfl ⟨h1, h2⟩ hi hp h3) hs
theorem go_iadd {a b : Int} (hd : decode M.2.1 pc = .ok (.iadd, 1)) (h1 : -2147483648 ≤ a + b) (h2 : a + b < 2147483648) (k : Go x M (pc + 1) ls (xI (a + b) :: st) h Q) : Go x M pc ls (xI b :: xI a :: st) h Q := by
  intro p e s m args below meth c H locs la hC hH hL hs
  refine lv_iadd hC.2.1 hC.2.2.1 hd ?_
  rw [← Int32.ofInt_add]
  exact k p e s m args below meth c H locs la hC hH hL (ok_cons ⟨h1, h2⟩ (ok_tl (ok_tl hs)))
theorem go_isub {a b : Int} (hd : decode M.2.1 pc = .ok (.isub, 1)) (h1 : -2147483648 ≤ a - b) (h2 : a - b < 2147483648) (k : Go x M (pc + 1) ls (xI (a - b) :: st) h Q) : Go x M pc ls (xI b :: xI a :: st) h Q := by
  intro p e s m args below meth c H locs la hC hH hL hs
  refine lv_isub hC.2.1 hC.2.2.1 hd ?_
  rw [← Int32.ofInt_sub]
  exact k p e s m args below meth c H locs la hC hH hL (ok_cons ⟨h1, h2⟩ (ok_tl (ok_tl hs)))
theorem go_imul {a b : Int} (hd : decode M.2.1 pc = .ok (.imul, 1)) (h1 : -2147483648 ≤ a * b) (h2 : a * b < 2147483648) (k : Go x M (pc + 1) ls (xI (a * b) :: st) h Q) : Go x M pc ls (xI b :: xI a :: st) h Q := by
  intro p e s m args below meth c H locs la hC hH hL hs
  refine lv_imul hC.2.1 hC.2.2.1 hd ?_
  rw [← Int32.ofInt_mul]
  exact k p e s m args below meth c H locs la hC hH hL (ok_cons ⟨h1, h2⟩ (ok_tl (ok_tl hs)))
theorem go_idiv {a b : Int} (hd : decode M.2.1 pc = .ok (.idiv, 1)) (h1 : 0 ≤ a) (h2 : 0 < b) (k : Go x M (pc + 1) ls (xI (a / b) :: st) h Q) : Go x M pc ls (xI b :: xI a :: st) h Q := by
  intro p e s m args below meth c H locs la hC hH hL hs
  have hb : inR b := ok_hd hs
  have ha : inR a := ok_hd (ok_tl hs)
  refine lv_idiv hC.2.1 hC.2.2.1 hd (fun q => by rw [← n_0, n_eq hb n_r0] at q; omega) ?_
  rw [n_div ha h1 hb h2]
  exact k p e s m args below meth c H locs la hC hH hL (ok_cons ⟨by have := Int.ediv_nonneg h1 (Int.le_of_lt h2); omega, by have := Int.ediv_le_self b h1; have := ha.2; omega⟩ (ok_tl (ok_tl hs)))
theorem go_iand {a b z : Int} (hd : decode M.2.1 pc = .ok (.iand, 1)) (hz : Int32.ofInt a &&& Int32.ofInt b = Int32.ofInt z) (h1 : inR z) (k : Go x M (pc + 1) ls (xI z :: st) h Q) : Go x M pc ls (xI b :: xI a :: st) h Q := by
  intro p e s m args below meth c H locs la hC hH hL hs
  refine lv_iand hC.2.1 hC.2.2.1 hd ?_
  rw [hz]
  exact k p e s m args below meth c H locs la hC hH hL (ok_cons h1 (ok_tl (ok_tl hs)))
theorem go_ior {a b z : Int} (hd : decode M.2.1 pc = .ok (.ior, 1)) (hz : Int32.ofInt a ||| Int32.ofInt b = Int32.ofInt z) (h1 : inR z) (k : Go x M (pc + 1) ls (xI z :: st) h Q) : Go x M pc ls (xI b :: xI a :: st) h Q := by
  intro p e s m args below meth c H locs la hC hH hL hs
  refine lv_ior hC.2.1 hC.2.2.1 hd ?_
  rw [hz]
  exact k p e s m args below meth c H locs la hC hH hL (ok_cons h1 (ok_tl (ok_tl hs)))
theorem go_ishl {a b z : Int} (hd : decode M.2.1 pc = .ok (.ishl, 1)) (hz : Int32.ofInt a <<< (Int32.ofInt b &&& 31) = Int32.ofInt z) (h1 : inR z) (k : Go x M (pc + 1) ls (xI z :: st) h Q) : Go x M pc ls (xI b :: xI a :: st) h Q := by
  intro p e s m args below meth c H locs la hC hH hL hs
  refine lv_ishl hC.2.1 hC.2.2.1 hd ?_
  rw [hz]
  exact k p e s m args below meth c H locs la hC hH hL (ok_cons h1 (ok_tl (ok_tl hs)))
theorem go_ishr {a b z : Int} (hd : decode M.2.1 pc = .ok (.ishr, 1)) (hz : Int32.ofInt a >>> (Int32.ofInt b &&& 31) = Int32.ofInt z) (h1 : inR z) (k : Go x M (pc + 1) ls (xI z :: st) h Q) : Go x M pc ls (xI b :: xI a :: st) h Q := by
  intro p e s m args below meth c H locs la hC hH hL hs
  refine lv_ishr hC.2.1 hC.2.2.1 hd ?_
  rw [hz]
  exact k p e s m args below meth c H locs la hC hH hL (ok_cons h1 (ok_tl (ok_tl hs)))
theorem go_iushr {a b z : Int} (hd : decode M.2.1 pc = .ok (.iushr, 1)) (hz : ((Int32.ofInt a).toUInt32 >>> ((Int32.ofInt b).toUInt32 &&& Int32.toUInt32 31)).toInt32 = Int32.ofInt z) (h1 : inR z) (k : Go x M (pc + 1) ls (xI z :: st) h Q) : Go x M pc ls (xI b :: xI a :: st) h Q := by
  intro p e s m args below meth c H locs la hC hH hL hs
  exact lv_iushr hC.2.1 hC.2.2.1 hd hz (k p e s m args below meth c H locs la hC hH hL (ok_cons h1 (ok_tl (ok_tl hs))))
theorem go_dupI {a : Int} (hd : decode M.2.1 pc = .ok (.dup, 1)) (k : Go x M (pc + 1) ls (xI a :: xI a :: st) h Q) : Go x M pc ls (xI a :: st) h Q :=
  fun p e s m args below meth c H locs la hC hH hL hs => lv_dup hC.2.1 hC.2.2.1 hd rfl (k p e s m args below meth c H locs la hC hH hL (ok_cons (ok_hd hs) hs))
theorem go_dupR {a : Nat} (hd : decode M.2.1 pc = .ok (.dup, 1)) (k : Go x M (pc + 1) ls (xR a :: xR a :: st) h Q) : Go x M pc ls (xR a :: st) h Q :=
  fun p e s m args below meth c H locs la hC hH hL hs => lv_dup hC.2.1 hC.2.2.1 hd rfl (k p e s m args below meth c H locs la hC hH hL (ok_cons (ok_hd hs) hs))
theorem go_dup2 {a : Int} {b : Nat} (hd : decode M.2.1 pc = .ok (.dup2, 1)) (k : Go x M (pc + 1) ls (xI a :: xR b :: xI a :: xR b :: st) h Q) : Go x M pc ls (xI a :: xR b :: st) h Q :=
  fun p e s m args below meth c H locs la hC hH hL hs => lv_dup2_11 hC.2.1 hC.2.2.1 hd rfl rfl (k p e s m args below meth c H locs la hC hH hL (ok_cons (ok_hd hs) (ok_cons (ok_hd (ok_tl hs)) hs)))
theorem go_popI {a : Int} (hd : decode M.2.1 pc = .ok (.pop, 1)) (k : Go x M (pc + 1) ls st h Q) : Go x M pc ls (xI a :: st) h Q :=
  fun p e s m args below meth c H locs la hC hH hL hs => lv_pop hC.2.1 hC.2.2.1 hd rfl (k p e s m args below meth c H locs la hC hH hL (ok_tl hs))
theorem go_goto {off : Int} {tgt : Nat} (hd : decode M.2.1 pc = .ok (.goto off, 3)) (ht : (pc : Int) + off = (tgt : Int)) (k : Go x M tgt ls st h Q) : Go x M pc ls st h Q :=
  fun p e s m args below meth c H locs la hC hH hL hs => lv_goto hC.2.1 hC.2.2.1 hd ht (k p e s m args below meth c H locs la hC hH hL hs)
theorem go_ifnonnull {i : Nat} {off : Int} {tgt : Nat} (hd : decode M.2.1 pc = .ok (.ifnonnull off, 3)) (ht : (pc : Int) + off = (tgt : Int)) (k : Go x M tgt ls st h Q) : Go x M pc ls (xR i :: st) h Q :=
  fun p e s m args below meth c H locs la hC hH hL hs => lv_ifnonnull hC.2.1 hC.2.2.1 hd ht (k p e s m args below meth c H locs la hC hH hL (ok_tl hs))
theorem go_icmp_eq {a b : Int} {off : Int} {tgt : Nat} (hd : decode M.2.1 pc = .ok (.if_icmp .eq off, 3)) (ht : (pc : Int) + off = (tgt : Int)) (k1 : a = b → Go x M tgt ls st h Q) (k2 : a ≠ b → Go x M (pc + 3) ls st h Q) : Go x M pc ls (xI b :: xI a :: st) h Q := by
  intro p e s m args below meth c H locs la hC hH hL hs
  have hb : inR b := ok_hd hs
  have ha : inR a := ok_hd (ok_tl hs)
  have k1 := fun q => k1 q p e s m args below meth c H locs la hC hH hL (ok_tl (ok_tl hs))
  have k2 := fun q => k2 q p e s m args below meth c H locs la hC hH hL (ok_tl (ok_tl hs))
  exact lv_icmp_eq hC.2.1 hC.2.2.1 hd ht (fun q => k1 ((n_eq ha hb).mp q)) (fun q => k2 (fun z => q ((n_eq ha hb).mpr z)))
theorem go_if_eq {a : Int} {off : Int} {tgt : Nat} (hd : decode M.2.1 pc = .ok (.ifCond .eq off, 3)) (ht : (pc : Int) + off = (tgt : Int)) (k1 : a = 0 → Go x M tgt ls st h Q) (k2 : a ≠ 0 → Go x M (pc + 3) ls st h Q) : Go x M pc ls (xI a :: st) h Q := by
  intro p e s m args below meth c H locs la hC hH hL hs
  have ha : inR a := ok_hd hs
  have k1 := fun q => k1 q p e s m args below meth c H locs la hC hH hL (ok_tl hs)
  have k2 := fun q => k2 q p e s m args below meth c H locs la hC hH hL (ok_tl hs)
  refine lv_if_eq hC.2.1 hC.2.2.1 hd ht ?_ ?_
  · rw [← n_0]; exact fun q => k1 ((n_eq ha n_r0).mp q)
  · rw [← n_0]; exact fun q => k2 (fun z => q ((n_eq ha n_r0).mpr z))
theorem go_icmp_eq_t {a b : Int} {off : Int} {tgt : Nat} (hd : decode M.2.1 pc = .ok (.if_icmp .eq off, 3)) (ht : (pc : Int) + off = (tgt : Int)) (q : a = b) (k : Go x M tgt ls st h Q) : Go x M pc ls (xI b :: xI a :: st) h Q := go_icmp_eq hd ht (fun _ => k) (fun z => by omega)
theorem go_icmp_eq_f {a b : Int} {off : Int} {tgt : Nat} (hd : decode M.2.1 pc = .ok (.if_icmp .eq off, 3)) (ht : (pc : Int) + off = (tgt : Int)) (q : a ≠ b) (k : Go x M (pc + 3) ls st h Q) : Go x M pc ls (xI b :: xI a :: st) h Q := go_icmp_eq hd ht (fun z => by omega) (fun _ => k)
theorem go_if_eq_t {a : Int} {off : Int} {tgt : Nat} (hd : decode M.2.1 pc = .ok (.ifCond .eq off, 3)) (ht : (pc : Int) + off = (tgt : Int)) (q : a = 0) (k : Go x M tgt ls st h Q) : Go x M pc ls (xI a :: st) h Q := go_if_eq hd ht (fun _ => k) (fun z => by omega)
theorem go_if_eq_f {a : Int} {off : Int} {tgt : Nat} (hd : decode M.2.1 pc = .ok (.ifCond .eq off, 3)) (ht : (pc : Int) + off = (tgt : Int)) (q : a ≠ 0) (k : Go x M (pc + 3) ls st h Q) : Go x M pc ls (xI a :: st) h Q := go_if_eq hd ht (fun z => by omega) (fun _ => k)
theorem go_icmp_ne {a b : Int} {off : Int} {tgt : Nat} (hd : decode M.2.1 pc = .ok (.if_icmp .ne off, 3)) (ht : (pc : Int) + off = (tgt : Int)) (k1 : a ≠ b → Go x M tgt ls st h Q) (k2 : a = b → Go x M (pc + 3) ls st h Q) : Go x M pc ls (xI b :: xI a :: st) h Q := by
  intro p e s m args below meth c H locs la hC hH hL hs
  have hb : inR b := ok_hd hs
  have ha : inR a := ok_hd (ok_tl hs)
  have k1 := fun q => k1 q p e s m args below meth c H locs la hC hH hL (ok_tl (ok_tl hs))
  have k2 := fun q => k2 q p e s m args below meth c H locs la hC hH hL (ok_tl (ok_tl hs))
  exact lv_icmp_ne hC.2.1 hC.2.2.1 hd ht (fun q => k1 (fun z => q ((n_eq ha hb).mpr z))) (fun q => k2 ((n_eq ha hb).mp q))
theorem go_if_ne {a : Int} {off : Int} {tgt : Nat} (hd : decode M.2.1 pc = .ok (.ifCond .ne off, 3)) (ht : (pc : Int) + off = (tgt : Int)) (k1 : a ≠ 0 → Go x M tgt ls st h Q) (k2 : a = 0 → Go x M (pc + 3) ls st h Q) : Go x M pc ls (xI a :: st) h Q := by
  intro p e s m args below meth c H locs la hC hH hL hs
  have ha : inR a := ok_hd hs
  have k1 := fun q => k1 q p e s m args below meth c H locs la hC hH hL (ok_tl hs)
  have k2 := fun q => k2 q p e s m args below meth c H locs la hC hH hL (ok_tl hs)
  refine lv_if_ne hC.2.1 hC.2.2.1 hd ht ?_ ?_
  · rw [← n_0]; exact fun q => k1 (fun z => q ((n_eq ha n_r0).mpr z))
  · rw [← n_0]; exact fun q => k2 ((n_eq ha n_r0).mp q)
theorem go_icmp_ne_t {a b : Int} {off : Int} {tgt : Nat} (hd : decode M.2.1 pc = .ok (.if_icmp .ne off, 3)) (ht : (pc : Int) + off = (tgt : Int)) (q : a ≠ b) (k : Go x M tgt ls st h Q) : Go x M pc ls (xI b :: xI a :: st) h Q := go_icmp_ne hd ht (fun _ => k) (fun z => by omega)
theorem go_icmp_ne_f {a b : Int} {off : Int} {tgt : Nat} (hd : decode M.2.1 pc = .ok (.if_icmp .ne off, 3)) (ht : (pc : Int) + off = (tgt : Int)) (q : a = b) (k : Go x M (pc + 3) ls st h Q) : Go x M pc ls (xI b :: xI a :: st) h Q := go_icmp_ne hd ht (fun z => by omega) (fun _ => k)
theorem go_if_ne_t {a : Int} {off : Int} {tgt : Nat} (hd : decode M.2.1 pc = .ok (.ifCond .ne off, 3)) (ht : (pc : Int) + off = (tgt : Int)) (q : a ≠ 0) (k : Go x M tgt ls st h Q) : Go x M pc ls (xI a :: st) h Q := go_if_ne hd ht (fun _ => k) (fun z => by omega)
theorem go_if_ne_f {a : Int} {off : Int} {tgt : Nat} (hd : decode M.2.1 pc = .ok (.ifCond .ne off, 3)) (ht : (pc : Int) + off = (tgt : Int)) (q : a = 0) (k : Go x M (pc + 3) ls st h Q) : Go x M pc ls (xI a :: st) h Q := go_if_ne hd ht (fun z => by omega) (fun _ => k)
theorem go_icmp_lt {a b : Int} {off : Int} {tgt : Nat} (hd : decode M.2.1 pc = .ok (.if_icmp .lt off, 3)) (ht : (pc : Int) + off = (tgt : Int)) (k1 : a < b → Go x M tgt ls st h Q) (k2 : b ≤ a → Go x M (pc + 3) ls st h Q) : Go x M pc ls (xI b :: xI a :: st) h Q := by
  intro p e s m args below meth c H locs la hC hH hL hs
  have hb : inR b := ok_hd hs
  have ha : inR a := ok_hd (ok_tl hs)
  have k1 := fun q => k1 q p e s m args below meth c H locs la hC hH hL (ok_tl (ok_tl hs))
  have k2 := fun q => k2 q p e s m args below meth c H locs la hC hH hL (ok_tl (ok_tl hs))
  exact lv_icmp_lt hC.2.1 hC.2.2.1 hd ht (fun q => k1 ((n_lt ha hb).mp q)) (fun q => k2 (by rw [n_lt ha hb] at q; omega))
theorem go_if_lt {a : Int} {off : Int} {tgt : Nat} (hd : decode M.2.1 pc = .ok (.ifCond .lt off, 3)) (ht : (pc : Int) + off = (tgt : Int)) (k1 : a < 0 → Go x M tgt ls st h Q) (k2 : 0 ≤ a → Go x M (pc + 3) ls st h Q) : Go x M pc ls (xI a :: st) h Q := by
  intro p e s m args below meth c H locs la hC hH hL hs
  have ha : inR a := ok_hd hs
  have k1 := fun q => k1 q p e s m args below meth c H locs la hC hH hL (ok_tl hs)
  have k2 := fun q => k2 q p e s m args below meth c H locs la hC hH hL (ok_tl hs)
  refine lv_if_lt hC.2.1 hC.2.2.1 hd ht ?_ ?_
  · rw [← n_0]; exact fun q => k1 ((n_lt ha n_r0).mp q)
  · rw [← n_0]; exact fun q => k2 (by rw [n_lt ha n_r0] at q; omega)
theorem go_icmp_lt_t {a b : Int} {off : Int} {tgt : Nat} (hd : decode M.2.1 pc = .ok (.if_icmp .lt off, 3)) (ht : (pc : Int) + off = (tgt : Int)) (q : a < b) (k : Go x M tgt ls st h Q) : Go x M pc ls (xI b :: xI a :: st) h Q := go_icmp_lt hd ht (fun _ => k) (fun z => by omega)
theorem go_icmp_lt_f {a b : Int} {off : Int} {tgt : Nat} (hd : decode M.2.1 pc = .ok (.if_icmp .lt off, 3)) (ht : (pc : Int) + off = (tgt : Int)) (q : b ≤ a) (k : Go x M (pc + 3) ls st h Q) : Go x M pc ls (xI b :: xI a :: st) h Q := go_icmp_lt hd ht (fun z => by omega) (fun _ => k)
theorem go_if_lt_t {a : Int} {off : Int} {tgt : Nat} (hd : decode M.2.1 pc = .ok (.ifCond .lt off, 3)) (ht : (pc : Int) + off = (tgt : Int)) (q : a < 0) (k : Go x M tgt ls st h Q) : Go x M pc ls (xI a :: st) h Q := go_if_lt hd ht (fun _ => k) (fun z => by omega)
theorem go_if_lt_f {a : Int} {off : Int} {tgt : Nat} (hd : decode M.2.1 pc = .ok (.ifCond .lt off, 3)) (ht : (pc : Int) + off = (tgt : Int)) (q : 0 ≤ a) (k : Go x M (pc + 3) ls st h Q) : Go x M pc ls (xI a :: st) h Q := go_if_lt hd ht (fun z => by omega) (fun _ => k)
theorem go_icmp_ge {a b : Int} {off : Int} {tgt : Nat} (hd : decode M.2.1 pc = .ok (.if_icmp .ge off, 3)) (ht : (pc : Int) + off = (tgt : Int)) (k1 : b ≤ a → Go x M tgt ls st h Q) (k2 : a < b → Go x M (pc + 3) ls st h Q) : Go x M pc ls (xI b :: xI a :: st) h Q := by
  intro p e s m args below meth c H locs la hC hH hL hs
  have hb : inR b := ok_hd hs
  have ha : inR a := ok_hd (ok_tl hs)
  have k1 := fun q => k1 q p e s m args below meth c H locs la hC hH hL (ok_tl (ok_tl hs))
  have k2 := fun q => k2 q p e s m args below meth c H locs la hC hH hL (ok_tl (ok_tl hs))
  exact lv_icmp_ge hC.2.1 hC.2.2.1 hd ht (fun q => k1 ((n_le hb ha).mp q)) (fun q => k2 (by rw [n_le hb ha] at q; omega))
theorem go_if_ge {a : Int} {off : Int} {tgt : Nat} (hd : decode M.2.1 pc = .ok (.ifCond .ge off, 3)) (ht : (pc : Int) + off = (tgt : Int)) (k1 : 0 ≤ a → Go x M tgt ls st h Q) (k2 : a < 0 → Go x M (pc + 3) ls st h Q) : Go x M pc ls (xI a :: st) h Q := by
  intro p e s m args below meth c H locs la hC hH hL hs
  have ha : inR a := ok_hd hs
  have k1 := fun q => k1 q p e s m args below meth c H locs la hC hH hL (ok_tl hs)
  have k2 := fun q => k2 q p e s m args below meth c H locs la hC hH hL (ok_tl hs)
  refine lv_if_ge hC.2.1 hC.2.2.1 hd ht ?_ ?_
  · rw [← n_0]; exact fun q => k1 ((n_le n_r0 ha).mp q)
  · rw [← n_0]; exact fun q => k2 (by rw [n_le n_r0 ha] at q; omega)
theorem go_icmp_ge_t {a b : Int} {off : Int} {tgt : Nat} (hd : decode M.2.1 pc = .ok (.if_icmp .ge off, 3)) (ht : (pc : Int) + off = (tgt : Int)) (q : b ≤ a) (k : Go x M tgt ls st h Q) : Go x M pc ls (xI b :: xI a :: st) h Q := go_icmp_ge hd ht (fun _ => k) (fun z => by omega)
theorem go_icmp_ge_f {a b : Int} {off : Int} {tgt : Nat} (hd : decode M.2.1 pc = .ok (.if_icmp .ge off, 3)) (ht : (pc : Int) + off = (tgt : Int)) (q : a < b) (k : Go x M (pc + 3) ls st h Q) : Go x M pc ls (xI b :: xI a :: st) h Q := go_icmp_ge hd ht (fun z => by omega) (fun _ => k)
theorem go_if_ge_t {a : Int} {off : Int} {tgt : Nat} (hd : decode M.2.1 pc = .ok (.ifCond .ge off, 3)) (ht : (pc : Int) + off = (tgt : Int)) (q : 0 ≤ a) (k : Go x M tgt ls st h Q) : Go x M pc ls (xI a :: st) h Q := go_if_ge hd ht (fun _ => k) (fun z => by omega)
theorem go_if_ge_f {a : Int} {off : Int} {tgt : Nat} (hd : decode M.2.1 pc = .ok (.ifCond .ge off, 3)) (ht : (pc : Int) + off = (tgt : Int)) (q : a < 0) (k : Go x M (pc + 3) ls st h Q) : Go x M pc ls (xI a :: st) h Q := go_if_ge hd ht (fun z => by omega) (fun _ => k)
theorem go_icmp_gt {a b : Int} {off : Int} {tgt : Nat} (hd : decode M.2.1 pc = .ok (.if_icmp .gt off, 3)) (ht : (pc : Int) + off = (tgt : Int)) (k1 : b < a → Go x M tgt ls st h Q) (k2 : a ≤ b → Go x M (pc + 3) ls st h Q) : Go x M pc ls (xI b :: xI a :: st) h Q := by
  intro p e s m args below meth c H locs la hC hH hL hs
  have hb : inR b := ok_hd hs
  have ha : inR a := ok_hd (ok_tl hs)
  have k1 := fun q => k1 q p e s m args below meth c H locs la hC hH hL (ok_tl (ok_tl hs))
  have k2 := fun q => k2 q p e s m args below meth c H locs la hC hH hL (ok_tl (ok_tl hs))
  exact lv_icmp_gt hC.2.1 hC.2.2.1 hd ht (fun q => k1 ((n_lt hb ha).mp q)) (fun q => k2 (by rw [n_lt hb ha] at q; omega))
theorem go_if_gt {a : Int} {off : Int} {tgt : Nat} (hd : decode M.2.1 pc = .ok (.ifCond .gt off, 3)) (ht : (pc : Int) + off = (tgt : Int)) (k1 : 0 < a → Go x M tgt ls st h Q) (k2 : a ≤ 0 → Go x M (pc + 3) ls st h Q) : Go x M pc ls (xI a :: st) h Q := by
  intro p e s m args below meth c H locs la hC hH hL hs
  have ha : inR a := ok_hd hs
  have k1 := fun q => k1 q p e s m args below meth c H locs la hC hH hL (ok_tl hs)
  have k2 := fun q => k2 q p e s m args below meth c H locs la hC hH hL (ok_tl hs)
  refine lv_if_gt hC.2.1 hC.2.2.1 hd ht ?_ ?_
  · rw [← n_0]; exact fun q => k1 ((n_lt n_r0 ha).mp q)
  · rw [← n_0]; exact fun q => k2 (by rw [n_lt n_r0 ha] at q; omega)
theorem go_icmp_gt_t {a b : Int} {off : Int} {tgt : Nat} (hd : decode M.2.1 pc = .ok (.if_icmp .gt off, 3)) (ht : (pc : Int) + off = (tgt : Int)) (q : b < a) (k : Go x M tgt ls st h Q) : Go x M pc ls (xI b :: xI a :: st) h Q := go_icmp_gt hd ht (fun _ => k) (fun z => by omega)
theorem go_icmp_gt_f {a b : Int} {off : Int} {tgt : Nat} (hd : decode M.2.1 pc = .ok (.if_icmp .gt off, 3)) (ht : (pc : Int) + off = (tgt : Int)) (q : a ≤ b) (k : Go x M (pc + 3) ls st h Q) : Go x M pc ls (xI b :: xI a :: st) h Q := go_icmp_gt hd ht (fun z => by omega) (fun _ => k)
theorem go_if_gt_t {a : Int} {off : Int} {tgt : Nat} (hd : decode M.2.1 pc = .ok (.ifCond .gt off, 3)) (ht : (pc : Int) + off = (tgt : Int)) (q : 0 < a) (k : Go x M tgt ls st h Q) : Go x M pc ls (xI a :: st) h Q := go_if_gt hd ht (fun _ => k) (fun z => by omega)
theorem go_if_gt_f {a : Int} {off : Int} {tgt : Nat} (hd : decode M.2.1 pc = .ok (.ifCond .gt off, 3)) (ht : (pc : Int) + off = (tgt : Int)) (q : a ≤ 0) (k : Go x M (pc + 3) ls st h Q) : Go x M pc ls (xI a :: st) h Q := go_if_gt hd ht (fun z => by omega) (fun _ => k)
theorem go_icmp_le {a b : Int} {off : Int} {tgt : Nat} (hd : decode M.2.1 pc = .ok (.if_icmp .le off, 3)) (ht : (pc : Int) + off = (tgt : Int)) (k1 : a ≤ b → Go x M tgt ls st h Q) (k2 : b < a → Go x M (pc + 3) ls st h Q) : Go x M pc ls (xI b :: xI a :: st) h Q := by
  intro p e s m args below meth c H locs la hC hH hL hs
  have hb : inR b := ok_hd hs
  have ha : inR a := ok_hd (ok_tl hs)
  have k1 := fun q => k1 q p e s m args below meth c H locs la hC hH hL (ok_tl (ok_tl hs))
  have k2 := fun q => k2 q p e s m args below meth c H locs la hC hH hL (ok_tl (ok_tl hs))
  exact lv_icmp_le hC.2.1 hC.2.2.1 hd ht (fun q => k1 ((n_le ha hb).mp q)) (fun q => k2 (by rw [n_le ha hb] at q; omega))
theorem go_if_le {a : Int} {off : Int} {tgt : Nat} (hd : decode M.2.1 pc = .ok (.ifCond .le off, 3)) (ht : (pc : Int) + off = (tgt : Int)) (k1 : a ≤ 0 → Go x M tgt ls st h Q) (k2 : 0 < a → Go x M (pc + 3) ls st h Q) : Go x M pc ls (xI a :: st) h Q := by
  intro p e s m args below meth c H locs la hC hH hL hs
  have ha : inR a := ok_hd hs
  have k1 := fun q => k1 q p e s m args below meth c H locs la hC hH hL (ok_tl hs)
  have k2 := fun q => k2 q p e s m args below meth c H locs la hC hH hL (ok_tl hs)
  refine lv_if_le hC.2.1 hC.2.2.1 hd ht ?_ ?_
  · rw [← n_0]; exact fun q => k1 ((n_le ha n_r0).mp q)
  · rw [← n_0]; exact fun q => k2 (by rw [n_le ha n_r0] at q; omega)
theorem go_icmp_le_t {a b : Int} {off : Int} {tgt : Nat} (hd : decode M.2.1 pc = .ok (.if_icmp .le off, 3)) (ht : (pc : Int) + off = (tgt : Int)) (q : a ≤ b) (k : Go x M tgt ls st h Q) : Go x M pc ls (xI b :: xI a :: st) h Q := go_icmp_le hd ht (fun _ => k) (fun z => by omega)
theorem go_icmp_le_f {a b : Int} {off : Int} {tgt : Nat} (hd : decode M.2.1 pc = .ok (.if_icmp .le off, 3)) (ht : (pc : Int) + off = (tgt : Int)) (q : b < a) (k : Go x M (pc + 3) ls st h Q) : Go x M pc ls (xI b :: xI a :: st) h Q := go_icmp_le hd ht (fun z => by omega) (fun _ => k)
theorem go_if_le_t {a : Int} {off : Int} {tgt : Nat} (hd : decode M.2.1 pc = .ok (.ifCond .le off, 3)) (ht : (pc : Int) + off = (tgt : Int)) (q : a ≤ 0) (k : Go x M tgt ls st h Q) : Go x M pc ls (xI a :: st) h Q := go_if_le hd ht (fun _ => k) (fun z => by omega)
theorem go_if_le_f {a : Int} {off : Int} {tgt : Nat} (hd : decode M.2.1 pc = .ok (.ifCond .le off, 3)) (ht : (pc : Int) + off = (tgt : Int)) (q : 0 < a) (k : Go x M (pc + 3) ls st h Q) : Go x M pc ls (xI a :: st) h Q := go_if_le hd ht (fun z => by omega) (fun _ => k)
theorem go_tsw_in {dflt lo hi : Int} {offs : Array Int} {len : Nat} {a off : Int} {tgt : Nat} (hd : decode M.2.1 pc = .ok (.tableswitch dflt lo hi offs, len)) (h1 : lo ≤ a) (h2 : a ≤ hi) (ho : offs[(a - lo).toNat]? = some off) (ht : (pc : Int) + off = (tgt : Int)) (k : Go x M tgt ls st h Q) : Go x M pc ls (xI a :: st) h Q := by
  intro p e s m args below meth c H locs la hC hH hL hs
  have ha : inR a := ok_hd hs
  refine lv_tableIn hC.2.1 hC.2.2.1 hd (off := off) (tgt := tgt) ?_ ?_ ?_ ht (k p e s m args below meth c H locs la hC hH hL (ok_tl hs)) <;> rw [n_toI ha]
  · omega
  · omega
  · exact ho
theorem go_tsw_out {dflt lo hi : Int} {offs : Array Int} {len : Nat} {a : Int} {tgt : Nat} (hd : decode M.2.1 pc = .ok (.tableswitch dflt lo hi offs, len)) (h1 : a < lo ∨ hi < a) (ht : (pc : Int) + dflt = (tgt : Int)) (k : Go x M tgt ls st h Q) : Go x M pc ls (xI a :: st) h Q := by
  intro p e s m args below meth c H locs la hC hH hL hs
  have ha : inR a := ok_hd hs
  exact lv_tableOut hC.2.1 hC.2.2.1 hd (by rw [n_toI ha]; exact h1) ht (k p e s m args below meth c H locs la hC hH hL (ok_tl hs))
/-! longs -/
theorem go_lmul {a b : Int} (hd : decode M.2.1 pc = .ok (.lmul, 1)) (h1 : inL (a * b)) (k : Go x M (pc + 1) ls (xL (a * b) :: st) h Q) : Go x M pc ls (xL b :: xL a :: st) h Q := by
  intro p e s m args below meth c H locs la hC hH hL hs
  refine lv_lmul hC.2.1 hC.2.2.1 hd ?_
  rw [← Int64.ofInt_mul]
  exact k p e s m args below meth c H locs la hC hH hL (ok_cons h1 (ok_tl (ok_tl hs)))
theorem inL_div {a b : Int} (ha : inL a) (h1 : 0 ≤ a) (h2 : 0 < b) : inL (a / b) := ⟨by have := Int.ediv_nonneg h1 (Int.le_of_lt h2); omega, by have := Int.ediv_le_self b h1; have := ha.2; omega⟩
theorem go_ldiv {a b : Int} (hd : decode M.2.1 pc = .ok (.ldiv, 1)) (h1 : 0 ≤ a) (h2 : 0 < b) (k : Go x M (pc + 1) ls (xL (a / b) :: st) h Q) : Go x M pc ls (xL b :: xL a :: st) h Q := by
  intro p e s m args below meth c H locs la hC hH hL hs
  have hb : inL b := ok_hd hs
  have ha : inL a := ok_hd (ok_tl hs)
  refine lv_ldiv hC.2.1 hC.2.2.1 hd (fun q => by rw [show (0 : Int64) = Int64.ofInt 0 from rfl, n_eqL hb ⟨by decide, by decide⟩] at q; omega) ?_
  rw [n_divL ha h1 hb h2]
  exact k p e s m args below meth c H locs la hC hH hL (ok_cons (inL_div ha h1 h2) (ok_tl (ok_tl hs)))
theorem go_lrem {a b : Int} (hd : decode M.2.1 pc = .ok (.lrem, 1)) (h1 : 0 ≤ a) (h2 : 0 < b) (k : Go x M (pc + 1) ls (xL (a % b) :: st) h Q) : Go x M pc ls (xL b :: xL a :: st) h Q := by
  intro p e s m args below meth c H locs la hC hH hL hs
  have hb : inL b := ok_hd hs
  have ha : inL a := ok_hd (ok_tl hs)
  refine lv_lrem hC.2.1 hC.2.2.1 hd (fun q => by rw [show (0 : Int64) = Int64.ofInt 0 from rfl, n_eqL hb ⟨by decide, by decide⟩] at q; omega) ?_
  have e1 : Int64.ofInt a - Int64.ofInt a / Int64.ofInt b * Int64.ofInt b = Int64.ofInt (a % b) := by
    rw [n_divL ha h1 hb h2, ← Int64.ofInt_mul, ← Int64.ofInt_sub]
    congr 1
    have := Int.mul_ediv_add_emod a b
    rw [Int.mul_comm] at this
    omega
  rw [e1]
  have g1 := Int.emod_nonneg a (Int.ne_of_gt h2)
  have g2 := Int.emod_lt_of_pos a h2
  exact k p e s m args below meth c H locs la hC hH hL (ok_cons ⟨by omega, by have := hb.2; omega⟩ (ok_tl (ok_tl hs)))
theorem go_i2l {a : Int} (hd : decode M.2.1 pc = .ok (.i2l, 1)) (k : Go x M (pc + 1) ls (xL a :: st) h Q) : Go x M pc ls (xI a :: st) h Q := by
  intro p e s m args below meth c H locs la hC hH hL hs
  have ha : inR a := ok_hd hs
  have hl : inL a := ⟨by have := ha.1; omega, by have := ha.2; omega⟩
  refine lv_i2l hC.2.1 hC.2.2.1 hd (v := Int64.ofInt a) ?_ (k p e s m args below meth c H locs la hC hH hL (ok_cons hl (ok_tl hs)))
  apply Int64.toInt.inj
  rw [Int32.toInt_toInt64, n_toI ha, n_toL hl]
theorem go_l2i {a : Int} (hd : decode M.2.1 pc = .ok (.l2i, 1)) (h1 : inR a) (k : Go x M (pc + 1) ls (xI a :: st) h Q) : Go x M pc ls (xL a :: st) h Q := by
  intro p e s m args below meth c H locs la hC hH hL hs
  have hl : inL a := ok_hd hs
  refine lv_l2i hC.2.1 hC.2.2.1 hd (v := Int32.ofInt a) ?_ (k p e s m args below meth c H locs la hC hH hL (ok_cons h1 (ok_tl hs)))
  apply Int32.toInt.inj
  rw [Int64.toInt_toInt32, n_toL hl, n_toI h1]
  have := n_toI h1
  rw [Int32.toInt_ofInt] at this
  exact this
theorem go_lcmp {a b z : Int} (hd : decode M.2.1 pc = .ok (.lcmp, 1)) (hz : z = if b < a then 1 else if a = b then 0 else -1) (k : Go x M (pc + 1) ls (xI z :: st) h Q) : Go x M pc ls (xL b :: xL a :: st) h Q := by
  intro p e s m args below meth c H locs la hC hH hL hs
  have hb : inL b := ok_hd hs
  have ha : inL a := ok_hd (ok_tl hs)
  refine W.lcmp hC.2.1 hC.2.2.1 hd ?_
  have e1 : lg_cmp (Int64.ofInt a) (Int64.ofInt b) = Int32.ofInt z := by
    rw [hz]
    unfold lg_cmp
    by_cases q : b < a
    · rw [if_pos ((n_ltL hb ha).mpr q), if_pos q]; rfl
    · rw [if_neg (fun w => q ((n_ltL hb ha).mp w)), if_neg q]
      by_cases q2 : a = b
      · rw [if_pos (by rw [q2]), if_pos q2]; rfl
      · rw [if_neg (fun w => q2 ((n_eqL ha hb).mp w)), if_neg q2]; rfl
  rw [e1]
  have hr : inR z := by
    rw [hz]
    by_cases q : b < a
    · rw [if_pos q]; exact n_r1
    · rw [if_neg q]
      by_cases q2 : a = b
      · rw [if_pos q2]; exact n_r0
      · rw [if_neg q2]; exact ⟨by decide, by decide⟩
  exact k p e s m args below meth c H locs la hC hH hL (ok_cons hr (ok_tl (ok_tl hs)))
/-! returns -/
theorem go_ireturn {z : Int} {Q : Int → mH → Prop} (hd : decode M.2.1 pc = .ok (.ireturn, 1)) (hr : M.2.2.2.1 = some .int) (k : Q z h) : Go x M pc ls [xI z] h (qI Q) := by
  intro p e s m args below meth c H locs la hC hH hL hs
  refine W.iret hC.2.1 hC.2.2.1 (by rw [hC.2.2.2.1, hr]) (fun t ht hW => ?_) hH.2.1.2.2 hd hC.2.2.2.2.2.2.2.2.1
  exact ⟨⟨xI z, h, rfl, ⟨z, rfl, k⟩, ok_hd hs, hH.2.2, by rw [ht]; exact hH.1⟩, hH.2.1.F ht⟩
theorem go_zreturn {z : Int} {Q : Int → mH → Prop} (hd : decode M.2.1 pc = .ok (.ireturn, 1)) (hr : M.2.2.2.1 = some .boolean) (hz : z = 0 ∨ z = 1) (k : Q z h) : Go x M pc ls [xI z] h (qI Q) := by
  intro p e s m args below meth c H locs la hC hH hL hs
  refine W.zret hC.2.1 hC.2.2.1 (ty := .boolean) (by rw [hC.2.2.2.1, hr]) ?_ (fun t ht hW => ?_) hH.2.1.2.2 hd hC.2.2.2.2.2.2.2.2.1
  · rcases hz with rfl | rfl <;> rfl
  · exact ⟨⟨xI z, h, rfl, ⟨z, rfl, k⟩, ok_hd hs, hH.2.2, by rw [ht]; exact hH.1⟩, hH.2.1.F ht⟩
theorem go_lreturn {z : Int} {Q : Int → mH → Prop} (hd : decode M.2.1 pc = .ok (.lreturn, 1)) (hr : M.2.2.2.1 = some .long) (k : Q z h) : Go x M pc ls [xL z] h (qL Q) := by
  intro p e s m args below meth c H locs la hC hH hL hs
  refine W.lret hC.2.1 hC.2.2.1 (by rw [hC.2.2.2.1, hr]) (fun t ht hW => ?_) hH.2.1.2.2 hd hC.2.2.2.2.2.2.2.2.1
  exact ⟨⟨xL z, h, rfl, ⟨z, rfl, k⟩, ok_hd hs, hH.2.2, by rw [ht]; exact hH.1⟩, hH.2.1.F ht⟩
theorem go_return {Q : mH → Prop} (hd : decode M.2.1 pc = .ok (.return_, 1)) (hr : M.2.2.2.1 = none) (k : Q h) : Go x M pc ls [] h (qV Q) := by
  intro p e s m args below meth c H locs la hC hH hL hs
  refine W.vret hC.2.1 hC.2.2.1 (by rw [hC.2.2.2.1, hr]) (fun t ht hW => ?_) hH.2.1.2.2 hd hC.2.2.2.2.2.2.2.2.1
  exact ⟨⟨xU, h, rfl, ⟨rfl, k⟩, trivial, hH.2.2, by rw [ht]; exact hH.1⟩, hH.2.1.F ht⟩
end MROWS
end
section
/-! ===== entry, fields, arrays, calls ===== -/
def ml (args : List mV) : List mV := args.flatMap (fun v => if isLv v = true then [v, xU] else [v])
theorem ml_sl (x : mX) : ∀ (args : List mV), (ml args).length = (lg_sl (args.map (cv x))).length ∧ ∀ (k : Nat) (v : mV), (ml args)[k]? = some v → v ≠ xU → (lg_sl (args.map (cv x)))[k]? = some (.val (cv x v))
  | [] => ⟨rfl, fun k v h => by simp [ml] at h⟩
  | a :: l => by
    obtain ⟨h1, h2⟩ := ml_sl x l
    cases ha : isLv a with
    | false =>
      have e1 : ml (a :: l) = a :: ml l := by simp [ml, ha]
      have e2 : lg_sl ((a :: l).map (cv x)) = .val (cv x a) :: lg_sl (l.map (cv x)) := by simp [lg_sl, cat_lv (x := x) ha]
      rw [e1, e2]
      refine ⟨by simp [h1], fun k v hk hv => ?_⟩
      cases k with
      | zero => simp only [List.getElem?_cons_zero] at hk ⊢; rw [Option.some.inj hk]
      | succ k => simp only [List.getElem?_cons_succ] at hk ⊢; exact h2 k v hk hv
    | true =>
      obtain ⟨z, rfl⟩ : ∃ z, a = xL z := by
        rcases a with z | z | z | z
        · simp [isLv] at ha
        · exact ⟨z, rfl⟩
        · simp [isLv] at ha
        · simp [isLv] at ha
      have e1 : ml (xL z :: l) = xL z :: xU :: ml l := by simp [ml, isLv]
      have e2 : lg_sl ((xL z :: l).map (cv x)) = .val (cv x (xL z)) :: .second :: lg_sl (l.map (cv x)) := by simp [lg_sl, cv, Value.category]
      rw [e1, e2]
      refine ⟨by simp [h1], fun k v hk hv => ?_⟩
      match k with
      | 0 => simp only [List.getElem?_cons_zero] at hk ⊢; rw [Option.some.inj hk]
      | 1 =>
        simp only [List.getElem?_cons_succ, List.getElem?_cons_zero] at hk
        exact absurd (Option.some.inj hk).symm hv
      | k + 2 => simp only [List.getElem?_cons_succ] at hk ⊢; exact h2 k v hk hv
theorem ml_ok {args : List mV} (h : ∀ v ∈ args, okv v) : ∀ v ∈ ml args, okv v := by
  intro v hv
  obtain ⟨a, ha, hm⟩ := List.mem_flatMap.mp hv
  cases hb : isLv a with
  | false =>
    rw [hb] at hm
    rw [List.mem_singleton.mp hm]
    exact h a ha
  | true =>
    rw [hb] at hm
    rcases List.mem_cons.mp hm with q | q
    · rw [q]; exact h a ha
    · rw [List.mem_singleton.mp q]; trivial
theorem ct_go {x : mX} {M : mM} {args ls : List mV} {h : mH} {Q : mV → mH → Prop} (hy : plainName M.1.cls = true) (hln : (ml args).length ≤ M.2.2.1) (hls : ml args ++ List.replicate (M.2.2.1 - (ml args).length) xU = ls) (k : Go x M 0 ls [] h Q) : Ct x M args h Q := by
  subst hls
  intro hO ha hh
  refine Met.ofW (cc := M.2.1) (maxL := M.2.2.1) (ret := M.2.2.2.1) hy rfl ?_
  intro p e s m args' below meth c s₁ B hml hv
  obtain ⟨rfl, hP, hK, hN⟩ := hv
  have hts := atoms_spec (ws := mws M) B.pre
  obtain ⟨m1, m2⟩ := ml_sl x args
  have hl := lv_entry (args.map (cv x)) (n := M.2.2.1) (by rw [← m1]; exact hln)
  rw [lg_entry_eq]
  refine k p e s m _ below meth c s.heap [] _ ⟨hO, B.exec, B.bytes, B.returns, hml, findClass_of_methodNamed B.named, fun w hw => hts w (List.mem_cons_of_mem _ hw), hN, B.notSynchronized, hK⟩ ⟨hP, va_S.rf, hh⟩ ⟨hl.1, hl.2.1, ?_, ?_, ?_⟩ (fun v hv => by cases hv)
  · simp only [List.length_append, List.length_replicate]; omega
  · intro k v hk hv
    by_cases hkl : k < (ml args).length
    · rw [List.getElem?_append_left hkl] at hk
      have := m2 k v hk hv
      rw [List.getElem?_toArray, List.getElem?_append_left (by omega)]
      exact this
    · rw [List.getElem?_append_right (by omega)] at hk
      exact absurd (List.eq_of_mem_replicate (List.mem_of_getElem? hk)) hv
  · intro v hv
    rcases List.mem_append.mp hv with q | q
    · exact ml_ok ha v q
    · rw [List.eq_of_mem_replicate q]; trivial
section MF
variable {x : mX} {M : mM} {pc : Nat} {ls st : List mV} {h : mH} {Q : mV → mH → Prop}
/-- a field's word, of the class itself or of a nest mate -/
def mFl (own : String) (idx : Nat) (ref n d : String) : Prop := Cond.fieldLink own idx ref n d ∈ gd_tbl ∨ ∃ host, Cond.fieldLinkNest own idx ref n d host ∈ nw_tbl
theorem go_get {i k c t idx N : Nat} {C : String} {T : u_T} {v : mV} (hk : kd i = c) (hl : mFl M.1.cls idx (T k).1 (T k).2.1 (T k).2.2.1) (hd : decode M.2.1 pc = .ok (.getfield idx, 3)) (hc : c < 10) (hcl : vwCl[c]? = some (C, T, N)) (hkN : k < N) (ht : (fks c)[k]? = some t) (hin : ∀ w ∈ u_ws C T N, w ∈ gd_tbl) (hv : fv x h c i k t = cv x v) (hok : okh h → okv v) (kk : Go x M (pc + 3) ls (v :: st) h Q) : Go x M pc ls (xR i :: st) h Q := by
  intro p e s m args below meth cc H locs la hC hH hL hs
  have hi := kd_lt hk (by omega)
  have he : (wl x h)[i]? = some (x.2.1 i, .inr (c, (fks c).mapIdx (fun k t => fv x h c i k t))) := by rw [wl_at hi, cell_obj hk hc]
  have kk := kk p e s m args below meth cc H locs la hC hH hL (ok_cons (hok hH.2.2) (ok_tl hs))
  rcases hl with hl | ⟨host, hl⟩
  · exact va_get (D := x.2.2.1) hC.2.1 hC.2.2.1 hC.2.2.2.2.2.2.1 hin hC.2.2.2.2.2.1 hC.2.2.2.2.2.2.2.2.2 hH.1 i he hcl k hkN (hC.2.2.2.2.2.2.1 _ hl) (fun _ q => q) (by rw [fs_get ht, hv]) hd kk
  · exact va_getN (D := x.2.2.1) hC.2.1 hC.2.2.1 hC.2.2.2.2.2.2.1 hin hC.2.2.2.2.2.1 hC.2.2.2.2.2.2.2.2.2 hH.1 i he hcl k hkN (va_Nw.use rfl (hC.2.2.2.2.2.2.2.1 _ hl)) (fun _ q => q) (by rw [fs_get ht, hv]) hd kk
theorem okh_set {h : mH} {i : Nat} {k v : Int} (hh : okh h) (hv : if isLg i k = true then inL v else inR v) : okh (hset h i k v) := by
  intro a b
  by_cases e : a = i ∧ b = k
  · obtain ⟨rfl, rfl⟩ := e
    rw [hset_eq]; exact hv
  · rw [hset_ne (by omega)]; exact hh a b
theorem go_put {i k c t idx N : Nat} {C : String} {T : u_T} {v : mV} {z : Int} {ty : FieldType} (hk : kd i = c) (hl : mFl M.1.cls idx (T k).1 (T k).2.1 (T k).2.2.1) (hd : decode M.2.1 pc = .ok (.putfield idx, 3)) (hc : c < 10) (hcl : vwCl[c]? = some (C, T, N)) (hkN : k < N) (ht : (fks c)[k]? = some t) (hin : ∀ w ∈ u_ws C T N, w ∈ gd_tbl) (ty0 : Nat → FieldType) (hty : ∀ k, k < N → parseFieldDescriptor (T k).2.2.1 = some (ty0 k)) (hnm : ∀ a, a < N → ∀ b, b < N → a ≠ b → (T a).2.1 ≠ (T b).2.1) (hfin : (T k).2.2.2 = false) (hdt : parseFieldDescriptor (T k).2.2.1 = some ty) (hn : narrow ty (cv x v) = cv x v) (hfit : fits ty (cv x v) = true)
    (hv : ∀ h' : mH, h' i (k : Int) = z → fv x h' c i k t = cv x v) (hlg : isLg i (k : Int) = true ∧ v = xL z ∨ isLg i (k : Int) = false ∧ v = xI z) (kk : Go x M (pc + 3) ls st (hset h i (k : Int) z) Q) : Go x M pc ls (v :: xR i :: st) h Q := by
  intro p e s m args below meth cc H locs la hC hH hL hs
  have hi := kd_lt hk (by omega)
  have he : (wl x h)[i]? = some (x.2.1 i, .inr (c, (fks c).mapIdx (fun k t => fv x h c i k t))) := by rw [wl_at hi, cell_obj hk hc]
  have hz : if isLg i (k : Int) = true then inL z else inR z := by
    rcases hlg with ⟨q1, q2⟩ | ⟨q1, q2⟩
    · rw [q2] at hs; rw [if_pos q1]; exact ok_hd hs
    · rw [q2] at hs; rw [if_neg (by rw [q1]; decide)]; exact ok_hd hs
  have e1 : (wl x h).set i (x.2.1 i, .inr (c, ((fks c).mapIdx (fun k t => fv x h c i k t)).set k (cv x v))) = wl x (hset h i (k : Int) z) := by
    rw [← hv (hset h i (k : Int) z) (hset_eq h i k z), fs_set ht, ← wl_set hi, cell_obj hk hc]
  have hll : k < ((fks c).mapIdx (fun k t => fv x h c i k t)).length := by rw [List.length_mapIdx]; exact (List.getElem?_eq_some_iff.mp ht).1
  rcases hl with hl | ⟨host, hl⟩
  · refine va_put (D := x.2.2.1) (A := mA x) hC.2.1 hC.2.2.1 hC.2.2.2.2.2.2.1 hin ty0 hty hnm hC.2.2.2.2.2.1 hC.2.2.2.2.2.2.2.2.2 hH.1 (wl_D hC.1) hH.2.1 i he hcl k hkN (hC.2.2.2.2.2.2.1 _ hl) (fun _ q => q) hfin hdt hn hfit hll hd (fun H1 locs1 hP hD hS => ?_)
    rw [e1] at hP
    exact kk p e s m args below meth cc H1 locs1 la hC ⟨hP, hS, okh_set hH.2.2 hz⟩ hL (ok_tl (ok_tl hs))
  · refine va_putN (D := x.2.2.1) (A := mA x) hC.2.1 hC.2.2.1 hC.2.2.2.2.2.2.1 hin ty0 hty hnm hC.2.2.2.2.2.1 hC.2.2.2.2.2.2.2.2.2 hH.1 (wl_D hC.1) hH.2.1 i he hcl k hkN (va_Nw.use rfl (hC.2.2.2.2.2.2.2.1 _ hl)) (fun _ q => q) hfin hdt hn hfit hll hd (fun H1 locs1 hP hD hS => ?_)
    rw [e1] at hP
    exact kk p e s m args below meth cc H1 locs1 la hC ⟨hP, hS, okh_set hH.2.2 hz⟩ hL (ok_tl (ok_tl hs))
theorem lg_arr {i : Nat} {k : Int} (hk : 10 ≤ kd i) (hk2 : kd i < 99) : isLg i k = false := by
  have : fks (kd i) = [] := by unfold fks; rw [List.getD_eq_getElem?_getD, List.getElem?_eq_none (by simpa [fkL] using hk)]; rfl
  unfold isLg
  rw [this]; rfl
theorem ok_arr {i : Nat} {k : Int} (hh : okh h) (hk : 10 ≤ kd i) (hk2 : kd i < 99) : inR (h i k) := by
  have := hh i k
  rw [lg_arr hk hk2] at this
  exact this
theorem go_iaload {i : Nat} {z : Int} (hk : kd i = 10) (hd : decode M.2.1 pc = .ok (.iaload, 1)) (h0 : 0 ≤ z) (h1 : z < ln i) (k : Go x M (pc + 1) ls (xI (h i z) :: st) h Q) : Go x M pc ls (xI z :: xR i :: st) h Q := by
  intro p e s m args below meth cc H locs la hC hH hL hs
  have hi := kd_lt hk (by omega)
  have hz : inR z := ok_hd hs
  refine va_iald (D := x.2.2.1) hC.2.1 hC.2.2.1 hC.2.2.2.2.2.2.2.2.2 hH.1 i 0 (by rw [wl_at hi, cell_int hk]) rfl (n_in hz h0 h1) hd ?_
  rw [n_clamp hz h0]
  simp only [Int.toNat_of_nonneg h0]
  exact k p e s m args below meth cc H locs la hC hH hL (ok_cons (ok_arr hH.2.2 (by omega) (by omega)) (ok_tl (ok_tl hs)))
theorem go_baload {i : Nat} {z : Int} (hk : kd i = 11) (hd : decode M.2.1 pc = .ok (.baload, 1)) (h0 : 0 ≤ z) (h1 : z < ln i) (k : Go x M (pc + 1) ls (xI (h i z) :: st) h Q) : Go x M pc ls (xI z :: xR i :: st) h Q := by
  intro p e s m args below meth cc H locs la hC hH hL hs
  have hi := kd_lt hk (by omega)
  have hz : inR z := ok_hd hs
  refine va_zald (D := x.2.2.1) hC.2.1 hC.2.2.1 hC.2.2.2.2.2.2.2.2.2 hH.1 i 1 (by rw [wl_at hi, cell_bool hk]) rfl (n_in hz h0 h1) hd ?_
  rw [n_clamp hz h0]
  simp only [Int.toNat_of_nonneg h0]
  exact k p e s m args below meth cc H locs la hC hH hL (ok_cons (ok_arr hH.2.2 (by omega) (by omega)) (ok_tl (ok_tl hs)))
theorem go_aaload {i : Nat} {z : Int} (hk : kd i = 12) (hd : decode M.2.1 pc = .ok (.aaload, 1)) (h0 : 0 ≤ z) (h1 : z < ln i) (k : Go x M (pc + 1) ls (xR (28 + 3 * z.toNat) :: st) h Q) : Go x M pc ls (xI z :: xR i :: st) h Q := by
  intro p e s m args below meth cc H locs la hC hH hL hs
  have hi := kd_lt hk (by omega)
  have hz : inR z := ok_hd hs
  refine va_aldq (D := x.2.2.1) hC.2.1 hC.2.2.1 hC.2.2.2.2.2.2.2.2.2 hH.1 i 2 (by rw [wl_at hi, cell_past hk]) rfl (n_in hz h0 h1) hd ?_
  rw [n_clamp hz h0]
  exact k p e s m args below meth cc H locs la hC hH hL (ok_cons trivial (ok_tl (ok_tl hs)))
theorem go_alen {i : Nat} (hk : kd i = 10 ∨ kd i = 12) (hd : decode M.2.1 pc = .ok (.arraylength, 1)) (hr : inR (ln i)) (k : Go x M (pc + 1) ls (xI (ln i) :: st) h Q) : Go x M pc ls (xR i :: st) h Q := by
  intro p e s m args below meth cc H locs la hC hH hL hs
  have kk := k p e s m args below meth cc H locs la hC hH hL (ok_cons hr (ok_tl hs))
  rcases hk with hk | hk
  · have hi := kd_lt hk (by omega)
    have he : (wl x h)[i]? = some (x.2.1 i, .inl (x.2.2.2.1, ln i, .inl (fun k => Int32.ofInt (h i (k : Int))))) := by rw [wl_at hi, cell_int hk]
    exact va_alen (D := x.2.2.1) hC.2.1 hC.2.2.1 hC.2.2.2.2.2.2.2.2.2 hH.1 i 0 he rfl (Int32.ofInt_eq_ofNat).symm hd kk
  · have hi := kd_lt hk (by omega)
    have he : (wl x h)[i]? = some (x.2.1 i, .inl (x.2.2.2.2.2, ln i, .inr (.inr (.inr (.inr (fun k => some (x.2.1 (28 + 3 * k)))))))) := by rw [wl_at hi, cell_past hk]
    exact va_alen (D := x.2.2.1) hC.2.1 hC.2.2.1 hC.2.2.2.2.2.2.2.2.2 hH.1 i 2 he rfl (Int32.ofInt_eq_ofNat).symm hd kk
theorem upd_hset {h : mH} {i : Nat} {z v : Int} (h0 : 0 ≤ z) : upd (fun k => Int32.ofInt (h i (k : Int))) z.toNat (Int32.ofInt v) = fun j : Nat => Int32.ofInt (hset h i z v i (j : Int)) := by
  funext j
  by_cases e : j = z.toNat
  · subst e; rw [Int.toNat_of_nonneg h0, hset_eq]; simp [upd]
  · rw [hset_nk (by omega)]; simp [upd, e]
theorem go_iastore {i : Nat} {z v : Int} (hk : kd i = 10) (hd : decode M.2.1 pc = .ok (.iastore, 1)) (h0 : 0 ≤ z) (h1 : z < ln i) (k : Go x M (pc + 1) ls st (hset h i z v) Q) : Go x M pc ls (xI v :: xI z :: xR i :: st) h Q := by
  intro p e s m args below meth cc H locs la hC hH hL hs
  have hi := kd_lt hk (by omega)
  have hz : inR z := ok_hd (ok_tl hs)
  refine va_iast (D := x.2.2.1) (A := mA x) hC.2.1 hC.2.2.1 hC.2.2.2.2.2.2.2.2.2 hH.1 (wl_D hC.1) hH.2.1 i 0 (by rw [wl_at hi, cell_int hk]) rfl (n_in hz h0 h1) hd (fun H1 locs1 hP hD hS => ?_)
  rw [n_clamp hz h0, upd_hset h0] at hP
  have e1 := cell_int (x := x) (h := hset h i z v) hk
  rw [← e1, wl_set hi] at hP
  exact k p e s m args below meth cc H1 locs1 la hC ⟨hP, hS, okh_set hH.2.2 (by rw [lg_arr (by omega) (by omega)]; exact ok_hd hs)⟩ hL (ok_tl (ok_tl (ok_tl hs)))
theorem go_bastore {i : Nat} {z v : Int} (hk : kd i = 11) (hd : decode M.2.1 pc = .ok (.bastore, 1)) (h0 : 0 ≤ z) (h1 : z < ln i) (hv : v = 0 ∨ v = 1) (k : Go x M (pc + 1) ls st (hset h i z v) Q) : Go x M pc ls (xI v :: xI z :: xR i :: st) h Q := by
  intro p e s m args below meth cc H locs la hC hH hL hs
  have hi := kd_lt hk (by omega)
  have hz : inR z := ok_hd (ok_tl hs)
  refine va_zast (D := x.2.2.1) (A := mA x) hC.2.1 hC.2.2.1 hC.2.2.2.2.2.2.2.2.2 hH.1 (wl_D hC.1) hH.2.1 i 1 (by rw [wl_at hi, cell_bool hk]) rfl (n_in hz h0 h1) hd (fun H1 locs1 hP hD hS => ?_)
  have e0 : vp_nar .boolean (Int32.ofInt v) = Int32.ofInt v := by rcases hv with rfl | rfl <;> rfl
  rw [n_clamp hz h0, e0, upd_hset h0] at hP
  have e1 := cell_bool (x := x) (h := hset h i z v) hk
  rw [← e1, wl_set hi] at hP
  exact k p e s m args below meth cc H1 locs1 la hC ⟨hP, hS, okh_set hH.2.2 (by rw [lg_arr (by omega) (by omega)]; exact ok_hd hs)⟩ hL (ok_tl (ok_tl (ok_tl hs)))
end MF
/-! ===== calls ===== -/
section MC
variable {x : mX} {M : mM} {pc : Nat} {ls st : List mV} {h : mH} {Q : mV → mH → Prop}
theorem wd_blind {as : List Value} : FrameBlind (va_Pc as (Wd x h)) := fun a U g mk q => by
  obtain ⟨q0, qP, qK, qN⟩ := q
  exact ⟨q0, qP, va_K.moved (u := U) (U := U.calling g mk a) (Vm.Alike.refl U.vm) qK, nw_all.same (s := U) rfl qN⟩
theorem go_after {p : Program} {e : Env} {s : State} {m : MethodId} {args : Array Value} {below : List Frame} {meth : Method} {c : Code} {H : Heap} {locs : List Loc} {R : Room} {Qe : State → Prop} {la : Array Slot} {st0 rest : List Value} {a : Array Value} {Qk : mV → mH → Prop}
    (hr : va_Run p x.1 e R s m args below meth c H locs 0 0 0 0 (F0 m pc la st0) rest (mQ x Qk a) (mA x)) (hS : va_S (mA x) s.heap H locs)
    (kk : ∀ (r : mV) (h' : mH) (H1 : Heap) (locs1 : List Loc), Qk r h' → okv r → Hs x h' s H1 locs1 → W p x.1 e R s m args below meth c H1 locs1 0 0 Qe (F0 m (pc + 3) la ((rv x r).toList ++ rest))) : W p x.1 e R s m args below meth c H locs 0 0 Qe (F0 m pc la st0) := by
  intro T hT X
  obtain ⟨v, st₀, t, T', L, h0, X', hL, e1, e2, ⟨⟨r, h', hv, hq, hok, hh, hP⟩, hz, hk⟩, st⟩ := hr T hT X
  have hv : v = rv x r := by injection hv
  subst hv
  rw [h0] at hz hk
  obtain ⟨t2, a1, b1⟩ := kk r h' T'.heap (locs ++ L) hq hok ⟨by rw [e1]; exact hP, ⟨Nat.le_trans hS.1 (by rw [e1]; exact hz), fun q h1 h2 => by rw [e1, hk q (Nat.lt_of_lt_of_le h1 hS.1) h2]; exact hS.2.1 q h1 h2, fun q hq => by
      rcases List.mem_append.mp hq with h | h
      · exact hS.2.2 q h
      · exact hL q h⟩, hh⟩ T' rfl X'
  exact ⟨t2, st t2 a1, b1⟩
def mDl (N : mM) (n : Nat) : Prop := N.1.cls ≠ "java/lang/invoke/MethodHandle" ∧ N.1.cls ≠ "java/lang/invoke/VarHandle" ∧ (parseMethodDescriptor N.1.desc).map (fun d => d.parameters.length) = some n
/-- a callee, and how it is linked -/
def mCl (N : mM) (n : Nat) : Prop := Cond.code N.1 N.2.1 N.2.2.1 N.2.2.2.1 ∈ gd_tbl ∧ Cond.initialized N.1.cls ∈ gd_tbl ∧ mDl N n ∧ N.2.2.1 ≤ 19
def mVl (own : String) (idx : Nat) (N : mM) (n : Nat) : Prop := Cond.methodLink own idx N.1 ∈ gd_tbl ∧ (Cond.instanceMethod N.1 ∈ gd_tbl ∧ Cond.selects N.1.cls N.1 N.1 ∈ gd_tbl) ∧ mCl N n
def mSl (own : String) (idx : Nat) (N : mM) (n : Nat) : Prop := (Cond.methodLink own idx N.1 ∈ gd_tbl ∨ ∃ host, Cond.methodLinkNest own idx N.1 host ∈ nw_tbl) ∧ Cond.static N.1 ∈ gd_tbl ∧ mCl N n
def mUl (own : String) (idx : Nat) (y0 : MethodName) (N : mM) (n : Nat) : Prop := Cond.methodLink own idx y0 ∈ gd_tbl ∧ Cond.sameMethod y0.cls y0.cls y0.name y0.desc ∈ gd_tbl ∧ Cond.declares y0 ∈ nw_tbl ∧ Cond.selects N.1.cls y0 N.1 ∈ gd_tbl ∧ Cond.instanceMethod N.1 ∈ gd_tbl ∧ (y0.cls ≠ "java/lang/invoke/MethodHandle" ∧ y0.cls ≠ "java/lang/invoke/VarHandle" ∧ (parseMethodDescriptor y0.desc).map (fun d => d.parameters.length) = some n) ∧ mCl N n
def catm (st : List mV) : Nat := (st.map (fun v => if isLv v = true then 2 else 1)).sum
theorem catm_eq (x : mX) (st : List mV) : ((st.map (cv x)).map fun v => v.category).sum = catm st := by
  unfold catm
  rw [List.map_map]
  congr 1
  apply List.map_congr_left
  intro v _
  rcases v with z | z | z | z <;> rfl
theorem rm_ok {N M : mM} (hR : N.2.2.2.2 < M.2.2.2.2) (hm : N.2.2.1 ≤ 19) : (rmk N.2.2.2.2).frames + 1 ≤ (rmk M.2.2.2.2).frames ∧ 8 + (N.2.2.1 + 11) + (rmk N.2.2.2.2).locals ≤ (rmk M.2.2.2.2).locals := by
  show N.2.2.2.2 + 1 ≤ M.2.2.2.2 ∧ 8 + (N.2.2.1 + 11) + 38 * N.2.2.2.2 ≤ 38 * M.2.2.2.2
  omega
theorem wd_pre {s : State} {H : Heap} {locs : List Loc} {as : List mV} (hK : va_K x.2.2.1 vwCl (tysm x) s) (hN : nw_all s) (hH : Hs x h s H locs) : ∀ U : State, U.heap = H → s.WarmedH U.vm → va_Pc (as.map (cv x)) (Wd x h) ((as.map (cv x)).toArray) U :=
  fun U hU hW => ⟨rfl, by rw [hU]; exact hH.1, va_K.moved hW.alike hK, hN.warm hW⟩
theorem run_V {N : mM} {i c n idx : Nat} {as : List mV} {q : vw_C} {Qk : mV → mH → Prop} (hk : kd i = c) (hl : mVl M.1.cls idx N n) (hd : decode M.2.1 pc = .ok (.invokevirtual idx, 3)) (hc : c < 10) (hcl : vwCl[c]? = some q) (hq : q.1 = N.1.cls) (hn : as.length = n) (hR : N.2.2.2.2 < M.2.2.2.2) (hst : catm st ≤ 8) (ct : Ct x N (xR i :: as) h Qk)
    {p : Program} {e : Env} {s : State} {m : MethodId} {args : Array Value} {below : List Frame} {meth : Method} {cc : Code} {H : Heap} {locs : List Loc} {la : Array Slot} (hC : Cc x M p s m args meth cc) (hH : Hs x h s H locs) (hL : Lo x la M.2.2.1 ls) (ha : ∀ v ∈ as, okv v) :
    va_Run p x.1 e (rmk M.2.2.2.2) s m args below meth cc H locs 0 0 0 0 (F0 m pc la ((as.reverse ++ xR i :: st).map (cv x))) (st.map (cv x)) (mQ x Qk (Value.ref (x.2.1 i) :: as.map (cv x)).toArray) (mA x) := by
  have hM := ct hC.1 (ok_cons trivial ha) hH.2.2
  obtain ⟨l1, ⟨l2, l3⟩, l4, l5, l6, l7⟩ := hl
  have hi := kd_lt hk (by omega)
  have he : (wl x h)[i]? = some (x.2.1 i, .inr (c, (fks c).mapIdx (fun k t => fv x h c i k t))) := by rw [wl_at hi, cell_obj hk hc]
  have hts := hC.2.2.2.2.2.2.1
  have hrec := va_recv (D := x.2.2.1) hC.2.2.2.2.2.2.2.2.2 hH.1 hcl he
  rw [hq] at hrec
  exact va_runV (As := as.map (cv x)) (rest := st.map (cv x)) (b := x.2.1 i) (own := M.1.cls) (C := N.1.cls) (n := n) ⟨hC.2.1, hC.2.2.1, hC.2.2.2.2.1, hC.2.2.2.2.2.1, hts⟩ hM
    ⟨callB_of n hts (gd_cons l4) rfl rfl rfl (hts _ l5) (hts _ l1) l6 (rm_ok hR l7), hts _ l2, hts _ l3⟩
    ⟨wd_blind, hrec, wd_pre (as := xR i :: as) hC.2.2.2.2.2.2.2.2.2 hC.2.2.2.2.2.2.2.1 hH⟩ rfl (by rw [List.length_map]; exact hn) hL.1 (by rw [List.map_append, List.map_reverse]; rfl) (lv_room (by rw [catm_eq]; exact hst)) hd ⟨Nat.le_refl _, Nat.le_refl _⟩
theorem run_U {N : mM} {i c n idx : Nat} {as : List mV} {q : vw_C} {y0 : MethodName} {Qk : mV → mH → Prop} (hk : kd i = c) (hl : mUl M.1.cls idx y0 N n) (hd : decode M.2.1 pc = .ok (.invokevirtual idx, 3)) (hc : c < 10) (hcl : vwCl[c]? = some q) (hq : q.1 = N.1.cls) (hn : as.length = n) (hR : N.2.2.2.2 < M.2.2.2.2) (hst : catm st ≤ 8) (ct : Ct x N (xR i :: as) h Qk)
    {p : Program} {e : Env} {s : State} {m : MethodId} {args : Array Value} {below : List Frame} {meth : Method} {cc : Code} {H : Heap} {locs : List Loc} {la : Array Slot} (hC : Cc x M p s m args meth cc) (hH : Hs x h s H locs) (hL : Lo x la M.2.2.1 ls) (ha : ∀ v ∈ as, okv v) :
    va_Run p x.1 e (rmk M.2.2.2.2) s m args below meth cc H locs 0 0 0 0 (F0 m pc la ((as.reverse ++ xR i :: st).map (cv x))) (st.map (cv x)) (mQ x Qk (Value.ref (x.2.1 i) :: as.map (cv x)).toArray) (mA x) := by
  have hM := ct hC.1 (ok_cons trivial ha) hH.2.2
  obtain ⟨l1, l2, l3, l8, l9, l10, l4, l5, l6, l7⟩ := hl
  have hi := kd_lt hk (by omega)
  have he : (wl x h)[i]? = some (x.2.1 i, .inr (c, (fks c).mapIdx (fun k t => fv x h c i k t))) := by rw [wl_at hi, cell_obj hk hc]
  have hts := hC.2.2.2.2.2.2.1
  have hrec := va_recv (D := x.2.2.1) hC.2.2.2.2.2.2.2.2.2 hH.1 hcl he
  rw [hq] at hrec
  have hRm := rm_ok hR l7
  refine va_runU (As := as.map (cv x)) (rest := st.map (cv x)) (b := x.2.1 i) (own := M.1.cls) (C := N.1.cls) (owner := y0.cls) (n := n) (bytes := N.2.1) (maxL := N.2.2.1) (ret := N.2.2.2.1) ⟨hC.2.1, hC.2.2.1, hC.2.2.2.2.1, hC.2.2.2.2.2.1, hts⟩ hM
    ⟨⟨rfl, rfl, hRm.1, hRm.2, pay_in hts (gd_cons l4), List.mem_cons_self⟩, hts _ l4, hts _ l5, ⟨l10.1, l10.2.1⟩, fun sig hs => ?_, hts _ l1, hts _ l2, va_Decl.abs (hC.2.2.2.2.2.2.2.1 _ l3), hts _ l8, hts _ l9⟩
    ⟨wd_blind, hrec, wd_pre (as := xR i :: as) hC.2.2.2.2.2.2.2.2.2 hC.2.2.2.2.2.2.2.1 hH⟩ rfl (by rw [List.length_map]; exact hn) hL.1 (by rw [List.map_append, List.map_reverse]; rfl) (lv_room (by rw [catm_eq]; exact hst)) hd ⟨Nat.le_refl _, Nat.le_refl _⟩
  have h2 := l10.2.2
  rw [hs] at h2
  exact (Option.some.inj h2).symm
theorem run_S {N : mM} {n idx : Nat} {as : List mV} {Qk : mV → mH → Prop} (hl : mSl M.1.cls idx N n) (hd : decode M.2.1 pc = .ok (.invokestatic idx, 3)) (hn : as.length = n) (hR : N.2.2.2.2 < M.2.2.2.2) (hst : catm st ≤ 8) (ct : Ct x N as h Qk)
    {p : Program} {e : Env} {s : State} {m : MethodId} {args : Array Value} {below : List Frame} {meth : Method} {cc : Code} {H : Heap} {locs : List Loc} {la : Array Slot} (hC : Cc x M p s m args meth cc) (hH : Hs x h s H locs) (hL : Lo x la M.2.2.1 ls) (ha : ∀ v ∈ as, okv v) :
    va_Run p x.1 e (rmk M.2.2.2.2) s m args below meth cc H locs 0 0 0 0 (F0 m pc la ((as.reverse ++ st).map (cv x))) (st.map (cv x)) (mQ x Qk (as.map (cv x)).toArray) (mA x) := by
  have hM := ct hC.1 ha hH.2.2
  obtain ⟨l1, l2, l4, l5, l6, l7⟩ := hl
  have hts := hC.2.2.2.2.2.2.1
  rcases l1 with l1 | ⟨host, l1⟩
  · exact va_runS (As := as.map (cv x)) (rest := st.map (cv x)) (own := M.1.cls) (n := n) ⟨hC.2.1, hC.2.2.1, hC.2.2.2.2.1, hC.2.2.2.2.2.1, hts⟩ hM
      ⟨callB_of n hts (gd_cons l4) rfl rfl rfl (hts _ l5) (hts _ l1) l6 (rm_ok hR l7), hts _ l2⟩
      ⟨wd_blind, wd_pre hC.2.2.2.2.2.2.2.2.2 hC.2.2.2.2.2.2.2.1 hH⟩ rfl (by rw [List.length_map]; exact hn) hL.1 (by rw [List.map_append, List.map_reverse]) (lv_room (by rw [catm_eq]; exact hst)) hd ⟨Nat.le_refl _, Nat.le_refl _⟩
  · exact va_runSN (As := as.map (cv x)) (rest := st.map (cv x)) (own := M.1.cls) (host := host) (n := n) ⟨hC.2.1, hC.2.2.1, hC.2.2.2.2.1, hC.2.2.2.2.2.1, hts⟩ hM
      ⟨va_cnB n hts (gd_cons l4) rfl rfl rfl (hC.2.2.2.2.2.2.2.1 _ l1) (hts _ l5) l6 (rm_ok hR l7), hts _ l2, trivial⟩
      ⟨wd_blind, wd_pre hC.2.2.2.2.2.2.2.2.2 hC.2.2.2.2.2.2.2.1 hH⟩ rfl (by rw [List.length_map]; exact hn) hL.1 (by rw [List.map_append, List.map_reverse]) (lv_room (by rw [catm_eq]; exact hst)) hd ⟨Nat.le_refl _, Nat.le_refl _⟩
theorem go_cV0I {N : mM} {i c idx : Nat} {q : vw_C} (hk : kd i = c) (hl : mVl M.1.cls idx N 0) (hd : decode M.2.1 pc = .ok (.invokevirtual idx, 3)) (hc : c < 10) (hcl : vwCl[c]? = some q) (hq : q.1 = N.1.cls) (hR : N.2.2.2.2 < M.2.2.2.2) (hst : catm st ≤ 8) (ct : CtI x N (xR i :: []) h (fun z h' => Go x M (pc + 3) ls (xI z :: st) h' Q)) : Go x M pc ls (xR i :: st) h Q := by
  intro p e s m args below meth cc H locs la hC hH hL hs
  refine go_after (run_V (as := []) hk hl hd hc hcl hq rfl hR hst ct hC hH hL (fun v hv => by cases hv)) hH.2.1 (fun r h' H1 locs1 hq hok hHs => ?_)
  obtain ⟨z, rfl, hg⟩ := hq
  exact hg p e s m args below meth cc H1 locs1 la hC hHs hL (ok_cons hok (ok_tl hs))
theorem go_cV0V {N : mM} {i c idx : Nat} {q : vw_C} (hk : kd i = c) (hl : mVl M.1.cls idx N 0) (hd : decode M.2.1 pc = .ok (.invokevirtual idx, 3)) (hc : c < 10) (hcl : vwCl[c]? = some q) (hq : q.1 = N.1.cls) (hR : N.2.2.2.2 < M.2.2.2.2) (hst : catm st ≤ 8) (ct : CtV x N (xR i :: []) h (fun h' => Go x M (pc + 3) ls (st) h' Q)) : Go x M pc ls (xR i :: st) h Q := by
  intro p e s m args below meth cc H locs la hC hH hL hs
  refine go_after (run_V (as := []) hk hl hd hc hcl hq rfl hR hst ct hC hH hL (fun v hv => by cases hv)) hH.2.1 (fun r h' H1 locs1 hq hok hHs => ?_)
  obtain ⟨rfl, hg⟩ := hq
  exact hg p e s m args below meth cc H1 locs1 la hC hHs hL (ok_tl hs)
theorem go_cV1I {N : mM} {i c idx : Nat} {a1 : mV} {q : vw_C} (hk : kd i = c) (hl : mVl M.1.cls idx N 1) (hd : decode M.2.1 pc = .ok (.invokevirtual idx, 3)) (hc : c < 10) (hcl : vwCl[c]? = some q) (hq : q.1 = N.1.cls) (hR : N.2.2.2.2 < M.2.2.2.2) (hst : catm st ≤ 8) (ct : CtI x N (xR i :: [a1]) h (fun z h' => Go x M (pc + 3) ls (xI z :: st) h' Q)) : Go x M pc ls (a1 :: xR i :: st) h Q := by
  intro p e s m args below meth cc H locs la hC hH hL hs
  refine go_after (run_V (as := [a1]) hk hl hd hc hcl hq rfl hR hst ct hC hH hL (ok_cons (ok_hd hs) (fun v hv => by cases hv))) hH.2.1 (fun r h' H1 locs1 hq hok hHs => ?_)
  obtain ⟨z, rfl, hg⟩ := hq
  exact hg p e s m args below meth cc H1 locs1 la hC hHs hL (ok_cons hok (ok_tl (ok_tl hs)))
theorem go_cU1I {N : mM} {i c idx : Nat} {a1 : mV} {q : vw_C} {y0 : MethodName} (hk : kd i = c) (hl : mUl M.1.cls idx y0 N 1) (hd : decode M.2.1 pc = .ok (.invokevirtual idx, 3)) (hc : c < 10) (hcl : vwCl[c]? = some q) (hq : q.1 = N.1.cls) (hR : N.2.2.2.2 < M.2.2.2.2) (hst : catm st ≤ 8) (ct : CtI x N (xR i :: [a1]) h (fun z h' => Go x M (pc + 3) ls (xI z :: st) h' Q)) : Go x M pc ls (a1 :: xR i :: st) h Q := by
  intro p e s m args below meth cc H locs la hC hH hL hs
  refine go_after (run_U (as := [a1]) hk hl hd hc hcl hq rfl hR hst ct hC hH hL (ok_cons (ok_hd hs) (fun v hv => by cases hv))) hH.2.1 (fun r h' H1 locs1 hq hok hHs => ?_)
  obtain ⟨z, rfl, hg⟩ := hq
  exact hg p e s m args below meth cc H1 locs1 la hC hHs hL (ok_cons hok (ok_tl (ok_tl hs)))
theorem go_cS1I {N : mM} {idx : Nat} {a1 : mV} (hl : mSl M.1.cls idx N 1) (hd : decode M.2.1 pc = .ok (.invokestatic idx, 3)) (hR : N.2.2.2.2 < M.2.2.2.2) (hst : catm st ≤ 8) (ct : CtI x N [a1] h (fun z h' => Go x M (pc + 3) ls (xI z :: st) h' Q)) : Go x M pc ls (a1 :: st) h Q := by
  intro p e s m args below meth cc H locs la hC hH hL hs
  refine go_after (run_S (as := [a1]) hl hd rfl hR hst ct hC hH hL (ok_cons (ok_hd hs) (fun v hv => by cases hv))) hH.2.1 (fun r h' H1 locs1 hq hok hHs => ?_)
  obtain ⟨z, rfl, hg⟩ := hq
  exact hg p e s m args below meth cc H1 locs1 la hC hHs hL (ok_cons hok (ok_tl hs))
theorem go_cV1V {N : mM} {i c idx : Nat} {a1 : mV} {q : vw_C} (hk : kd i = c) (hl : mVl M.1.cls idx N 1) (hd : decode M.2.1 pc = .ok (.invokevirtual idx, 3)) (hc : c < 10) (hcl : vwCl[c]? = some q) (hq : q.1 = N.1.cls) (hR : N.2.2.2.2 < M.2.2.2.2) (hst : catm st ≤ 8) (ct : CtV x N (xR i :: [a1]) h (fun h' => Go x M (pc + 3) ls (st) h' Q)) : Go x M pc ls (a1 :: xR i :: st) h Q := by
  intro p e s m args below meth cc H locs la hC hH hL hs
  refine go_after (run_V (as := [a1]) hk hl hd hc hcl hq rfl hR hst ct hC hH hL (ok_cons (ok_hd hs) (fun v hv => by cases hv))) hH.2.1 (fun r h' H1 locs1 hq hok hHs => ?_)
  obtain ⟨rfl, hg⟩ := hq
  exact hg p e s m args below meth cc H1 locs1 la hC hHs hL (ok_tl (ok_tl hs))
theorem go_cU1V {N : mM} {i c idx : Nat} {a1 : mV} {q : vw_C} {y0 : MethodName} (hk : kd i = c) (hl : mUl M.1.cls idx y0 N 1) (hd : decode M.2.1 pc = .ok (.invokevirtual idx, 3)) (hc : c < 10) (hcl : vwCl[c]? = some q) (hq : q.1 = N.1.cls) (hR : N.2.2.2.2 < M.2.2.2.2) (hst : catm st ≤ 8) (ct : CtV x N (xR i :: [a1]) h (fun h' => Go x M (pc + 3) ls (st) h' Q)) : Go x M pc ls (a1 :: xR i :: st) h Q := by
  intro p e s m args below meth cc H locs la hC hH hL hs
  refine go_after (run_U (as := [a1]) hk hl hd hc hcl hq rfl hR hst ct hC hH hL (ok_cons (ok_hd hs) (fun v hv => by cases hv))) hH.2.1 (fun r h' H1 locs1 hq hok hHs => ?_)
  obtain ⟨rfl, hg⟩ := hq
  exact hg p e s m args below meth cc H1 locs1 la hC hHs hL (ok_tl (ok_tl hs))
theorem go_cS1V {N : mM} {idx : Nat} {a1 : mV} (hl : mSl M.1.cls idx N 1) (hd : decode M.2.1 pc = .ok (.invokestatic idx, 3)) (hR : N.2.2.2.2 < M.2.2.2.2) (hst : catm st ≤ 8) (ct : CtV x N [a1] h (fun h' => Go x M (pc + 3) ls (st) h' Q)) : Go x M pc ls (a1 :: st) h Q := by
  intro p e s m args below meth cc H locs la hC hH hL hs
  refine go_after (run_S (as := [a1]) hl hd rfl hR hst ct hC hH hL (ok_cons (ok_hd hs) (fun v hv => by cases hv))) hH.2.1 (fun r h' H1 locs1 hq hok hHs => ?_)
  obtain ⟨rfl, hg⟩ := hq
  exact hg p e s m args below meth cc H1 locs1 la hC hHs hL (ok_tl hs)
theorem go_cV2I {N : mM} {i c idx : Nat} {a1 a2 : mV} {q : vw_C} (hk : kd i = c) (hl : mVl M.1.cls idx N 2) (hd : decode M.2.1 pc = .ok (.invokevirtual idx, 3)) (hc : c < 10) (hcl : vwCl[c]? = some q) (hq : q.1 = N.1.cls) (hR : N.2.2.2.2 < M.2.2.2.2) (hst : catm st ≤ 8) (ct : CtI x N (xR i :: [a1, a2]) h (fun z h' => Go x M (pc + 3) ls (xI z :: st) h' Q)) : Go x M pc ls (a2 :: a1 :: xR i :: st) h Q := by
  intro p e s m args below meth cc H locs la hC hH hL hs
  refine go_after (run_V (as := [a1, a2]) hk hl hd hc hcl hq rfl hR hst ct hC hH hL (ok_cons (ok_hd (ok_tl hs)) (ok_cons (ok_hd hs) (fun v hv => by cases hv)))) hH.2.1 (fun r h' H1 locs1 hq hok hHs => ?_)
  obtain ⟨z, rfl, hg⟩ := hq
  exact hg p e s m args below meth cc H1 locs1 la hC hHs hL (ok_cons hok (ok_tl (ok_tl (ok_tl hs))))
theorem go_cS2I {N : mM} {idx : Nat} {a1 a2 : mV} (hl : mSl M.1.cls idx N 2) (hd : decode M.2.1 pc = .ok (.invokestatic idx, 3)) (hR : N.2.2.2.2 < M.2.2.2.2) (hst : catm st ≤ 8) (ct : CtI x N [a1, a2] h (fun z h' => Go x M (pc + 3) ls (xI z :: st) h' Q)) : Go x M pc ls (a2 :: a1 :: st) h Q := by
  intro p e s m args below meth cc H locs la hC hH hL hs
  refine go_after (run_S (as := [a1, a2]) hl hd rfl hR hst ct hC hH hL (ok_cons (ok_hd (ok_tl hs)) (ok_cons (ok_hd hs) (fun v hv => by cases hv)))) hH.2.1 (fun r h' H1 locs1 hq hok hHs => ?_)
  obtain ⟨z, rfl, hg⟩ := hq
  exact hg p e s m args below meth cc H1 locs1 la hC hHs hL (ok_cons hok (ok_tl (ok_tl hs)))
theorem go_cV2L {N : mM} {i c idx : Nat} {a1 a2 : mV} {q : vw_C} (hk : kd i = c) (hl : mVl M.1.cls idx N 2) (hd : decode M.2.1 pc = .ok (.invokevirtual idx, 3)) (hc : c < 10) (hcl : vwCl[c]? = some q) (hq : q.1 = N.1.cls) (hR : N.2.2.2.2 < M.2.2.2.2) (hst : catm st ≤ 8) (ct : CtL x N (xR i :: [a1, a2]) h (fun z h' => Go x M (pc + 3) ls (xL z :: st) h' Q)) : Go x M pc ls (a2 :: a1 :: xR i :: st) h Q := by
  intro p e s m args below meth cc H locs la hC hH hL hs
  refine go_after (run_V (as := [a1, a2]) hk hl hd hc hcl hq rfl hR hst ct hC hH hL (ok_cons (ok_hd (ok_tl hs)) (ok_cons (ok_hd hs) (fun v hv => by cases hv)))) hH.2.1 (fun r h' H1 locs1 hq hok hHs => ?_)
  obtain ⟨z, rfl, hg⟩ := hq
  exact hg p e s m args below meth cc H1 locs1 la hC hHs hL (ok_cons hok (ok_tl (ok_tl (ok_tl hs))))
theorem go_cS2L {N : mM} {idx : Nat} {a1 a2 : mV} (hl : mSl M.1.cls idx N 2) (hd : decode M.2.1 pc = .ok (.invokestatic idx, 3)) (hR : N.2.2.2.2 < M.2.2.2.2) (hst : catm st ≤ 8) (ct : CtL x N [a1, a2] h (fun z h' => Go x M (pc + 3) ls (xL z :: st) h' Q)) : Go x M pc ls (a2 :: a1 :: st) h Q := by
  intro p e s m args below meth cc H locs la hC hH hL hs
  refine go_after (run_S (as := [a1, a2]) hl hd rfl hR hst ct hC hH hL (ok_cons (ok_hd (ok_tl hs)) (ok_cons (ok_hd hs) (fun v hv => by cases hv)))) hH.2.1 (fun r h' H1 locs1 hq hok hHs => ?_)
  obtain ⟨z, rfl, hg⟩ := hq
  exact hg p e s m args below meth cc H1 locs1 la hC hHs hL (ok_cons hok (ok_tl (ok_tl hs)))
theorem go_cV2V {N : mM} {i c idx : Nat} {a1 a2 : mV} {q : vw_C} (hk : kd i = c) (hl : mVl M.1.cls idx N 2) (hd : decode M.2.1 pc = .ok (.invokevirtual idx, 3)) (hc : c < 10) (hcl : vwCl[c]? = some q) (hq : q.1 = N.1.cls) (hR : N.2.2.2.2 < M.2.2.2.2) (hst : catm st ≤ 8) (ct : CtV x N (xR i :: [a1, a2]) h (fun h' => Go x M (pc + 3) ls (st) h' Q)) : Go x M pc ls (a2 :: a1 :: xR i :: st) h Q := by
  intro p e s m args below meth cc H locs la hC hH hL hs
  refine go_after (run_V (as := [a1, a2]) hk hl hd hc hcl hq rfl hR hst ct hC hH hL (ok_cons (ok_hd (ok_tl hs)) (ok_cons (ok_hd hs) (fun v hv => by cases hv)))) hH.2.1 (fun r h' H1 locs1 hq hok hHs => ?_)
  obtain ⟨rfl, hg⟩ := hq
  exact hg p e s m args below meth cc H1 locs1 la hC hHs hL (ok_tl (ok_tl (ok_tl hs)))
theorem go_cS2V {N : mM} {idx : Nat} {a1 a2 : mV} (hl : mSl M.1.cls idx N 2) (hd : decode M.2.1 pc = .ok (.invokestatic idx, 3)) (hR : N.2.2.2.2 < M.2.2.2.2) (hst : catm st ≤ 8) (ct : CtV x N [a1, a2] h (fun h' => Go x M (pc + 3) ls (st) h' Q)) : Go x M pc ls (a2 :: a1 :: st) h Q := by
  intro p e s m args below meth cc H locs la hC hH hL hs
  refine go_after (run_S (as := [a1, a2]) hl hd rfl hR hst ct hC hH hL (ok_cons (ok_hd (ok_tl hs)) (ok_cons (ok_hd hs) (fun v hv => by cases hv)))) hH.2.1 (fun r h' H1 locs1 hq hok hHs => ?_)
  obtain ⟨rfl, hg⟩ := hq
  exact hg p e s m args below meth cc H1 locs1 la hC hHs hL (ok_tl (ok_tl hs))
theorem go_cV3I {N : mM} {i c idx : Nat} {a1 a2 a3 : mV} {q : vw_C} (hk : kd i = c) (hl : mVl M.1.cls idx N 3) (hd : decode M.2.1 pc = .ok (.invokevirtual idx, 3)) (hc : c < 10) (hcl : vwCl[c]? = some q) (hq : q.1 = N.1.cls) (hR : N.2.2.2.2 < M.2.2.2.2) (hst : catm st ≤ 8) (ct : CtI x N (xR i :: [a1, a2, a3]) h (fun z h' => Go x M (pc + 3) ls (xI z :: st) h' Q)) : Go x M pc ls (a3 :: a2 :: a1 :: xR i :: st) h Q := by
  intro p e s m args below meth cc H locs la hC hH hL hs
  refine go_after (run_V (as := [a1, a2, a3]) hk hl hd hc hcl hq rfl hR hst ct hC hH hL (ok_cons (ok_hd (ok_tl (ok_tl hs))) (ok_cons (ok_hd (ok_tl hs)) (ok_cons (ok_hd hs) (fun v hv => by cases hv))))) hH.2.1 (fun r h' H1 locs1 hq hok hHs => ?_)
  obtain ⟨z, rfl, hg⟩ := hq
  exact hg p e s m args below meth cc H1 locs1 la hC hHs hL (ok_cons hok (ok_tl (ok_tl (ok_tl (ok_tl hs)))))
theorem go_cU3I {N : mM} {i c idx : Nat} {a1 a2 a3 : mV} {q : vw_C} {y0 : MethodName} (hk : kd i = c) (hl : mUl M.1.cls idx y0 N 3) (hd : decode M.2.1 pc = .ok (.invokevirtual idx, 3)) (hc : c < 10) (hcl : vwCl[c]? = some q) (hq : q.1 = N.1.cls) (hR : N.2.2.2.2 < M.2.2.2.2) (hst : catm st ≤ 8) (ct : CtI x N (xR i :: [a1, a2, a3]) h (fun z h' => Go x M (pc + 3) ls (xI z :: st) h' Q)) : Go x M pc ls (a3 :: a2 :: a1 :: xR i :: st) h Q := by
  intro p e s m args below meth cc H locs la hC hH hL hs
  refine go_after (run_U (as := [a1, a2, a3]) hk hl hd hc hcl hq rfl hR hst ct hC hH hL (ok_cons (ok_hd (ok_tl (ok_tl hs))) (ok_cons (ok_hd (ok_tl hs)) (ok_cons (ok_hd hs) (fun v hv => by cases hv))))) hH.2.1 (fun r h' H1 locs1 hq hok hHs => ?_)
  obtain ⟨z, rfl, hg⟩ := hq
  exact hg p e s m args below meth cc H1 locs1 la hC hHs hL (ok_cons hok (ok_tl (ok_tl (ok_tl (ok_tl hs)))))
theorem go_cS3I {N : mM} {idx : Nat} {a1 a2 a3 : mV} (hl : mSl M.1.cls idx N 3) (hd : decode M.2.1 pc = .ok (.invokestatic idx, 3)) (hR : N.2.2.2.2 < M.2.2.2.2) (hst : catm st ≤ 8) (ct : CtI x N [a1, a2, a3] h (fun z h' => Go x M (pc + 3) ls (xI z :: st) h' Q)) : Go x M pc ls (a3 :: a2 :: a1 :: st) h Q := by
  intro p e s m args below meth cc H locs la hC hH hL hs
  refine go_after (run_S (as := [a1, a2, a3]) hl hd rfl hR hst ct hC hH hL (ok_cons (ok_hd (ok_tl (ok_tl hs))) (ok_cons (ok_hd (ok_tl hs)) (ok_cons (ok_hd hs) (fun v hv => by cases hv))))) hH.2.1 (fun r h' H1 locs1 hq hok hHs => ?_)
  obtain ⟨z, rfl, hg⟩ := hq
  exact hg p e s m args below meth cc H1 locs1 la hC hHs hL (ok_cons hok (ok_tl (ok_tl (ok_tl hs))))
theorem go_cV3V {N : mM} {i c idx : Nat} {a1 a2 a3 : mV} {q : vw_C} (hk : kd i = c) (hl : mVl M.1.cls idx N 3) (hd : decode M.2.1 pc = .ok (.invokevirtual idx, 3)) (hc : c < 10) (hcl : vwCl[c]? = some q) (hq : q.1 = N.1.cls) (hR : N.2.2.2.2 < M.2.2.2.2) (hst : catm st ≤ 8) (ct : CtV x N (xR i :: [a1, a2, a3]) h (fun h' => Go x M (pc + 3) ls (st) h' Q)) : Go x M pc ls (a3 :: a2 :: a1 :: xR i :: st) h Q := by
  intro p e s m args below meth cc H locs la hC hH hL hs
  refine go_after (run_V (as := [a1, a2, a3]) hk hl hd hc hcl hq rfl hR hst ct hC hH hL (ok_cons (ok_hd (ok_tl (ok_tl hs))) (ok_cons (ok_hd (ok_tl hs)) (ok_cons (ok_hd hs) (fun v hv => by cases hv))))) hH.2.1 (fun r h' H1 locs1 hq hok hHs => ?_)
  obtain ⟨rfl, hg⟩ := hq
  exact hg p e s m args below meth cc H1 locs1 la hC hHs hL (ok_tl (ok_tl (ok_tl (ok_tl hs))))
theorem go_cU3V {N : mM} {i c idx : Nat} {a1 a2 a3 : mV} {q : vw_C} {y0 : MethodName} (hk : kd i = c) (hl : mUl M.1.cls idx y0 N 3) (hd : decode M.2.1 pc = .ok (.invokevirtual idx, 3)) (hc : c < 10) (hcl : vwCl[c]? = some q) (hq : q.1 = N.1.cls) (hR : N.2.2.2.2 < M.2.2.2.2) (hst : catm st ≤ 8) (ct : CtV x N (xR i :: [a1, a2, a3]) h (fun h' => Go x M (pc + 3) ls (st) h' Q)) : Go x M pc ls (a3 :: a2 :: a1 :: xR i :: st) h Q := by
  intro p e s m args below meth cc H locs la hC hH hL hs
  refine go_after (run_U (as := [a1, a2, a3]) hk hl hd hc hcl hq rfl hR hst ct hC hH hL (ok_cons (ok_hd (ok_tl (ok_tl hs))) (ok_cons (ok_hd (ok_tl hs)) (ok_cons (ok_hd hs) (fun v hv => by cases hv))))) hH.2.1 (fun r h' H1 locs1 hq hok hHs => ?_)
  obtain ⟨rfl, hg⟩ := hq
  exact hg p e s m args below meth cc H1 locs1 la hC hHs hL (ok_tl (ok_tl (ok_tl (ok_tl hs))))
theorem go_cS3V {N : mM} {idx : Nat} {a1 a2 a3 : mV} (hl : mSl M.1.cls idx N 3) (hd : decode M.2.1 pc = .ok (.invokestatic idx, 3)) (hR : N.2.2.2.2 < M.2.2.2.2) (hst : catm st ≤ 8) (ct : CtV x N [a1, a2, a3] h (fun h' => Go x M (pc + 3) ls (st) h' Q)) : Go x M pc ls (a3 :: a2 :: a1 :: st) h Q := by
  intro p e s m args below meth cc H locs la hC hH hL hs
  refine go_after (run_S (as := [a1, a2, a3]) hl hd rfl hR hst ct hC hH hL (ok_cons (ok_hd (ok_tl (ok_tl hs))) (ok_cons (ok_hd (ok_tl hs)) (ok_cons (ok_hd hs) (fun v hv => by cases hv))))) hH.2.1 (fun r h' H1 locs1 hq hok hHs => ?_)
  obtain ⟨rfl, hg⟩ := hq
  exact hg p e s m args below meth cc H1 locs1 la hC hHs hL (ok_tl (ok_tl (ok_tl hs)))
theorem go_cV4I {N : mM} {i c idx : Nat} {a1 a2 a3 a4 : mV} {q : vw_C} (hk : kd i = c) (hl : mVl M.1.cls idx N 4) (hd : decode M.2.1 pc = .ok (.invokevirtual idx, 3)) (hc : c < 10) (hcl : vwCl[c]? = some q) (hq : q.1 = N.1.cls) (hR : N.2.2.2.2 < M.2.2.2.2) (hst : catm st ≤ 8) (ct : CtI x N (xR i :: [a1, a2, a3, a4]) h (fun z h' => Go x M (pc + 3) ls (xI z :: st) h' Q)) : Go x M pc ls (a4 :: a3 :: a2 :: a1 :: xR i :: st) h Q := by
  intro p e s m args below meth cc H locs la hC hH hL hs
  refine go_after (run_V (as := [a1, a2, a3, a4]) hk hl hd hc hcl hq rfl hR hst ct hC hH hL (ok_cons (ok_hd (ok_tl (ok_tl (ok_tl hs)))) (ok_cons (ok_hd (ok_tl (ok_tl hs))) (ok_cons (ok_hd (ok_tl hs)) (ok_cons (ok_hd hs) (fun v hv => by cases hv)))))) hH.2.1 (fun r h' H1 locs1 hq hok hHs => ?_)
  obtain ⟨z, rfl, hg⟩ := hq
  exact hg p e s m args below meth cc H1 locs1 la hC hHs hL (ok_cons hok (ok_tl (ok_tl (ok_tl (ok_tl (ok_tl hs))))))
theorem go_cS4I {N : mM} {idx : Nat} {a1 a2 a3 a4 : mV} (hl : mSl M.1.cls idx N 4) (hd : decode M.2.1 pc = .ok (.invokestatic idx, 3)) (hR : N.2.2.2.2 < M.2.2.2.2) (hst : catm st ≤ 8) (ct : CtI x N [a1, a2, a3, a4] h (fun z h' => Go x M (pc + 3) ls (xI z :: st) h' Q)) : Go x M pc ls (a4 :: a3 :: a2 :: a1 :: st) h Q := by
  intro p e s m args below meth cc H locs la hC hH hL hs
  refine go_after (run_S (as := [a1, a2, a3, a4]) hl hd rfl hR hst ct hC hH hL (ok_cons (ok_hd (ok_tl (ok_tl (ok_tl hs)))) (ok_cons (ok_hd (ok_tl (ok_tl hs))) (ok_cons (ok_hd (ok_tl hs)) (ok_cons (ok_hd hs) (fun v hv => by cases hv)))))) hH.2.1 (fun r h' H1 locs1 hq hok hHs => ?_)
  obtain ⟨z, rfl, hg⟩ := hq
  exact hg p e s m args below meth cc H1 locs1 la hC hHs hL (ok_cons hok (ok_tl (ok_tl (ok_tl (ok_tl hs)))))
theorem go_cV4V {N : mM} {i c idx : Nat} {a1 a2 a3 a4 : mV} {q : vw_C} (hk : kd i = c) (hl : mVl M.1.cls idx N 4) (hd : decode M.2.1 pc = .ok (.invokevirtual idx, 3)) (hc : c < 10) (hcl : vwCl[c]? = some q) (hq : q.1 = N.1.cls) (hR : N.2.2.2.2 < M.2.2.2.2) (hst : catm st ≤ 8) (ct : CtV x N (xR i :: [a1, a2, a3, a4]) h (fun h' => Go x M (pc + 3) ls (st) h' Q)) : Go x M pc ls (a4 :: a3 :: a2 :: a1 :: xR i :: st) h Q := by
  intro p e s m args below meth cc H locs la hC hH hL hs
  refine go_after (run_V (as := [a1, a2, a3, a4]) hk hl hd hc hcl hq rfl hR hst ct hC hH hL (ok_cons (ok_hd (ok_tl (ok_tl (ok_tl hs)))) (ok_cons (ok_hd (ok_tl (ok_tl hs))) (ok_cons (ok_hd (ok_tl hs)) (ok_cons (ok_hd hs) (fun v hv => by cases hv)))))) hH.2.1 (fun r h' H1 locs1 hq hok hHs => ?_)
  obtain ⟨rfl, hg⟩ := hq
  exact hg p e s m args below meth cc H1 locs1 la hC hHs hL (ok_tl (ok_tl (ok_tl (ok_tl (ok_tl hs)))))
theorem go_cS4V {N : mM} {idx : Nat} {a1 a2 a3 a4 : mV} (hl : mSl M.1.cls idx N 4) (hd : decode M.2.1 pc = .ok (.invokestatic idx, 3)) (hR : N.2.2.2.2 < M.2.2.2.2) (hst : catm st ≤ 8) (ct : CtV x N [a1, a2, a3, a4] h (fun h' => Go x M (pc + 3) ls (st) h' Q)) : Go x M pc ls (a4 :: a3 :: a2 :: a1 :: st) h Q := by
  intro p e s m args below meth cc H locs la hC hH hL hs
  refine go_after (run_S (as := [a1, a2, a3, a4]) hl hd rfl hR hst ct hC hH hL (ok_cons (ok_hd (ok_tl (ok_tl (ok_tl hs)))) (ok_cons (ok_hd (ok_tl (ok_tl hs))) (ok_cons (ok_hd (ok_tl hs)) (ok_cons (ok_hd hs) (fun v hv => by cases hv)))))) hH.2.1 (fun r h' H1 locs1 hq hok hHs => ?_)
  obtain ⟨rfl, hg⟩ := hq
  exact hg p e s m args below meth cc H1 locs1 la hC hHs hL (ok_tl (ok_tl (ok_tl (ok_tl hs))))
theorem go_cV5I {N : mM} {i c idx : Nat} {a1 a2 a3 a4 a5 : mV} {q : vw_C} (hk : kd i = c) (hl : mVl M.1.cls idx N 5) (hd : decode M.2.1 pc = .ok (.invokevirtual idx, 3)) (hc : c < 10) (hcl : vwCl[c]? = some q) (hq : q.1 = N.1.cls) (hR : N.2.2.2.2 < M.2.2.2.2) (hst : catm st ≤ 8) (ct : CtI x N (xR i :: [a1, a2, a3, a4, a5]) h (fun z h' => Go x M (pc + 3) ls (xI z :: st) h' Q)) : Go x M pc ls (a5 :: a4 :: a3 :: a2 :: a1 :: xR i :: st) h Q := by
  intro p e s m args below meth cc H locs la hC hH hL hs
  refine go_after (run_V (as := [a1, a2, a3, a4, a5]) hk hl hd hc hcl hq rfl hR hst ct hC hH hL (ok_cons (ok_hd (ok_tl (ok_tl (ok_tl (ok_tl hs))))) (ok_cons (ok_hd (ok_tl (ok_tl (ok_tl hs)))) (ok_cons (ok_hd (ok_tl (ok_tl hs))) (ok_cons (ok_hd (ok_tl hs)) (ok_cons (ok_hd hs) (fun v hv => by cases hv))))))) hH.2.1 (fun r h' H1 locs1 hq hok hHs => ?_)
  obtain ⟨z, rfl, hg⟩ := hq
  exact hg p e s m args below meth cc H1 locs1 la hC hHs hL (ok_cons hok (ok_tl (ok_tl (ok_tl (ok_tl (ok_tl (ok_tl hs)))))))
theorem go_cS5I {N : mM} {idx : Nat} {a1 a2 a3 a4 a5 : mV} (hl : mSl M.1.cls idx N 5) (hd : decode M.2.1 pc = .ok (.invokestatic idx, 3)) (hR : N.2.2.2.2 < M.2.2.2.2) (hst : catm st ≤ 8) (ct : CtI x N [a1, a2, a3, a4, a5] h (fun z h' => Go x M (pc + 3) ls (xI z :: st) h' Q)) : Go x M pc ls (a5 :: a4 :: a3 :: a2 :: a1 :: st) h Q := by
  intro p e s m args below meth cc H locs la hC hH hL hs
  refine go_after (run_S (as := [a1, a2, a3, a4, a5]) hl hd rfl hR hst ct hC hH hL (ok_cons (ok_hd (ok_tl (ok_tl (ok_tl (ok_tl hs))))) (ok_cons (ok_hd (ok_tl (ok_tl (ok_tl hs)))) (ok_cons (ok_hd (ok_tl (ok_tl hs))) (ok_cons (ok_hd (ok_tl hs)) (ok_cons (ok_hd hs) (fun v hv => by cases hv))))))) hH.2.1 (fun r h' H1 locs1 hq hok hHs => ?_)
  obtain ⟨z, rfl, hg⟩ := hq
  exact hg p e s m args below meth cc H1 locs1 la hC hHs hL (ok_cons hok (ok_tl (ok_tl (ok_tl (ok_tl (ok_tl hs))))))
theorem go_cV5V {N : mM} {i c idx : Nat} {a1 a2 a3 a4 a5 : mV} {q : vw_C} (hk : kd i = c) (hl : mVl M.1.cls idx N 5) (hd : decode M.2.1 pc = .ok (.invokevirtual idx, 3)) (hc : c < 10) (hcl : vwCl[c]? = some q) (hq : q.1 = N.1.cls) (hR : N.2.2.2.2 < M.2.2.2.2) (hst : catm st ≤ 8) (ct : CtV x N (xR i :: [a1, a2, a3, a4, a5]) h (fun h' => Go x M (pc + 3) ls (st) h' Q)) : Go x M pc ls (a5 :: a4 :: a3 :: a2 :: a1 :: xR i :: st) h Q := by
  intro p e s m args below meth cc H locs la hC hH hL hs
  refine go_after (run_V (as := [a1, a2, a3, a4, a5]) hk hl hd hc hcl hq rfl hR hst ct hC hH hL (ok_cons (ok_hd (ok_tl (ok_tl (ok_tl (ok_tl hs))))) (ok_cons (ok_hd (ok_tl (ok_tl (ok_tl hs)))) (ok_cons (ok_hd (ok_tl (ok_tl hs))) (ok_cons (ok_hd (ok_tl hs)) (ok_cons (ok_hd hs) (fun v hv => by cases hv))))))) hH.2.1 (fun r h' H1 locs1 hq hok hHs => ?_)
  obtain ⟨rfl, hg⟩ := hq
  exact hg p e s m args below meth cc H1 locs1 la hC hHs hL (ok_tl (ok_tl (ok_tl (ok_tl (ok_tl (ok_tl hs))))))
theorem go_cS5V {N : mM} {idx : Nat} {a1 a2 a3 a4 a5 : mV} (hl : mSl M.1.cls idx N 5) (hd : decode M.2.1 pc = .ok (.invokestatic idx, 3)) (hR : N.2.2.2.2 < M.2.2.2.2) (hst : catm st ≤ 8) (ct : CtV x N [a1, a2, a3, a4, a5] h (fun h' => Go x M (pc + 3) ls (st) h' Q)) : Go x M pc ls (a5 :: a4 :: a3 :: a2 :: a1 :: st) h Q := by
  intro p e s m args below meth cc H locs la hC hH hL hs
  refine go_after (run_S (as := [a1, a2, a3, a4, a5]) hl hd rfl hR hst ct hC hH hL (ok_cons (ok_hd (ok_tl (ok_tl (ok_tl (ok_tl hs))))) (ok_cons (ok_hd (ok_tl (ok_tl (ok_tl hs)))) (ok_cons (ok_hd (ok_tl (ok_tl hs))) (ok_cons (ok_hd (ok_tl hs)) (ok_cons (ok_hd hs) (fun v hv => by cases hv))))))) hH.2.1 (fun r h' H1 locs1 hq hok hHs => ?_)
  obtain ⟨rfl, hg⟩ := hq
  exact hg p e s m args below meth cc H1 locs1 la hC hHs hL (ok_tl (ok_tl (ok_tl (ok_tl (ok_tl hs)))))
def mMl (own : String) (idx : Nat) (y : MethodName) (cd : ByteArray) : Prop := Cond.methodLink own idx y ∈ gd_tbl ∧ Cond.static y ∈ gd_tbl ∧ Cond.initialized "java/lang/Math" ∈ gd_tbl ∧ Cond.code y cd 2 (some .int) ∈ gd_tbl
theorem go_max {idx : Nat} {a b : Int} (hl : mMl M.1.cls idx Lib.Math.max.name Lib.Math.max.code) (hd : decode M.2.1 pc = .ok (.invokestatic idx, 3)) (hR : 0 < M.2.2.2.2) (hst : catm st ≤ 8) (k : Go x M (pc + 3) ls (xI (if a < b then b else a) :: st) h Q) : Go x M pc ls (xI b :: xI a :: st) h Q := by
  intro p e s m args below meth cc H locs la hC hH hL hs
  obtain ⟨l1, l2, l3, l4⟩ := hl
  have hts := hC.2.2.2.2.2.2.1
  have hb : inR b := ok_hd hs
  have ha : inR a := ok_hd (ok_tl hs)
  refine va_mmax hC.2.1 hC.2.2.1 (by rw [hC.2.2.2.2.1, hL.1]) hC.2.2.2.2.2.1 (hts _ l1) (hts _ l2) (hts _ l3) (hts _ l4) (by show 1 ≤ M.2.2.2.2; omega) (by rw [catm_eq]; show _ ≤ 38 * M.2.2.2.2; omega) (Nat.zero_le _) (Nat.zero_le _) hd ?_
  have e1 : (if Int32.ofInt a < Int32.ofInt b then Int32.ofInt b else Int32.ofInt a) = Int32.ofInt (if a < b then b else a) := by
    by_cases q : a < b
    · rw [if_pos ((n_lt ha hb).mpr q), if_pos q]
    · rw [if_neg (fun w => q ((n_lt ha hb).mp w)), if_neg q]
  rw [e1]
  exact k p e s m args below meth cc H locs la hC hH hL (ok_cons (by show inR _; by_cases q : a < b <;> simp [q, ha, hb]) (ok_tl (ok_tl hs)))
theorem go_min {idx : Nat} {a b : Int} (hl : mMl M.1.cls idx Lib.Math.min.name Lib.Math.min.code) (hd : decode M.2.1 pc = .ok (.invokestatic idx, 3)) (hR : 0 < M.2.2.2.2) (hst : catm st ≤ 8) (k : Go x M (pc + 3) ls (xI (if b < a then b else a) :: st) h Q) : Go x M pc ls (xI b :: xI a :: st) h Q := by
  intro p e s m args below meth cc H locs la hC hH hL hs
  obtain ⟨l1, l2, l3, l4⟩ := hl
  have hts := hC.2.2.2.2.2.2.1
  have hb : inR b := ok_hd hs
  have ha : inR a := ok_hd (ok_tl hs)
  refine va_mmin hC.2.1 hC.2.2.1 (by rw [hC.2.2.2.2.1, hL.1]) hC.2.2.2.2.2.1 (hts _ l1) (hts _ l2) (hts _ l3) (hts _ l4) (by show 1 ≤ M.2.2.2.2; omega) (by rw [catm_eq]; show _ ≤ 38 * M.2.2.2.2; omega) (Nat.zero_le _) (Nat.zero_le _) hd ?_
  have e1 : (if Int32.ofInt b < Int32.ofInt a then Int32.ofInt b else Int32.ofInt a) = Int32.ofInt (if b < a then b else a) := by
    by_cases q : b < a
    · rw [if_pos ((n_lt hb ha).mpr q), if_pos q]
    · rw [if_neg (fun w => q ((n_lt hb ha).mp w)), if_neg q]
  rw [e1]
  exact k p e s m args below meth cc H locs la hC hH hL (ok_cons (by show inR _; by_cases q : b < a <;> simp [q, ha, hb]) (ok_tl (ok_tl hs)))
end MC
end
section
/-! ===== the methods, their links, the fields: by program (wip/whole/mklinks.py) ===== -/
abbrev mtX0_init : mM := (yX0_init, cX0_init, 1, none, 1)
abbrev mtX0_empties : mM := (yX0_empties, cX0_empties, 2, none, 0)
abbrev mtX0_at : mM := (yX0_at, cX0_at, 4, some .int, 0)
abbrev mtX0_raises : mM := (yX0_raises, cX0_raises, 7, none, 0)
abbrev mtX1_init : mM := (yX1_init, cX1_init, 2, none, 3)
abbrev mtX1_remembers : mM := (yX1_remembers, cX1_remembers, 2, none, 3)
abbrev mtX1_recalls : mM := (yX1_recalls, cX1_recalls, 3, none, 3)
abbrev mtX1_losesAll : mM := (yX1_losesAll, cX1_losesAll, 1, none, 0)
abbrev mtX2_init : mM := (yX2_init, cX2_init, 1, none, 2)
abbrev mtX2_wants : mM := (yX2_wants, cX2_wants, 2, none, 0)
abbrev mtX2_chooses : mM := (yX2_chooses, cX2_chooses, 2, some .int, 2)
abbrev mtX2_takes : mM := (yX2_takes, cX2_takes, 4, none, 0)
abbrev mtX2_inLeastTerms : mM := (yX2_inLeastTerms, cX2_inLeastTerms, 10, some .int, 0)
abbrev mtX3_init : mM := (yX3_init, cX3_init, 1, none, 3)
abbrev mtX3_startsLike : mM := (yX3_startsLike, cX3_startsLike, 2, none, 3)
abbrev mtX3_repacks : mM := (yX3_repacks, cX3_repacks, 3, none, 5)
abbrev mtX3_packsNext : mM := (yX3_packsNext, cX3_packsNext, 3, some .int, 4)
abbrev mtX3_readsNext : mM := (yX3_readsNext, cX3_readsNext, 3, some .int, 4)
abbrev mtX3_weighs : mM := (yX3_weighs, cX3_weighs, 3, some .int, 4)
abbrev mtX3_descends : mM := (yX3_descends, cX3_descends, 3, some .int, 3)
abbrev mtX3_startsAnew : mM := (yX3_startsAnew, cX3_startsAnew, 1, none, 2)
abbrev mtX3_longest : mM := (yX3_longest, cX3_longest, 1, some .int, 1)
abbrev mtX3_learns : mM := (yX3_learns, cX3_learns, 5, none, 3)
abbrev mtX3_forgets : mM := (yX3_forgets, cX3_forgets, 5, none, 2)
abbrev mtX4_init : mM := (yX4_init, cX4_init, 1, none, 2)
abbrev mtX4_setsOut : mM := (yX4_setsOut, cX4_setsOut, 5, none, 1)
abbrev mtX4_becomes : mM := (yX4_becomes, cX4_becomes, 2, none, 2)
abbrev mtX4_contextAhead : mM := (yX4_contextAhead, cX4_contextAhead, 5, some .int, 1)
abbrev mtX5_init : mM := (yX5_init, cX5_init, 1, none, 2)
abbrev mtX5_startsWriting : mM := (yX5_startsWriting, cX5_startsWriting, 1, none, 1)
abbrev mtX5_startsReading : mM := (yX5_startsReading, cX5_startsReading, 2, none, 1)
abbrev mtX5_endsLike : mM := (yX5_endsLike, cX5_endsLike, 2, none, 2)
abbrev mtX5_endedSize : mM := (yX5_endedSize, cX5_endedSize, 1, some .int, 0)
abbrev mtX5_wants : mM := (yX5_wants, cX5_wants, 2, none, 0)
abbrev mtX5_chooses : mM := (yX5_chooses, cX5_chooses, 4, some .int, 2)
abbrev mtX5_takes : mM := (yX5_takes, cX5_takes, 6, none, 2)
abbrev mtX5_isWhole : mM := (yX5_isWhole, cX5_isWhole, 1, none, 0)
abbrev mtX5_doubles : mM := (yX5_doubles, cX5_doubles, 2, none, 1)
abbrev mtX5_writesBit : mM := (yX5_writesBit, cX5_writesBit, 3, none, 1)
abbrev mtX6_init : mM := (yX6_init, cX6_init, 2, none, 1)
abbrev mtX6_isFull : mM := (yX6_isFull, cX6_isFull, 1, some .boolean, 0)
abbrev mtX6_at : mM := (yX6_at, cX6_at, 2, some .int, 0)
abbrev mtX6_puts : mM := (yX6_puts, cX6_puts, 2, none, 0)
abbrev mtX6_shortens : mM := (yX6_shortens, cX6_shortens, 2, none, 0)
abbrev mtX6_copies : mM := (yX6_copies, cX6_copies, 4, none, 1)
abbrev mtX7_init : mM := (yX7_init, cX7_init, 1, none, 1)
abbrev mtX7_shutsNone : mM := (yX7_shutsNone, cX7_shutsNone, 1, none, 0)
abbrev mtX7_shutsOpen : mM := (yX7_shutsOpen, cX7_shutsOpen, 1, none, 0)
abbrev mtX7_shows : mM := (yX7_shows, cX7_shows, 5, none, 1)
abbrev mtX7_width : mM := (yX7_width, cX7_width, 2, some .int, 0)
abbrev mtX7_beginOf : mM := (yX7_beginOf, cX7_beginOf, 4, some .int, 1)
abbrev mtX7_choiceFor : mM := (yX7_choiceFor, cX7_choiceFor, 2, some .int, 1)
abbrev mtX7_choiceAt : mM := (yX7_choiceAt, cX7_choiceAt, 4, some .int, 1)
abbrev mtX8_init : mM := (yX8_init, cX8_init, 1, none, 1)
abbrev mtX9_init : mM := (yX9_init, cX9_init, 1, none, 4)
abbrev mtX9_type : mM := (yX9_type, cX9_type, 2, some .int, 1)
abbrev mtX9_clear : mM := (yX9_clear, cX9_clear, 2, some .int, 1)
abbrev mtX9_begins : mM := (yX9_begins, cX9_begins, 6, some .int, 6)
abbrev mtX9_packs : mM := (yX9_packs, cX9_packs, 2, some .int, 5)
abbrev mtX9_word : mM := (yX9_word, cX9_word, 4, some .int, 5)
abbrev mtX9_cuts : mM := (yX9_cuts, cX9_cuts, 2, some .int, 6)
abbrev mtX9_undo : mM := (yX9_undo, cX9_undo, 1, some .int, 6)
abbrev mtX9_sign : mM := (yX9_sign, cX9_sign, 2, some .int, 1)
abbrev mtX9_count : mM := (yX9_count, cX9_count, 7, some .int, 3)
abbrev mtX9_bit : mM := (yX9_bit, cX9_bit, 2, some .int, 1)
abbrev mtX9_chance : mM := (yX9_chance, cX9_chance, 3, some .int, 5)
abbrev mtX9_escapes : mM := (yX9_escapes, cX9_escapes, 4, some .int, 5)
abbrev mtX9_likeliest : mM := (yX9_likeliest, cX9_likeliest, 7, some .int, 5)
abbrev mtX9_length : mM := (yX9_length, cX9_length, 1, some .int, 1)
abbrev mtX9_best : mM := (yX9_best, cX9_best, 5, some .int, 6)
abbrev mtX9_unpacked : mM := (yX9_unpacked, cX9_unpacked, 4, some .int, 5)
abbrev mtX9_agrees : mM := (yX9_agrees, cX9_agrees, 3, some .int, 5)
abbrev mtX9_keep : mM := (yX9_keep, cX9_keep, 2, some .int, 3)
abbrev mtX9_back : mM := (yX9_back, cX9_back, 2, some .int, 6)
abbrev mtX9_told : mM := (yX9_told, cX9_told, 2, some .int, 0)
abbrev mtX9_isWithin : mM := (yX9_isWithin, cX9_isWithin, 3, some .boolean, 0)
abbrev mtX9_isSign : mM := (yX9_isSign, cX9_isSign, 1, some .boolean, 1)
abbrev mtX9_isContextSign : mM := (yX9_isContextSign, cX9_isContextSign, 2, some .boolean, 2)
abbrev mtX9_longerContext : mM := (yX9_longerContext, cX9_longerContext, 2, some .int, 0)
abbrev mtX9_firstLetterOutside : mM := (yX9_firstLetterOutside, cX9_firstLetterOutside, 4, some .int, 1)
abbrev mtX10_init : mM := (yX10_init, cX10_init, 1, none, 1)
abbrev mtX10_within : mM := (yX10_within, cX10_within, 3, some .boolean, 0)
abbrev mtX10_has : mM := (yX10_has, cX10_has, 2, some .boolean, 0)
abbrev mtX10_ones : mM := (yX10_ones, cX10_ones, 1, some .int, 0)
abbrev mtX10_lesser : mM := (yX10_lesser, cX10_lesser, 2, some .int, 0)
abbrev mtX10_lays : mM := (yX10_lays, cX10_lays, 5, none, 0)
abbrev mtX10_clears : mM := (yX10_clears, cX10_clears, 2, none, 0)
abbrev mtX10_starts : mM := (yX10_starts, cX10_starts, 4, none, 1)
abbrev mtX10_nextBit : mM := (yX10_nextBit, cX10_nextBit, 2, some .int, 0)
abbrev mtX10_puts : mM := (yX10_puts, cX10_puts, 2, none, 0)
abbrev mtX10_widens : mM := (yX10_widens, cX10_widens, 2, some .boolean, 1)
abbrev mtX10_part : mM := (yX10_part, cX10_part, 6, none, 2)
abbrev mtX10_lies : mM := (yX10_lies, cX10_lies, 2, some .int, 0)
abbrev mtX10_context : mM := (yX10_context, cX10_context, 6, some .int, 0)
abbrev mtX10_openAt : mM := (yX10_openAt, cX10_openAt, 5, some .int, 1)
abbrev mtX10_sum : mM := (yX10_sum, cX10_sum, 6, some .int, 1)
abbrev mtX10_signAt : mM := (yX10_signAt, cX10_signAt, 5, some .int, 2)
abbrev mtX10_plain : mM := (yX10_plain, cX10_plain, 7, some .int, 3)
abbrev mtX10_goes : mM := (yX10_goes, cX10_goes, 9, some .int, 4)
abbrev mtX10_adds : mM := (yX10_adds, cX10_adds, 5, none, 0)
abbrev mtX10_there : mM := (yX10_there, cX10_there, 3, some .int, 2)
abbrev mtX10_forgets : mM := (yX10_forgets, cX10_forgets, 4, none, 1)
abbrev mtX10_learns : mM := (yX10_learns, cX10_learns, 3, none, 3)
abbrev mtX10_packsAll : mM := (yX10_packsAll, cX10_packsAll, 3, none, 5)
abbrev mtX10_packsNow : mM := (yX10_packsNow, cX10_packsNow, 1, none, 6)
abbrev mtX10_unpacks : mM := (yX10_unpacks, cX10_unpacks, 3, none, 5)
abbrev mtX10_ended : mM := (yX10_ended, cX10_ended, 1, some .int, 0)
abbrev mtX10_type : mM := (yX10_type, cX10_type, 2, some .int, 1)
abbrev mtX10_clear : mM := (yX10_clear, cX10_clear, 2, some .int, 0)
abbrev mtX10_keeps : mM := (yX10_keeps, cX10_keeps, 2, none, 0)
abbrev mtX10_begins : mM := (yX10_begins, cX10_begins, 6, some .int, 1)
abbrev mtX10_appends : mM := (yX10_appends, cX10_appends, 2, none, 0)
abbrev mtX10_packs : mM := (yX10_packs, cX10_packs, 2, some .int, 7)
abbrev mtX10_wrongLetter : mM := (yX10_wrongLetter, cX10_wrongLetter, 4, some .int, 1)
abbrev mtX10_word : mM := (yX10_word, cX10_word, 3, some .int, 2)
abbrev mtX10_cuts : mM := (yX10_cuts, cX10_cuts, 2, some .int, 1)
abbrev mtX10_undo : mM := (yX10_undo, cX10_undo, 2, some .int, 0)
abbrev mtX10_sign : mM := (yX10_sign, cX10_sign, 2, some .int, 1)
abbrev mtX10_isSign : mM := (yX10_isSign, cX10_isSign, 1, some .boolean, 1)
abbrev mtX10_countOf : mM := (yX10_countOf, cX10_countOf, 3, some .int, 7)
abbrev mtX10_count : mM := (yX10_count, cX10_count, 7, some .int, 8)
abbrev mtX10_bit : mM := (yX10_bit, cX10_bit, 2, some .int, 7)
abbrev mtX10_common : mM := (yX10_common, cX10_common, 10, some .long, 0)
abbrev mtX10_weighs : mM := (yX10_weighs, cX10_weighs, 5, none, 5)
abbrev mtX10_chance : mM := (yX10_chance, cX10_chance, 3, some .int, 7)
abbrev mtX10_escapes : mM := (yX10_escapes, cX10_escapes, 3, some .int, 7)
abbrev mtX10_likeliest : mM := (yX10_likeliest, cX10_likeliest, 7, some .int, 7)
abbrev mtX10_length : mM := (yX10_length, cX10_length, 1, some .int, 7)
abbrev mtX10_best : mM := (yX10_best, cX10_best, 5, some .int, 6)
abbrev mtX10_unpacked : mM := (yX10_unpacked, cX10_unpacked, 4, some .int, 6)
abbrev mtX10_agrees : mM := (yX10_agrees, cX10_agrees, 2, some .int, 7)
abbrev mtX10_keep : mM := (yX10_keep, cX10_keep, 3, some .int, 1)
abbrev mtX10_back : mM := (yX10_back, cX10_back, 3, some .int, 1)
abbrev mtX10_tellNow : mM := (yX10_tellNow, cX10_tellNow, 2, some .int, 7)
abbrev mtX10_told : mM := (yX10_told, cX10_told, 2, some .int, 8)
abbrev mtJ6_bitCount_0f7a4 : mM := (yJ6_bitCount_0f7a4, cJ6_bitCount_0f7a4, 1, some .int, 0)
abbrev mtJ9_max_7cf53 : mM := (yJ9_max_7cf53, cJ9_max_7cf53, 2, some .int, 0)
abbrev mtJ9_min_7cf53 : mM := (yJ9_min_7cf53, cJ9_min_7cf53, 2, some .int, 0)
theorem ingX0 : ∀ w ∈ u_ws RX0 TX0 2, w ∈ gd_tbl := fun w hw => List.mem_filter.mpr (of_decide_eq_true (List.all_eq_true.mp (show (u_ws RX0 TX0 2).all (fun w => decide (w ∈ lw_tbl ∧ goodWord w = true)) = true by decide +kernel) w hw))
theorem ingX1 : ∀ w ∈ u_ws RX1 TX1 3, w ∈ gd_tbl := fun w hw => List.mem_filter.mpr (of_decide_eq_true (List.all_eq_true.mp (show (u_ws RX1 TX1 3).all (fun w => decide (w ∈ lw_tbl ∧ goodWord w = true)) = true by decide +kernel) w hw))
theorem ingX2 : ∀ w ∈ u_ws RX2 TX2 4, w ∈ gd_tbl := fun w hw => List.mem_filter.mpr (of_decide_eq_true (List.all_eq_true.mp (show (u_ws RX2 TX2 4).all (fun w => decide (w ∈ lw_tbl ∧ goodWord w = true)) = true by decide +kernel) w hw))
theorem ingX3 : ∀ w ∈ u_ws RX3 TX3 7, w ∈ gd_tbl := fun w hw => List.mem_filter.mpr (of_decide_eq_true (List.all_eq_true.mp (show (u_ws RX3 TX3 7).all (fun w => decide (w ∈ lw_tbl ∧ goodWord w = true)) = true by decide +kernel) w hw))
theorem ingX4 : ∀ w ∈ u_ws RX4 TX4 5, w ∈ gd_tbl := fun w hw => List.mem_filter.mpr (of_decide_eq_true (List.all_eq_true.mp (show (u_ws RX4 TX4 5).all (fun w => decide (w ∈ lw_tbl ∧ goodWord w = true)) = true by decide +kernel) w hw))
theorem ingX5 : ∀ w ∈ u_ws RX5 TX5 8, w ∈ gd_tbl := fun w hw => List.mem_filter.mpr (of_decide_eq_true (List.all_eq_true.mp (show (u_ws RX5 TX5 8).all (fun w => decide (w ∈ lw_tbl ∧ goodWord w = true)) = true by decide +kernel) w hw))
theorem ingX6 : ∀ w ∈ u_ws RX6 TX6 2, w ∈ gd_tbl := fun w hw => List.mem_filter.mpr (of_decide_eq_true (List.all_eq_true.mp (show (u_ws RX6 TX6 2).all (fun w => decide (w ∈ lw_tbl ∧ goodWord w = true)) = true by decide +kernel) w hw))
theorem ingX7 : ∀ w ∈ u_ws RX7 TX7 4, w ∈ gd_tbl := fun w hw => List.mem_filter.mpr (of_decide_eq_true (List.all_eq_true.mp (show (u_ws RX7 TX7 4).all (fun w => decide (w ∈ lw_tbl ∧ goodWord w = true)) = true by decide +kernel) w hw))
theorem ingX9 : ∀ w ∈ u_ws RX9 TX9 9, w ∈ gd_tbl := fun w hw => List.mem_filter.mpr (of_decide_eq_true (List.all_eq_true.mp (show (u_ws RX9 TX9 9).all (fun w => decide (w ∈ lw_tbl ∧ goodWord w = true)) = true by decide +kernel) w hw))
theorem ingX10 : ∀ w ∈ u_ws RX10 TX10 26, w ∈ gd_tbl := fun w hw => List.mem_filter.mpr (of_decide_eq_true (List.all_eq_true.mp (show (u_ws RX10 TX10 26).all (fun w => decide (w ∈ lw_tbl ∧ goodWord w = true)) = true by decide +kernel) w hw))
theorem gfX0_counts {x : mX} {M : mM} {pc idx : Nat} {ls st : List mV} {h : mH} {Q : mV → mH → Prop} {i : Nat} (hk : kd i = 0) (hl : mFl M.1.cls idx "LongestPast$Contexts" "counts" "[I") (hd : decode M.2.1 pc = .ok (.getfield idx, 3)) (kk : Go x M (pc + 3) ls (xR (i + 1) :: st) h Q) : Go x M pc ls (xR i :: st) h Q := go_get (T := TX0) (k := 0) (v := xR (i + 1)) hk hl hd (by decide) rfl (by decide) rfl ingX0 rfl (fun _ => trivial) kk
theorem gfX0_there {x : mX} {M : mM} {pc idx : Nat} {ls st : List mV} {h : mH} {Q : mV → mH → Prop} {i : Nat} (hk : kd i = 0) (hl : mFl M.1.cls idx "LongestPast$Contexts" "there" "I") (hd : decode M.2.1 pc = .ok (.getfield idx, 3)) (kk : Go x M (pc + 3) ls (xI (h i 1) :: st) h Q) : Go x M pc ls (xR i :: st) h Q := go_get (T := TX0) (k := 1) (v := xI (h i 1)) hk hl hd (by decide) rfl (by decide) rfl ingX0 rfl (fun hh => by have := hh i 1; rw [show isLg i 1 = false by unfold isLg; rw [hk]; rfl] at this; exact this) kk
theorem pfX0_there {x : mX} {M : mM} {pc idx : Nat} {ls st : List mV} {h : mH} {Q : mV → mH → Prop} {i : Nat} {z : Int} (hk : kd i = 0) (hl : mFl M.1.cls idx "LongestPast$Contexts" "there" "I") (hd : decode M.2.1 pc = .ok (.putfield idx, 3)) (kk : Go x M (pc + 3) ls st (hset h i 1 z) Q) : Go x M pc ls (xI z :: xR i :: st) h Q := go_put (T := TX0) (k := 1) (v := xI z) (z := z) (ty := .int) hk hl hd (by decide) rfl (by decide) rfl ingX0 tyX0 tyX0_ok nmX0 rfl (tyX0_ok 1 (by decide)) rfl rfl (fun h2 e => by unfold fv; rw [e]; rfl) (Or.inr ⟨by unfold isLg; rw [hk]; rfl, rfl⟩) kk
theorem gfX1_ring {x : mX} {M : mM} {pc idx : Nat} {ls st : List mV} {h : mH} {Q : mV → mH → Prop} {i : Nat} (hk : kd i = 1) (hl : mFl M.1.cls idx "LongestPast$History" "ring" "[LLongestPast$Past;") (hd : decode M.2.1 pc = .ok (.getfield idx, 3)) (kk : Go x M (pc + 3) ls (xR (i + 1) :: st) h Q) : Go x M pc ls (xR i :: st) h Q := go_get (T := TX1) (k := 0) (v := xR (i + 1)) hk hl hd (by decide) rfl (by decide) rfl ingX1 rfl (fun _ => trivial) kk
theorem gfX1_next {x : mX} {M : mM} {pc idx : Nat} {ls st : List mV} {h : mH} {Q : mV → mH → Prop} {i : Nat} (hk : kd i = 1) (hl : mFl M.1.cls idx "LongestPast$History" "next" "I") (hd : decode M.2.1 pc = .ok (.getfield idx, 3)) (kk : Go x M (pc + 3) ls (xI (h i 1) :: st) h Q) : Go x M pc ls (xR i :: st) h Q := go_get (T := TX1) (k := 1) (v := xI (h i 1)) hk hl hd (by decide) rfl (by decide) rfl ingX1 rfl (fun hh => by have := hh i 1; rw [show isLg i 1 = false by unfold isLg; rw [hk]; rfl] at this; exact this) kk
theorem pfX1_next {x : mX} {M : mM} {pc idx : Nat} {ls st : List mV} {h : mH} {Q : mV → mH → Prop} {i : Nat} {z : Int} (hk : kd i = 1) (hl : mFl M.1.cls idx "LongestPast$History" "next" "I") (hd : decode M.2.1 pc = .ok (.putfield idx, 3)) (kk : Go x M (pc + 3) ls st (hset h i 1 z) Q) : Go x M pc ls (xI z :: xR i :: st) h Q := go_put (T := TX1) (k := 1) (v := xI z) (z := z) (ty := .int) hk hl hd (by decide) rfl (by decide) rfl ingX1 tyX1 tyX1_ok nmX1 rfl (tyX1_ok 1 (by decide)) rfl rfl (fun h2 e => by unfold fv; rw [e]; rfl) (Or.inr ⟨by unfold isLg; rw [hk]; rfl, rfl⟩) kk
theorem gfX1_known {x : mX} {M : mM} {pc idx : Nat} {ls st : List mV} {h : mH} {Q : mV → mH → Prop} {i : Nat} (hk : kd i = 1) (hl : mFl M.1.cls idx "LongestPast$History" "known" "I") (hd : decode M.2.1 pc = .ok (.getfield idx, 3)) (kk : Go x M (pc + 3) ls (xI (h i 2) :: st) h Q) : Go x M pc ls (xR i :: st) h Q := go_get (T := TX1) (k := 2) (v := xI (h i 2)) hk hl hd (by decide) rfl (by decide) rfl ingX1 rfl (fun hh => by have := hh i 2; rw [show isLg i 2 = false by unfold isLg; rw [hk]; rfl] at this; exact this) kk
theorem pfX1_known {x : mX} {M : mM} {pc idx : Nat} {ls st : List mV} {h : mH} {Q : mV → mH → Prop} {i : Nat} {z : Int} (hk : kd i = 1) (hl : mFl M.1.cls idx "LongestPast$History" "known" "I") (hd : decode M.2.1 pc = .ok (.putfield idx, 3)) (kk : Go x M (pc + 3) ls st (hset h i 2 z) Q) : Go x M pc ls (xI z :: xR i :: st) h Q := go_put (T := TX1) (k := 2) (v := xI z) (z := z) (ty := .int) hk hl hd (by decide) rfl (by decide) rfl ingX1 tyX1 tyX1_ok nmX1 rfl (tyX1_ok 2 (by decide)) rfl rfl (fun h2 e => by unfold fv; rw [e]; rfl) (Or.inr ⟨by unfold isLg; rw [hk]; rfl, rfl⟩) kk
theorem gfX2_wanted {x : mX} {M : mM} {pc idx : Nat} {ls st : List mV} {h : mH} {Q : mV → mH → Prop} {i : Nat} (hk : kd i = 2) (hl : mFl M.1.cls idx "LongestPast$Odds" "wanted" "I") (hd : decode M.2.1 pc = .ok (.getfield idx, 3)) (kk : Go x M (pc + 3) ls (xI (h i 0) :: st) h Q) : Go x M pc ls (xR i :: st) h Q := go_get (T := TX2) (k := 0) (v := xI (h i 0)) hk hl hd (by decide) rfl (by decide) rfl ingX2 rfl (fun hh => by have := hh i 0; rw [show isLg i 0 = false by unfold isLg; rw [hk]; rfl] at this; exact this) kk
theorem pfX2_wanted {x : mX} {M : mM} {pc idx : Nat} {ls st : List mV} {h : mH} {Q : mV → mH → Prop} {i : Nat} {z : Int} (hk : kd i = 2) (hl : mFl M.1.cls idx "LongestPast$Odds" "wanted" "I") (hd : decode M.2.1 pc = .ok (.putfield idx, 3)) (kk : Go x M (pc + 3) ls st (hset h i 0 z) Q) : Go x M pc ls (xI z :: xR i :: st) h Q := go_put (T := TX2) (k := 0) (v := xI z) (z := z) (ty := .int) hk hl hd (by decide) rfl (by decide) rfl ingX2 tyX2 tyX2_ok nmX2 rfl (tyX2_ok 0 (by decide)) rfl rfl (fun h2 e => by unfold fv; rw [e]; rfl) (Or.inr ⟨by unfold isLg; rw [hk]; rfl, rfl⟩) kk
theorem gfX2_escaped {x : mX} {M : mM} {pc idx : Nat} {ls st : List mV} {h : mH} {Q : mV → mH → Prop} {i : Nat} (hk : kd i = 2) (hl : mFl M.1.cls idx "LongestPast$Odds" "escaped" "I") (hd : decode M.2.1 pc = .ok (.getfield idx, 3)) (kk : Go x M (pc + 3) ls (xI (h i 1) :: st) h Q) : Go x M pc ls (xR i :: st) h Q := go_get (T := TX2) (k := 1) (v := xI (h i 1)) hk hl hd (by decide) rfl (by decide) rfl ingX2 rfl (fun hh => by have := hh i 1; rw [show isLg i 1 = false by unfold isLg; rw [hk]; rfl] at this; exact this) kk
theorem pfX2_escaped {x : mX} {M : mM} {pc idx : Nat} {ls st : List mV} {h : mH} {Q : mV → mH → Prop} {i : Nat} {z : Int} (hk : kd i = 2) (hl : mFl M.1.cls idx "LongestPast$Odds" "escaped" "I") (hd : decode M.2.1 pc = .ok (.putfield idx, 3)) (kk : Go x M (pc + 3) ls st (hset h i 1 z) Q) : Go x M pc ls (xI z :: xR i :: st) h Q := go_put (T := TX2) (k := 1) (v := xI z) (z := z) (ty := .int) hk hl hd (by decide) rfl (by decide) rfl ingX2 tyX2 tyX2_ok nmX2 rfl (tyX2_ok 1 (by decide)) rfl rfl (fun h2 e => by unfold fv; rw [e]; rfl) (Or.inr ⟨by unfold isLg; rw [hk]; rfl, rfl⟩) kk
theorem gfX2_upper {x : mX} {M : mM} {pc idx : Nat} {ls st : List mV} {h : mH} {Q : mV → mH → Prop} {i : Nat} (hk : kd i = 2) (hl : mFl M.1.cls idx "LongestPast$Odds" "upper" "J") (hd : decode M.2.1 pc = .ok (.getfield idx, 3)) (kk : Go x M (pc + 3) ls (xL (h i 2) :: st) h Q) : Go x M pc ls (xR i :: st) h Q := go_get (T := TX2) (k := 2) (v := xL (h i 2)) hk hl hd (by decide) rfl (by decide) rfl ingX2 rfl (fun hh => by have := hh i 2; rw [show isLg i 2 = true by unfold isLg; rw [hk]; rfl] at this; exact this) kk
theorem pfX2_upper {x : mX} {M : mM} {pc idx : Nat} {ls st : List mV} {h : mH} {Q : mV → mH → Prop} {i : Nat} {z : Int} (hk : kd i = 2) (hl : mFl M.1.cls idx "LongestPast$Odds" "upper" "J") (hd : decode M.2.1 pc = .ok (.putfield idx, 3)) (kk : Go x M (pc + 3) ls st (hset h i 2 z) Q) : Go x M pc ls (xL z :: xR i :: st) h Q := go_put (T := TX2) (k := 2) (v := xL z) (z := z) (ty := .long) hk hl hd (by decide) rfl (by decide) rfl ingX2 tyX2 tyX2_ok nmX2 rfl (tyX2_ok 2 (by decide)) rfl rfl (fun h2 e => by unfold fv; rw [e]; rfl) (Or.inl ⟨by unfold isLg; rw [hk]; rfl, rfl⟩) kk
theorem gfX2_lower {x : mX} {M : mM} {pc idx : Nat} {ls st : List mV} {h : mH} {Q : mV → mH → Prop} {i : Nat} (hk : kd i = 2) (hl : mFl M.1.cls idx "LongestPast$Odds" "lower" "J") (hd : decode M.2.1 pc = .ok (.getfield idx, 3)) (kk : Go x M (pc + 3) ls (xL (h i 3) :: st) h Q) : Go x M pc ls (xR i :: st) h Q := go_get (T := TX2) (k := 3) (v := xL (h i 3)) hk hl hd (by decide) rfl (by decide) rfl ingX2 rfl (fun hh => by have := hh i 3; rw [show isLg i 3 = true by unfold isLg; rw [hk]; rfl] at this; exact this) kk
theorem pfX2_lower {x : mX} {M : mM} {pc idx : Nat} {ls st : List mV} {h : mH} {Q : mV → mH → Prop} {i : Nat} {z : Int} (hk : kd i = 2) (hl : mFl M.1.cls idx "LongestPast$Odds" "lower" "J") (hd : decode M.2.1 pc = .ok (.putfield idx, 3)) (kk : Go x M (pc + 3) ls st (hset h i 3 z) Q) : Go x M pc ls (xL z :: xR i :: st) h Q := go_put (T := TX2) (k := 3) (v := xL z) (z := z) (ty := .long) hk hl hd (by decide) rfl (by decide) rfl ingX2 tyX2 tyX2_ok nmX2 rfl (tyX2_ok 3 (by decide)) rfl rfl (fun h2 e => by unfold fv; rw [e]; rfl) (Or.inl ⟨by unfold isLg; rw [hk]; rfl, rfl⟩) kk
theorem gfX3_past {x : mX} {M : mM} {pc idx : Nat} {ls st : List mV} {h : mH} {Q : mV → mH → Prop} {i : Nat} (hk : kd i = 3) (hl : mFl M.1.cls idx "LongestPast$Packer" "past" "LLongestPast$Past;") (hd : decode M.2.1 pc = .ok (.getfield idx, 3)) (kk : Go x M (pc + 3) ls (xR (i + 1) :: st) h Q) : Go x M pc ls (xR i :: st) h Q := go_get (T := TX3) (k := 0) (v := xR (i + 1)) hk hl hd (by decide) rfl (by decide) rfl ingX3 rfl (fun _ => trivial) kk
theorem gfX3_contexts {x : mX} {M : mM} {pc idx : Nat} {ls st : List mV} {h : mH} {Q : mV → mH → Prop} {i : Nat} (hk : kd i = 3) (hl : mFl M.1.cls idx "LongestPast$Packer" "contexts" "LLongestPast$Contexts;") (hd : decode M.2.1 pc = .ok (.getfield idx, 3)) (kk : Go x M (pc + 3) ls (xR (i + 4) :: st) h Q) : Go x M pc ls (xR i :: st) h Q := go_get (T := TX3) (k := 1) (v := xR (i + 4)) hk hl hd (by decide) rfl (by decide) rfl ingX3 rfl (fun _ => trivial) kk
theorem gfX3_range {x : mX} {M : mM} {pc idx : Nat} {ls st : List mV} {h : mH} {Q : mV → mH → Prop} {i : Nat} (hk : kd i = 3) (hl : mFl M.1.cls idx "LongestPast$Packer" "range" "LLongestPast$Range;") (hd : decode M.2.1 pc = .ok (.getfield idx, 3)) (kk : Go x M (pc + 3) ls (xR (i + 6) :: st) h Q) : Go x M pc ls (xR i :: st) h Q := go_get (T := TX3) (k := 2) (v := xR (i + 6)) hk hl hd (by decide) rfl (by decide) rfl ingX3 rfl (fun _ => trivial) kk
theorem gfX3_stage {x : mX} {M : mM} {pc idx : Nat} {ls st : List mV} {h : mH} {Q : mV → mH → Prop} {i : Nat} (hk : kd i = 3) (hl : mFl M.1.cls idx "LongestPast$Packer" "stage" "LLongestPast$Stage;") (hd : decode M.2.1 pc = .ok (.getfield idx, 3)) (kk : Go x M (pc + 3) ls (xR (i + 9) :: st) h Q) : Go x M pc ls (xR i :: st) h Q := go_get (T := TX3) (k := 3) (v := xR (i + 9)) hk hl hd (by decide) rfl (by decide) rfl ingX3 rfl (fun _ => trivial) kk
theorem gfX3_packed {x : mX} {M : mM} {pc idx : Nat} {ls st : List mV} {h : mH} {Q : mV → mH → Prop} {i : Nat} (hk : kd i = 3) (hl : mFl M.1.cls idx "LongestPast$Packer" "packed" "I") (hd : decode M.2.1 pc = .ok (.getfield idx, 3)) (kk : Go x M (pc + 3) ls (xI (h i 4) :: st) h Q) : Go x M pc ls (xR i :: st) h Q := go_get (T := TX3) (k := 4) (v := xI (h i 4)) hk hl hd (by decide) rfl (by decide) rfl ingX3 rfl (fun hh => by have := hh i 4; rw [show isLg i 4 = false by unfold isLg; rw [hk]; rfl] at this; exact this) kk
theorem pfX3_packed {x : mX} {M : mM} {pc idx : Nat} {ls st : List mV} {h : mH} {Q : mV → mH → Prop} {i : Nat} {z : Int} (hk : kd i = 3) (hl : mFl M.1.cls idx "LongestPast$Packer" "packed" "I") (hd : decode M.2.1 pc = .ok (.putfield idx, 3)) (kk : Go x M (pc + 3) ls st (hset h i 4 z) Q) : Go x M pc ls (xI z :: xR i :: st) h Q := go_put (T := TX3) (k := 4) (v := xI z) (z := z) (ty := .int) hk hl hd (by decide) rfl (by decide) rfl ingX3 tyX3 tyX3_ok nmX3 rfl (tyX3_ok 4 (by decide)) rfl rfl (fun h2 e => by unfold fv; rw [e]; rfl) (Or.inr ⟨by unfold isLg; rw [hk]; rfl, rfl⟩) kk
theorem gfX3_forgotten {x : mX} {M : mM} {pc idx : Nat} {ls st : List mV} {h : mH} {Q : mV → mH → Prop} {i : Nat} (hk : kd i = 3) (hl : mFl M.1.cls idx "LongestPast$Packer" "forgotten" "I") (hd : decode M.2.1 pc = .ok (.getfield idx, 3)) (kk : Go x M (pc + 3) ls (xI (h i 5) :: st) h Q) : Go x M pc ls (xR i :: st) h Q := go_get (T := TX3) (k := 5) (v := xI (h i 5)) hk hl hd (by decide) rfl (by decide) rfl ingX3 rfl (fun hh => by have := hh i 5; rw [show isLg i 5 = false by unfold isLg; rw [hk]; rfl] at this; exact this) kk
theorem pfX3_forgotten {x : mX} {M : mM} {pc idx : Nat} {ls st : List mV} {h : mH} {Q : mV → mH → Prop} {i : Nat} {z : Int} (hk : kd i = 3) (hl : mFl M.1.cls idx "LongestPast$Packer" "forgotten" "I") (hd : decode M.2.1 pc = .ok (.putfield idx, 3)) (kk : Go x M (pc + 3) ls st (hset h i 5 z) Q) : Go x M pc ls (xI z :: xR i :: st) h Q := go_put (T := TX3) (k := 5) (v := xI z) (z := z) (ty := .int) hk hl hd (by decide) rfl (by decide) rfl ingX3 tyX3 tyX3_ok nmX3 rfl (tyX3_ok 5 (by decide)) rfl rfl (fun h2 e => by unfold fv; rw [e]; rfl) (Or.inr ⟨by unfold isLg; rw [hk]; rfl, rfl⟩) kk
theorem gfX3_chosen {x : mX} {M : mM} {pc idx : Nat} {ls st : List mV} {h : mH} {Q : mV → mH → Prop} {i : Nat} (hk : kd i = 3) (hl : mFl M.1.cls idx "LongestPast$Packer" "chosen" "I") (hd : decode M.2.1 pc = .ok (.getfield idx, 3)) (kk : Go x M (pc + 3) ls (xI (h i 6) :: st) h Q) : Go x M pc ls (xR i :: st) h Q := go_get (T := TX3) (k := 6) (v := xI (h i 6)) hk hl hd (by decide) rfl (by decide) rfl ingX3 rfl (fun hh => by have := hh i 6; rw [show isLg i 6 = false by unfold isLg; rw [hk]; rfl] at this; exact this) kk
theorem pfX3_chosen {x : mX} {M : mM} {pc idx : Nat} {ls st : List mV} {h : mH} {Q : mV → mH → Prop} {i : Nat} {z : Int} (hk : kd i = 3) (hl : mFl M.1.cls idx "LongestPast$Packer" "chosen" "I") (hd : decode M.2.1 pc = .ok (.putfield idx, 3)) (kk : Go x M (pc + 3) ls st (hset h i 6 z) Q) : Go x M pc ls (xI z :: xR i :: st) h Q := go_put (T := TX3) (k := 6) (v := xI z) (z := z) (ty := .int) hk hl hd (by decide) rfl (by decide) rfl ingX3 tyX3 tyX3_ok nmX3 rfl (tyX3_ok 6 (by decide)) rfl rfl (fun h2 e => by unfold fv; rw [e]; rfl) (Or.inr ⟨by unfold isLg; rw [hk]; rfl, rfl⟩) kk
theorem gfX4_order {x : mX} {M : mM} {pc idx : Nat} {ls st : List mV} {h : mH} {Q : mV → mH → Prop} {i : Nat} (hk : kd i = 4) (hl : mFl M.1.cls idx "LongestPast$Past" "order" "I") (hd : decode M.2.1 pc = .ok (.getfield idx, 3)) (kk : Go x M (pc + 3) ls (xI (h i 0) :: st) h Q) : Go x M pc ls (xR i :: st) h Q := go_get (T := TX4) (k := 0) (v := xI (h i 0)) hk hl hd (by decide) rfl (by decide) rfl ingX4 rfl (fun hh => by have := hh i 0; rw [show isLg i 0 = false by unfold isLg; rw [hk]; rfl] at this; exact this) kk
theorem pfX4_order {x : mX} {M : mM} {pc idx : Nat} {ls st : List mV} {h : mH} {Q : mV → mH → Prop} {i : Nat} {z : Int} (hk : kd i = 4) (hl : mFl M.1.cls idx "LongestPast$Past" "order" "I") (hd : decode M.2.1 pc = .ok (.putfield idx, 3)) (kk : Go x M (pc + 3) ls st (hset h i 0 z) Q) : Go x M pc ls (xI z :: xR i :: st) h Q := go_put (T := TX4) (k := 0) (v := xI z) (z := z) (ty := .int) hk hl hd (by decide) rfl (by decide) rfl ingX4 tyX4 tyX4_ok nmX4 rfl (tyX4_ok 0 (by decide)) rfl rfl (fun h2 e => by unfold fv; rw [e]; rfl) (Or.inr ⟨by unfold isLg; rw [hk]; rfl, rfl⟩) kk
theorem gfX4_limit {x : mX} {M : mM} {pc idx : Nat} {ls st : List mV} {h : mH} {Q : mV → mH → Prop} {i : Nat} (hk : kd i = 4) (hl : mFl M.1.cls idx "LongestPast$Past" "limit" "I") (hd : decode M.2.1 pc = .ok (.getfield idx, 3)) (kk : Go x M (pc + 3) ls (xI (h i 1) :: st) h Q) : Go x M pc ls (xR i :: st) h Q := go_get (T := TX4) (k := 1) (v := xI (h i 1)) hk hl hd (by decide) rfl (by decide) rfl ingX4 rfl (fun hh => by have := hh i 1; rw [show isLg i 1 = false by unfold isLg; rw [hk]; rfl] at this; exact this) kk
theorem pfX4_limit {x : mX} {M : mM} {pc idx : Nat} {ls st : List mV} {h : mH} {Q : mV → mH → Prop} {i : Nat} {z : Int} (hk : kd i = 4) (hl : mFl M.1.cls idx "LongestPast$Past" "limit" "I") (hd : decode M.2.1 pc = .ok (.putfield idx, 3)) (kk : Go x M (pc + 3) ls st (hset h i 1 z) Q) : Go x M pc ls (xI z :: xR i :: st) h Q := go_put (T := TX4) (k := 1) (v := xI z) (z := z) (ty := .int) hk hl hd (by decide) rfl (by decide) rfl ingX4 tyX4 tyX4_ok nmX4 rfl (tyX4_ok 1 (by decide)) rfl rfl (fun h2 e => by unfold fv; rw [e]; rfl) (Or.inr ⟨by unfold isLg; rw [hk]; rfl, rfl⟩) kk
theorem gfX4_room {x : mX} {M : mM} {pc idx : Nat} {ls st : List mV} {h : mH} {Q : mV → mH → Prop} {i : Nat} (hk : kd i = 4) (hl : mFl M.1.cls idx "LongestPast$Past" "room" "I") (hd : decode M.2.1 pc = .ok (.getfield idx, 3)) (kk : Go x M (pc + 3) ls (xI (h i 2) :: st) h Q) : Go x M pc ls (xR i :: st) h Q := go_get (T := TX4) (k := 2) (v := xI (h i 2)) hk hl hd (by decide) rfl (by decide) rfl ingX4 rfl (fun hh => by have := hh i 2; rw [show isLg i 2 = false by unfold isLg; rw [hk]; rfl] at this; exact this) kk
theorem pfX4_room {x : mX} {M : mM} {pc idx : Nat} {ls st : List mV} {h : mH} {Q : mV → mH → Prop} {i : Nat} {z : Int} (hk : kd i = 4) (hl : mFl M.1.cls idx "LongestPast$Past" "room" "I") (hd : decode M.2.1 pc = .ok (.putfield idx, 3)) (kk : Go x M (pc + 3) ls st (hset h i 2 z) Q) : Go x M pc ls (xI z :: xR i :: st) h Q := go_put (T := TX4) (k := 2) (v := xI z) (z := z) (ty := .int) hk hl hd (by decide) rfl (by decide) rfl ingX4 tyX4 tyX4_ok nmX4 rfl (tyX4_ok 2 (by decide)) rfl rfl (fun h2 e => by unfold fv; rw [e]; rfl) (Or.inr ⟨by unfold isLg; rw [hk]; rfl, rfl⟩) kk
theorem gfX4_tail {x : mX} {M : mM} {pc idx : Nat} {ls st : List mV} {h : mH} {Q : mV → mH → Prop} {i : Nat} (hk : kd i = 4) (hl : mFl M.1.cls idx "LongestPast$Past" "tail" "I") (hd : decode M.2.1 pc = .ok (.getfield idx, 3)) (kk : Go x M (pc + 3) ls (xI (h i 3) :: st) h Q) : Go x M pc ls (xR i :: st) h Q := go_get (T := TX4) (k := 3) (v := xI (h i 3)) hk hl hd (by decide) rfl (by decide) rfl ingX4 rfl (fun hh => by have := hh i 3; rw [show isLg i 3 = false by unfold isLg; rw [hk]; rfl] at this; exact this) kk
theorem pfX4_tail {x : mX} {M : mM} {pc idx : Nat} {ls st : List mV} {h : mH} {Q : mV → mH → Prop} {i : Nat} {z : Int} (hk : kd i = 4) (hl : mFl M.1.cls idx "LongestPast$Past" "tail" "I") (hd : decode M.2.1 pc = .ok (.putfield idx, 3)) (kk : Go x M (pc + 3) ls st (hset h i 3 z) Q) : Go x M pc ls (xI z :: xR i :: st) h Q := go_put (T := TX4) (k := 3) (v := xI z) (z := z) (ty := .int) hk hl hd (by decide) rfl (by decide) rfl ingX4 tyX4 tyX4_ok nmX4 rfl (tyX4_ok 3 (by decide)) rfl rfl (fun h2 e => by unfold fv; rw [e]; rfl) (Or.inr ⟨by unfold isLg; rw [hk]; rfl, rfl⟩) kk
theorem gfX4_signs {x : mX} {M : mM} {pc idx : Nat} {ls st : List mV} {h : mH} {Q : mV → mH → Prop} {i : Nat} (hk : kd i = 4) (hl : mFl M.1.cls idx "LongestPast$Past" "signs" "LLongestPast$Row;") (hd : decode M.2.1 pc = .ok (.getfield idx, 3)) (kk : Go x M (pc + 3) ls (xR (i + 1) :: st) h Q) : Go x M pc ls (xR i :: st) h Q := go_get (T := TX4) (k := 4) (v := xR (i + 1)) hk hl hd (by decide) rfl (by decide) rfl ingX4 rfl (fun _ => trivial) kk
theorem gfX5_bits {x : mX} {M : mM} {pc idx : Nat} {ls st : List mV} {h : mH} {Q : mV → mH → Prop} {i : Nat} (hk : kd i = 5) (hl : mFl M.1.cls idx "LongestPast$Range" "bits" "LLongestPast$Row;") (hd : decode M.2.1 pc = .ok (.getfield idx, 3)) (kk : Go x M (pc + 3) ls (xR (i + 1) :: st) h Q) : Go x M pc ls (xR i :: st) h Q := go_get (T := TX5) (k := 0) (v := xR (i + 1)) hk hl hd (by decide) rfl (by decide) rfl ingX5 rfl (fun _ => trivial) kk
theorem gfX5_low {x : mX} {M : mM} {pc idx : Nat} {ls st : List mV} {h : mH} {Q : mV → mH → Prop} {i : Nat} (hk : kd i = 5) (hl : mFl M.1.cls idx "LongestPast$Range" "low" "I") (hd : decode M.2.1 pc = .ok (.getfield idx, 3)) (kk : Go x M (pc + 3) ls (xI (h i 1) :: st) h Q) : Go x M pc ls (xR i :: st) h Q := go_get (T := TX5) (k := 1) (v := xI (h i 1)) hk hl hd (by decide) rfl (by decide) rfl ingX5 rfl (fun hh => by have := hh i 1; rw [show isLg i 1 = false by unfold isLg; rw [hk]; rfl] at this; exact this) kk
theorem pfX5_low {x : mX} {M : mM} {pc idx : Nat} {ls st : List mV} {h : mH} {Q : mV → mH → Prop} {i : Nat} {z : Int} (hk : kd i = 5) (hl : mFl M.1.cls idx "LongestPast$Range" "low" "I") (hd : decode M.2.1 pc = .ok (.putfield idx, 3)) (kk : Go x M (pc + 3) ls st (hset h i 1 z) Q) : Go x M pc ls (xI z :: xR i :: st) h Q := go_put (T := TX5) (k := 1) (v := xI z) (z := z) (ty := .int) hk hl hd (by decide) rfl (by decide) rfl ingX5 tyX5 tyX5_ok nmX5 rfl (tyX5_ok 1 (by decide)) rfl rfl (fun h2 e => by unfold fv; rw [e]; rfl) (Or.inr ⟨by unfold isLg; rw [hk]; rfl, rfl⟩) kk
theorem gfX5_high {x : mX} {M : mM} {pc idx : Nat} {ls st : List mV} {h : mH} {Q : mV → mH → Prop} {i : Nat} (hk : kd i = 5) (hl : mFl M.1.cls idx "LongestPast$Range" "high" "I") (hd : decode M.2.1 pc = .ok (.getfield idx, 3)) (kk : Go x M (pc + 3) ls (xI (h i 2) :: st) h Q) : Go x M pc ls (xR i :: st) h Q := go_get (T := TX5) (k := 2) (v := xI (h i 2)) hk hl hd (by decide) rfl (by decide) rfl ingX5 rfl (fun hh => by have := hh i 2; rw [show isLg i 2 = false by unfold isLg; rw [hk]; rfl] at this; exact this) kk
theorem pfX5_high {x : mX} {M : mM} {pc idx : Nat} {ls st : List mV} {h : mH} {Q : mV → mH → Prop} {i : Nat} {z : Int} (hk : kd i = 5) (hl : mFl M.1.cls idx "LongestPast$Range" "high" "I") (hd : decode M.2.1 pc = .ok (.putfield idx, 3)) (kk : Go x M (pc + 3) ls st (hset h i 2 z) Q) : Go x M pc ls (xI z :: xR i :: st) h Q := go_put (T := TX5) (k := 2) (v := xI z) (z := z) (ty := .int) hk hl hd (by decide) rfl (by decide) rfl ingX5 tyX5 tyX5_ok nmX5 rfl (tyX5_ok 2 (by decide)) rfl rfl (fun h2 e => by unfold fv; rw [e]; rfl) (Or.inr ⟨by unfold isLg; rw [hk]; rfl, rfl⟩) kk
theorem gfX5_owed {x : mX} {M : mM} {pc idx : Nat} {ls st : List mV} {h : mH} {Q : mV → mH → Prop} {i : Nat} (hk : kd i = 5) (hl : mFl M.1.cls idx "LongestPast$Range" "owed" "I") (hd : decode M.2.1 pc = .ok (.getfield idx, 3)) (kk : Go x M (pc + 3) ls (xI (h i 3) :: st) h Q) : Go x M pc ls (xR i :: st) h Q := go_get (T := TX5) (k := 3) (v := xI (h i 3)) hk hl hd (by decide) rfl (by decide) rfl ingX5 rfl (fun hh => by have := hh i 3; rw [show isLg i 3 = false by unfold isLg; rw [hk]; rfl] at this; exact this) kk
theorem pfX5_owed {x : mX} {M : mM} {pc idx : Nat} {ls st : List mV} {h : mH} {Q : mV → mH → Prop} {i : Nat} {z : Int} (hk : kd i = 5) (hl : mFl M.1.cls idx "LongestPast$Range" "owed" "I") (hd : decode M.2.1 pc = .ok (.putfield idx, 3)) (kk : Go x M (pc + 3) ls st (hset h i 3 z) Q) : Go x M pc ls (xI z :: xR i :: st) h Q := go_put (T := TX5) (k := 3) (v := xI z) (z := z) (ty := .int) hk hl hd (by decide) rfl (by decide) rfl ingX5 tyX5 tyX5_ok nmX5 rfl (tyX5_ok 3 (by decide)) rfl rfl (fun h2 e => by unfold fv; rw [e]; rfl) (Or.inr ⟨by unfold isLg; rw [hk]; rfl, rfl⟩) kk
theorem gfX5_wanted {x : mX} {M : mM} {pc idx : Nat} {ls st : List mV} {h : mH} {Q : mV → mH → Prop} {i : Nat} (hk : kd i = 5) (hl : mFl M.1.cls idx "LongestPast$Range" "wanted" "I") (hd : decode M.2.1 pc = .ok (.getfield idx, 3)) (kk : Go x M (pc + 3) ls (xI (h i 4) :: st) h Q) : Go x M pc ls (xR i :: st) h Q := go_get (T := TX5) (k := 4) (v := xI (h i 4)) hk hl hd (by decide) rfl (by decide) rfl ingX5 rfl (fun hh => by have := hh i 4; rw [show isLg i 4 = false by unfold isLg; rw [hk]; rfl] at this; exact this) kk
theorem pfX5_wanted {x : mX} {M : mM} {pc idx : Nat} {ls st : List mV} {h : mH} {Q : mV → mH → Prop} {i : Nat} {z : Int} (hk : kd i = 5) (hl : mFl M.1.cls idx "LongestPast$Range" "wanted" "I") (hd : decode M.2.1 pc = .ok (.putfield idx, 3)) (kk : Go x M (pc + 3) ls st (hset h i 4 z) Q) : Go x M pc ls (xI z :: xR i :: st) h Q := go_put (T := TX5) (k := 4) (v := xI z) (z := z) (ty := .int) hk hl hd (by decide) rfl (by decide) rfl ingX5 tyX5 tyX5_ok nmX5 rfl (tyX5_ok 4 (by decide)) rfl rfl (fun h2 e => by unfold fv; rw [e]; rfl) (Or.inr ⟨by unfold isLg; rw [hk]; rfl, rfl⟩) kk
theorem gfX5_reading {x : mX} {M : mM} {pc idx : Nat} {ls st : List mV} {h : mH} {Q : mV → mH → Prop} {i : Nat} (hk : kd i = 5) (hl : mFl M.1.cls idx "LongestPast$Range" "reading" "Z") (hd : decode M.2.1 pc = .ok (.getfield idx, 3)) (kk : Go x M (pc + 3) ls (xI (h i 5) :: st) h Q) : Go x M pc ls (xR i :: st) h Q := go_get (T := TX5) (k := 5) (v := xI (h i 5)) hk hl hd (by decide) rfl (by decide) rfl ingX5 rfl (fun hh => by have := hh i 5; rw [show isLg i 5 = false by unfold isLg; rw [hk]; rfl] at this; exact this) kk
theorem pfX5_reading {x : mX} {M : mM} {pc idx : Nat} {ls st : List mV} {h : mH} {Q : mV → mH → Prop} {i : Nat} {z : Int} (hk : kd i = 5) (hl : mFl M.1.cls idx "LongestPast$Range" "reading" "Z") (hd : decode M.2.1 pc = .ok (.putfield idx, 3)) (hz : z = 0 ∨ z = 1) (kk : Go x M (pc + 3) ls st (hset h i 5 z) Q) : Go x M pc ls (xI z :: xR i :: st) h Q := go_put (T := TX5) (k := 5) (v := xI z) (z := z) (ty := .boolean) hk hl hd (by decide) rfl (by decide) rfl ingX5 tyX5 tyX5_ok nmX5 rfl (tyX5_ok 5 (by decide)) (by rcases hz with rfl | rfl <;> rfl) (by rcases hz with rfl | rfl <;> rfl) (fun h2 e => by unfold fv; rw [e]; rfl) (Or.inr ⟨by unfold isLg; rw [hk]; rfl, rfl⟩) kk
theorem gfX5_value {x : mX} {M : mM} {pc idx : Nat} {ls st : List mV} {h : mH} {Q : mV → mH → Prop} {i : Nat} (hk : kd i = 5) (hl : mFl M.1.cls idx "LongestPast$Range" "value" "I") (hd : decode M.2.1 pc = .ok (.getfield idx, 3)) (kk : Go x M (pc + 3) ls (xI (h i 6) :: st) h Q) : Go x M pc ls (xR i :: st) h Q := go_get (T := TX5) (k := 6) (v := xI (h i 6)) hk hl hd (by decide) rfl (by decide) rfl ingX5 rfl (fun hh => by have := hh i 6; rw [show isLg i 6 = false by unfold isLg; rw [hk]; rfl] at this; exact this) kk
theorem pfX5_value {x : mX} {M : mM} {pc idx : Nat} {ls st : List mV} {h : mH} {Q : mV → mH → Prop} {i : Nat} {z : Int} (hk : kd i = 5) (hl : mFl M.1.cls idx "LongestPast$Range" "value" "I") (hd : decode M.2.1 pc = .ok (.putfield idx, 3)) (kk : Go x M (pc + 3) ls st (hset h i 6 z) Q) : Go x M pc ls (xI z :: xR i :: st) h Q := go_put (T := TX5) (k := 6) (v := xI z) (z := z) (ty := .int) hk hl hd (by decide) rfl (by decide) rfl ingX5 tyX5 tyX5_ok nmX5 rfl (tyX5_ok 6 (by decide)) rfl rfl (fun h2 e => by unfold fv; rw [e]; rfl) (Or.inr ⟨by unfold isLg; rw [hk]; rfl, rfl⟩) kk
theorem gfX5_nextRead {x : mX} {M : mM} {pc idx : Nat} {ls st : List mV} {h : mH} {Q : mV → mH → Prop} {i : Nat} (hk : kd i = 5) (hl : mFl M.1.cls idx "LongestPast$Range" "nextRead" "I") (hd : decode M.2.1 pc = .ok (.getfield idx, 3)) (kk : Go x M (pc + 3) ls (xI (h i 7) :: st) h Q) : Go x M pc ls (xR i :: st) h Q := go_get (T := TX5) (k := 7) (v := xI (h i 7)) hk hl hd (by decide) rfl (by decide) rfl ingX5 rfl (fun hh => by have := hh i 7; rw [show isLg i 7 = false by unfold isLg; rw [hk]; rfl] at this; exact this) kk
theorem pfX5_nextRead {x : mX} {M : mM} {pc idx : Nat} {ls st : List mV} {h : mH} {Q : mV → mH → Prop} {i : Nat} {z : Int} (hk : kd i = 5) (hl : mFl M.1.cls idx "LongestPast$Range" "nextRead" "I") (hd : decode M.2.1 pc = .ok (.putfield idx, 3)) (kk : Go x M (pc + 3) ls st (hset h i 7 z) Q) : Go x M pc ls (xI z :: xR i :: st) h Q := go_put (T := TX5) (k := 7) (v := xI z) (z := z) (ty := .int) hk hl hd (by decide) rfl (by decide) rfl ingX5 tyX5 tyX5_ok nmX5 rfl (tyX5_ok 7 (by decide)) rfl rfl (fun h2 e => by unfold fv; rw [e]; rfl) (Or.inr ⟨by unfold isLg; rw [hk]; rfl, rfl⟩) kk
theorem gfX6_items {x : mX} {M : mM} {pc idx : Nat} {ls st : List mV} {h : mH} {Q : mV → mH → Prop} {i : Nat} (hk : kd i = 6) (hl : mFl M.1.cls idx "LongestPast$Row" "items" "[I") (hd : decode M.2.1 pc = .ok (.getfield idx, 3)) (kk : Go x M (pc + 3) ls (xR (i + 1) :: st) h Q) : Go x M pc ls (xR i :: st) h Q := go_get (T := TX6) (k := 0) (v := xR (i + 1)) hk hl hd (by decide) rfl (by decide) rfl ingX6 rfl (fun _ => trivial) kk
theorem gfX6_size {x : mX} {M : mM} {pc idx : Nat} {ls st : List mV} {h : mH} {Q : mV → mH → Prop} {i : Nat} (hk : kd i = 6) (hl : mFl M.1.cls idx "LongestPast$Row" "size" "I") (hd : decode M.2.1 pc = .ok (.getfield idx, 3)) (kk : Go x M (pc + 3) ls (xI (h i 1) :: st) h Q) : Go x M pc ls (xR i :: st) h Q := go_get (T := TX6) (k := 1) (v := xI (h i 1)) hk hl hd (by decide) rfl (by decide) rfl ingX6 rfl (fun hh => by have := hh i 1; rw [show isLg i 1 = false by unfold isLg; rw [hk]; rfl] at this; exact this) kk
theorem pfX6_size {x : mX} {M : mM} {pc idx : Nat} {ls st : List mV} {h : mH} {Q : mV → mH → Prop} {i : Nat} {z : Int} (hk : kd i = 6) (hl : mFl M.1.cls idx "LongestPast$Row" "size" "I") (hd : decode M.2.1 pc = .ok (.putfield idx, 3)) (kk : Go x M (pc + 3) ls st (hset h i 1 z) Q) : Go x M pc ls (xI z :: xR i :: st) h Q := go_put (T := TX6) (k := 1) (v := xI z) (z := z) (ty := .int) hk hl hd (by decide) rfl (by decide) rfl ingX6 tyX6 tyX6_ok nmX6 rfl (tyX6_ok 1 (by decide)) rfl rfl (fun h2 e => by unfold fv; rw [e]; rfl) (Or.inr ⟨by unfold isLg; rw [hk]; rfl, rfl⟩) kk
theorem gfX7_widths {x : mX} {M : mM} {pc idx : Nat} {ls st : List mV} {h : mH} {Q : mV → mH → Prop} {i : Nat} (hk : kd i = 7) (hl : mFl M.1.cls idx "LongestPast$Stage" "widths" "[I") (hd : decode M.2.1 pc = .ok (.getfield idx, 3)) (kk : Go x M (pc + 3) ls (xR (i + 1) :: st) h Q) : Go x M pc ls (xR i :: st) h Q := go_get (T := TX7) (k := 0) (v := xR (i + 1)) hk hl hd (by decide) rfl (by decide) rfl ingX7 rfl (fun _ => trivial) kk
theorem gfX7_total {x : mX} {M : mM} {pc idx : Nat} {ls st : List mV} {h : mH} {Q : mV → mH → Prop} {i : Nat} (hk : kd i = 7) (hl : mFl M.1.cls idx "LongestPast$Stage" "total" "I") (hd : decode M.2.1 pc = .ok (.getfield idx, 3)) (kk : Go x M (pc + 3) ls (xI (h i 1) :: st) h Q) : Go x M pc ls (xR i :: st) h Q := go_get (T := TX7) (k := 1) (v := xI (h i 1)) hk hl hd (by decide) rfl (by decide) rfl ingX7 rfl (fun hh => by have := hh i 1; rw [show isLg i 1 = false by unfold isLg; rw [hk]; rfl] at this; exact this) kk
theorem pfX7_total {x : mX} {M : mM} {pc idx : Nat} {ls st : List mV} {h : mH} {Q : mV → mH → Prop} {i : Nat} {z : Int} (hk : kd i = 7) (hl : mFl M.1.cls idx "LongestPast$Stage" "total" "I") (hd : decode M.2.1 pc = .ok (.putfield idx, 3)) (kk : Go x M (pc + 3) ls st (hset h i 1 z) Q) : Go x M pc ls (xI z :: xR i :: st) h Q := go_put (T := TX7) (k := 1) (v := xI z) (z := z) (ty := .int) hk hl hd (by decide) rfl (by decide) rfl ingX7 tyX7 tyX7_ok nmX7 rfl (tyX7_ok 1 (by decide)) rfl rfl (fun h2 e => by unfold fv; rw [e]; rfl) (Or.inr ⟨by unfold isLg; rw [hk]; rfl, rfl⟩) kk
theorem gfX7_shut {x : mX} {M : mM} {pc idx : Nat} {ls st : List mV} {h : mH} {Q : mV → mH → Prop} {i : Nat} (hk : kd i = 7) (hl : mFl M.1.cls idx "LongestPast$Stage" "shut" "I") (hd : decode M.2.1 pc = .ok (.getfield idx, 3)) (kk : Go x M (pc + 3) ls (xI (h i 2) :: st) h Q) : Go x M pc ls (xR i :: st) h Q := go_get (T := TX7) (k := 2) (v := xI (h i 2)) hk hl hd (by decide) rfl (by decide) rfl ingX7 rfl (fun hh => by have := hh i 2; rw [show isLg i 2 = false by unfold isLg; rw [hk]; rfl] at this; exact this) kk
theorem pfX7_shut {x : mX} {M : mM} {pc idx : Nat} {ls st : List mV} {h : mH} {Q : mV → mH → Prop} {i : Nat} {z : Int} (hk : kd i = 7) (hl : mFl M.1.cls idx "LongestPast$Stage" "shut" "I") (hd : decode M.2.1 pc = .ok (.putfield idx, 3)) (kk : Go x M (pc + 3) ls st (hset h i 2 z) Q) : Go x M pc ls (xI z :: xR i :: st) h Q := go_put (T := TX7) (k := 2) (v := xI z) (z := z) (ty := .int) hk hl hd (by decide) rfl (by decide) rfl ingX7 tyX7 tyX7_ok nmX7 rfl (tyX7_ok 2 (by decide)) rfl rfl (fun h2 e => by unfold fv; rw [e]; rfl) (Or.inr ⟨by unfold isLg; rw [hk]; rfl, rfl⟩) kk
theorem gfX7_open {x : mX} {M : mM} {pc idx : Nat} {ls st : List mV} {h : mH} {Q : mV → mH → Prop} {i : Nat} (hk : kd i = 7) (hl : mFl M.1.cls idx "LongestPast$Stage" "open" "I") (hd : decode M.2.1 pc = .ok (.getfield idx, 3)) (kk : Go x M (pc + 3) ls (xI (h i 3) :: st) h Q) : Go x M pc ls (xR i :: st) h Q := go_get (T := TX7) (k := 3) (v := xI (h i 3)) hk hl hd (by decide) rfl (by decide) rfl ingX7 rfl (fun hh => by have := hh i 3; rw [show isLg i 3 = false by unfold isLg; rw [hk]; rfl] at this; exact this) kk
theorem pfX7_open {x : mX} {M : mM} {pc idx : Nat} {ls st : List mV} {h : mH} {Q : mV → mH → Prop} {i : Nat} {z : Int} (hk : kd i = 7) (hl : mFl M.1.cls idx "LongestPast$Stage" "open" "I") (hd : decode M.2.1 pc = .ok (.putfield idx, 3)) (kk : Go x M (pc + 3) ls st (hset h i 3 z) Q) : Go x M pc ls (xI z :: xR i :: st) h Q := go_put (T := TX7) (k := 3) (v := xI z) (z := z) (ty := .int) hk hl hd (by decide) rfl (by decide) rfl ingX7 tyX7 tyX7_ok nmX7 rfl (tyX7_ok 3 (by decide)) rfl rfl (fun h2 e => by unfold fv; rw [e]; rfl) (Or.inr ⟨by unfold isLg; rw [hk]; rfl, rfl⟩) kk
theorem gfX9_letters {x : mX} {M : mM} {pc idx : Nat} {ls st : List mV} {h : mH} {Q : mV → mH → Prop} {i : Nat} (hk : kd i = 8) (hl : mFl M.1.cls idx "LongestPast" "letters" "LLongestPast$Row;") (hd : decode M.2.1 pc = .ok (.getfield idx, 3)) (kk : Go x M (pc + 3) ls (xR 1 :: st) h Q) : Go x M pc ls (xR i :: st) h Q := go_get (T := TX9) (k := 0) (v := xR 1) hk hl hd (by decide) rfl (by decide) rfl ingX9 rfl (fun _ => trivial) kk
theorem gfX9_now {x : mX} {M : mM} {pc idx : Nat} {ls st : List mV} {h : mH} {Q : mV → mH → Prop} {i : Nat} (hk : kd i = 8) (hl : mFl M.1.cls idx "LongestPast" "now" "LLongestPast$Packer;") (hd : decode M.2.1 pc = .ok (.getfield idx, 3)) (kk : Go x M (pc + 3) ls (xR 3 :: st) h Q) : Go x M pc ls (xR i :: st) h Q := go_get (T := TX9) (k := 1) (v := xR 3) hk hl hd (by decide) rfl (by decide) rfl ingX9 rfl (fun _ => trivial) kk
theorem gfX9_trial {x : mX} {M : mM} {pc idx : Nat} {ls st : List mV} {h : mH} {Q : mV → mH → Prop} {i : Nat} (hk : kd i = 8) (hl : mFl M.1.cls idx "LongestPast" "trial" "LLongestPast$Packer;") (hd : decode M.2.1 pc = .ok (.getfield idx, 3)) (kk : Go x M (pc + 3) ls (xR 14 :: st) h Q) : Go x M pc ls (xR i :: st) h Q := go_get (T := TX9) (k := 2) (v := xR 14) hk hl hd (by decide) rfl (by decide) rfl ingX9 rfl (fun _ => trivial) kk
theorem gfX9_odds {x : mX} {M : mM} {pc idx : Nat} {ls st : List mV} {h : mH} {Q : mV → mH → Prop} {i : Nat} (hk : kd i = 8) (hl : mFl M.1.cls idx "LongestPast" "odds" "LLongestPast$Odds;") (hd : decode M.2.1 pc = .ok (.getfield idx, 3)) (kk : Go x M (pc + 3) ls (xR 25 :: st) h Q) : Go x M pc ls (xR i :: st) h Q := go_get (T := TX9) (k := 3) (v := xR 25) hk hl hd (by decide) rfl (by decide) rfl ingX9 rfl (fun _ => trivial) kk
theorem gfX9_history {x : mX} {M : mM} {pc idx : Nat} {ls st : List mV} {h : mH} {Q : mV → mH → Prop} {i : Nat} (hk : kd i = 8) (hl : mFl M.1.cls idx "LongestPast" "history" "LLongestPast$History;") (hd : decode M.2.1 pc = .ok (.getfield idx, 3)) (kk : Go x M (pc + 3) ls (xR 26 :: st) h Q) : Go x M pc ls (xR i :: st) h Q := go_get (T := TX9) (k := 4) (v := xR 26) hk hl hd (by decide) rfl (by decide) rfl ingX9 rfl (fun _ => trivial) kk
theorem gfX9_firstImage {x : mX} {M : mM} {pc idx : Nat} {ls st : List mV} {h : mH} {Q : mV → mH → Prop} {i : Nat} (hk : kd i = 8) (hl : mFl M.1.cls idx "LongestPast" "firstImage" "LLongestPast$Past;") (hd : decode M.2.1 pc = .ok (.getfield idx, 3)) (kk : Go x M (pc + 3) ls (xR 46 :: st) h Q) : Go x M pc ls (xR i :: st) h Q := go_get (T := TX9) (k := 5) (v := xR 46) hk hl hd (by decide) rfl (by decide) rfl ingX9 rfl (fun _ => trivial) kk
theorem gfX9_secondImage {x : mX} {M : mM} {pc idx : Nat} {ls st : List mV} {h : mH} {Q : mV → mH → Prop} {i : Nat} (hk : kd i = 8) (hl : mFl M.1.cls idx "LongestPast" "secondImage" "LLongestPast$Past;") (hd : decode M.2.1 pc = .ok (.getfield idx, 3)) (kk : Go x M (pc + 3) ls (xR 49 :: st) h Q) : Go x M pc ls (xR i :: st) h Q := go_get (T := TX9) (k := 6) (v := xR 49) hk hl hd (by decide) rfl (by decide) rfl ingX9 rfl (fun _ => trivial) kk
theorem gfX9_firstKept {x : mX} {M : mM} {pc idx : Nat} {ls st : List mV} {h : mH} {Q : mV → mH → Prop} {i : Nat} (hk : kd i = 8) (hl : mFl M.1.cls idx "LongestPast" "firstKept" "Z") (hd : decode M.2.1 pc = .ok (.getfield idx, 3)) (kk : Go x M (pc + 3) ls (xI (h i 7) :: st) h Q) : Go x M pc ls (xR i :: st) h Q := go_get (T := TX9) (k := 7) (v := xI (h i 7)) hk hl hd (by decide) rfl (by decide) rfl ingX9 rfl (fun hh => by have := hh i 7; rw [show isLg i 7 = false by unfold isLg; rw [hk]; rfl] at this; exact this) kk
theorem pfX9_firstKept {x : mX} {M : mM} {pc idx : Nat} {ls st : List mV} {h : mH} {Q : mV → mH → Prop} {i : Nat} {z : Int} (hk : kd i = 8) (hl : mFl M.1.cls idx "LongestPast" "firstKept" "Z") (hd : decode M.2.1 pc = .ok (.putfield idx, 3)) (hz : z = 0 ∨ z = 1) (kk : Go x M (pc + 3) ls st (hset h i 7 z) Q) : Go x M pc ls (xI z :: xR i :: st) h Q := go_put (T := TX9) (k := 7) (v := xI z) (z := z) (ty := .boolean) hk hl hd (by decide) rfl (by decide) rfl ingX9 tyX9 tyX9_ok nmX9 rfl (tyX9_ok 7 (by decide)) (by rcases hz with rfl | rfl <;> rfl) (by rcases hz with rfl | rfl <;> rfl) (fun h2 e => by unfold fv; rw [e]; rfl) (Or.inr ⟨by unfold isLg; rw [hk]; rfl, rfl⟩) kk
theorem gfX9_secondKept {x : mX} {M : mM} {pc idx : Nat} {ls st : List mV} {h : mH} {Q : mV → mH → Prop} {i : Nat} (hk : kd i = 8) (hl : mFl M.1.cls idx "LongestPast" "secondKept" "Z") (hd : decode M.2.1 pc = .ok (.getfield idx, 3)) (kk : Go x M (pc + 3) ls (xI (h i 8) :: st) h Q) : Go x M pc ls (xR i :: st) h Q := go_get (T := TX9) (k := 8) (v := xI (h i 8)) hk hl hd (by decide) rfl (by decide) rfl ingX9 rfl (fun hh => by have := hh i 8; rw [show isLg i 8 = false by unfold isLg; rw [hk]; rfl] at this; exact this) kk
theorem pfX9_secondKept {x : mX} {M : mM} {pc idx : Nat} {ls st : List mV} {h : mH} {Q : mV → mH → Prop} {i : Nat} {z : Int} (hk : kd i = 8) (hl : mFl M.1.cls idx "LongestPast" "secondKept" "Z") (hd : decode M.2.1 pc = .ok (.putfield idx, 3)) (hz : z = 0 ∨ z = 1) (kk : Go x M (pc + 3) ls st (hset h i 8 z) Q) : Go x M pc ls (xI z :: xR i :: st) h Q := go_put (T := TX9) (k := 8) (v := xI z) (z := z) (ty := .boolean) hk hl hd (by decide) rfl (by decide) rfl ingX9 tyX9 tyX9_ok nmX9 rfl (tyX9_ok 8 (by decide)) (by rcases hz with rfl | rfl <;> rfl) (by rcases hz with rfl | rfl <;> rfl) (fun h2 e => by unfold fv; rw [e]; rfl) (Or.inr ⟨by unfold isLg; rw [hk]; rfl, rfl⟩) kk
theorem gfX10_now {x : mX} {M : mM} {pc idx : Nat} {ls st : List mV} {h : mH} {Q : mV → mH → Prop} {i : Nat} (hk : kd i = 9) (hl : mFl M.1.cls idx "LongestPastModel" "now" "[I") (hd : decode M.2.1 pc = .ok (.getfield idx, 3)) (kk : Go x M (pc + 3) ls (xR 53 :: st) h Q) : Go x M pc ls (xR i :: st) h Q := go_get (T := TX10) (k := 0) (v := xR 53) hk hl hd (by decide) rfl (by decide) rfl ingX10 rfl (fun _ => trivial) kk
theorem gfX10_past {x : mX} {M : mM} {pc idx : Nat} {ls st : List mV} {h : mH} {Q : mV → mH → Prop} {i : Nat} (hk : kd i = 9) (hl : mFl M.1.cls idx "LongestPastModel" "past" "[I") (hd : decode M.2.1 pc = .ok (.getfield idx, 3)) (kk : Go x M (pc + 3) ls (xR 54 :: st) h Q) : Go x M pc ls (xR i :: st) h Q := go_get (T := TX10) (k := 1) (v := xR 54) hk hl hd (by decide) rfl (by decide) rfl ingX10 rfl (fun _ => trivial) kk
theorem gfX10_undos {x : mX} {M : mM} {pc idx : Nat} {ls st : List mV} {h : mH} {Q : mV → mH → Prop} {i : Nat} (hk : kd i = 9) (hl : mFl M.1.cls idx "LongestPastModel" "undos" "I") (hd : decode M.2.1 pc = .ok (.getfield idx, 3)) (kk : Go x M (pc + 3) ls (xI (h i 2) :: st) h Q) : Go x M pc ls (xR i :: st) h Q := go_get (T := TX10) (k := 2) (v := xI (h i 2)) hk hl hd (by decide) rfl (by decide) rfl ingX10 rfl (fun hh => by have := hh i 2; rw [show isLg i 2 = false by unfold isLg; rw [hk]; rfl] at this; exact this) kk
theorem pfX10_undos {x : mX} {M : mM} {pc idx : Nat} {ls st : List mV} {h : mH} {Q : mV → mH → Prop} {i : Nat} {z : Int} (hk : kd i = 9) (hl : mFl M.1.cls idx "LongestPastModel" "undos" "I") (hd : decode M.2.1 pc = .ok (.putfield idx, 3)) (kk : Go x M (pc + 3) ls st (hset h i 2 z) Q) : Go x M pc ls (xI z :: xR i :: st) h Q := go_put (T := TX10) (k := 2) (v := xI z) (z := z) (ty := .int) hk hl hd (by decide) rfl (by decide) rfl ingX10 tyX10 tyX10_ok nmX10 rfl (tyX10_ok 2 (by decide)) rfl rfl (fun h2 e => by unfold fv; rw [e]; rfl) (Or.inr ⟨by unfold isLg; rw [hk]; rfl, rfl⟩) kk
theorem gfX10_images {x : mX} {M : mM} {pc idx : Nat} {ls st : List mV} {h : mH} {Q : mV → mH → Prop} {i : Nat} (hk : kd i = 9) (hl : mFl M.1.cls idx "LongestPastModel" "images" "[I") (hd : decode M.2.1 pc = .ok (.getfield idx, 3)) (kk : Go x M (pc + 3) ls (xR 55 :: st) h Q) : Go x M pc ls (xR i :: st) h Q := go_get (T := TX10) (k := 3) (v := xR 55) hk hl hd (by decide) rfl (by decide) rfl ingX10 rfl (fun _ => trivial) kk
theorem gfX10_isKept {x : mX} {M : mM} {pc idx : Nat} {ls st : List mV} {h : mH} {Q : mV → mH → Prop} {i : Nat} (hk : kd i = 9) (hl : mFl M.1.cls idx "LongestPastModel" "isKept" "[Z") (hd : decode M.2.1 pc = .ok (.getfield idx, 3)) (kk : Go x M (pc + 3) ls (xR 56 :: st) h Q) : Go x M pc ls (xR i :: st) h Q := go_get (T := TX10) (k := 4) (v := xR 56) hk hl hd (by decide) rfl (by decide) rfl ingX10 rfl (fun _ => trivial) kk
theorem gfX10_text {x : mX} {M : mM} {pc idx : Nat} {ls st : List mV} {h : mH} {Q : mV → mH → Prop} {i : Nat} (hk : kd i = 9) (hl : mFl M.1.cls idx "LongestPastModel" "text" "[I") (hd : decode M.2.1 pc = .ok (.getfield idx, 3)) (kk : Go x M (pc + 3) ls (xR 57 :: st) h Q) : Go x M pc ls (xR i :: st) h Q := go_get (T := TX10) (k := 5) (v := xR 57) hk hl hd (by decide) rfl (by decide) rfl ingX10 rfl (fun _ => trivial) kk
theorem gfX10_letters {x : mX} {M : mM} {pc idx : Nat} {ls st : List mV} {h : mH} {Q : mV → mH → Prop} {i : Nat} (hk : kd i = 9) (hl : mFl M.1.cls idx "LongestPastModel" "letters" "I") (hd : decode M.2.1 pc = .ok (.getfield idx, 3)) (kk : Go x M (pc + 3) ls (xI (h i 6) :: st) h Q) : Go x M pc ls (xR i :: st) h Q := go_get (T := TX10) (k := 6) (v := xI (h i 6)) hk hl hd (by decide) rfl (by decide) rfl ingX10 rfl (fun hh => by have := hh i 6; rw [show isLg i 6 = false by unfold isLg; rw [hk]; rfl] at this; exact this) kk
theorem pfX10_letters {x : mX} {M : mM} {pc idx : Nat} {ls st : List mV} {h : mH} {Q : mV → mH → Prop} {i : Nat} {z : Int} (hk : kd i = 9) (hl : mFl M.1.cls idx "LongestPastModel" "letters" "I") (hd : decode M.2.1 pc = .ok (.putfield idx, 3)) (kk : Go x M (pc + 3) ls st (hset h i 6 z) Q) : Go x M pc ls (xI z :: xR i :: st) h Q := go_put (T := TX10) (k := 6) (v := xI z) (z := z) (ty := .int) hk hl hd (by decide) rfl (by decide) rfl ingX10 tyX10 tyX10_ok nmX10 rfl (tyX10_ok 6 (by decide)) rfl rfl (fun h2 e => by unfold fv; rw [e]; rfl) (Or.inr ⟨by unfold isLg; rw [hk]; rfl, rfl⟩) kk
theorem gfX10_order {x : mX} {M : mM} {pc idx : Nat} {ls st : List mV} {h : mH} {Q : mV → mH → Prop} {i : Nat} (hk : kd i = 9) (hl : mFl M.1.cls idx "LongestPastModel" "order" "I") (hd : decode M.2.1 pc = .ok (.getfield idx, 3)) (kk : Go x M (pc + 3) ls (xI (h i 7) :: st) h Q) : Go x M pc ls (xR i :: st) h Q := go_get (T := TX10) (k := 7) (v := xI (h i 7)) hk hl hd (by decide) rfl (by decide) rfl ingX10 rfl (fun hh => by have := hh i 7; rw [show isLg i 7 = false by unfold isLg; rw [hk]; rfl] at this; exact this) kk
theorem pfX10_order {x : mX} {M : mM} {pc idx : Nat} {ls st : List mV} {h : mH} {Q : mV → mH → Prop} {i : Nat} {z : Int} (hk : kd i = 9) (hl : mFl M.1.cls idx "LongestPastModel" "order" "I") (hd : decode M.2.1 pc = .ok (.putfield idx, 3)) (kk : Go x M (pc + 3) ls st (hset h i 7 z) Q) : Go x M pc ls (xI z :: xR i :: st) h Q := go_put (T := TX10) (k := 7) (v := xI z) (z := z) (ty := .int) hk hl hd (by decide) rfl (by decide) rfl ingX10 tyX10 tyX10_ok nmX10 rfl (tyX10_ok 7 (by decide)) rfl rfl (fun h2 e => by unfold fv; rw [e]; rfl) (Or.inr ⟨by unfold isLg; rw [hk]; rfl, rfl⟩) kk
theorem gfX10_run {x : mX} {M : mM} {pc idx : Nat} {ls st : List mV} {h : mH} {Q : mV → mH → Prop} {i : Nat} (hk : kd i = 9) (hl : mFl M.1.cls idx "LongestPastModel" "run" "[I") (hd : decode M.2.1 pc = .ok (.getfield idx, 3)) (kk : Go x M (pc + 3) ls (xR 58 :: st) h Q) : Go x M pc ls (xR i :: st) h Q := go_get (T := TX10) (k := 8) (v := xR 58) hk hl hd (by decide) rfl (by decide) rfl ingX10 rfl (fun _ => trivial) kk
theorem gfX10_many {x : mX} {M : mM} {pc idx : Nat} {ls st : List mV} {h : mH} {Q : mV → mH → Prop} {i : Nat} (hk : kd i = 9) (hl : mFl M.1.cls idx "LongestPastModel" "many" "I") (hd : decode M.2.1 pc = .ok (.getfield idx, 3)) (kk : Go x M (pc + 3) ls (xI (h i 9) :: st) h Q) : Go x M pc ls (xR i :: st) h Q := go_get (T := TX10) (k := 9) (v := xI (h i 9)) hk hl hd (by decide) rfl (by decide) rfl ingX10 rfl (fun hh => by have := hh i 9; rw [show isLg i 9 = false by unfold isLg; rw [hk]; rfl] at this; exact this) kk
theorem pfX10_many {x : mX} {M : mM} {pc idx : Nat} {ls st : List mV} {h : mH} {Q : mV → mH → Prop} {i : Nat} {z : Int} (hk : kd i = 9) (hl : mFl M.1.cls idx "LongestPastModel" "many" "I") (hd : decode M.2.1 pc = .ok (.putfield idx, 3)) (kk : Go x M (pc + 3) ls st (hset h i 9 z) Q) : Go x M pc ls (xI z :: xR i :: st) h Q := go_put (T := TX10) (k := 9) (v := xI z) (z := z) (ty := .int) hk hl hd (by decide) rfl (by decide) rfl ingX10 tyX10 tyX10_ok nmX10 rfl (tyX10_ok 9 (by decide)) rfl rfl (fun h2 e => by unfold fv; rw [e]; rfl) (Or.inr ⟨by unfold isLg; rw [hk]; rfl, rfl⟩) kk
theorem gfX10_counts {x : mX} {M : mM} {pc idx : Nat} {ls st : List mV} {h : mH} {Q : mV → mH → Prop} {i : Nat} (hk : kd i = 9) (hl : mFl M.1.cls idx "LongestPastModel" "counts" "[I") (hd : decode M.2.1 pc = .ok (.getfield idx, 3)) (kk : Go x M (pc + 3) ls (xR 59 :: st) h Q) : Go x M pc ls (xR i :: st) h Q := go_get (T := TX10) (k := 10) (v := xR 59) hk hl hd (by decide) rfl (by decide) rfl ingX10 rfl (fun _ => trivial) kk
theorem gfX10_forgotten {x : mX} {M : mM} {pc idx : Nat} {ls st : List mV} {h : mH} {Q : mV → mH → Prop} {i : Nat} (hk : kd i = 9) (hl : mFl M.1.cls idx "LongestPastModel" "forgotten" "I") (hd : decode M.2.1 pc = .ok (.getfield idx, 3)) (kk : Go x M (pc + 3) ls (xI (h i 11) :: st) h Q) : Go x M pc ls (xR i :: st) h Q := go_get (T := TX10) (k := 11) (v := xI (h i 11)) hk hl hd (by decide) rfl (by decide) rfl ingX10 rfl (fun hh => by have := hh i 11; rw [show isLg i 11 = false by unfold isLg; rw [hk]; rfl] at this; exact this) kk
theorem pfX10_forgotten {x : mX} {M : mM} {pc idx : Nat} {ls st : List mV} {h : mH} {Q : mV → mH → Prop} {i : Nat} {z : Int} (hk : kd i = 9) (hl : mFl M.1.cls idx "LongestPastModel" "forgotten" "I") (hd : decode M.2.1 pc = .ok (.putfield idx, 3)) (kk : Go x M (pc + 3) ls st (hset h i 11 z) Q) : Go x M pc ls (xI z :: xR i :: st) h Q := go_put (T := TX10) (k := 11) (v := xI z) (z := z) (ty := .int) hk hl hd (by decide) rfl (by decide) rfl ingX10 tyX10 tyX10_ok nmX10 rfl (tyX10_ok 11 (by decide)) rfl rfl (fun h2 e => by unfold fv; rw [e]; rfl) (Or.inr ⟨by unfold isLg; rw [hk]; rfl, rfl⟩) kk
theorem gfX10_low {x : mX} {M : mM} {pc idx : Nat} {ls st : List mV} {h : mH} {Q : mV → mH → Prop} {i : Nat} (hk : kd i = 9) (hl : mFl M.1.cls idx "LongestPastModel" "low" "I") (hd : decode M.2.1 pc = .ok (.getfield idx, 3)) (kk : Go x M (pc + 3) ls (xI (h i 12) :: st) h Q) : Go x M pc ls (xR i :: st) h Q := go_get (T := TX10) (k := 12) (v := xI (h i 12)) hk hl hd (by decide) rfl (by decide) rfl ingX10 rfl (fun hh => by have := hh i 12; rw [show isLg i 12 = false by unfold isLg; rw [hk]; rfl] at this; exact this) kk
theorem pfX10_low {x : mX} {M : mM} {pc idx : Nat} {ls st : List mV} {h : mH} {Q : mV → mH → Prop} {i : Nat} {z : Int} (hk : kd i = 9) (hl : mFl M.1.cls idx "LongestPastModel" "low" "I") (hd : decode M.2.1 pc = .ok (.putfield idx, 3)) (kk : Go x M (pc + 3) ls st (hset h i 12 z) Q) : Go x M pc ls (xI z :: xR i :: st) h Q := go_put (T := TX10) (k := 12) (v := xI z) (z := z) (ty := .int) hk hl hd (by decide) rfl (by decide) rfl ingX10 tyX10 tyX10_ok nmX10 rfl (tyX10_ok 12 (by decide)) rfl rfl (fun h2 e => by unfold fv; rw [e]; rfl) (Or.inr ⟨by unfold isLg; rw [hk]; rfl, rfl⟩) kk
theorem gfX10_high {x : mX} {M : mM} {pc idx : Nat} {ls st : List mV} {h : mH} {Q : mV → mH → Prop} {i : Nat} (hk : kd i = 9) (hl : mFl M.1.cls idx "LongestPastModel" "high" "I") (hd : decode M.2.1 pc = .ok (.getfield idx, 3)) (kk : Go x M (pc + 3) ls (xI (h i 13) :: st) h Q) : Go x M pc ls (xR i :: st) h Q := go_get (T := TX10) (k := 13) (v := xI (h i 13)) hk hl hd (by decide) rfl (by decide) rfl ingX10 rfl (fun hh => by have := hh i 13; rw [show isLg i 13 = false by unfold isLg; rw [hk]; rfl] at this; exact this) kk
theorem pfX10_high {x : mX} {M : mM} {pc idx : Nat} {ls st : List mV} {h : mH} {Q : mV → mH → Prop} {i : Nat} {z : Int} (hk : kd i = 9) (hl : mFl M.1.cls idx "LongestPastModel" "high" "I") (hd : decode M.2.1 pc = .ok (.putfield idx, 3)) (kk : Go x M (pc + 3) ls st (hset h i 13 z) Q) : Go x M pc ls (xI z :: xR i :: st) h Q := go_put (T := TX10) (k := 13) (v := xI z) (z := z) (ty := .int) hk hl hd (by decide) rfl (by decide) rfl ingX10 tyX10 tyX10_ok nmX10 rfl (tyX10_ok 13 (by decide)) rfl rfl (fun h2 e => by unfold fv; rw [e]; rfl) (Or.inr ⟨by unfold isLg; rw [hk]; rfl, rfl⟩) kk
theorem gfX10_owed {x : mX} {M : mM} {pc idx : Nat} {ls st : List mV} {h : mH} {Q : mV → mH → Prop} {i : Nat} (hk : kd i = 9) (hl : mFl M.1.cls idx "LongestPastModel" "owed" "I") (hd : decode M.2.1 pc = .ok (.getfield idx, 3)) (kk : Go x M (pc + 3) ls (xI (h i 14) :: st) h Q) : Go x M pc ls (xR i :: st) h Q := go_get (T := TX10) (k := 14) (v := xI (h i 14)) hk hl hd (by decide) rfl (by decide) rfl ingX10 rfl (fun hh => by have := hh i 14; rw [show isLg i 14 = false by unfold isLg; rw [hk]; rfl] at this; exact this) kk
theorem pfX10_owed {x : mX} {M : mM} {pc idx : Nat} {ls st : List mV} {h : mH} {Q : mV → mH → Prop} {i : Nat} {z : Int} (hk : kd i = 9) (hl : mFl M.1.cls idx "LongestPastModel" "owed" "I") (hd : decode M.2.1 pc = .ok (.putfield idx, 3)) (kk : Go x M (pc + 3) ls st (hset h i 14 z) Q) : Go x M pc ls (xI z :: xR i :: st) h Q := go_put (T := TX10) (k := 14) (v := xI z) (z := z) (ty := .int) hk hl hd (by decide) rfl (by decide) rfl ingX10 tyX10 tyX10_ok nmX10 rfl (tyX10_ok 14 (by decide)) rfl rfl (fun h2 e => by unfold fv; rw [e]; rfl) (Or.inr ⟨by unfold isLg; rw [hk]; rfl, rfl⟩) kk
theorem gfX10_bits {x : mX} {M : mM} {pc idx : Nat} {ls st : List mV} {h : mH} {Q : mV → mH → Prop} {i : Nat} (hk : kd i = 9) (hl : mFl M.1.cls idx "LongestPastModel" "bits" "[I") (hd : decode M.2.1 pc = .ok (.getfield idx, 3)) (kk : Go x M (pc + 3) ls (xR 60 :: st) h Q) : Go x M pc ls (xR i :: st) h Q := go_get (T := TX10) (k := 15) (v := xR 60) hk hl hd (by decide) rfl (by decide) rfl ingX10 rfl (fun _ => trivial) kk
theorem gfX10_bitMany {x : mX} {M : mM} {pc idx : Nat} {ls st : List mV} {h : mH} {Q : mV → mH → Prop} {i : Nat} (hk : kd i = 9) (hl : mFl M.1.cls idx "LongestPastModel" "bitMany" "I") (hd : decode M.2.1 pc = .ok (.getfield idx, 3)) (kk : Go x M (pc + 3) ls (xI (h i 16) :: st) h Q) : Go x M pc ls (xR i :: st) h Q := go_get (T := TX10) (k := 16) (v := xI (h i 16)) hk hl hd (by decide) rfl (by decide) rfl ingX10 rfl (fun hh => by have := hh i 16; rw [show isLg i 16 = false by unfold isLg; rw [hk]; rfl] at this; exact this) kk
theorem pfX10_bitMany {x : mX} {M : mM} {pc idx : Nat} {ls st : List mV} {h : mH} {Q : mV → mH → Prop} {i : Nat} {z : Int} (hk : kd i = 9) (hl : mFl M.1.cls idx "LongestPastModel" "bitMany" "I") (hd : decode M.2.1 pc = .ok (.putfield idx, 3)) (kk : Go x M (pc + 3) ls st (hset h i 16 z) Q) : Go x M pc ls (xI z :: xR i :: st) h Q := go_put (T := TX10) (k := 16) (v := xI z) (z := z) (ty := .int) hk hl hd (by decide) rfl (by decide) rfl ingX10 tyX10 tyX10_ok nmX10 rfl (tyX10_ok 16 (by decide)) rfl rfl (fun h2 e => by unfold fv; rw [e]; rfl) (Or.inr ⟨by unfold isLg; rw [hk]; rfl, rfl⟩) kk
theorem gfX10_mode {x : mX} {M : mM} {pc idx : Nat} {ls st : List mV} {h : mH} {Q : mV → mH → Prop} {i : Nat} (hk : kd i = 9) (hl : mFl M.1.cls idx "LongestPastModel" "mode" "I") (hd : decode M.2.1 pc = .ok (.getfield idx, 3)) (kk : Go x M (pc + 3) ls (xI (h i 17) :: st) h Q) : Go x M pc ls (xR i :: st) h Q := go_get (T := TX10) (k := 17) (v := xI (h i 17)) hk hl hd (by decide) rfl (by decide) rfl ingX10 rfl (fun hh => by have := hh i 17; rw [show isLg i 17 = false by unfold isLg; rw [hk]; rfl] at this; exact this) kk
theorem pfX10_mode {x : mX} {M : mM} {pc idx : Nat} {ls st : List mV} {h : mH} {Q : mV → mH → Prop} {i : Nat} {z : Int} (hk : kd i = 9) (hl : mFl M.1.cls idx "LongestPastModel" "mode" "I") (hd : decode M.2.1 pc = .ok (.putfield idx, 3)) (kk : Go x M (pc + 3) ls st (hset h i 17 z) Q) : Go x M pc ls (xI z :: xR i :: st) h Q := go_put (T := TX10) (k := 17) (v := xI z) (z := z) (ty := .int) hk hl hd (by decide) rfl (by decide) rfl ingX10 tyX10 tyX10_ok nmX10 rfl (tyX10_ok 17 (by decide)) rfl rfl (fun h2 e => by unfold fv; rw [e]; rfl) (Or.inr ⟨by unfold isLg; rw [hk]; rfl, rfl⟩) kk
theorem gfX10_source {x : mX} {M : mM} {pc idx : Nat} {ls st : List mV} {h : mH} {Q : mV → mH → Prop} {i : Nat} (hk : kd i = 9) (hl : mFl M.1.cls idx "LongestPastModel" "source" "[I") (hd : decode M.2.1 pc = .ok (.getfield idx, 3)) (kk : Go x M (pc + 3) ls (xR 61 :: st) h Q) : Go x M pc ls (xR i :: st) h Q := go_get (T := TX10) (k := 18) (v := xR 61) hk hl hd (by decide) rfl (by decide) rfl ingX10 rfl (fun _ => trivial) kk
theorem gfX10_sourceMany {x : mX} {M : mM} {pc idx : Nat} {ls st : List mV} {h : mH} {Q : mV → mH → Prop} {i : Nat} (hk : kd i = 9) (hl : mFl M.1.cls idx "LongestPastModel" "sourceMany" "I") (hd : decode M.2.1 pc = .ok (.getfield idx, 3)) (kk : Go x M (pc + 3) ls (xI (h i 19) :: st) h Q) : Go x M pc ls (xR i :: st) h Q := go_get (T := TX10) (k := 19) (v := xI (h i 19)) hk hl hd (by decide) rfl (by decide) rfl ingX10 rfl (fun hh => by have := hh i 19; rw [show isLg i 19 = false by unfold isLg; rw [hk]; rfl] at this; exact this) kk
theorem pfX10_sourceMany {x : mX} {M : mM} {pc idx : Nat} {ls st : List mV} {h : mH} {Q : mV → mH → Prop} {i : Nat} {z : Int} (hk : kd i = 9) (hl : mFl M.1.cls idx "LongestPastModel" "sourceMany" "I") (hd : decode M.2.1 pc = .ok (.putfield idx, 3)) (kk : Go x M (pc + 3) ls st (hset h i 19 z) Q) : Go x M pc ls (xI z :: xR i :: st) h Q := go_put (T := TX10) (k := 19) (v := xI z) (z := z) (ty := .int) hk hl hd (by decide) rfl (by decide) rfl ingX10 tyX10 tyX10_ok nmX10 rfl (tyX10_ok 19 (by decide)) rfl rfl (fun h2 e => by unfold fv; rw [e]; rfl) (Or.inr ⟨by unfold isLg; rw [hk]; rfl, rfl⟩) kk
theorem gfX10_sourceAt {x : mX} {M : mM} {pc idx : Nat} {ls st : List mV} {h : mH} {Q : mV → mH → Prop} {i : Nat} (hk : kd i = 9) (hl : mFl M.1.cls idx "LongestPastModel" "sourceAt" "I") (hd : decode M.2.1 pc = .ok (.getfield idx, 3)) (kk : Go x M (pc + 3) ls (xI (h i 20) :: st) h Q) : Go x M pc ls (xR i :: st) h Q := go_get (T := TX10) (k := 20) (v := xI (h i 20)) hk hl hd (by decide) rfl (by decide) rfl ingX10 rfl (fun hh => by have := hh i 20; rw [show isLg i 20 = false by unfold isLg; rw [hk]; rfl] at this; exact this) kk
theorem pfX10_sourceAt {x : mX} {M : mM} {pc idx : Nat} {ls st : List mV} {h : mH} {Q : mV → mH → Prop} {i : Nat} {z : Int} (hk : kd i = 9) (hl : mFl M.1.cls idx "LongestPastModel" "sourceAt" "I") (hd : decode M.2.1 pc = .ok (.putfield idx, 3)) (kk : Go x M (pc + 3) ls st (hset h i 20 z) Q) : Go x M pc ls (xI z :: xR i :: st) h Q := go_put (T := TX10) (k := 20) (v := xI z) (z := z) (ty := .int) hk hl hd (by decide) rfl (by decide) rfl ingX10 tyX10 tyX10_ok nmX10 rfl (tyX10_ok 20 (by decide)) rfl rfl (fun h2 e => by unfold fv; rw [e]; rfl) (Or.inr ⟨by unfold isLg; rw [hk]; rfl, rfl⟩) kk
theorem gfX10_value {x : mX} {M : mM} {pc idx : Nat} {ls st : List mV} {h : mH} {Q : mV → mH → Prop} {i : Nat} (hk : kd i = 9) (hl : mFl M.1.cls idx "LongestPastModel" "value" "I") (hd : decode M.2.1 pc = .ok (.getfield idx, 3)) (kk : Go x M (pc + 3) ls (xI (h i 21) :: st) h Q) : Go x M pc ls (xR i :: st) h Q := go_get (T := TX10) (k := 21) (v := xI (h i 21)) hk hl hd (by decide) rfl (by decide) rfl ingX10 rfl (fun hh => by have := hh i 21; rw [show isLg i 21 = false by unfold isLg; rw [hk]; rfl] at this; exact this) kk
theorem pfX10_value {x : mX} {M : mM} {pc idx : Nat} {ls st : List mV} {h : mH} {Q : mV → mH → Prop} {i : Nat} {z : Int} (hk : kd i = 9) (hl : mFl M.1.cls idx "LongestPastModel" "value" "I") (hd : decode M.2.1 pc = .ok (.putfield idx, 3)) (kk : Go x M (pc + 3) ls st (hset h i 21 z) Q) : Go x M pc ls (xI z :: xR i :: st) h Q := go_put (T := TX10) (k := 21) (v := xI z) (z := z) (ty := .int) hk hl hd (by decide) rfl (by decide) rfl ingX10 tyX10 tyX10_ok nmX10 rfl (tyX10_ok 21 (by decide)) rfl rfl (fun h2 e => by unfold fv; rw [e]; rfl) (Or.inr ⟨by unfold isLg; rw [hk]; rfl, rfl⟩) kk
theorem gfX10_upper {x : mX} {M : mM} {pc idx : Nat} {ls st : List mV} {h : mH} {Q : mV → mH → Prop} {i : Nat} (hk : kd i = 9) (hl : mFl M.1.cls idx "LongestPastModel" "upper" "J") (hd : decode M.2.1 pc = .ok (.getfield idx, 3)) (kk : Go x M (pc + 3) ls (xL (h i 22) :: st) h Q) : Go x M pc ls (xR i :: st) h Q := go_get (T := TX10) (k := 22) (v := xL (h i 22)) hk hl hd (by decide) rfl (by decide) rfl ingX10 rfl (fun hh => by have := hh i 22; rw [show isLg i 22 = true by unfold isLg; rw [hk]; rfl] at this; exact this) kk
theorem pfX10_upper {x : mX} {M : mM} {pc idx : Nat} {ls st : List mV} {h : mH} {Q : mV → mH → Prop} {i : Nat} {z : Int} (hk : kd i = 9) (hl : mFl M.1.cls idx "LongestPastModel" "upper" "J") (hd : decode M.2.1 pc = .ok (.putfield idx, 3)) (kk : Go x M (pc + 3) ls st (hset h i 22 z) Q) : Go x M pc ls (xL z :: xR i :: st) h Q := go_put (T := TX10) (k := 22) (v := xL z) (z := z) (ty := .long) hk hl hd (by decide) rfl (by decide) rfl ingX10 tyX10 tyX10_ok nmX10 rfl (tyX10_ok 22 (by decide)) rfl rfl (fun h2 e => by unfold fv; rw [e]; rfl) (Or.inl ⟨by unfold isLg; rw [hk]; rfl, rfl⟩) kk
theorem gfX10_lower {x : mX} {M : mM} {pc idx : Nat} {ls st : List mV} {h : mH} {Q : mV → mH → Prop} {i : Nat} (hk : kd i = 9) (hl : mFl M.1.cls idx "LongestPastModel" "lower" "J") (hd : decode M.2.1 pc = .ok (.getfield idx, 3)) (kk : Go x M (pc + 3) ls (xL (h i 23) :: st) h Q) : Go x M pc ls (xR i :: st) h Q := go_get (T := TX10) (k := 23) (v := xL (h i 23)) hk hl hd (by decide) rfl (by decide) rfl ingX10 rfl (fun hh => by have := hh i 23; rw [show isLg i 23 = true by unfold isLg; rw [hk]; rfl] at this; exact this) kk
theorem pfX10_lower {x : mX} {M : mM} {pc idx : Nat} {ls st : List mV} {h : mH} {Q : mV → mH → Prop} {i : Nat} {z : Int} (hk : kd i = 9) (hl : mFl M.1.cls idx "LongestPastModel" "lower" "J") (hd : decode M.2.1 pc = .ok (.putfield idx, 3)) (kk : Go x M (pc + 3) ls st (hset h i 23 z) Q) : Go x M pc ls (xL z :: xR i :: st) h Q := go_put (T := TX10) (k := 23) (v := xL z) (z := z) (ty := .long) hk hl hd (by decide) rfl (by decide) rfl ingX10 tyX10 tyX10_ok nmX10 rfl (tyX10_ok 23 (by decide)) rfl rfl (fun h2 e => by unfold fv; rw [e]; rfl) (Or.inl ⟨by unfold isLg; rw [hk]; rfl, rfl⟩) kk
theorem gfX10_found {x : mX} {M : mM} {pc idx : Nat} {ls st : List mV} {h : mH} {Q : mV → mH → Prop} {i : Nat} (hk : kd i = 9) (hl : mFl M.1.cls idx "LongestPastModel" "found" "I") (hd : decode M.2.1 pc = .ok (.getfield idx, 3)) (kk : Go x M (pc + 3) ls (xI (h i 24) :: st) h Q) : Go x M pc ls (xR i :: st) h Q := go_get (T := TX10) (k := 24) (v := xI (h i 24)) hk hl hd (by decide) rfl (by decide) rfl ingX10 rfl (fun hh => by have := hh i 24; rw [show isLg i 24 = false by unfold isLg; rw [hk]; rfl] at this; exact this) kk
theorem pfX10_found {x : mX} {M : mM} {pc idx : Nat} {ls st : List mV} {h : mH} {Q : mV → mH → Prop} {i : Nat} {z : Int} (hk : kd i = 9) (hl : mFl M.1.cls idx "LongestPastModel" "found" "I") (hd : decode M.2.1 pc = .ok (.putfield idx, 3)) (kk : Go x M (pc + 3) ls st (hset h i 24 z) Q) : Go x M pc ls (xI z :: xR i :: st) h Q := go_put (T := TX10) (k := 24) (v := xI z) (z := z) (ty := .int) hk hl hd (by decide) rfl (by decide) rfl ingX10 tyX10 tyX10_ok nmX10 rfl (tyX10_ok 24 (by decide)) rfl rfl (fun h2 e => by unfold fv; rw [e]; rfl) (Or.inr ⟨by unfold isLg; rw [hk]; rfl, rfl⟩) kk
theorem gfX10_escaped {x : mX} {M : mM} {pc idx : Nat} {ls st : List mV} {h : mH} {Q : mV → mH → Prop} {i : Nat} (hk : kd i = 9) (hl : mFl M.1.cls idx "LongestPastModel" "escaped" "I") (hd : decode M.2.1 pc = .ok (.getfield idx, 3)) (kk : Go x M (pc + 3) ls (xI (h i 25) :: st) h Q) : Go x M pc ls (xR i :: st) h Q := go_get (T := TX10) (k := 25) (v := xI (h i 25)) hk hl hd (by decide) rfl (by decide) rfl ingX10 rfl (fun hh => by have := hh i 25; rw [show isLg i 25 = false by unfold isLg; rw [hk]; rfl] at this; exact this) kk
theorem pfX10_escaped {x : mX} {M : mM} {pc idx : Nat} {ls st : List mV} {h : mH} {Q : mV → mH → Prop} {i : Nat} {z : Int} (hk : kd i = 9) (hl : mFl M.1.cls idx "LongestPastModel" "escaped" "I") (hd : decode M.2.1 pc = .ok (.putfield idx, 3)) (kk : Go x M (pc + 3) ls st (hset h i 25 z) Q) : Go x M pc ls (xI z :: xR i :: st) h Q := go_put (T := TX10) (k := 25) (v := xI z) (z := z) (ty := .int) hk hl hd (by decide) rfl (by decide) rfl ingX10 tyX10 tyX10_ok nmX10 rfl (tyX10_ok 25 (by decide)) rfl rfl (fun h2 e => by unfold fv; rw [e]; rfl) (Or.inr ⟨by unfold isLg; rw [hk]; rfl, rfl⟩) kk
theorem flX0_9 : mFl RX0 9 "LongestPast$Contexts" "counts" "[I" := Or.inl (inG (i := 125) (by decide +kernel) rfl)
theorem flX0_15 : mFl RX0 15 "LongestPast$Contexts" "there" "I" := Or.inl (inG (i := 126) (by decide +kernel) rfl)
theorem flX1_11 : mFl RX1 11 "LongestPast$History" "ring" "[LLongestPast$Past;" := Or.inl (inG (i := 253) (by decide +kernel) rfl)
theorem flX1_17 : mFl RX1 17 "LongestPast$History" "next" "I" := Or.inl (inG (i := 254) (by decide +kernel) rfl)
theorem flX1_21 : mFl RX1 21 "LongestPast$History" "known" "I" := Or.inl (inG (i := 255) (by decide +kernel) rfl)
theorem clX4_becomes : mCl mtX4_becomes 1 := ⟨(inG (i := 328) (by decide +kernel) rfl), (inG (i := 42) (by decide +kernel) rfl), ⟨by decide +kernel, by decide +kernel, by decide +kernel⟩, by decide⟩
theorem ivX4_becomes : Cond.instanceMethod mtX4_becomes.1 ∈ gd_tbl ∧ Cond.selects mtX4_becomes.1.cls mtX4_becomes.1 mtX4_becomes.1 ∈ gd_tbl := ⟨(inG (i := 326) (by decide +kernel) rfl), (inG (i := 327) (by decide +kernel) rfl)⟩
theorem vlX1_25 : mVl RX1 25 mtX4_becomes 1 := ⟨(inG (i := 325) (by decide +kernel) rfl), ivX4_becomes, clX4_becomes⟩
theorem mmX1_29 : mMl RX1 29 Lib.Math.min.name Lib.Math.min.code := ⟨(inG (i := 343) (by decide +kernel) rfl), (inG (i := 344) (by decide +kernel) rfl), (inG (i := 40) (by decide +kernel) rfl), (inG (i := 345) (by decide +kernel) rfl)⟩
theorem flX2_9 : mFl RX2 9 "LongestPast$Odds" "wanted" "I" := Or.inl (inG (i := 228) (by decide +kernel) rfl)
theorem flX2_15 : mFl RX2 15 "LongestPast$Odds" "escaped" "I" := Or.inl (inG (i := 229) (by decide +kernel) rfl)
theorem flX2_18 : mFl RX2 18 "LongestPast$Odds" "upper" "J" := Or.inl (inG (i := 231) (by decide +kernel) rfl)
theorem flX2_22 : mFl RX2 22 "LongestPast$Odds" "lower" "J" := Or.inl (inG (i := 233) (by decide +kernel) rfl)
theorem clX7_choiceFor : mCl mtX7_choiceFor 1 := ⟨(inG (i := 421) (by decide +kernel) rfl), (inG (i := 46) (by decide +kernel) rfl), ⟨by decide +kernel, by decide +kernel, by decide +kernel⟩, by decide⟩
theorem ivX7_choiceFor : Cond.instanceMethod mtX7_choiceFor.1 ∈ gd_tbl ∧ Cond.selects mtX7_choiceFor.1.cls mtX7_choiceFor.1 mtX7_choiceFor.1 ∈ gd_tbl := ⟨(inG (i := 419) (by decide +kernel) rfl), (inG (i := 420) (by decide +kernel) rfl)⟩
theorem vlX2_25 : mVl RX2 25 mtX7_choiceFor 1 := ⟨(inG (i := 418) (by decide +kernel) rfl), ivX7_choiceFor, clX7_choiceFor⟩
theorem flX3_12 : mFl RX3 12 "LongestPast$Packer" "past" "LLongestPast$Past;" := Or.inl (inG (i := 196) (by decide +kernel) rfl)
theorem flX3_21 : mFl RX3 21 "LongestPast$Packer" "contexts" "LLongestPast$Contexts;" := Or.inl (inG (i := 198) (by decide +kernel) rfl)
theorem flX3_28 : mFl RX3 28 "LongestPast$Packer" "range" "LLongestPast$Range;" := Or.inl (inG (i := 200) (by decide +kernel) rfl)
theorem flX3_35 : mFl RX3 35 "LongestPast$Packer" "stage" "LLongestPast$Stage;" := Or.inl (inG (i := 202) (by decide +kernel) rfl)
theorem flX3_39 : mFl RX3 39 "LongestPast$Packer" "packed" "I" := Or.inl (inG (i := 203) (by decide +kernel) rfl)
theorem flX3_43 : mFl RX3 43 "LongestPast$Packer" "forgotten" "I" := Or.inl (inG (i := 204) (by decide +kernel) rfl)
theorem flX3_46 : mFl RX3 46 "LongestPast$Packer" "chosen" "I" := Or.inl (inG (i := 206) (by decide +kernel) rfl)
theorem flX3_49 : mFl RX3 49 "LongestPast$Past" "order" "I" := Or.inr ⟨"LongestPast", (inN (i := 94) (by decide +kernel) rfl)⟩
theorem flX3_52 : mFl RX3 52 "LongestPast$Past" "limit" "I" := Or.inr ⟨"LongestPast", (inN (i := 97) (by decide +kernel) rfl)⟩
theorem flX3_55 : mFl RX3 55 "LongestPast$Past" "room" "I" := Or.inr ⟨"LongestPast", (inN (i := 100) (by decide +kernel) rfl)⟩
theorem flX3_58 : mFl RX3 58 "LongestPast$Past" "tail" "I" := Or.inr ⟨"LongestPast", (inN (i := 103) (by decide +kernel) rfl)⟩
theorem clX4_setsOut : mCl mtX4_setsOut 4 := ⟨(inG (i := 332) (by decide +kernel) rfl), (inG (i := 42) (by decide +kernel) rfl), ⟨by decide +kernel, by decide +kernel, by decide +kernel⟩, by decide⟩
theorem ivX4_setsOut : Cond.instanceMethod mtX4_setsOut.1 ∈ gd_tbl ∧ Cond.selects mtX4_setsOut.1.cls mtX4_setsOut.1 mtX4_setsOut.1 ∈ gd_tbl := ⟨(inG (i := 330) (by decide +kernel) rfl), (inG (i := 331) (by decide +kernel) rfl)⟩
theorem vlX3_61 : mVl RX3 61 mtX4_setsOut 4 := ⟨(inG (i := 568) (by decide +kernel) rfl), ivX4_setsOut, clX4_setsOut⟩
theorem clX3_startsAnew : mCl mtX3_startsAnew 0 := ⟨(inG (i := 354) (by decide +kernel) rfl), (inG (i := 41) (by decide +kernel) rfl), ⟨by decide +kernel, by decide +kernel, by decide +kernel⟩, by decide⟩
theorem ivX3_startsAnew : Cond.instanceMethod mtX3_startsAnew.1 ∈ gd_tbl ∧ Cond.selects mtX3_startsAnew.1.cls mtX3_startsAnew.1 mtX3_startsAnew.1 ∈ gd_tbl := ⟨(inG (i := 353) (by decide +kernel) rfl), (inG (i := 0) (by decide +kernel) rfl)⟩
theorem vlX3_65 : mVl RX3 65 mtX3_startsAnew 0 := ⟨(inG (i := 351) (by decide +kernel) rfl), ivX3_startsAnew, clX3_startsAnew⟩
theorem flX3_68 : mFl RX3 68 "LongestPast$Past" "signs" "LLongestPast$Row;" := Or.inr ⟨"LongestPast", (inN (i := 106) (by decide +kernel) rfl)⟩
theorem flX3_72 : mFl RX3 72 "LongestPast$Row" "size" "I" := Or.inr ⟨"LongestPast", (inN (i := 71) (by decide +kernel) rfl)⟩
theorem clX3_packsNext : mCl mtX3_packsNext 0 := ⟨(inG (i := 371) (by decide +kernel) rfl), (inG (i := 41) (by decide +kernel) rfl), ⟨by decide +kernel, by decide +kernel, by decide +kernel⟩, by decide⟩
theorem ivX3_packsNext : Cond.instanceMethod mtX3_packsNext.1 ∈ gd_tbl ∧ Cond.selects mtX3_packsNext.1.cls mtX3_packsNext.1 mtX3_packsNext.1 ∈ gd_tbl := ⟨(inG (i := 369) (by decide +kernel) rfl), (inG (i := 370) (by decide +kernel) rfl)⟩
theorem vlX3_77 : mVl RX3 77 mtX3_packsNext 0 := ⟨(inG (i := 368) (by decide +kernel) rfl), ivX3_packsNext, clX3_packsNext⟩
theorem clX6_at : mCl mtX6_at 1 := ⟨(inG (i := 341) (by decide +kernel) rfl), (inG (i := 39) (by decide +kernel) rfl), ⟨by decide +kernel, by decide +kernel, by decide +kernel⟩, by decide⟩
theorem ivX6_at : Cond.instanceMethod mtX6_at.1 ∈ gd_tbl ∧ Cond.selects mtX6_at.1.cls mtX6_at.1 mtX6_at.1 ∈ gd_tbl := ⟨(inG (i := 339) (by decide +kernel) rfl), (inG (i := 340) (by decide +kernel) rfl)⟩
theorem vlX3_81 : mVl RX3 81 mtX6_at 1 := ⟨(inG (i := 372) (by decide +kernel) rfl), ivX6_at, clX6_at⟩
theorem clX5_wants : mCl mtX5_wants 1 := ⟨(inG (i := 376) (by decide +kernel) rfl), (inG (i := 45) (by decide +kernel) rfl), ⟨by decide +kernel, by decide +kernel, by decide +kernel⟩, by decide⟩
theorem ivX5_wants : Cond.instanceMethod mtX5_wants.1 ∈ gd_tbl ∧ Cond.selects mtX5_wants.1.cls mtX5_wants.1 mtX5_wants.1 ∈ gd_tbl := ⟨(inG (i := 374) (by decide +kernel) rfl), (inG (i := 375) (by decide +kernel) rfl)⟩
theorem vlX3_85 : mVl RX3 85 mtX5_wants 1 := ⟨(inG (i := 373) (by decide +kernel) rfl), ivX5_wants, clX5_wants⟩
theorem clX3_descends : mCl mtX3_descends 1 := ⟨(inG (i := 380) (by decide +kernel) rfl), (inG (i := 41) (by decide +kernel) rfl), ⟨by decide +kernel, by decide +kernel, by decide +kernel⟩, by decide⟩
theorem ivX3_descends : Cond.instanceMethod mtX3_descends.1 ∈ gd_tbl ∧ Cond.selects mtX3_descends.1.cls mtX3_descends.1 mtX3_descends.1 ∈ gd_tbl := ⟨(inG (i := 379) (by decide +kernel) rfl), (inG (i := 2) (by decide +kernel) rfl)⟩
theorem vlX3_89 : mVl RX3 89 mtX3_descends 1 := ⟨(inG (i := 377) (by decide +kernel) rfl), ivX3_descends, clX3_descends⟩
theorem clX3_learns : mCl mtX3_learns 2 := ⟨(inG (i := 467) (by decide +kernel) rfl), (inG (i := 41) (by decide +kernel) rfl), ⟨by decide +kernel, by decide +kernel, by decide +kernel⟩, by decide⟩
theorem ivX3_learns : Cond.instanceMethod mtX3_learns.1 ∈ gd_tbl ∧ Cond.selects mtX3_learns.1.cls mtX3_learns.1 mtX3_learns.1 ∈ gd_tbl := ⟨(inG (i := 466) (by decide +kernel) rfl), (inG (i := 6) (by decide +kernel) rfl)⟩
theorem vlX3_93 : mVl RX3 93 mtX3_learns 2 := ⟨(inG (i := 464) (by decide +kernel) rfl), ivX3_learns, clX3_learns⟩
theorem clX6_puts : mCl mtX6_puts 1 := ⟨(inG (i := 305) (by decide +kernel) rfl), (inG (i := 39) (by decide +kernel) rfl), ⟨by decide +kernel, by decide +kernel, by decide +kernel⟩, by decide⟩
theorem ivX6_puts : Cond.instanceMethod mtX6_puts.1 ∈ gd_tbl ∧ Cond.selects mtX6_puts.1.cls mtX6_puts.1 mtX6_puts.1 ∈ gd_tbl := ⟨(inG (i := 303) (by decide +kernel) rfl), (inG (i := 304) (by decide +kernel) rfl)⟩
theorem vlX3_97 : mVl RX3 97 mtX6_puts 1 := ⟨(inG (i := 577) (by decide +kernel) rfl), ivX6_puts, clX6_puts⟩
theorem clX2_wants : mCl mtX2_wants 1 := ⟨(inG (i := 534) (by decide +kernel) rfl), (inG (i := 47) (by decide +kernel) rfl), ⟨by decide +kernel, by decide +kernel, by decide +kernel⟩, by decide⟩
theorem ivX2_wants : Cond.instanceMethod mtX2_wants.1 ∈ gd_tbl ∧ Cond.selects mtX2_wants.1.cls mtX2_wants.1 mtX2_wants.1 ∈ gd_tbl := ⟨(inG (i := 532) (by decide +kernel) rfl), (inG (i := 533) (by decide +kernel) rfl)⟩
theorem vlX3_100 : mVl RX3 100 mtX2_wants 1 := ⟨(inG (i := 531) (by decide +kernel) rfl), ivX2_wants, clX2_wants⟩
theorem flX3_117 : mFl RX3 117 "LongestPast$Stage" "total" "I" := Or.inr ⟨"LongestPast", (inN (i := 183) (by decide +kernel) rfl)⟩
theorem clX7_shutsNone : mCl mtX7_shutsNone 0 := ⟨(inG (i := 384) (by decide +kernel) rfl), (inG (i := 46) (by decide +kernel) rfl), ⟨by decide +kernel, by decide +kernel, by decide +kernel⟩, by decide⟩
theorem ivX7_shutsNone : Cond.instanceMethod mtX7_shutsNone.1 ∈ gd_tbl ∧ Cond.selects mtX7_shutsNone.1.cls mtX7_shutsNone.1 mtX7_shutsNone.1 ∈ gd_tbl := ⟨(inG (i := 382) (by decide +kernel) rfl), (inG (i := 383) (by decide +kernel) rfl)⟩
theorem vlX3_103 : mVl RX3 103 mtX7_shutsNone 0 := ⟨(inG (i := 381) (by decide +kernel) rfl), ivX7_shutsNone, clX7_shutsNone⟩
theorem clX3_longest : mCl mtX3_longest 0 := ⟨(inG (i := 388) (by decide +kernel) rfl), (inG (i := 41) (by decide +kernel) rfl), ⟨by decide +kernel, by decide +kernel, by decide +kernel⟩, by decide⟩
theorem ivX3_longest : Cond.instanceMethod mtX3_longest.1 ∈ gd_tbl ∧ Cond.selects mtX3_longest.1.cls mtX3_longest.1 mtX3_longest.1 ∈ gd_tbl := ⟨(inG (i := 387) (by decide +kernel) rfl), (inG (i := 3) (by decide +kernel) rfl)⟩
theorem vlX3_106 : mVl RX3 106 mtX3_longest 0 := ⟨(inG (i := 385) (by decide +kernel) rfl), ivX3_longest, clX3_longest⟩
theorem clX4_contextAhead : mCl mtX4_contextAhead 2 := ⟨(inG (i := 393) (by decide +kernel) rfl), (inG (i := 42) (by decide +kernel) rfl), ⟨by decide +kernel, by decide +kernel, by decide +kernel⟩, by decide⟩
theorem ivX4_contextAhead : Cond.instanceMethod mtX4_contextAhead.1 ∈ gd_tbl ∧ Cond.selects mtX4_contextAhead.1.cls mtX4_contextAhead.1 mtX4_contextAhead.1 ∈ gd_tbl := ⟨(inG (i := 391) (by decide +kernel) rfl), (inG (i := 392) (by decide +kernel) rfl)⟩
theorem vlX3_109 : mVl RX3 109 mtX4_contextAhead 2 := ⟨(inG (i := 390) (by decide +kernel) rfl), ivX4_contextAhead, clX4_contextAhead⟩
theorem clX7_shows : mCl mtX7_shows 2 := ⟨(inG (i := 401) (by decide +kernel) rfl), (inG (i := 46) (by decide +kernel) rfl), ⟨by decide +kernel, by decide +kernel, by decide +kernel⟩, by decide⟩
theorem ivX7_shows : Cond.instanceMethod mtX7_shows.1 ∈ gd_tbl ∧ Cond.selects mtX7_shows.1.cls mtX7_shows.1 mtX7_shows.1 ∈ gd_tbl := ⟨(inG (i := 399) (by decide +kernel) rfl), (inG (i := 400) (by decide +kernel) rfl)⟩
theorem vlX3_113 : mVl RX3 113 mtX7_shows 2 := ⟨(inG (i := 398) (by decide +kernel) rfl), ivX7_shows, clX7_shows⟩
theorem clX2_chooses : mCl mtX2_chooses 1 := ⟨(inG (i := 417) (by decide +kernel) rfl), (inG (i := 47) (by decide +kernel) rfl), ⟨by decide +kernel, by decide +kernel, by decide +kernel⟩, by decide⟩
theorem ulX3_120_X2 : mUl RX3 120 ⟨"LongestPast$Taker", "chooses", "(LLongestPast$Stage;)I"⟩ mtX2_chooses 1 := ⟨(inG (i := 412) (by decide +kernel) rfl), (inG (i := 414) (by decide +kernel) rfl), (inN (i := 413) (by decide +kernel) rfl), (inG (i := 415) (by decide +kernel) rfl), (inG (i := 416) (by decide +kernel) rfl), ⟨by decide +kernel, by decide +kernel, by decide +kernel⟩, clX2_chooses⟩
theorem clX5_chooses : mCl mtX5_chooses 1 := ⟨(inG (i := 428) (by decide +kernel) rfl), (inG (i := 45) (by decide +kernel) rfl), ⟨by decide +kernel, by decide +kernel, by decide +kernel⟩, by decide⟩
theorem ulX3_120_X5 : mUl RX3 120 ⟨"LongestPast$Taker", "chooses", "(LLongestPast$Stage;)I"⟩ mtX5_chooses 1 := ⟨(inG (i := 412) (by decide +kernel) rfl), (inG (i := 414) (by decide +kernel) rfl), (inN (i := 413) (by decide +kernel) rfl), (inG (i := 426) (by decide +kernel) rfl), (inG (i := 427) (by decide +kernel) rfl), ⟨by decide +kernel, by decide +kernel, by decide +kernel⟩, clX5_chooses⟩
theorem clX7_beginOf : mCl mtX7_beginOf 1 := ⟨(inG (i := 437) (by decide +kernel) rfl), (inG (i := 46) (by decide +kernel) rfl), ⟨by decide +kernel, by decide +kernel, by decide +kernel⟩, by decide⟩
theorem ivX7_beginOf : Cond.instanceMethod mtX7_beginOf.1 ∈ gd_tbl ∧ Cond.selects mtX7_beginOf.1.cls mtX7_beginOf.1 mtX7_beginOf.1 ∈ gd_tbl := ⟨(inG (i := 435) (by decide +kernel) rfl), (inG (i := 436) (by decide +kernel) rfl)⟩
theorem vlX3_126 : mVl RX3 126 mtX7_beginOf 1 := ⟨(inG (i := 434) (by decide +kernel) rfl), ivX7_beginOf, clX7_beginOf⟩
theorem clX7_width : mCl mtX7_width 1 := ⟨(inG (i := 425) (by decide +kernel) rfl), (inG (i := 46) (by decide +kernel) rfl), ⟨by decide +kernel, by decide +kernel, by decide +kernel⟩, by decide⟩
theorem ivX7_width : Cond.instanceMethod mtX7_width.1 ∈ gd_tbl ∧ Cond.selects mtX7_width.1.cls mtX7_width.1 mtX7_width.1 ∈ gd_tbl := ⟨(inG (i := 423) (by decide +kernel) rfl), (inG (i := 424) (by decide +kernel) rfl)⟩
theorem vlX3_129 : mVl RX3 129 mtX7_width 1 := ⟨(inG (i := 438) (by decide +kernel) rfl), ivX7_width, clX7_width⟩
theorem clX2_takes : mCl mtX2_takes 3 := ⟨(inG (i := 444) (by decide +kernel) rfl), (inG (i := 47) (by decide +kernel) rfl), ⟨by decide +kernel, by decide +kernel, by decide +kernel⟩, by decide⟩
theorem ulX3_132_X2 : mUl RX3 132 ⟨"LongestPast$Taker", "takes", "(III)V"⟩ mtX2_takes 3 := ⟨(inG (i := 439) (by decide +kernel) rfl), (inG (i := 441) (by decide +kernel) rfl), (inN (i := 440) (by decide +kernel) rfl), (inG (i := 442) (by decide +kernel) rfl), (inG (i := 443) (by decide +kernel) rfl), ⟨by decide +kernel, by decide +kernel, by decide +kernel⟩, clX2_takes⟩
theorem clX5_takes : mCl mtX5_takes 3 := ⟨(inG (i := 447) (by decide +kernel) rfl), (inG (i := 45) (by decide +kernel) rfl), ⟨by decide +kernel, by decide +kernel, by decide +kernel⟩, by decide⟩
theorem ulX3_132_X5 : mUl RX3 132 ⟨"LongestPast$Taker", "takes", "(III)V"⟩ mtX5_takes 3 := ⟨(inG (i := 439) (by decide +kernel) rfl), (inG (i := 441) (by decide +kernel) rfl), (inN (i := 440) (by decide +kernel) rfl), (inG (i := 445) (by decide +kernel) rfl), (inG (i := 446) (by decide +kernel) rfl), ⟨by decide +kernel, by decide +kernel, by decide +kernel⟩, clX5_takes⟩
theorem clX7_shutsOpen : mCl mtX7_shutsOpen 0 := ⟨(inG (i := 463) (by decide +kernel) rfl), (inG (i := 46) (by decide +kernel) rfl), ⟨by decide +kernel, by decide +kernel, by decide +kernel⟩, by decide⟩
theorem ivX7_shutsOpen : Cond.instanceMethod mtX7_shutsOpen.1 ∈ gd_tbl ∧ Cond.selects mtX7_shutsOpen.1.cls mtX7_shutsOpen.1 mtX7_shutsOpen.1 ∈ gd_tbl := ⟨(inG (i := 461) (by decide +kernel) rfl), (inG (i := 462) (by decide +kernel) rfl)⟩
theorem vlX3_136 : mVl RX3 136 mtX7_shutsOpen 0 := ⟨(inG (i := 460) (by decide +kernel) rfl), ivX7_shutsOpen, clX7_shutsOpen⟩
theorem clX0_empties : mCl mtX0_empties 0 := ⟨(inG (i := 358) (by decide +kernel) rfl), (inG (i := 43) (by decide +kernel) rfl), ⟨by decide +kernel, by decide +kernel, by decide +kernel⟩, by decide⟩
theorem ivX0_empties : Cond.instanceMethod mtX0_empties.1 ∈ gd_tbl ∧ Cond.selects mtX0_empties.1.cls mtX0_empties.1 mtX0_empties.1 ∈ gd_tbl := ⟨(inG (i := 356) (by decide +kernel) rfl), (inG (i := 357) (by decide +kernel) rfl)⟩
theorem vlX3_139 : mVl RX3 139 mtX0_empties 0 := ⟨(inG (i := 355) (by decide +kernel) rfl), ivX0_empties, clX0_empties⟩
theorem clX5_startsWriting : mCl mtX5_startsWriting 0 := ⟨(inG (i := 362) (by decide +kernel) rfl), (inG (i := 45) (by decide +kernel) rfl), ⟨by decide +kernel, by decide +kernel, by decide +kernel⟩, by decide⟩
theorem ivX5_startsWriting : Cond.instanceMethod mtX5_startsWriting.1 ∈ gd_tbl ∧ Cond.selects mtX5_startsWriting.1.cls mtX5_startsWriting.1 mtX5_startsWriting.1 ∈ gd_tbl := ⟨(inG (i := 360) (by decide +kernel) rfl), (inG (i := 361) (by decide +kernel) rfl)⟩
theorem vlX3_142 : mVl RX3 142 mtX5_startsWriting 0 := ⟨(inG (i := 359) (by decide +kernel) rfl), ivX5_startsWriting, clX5_startsWriting⟩
theorem mmX3_145 : mMl RX3 145 Lib.Math.min.name Lib.Math.min.code := ⟨(inG (i := 389) (by decide +kernel) rfl), (inG (i := 344) (by decide +kernel) rfl), (inG (i := 40) (by decide +kernel) rfl), (inG (i := 345) (by decide +kernel) rfl)⟩
theorem flX3_156 : mFl RX3 156 "LongestPast$Contexts" "there" "I" := Or.inr ⟨"LongestPast", (inN (i := 127) (by decide +kernel) rfl)⟩
theorem mmX3_150 : mMl RX3 150 Lib.Math.max.name Lib.Math.max.code := ⟨(inG (i := 468) (by decide +kernel) rfl), (inG (i := 66) (by decide +kernel) rfl), (inG (i := 40) (by decide +kernel) rfl), (inG (i := 67) (by decide +kernel) rfl)⟩
theorem clX0_raises : mCl mtX0_raises 3 := ⟨(inG (i := 472) (by decide +kernel) rfl), (inG (i := 43) (by decide +kernel) rfl), ⟨by decide +kernel, by decide +kernel, by decide +kernel⟩, by decide⟩
theorem ivX0_raises : Cond.instanceMethod mtX0_raises.1 ∈ gd_tbl ∧ Cond.selects mtX0_raises.1.cls mtX0_raises.1 mtX0_raises.1 ∈ gd_tbl := ⟨(inG (i := 470) (by decide +kernel) rfl), (inG (i := 471) (by decide +kernel) rfl)⟩
theorem vlX3_153 : mVl RX3 153 mtX0_raises 3 := ⟨(inG (i := 469) (by decide +kernel) rfl), ivX0_raises, clX0_raises⟩
theorem clX3_forgets : mCl mtX3_forgets 0 := ⟨(inG (i := 476) (by decide +kernel) rfl), (inG (i := 41) (by decide +kernel) rfl), ⟨by decide +kernel, by decide +kernel, by decide +kernel⟩, by decide⟩
theorem ivX3_forgets : Cond.instanceMethod mtX3_forgets.1 ∈ gd_tbl ∧ Cond.selects mtX3_forgets.1.cls mtX3_forgets.1 mtX3_forgets.1 ∈ gd_tbl := ⟨(inG (i := 475) (by decide +kernel) rfl), (inG (i := 7) (by decide +kernel) rfl)⟩
theorem vlX3_159 : mVl RX3 159 mtX3_forgets 0 := ⟨(inG (i := 473) (by decide +kernel) rfl), ivX3_forgets, clX3_forgets⟩
theorem flX4_9 : mFl RX4 9 "LongestPast$Past" "order" "I" := Or.inl (inG (i := 93) (by decide +kernel) rfl)
theorem flX4_15 : mFl RX4 15 "LongestPast$Past" "limit" "I" := Or.inl (inG (i := 96) (by decide +kernel) rfl)
theorem flX4_18 : mFl RX4 18 "LongestPast$Past" "room" "I" := Or.inl (inG (i := 99) (by decide +kernel) rfl)
theorem flX4_21 : mFl RX4 21 "LongestPast$Past" "tail" "I" := Or.inl (inG (i := 102) (by decide +kernel) rfl)
theorem flX4_29 : mFl RX4 29 "LongestPast$Past" "signs" "LLongestPast$Row;" := Or.inl (inG (i := 105) (by decide +kernel) rfl)
theorem clX6_shortens : mCl mtX6_shortens 1 := ⟨(inG (i := 313) (by decide +kernel) rfl), (inG (i := 39) (by decide +kernel) rfl), ⟨by decide +kernel, by decide +kernel, by decide +kernel⟩, by decide⟩
theorem ivX6_shortens : Cond.instanceMethod mtX6_shortens.1 ∈ gd_tbl ∧ Cond.selects mtX6_shortens.1.cls mtX6_shortens.1 mtX6_shortens.1 ∈ gd_tbl := ⟨(inG (i := 311) (by decide +kernel) rfl), (inG (i := 312) (by decide +kernel) rfl)⟩
theorem vlX4_33 : mVl RX4 33 mtX6_shortens 1 := ⟨(inG (i := 333) (by decide +kernel) rfl), ivX6_shortens, clX6_shortens⟩
theorem vlX4_36 : mVl RX4 36 mtX4_setsOut 4 := ⟨(inG (i := 329) (by decide +kernel) rfl), ivX4_setsOut, clX4_setsOut⟩
theorem clX6_copies : mCl mtX6_copies 1 := ⟨(inG (i := 337) (by decide +kernel) rfl), (inG (i := 39) (by decide +kernel) rfl), ⟨by decide +kernel, by decide +kernel, by decide +kernel⟩, by decide⟩
theorem ivX6_copies : Cond.instanceMethod mtX6_copies.1 ∈ gd_tbl ∧ Cond.selects mtX6_copies.1.cls mtX6_copies.1 mtX6_copies.1 ∈ gd_tbl := ⟨(inG (i := 335) (by decide +kernel) rfl), (inG (i := 336) (by decide +kernel) rfl)⟩
theorem vlX4_40 : mVl RX4 40 mtX6_copies 1 := ⟨(inG (i := 334) (by decide +kernel) rfl), ivX6_copies, clX6_copies⟩
theorem vlX4_44 : mVl RX4 44 mtX6_at 1 := ⟨(inG (i := 394) (by decide +kernel) rfl), ivX6_at, clX6_at⟩
theorem clX9_longerContext : mCl mtX9_longerContext 2 := ⟨(inG (i := 397) (by decide +kernel) rfl), (inG (i := 38) (by decide +kernel) rfl), ⟨by decide +kernel, by decide +kernel, by decide +kernel⟩, by decide⟩
theorem slX4_48 : mSl RX4 48 mtX9_longerContext 2 := ⟨Or.inr ⟨"LongestPast", (inN (i := 395) (by decide +kernel) rfl)⟩, (inG (i := 396) (by decide +kernel) rfl), clX9_longerContext⟩
theorem flX5_14 : mFl RX5 14 "LongestPast$Range" "bits" "LLongestPast$Row;" := Or.inl (inG (i := 146) (by decide +kernel) rfl)
theorem flX5_20 : mFl RX5 20 "LongestPast$Range" "low" "I" := Or.inl (inG (i := 148) (by decide +kernel) rfl)
theorem knX5_24 : Cond.constant RX5 24 (Int32.ofInt 65535) ∈ gd_tbl := (inG (i := 145) (by decide +kernel) rfl)
theorem flX5_25 : mFl RX5 25 "LongestPast$Range" "high" "I" := Or.inl (inG (i := 150) (by decide +kernel) rfl)
theorem flX5_28 : mFl RX5 28 "LongestPast$Range" "owed" "I" := Or.inl (inG (i := 152) (by decide +kernel) rfl)
theorem flX5_31 : mFl RX5 31 "LongestPast$Range" "wanted" "I" := Or.inl (inG (i := 154) (by decide +kernel) rfl)
theorem flX5_34 : mFl RX5 34 "LongestPast$Range" "reading" "Z" := Or.inl (inG (i := 155) (by decide +kernel) rfl)
theorem flX5_38 : mFl RX5 38 "LongestPast$Range" "value" "I" := Or.inl (inG (i := 156) (by decide +kernel) rfl)
theorem flX5_41 : mFl RX5 41 "LongestPast$Range" "nextRead" "I" := Or.inl (inG (i := 157) (by decide +kernel) rfl)
theorem vlX5_44 : mVl RX5 44 mtX6_shortens 1 := ⟨(inG (i := 363) (by decide +kernel) rfl), ivX6_shortens, clX6_shortens⟩
theorem clX5_isWhole : mCl mtX5_isWhole 0 := ⟨(inG (i := 367) (by decide +kernel) rfl), (inG (i := 45) (by decide +kernel) rfl), ⟨by decide +kernel, by decide +kernel, by decide +kernel⟩, by decide⟩
theorem ivX5_isWhole : Cond.instanceMethod mtX5_isWhole.1 ∈ gd_tbl ∧ Cond.selects mtX5_isWhole.1.cls mtX5_isWhole.1 mtX5_isWhole.1 ∈ gd_tbl := ⟨(inG (i := 366) (by decide +kernel) rfl), (inG (i := 1) (by decide +kernel) rfl)⟩
theorem vlX5_47 : mVl RX5 47 mtX5_isWhole 0 := ⟨(inG (i := 364) (by decide +kernel) rfl), ivX5_isWhole, clX5_isWhole⟩
theorem vlX5_50 : mVl RX5 50 mtX6_at 1 := ⟨(inG (i := 458) (by decide +kernel) rfl), ivX6_at, clX6_at⟩
theorem vlX5_54 : mVl RX5 54 mtX6_copies 1 := ⟨(inG (i := 586) (by decide +kernel) rfl), ivX6_copies, clX6_copies⟩
theorem clX5_writesBit : mCl mtX5_writesBit 1 := ⟨(inG (i := 452) (by decide +kernel) rfl), (inG (i := 45) (by decide +kernel) rfl), ⟨by decide +kernel, by decide +kernel, by decide +kernel⟩, by decide⟩
theorem ivX5_writesBit : Cond.instanceMethod mtX5_writesBit.1 ∈ gd_tbl ∧ Cond.selects mtX5_writesBit.1.cls mtX5_writesBit.1 mtX5_writesBit.1 ∈ gd_tbl := ⟨(inG (i := 451) (by decide +kernel) rfl), (inG (i := 4) (by decide +kernel) rfl)⟩
theorem vlX5_58 : mVl RX5 58 mtX5_writesBit 1 := ⟨(inG (i := 449) (by decide +kernel) rfl), ivX5_writesBit, clX5_writesBit⟩
theorem flX5_61 : mFl RX5 61 "LongestPast$Row" "size" "I" := Or.inr ⟨"LongestPast", (inN (i := 72) (by decide +kernel) rfl)⟩
theorem flX5_69 : mFl RX5 69 "LongestPast$Stage" "total" "I" := Or.inr ⟨"LongestPast", (inN (i := 184) (by decide +kernel) rfl)⟩
theorem vlX5_64 : mVl RX5 64 mtX7_choiceFor 1 := ⟨(inG (i := 429) (by decide +kernel) rfl), ivX7_choiceFor, clX7_choiceFor⟩
theorem clX7_choiceAt : mCl mtX7_choiceAt 1 := ⟨(inG (i := 433) (by decide +kernel) rfl), (inG (i := 46) (by decide +kernel) rfl), ⟨by decide +kernel, by decide +kernel, by decide +kernel⟩, by decide⟩
theorem ivX7_choiceAt : Cond.instanceMethod mtX7_choiceAt.1 ∈ gd_tbl ∧ Cond.selects mtX7_choiceAt.1.cls mtX7_choiceAt.1 mtX7_choiceAt.1 ∈ gd_tbl := ⟨(inG (i := 431) (by decide +kernel) rfl), (inG (i := 432) (by decide +kernel) rfl)⟩
theorem vlX5_72 : mVl RX5 72 mtX7_choiceAt 1 := ⟨(inG (i := 430) (by decide +kernel) rfl), ivX7_choiceAt, clX7_choiceAt⟩
theorem knX5_75 : Cond.constant RX5 75 (Int32.ofInt 32768) ∈ gd_tbl := (inG (i := 448) (by decide +kernel) rfl)
theorem knX5_79 : Cond.constant RX5 79 (Int32.ofInt 49152) ∈ gd_tbl := (inG (i := 459) (by decide +kernel) rfl)
theorem clX5_doubles : mCl mtX5_doubles 1 := ⟨(inG (i := 457) (by decide +kernel) rfl), (inG (i := 45) (by decide +kernel) rfl), ⟨by decide +kernel, by decide +kernel, by decide +kernel⟩, by decide⟩
theorem ivX5_doubles : Cond.instanceMethod mtX5_doubles.1 ∈ gd_tbl ∧ Cond.selects mtX5_doubles.1.cls mtX5_doubles.1 mtX5_doubles.1 ∈ gd_tbl := ⟨(inG (i := 456) (by decide +kernel) rfl), (inG (i := 5) (by decide +kernel) rfl)⟩
theorem vlX5_76 : mVl RX5 76 mtX5_doubles 1 := ⟨(inG (i := 454) (by decide +kernel) rfl), ivX5_doubles, clX5_doubles⟩
theorem vlX5_80 : mVl RX5 80 mtX6_puts 1 := ⟨(inG (i := 453) (by decide +kernel) rfl), ivX6_puts, clX6_puts⟩
theorem flX6_7 : mFl RX6 7 "LongestPast$Row" "size" "I" := Or.inl (inG (i := 69) (by decide +kernel) rfl)
theorem flX6_19 : mFl RX6 19 "LongestPast$Row" "items" "[I" := Or.inl (inG (i := 68) (by decide +kernel) rfl)
theorem mmX6_13 : mMl RX6 13 Lib.Math.max.name Lib.Math.max.code := ⟨(inG (i := 65) (by decide +kernel) rfl), (inG (i := 66) (by decide +kernel) rfl), (inG (i := 40) (by decide +kernel) rfl), (inG (i := 67) (by decide +kernel) rfl)⟩
theorem vlX6_23 : mVl RX6 23 mtX6_at 1 := ⟨(inG (i := 338) (by decide +kernel) rfl), ivX6_at, clX6_at⟩
theorem vlX6_27 : mVl RX6 27 mtX6_puts 1 := ⟨(inG (i := 342) (by decide +kernel) rfl), ivX6_puts, clX6_puts⟩
theorem flX7_9 : mFl RX7 9 "LongestPast$Stage" "widths" "[I" := Or.inl (inG (i := 181) (by decide +kernel) rfl)
theorem flX7_15 : mFl RX7 15 "LongestPast$Stage" "total" "I" := Or.inl (inG (i := 182) (by decide +kernel) rfl)
theorem flX7_19 : mFl RX7 19 "LongestPast$Stage" "shut" "I" := Or.inl (inG (i := 185) (by decide +kernel) rfl)
theorem flX7_22 : mFl RX7 22 "LongestPast$Stage" "open" "I" := Or.inl (inG (i := 186) (by decide +kernel) rfl)
theorem clX0_at : mCl mtX0_at 2 := ⟨(inG (i := 405) (by decide +kernel) rfl), (inG (i := 43) (by decide +kernel) rfl), ⟨by decide +kernel, by decide +kernel, by decide +kernel⟩, by decide⟩
theorem ivX0_at : Cond.instanceMethod mtX0_at.1 ∈ gd_tbl ∧ Cond.selects mtX0_at.1.cls mtX0_at.1 mtX0_at.1 ∈ gd_tbl := ⟨(inG (i := 403) (by decide +kernel) rfl), (inG (i := 404) (by decide +kernel) rfl)⟩
theorem vlX7_25 : mVl RX7 25 mtX0_at 2 := ⟨(inG (i := 402) (by decide +kernel) rfl), ivX0_at, clX0_at⟩
theorem clJ6_bitCount_0f7a4 : mCl mtJ6_bitCount_0f7a4 1 := ⟨(inG (i := 408) (by decide +kernel) rfl), (inG (i := 50) (by decide +kernel) rfl), ⟨by decide +kernel, by decide +kernel, by decide +kernel⟩, by decide⟩
theorem slX7_31 : mSl RX7 31 mtJ6_bitCount_0f7a4 1 := ⟨Or.inl (inG (i := 406) (by decide +kernel) rfl), (inG (i := 407) (by decide +kernel) rfl), clJ6_bitCount_0f7a4⟩
theorem vlX7_37 : mVl RX7 37 mtX7_width 1 := ⟨(inG (i := 422) (by decide +kernel) rfl), ivX7_width, clX7_width⟩
theorem flX9_14 : mFl RX9 14 "LongestPast" "letters" "LLongestPast$Row;" := Or.inl (inG (i := 266) (by decide +kernel) rfl)
theorem flX9_21 : mFl RX9 21 "LongestPast" "now" "LLongestPast$Packer;" := Or.inl (inG (i := 267) (by decide +kernel) rfl)
theorem flX9_25 : mFl RX9 25 "LongestPast" "trial" "LLongestPast$Packer;" := Or.inl (inG (i := 268) (by decide +kernel) rfl)
theorem flX9_31 : mFl RX9 31 "LongestPast" "odds" "LLongestPast$Odds;" := Or.inl (inG (i := 269) (by decide +kernel) rfl)
theorem flX9_38 : mFl RX9 38 "LongestPast" "history" "LLongestPast$History;" := Or.inl (inG (i := 270) (by decide +kernel) rfl)
theorem flX9_45 : mFl RX9 45 "LongestPast" "firstImage" "LLongestPast$Past;" := Or.inl (inG (i := 271) (by decide +kernel) rfl)
theorem flX9_49 : mFl RX9 49 "LongestPast" "secondImage" "LLongestPast$Past;" := Or.inl (inG (i := 272) (by decide +kernel) rfl)
theorem flX9_52 : mFl RX9 52 "LongestPast" "firstKept" "Z" := Or.inl (inG (i := 273) (by decide +kernel) rfl)
theorem flX9_56 : mFl RX9 56 "LongestPast" "secondKept" "Z" := Or.inl (inG (i := 274) (by decide +kernel) rfl)
theorem flX9_66 : mFl RX9 66 "LongestPast$Row" "size" "I" := Or.inr ⟨"LongestPast", (inN (i := 70) (by decide +kernel) rfl)⟩
theorem clX6_isFull : mCl mtX6_isFull 0 := ⟨(inG (i := 301) (by decide +kernel) rfl), (inG (i := 39) (by decide +kernel) rfl), ⟨by decide +kernel, by decide +kernel, by decide +kernel⟩, by decide⟩
theorem ivX6_isFull : Cond.instanceMethod mtX6_isFull.1 ∈ gd_tbl ∧ Cond.selects mtX6_isFull.1.cls mtX6_isFull.1 mtX6_isFull.1 ∈ gd_tbl := ⟨(inG (i := 299) (by decide +kernel) rfl), (inG (i := 300) (by decide +kernel) rfl)⟩
theorem vlX9_59 : mVl RX9 59 mtX6_isFull 0 := ⟨(inG (i := 298) (by decide +kernel) rfl), ivX6_isFull, clX6_isFull⟩
theorem vlX9_63 : mVl RX9 63 mtX6_puts 1 := ⟨(inG (i := 302) (by decide +kernel) rfl), ivX6_puts, clX6_puts⟩
theorem vlX9_70 : mVl RX9 70 mtX6_shortens 1 := ⟨(inG (i := 310) (by decide +kernel) rfl), ivX6_shortens, clX6_shortens⟩
theorem flX9_77 : mFl RX9 77 "LongestPast$Packer" "past" "LLongestPast$Past;" := Or.inr ⟨"LongestPast", (inN (i := 197) (by decide +kernel) rfl)⟩
theorem flX9_80 : mFl RX9 80 "LongestPast$Past" "signs" "LLongestPast$Row;" := Or.inr ⟨"LongestPast", (inN (i := 107) (by decide +kernel) rfl)⟩
theorem clX9_isWithin : mCl mtX9_isWithin 3 := ⟨(inG (i := 320) (by decide +kernel) rfl), (inG (i := 38) (by decide +kernel) rfl), ⟨by decide +kernel, by decide +kernel, by decide +kernel⟩, by decide⟩
theorem slX9_73 : mSl RX9 73 mtX9_isWithin 3 := ⟨Or.inl (inG (i := 318) (by decide +kernel) rfl), (inG (i := 319) (by decide +kernel) rfl), clX9_isWithin⟩
theorem clX1_remembers : mCl mtX1_remembers 1 := ⟨(inG (i := 324) (by decide +kernel) rfl), (inG (i := 48) (by decide +kernel) rfl), ⟨by decide +kernel, by decide +kernel, by decide +kernel⟩, by decide⟩
theorem ivX1_remembers : Cond.instanceMethod mtX1_remembers.1 ∈ gd_tbl ∧ Cond.selects mtX1_remembers.1.cls mtX1_remembers.1 mtX1_remembers.1 ∈ gd_tbl := ⟨(inG (i := 322) (by decide +kernel) rfl), (inG (i := 323) (by decide +kernel) rfl)⟩
theorem vlX9_83 : mVl RX9 83 mtX1_remembers 1 := ⟨(inG (i := 321) (by decide +kernel) rfl), ivX1_remembers, clX1_remembers⟩
theorem vlX9_87 : mVl RX9 87 mtX4_setsOut 4 := ⟨(inG (i := 346) (by decide +kernel) rfl), ivX4_setsOut, clX4_setsOut⟩
theorem clX3_repacks : mCl mtX3_repacks 0 := ⟨(inG (i := 350) (by decide +kernel) rfl), (inG (i := 41) (by decide +kernel) rfl), ⟨by decide +kernel, by decide +kernel, by decide +kernel⟩, by decide⟩
theorem ivX3_repacks : Cond.instanceMethod mtX3_repacks.1 ∈ gd_tbl ∧ Cond.selects mtX3_repacks.1.cls mtX3_repacks.1 mtX3_repacks.1 ∈ gd_tbl := ⟨(inG (i := 348) (by decide +kernel) rfl), (inG (i := 349) (by decide +kernel) rfl)⟩
theorem vlX9_91 : mVl RX9 91 mtX3_repacks 0 := ⟨(inG (i := 347) (by decide +kernel) rfl), ivX3_repacks, clX3_repacks⟩
theorem clX9_isSign : mCl mtX9_isSign 1 := ⟨(inG (i := 483) (by decide +kernel) rfl), (inG (i := 38) (by decide +kernel) rfl), ⟨by decide +kernel, by decide +kernel, by decide +kernel⟩, by decide⟩
theorem slX9_94 : mSl RX9 94 mtX9_isSign 1 := ⟨Or.inl (inG (i := 481) (by decide +kernel) rfl), (inG (i := 482) (by decide +kernel) rfl), clX9_isSign⟩
theorem vlX9_98 : mVl RX9 98 mtX3_packsNext 0 := ⟨(inG (i := 484) (by decide +kernel) rfl), ivX3_packsNext, clX3_packsNext⟩
theorem clX9_firstLetterOutside : mCl mtX9_firstLetterOutside 2 := ⟨(inG (i := 492) (by decide +kernel) rfl), (inG (i := 38) (by decide +kernel) rfl), ⟨by decide +kernel, by decide +kernel, by decide +kernel⟩, by decide⟩
theorem ivX9_firstLetterOutside : Cond.instanceMethod mtX9_firstLetterOutside.1 ∈ gd_tbl ∧ Cond.selects mtX9_firstLetterOutside.1.cls mtX9_firstLetterOutside.1 mtX9_firstLetterOutside.1 ∈ gd_tbl := ⟨(inG (i := 491) (by decide +kernel) rfl), (inG (i := 8) (by decide +kernel) rfl)⟩
theorem vlX9_102 : mVl RX9 102 mtX9_firstLetterOutside 2 := ⟨(inG (i := 489) (by decide +kernel) rfl), ivX9_firstLetterOutside, clX9_firstLetterOutside⟩
theorem vlX9_106 : mVl RX9 106 mtX6_at 1 := ⟨(inG (i := 493) (by decide +kernel) rfl), ivX6_at, clX6_at⟩
theorem flX9_110 : mFl RX9 110 "LongestPast$History" "known" "I" := Or.inr ⟨"LongestPast", (inN (i := 256) (by decide +kernel) rfl)⟩
theorem clX1_recalls : mCl mtX1_recalls 1 := ⟨(inG (i := 505) (by decide +kernel) rfl), (inG (i := 48) (by decide +kernel) rfl), ⟨by decide +kernel, by decide +kernel, by decide +kernel⟩, by decide⟩
theorem ivX1_recalls : Cond.instanceMethod mtX1_recalls.1 ∈ gd_tbl ∧ Cond.selects mtX1_recalls.1.cls mtX1_recalls.1 mtX1_recalls.1 ∈ gd_tbl := ⟨(inG (i := 503) (by decide +kernel) rfl), (inG (i := 504) (by decide +kernel) rfl)⟩
theorem vlX9_113 : mVl RX9 113 mtX1_recalls 1 := ⟨(inG (i := 502) (by decide +kernel) rfl), ivX1_recalls, clX1_recalls⟩
theorem flX9_116 : mFl RX9 116 "LongestPast$Past" "order" "I" := Or.inr ⟨"LongestPast", (inN (i := 95) (by decide +kernel) rfl)⟩
theorem flX9_126 : mFl RX9 126 "LongestPast$Packer" "contexts" "LLongestPast$Contexts;" := Or.inr ⟨"LongestPast", (inN (i := 199) (by decide +kernel) rfl)⟩
theorem clX9_isContextSign : mCl mtX9_isContextSign 2 := ⟨(inG (i := 516) (by decide +kernel) rfl), (inG (i := 38) (by decide +kernel) rfl), ⟨by decide +kernel, by decide +kernel, by decide +kernel⟩, by decide⟩
theorem slX9_119 : mSl RX9 119 mtX9_isContextSign 2 := ⟨Or.inl (inG (i := 514) (by decide +kernel) rfl), (inG (i := 515) (by decide +kernel) rfl), clX9_isContextSign⟩
theorem slX9_123 : mSl RX9 123 mtX9_longerContext 2 := ⟨Or.inl (inG (i := 517) (by decide +kernel) rfl), (inG (i := 396) (by decide +kernel) rfl), clX9_longerContext⟩
theorem vlX9_130 : mVl RX9 130 mtX0_at 2 := ⟨(inG (i := 518) (by decide +kernel) rfl), ivX0_at, clX0_at⟩
theorem flX9_134 : mFl RX9 134 "LongestPast$Packer" "range" "LLongestPast$Range;" := Or.inr ⟨"LongestPast", (inN (i := 201) (by decide +kernel) rfl)⟩
theorem flX9_138 : mFl RX9 138 "LongestPast$Range" "bits" "LLongestPast$Row;" := Or.inr ⟨"LongestPast", (inN (i := 147) (by decide +kernel) rfl)⟩
theorem flX9_147 : mFl RX9 147 "LongestPast$Odds" "upper" "J" := Or.inr ⟨"LongestPast", (inN (i := 232) (by decide +kernel) rfl)⟩
theorem flX9_151 : mFl RX9 151 "LongestPast$Odds" "lower" "J" := Or.inr ⟨"LongestPast", (inN (i := 234) (by decide +kernel) rfl)⟩
theorem clX3_weighs : mCl mtX3_weighs 2 := ⟨(inG (i := 530) (by decide +kernel) rfl), (inG (i := 41) (by decide +kernel) rfl), ⟨by decide +kernel, by decide +kernel, by decide +kernel⟩, by decide⟩
theorem ivX3_weighs : Cond.instanceMethod mtX3_weighs.1 ∈ gd_tbl ∧ Cond.selects mtX3_weighs.1.cls mtX3_weighs.1 mtX3_weighs.1 ∈ gd_tbl := ⟨(inG (i := 528) (by decide +kernel) rfl), (inG (i := 529) (by decide +kernel) rfl)⟩
theorem vlX9_143 : mVl RX9 143 mtX3_weighs 2 := ⟨(inG (i := 527) (by decide +kernel) rfl), ivX3_weighs, clX3_weighs⟩
theorem clX2_inLeastTerms : mCl mtX2_inLeastTerms 1 := ⟨(inG (i := 538) (by decide +kernel) rfl), (inG (i := 47) (by decide +kernel) rfl), ⟨by decide +kernel, by decide +kernel, by decide +kernel⟩, by decide⟩
theorem ivX2_inLeastTerms : Cond.instanceMethod mtX2_inLeastTerms.1 ∈ gd_tbl ∧ Cond.selects mtX2_inLeastTerms.1.cls mtX2_inLeastTerms.1 mtX2_inLeastTerms.1 ∈ gd_tbl := ⟨(inG (i := 536) (by decide +kernel) rfl), (inG (i := 537) (by decide +kernel) rfl)⟩
theorem vlX9_154 : mVl RX9 154 mtX2_inLeastTerms 1 := ⟨(inG (i := 535) (by decide +kernel) rfl), ivX2_inLeastTerms, clX2_inLeastTerms⟩
theorem flX9_158 : mFl RX9 158 "LongestPast$Odds" "escaped" "I" := Or.inr ⟨"LongestPast", (inN (i := 230) (by decide +kernel) rfl)⟩
theorem clX5_endedSize : mCl mtX5_endedSize 0 := ⟨(inG (i := 554) (by decide +kernel) rfl), (inG (i := 45) (by decide +kernel) rfl), ⟨by decide +kernel, by decide +kernel, by decide +kernel⟩, by decide⟩
theorem ivX5_endedSize : Cond.instanceMethod mtX5_endedSize.1 ∈ gd_tbl ∧ Cond.selects mtX5_endedSize.1.cls mtX5_endedSize.1 mtX5_endedSize.1 ∈ gd_tbl := ⟨(inG (i := 552) (by decide +kernel) rfl), (inG (i := 553) (by decide +kernel) rfl)⟩
theorem vlX9_161 : mVl RX9 161 mtX5_endedSize 0 := ⟨(inG (i := 551) (by decide +kernel) rfl), ivX5_endedSize, clX5_endedSize⟩
theorem vlX9_164 : mVl RX9 164 mtX4_becomes 1 := ⟨(inG (i := 559) (by decide +kernel) rfl), ivX4_becomes, clX4_becomes⟩
theorem clX3_startsLike : mCl mtX3_startsLike 1 := ⟨(inG (i := 567) (by decide +kernel) rfl), (inG (i := 41) (by decide +kernel) rfl), ⟨by decide +kernel, by decide +kernel, by decide +kernel⟩, by decide⟩
theorem ivX3_startsLike : Cond.instanceMethod mtX3_startsLike.1 ∈ gd_tbl ∧ Cond.selects mtX3_startsLike.1.cls mtX3_startsLike.1 mtX3_startsLike.1 ∈ gd_tbl := ⟨(inG (i := 565) (by decide +kernel) rfl), (inG (i := 566) (by decide +kernel) rfl)⟩
theorem vlX9_167 : mVl RX9 167 mtX3_startsLike 1 := ⟨(inG (i := 564) (by decide +kernel) rfl), ivX3_startsLike, clX3_startsLike⟩
theorem clX5_startsReading : mCl mtX5_startsReading 0 := ⟨(inG (i := 572) (by decide +kernel) rfl), (inG (i := 45) (by decide +kernel) rfl), ⟨by decide +kernel, by decide +kernel, by decide +kernel⟩, by decide⟩
theorem ivX5_startsReading : Cond.instanceMethod mtX5_startsReading.1 ∈ gd_tbl ∧ Cond.selects mtX5_startsReading.1.cls mtX5_startsReading.1 mtX5_startsReading.1 ∈ gd_tbl := ⟨(inG (i := 570) (by decide +kernel) rfl), (inG (i := 571) (by decide +kernel) rfl)⟩
theorem vlX9_170 : mVl RX9 170 mtX5_startsReading 0 := ⟨(inG (i := 569) (by decide +kernel) rfl), ivX5_startsReading, clX5_startsReading⟩
theorem clX3_readsNext : mCl mtX3_readsNext 0 := ⟨(inG (i := 576) (by decide +kernel) rfl), (inG (i := 41) (by decide +kernel) rfl), ⟨by decide +kernel, by decide +kernel, by decide +kernel⟩, by decide⟩
theorem ivX3_readsNext : Cond.instanceMethod mtX3_readsNext.1 ∈ gd_tbl ∧ Cond.selects mtX3_readsNext.1.cls mtX3_readsNext.1 mtX3_readsNext.1 ∈ gd_tbl := ⟨(inG (i := 574) (by decide +kernel) rfl), (inG (i := 575) (by decide +kernel) rfl)⟩
theorem vlX9_173 : mVl RX9 173 mtX3_readsNext 0 := ⟨(inG (i := 573) (by decide +kernel) rfl), ivX3_readsNext, clX3_readsNext⟩
theorem clX5_endsLike : mCl mtX5_endsLike 1 := ⟨(inG (i := 585) (by decide +kernel) rfl), (inG (i := 45) (by decide +kernel) rfl), ⟨by decide +kernel, by decide +kernel, by decide +kernel⟩, by decide⟩
theorem ivX5_endsLike : Cond.instanceMethod mtX5_endsLike.1 ∈ gd_tbl ∧ Cond.selects mtX5_endsLike.1.cls mtX5_endsLike.1 mtX5_endsLike.1 ∈ gd_tbl := ⟨(inG (i := 583) (by decide +kernel) rfl), (inG (i := 584) (by decide +kernel) rfl)⟩
theorem vlX9_176 : mVl RX9 176 mtX5_endsLike 1 := ⟨(inG (i := 582) (by decide +kernel) rfl), ivX5_endsLike, clX5_endsLike⟩
theorem clX1_losesAll : mCl mtX1_losesAll 0 := ⟨(inG (i := 598) (by decide +kernel) rfl), (inG (i := 48) (by decide +kernel) rfl), ⟨by decide +kernel, by decide +kernel, by decide +kernel⟩, by decide⟩
theorem ivX1_losesAll : Cond.instanceMethod mtX1_losesAll.1 ∈ gd_tbl ∧ Cond.selects mtX1_losesAll.1.cls mtX1_losesAll.1 mtX1_losesAll.1 ∈ gd_tbl := ⟨(inG (i := 596) (by decide +kernel) rfl), (inG (i := 597) (by decide +kernel) rfl)⟩
theorem vlX9_180 : mVl RX9 180 mtX1_losesAll 0 := ⟨(inG (i := 595) (by decide +kernel) rfl), ivX1_losesAll, clX1_losesAll⟩
theorem flX9_183 : mFl RX9 183 "LongestPast$Contexts" "there" "I" := Or.inr ⟨"LongestPast", (inN (i := 128) (by decide +kernel) rfl)⟩
theorem flX9_186 : mFl RX9 186 "LongestPast$Packer" "forgotten" "I" := Or.inr ⟨"LongestPast", (inN (i := 205) (by decide +kernel) rfl)⟩
theorem flX9_189 : mFl RX9 189 "LongestPast$Range" "owed" "I" := Or.inr ⟨"LongestPast", (inN (i := 153) (by decide +kernel) rfl)⟩
theorem flX9_192 : mFl RX9 192 "LongestPast$Range" "low" "I" := Or.inr ⟨"LongestPast", (inN (i := 149) (by decide +kernel) rfl)⟩
theorem flX9_195 : mFl RX9 195 "LongestPast$Range" "high" "I" := Or.inr ⟨"LongestPast", (inN (i := 151) (by decide +kernel) rfl)⟩
theorem flX9_198 : mFl RX9 198 "LongestPast$Past" "limit" "I" := Or.inr ⟨"LongestPast", (inN (i := 98) (by decide +kernel) rfl)⟩
theorem flX9_201 : mFl RX9 201 "LongestPast$Past" "room" "I" := Or.inr ⟨"LongestPast", (inN (i := 101) (by decide +kernel) rfl)⟩
theorem flX9_204 : mFl RX9 204 "LongestPast$Past" "tail" "I" := Or.inr ⟨"LongestPast", (inN (i := 104) (by decide +kernel) rfl)⟩
theorem flX10_7 : mFl RX10 7 "LongestPastModel" "now" "[I" := Or.inl (inG (i := 613) (by decide +kernel) rfl)
theorem flX10_13 : mFl RX10 13 "LongestPastModel" "past" "[I" := Or.inl (inG (i := 614) (by decide +kernel) rfl)
theorem flX10_16 : mFl RX10 16 "LongestPastModel" "images" "[I" := Or.inl (inG (i := 616) (by decide +kernel) rfl)
theorem flX10_19 : mFl RX10 19 "LongestPastModel" "isKept" "[Z" := Or.inl (inG (i := 617) (by decide +kernel) rfl)
theorem flX10_23 : mFl RX10 23 "LongestPastModel" "text" "[I" := Or.inl (inG (i := 618) (by decide +kernel) rfl)
theorem flX10_26 : mFl RX10 26 "LongestPastModel" "run" "[I" := Or.inl (inG (i := 621) (by decide +kernel) rfl)
theorem flX10_29 : mFl RX10 29 "LongestPastModel" "counts" "[I" := Or.inl (inG (i := 623) (by decide +kernel) rfl)
theorem flX10_32 : mFl RX10 32 "LongestPastModel" "bits" "[I" := Or.inl (inG (i := 628) (by decide +kernel) rfl)
theorem flX10_35 : mFl RX10 35 "LongestPastModel" "source" "[I" := Or.inl (inG (i := 631) (by decide +kernel) rfl)
theorem clX10_lays : mCl mtX10_lays 4 := ⟨(inG (i := 612) (by decide +kernel) rfl), (inG (i := 49) (by decide +kernel) rfl), ⟨by decide +kernel, by decide +kernel, by decide +kernel⟩, by decide⟩
theorem ivX10_lays : Cond.instanceMethod mtX10_lays.1 ∈ gd_tbl ∧ Cond.selects mtX10_lays.1.cls mtX10_lays.1 mtX10_lays.1 ∈ gd_tbl := ⟨(inG (i := 611) (by decide +kernel) rfl), (inG (i := 9) (by decide +kernel) rfl)⟩
theorem vlX10_38 : mVl RX10 38 mtX10_lays 4 := ⟨(inG (i := 609) (by decide +kernel) rfl), ivX10_lays, clX10_lays⟩
theorem flX10_42 : mFl RX10 42 "LongestPastModel" "order" "I" := Or.inl (inG (i := 620) (by decide +kernel) rfl)
theorem flX10_46 : mFl RX10 46 "LongestPastModel" "mode" "I" := Or.inl (inG (i := 630) (by decide +kernel) rfl)
theorem flX10_49 : mFl RX10 49 "LongestPastModel" "many" "I" := Or.inl (inG (i := 622) (by decide +kernel) rfl)
theorem flX10_52 : mFl RX10 52 "LongestPastModel" "forgotten" "I" := Or.inl (inG (i := 624) (by decide +kernel) rfl)
theorem flX10_55 : mFl RX10 55 "LongestPastModel" "low" "I" := Or.inl (inG (i := 625) (by decide +kernel) rfl)
theorem knX10_58 : Cond.constant RX10 58 (Int32.ofInt 65535) ∈ gd_tbl := (inG (i := 732) (by decide +kernel) rfl)
theorem flX10_59 : mFl RX10 59 "LongestPastModel" "high" "I" := Or.inl (inG (i := 626) (by decide +kernel) rfl)
theorem flX10_62 : mFl RX10 62 "LongestPastModel" "owed" "I" := Or.inl (inG (i := 627) (by decide +kernel) rfl)
theorem flX10_65 : mFl RX10 65 "LongestPastModel" "bitMany" "I" := Or.inl (inG (i := 629) (by decide +kernel) rfl)
theorem flX10_68 : mFl RX10 68 "LongestPastModel" "sourceAt" "I" := Or.inl (inG (i := 633) (by decide +kernel) rfl)
theorem flX10_71 : mFl RX10 71 "LongestPastModel" "value" "I" := Or.inl (inG (i := 634) (by decide +kernel) rfl)
theorem clX10_clears : mCl mtX10_clears 0 := ⟨(inG (i := 736) (by decide +kernel) rfl), (inG (i := 49) (by decide +kernel) rfl), ⟨by decide +kernel, by decide +kernel, by decide +kernel⟩, by decide⟩
theorem ivX10_clears : Cond.instanceMethod mtX10_clears.1 ∈ gd_tbl ∧ Cond.selects mtX10_clears.1.cls mtX10_clears.1 mtX10_clears.1 ∈ gd_tbl := ⟨(inG (i := 735) (by decide +kernel) rfl), (inG (i := 15) (by decide +kernel) rfl)⟩
theorem vlX10_74 : mVl RX10 74 mtX10_clears 0 := ⟨(inG (i := 733) (by decide +kernel) rfl), ivX10_clears, clX10_clears⟩
theorem clX10_nextBit : mCl mtX10_nextBit 0 := ⟨(inG (i := 740) (by decide +kernel) rfl), (inG (i := 49) (by decide +kernel) rfl), ⟨by decide +kernel, by decide +kernel, by decide +kernel⟩, by decide⟩
theorem ivX10_nextBit : Cond.instanceMethod mtX10_nextBit.1 ∈ gd_tbl ∧ Cond.selects mtX10_nextBit.1.cls mtX10_nextBit.1 mtX10_nextBit.1 ∈ gd_tbl := ⟨(inG (i := 739) (by decide +kernel) rfl), (inG (i := 16) (by decide +kernel) rfl)⟩
theorem vlX10_77 : mVl RX10 77 mtX10_nextBit 0 := ⟨(inG (i := 737) (by decide +kernel) rfl), ivX10_nextBit, clX10_nextBit⟩
theorem flX10_81 : mFl RX10 81 "LongestPastModel" "sourceMany" "I" := Or.inl (inG (i := 632) (by decide +kernel) rfl)
theorem knX10_84 : Cond.constant RX10 84 (Int32.ofInt 32768) ∈ gd_tbl := (inG (i := 782) (by decide +kernel) rfl)
theorem knX10_85 : Cond.constant RX10 85 (Int32.ofInt 49152) ∈ gd_tbl := (inG (i := 783) (by decide +kernel) rfl)
theorem clX10_puts : mCl mtX10_puts 1 := ⟨(inG (i := 787) (by decide +kernel) rfl), (inG (i := 49) (by decide +kernel) rfl), ⟨by decide +kernel, by decide +kernel, by decide +kernel⟩, by decide⟩
theorem ivX10_puts : Cond.instanceMethod mtX10_puts.1 ∈ gd_tbl ∧ Cond.selects mtX10_puts.1.cls mtX10_puts.1 mtX10_puts.1 ∈ gd_tbl := ⟨(inG (i := 786) (by decide +kernel) rfl), (inG (i := 25) (by decide +kernel) rfl)⟩
theorem vlX10_86 : mVl RX10 86 mtX10_puts 1 := ⟨(inG (i := 784) (by decide +kernel) rfl), ivX10_puts, clX10_puts⟩
theorem flX10_90 : mFl RX10 90 "LongestPastModel" "upper" "J" := Or.inl (inG (i := 635) (by decide +kernel) rfl)
theorem flX10_94 : mFl RX10 94 "LongestPastModel" "lower" "J" := Or.inl (inG (i := 636) (by decide +kernel) rfl)
theorem clX10_widens : mCl mtX10_widens 0 := ⟨(inG (i := 781) (by decide +kernel) rfl), (inG (i := 49) (by decide +kernel) rfl), ⟨by decide +kernel, by decide +kernel, by decide +kernel⟩, by decide⟩
theorem ivX10_widens : Cond.instanceMethod mtX10_widens.1 ∈ gd_tbl ∧ Cond.selects mtX10_widens.1.cls mtX10_widens.1 mtX10_widens.1 ∈ gd_tbl := ⟨(inG (i := 780) (by decide +kernel) rfl), (inG (i := 24) (by decide +kernel) rfl)⟩
theorem vlX10_97 : mVl RX10 97 mtX10_widens 0 := ⟨(inG (i := 778) (by decide +kernel) rfl), ivX10_widens, clX10_widens⟩
theorem clX10_has : mCl mtX10_has 2 := ⟨(inG (i := 758) (by decide +kernel) rfl), (inG (i := 49) (by decide +kernel) rfl), ⟨by decide +kernel, by decide +kernel, by decide +kernel⟩, by decide⟩
theorem slX10_101 : mSl RX10 101 mtX10_has 2 := ⟨Or.inl (inG (i := 756) (by decide +kernel) rfl), (inG (i := 757) (by decide +kernel) rfl), clX10_has⟩
theorem clX10_sum : mCl mtX10_sum 3 := ⟨(inG (i := 765) (by decide +kernel) rfl), (inG (i := 49) (by decide +kernel) rfl), ⟨by decide +kernel, by decide +kernel, by decide +kernel⟩, by decide⟩
theorem ivX10_sum : Cond.instanceMethod mtX10_sum.1 ∈ gd_tbl ∧ Cond.selects mtX10_sum.1.cls mtX10_sum.1 mtX10_sum.1 ∈ gd_tbl := ⟨(inG (i := 764) (by decide +kernel) rfl), (inG (i := 20) (by decide +kernel) rfl)⟩
theorem vlX10_105 : mVl RX10 105 mtX10_sum 3 := ⟨(inG (i := 762) (by decide +kernel) rfl), ivX10_sum, clX10_sum⟩
theorem flX10_120 : mFl RX10 120 "LongestPastModel" "found" "I" := Or.inl (inG (i := 637) (by decide +kernel) rfl)
theorem clX10_ones : mCl mtX10_ones 1 := ⟨(inG (i := 761) (by decide +kernel) rfl), (inG (i := 49) (by decide +kernel) rfl), ⟨by decide +kernel, by decide +kernel, by decide +kernel⟩, by decide⟩
theorem slX10_109 : mSl RX10 109 mtX10_ones 1 := ⟨Or.inl (inG (i := 759) (by decide +kernel) rfl), (inG (i := 760) (by decide +kernel) rfl), clX10_ones⟩
theorem clX10_lies : mCl mtX10_lies 1 := ⟨(inG (i := 769) (by decide +kernel) rfl), (inG (i := 49) (by decide +kernel) rfl), ⟨by decide +kernel, by decide +kernel, by decide +kernel⟩, by decide⟩
theorem ivX10_lies : Cond.instanceMethod mtX10_lies.1 ∈ gd_tbl ∧ Cond.selects mtX10_lies.1.cls mtX10_lies.1 mtX10_lies.1 ∈ gd_tbl := ⟨(inG (i := 768) (by decide +kernel) rfl), (inG (i := 21) (by decide +kernel) rfl)⟩
theorem vlX10_113 : mVl RX10 113 mtX10_lies 1 := ⟨(inG (i := 766) (by decide +kernel) rfl), ivX10_lies, clX10_lies⟩
theorem clX10_part : mCl mtX10_part 3 := ⟨(inG (i := 777) (by decide +kernel) rfl), (inG (i := 49) (by decide +kernel) rfl), ⟨by decide +kernel, by decide +kernel, by decide +kernel⟩, by decide⟩
theorem ivX10_part : Cond.instanceMethod mtX10_part.1 ∈ gd_tbl ∧ Cond.selects mtX10_part.1.cls mtX10_part.1 mtX10_part.1 ∈ gd_tbl := ⟨(inG (i := 776) (by decide +kernel) rfl), (inG (i := 23) (by decide +kernel) rfl)⟩
theorem vlX10_116 : mVl RX10 116 mtX10_part 3 := ⟨(inG (i := 774) (by decide +kernel) rfl), ivX10_part, clX10_part⟩
theorem flX10_123 : mFl RX10 123 "LongestPastModel" "escaped" "I" := Or.inl (inG (i := 638) (by decide +kernel) rfl)
theorem clX10_lesser : mCl mtX10_lesser 2 := ⟨(inG (i := 747) (by decide +kernel) rfl), (inG (i := 49) (by decide +kernel) rfl), ⟨by decide +kernel, by decide +kernel, by decide +kernel⟩, by decide⟩
theorem slX10_126 : mSl RX10 126 mtX10_lesser 2 := ⟨Or.inl (inG (i := 745) (by decide +kernel) rfl), (inG (i := 746) (by decide +kernel) rfl), clX10_lesser⟩
theorem clX10_context : mCl mtX10_context 2 := ⟨(inG (i := 751) (by decide +kernel) rfl), (inG (i := 49) (by decide +kernel) rfl), ⟨by decide +kernel, by decide +kernel, by decide +kernel⟩, by decide⟩
theorem ivX10_context : Cond.instanceMethod mtX10_context.1 ∈ gd_tbl ∧ Cond.selects mtX10_context.1.cls mtX10_context.1 mtX10_context.1 ∈ gd_tbl := ⟨(inG (i := 750) (by decide +kernel) rfl), (inG (i := 18) (by decide +kernel) rfl)⟩
theorem vlX10_130 : mVl RX10 130 mtX10_context 2 := ⟨(inG (i := 748) (by decide +kernel) rfl), ivX10_context, clX10_context⟩
theorem clX10_openAt : mCl mtX10_openAt 2 := ⟨(inG (i := 755) (by decide +kernel) rfl), (inG (i := 49) (by decide +kernel) rfl), ⟨by decide +kernel, by decide +kernel, by decide +kernel⟩, by decide⟩
theorem ivX10_openAt : Cond.instanceMethod mtX10_openAt.1 ∈ gd_tbl ∧ Cond.selects mtX10_openAt.1.cls mtX10_openAt.1 mtX10_openAt.1 ∈ gd_tbl := ⟨(inG (i := 754) (by decide +kernel) rfl), (inG (i := 19) (by decide +kernel) rfl)⟩
theorem vlX10_133 : mVl RX10 133 mtX10_openAt 2 := ⟨(inG (i := 752) (by decide +kernel) rfl), ivX10_openAt, clX10_openAt⟩
theorem clX10_signAt : mCl mtX10_signAt 3 := ⟨(inG (i := 773) (by decide +kernel) rfl), (inG (i := 49) (by decide +kernel) rfl), ⟨by decide +kernel, by decide +kernel, by decide +kernel⟩, by decide⟩
theorem ivX10_signAt : Cond.instanceMethod mtX10_signAt.1 ∈ gd_tbl ∧ Cond.selects mtX10_signAt.1.cls mtX10_signAt.1 mtX10_signAt.1 ∈ gd_tbl := ⟨(inG (i := 772) (by decide +kernel) rfl), (inG (i := 22) (by decide +kernel) rfl)⟩
theorem vlX10_136 : mVl RX10 136 mtX10_signAt 3 := ⟨(inG (i := 770) (by decide +kernel) rfl), ivX10_signAt, clX10_signAt⟩
theorem clX10_plain : mCl mtX10_plain 2 := ⟨(inG (i := 791) (by decide +kernel) rfl), (inG (i := 49) (by decide +kernel) rfl), ⟨by decide +kernel, by decide +kernel, by decide +kernel⟩, by decide⟩
theorem ivX10_plain : Cond.instanceMethod mtX10_plain.1 ∈ gd_tbl ∧ Cond.selects mtX10_plain.1.cls mtX10_plain.1 mtX10_plain.1 ∈ gd_tbl := ⟨(inG (i := 790) (by decide +kernel) rfl), (inG (i := 26) (by decide +kernel) rfl)⟩
theorem vlX10_139 : mVl RX10 139 mtX10_plain 2 := ⟨(inG (i := 788) (by decide +kernel) rfl), ivX10_plain, clX10_plain⟩
theorem clX10_adds : mCl mtX10_adds 2 := ⟨(inG (i := 799) (by decide +kernel) rfl), (inG (i := 49) (by decide +kernel) rfl), ⟨by decide +kernel, by decide +kernel, by decide +kernel⟩, by decide⟩
theorem ivX10_adds : Cond.instanceMethod mtX10_adds.1 ∈ gd_tbl ∧ Cond.selects mtX10_adds.1.cls mtX10_adds.1 mtX10_adds.1 ∈ gd_tbl := ⟨(inG (i := 798) (by decide +kernel) rfl), (inG (i := 28) (by decide +kernel) rfl)⟩
theorem vlX10_142 : mVl RX10 142 mtX10_adds 2 := ⟨(inG (i := 796) (by decide +kernel) rfl), ivX10_adds, clX10_adds⟩
theorem clX10_there : mCl mtX10_there 0 := ⟨(inG (i := 803) (by decide +kernel) rfl), (inG (i := 49) (by decide +kernel) rfl), ⟨by decide +kernel, by decide +kernel, by decide +kernel⟩, by decide⟩
theorem ivX10_there : Cond.instanceMethod mtX10_there.1 ∈ gd_tbl ∧ Cond.selects mtX10_there.1.cls mtX10_there.1 mtX10_there.1 ∈ gd_tbl := ⟨(inG (i := 802) (by decide +kernel) rfl), (inG (i := 29) (by decide +kernel) rfl)⟩
theorem vlX10_146 : mVl RX10 146 mtX10_there 0 := ⟨(inG (i := 800) (by decide +kernel) rfl), ivX10_there, clX10_there⟩
theorem clX10_forgets : mCl mtX10_forgets 0 := ⟨(inG (i := 807) (by decide +kernel) rfl), (inG (i := 49) (by decide +kernel) rfl), ⟨by decide +kernel, by decide +kernel, by decide +kernel⟩, by decide⟩
theorem ivX10_forgets : Cond.instanceMethod mtX10_forgets.1 ∈ gd_tbl ∧ Cond.selects mtX10_forgets.1.cls mtX10_forgets.1 mtX10_forgets.1 ∈ gd_tbl := ⟨(inG (i := 806) (by decide +kernel) rfl), (inG (i := 30) (by decide +kernel) rfl)⟩
theorem vlX10_149 : mVl RX10 149 mtX10_forgets 0 := ⟨(inG (i := 804) (by decide +kernel) rfl), ivX10_forgets, clX10_forgets⟩
theorem clX10_starts : mCl mtX10_starts 2 := ⟨(inG (i := 731) (by decide +kernel) rfl), (inG (i := 49) (by decide +kernel) rfl), ⟨by decide +kernel, by decide +kernel, by decide +kernel⟩, by decide⟩
theorem ivX10_starts : Cond.instanceMethod mtX10_starts.1 ∈ gd_tbl ∧ Cond.selects mtX10_starts.1.cls mtX10_starts.1 mtX10_starts.1 ∈ gd_tbl := ⟨(inG (i := 730) (by decide +kernel) rfl), (inG (i := 14) (by decide +kernel) rfl)⟩
theorem vlX10_152 : mVl RX10 152 mtX10_starts 2 := ⟨(inG (i := 728) (by decide +kernel) rfl), ivX10_starts, clX10_starts⟩
theorem clX10_goes : mCl mtX10_goes 1 := ⟨(inG (i := 744) (by decide +kernel) rfl), (inG (i := 49) (by decide +kernel) rfl), ⟨by decide +kernel, by decide +kernel, by decide +kernel⟩, by decide⟩
theorem ivX10_goes : Cond.instanceMethod mtX10_goes.1 ∈ gd_tbl ∧ Cond.selects mtX10_goes.1.cls mtX10_goes.1 mtX10_goes.1 ∈ gd_tbl := ⟨(inG (i := 743) (by decide +kernel) rfl), (inG (i := 17) (by decide +kernel) rfl)⟩
theorem vlX10_155 : mVl RX10 155 mtX10_goes 1 := ⟨(inG (i := 741) (by decide +kernel) rfl), ivX10_goes, clX10_goes⟩
theorem clX10_learns : mCl mtX10_learns 1 := ⟨(inG (i := 795) (by decide +kernel) rfl), (inG (i := 49) (by decide +kernel) rfl), ⟨by decide +kernel, by decide +kernel, by decide +kernel⟩, by decide⟩
theorem ivX10_learns : Cond.instanceMethod mtX10_learns.1 ∈ gd_tbl ∧ Cond.selects mtX10_learns.1.cls mtX10_learns.1 mtX10_learns.1 ∈ gd_tbl := ⟨(inG (i := 794) (by decide +kernel) rfl), (inG (i := 27) (by decide +kernel) rfl)⟩
theorem vlX10_158 : mVl RX10 158 mtX10_learns 1 := ⟨(inG (i := 792) (by decide +kernel) rfl), ivX10_learns, clX10_learns⟩
theorem clX10_packsAll : mCl mtX10_packsAll 1 := ⟨(inG (i := 727) (by decide +kernel) rfl), (inG (i := 49) (by decide +kernel) rfl), ⟨by decide +kernel, by decide +kernel, by decide +kernel⟩, by decide⟩
theorem ivX10_packsAll : Cond.instanceMethod mtX10_packsAll.1 ∈ gd_tbl ∧ Cond.selects mtX10_packsAll.1.cls mtX10_packsAll.1 mtX10_packsAll.1 ∈ gd_tbl := ⟨(inG (i := 726) (by decide +kernel) rfl), (inG (i := 13) (by decide +kernel) rfl)⟩
theorem vlX10_161 : mVl RX10 161 mtX10_packsAll 1 := ⟨(inG (i := 724) (by decide +kernel) rfl), ivX10_packsAll, clX10_packsAll⟩
theorem flX10_168 : mFl RX10 168 "LongestPastModel" "letters" "I" := Or.inl (inG (i := 619) (by decide +kernel) rfl)
theorem clX10_within : mCl mtX10_within 3 := ⟨(inG (i := 699) (by decide +kernel) rfl), (inG (i := 49) (by decide +kernel) rfl), ⟨by decide +kernel, by decide +kernel, by decide +kernel⟩, by decide⟩
theorem slX10_164 : mSl RX10 164 mtX10_within 3 := ⟨Or.inl (inG (i := 697) (by decide +kernel) rfl), (inG (i := 698) (by decide +kernel) rfl), clX10_within⟩
theorem flX10_171 : mFl RX10 171 "LongestPastModel" "undos" "I" := Or.inl (inG (i := 615) (by decide +kernel) rfl)
theorem clX10_keeps : mCl mtX10_keeps 0 := ⟨(inG (i := 711) (by decide +kernel) rfl), (inG (i := 49) (by decide +kernel) rfl), ⟨by decide +kernel, by decide +kernel, by decide +kernel⟩, by decide⟩
theorem ivX10_keeps : Cond.instanceMethod mtX10_keeps.1 ∈ gd_tbl ∧ Cond.selects mtX10_keeps.1.cls mtX10_keeps.1 mtX10_keeps.1 ∈ gd_tbl := ⟨(inG (i := 710) (by decide +kernel) rfl), (inG (i := 10) (by decide +kernel) rfl)⟩
theorem vlX10_174 : mVl RX10 174 mtX10_keeps 0 := ⟨(inG (i := 708) (by decide +kernel) rfl), ivX10_keeps, clX10_keeps⟩
theorem clX10_appends : mCl mtX10_appends 1 := ⟨(inG (i := 719) (by decide +kernel) rfl), (inG (i := 49) (by decide +kernel) rfl), ⟨by decide +kernel, by decide +kernel, by decide +kernel⟩, by decide⟩
theorem ivX10_appends : Cond.instanceMethod mtX10_appends.1 ∈ gd_tbl ∧ Cond.selects mtX10_appends.1.cls mtX10_appends.1 mtX10_appends.1 ∈ gd_tbl := ⟨(inG (i := 718) (by decide +kernel) rfl), (inG (i := 11) (by decide +kernel) rfl)⟩
theorem vlX10_177 : mVl RX10 177 mtX10_appends 1 := ⟨(inG (i := 716) (by decide +kernel) rfl), ivX10_appends, clX10_appends⟩
theorem clX10_packsNow : mCl mtX10_packsNow 0 := ⟨(inG (i := 723) (by decide +kernel) rfl), (inG (i := 49) (by decide +kernel) rfl), ⟨by decide +kernel, by decide +kernel, by decide +kernel⟩, by decide⟩
theorem ivX10_packsNow : Cond.instanceMethod mtX10_packsNow.1 ∈ gd_tbl ∧ Cond.selects mtX10_packsNow.1.cls mtX10_packsNow.1 mtX10_packsNow.1 ∈ gd_tbl := ⟨(inG (i := 722) (by decide +kernel) rfl), (inG (i := 12) (by decide +kernel) rfl)⟩
theorem vlX10_180 : mVl RX10 180 mtX10_packsNow 0 := ⟨(inG (i := 720) (by decide +kernel) rfl), ivX10_packsNow, clX10_packsNow⟩
theorem clX10_wrongLetter : mCl mtX10_wrongLetter 2 := ⟨(inG (i := 815) (by decide +kernel) rfl), (inG (i := 49) (by decide +kernel) rfl), ⟨by decide +kernel, by decide +kernel, by decide +kernel⟩, by decide⟩
theorem ivX10_wrongLetter : Cond.instanceMethod mtX10_wrongLetter.1 ∈ gd_tbl ∧ Cond.selects mtX10_wrongLetter.1.cls mtX10_wrongLetter.1 mtX10_wrongLetter.1 ∈ gd_tbl := ⟨(inG (i := 814) (by decide +kernel) rfl), (inG (i := 31) (by decide +kernel) rfl)⟩
theorem vlX10_183 : mVl RX10 183 mtX10_wrongLetter 2 := ⟨(inG (i := 812) (by decide +kernel) rfl), ivX10_wrongLetter, clX10_wrongLetter⟩
theorem clX10_isSign : mCl mtX10_isSign 1 := ⟨(inG (i := 834) (by decide +kernel) rfl), (inG (i := 49) (by decide +kernel) rfl), ⟨by decide +kernel, by decide +kernel, by decide +kernel⟩, by decide⟩
theorem slX10_186 : mSl RX10 186 mtX10_isSign 1 := ⟨Or.inl (inG (i := 832) (by decide +kernel) rfl), (inG (i := 833) (by decide +kernel) rfl), clX10_isSign⟩
theorem clX10_countOf : mCl mtX10_countOf 2 := ⟨(inG (i := 838) (by decide +kernel) rfl), (inG (i := 49) (by decide +kernel) rfl), ⟨by decide +kernel, by decide +kernel, by decide +kernel⟩, by decide⟩
theorem ivX10_countOf : Cond.instanceMethod mtX10_countOf.1 ∈ gd_tbl ∧ Cond.selects mtX10_countOf.1.cls mtX10_countOf.1 mtX10_countOf.1 ∈ gd_tbl := ⟨(inG (i := 837) (by decide +kernel) rfl), (inG (i := 32) (by decide +kernel) rfl)⟩
theorem vlX10_190 : mVl RX10 190 mtX10_countOf 2 := ⟨(inG (i := 835) (by decide +kernel) rfl), ivX10_countOf, clX10_countOf⟩
theorem clX10_common : mCl mtX10_common 2 := ⟨(inG (i := 853) (by decide +kernel) rfl), (inG (i := 49) (by decide +kernel) rfl), ⟨by decide +kernel, by decide +kernel, by decide +kernel⟩, by decide⟩
theorem slX10_193 : mSl RX10 193 mtX10_common 2 := ⟨Or.inl (inG (i := 851) (by decide +kernel) rfl), (inG (i := 852) (by decide +kernel) rfl), clX10_common⟩
theorem clX10_weighs : mCl mtX10_weighs 1 := ⟨(inG (i := 850) (by decide +kernel) rfl), (inG (i := 49) (by decide +kernel) rfl), ⟨by decide +kernel, by decide +kernel, by decide +kernel⟩, by decide⟩
theorem ivX10_weighs : Cond.instanceMethod mtX10_weighs.1 ∈ gd_tbl ∧ Cond.selects mtX10_weighs.1.cls mtX10_weighs.1 mtX10_weighs.1 ∈ gd_tbl := ⟨(inG (i := 849) (by decide +kernel) rfl), (inG (i := 33) (by decide +kernel) rfl)⟩
theorem vlX10_197 : mVl RX10 197 mtX10_weighs 1 := ⟨(inG (i := 847) (by decide +kernel) rfl), ivX10_weighs, clX10_weighs⟩
theorem clX10_ended : mCl mtX10_ended 0 := ⟨(inG (i := 869) (by decide +kernel) rfl), (inG (i := 49) (by decide +kernel) rfl), ⟨by decide +kernel, by decide +kernel, by decide +kernel⟩, by decide⟩
theorem ivX10_ended : Cond.instanceMethod mtX10_ended.1 ∈ gd_tbl ∧ Cond.selects mtX10_ended.1.cls mtX10_ended.1 mtX10_ended.1 ∈ gd_tbl := ⟨(inG (i := 868) (by decide +kernel) rfl), (inG (i := 34) (by decide +kernel) rfl)⟩
theorem vlX10_200 : mVl RX10 200 mtX10_ended 0 := ⟨(inG (i := 866) (by decide +kernel) rfl), ivX10_ended, clX10_ended⟩
theorem clX10_unpacks : mCl mtX10_unpacks 1 := ⟨(inG (i := 881) (by decide +kernel) rfl), (inG (i := 49) (by decide +kernel) rfl), ⟨by decide +kernel, by decide +kernel, by decide +kernel⟩, by decide⟩
theorem ivX10_unpacks : Cond.instanceMethod mtX10_unpacks.1 ∈ gd_tbl ∧ Cond.selects mtX10_unpacks.1.cls mtX10_unpacks.1 mtX10_unpacks.1 ∈ gd_tbl := ⟨(inG (i := 880) (by decide +kernel) rfl), (inG (i := 35) (by decide +kernel) rfl)⟩
theorem vlX10_203 : mVl RX10 203 mtX10_unpacks 1 := ⟨(inG (i := 878) (by decide +kernel) rfl), ivX10_unpacks, clX10_unpacks⟩
theorem clX10_tellNow : mCl mtX10_tellNow 1 := ⟨(inG (i := 901) (by decide +kernel) rfl), (inG (i := 49) (by decide +kernel) rfl), ⟨by decide +kernel, by decide +kernel, by decide +kernel⟩, by decide⟩
theorem ivX10_tellNow : Cond.instanceMethod mtX10_tellNow.1 ∈ gd_tbl ∧ Cond.selects mtX10_tellNow.1.cls mtX10_tellNow.1 mtX10_tellNow.1 ∈ gd_tbl := ⟨(inG (i := 900) (by decide +kernel) rfl), (inG (i := 36) (by decide +kernel) rfl)⟩
theorem vlX10_206 : mVl RX10 206 mtX10_tellNow 1 := ⟨(inG (i := 898) (by decide +kernel) rfl), ivX10_tellNow, clX10_tellNow⟩
theorem knJ6_265 : Cond.constant RJ6 265 (Int32.ofInt 1431655765) ∈ gd_tbl := (inG (i := 409) (by decide +kernel) rfl)
theorem knJ6_266 : Cond.constant RJ6 266 (Int32.ofInt 858993459) ∈ gd_tbl := (inG (i := 410) (by decide +kernel) rfl)
theorem knJ6_267 : Cond.constant RJ6 267 (Int32.ofInt 252645135) ∈ gd_tbl := (inG (i := 411) (by decide +kernel) rfl)
end
section
/-! ===== what is computed, in words of its own ===== -/
theorem up_ind {P : Int → Prop} {lo n : Int} (hl : lo ≤ n) (st : ∀ i, lo ≤ i → i ≤ n → (i < n → P (i + 1)) → P i) : P lo := by
  have key : ∀ (d : Nat) (i : Int), lo ≤ i → i ≤ n → n - i ≤ d → P i := by
    intro d
    induction d with
    | zero => intro i h1 h2 h3; exact st i h1 h2 (fun h => absurd h (by omega))
    | succ d ih => intro i h1 h2 h3; exact st i h1 h2 (fun h => ih (i + 1) (by omega) (by omega) (by omega))
  exact key (n - lo).toNat lo (Int.le_refl _) hl (by omega)
/-- the place of the context of n signs from a on -/
def cxp (sg : Int → Int) (a : Int) : Nat → Int
  | 0 => 0
  | n + 1 => 4 * cxp sg a n + 1 + sg (a + n)
theorem cxp_bd {sg : Int → Int} {a : Int} : ∀ {n : Nat}, n ≤ 3 → (∀ k : Int, a ≤ k → k < a + n → 0 ≤ sg k ∧ sg k ≤ 3) → 0 ≤ cxp sg a n ∧ cxp sg a n ≤ 84
  | 0, _, _ => ⟨by simp [cxp], by simp [cxp]⟩
  | 1, _, h => by
    have h0 := h (a + (0 : Nat)) (by omega) (by omega)
    simp only [cxp]; omega
  | 2, _, h => by
    have h0 := h (a + (0 : Nat)) (by omega) (by omega)
    have h1 := h (a + (1 : Nat)) (by omega) (by omega)
    simp only [cxp]; omega
  | 3, _, h => by
    have h0 := h (a + (0 : Nat)) (by omega) (by omega)
    have h1 := h (a + (1 : Nat)) (by omega) (by omega)
    have h2 := h (a + (2 : Nat)) (by omega) (by omega)
    simp only [cxp]; omega
theorem cxp_congr {sg sg' : Int → Int} {a : Int} : ∀ {n : Nat}, (∀ k : Int, a ≤ k → k < a + n → sg k = sg' k) → cxp sg a n = cxp sg' a n
  | 0, _ => rfl
  | n + 1, h => by
    rw [cxp, cxp, cxp_congr (n := n) (fun k h1 h2 => h k h1 (by omega)), h (a + n) (by omega) (by omega)]
/-! counts -/
def rai (cs : Int → Int) (p s l : Int) : Int → Int := fun k =>
  if cs (4 * p + s) + 1 = l then (if 4 * p ≤ k ∧ k < 4 * p + 4 then (if k = 4 * p + s then cs k + 1 else cs k) / 2 else cs k) else (if k = 4 * p + s then cs k + 1 else cs k)
/-- a context is there -/
def thr (cs : Int → Int) (p : Int) : Prop := ¬ (cs (4 * p) = 0 ∧ cs (4 * p + 1) = 0 ∧ cs (4 * p + 2) = 0 ∧ cs (4 * p + 3) = 0)
/-! masks and widths -/
def hb (m s : Nat) : Bool := m.testBit s
def b1 (b : Bool) : Int := if b = true then 1 else 0
def pc4 (m : Nat) : Int := b1 (hb m 0) + b1 (hb m 1) + b1 (hb m 2) + b1 (hb m 3)
def wS (cs : Int → Int) (pl : Int) (sh s : Nat) : Int := if hb sh s = true then 0 else if pl = -1 then 1 else cs (4 * pl + s)
def opn (w : Nat → Int) : Nat → Nat
  | 0 => 0
  | s + 1 => opn w s + (if 0 < w s then 2 ^ s else 0)
def tot (w : Nat → Int) : Nat → Int
  | 0 => 0
  | s + 1 => tot w s + w s
def esc (pl : Int) (sh op : Nat) : Int := if pl = -1 ∨ op ||| sh = 15 then 0 else pc4 op
def wE (cs : Int → Int) (pl : Int) (sh s : Nat) : Int := if s = 4 then esc pl sh (opn (wS cs pl sh) 4) else wS cs pl sh s
theorem tot_congr {w w' : Nat → Int} : ∀ {n : Nat}, (∀ k, k < n → w k = w' k) → tot w n = tot w' n
  | 0, _ => rfl
  | n + 1, h => by rw [tot, tot, tot_congr (n := n) (fun k hk => h k (by omega)), h n (by omega)]
theorem opn_lt (w : Nat → Int) : ∀ n, opn w n < 2 ^ n
  | 0 => by simp [opn]
  | n + 1 => by
    have := opn_lt w n
    rw [opn, Nat.pow_succ]
    split <;> omega
end
section
/-! ===== Row ===== -/
def isRow (r N : Nat) : Prop := kd r = 6 ∧ kd (r + 1) = 10 ∧ ln (r + 1) = N ∧ N ≤ 3000
theorem hset_id {h : mH} {i : Nat} {k v : Int} (e : h i k = v) : hset h i k v = h := by
  funext a b
  by_cases q : a = i ∧ b = k
  · obtain ⟨rfl, rfl⟩ := q; rw [hset_eq, e]
  · rw [hset_ne (by omega)]
/-- a row's contents: how many, and which -/
def RowIs (h : mH) (r N : Nat) (n : Int) (f : Int → Int) : Prop := h r 1 = n ∧ 0 ≤ n ∧ n ≤ N ∧ ∀ k, 0 ≤ k → k < n → h (r + 1) k = f k

set_option maxHeartbeats 4000000 in
set_option maxRecDepth 100000 in
theorem row_at {x : mX} {h : mH} {Q : Int → mH → Prop} {r N : Nat} {i : Int} (hr : isRow r N) (hs : h r 1 ≤ N) (hQ : Q (if 0 ≤ i ∧ i < h r 1 then h (r + 1) i else 0) h) : CtI x mtX6_at [xR r, xI i] h Q := by
  obtain ⟨k1, k2, k3, k4⟩ := hr
  refine ct_go (ls := [xR r, xI i]) (by decide +kernel) (Nat.le_of_ble_eq_true rfl) rfl ?_
  refine go_iload_n dX6_at_0 rfl ?_
  refine go_if_lt (tgt := 30) dX6_at_1 (by decide) (fun c1 => ?_) (fun c1 => ?_)
  · refine go_iconst dX6_at_30 ⟨by decide, by decide⟩ ?_
    refine go_ireturn dX6_at_31 rfl ?_
    first | (rw [if_neg (by omega)] at hQ; exact hQ) | (rw [if_pos (by omega)] at hQ; exact hQ) | (exfalso; omega)
  · refine go_iload_n dX6_at_4 rfl ?_
    refine go_aload_n dX6_at_5 rfl ?_
    refine gfX6_size (by first | assumption | rfl) flX6_7 dX6_at_6 ?_
    refine go_icmp_ge (tgt := 30) dX6_at_9 (by decide) (fun c9 => ?_) (fun c9 => ?_)
    · refine go_iconst dX6_at_30 ⟨by decide, by decide⟩ ?_
      refine go_ireturn dX6_at_31 rfl ?_
      first | (rw [if_neg (by omega)] at hQ; exact hQ) | (rw [if_pos (by omega)] at hQ; exact hQ) | (exfalso; omega)
    · refine go_iload_n dX6_at_12 rfl ?_
      refine go_aload_n dX6_at_13 rfl ?_
      refine gfX6_items (by first | assumption | rfl) flX6_19 dX6_at_14 ?_
      refine go_alen (Or.inl (by first | assumption | rfl)) dX6_at_17 (⟨by omega, by omega⟩) ?_
      refine go_icmp_ge (tgt := 30) dX6_at_18 (by decide) (fun c18 => ?_) (fun c18 => ?_)
      · refine go_iconst dX6_at_30 ⟨by decide, by decide⟩ ?_
        refine go_ireturn dX6_at_31 rfl ?_
        first | (rw [if_neg (by omega)] at hQ; exact hQ) | (rw [if_pos (by omega)] at hQ; exact hQ) | (exfalso; omega)
      · refine go_aload_n dX6_at_21 rfl ?_
        refine gfX6_items (by first | assumption | rfl) flX6_19 dX6_at_22 ?_
        refine go_iload_n dX6_at_25 rfl ?_
        refine go_iaload (by first | assumption | rfl) dX6_at_26 (by omega) (by omega) ?_
        refine go_goto (tgt := 31) dX6_at_27 (by decide) ?_
        refine go_ireturn dX6_at_31 rfl ?_
        first | (rw [if_neg (by omega)] at hQ; exact hQ) | (rw [if_pos (by omega)] at hQ; exact hQ) | (exfalso; omega)

set_option maxHeartbeats 4000000 in
set_option maxRecDepth 100000 in
theorem row_isFull {x : mX} {h : mH} {Q : Int → mH → Prop} {r N : Nat} (hr : isRow r N) (hQ : Q (if h r 1 < N then 0 else 1) h) : CtI x mtX6_isFull [xR r] h Q := by
  obtain ⟨k1, k2, k3, k4⟩ := hr
  refine ct_go (ls := [xR r]) (by decide +kernel) (Nat.le_of_ble_eq_true rfl) rfl ?_
  refine go_aload_n dX6_isFull_0 rfl ?_
  refine gfX6_size (by first | assumption | rfl) flX6_7 dX6_isFull_1 ?_
  refine go_aload_n dX6_isFull_4 rfl ?_
  refine gfX6_items (by first | assumption | rfl) flX6_19 dX6_isFull_5 ?_
  refine go_alen (Or.inl (by first | assumption | rfl)) dX6_isFull_8 (⟨by omega, by omega⟩) ?_
  refine go_icmp_lt (tgt := 16) dX6_isFull_9 (by decide) (fun c9 => ?_) (fun c9 => ?_)
  · refine go_iconst dX6_isFull_16 ⟨by decide, by decide⟩ ?_
    refine go_zreturn dX6_isFull_17 rfl (by first | exact Or.inl rfl | exact Or.inr rfl) ?_
    first | (rw [if_neg (by omega)] at hQ; exact hQ) | (rw [if_pos (by omega)] at hQ; exact hQ) | (exfalso; omega)
  · refine go_iconst dX6_isFull_12 ⟨by decide, by decide⟩ ?_
    refine go_goto (tgt := 17) dX6_isFull_13 (by decide) ?_
    refine go_zreturn dX6_isFull_17 rfl (by first | exact Or.inl rfl | exact Or.inr rfl) ?_
    first | (rw [if_neg (by omega)] at hQ; exact hQ) | (rw [if_pos (by omega)] at hQ; exact hQ) | (exfalso; omega)

set_option maxHeartbeats 4000000 in
set_option maxRecDepth 100000 in
theorem row_puts {x : mX} {h : mH} {Q : mH → Prop} {r N : Nat} {v : Int} (hr : isRow r N) (h0 : 0 ≤ h r 1) (hs : h r 1 < N) (hQ : Q (hset (hset h (r + 1) (h r 1) v) r 1 (h r 1 + 1))) : CtV x mtX6_puts [xR r, xI v] h Q := by
  obtain ⟨k1, k2, k3, k4⟩ := hr
  refine ct_go (ls := [xR r, xI v]) (by decide +kernel) (Nat.le_of_ble_eq_true rfl) rfl ?_
  refine go_aload_n dX6_puts_0 rfl ?_
  refine gfX6_size (by first | assumption | rfl) flX6_7 dX6_puts_1 ?_
  refine go_if_lt_f (tgt := 19) dX6_puts_4 (by decide) (h0) ?_
  refine go_aload_n dX6_puts_7 rfl ?_
  refine gfX6_size (by first | assumption | rfl) flX6_7 dX6_puts_8 ?_
  refine go_aload_n dX6_puts_11 rfl ?_
  refine gfX6_items (by first | assumption | rfl) flX6_19 dX6_puts_12 ?_
  refine go_alen (Or.inl (by first | assumption | rfl)) dX6_puts_15 (⟨by omega, by omega⟩) ?_
  refine go_icmp_lt_t (tgt := 20) dX6_puts_16 (by decide) (by omega) ?_
  refine go_aload_n dX6_puts_20 rfl ?_
  refine gfX6_items (by first | assumption | rfl) flX6_19 dX6_puts_21 ?_
  refine go_aload_n dX6_puts_24 rfl ?_
  refine gfX6_size (by first | assumption | rfl) flX6_7 dX6_puts_25 ?_
  refine go_iload_n dX6_puts_28 rfl ?_
  refine go_iastore (by first | assumption | rfl) dX6_puts_29 (by omega) (by omega) ?_
  refine go_aload_n dX6_puts_30 rfl ?_
  first | refine go_dupR dX6_puts_31 ?_ | refine go_dupI dX6_puts_31 ?_
  refine gfX6_size (by first | assumption | rfl) flX6_7 dX6_puts_32 ?_
  refine go_iconst dX6_puts_35 ⟨by decide, by decide⟩ ?_
  rw [hset_ni (show r ≠ r + 1 by omega)]
  refine go_iadd dX6_puts_36 (by omega) (by omega) ?_
  refine pfX6_size (by first | assumption | rfl) flX6_7 dX6_puts_37 ?_
  refine go_return dX6_puts_40 rfl ?_
  exact hQ

set_option maxHeartbeats 4000000 in
set_option maxRecDepth 100000 in
theorem row_shortens {x : mX} {h : mH} {Q : mH → Prop} {r N : Nat} {v : Int} (hr : isRow r N) (h0 : 0 ≤ v) (hs : v ≤ h r 1) (hQ : Q (hset h r 1 v)) : CtV x mtX6_shortens [xR r, xI v] h Q := by
  obtain ⟨k1, k2, k3, k4⟩ := hr
  refine ct_go (ls := [xR r, xI v]) (by decide +kernel) (Nat.le_of_ble_eq_true rfl) rfl ?_
  refine go_iload_n dX6_shortens_0 rfl ?_
  refine go_if_lt_f (tgt := 17) dX6_shortens_1 (by decide) (h0) ?_
  refine go_iload_n dX6_shortens_4 rfl ?_
  refine go_aload_n dX6_shortens_5 rfl ?_
  refine gfX6_size (by first | assumption | rfl) flX6_7 dX6_shortens_6 ?_
  refine go_icmp_ge (tgt := 17) dX6_shortens_9 (by decide) (fun c9 => ?_) (fun c9 => ?_)
  · refine go_return dX6_shortens_17 rfl ?_
    first | exact hQ | (rw [hset_id (by omega)] at hQ; exact hQ)
  · refine go_aload_n dX6_shortens_12 rfl ?_
    refine go_iload_n dX6_shortens_13 rfl ?_
    refine pfX6_size (by first | assumption | rfl) flX6_7 dX6_shortens_14 ?_
    refine go_return dX6_shortens_17 rfl ?_
    first | exact hQ | (rw [hset_id (by omega)] at hQ; exact hQ)

/-- a row becomes as another -/
def cpRow (h : mH) (r o : Nat) (n : Int) : mH := fun a b => if a = r ∧ b = 1 then n else if a = r + 1 ∧ 0 ≤ b ∧ b < n then h (o + 1) b else h a b
theorem cpRow_step {h : mH} {r o : Nat} {n : Int} (hn : 0 ≤ n) (ho : o ≠ r) : hset (hset (cpRow h r o n) (r + 1) n (h (o + 1) n)) r 1 (n + 1) = cpRow h r o (n + 1) := by
  funext a b
  unfold hset cpRow
  by_cases e1 : a = r ∧ b = 1
  · simp only [if_pos e1]
  · simp only [if_neg e1]
    by_cases e2 : a = r + 1 ∧ b = n
    · rw [if_pos e2, if_pos (by omega), e2.2]
    · rw [if_neg e2]
      by_cases e3 : a = r + 1 ∧ 0 ≤ b ∧ b < n
      · rw [if_pos e3, if_pos (by omega)]
      · rw [if_neg e3, if_neg (by omega)]

set_option maxHeartbeats 4000000 in
set_option maxRecDepth 100000 in
theorem row_copies_loop {x : mX} {h : mH} {Q : mH → Prop} {r o N K : Nat} {n : Int} (hr : isRow r N) (hro : isRow o K) (hne : o ≠ r) (hne2 : o ≠ r + 1) (hne3 : o + 1 ≠ r) (hn : h o 1 = n) (hnN : n ≤ N) (hnK : n ≤ K) (hn0 : 0 ≤ n) (hQ : Q (cpRow h r o n)) :
    ∀ (d : Nat) (i : Int), 0 ≤ i → i ≤ n → n - i ≤ d → Go x mtX6_copies 12 [xR r, xR o, xI n, xI i] [] (cpRow h r o i) (qV Q) := by
  intro d
  induction d with
  | zero =>
    intro i hi0 hin hd
    have : i = n := by omega
    subst this
    refine go_iload_n dX6_copies_12 rfl ?_
    refine go_iload_n dX6_copies_13 rfl ?_
    refine go_icmp_ge_t (tgt := 32) dX6_copies_14 (by decide) (by omega) ?_
    refine go_return dX6_copies_32 rfl ?_
    exact hQ
  | succ d ih =>
    intro i hi0 hin hd
    have hN3 := hr.2.2.2
    by_cases hlt : i < n
    · have e1 : cpRow h r o i o 1 = n := by unfold cpRow; rw [if_neg (by omega), if_neg (by omega), hn]
      have e2 : ∀ k, 0 ≤ k → k < n → cpRow h r o i (o + 1) k = h (o + 1) k := by intro k _ _; unfold cpRow; rw [if_neg (by omega), if_neg (by omega)]
      have e3 : cpRow h r o i r 1 = i := by unfold cpRow; rw [if_pos ⟨rfl, rfl⟩]
      refine go_iload_n dX6_copies_12 rfl ?_
      refine go_iload_n dX6_copies_13 rfl ?_
      refine go_icmp_ge_f (tgt := 32) dX6_copies_14 (by decide) (by omega) ?_
      refine go_aload_n dX6_copies_17 rfl ?_
      refine go_aload_n dX6_copies_18 rfl ?_
      refine go_iload_n dX6_copies_19 rfl ?_
      refine go_cV1I hro.1 vlX6_23 dX6_copies_20 (by decide) rfl rfl (by decide) (Nat.le_of_ble_eq_true rfl) (row_at hro (by rw [e1]; omega) ?_)
      rw [if_pos (by omega), e2 i hi0 (by omega)]
      refine go_cV1V hr.1 vlX6_27 dX6_copies_23 (by decide) rfl rfl (by decide) (Nat.le_of_ble_eq_true rfl) (row_puts hr (by rw [e3]; omega) (by rw [e3]; omega) ?_)
      rw [e3, cpRow_step hi0 hne]
      refine go_iinc dX6_copies_26 rfl rfl rfl (by omega) (by omega) (by dsimp only [List.set]) ?_
      refine go_goto (tgt := 12) dX6_copies_29 (by decide) ?_
      exact ih (i + 1) (by omega) (by omega) (by omega)
    · have : i = n := by omega
      subst this
      refine go_iload_n dX6_copies_12 rfl ?_
      refine go_iload_n dX6_copies_13 rfl ?_
      refine go_icmp_ge_t (tgt := 32) dX6_copies_14 (by decide) (by omega) ?_
      refine go_return dX6_copies_32 rfl ?_
      exact hQ

set_option maxHeartbeats 4000000 in
set_option maxRecDepth 100000 in
theorem row_copies {x : mX} {h : mH} {Q : mH → Prop} {r o N K : Nat} {n : Int} (hr : isRow r N) (hro : isRow o K) (hne : o ≠ r) (hne2 : o ≠ r + 1) (hne3 : o + 1 ≠ r) (hn : h o 1 = n) (hnN : n ≤ N) (hnK : n ≤ K) (hn0 : 0 ≤ n) (hQ : Q (cpRow h r o n)) : CtV x mtX6_copies [xR r, xR o] h Q := by
  refine ct_go (ls := [xR r, xR o, xU, xU]) (by decide +kernel) (Nat.le_of_ble_eq_true rfl) rfl ?_
  refine go_aload_n dX6_copies_0 rfl ?_
  refine gfX6_size hro.1 flX6_7 dX6_copies_1 ?_
  refine go_istore_n 2 dX6_copies_4 rfl (Nat.le_of_ble_eq_true rfl) rfl (by dsimp only [List.set]) ?_
  refine go_aload_n dX6_copies_5 rfl ?_
  refine go_iconst dX6_copies_6 ⟨by decide, by decide⟩ ?_
  refine pfX6_size hr.1 flX6_7 dX6_copies_7 ?_
  refine go_iconst dX6_copies_10 ⟨by decide, by decide⟩ ?_
  refine go_istore_n 3 dX6_copies_11 rfl (Nat.le_of_ble_eq_true rfl) rfl (by dsimp only [List.set]) ?_
  subst hn
  have e0 : hset h r 1 0 = cpRow h r o 0 := by
    funext a b
    unfold hset cpRow
    by_cases e1 : a = r ∧ b = 1
    · rw [if_pos e1, if_pos e1]
    · rw [if_neg e1, if_neg e1, if_neg (by omega)]
  rw [e0]
  exact row_copies_loop hr hro hne hne2 hne3 rfl hnN hnK hn0 hQ (h o 1).toNat 0 (by omega) (by omega) (by omega)
end
section
/-! ===== Past, Contexts ===== -/
def isPast (p : Nat) : Prop := kd p = 4 ∧ isRow (p + 1) 60

set_option maxHeartbeats 4000000 in
set_option maxRecDepth 100000 in
theorem lp_longer {x : mX} {h : mH} {Q : Int → mH → Prop} {p s : Int} (hp : 0 ≤ p) (hp2 : p ≤ 1000) (hs : 0 ≤ s) (hs2 : s ≤ 3) (hQ : Q (4 * p + 1 + s) h) : CtI x mtX9_longerContext [xI p, xI s] h Q := by
  refine ct_go (ls := [xI p, xI s]) (by decide +kernel) (Nat.le_of_ble_eq_true rfl) rfl ?_
  refine go_iconst dX9_longerContext_0 ⟨by decide, by decide⟩ ?_
  refine go_iload_n dX9_longerContext_1 rfl ?_
  refine go_imul dX9_longerContext_2 (by omega) (by omega) ?_
  refine go_iconst dX9_longerContext_3 ⟨by decide, by decide⟩ ?_
  refine go_iadd dX9_longerContext_4 (by omega) (by omega) ?_
  refine go_iload_n dX9_longerContext_5 rfl ?_
  refine go_iadd dX9_longerContext_6 (by omega) (by omega) ?_
  refine go_ireturn dX9_longerContext_7 rfl ?_
  exact hQ

/-- order, limit, room, tail laid, no signs -/
def setH (h : mH) (p : Nat) (o l r t : Int) : mH := hset (hset (hset (hset (hset h p 0 o) p 1 l) p 2 r) p 3 t) (p + 1) 1 0

set_option maxHeartbeats 4000000 in
set_option maxRecDepth 100000 in
theorem past_setsOut {x : mX} {h : mH} {Q : mH → Prop} {p : Nat} {o l r t : Int} (hp : isPast p) (hs : 0 ≤ h (p + 1) 1) (hQ : Q (setH h p o l r t)) : CtV x mtX4_setsOut [xR p, xI o, xI l, xI r, xI t] h Q := by
  obtain ⟨k1, k2⟩ := hp
  refine ct_go (ls := [xR p, xI o, xI l, xI r, xI t]) (by decide +kernel) (Nat.le_of_ble_eq_true rfl) rfl ?_
  refine go_aload_n dX4_setsOut_0 rfl ?_
  refine go_iload_n dX4_setsOut_1 rfl ?_
  refine pfX4_order (by first | assumption | rfl) flX4_9 dX4_setsOut_2 ?_
  refine go_aload_n dX4_setsOut_5 rfl ?_
  refine go_iload_n dX4_setsOut_6 rfl ?_
  refine pfX4_limit (by first | assumption | rfl) flX4_15 dX4_setsOut_7 ?_
  refine go_aload_n dX4_setsOut_10 rfl ?_
  refine go_iload_n dX4_setsOut_11 rfl ?_
  refine pfX4_room (by first | assumption | rfl) flX4_18 dX4_setsOut_12 ?_
  refine go_aload_n dX4_setsOut_15 rfl ?_
  refine go_iload dX4_setsOut_16 rfl ?_
  refine pfX4_tail (by first | assumption | rfl) flX4_21 dX4_setsOut_18 ?_
  refine go_aload_n dX4_setsOut_21 rfl ?_
  refine gfX4_signs (by first | assumption | rfl) flX4_29 dX4_setsOut_22 ?_
  refine go_iconst dX4_setsOut_25 ⟨by decide, by decide⟩ ?_
  refine go_cV1V k2.1 vlX4_33 dX4_setsOut_26 (by decide) rfl rfl (by decide) (Nat.le_of_ble_eq_true rfl) (row_shortens k2 (Int.le_refl 0) (by rw [hset_ni (by omega), hset_ni (by omega), hset_ni (by omega), hset_ni (by omega)]; exact hs) ?_)
  refine go_return dX4_setsOut_29 rfl ?_
  exact hQ

/-- a past becomes as another -/
def becH (h : mH) (p q : Nat) : mH := cpRow (setH h p (h q 0) (h q 1) (h q 2) (h q 3)) (p + 1) (q + 1) (h (q + 1) 1)
theorem setH_ne {h : mH} {p : Nat} {o l r t : Int} {a : Nat} (h1 : a ≠ p) (h2 : a ≠ p + 1) : setH h p o l r t a = h a := by
  unfold setH
  rw [hset_ni h2, hset_ni h1, hset_ni h1, hset_ni h1, hset_ni h1]

set_option maxHeartbeats 4000000 in
set_option maxRecDepth 100000 in
theorem past_becomes {x : mX} {h : mH} {Q : mH → Prop} {p q : Nat} (hp : isPast p) (hq : isPast q) (hpq : p + 3 ≤ q ∨ q + 3 ≤ p) (hs : 0 ≤ h (p + 1) 1) (hs1 : 0 ≤ h (q + 1) 1) (hs2 : h (q + 1) 1 ≤ 60) (hQ : Q (becH h p q)) : CtV x mtX4_becomes [xR p, xR q] h Q := by
  refine ct_go (ls := [xR p, xR q]) (by decide +kernel) (Nat.le_of_ble_eq_true rfl) rfl ?_
  refine go_aload_n dX4_becomes_0 rfl ?_
  refine go_aload_n dX4_becomes_1 rfl ?_
  refine gfX4_order hq.1 flX4_9 dX4_becomes_2 ?_
  refine go_aload_n dX4_becomes_5 rfl ?_
  refine gfX4_limit hq.1 flX4_15 dX4_becomes_6 ?_
  refine go_aload_n dX4_becomes_9 rfl ?_
  refine gfX4_room hq.1 flX4_18 dX4_becomes_10 ?_
  refine go_aload_n dX4_becomes_13 rfl ?_
  refine gfX4_tail hq.1 flX4_21 dX4_becomes_14 ?_
  refine go_cV4V hp.1 vlX4_36 dX4_becomes_17 (by decide) rfl rfl (by decide) (Nat.le_of_ble_eq_true rfl) (past_setsOut hp hs ?_)
  refine go_aload_n dX4_becomes_20 rfl ?_
  refine gfX4_signs hp.1 flX4_29 dX4_becomes_21 ?_
  refine go_aload_n dX4_becomes_24 rfl ?_
  refine gfX4_signs hq.1 flX4_29 dX4_becomes_25 ?_
  refine go_cV1V hp.2.1 vlX4_40 dX4_becomes_28 (by decide) rfl rfl (by decide) (Nat.le_of_ble_eq_true rfl) (row_copies (n := h (q + 1) 1) hp.2 hq.2 (by omega) (by omega) (by omega) (by rw [setH_ne (by omega) (by omega)]) (by omega) (by omega) hs1 ?_)
  refine go_return dX4_becomes_31 rfl ?_
  exact hQ

set_option maxHeartbeats 4000000 in
set_option maxRecDepth 100000 in
theorem past_ctx {x : mX} {h : mH} {Q : Int → mH → Prop} {p : Nat} {e a : Int} {n : Nat} (hp : isPast p) (hn : n ≤ 3) (ha : 0 ≤ a) (hae : a + n = e) (he : e ≤ h (p + 1) 1) (hsz : h (p + 1) 1 ≤ 60) (hsg : ∀ k : Int, a ≤ k → k < e → 0 ≤ h (p + 2) k ∧ h (p + 2) k ≤ 3) (hQ : Q (cxp (h (p + 2)) a n) h) : CtI x mtX4_contextAhead [xR p, xI e, xI n] h Q := by
  refine ct_go (ls := [xR p, xI e, xI n, xU, xU]) (by decide +kernel) (Nat.le_of_ble_eq_true rfl) rfl ?_
  refine go_iconst dX4_contextAhead_0 ⟨by decide, by decide⟩ ?_
  refine go_istore_n 3 dX4_contextAhead_1 rfl (Nat.le_of_ble_eq_true rfl) rfl (by dsimp only [List.set]) ?_
  refine go_iload_n dX4_contextAhead_2 rfl ?_
  refine go_iload_n dX4_contextAhead_3 rfl ?_
  refine go_isub dX4_contextAhead_4 (by omega) (by omega) ?_
  refine go_istore dX4_contextAhead_5 (Nat.le_of_ble_eq_true rfl) rfl (by dsimp only [List.set]) ?_
  rw [show e - (n : Int) = a by omega]
  have key : Go x mtX4_contextAhead 7 [xR p, xI e, xI n, xI (cxp (h (p + 2)) a (a - a).toNat), xI a] [] h (qI Q) := by
    refine up_ind (P := fun i => Go x mtX4_contextAhead 7 [xR p, xI e, xI n, xI (cxp (h (p + 2)) a (i - a).toNat), xI i] [] h (qI Q)) (lo := a) (n := e) (by omega) (fun i hi0 hin ih => ?_)
    have hb := cxp_bd (sg := h (p + 2)) (a := a) (n := (i - a).toNat) (by omega) (fun k h1 h2 => hsg k h1 (by omega))
    by_cases hlt : i < e
    · have hsi : 0 ≤ h (p + 1 + 1) i ∧ h (p + 1 + 1) i ≤ 3 := hsg i hi0 hlt
      refine go_iload dX4_contextAhead_7 rfl ?_
      refine go_iload_n dX4_contextAhead_9 rfl ?_
      refine go_icmp_ge_f (tgt := 33) dX4_contextAhead_10 (by decide) (by omega) ?_
      refine go_iload_n dX4_contextAhead_13 rfl ?_
      refine go_aload_n dX4_contextAhead_14 rfl ?_
      refine gfX4_signs hp.1 flX4_29 dX4_contextAhead_15 ?_
      refine go_iload dX4_contextAhead_18 rfl ?_
      refine go_cV1I hp.2.1 vlX4_44 dX4_contextAhead_20 (by decide) rfl rfl (by decide) (Nat.le_of_ble_eq_true rfl) (row_at hp.2 (by omega) ?_)
      rw [if_pos (by omega)]
      refine go_cS2I slX4_48 dX4_contextAhead_23 (by decide) (Nat.le_of_ble_eq_true rfl) (lp_longer (by omega) (by omega) (by omega) (by omega) ?_)
      refine go_istore_n 3 dX4_contextAhead_26 rfl (Nat.le_of_ble_eq_true rfl) rfl (by dsimp only [List.set]) ?_
      refine go_iinc dX4_contextAhead_27 rfl rfl rfl (by omega) (by omega) (by dsimp only [List.set]) ?_
      refine go_goto (tgt := 7) dX4_contextAhead_30 (by decide) ?_
      have e1 : (i - a).toNat + 1 = (i + 1 - a).toNat := by omega
      have e2 : 4 * cxp (h (p + 2)) a (i - a).toNat + 1 + h (p + 1 + 1) i = cxp (h (p + 2)) a (i + 1 - a).toNat := by
        rw [← e1, cxp]
        rw [show a + ((i - a).toNat : Int) = i by omega]
      rw [e2]
      exact ih (by omega)
    · have hie : (i - a).toNat = n := by omega
      rw [hie]
      refine go_iload dX4_contextAhead_7 rfl ?_
      refine go_iload_n dX4_contextAhead_9 rfl ?_
      refine go_icmp_ge_t (tgt := 33) dX4_contextAhead_10 (by decide) (by omega) ?_
      refine go_iload_n dX4_contextAhead_33 rfl ?_
      refine go_ireturn dX4_contextAhead_34 rfl ?_
      exact hQ
  rw [show (a - a).toNat = 0 by omega] at key
  exact key

def isCtx (c : Nat) : Prop := kd c = 0 ∧ kd (c + 1) = 10 ∧ ln (c + 1) = 340
/-- all counts are 0 -/
def empH (h : mH) (c : Nat) (i : Int) : mH := fun a b => if a = c + 1 ∧ 0 ≤ b ∧ b < i then 0 else h a b

set_option maxHeartbeats 4000000 in
set_option maxRecDepth 100000 in
theorem ctx_empties {x : mX} {h : mH} {Q : mH → Prop} {c : Nat} (hc : isCtx c) (hQ : Q (hset (empH h c 340) c 1 0)) : CtV x mtX0_empties [xR c] h Q := by
  obtain ⟨k1, k2, k3⟩ := hc
  refine ct_go (ls := [xR c, xU]) (by decide +kernel) (Nat.le_of_ble_eq_true rfl) rfl ?_
  refine go_iconst dX0_empties_0 ⟨by decide, by decide⟩ ?_
  refine go_istore_n 1 dX0_empties_1 rfl (Nat.le_of_ble_eq_true rfl) rfl (by dsimp only [List.set]) ?_
  have e0 : h = empH h c 0 := by
    funext a b; unfold empH; rw [if_neg (by omega)]
  have key : Go x mtX0_empties 2 [xR c, xI 0] [] (empH h c 0) (qV Q) := by
    refine up_ind (P := fun i => Go x mtX0_empties 2 [xR c, xI i] [] (empH h c i) (qV Q)) (lo := 0) (n := 340) (by omega) (fun i hi0 hin ih => ?_)
    by_cases hlt : i < 340
    · skip
      refine go_iload_n dX0_empties_2 rfl ?_
      refine go_aload_n dX0_empties_3 rfl ?_
      refine gfX0_counts (by first | assumption | rfl) flX0_9 dX0_empties_4 ?_
      refine go_alen (Or.inl (by first | assumption | rfl)) dX0_empties_7 (⟨by omega, by omega⟩) ?_
      refine go_icmp_ge_f (tgt := 24) dX0_empties_8 (by decide) (by omega) ?_
      refine go_aload_n dX0_empties_11 rfl ?_
      refine gfX0_counts (by first | assumption | rfl) flX0_9 dX0_empties_12 ?_
      refine go_iload_n dX0_empties_15 rfl ?_
      refine go_iconst dX0_empties_16 ⟨by decide, by decide⟩ ?_
      refine go_iastore (by first | assumption | rfl) dX0_empties_17 (by omega) (by omega) ?_
      refine go_iinc dX0_empties_18 rfl rfl rfl (by omega) (by omega) (by dsimp only [List.set]) ?_
      refine go_goto (tgt := 2) dX0_empties_21 (by decide) ?_
      have e1 : hset (empH h c i) (c + 1) i 0 = empH h c (i + 1) := by
        funext a b
        unfold hset empH
        by_cases e1 : a = c + 1 ∧ b = i
        · rw [if_pos e1, if_pos (by omega)]
        · rw [if_neg e1]
          by_cases e2 : a = c + 1 ∧ 0 ≤ b ∧ b < i
          · rw [if_pos e2, if_pos (by omega)]
          · rw [if_neg e2, if_neg (by omega)]
      rw [e1]
      exact ih (by omega)
    · have hie : i = 340 := by omega
      subst hie
      refine go_iload_n dX0_empties_2 rfl ?_
      refine go_aload_n dX0_empties_3 rfl ?_
      refine gfX0_counts (by first | assumption | rfl) flX0_9 dX0_empties_4 ?_
      refine go_alen (Or.inl (by first | assumption | rfl)) dX0_empties_7 (⟨by omega, by omega⟩) ?_
      refine go_icmp_ge_t (tgt := 24) dX0_empties_8 (by decide) (by omega) ?_
      refine go_aload_n dX0_empties_24 rfl ?_
      refine go_iconst dX0_empties_25 ⟨by decide, by decide⟩ ?_
      refine pfX0_there (by first | assumption | rfl) flX0_15 dX0_empties_26 ?_
      refine go_return dX0_empties_29 rfl ?_
      exact hQ
  rw [← e0] at key
  exact key

set_option maxHeartbeats 4000000 in
set_option maxRecDepth 100000 in
theorem ctx_at {x : mX} {h : mH} {Q : Int → mH → Prop} {c : Nat} {p s : Int} (hc : isCtx c) (hp : 0 ≤ p) (hp2 : p ≤ 84) (hs : 0 ≤ s) (hs2 : s ≤ 3) (hQ : Q (h (c + 1) (4 * p + s)) h) : CtI x mtX0_at [xR c, xI p, xI s] h Q := by
  obtain ⟨k1, k2, k3⟩ := hc
  refine ct_go (ls := [xR c, xI p, xI s, xU]) (by decide +kernel) (Nat.le_of_ble_eq_true rfl) rfl ?_
  refine go_iconst dX0_at_0 ⟨by decide, by decide⟩ ?_
  refine go_iload_n dX0_at_1 rfl ?_
  refine go_imul dX0_at_2 (by omega) (by omega) ?_
  refine go_iload_n dX0_at_3 rfl ?_
  refine go_iadd dX0_at_4 (by omega) (by omega) ?_
  refine go_istore_n 3 dX0_at_5 rfl (Nat.le_of_ble_eq_true rfl) rfl (by dsimp only [List.set]) ?_
  refine go_iload_n dX0_at_6 rfl ?_
  refine go_if_lt_f (tgt := 28) dX0_at_7 (by decide) (by omega) ?_
  refine go_iload_n dX0_at_10 rfl ?_
  refine go_aload_n dX0_at_11 rfl ?_
  refine gfX0_counts (by first | assumption | rfl) flX0_9 dX0_at_12 ?_
  refine go_alen (Or.inl (by first | assumption | rfl)) dX0_at_15 (⟨by omega, by omega⟩) ?_
  refine go_icmp_ge_f (tgt := 28) dX0_at_16 (by decide) (by omega) ?_
  refine go_aload_n dX0_at_19 rfl ?_
  refine gfX0_counts (by first | assumption | rfl) flX0_9 dX0_at_20 ?_
  refine go_iload_n dX0_at_23 rfl ?_
  refine go_iaload (by first | assumption | rfl) dX0_at_24 (by omega) (by omega) ?_
  refine go_goto (tgt := 29) dX0_at_25 (by decide) ?_
  refine go_ireturn dX0_at_29 rfl ?_
  exact hQ
end
section
/-! ===== Contexts.raises ===== -/
def thN (cs : Int → Int) (p : Int) : Int := if cs (4 * p) = 0 ∧ cs (4 * p + 1) = 0 ∧ cs (4 * p + 2) = 0 ∧ cs (4 * p + 3) = 0 then 1 else 0
/-- the counts of Contexts c, and how many are there, behind a raise -/
def raiH (h : mH) (c : Nat) (p s l : Int) : mH := fun a b => if a = c + 1 then rai (h (c + 1)) p s l b else if a = c ∧ b = 1 then h c 1 + thN (h (c + 1)) p else h a b
def hlvH (h : mH) (c : Nat) (p i : Int) : mH := fun a b => if a = c + 1 ∧ 4 * p ≤ b ∧ b < i then h a b / 2 else h a b
theorem hlv_step {h : mH} {c : Nat} {p i : Int} (hi : 4 * p ≤ i) : hset (hlvH h c p i) (c + 1) i (hlvH h c p i (c + 1) i / 2) = hlvH h c p (i + 1) := by
  funext a b
  unfold hset hlvH
  by_cases e1 : a = c + 1 ∧ b = i
  · rw [if_pos e1, if_neg (show ¬ (c + 1 = c + 1 ∧ 4 * p ≤ i ∧ i < i) by omega), if_pos (show a = c + 1 ∧ 4 * p ≤ b ∧ b < i + 1 by omega), e1.1, e1.2]
  · rw [if_neg e1]
    by_cases e2 : a = c + 1 ∧ 4 * p ≤ b ∧ b < i
    · rw [if_pos e2, if_pos (by omega)]
    · rw [if_neg e2, if_neg (by omega)]
theorem rai_H1 {h : mH} {c : Nat} {p s l : Int} (hne : h (c + 1) (4 * p + s) + 1 ≠ l) : hset (hset h c 1 (h c 1 + thN (h (c + 1)) p)) (c + 1) (4 * p + s) (h (c + 1) (4 * p + s) + 1) = raiH h c p s l := by
  funext a b
  unfold hset raiH rai
  by_cases e1 : a = c + 1
  · by_cases e2 : b = 4 * p + s
    · subst e1; subst e2
      rw [if_pos ⟨rfl, rfl⟩, if_pos rfl, if_neg hne, if_pos rfl]
    · rw [if_neg (by omega), if_neg (by omega), if_pos e1, if_neg hne, if_neg e2, e1]
  · rw [if_neg (by omega), if_neg e1]
theorem rai_H2 {h : mH} {c : Nat} {p s l : Int} (hs : 0 ≤ s) (hs2 : s ≤ 3) (he : h (c + 1) (4 * p + s) + 1 = l) : hlvH (hset (hset h c 1 (h c 1 + thN (h (c + 1)) p)) (c + 1) (4 * p + s) (h (c + 1) (4 * p + s) + 1)) c p (4 * p + 4) = raiH h c p s l := by
  funext a b
  unfold hlvH hset raiH rai
  by_cases e1 : a = c + 1
  · subst e1
    rw [if_pos rfl, if_pos he]
    by_cases e3 : 4 * p ≤ b ∧ b < 4 * p + 4
    · rw [if_pos ⟨rfl, e3⟩, if_pos e3]
      by_cases e2 : b = 4 * p + s
      · subst e2
        rw [if_pos ⟨rfl, rfl⟩, if_pos rfl]
      · rw [if_neg (by omega), if_neg (by omega), if_neg e2]
    · rw [if_neg (fun q => e3 q.2), if_neg e3, if_neg (by omega), if_neg (by omega)]
  · rw [if_neg (by omega), if_neg (by omega), if_neg e1]

set_option maxHeartbeats 4000000 in
set_option maxRecDepth 100000 in
theorem ctx_raises {x : mX} {h : mH} {Q : mH → Prop} {c : Nat} {p s l : Int} (hc : isCtx c) (hp : 0 ≤ p) (hp2 : p ≤ 84) (hs : 0 ≤ s) (hs2 : s ≤ 3) (hbd : ∀ k, 0 ≤ k → k < 340 → 0 ≤ h (c + 1) k ∧ h (c + 1) k ≤ 1000) (ht : 0 ≤ h c 1) (ht2 : h c 1 ≤ 1000) (hQ : Q (raiH h c p s l)) : CtV x mtX0_raises [xR c, xI p, xI s, xI l] h Q := by
  obtain ⟨k1, k2, k3⟩ := hc
  have J : ∀ u v : Int, Go x mtX0_raises 81 [xR c, xI p, xI s, xI l, xI (4 * p), xI u, xI v] [] (hset h c 1 (h c 1 + thN (h (c + 1)) p)) (qV Q) := by
    intro u v
    refine go_aload_n dX0_raises_81 rfl ?_
    refine gfX0_counts (by first | assumption | rfl) flX0_9 dX0_raises_82 ?_
    refine go_iload dX0_raises_85 rfl ?_
    refine go_iload_n dX0_raises_87 rfl ?_
    refine go_iadd dX0_raises_88 (by omega) (by omega) ?_
    refine go_dup2 dX0_raises_89 ?_
    refine go_iaload (by first | assumption | rfl) dX0_raises_90 (by omega) (by omega) ?_
    refine go_iconst dX0_raises_91 ⟨by decide, by decide⟩ ?_
    refine go_iadd dX0_raises_92 (by have := hbd (4 * p + s) (by omega) (by omega); rw [hset_ni (by omega)]; omega) (by have := hbd (4 * p + s) (by omega) (by omega); rw [hset_ni (by omega)]; omega) ?_
    rw [hset_ni (show c + 1 ≠ c by omega)]
    refine go_iastore (by first | assumption | rfl) dX0_raises_93 (by omega) (by omega) ?_
    refine go_aload_n dX0_raises_94 rfl ?_
    refine gfX0_counts (by first | assumption | rfl) flX0_9 dX0_raises_95 ?_
    refine go_iload dX0_raises_98 rfl ?_
    refine go_iload_n dX0_raises_100 rfl ?_
    refine go_iadd dX0_raises_101 (by omega) (by omega) ?_
    refine go_iaload (by first | assumption | rfl) dX0_raises_102 (by omega) (by omega) ?_
    rw [hset_eq]
    refine go_iload_n dX0_raises_103 rfl ?_
    refine go_icmp_eq (tgt := 108) dX0_raises_104 (by decide) (fun c104 => ?_) (fun c104 => ?_)
    · refine go_iload dX0_raises_108 rfl ?_
      refine go_istore dX0_raises_110 (Nat.le_of_ble_eq_true rfl) rfl (by dsimp only [List.set]) ?_
      have hnn : ∀ k, 0 ≤ k → k < 340 → 0 ≤ hset (hset h c 1 (h c 1 + thN (h (c + 1)) p)) (c + 1) (4 * p + s) (h (c + 1) (4 * p + s) + 1) (c + 1) k := by
        intro k hk0 hk1
        have := hbd k hk0 hk1
        by_cases e : k = 4 * p + s
        · rw [e, hset_eq]; rw [e] at this; omega
        · rw [hset_nk e, hset_ni (by omega)]; omega
      generalize hge : hset (hset h c 1 (h c 1 + thN (h (c + 1)) p)) (c + 1) (4 * p + s) (h (c + 1) (4 * p + s) + 1) = g at hnn ⊢
      have e0 : hlvH g c p (4 * p) = g := by
        funext a b; unfold hlvH; rw [if_neg (by omega)]
      have key : Go x mtX0_raises 112 [xR c, xI p, xI s, xI l, xI (4 * p), xI u, xI (4 * p)] [] (hlvH g c p (4 * p)) (qV Q) := by
        refine up_ind (P := fun i => Go x mtX0_raises 112 [xR c, xI p, xI s, xI l, xI (4 * p), xI u, xI i] [] (hlvH g c p i) (qV Q)) (lo := 4 * p) (n := 4 * p + 4) (by omega) (fun i hi0 hin ih => ?_)
        by_cases hlt : i < 4 * p + 4
        · skip
          refine go_iload dX0_raises_112 rfl ?_
          refine go_iload dX0_raises_114 rfl ?_
          refine go_iconst dX0_raises_116 ⟨by decide, by decide⟩ ?_
          refine go_iadd dX0_raises_117 (by omega) (by omega) ?_
          refine go_icmp_ge_f (tgt := 138) dX0_raises_118 (by decide) (by omega) ?_
          refine go_aload_n dX0_raises_121 rfl ?_
          refine gfX0_counts (by first | assumption | rfl) flX0_9 dX0_raises_122 ?_
          refine go_iload dX0_raises_125 rfl ?_
          refine go_dup2 dX0_raises_127 ?_
          refine go_iaload (by first | assumption | rfl) dX0_raises_128 (by omega) (by omega) ?_
          refine go_iconst dX0_raises_129 ⟨by decide, by decide⟩ ?_
          refine go_idiv dX0_raises_130 (by unfold hlvH; rw [if_neg (by omega)]; exact hnn i (by omega) (by omega)) (by omega) ?_
          refine go_iastore (by first | assumption | rfl) dX0_raises_131 (by omega) (by omega) ?_
          refine go_iinc dX0_raises_132 rfl rfl rfl (by omega) (by omega) (by dsimp only [List.set]) ?_
          refine go_goto (tgt := 112) dX0_raises_135 (by decide) ?_
          rw [hlv_step (by omega)]
          exact ih (by omega)
        · have hie : i = 4 * p + 4 := by omega
          subst hie
          refine go_iload dX0_raises_112 rfl ?_
          refine go_iload dX0_raises_114 rfl ?_
          refine go_iconst dX0_raises_116 ⟨by decide, by decide⟩ ?_
          refine go_iadd dX0_raises_117 (by omega) (by omega) ?_
          refine go_icmp_ge_t (tgt := 138) dX0_raises_118 (by decide) (by omega) ?_
          refine go_return dX0_raises_138 rfl ?_
          rw [← hge, rai_H2 hs hs2 (by omega)]
          exact hQ
      rw [e0] at key
      exact key
    · refine go_return dX0_raises_107 rfl ?_
      rw [rai_H1 c104]
      exact hQ
  have e2 : 4 * p + 1 + 1 = 4 * p + 2 := by omega
  have e3 : 4 * p + 2 + 1 = 4 * p + 3 := by omega
  have e4 : 4 * p + 3 + 1 = 4 * p + 4 := by omega
  have g0 := hbd (4 * p) (by omega) (by omega)
  have g1 := hbd (4 * p + 1) (by omega) (by omega)
  have g2 := hbd (4 * p + 2) (by omega) (by omega)
  have g3 := hbd (4 * p + 3) (by omega) (by omega)
  have hz1 : h (c + 1) (4 * p) + h (c + 1) (4 * p + 1) + h (c + 1) (4 * p + 2) + h (c + 1) (4 * p + 3) = 0 → h c 1 + 1 = h c 1 + thN (h (c + 1)) p := by
    intro q; unfold thN; rw [if_pos (by omega)]
  have hz0 : h (c + 1) (4 * p) + h (c + 1) (4 * p + 1) + h (c + 1) (4 * p + 2) + h (c + 1) (4 * p + 3) ≠ 0 → hset h c 1 (h c 1 + thN (h (c + 1)) p) = h := by
    intro q; unfold thN; rw [if_neg (by omega)]; exact hset_id (by omega)
  refine ct_go (ls := [xR c, xI p, xI s, xI l, xU, xU, xU]) (by decide +kernel) (Nat.le_of_ble_eq_true rfl) rfl ?_
  refine go_iconst dX0_raises_0 ⟨by decide, by decide⟩ ?_
  refine go_iload_n dX0_raises_1 rfl ?_
  refine go_imul dX0_raises_2 (by omega) (by omega) ?_
  refine go_istore dX0_raises_3 (Nat.le_of_ble_eq_true rfl) rfl (by dsimp only [List.set]) ?_
  refine go_iload dX0_raises_5 rfl ?_
  refine go_if_lt_f (tgt := 31) dX0_raises_7 (by decide) (by omega) ?_
  refine go_iload dX0_raises_10 rfl ?_
  refine go_aload_n dX0_raises_12 rfl ?_
  refine gfX0_counts (by first | assumption | rfl) flX0_9 dX0_raises_13 ?_
  refine go_alen (Or.inl (by first | assumption | rfl)) dX0_raises_16 (⟨by omega, by omega⟩) ?_
  refine go_iconst dX0_raises_17 ⟨by decide, by decide⟩ ?_
  refine go_isub dX0_raises_18 (by omega) (by omega) ?_
  refine go_icmp_gt_f (tgt := 31) dX0_raises_19 (by decide) (by omega) ?_
  refine go_iload_n dX0_raises_22 rfl ?_
  refine go_if_lt_f (tgt := 31) dX0_raises_23 (by decide) (by omega) ?_
  refine go_iload_n dX0_raises_26 rfl ?_
  refine go_iconst dX0_raises_27 ⟨by decide, by decide⟩ ?_
  refine go_icmp_lt_t (tgt := 32) dX0_raises_28 (by decide) (by omega) ?_
  refine go_iconst dX0_raises_32 ⟨by decide, by decide⟩ ?_
  refine go_istore dX0_raises_33 (Nat.le_of_ble_eq_true rfl) rfl (by dsimp only [List.set]) ?_
  refine go_iload dX0_raises_35 rfl ?_
  refine go_istore dX0_raises_37 (Nat.le_of_ble_eq_true rfl) rfl (by dsimp only [List.set]) ?_
  try simp only [e2, e3, e4]
  refine go_iload dX0_raises_39 rfl ?_
  refine go_iload dX0_raises_41 rfl ?_
  refine go_iconst dX0_raises_43 ⟨by decide, by decide⟩ ?_
  refine go_iadd dX0_raises_44 (by omega) (by omega) ?_
  refine go_icmp_ge_f (tgt := 66) dX0_raises_45 (by decide) (by omega) ?_
  refine go_iload dX0_raises_48 rfl ?_
  refine go_aload_n dX0_raises_50 rfl ?_
  refine gfX0_counts (by first | assumption | rfl) flX0_9 dX0_raises_51 ?_
  refine go_iload dX0_raises_54 rfl ?_
  refine go_iaload (by first | assumption | rfl) dX0_raises_56 (by omega) (by omega) ?_
  refine go_iadd dX0_raises_57 (by omega) (by omega) ?_
  refine go_istore dX0_raises_58 (Nat.le_of_ble_eq_true rfl) rfl (by dsimp only [List.set]) ?_
  refine go_iinc dX0_raises_60 rfl rfl rfl (by omega) (by omega) (by dsimp only [List.set]) ?_
  refine go_goto (tgt := 39) dX0_raises_63 (by decide) ?_
  try simp only [e2, e3, e4]
  refine go_iload dX0_raises_39 rfl ?_
  refine go_iload dX0_raises_41 rfl ?_
  refine go_iconst dX0_raises_43 ⟨by decide, by decide⟩ ?_
  refine go_iadd dX0_raises_44 (by omega) (by omega) ?_
  refine go_icmp_ge_f (tgt := 66) dX0_raises_45 (by decide) (by omega) ?_
  refine go_iload dX0_raises_48 rfl ?_
  refine go_aload_n dX0_raises_50 rfl ?_
  refine gfX0_counts (by first | assumption | rfl) flX0_9 dX0_raises_51 ?_
  refine go_iload dX0_raises_54 rfl ?_
  refine go_iaload (by first | assumption | rfl) dX0_raises_56 (by omega) (by omega) ?_
  refine go_iadd dX0_raises_57 (by omega) (by omega) ?_
  refine go_istore dX0_raises_58 (Nat.le_of_ble_eq_true rfl) rfl (by dsimp only [List.set]) ?_
  refine go_iinc dX0_raises_60 rfl rfl rfl (by omega) (by omega) (by dsimp only [List.set]) ?_
  refine go_goto (tgt := 39) dX0_raises_63 (by decide) ?_
  try simp only [e2, e3, e4]
  refine go_iload dX0_raises_39 rfl ?_
  refine go_iload dX0_raises_41 rfl ?_
  refine go_iconst dX0_raises_43 ⟨by decide, by decide⟩ ?_
  refine go_iadd dX0_raises_44 (by omega) (by omega) ?_
  refine go_icmp_ge_f (tgt := 66) dX0_raises_45 (by decide) (by omega) ?_
  refine go_iload dX0_raises_48 rfl ?_
  refine go_aload_n dX0_raises_50 rfl ?_
  refine gfX0_counts (by first | assumption | rfl) flX0_9 dX0_raises_51 ?_
  refine go_iload dX0_raises_54 rfl ?_
  refine go_iaload (by first | assumption | rfl) dX0_raises_56 (by omega) (by omega) ?_
  refine go_iadd dX0_raises_57 (by omega) (by omega) ?_
  refine go_istore dX0_raises_58 (Nat.le_of_ble_eq_true rfl) rfl (by dsimp only [List.set]) ?_
  refine go_iinc dX0_raises_60 rfl rfl rfl (by omega) (by omega) (by dsimp only [List.set]) ?_
  refine go_goto (tgt := 39) dX0_raises_63 (by decide) ?_
  try simp only [e2, e3, e4]
  refine go_iload dX0_raises_39 rfl ?_
  refine go_iload dX0_raises_41 rfl ?_
  refine go_iconst dX0_raises_43 ⟨by decide, by decide⟩ ?_
  refine go_iadd dX0_raises_44 (by omega) (by omega) ?_
  refine go_icmp_ge_f (tgt := 66) dX0_raises_45 (by decide) (by omega) ?_
  refine go_iload dX0_raises_48 rfl ?_
  refine go_aload_n dX0_raises_50 rfl ?_
  refine gfX0_counts (by first | assumption | rfl) flX0_9 dX0_raises_51 ?_
  refine go_iload dX0_raises_54 rfl ?_
  refine go_iaload (by first | assumption | rfl) dX0_raises_56 (by omega) (by omega) ?_
  refine go_iadd dX0_raises_57 (by omega) (by omega) ?_
  refine go_istore dX0_raises_58 (Nat.le_of_ble_eq_true rfl) rfl (by dsimp only [List.set]) ?_
  refine go_iinc dX0_raises_60 rfl rfl rfl (by omega) (by omega) (by dsimp only [List.set]) ?_
  refine go_goto (tgt := 39) dX0_raises_63 (by decide) ?_
  try simp only [e2, e3, e4]
  refine go_iload dX0_raises_39 rfl ?_
  refine go_iload dX0_raises_41 rfl ?_
  refine go_iconst dX0_raises_43 ⟨by decide, by decide⟩ ?_
  refine go_iadd dX0_raises_44 (by omega) (by omega) ?_
  refine go_icmp_ge_t (tgt := 66) dX0_raises_45 (by decide) (by omega) ?_
  refine go_iload dX0_raises_66 rfl ?_
  refine go_if_ne (tgt := 81) dX0_raises_68 (by decide) (fun c68 => ?_) (fun c68 => ?_)
  · first | (rw [hz1 (by omega)]; exact J _ _) | (rw [hz0 (by omega)] at J; exact J _ _)
  · refine go_aload_n dX0_raises_71 rfl ?_
    first | refine go_dupR dX0_raises_72 ?_ | refine go_dupI dX0_raises_72 ?_
    refine gfX0_there (by first | assumption | rfl) flX0_15 dX0_raises_73 ?_
    refine go_iconst dX0_raises_76 ⟨by decide, by decide⟩ ?_
    refine go_iadd dX0_raises_77 (by omega) (by omega) ?_
    refine pfX0_there (by first | assumption | rfl) flX0_15 dX0_raises_78 ?_
    first | (rw [hz1 (by omega)]; exact J _ _) | (rw [hz0 (by omega)] at J; exact J _ _)
end
section
/-! ===== Stage ===== -/
theorem up_indN {P : Nat → Prop} (n : Nat) (st : ∀ s, s ≤ n → (s < n → P (s + 1)) → P s) : P 0 := by
  have key : ∀ (d s : Nat), s ≤ n → n - s ≤ d → P s := by
    intro d
    induction d with
    | zero => intro s h1 h2; exact st s h1 (fun h => absurd h (by omega))
    | succ d ih => intro s h1 h2; exact st s h1 (fun h => ih (s + 1) (by omega) (by omega))
  exact key n 0 (Nat.zero_le _) (by omega)
theorem shr_ok : ∀ m, m < 16 → ∀ s, s < 4 → Int32.ofInt ((m : Nat) : Int) >>> (Int32.ofInt ((s : Nat) : Int) &&& 31) = Int32.ofInt ((m >>> s : Nat) : Int) := by decide +kernel
theorem shr_bd : ∀ m, m < 16 → ∀ s, s < 4 → m >>> s < 16 := by decide +kernel
theorem and1_ok : ∀ m, m < 16 → ∀ s, s < 4 → Int32.ofInt ((m >>> s : Nat) : Int) &&& Int32.ofInt 1 = Int32.ofInt (b1 (hb m s)) := by decide +kernel
theorem shl_ok : ∀ s, s < 4 → Int32.ofInt 1 <<< (Int32.ofInt ((s : Nat) : Int) &&& 31) = Int32.ofInt ((2 ^ s : Nat) : Int) := by decide +kernel
theorem orp_ok : ∀ s, s < 4 → ∀ m, m < 2 ^ s → Int32.ofInt ((m : Nat) : Int) ||| Int32.ofInt ((2 ^ s : Nat) : Int) = Int32.ofInt ((m + 2 ^ s : Nat) : Int) := by decide +kernel
theorem orm_ok : ∀ a, a < 16 → ∀ b, b < 16 → Int32.ofInt ((a : Nat) : Int) ||| Int32.ofInt ((b : Nat) : Int) = Int32.ofInt ((a ||| b : Nat) : Int) := by decide +kernel
theorem orm_bd : ∀ a, a < 16 → ∀ b, b < 16 → a ||| b < 16 := by decide +kernel
theorem pow_bd : ∀ s, s < 4 → 2 ^ s ≤ 8 := by decide +kernel
theorem pow_bd2 : ∀ s, s < 4 → 2 ^ (s + 1) ≤ 16 := by decide +kernel
theorem inR_nat {n : Nat} (h : n < 100000) : inR (n : Int) := ⟨by omega, by omega⟩
theorem b1_bd (b : Bool) : 0 ≤ b1 b ∧ b1 b ≤ 1 := by cases b <;> decide
theorem pc4_bd (m : Nat) : 0 ≤ pc4 m ∧ pc4 m ≤ 4 := by
  have h0 := b1_bd (hb m 0); have h1 := b1_bd (hb m 1); have h2 := b1_bd (hb m 2); have h3 := b1_bd (hb m 3)
  unfold pc4; omega
theorem tot_bd {w : Nat → Int} {B : Int} : ∀ {n : Nat}, (∀ k, k < n → 0 ≤ w k ∧ w k ≤ B) → 0 ≤ tot w n ∧ tot w n ≤ n * B
  | 0, _ => by simp [tot]
  | n + 1, h => by
    have h1 := tot_bd (n := n) (fun k hk => h k (by omega))
    have h2 := h n (by omega)
    rw [tot]
    have e : ((n + 1 : Nat) : Int) * B = (n : Int) * B + B := by rw [show ((n + 1 : Nat) : Int) = (n : Int) + 1 by omega, Int.add_mul, Int.one_mul]
    rw [e]; omega
theorem opn_congr {w w' : Nat → Int} : ∀ {n : Nat}, (∀ k, k < n → w k = w' k) → opn w n = opn w' n
  | 0, _ => rfl
  | n + 1, h => by rw [opn, opn, opn_congr (n := n) (fun k hk => h k (by omega)), h n (by omega)]
theorem wE_lt {cs : Int → Int} {pl : Int} {sh s : Nat} (h : s < 4) : wE cs pl sh s = wS cs pl sh s := by unfold wE; rw [if_neg (by omega)]
theorem wE_4 {cs : Int → Int} {pl : Int} {sh : Nat} : wE cs pl sh 4 = esc pl sh (opn (wS cs pl sh) 4) := by unfold wE; rw [if_pos rfl]
theorem esc_bd (pl : Int) (sh op : Nat) : 0 ≤ esc pl sh op ∧ esc pl sh op ≤ 4 := by
  unfold esc
  split
  · omega
  · exact pc4_bd op

set_option maxHeartbeats 4000000 in
set_option maxRecDepth 100000 in
theorem j_bit_0 {x : mX} {h : mH} {Q : Int → mH → Prop} (hQ : Q 0 h) : CtI x mtJ6_bitCount_0f7a4 [xI 0] h Q := by
  refine ct_go (ls := [xI 0]) (by decide +kernel) (Nat.le_of_ble_eq_true rfl) rfl ?_
  refine go_iload_n dJ6_bitCount_0f7a4_0 rfl ?_
  refine go_iload_n dJ6_bitCount_0f7a4_1 rfl ?_
  refine go_iconst dJ6_bitCount_0f7a4_2 ⟨by decide, by decide⟩ ?_
  refine go_iushr (z := 0) dJ6_bitCount_0f7a4_3 (by decide +kernel) ⟨by decide, by decide⟩ ?_
  refine go_ldcw dJ6_bitCount_0f7a4_4 knJ6_265 ⟨by decide, by decide⟩ ?_
  refine go_iand (z := 0) dJ6_bitCount_0f7a4_7 (by decide +kernel) ⟨by decide, by decide⟩ ?_
  refine go_isub dJ6_bitCount_0f7a4_8 (by decide) (by decide) ?_
  refine go_istore_n 0 dJ6_bitCount_0f7a4_9 rfl (Nat.le_of_ble_eq_true rfl) rfl (by dsimp only [List.set]) ?_
  refine go_iload_n dJ6_bitCount_0f7a4_10 rfl ?_
  refine go_ldcw dJ6_bitCount_0f7a4_11 knJ6_266 ⟨by decide, by decide⟩ ?_
  refine go_iand (z := 0) dJ6_bitCount_0f7a4_14 (by decide +kernel) ⟨by decide, by decide⟩ ?_
  refine go_iload_n dJ6_bitCount_0f7a4_15 rfl ?_
  refine go_iconst dJ6_bitCount_0f7a4_16 ⟨by decide, by decide⟩ ?_
  refine go_iushr (z := 0) dJ6_bitCount_0f7a4_17 (by decide +kernel) ⟨by decide, by decide⟩ ?_
  refine go_ldcw dJ6_bitCount_0f7a4_18 knJ6_266 ⟨by decide, by decide⟩ ?_
  refine go_iand (z := 0) dJ6_bitCount_0f7a4_21 (by decide +kernel) ⟨by decide, by decide⟩ ?_
  refine go_iadd dJ6_bitCount_0f7a4_22 (by decide) (by decide) ?_
  refine go_istore_n 0 dJ6_bitCount_0f7a4_23 rfl (Nat.le_of_ble_eq_true rfl) rfl (by dsimp only [List.set]) ?_
  refine go_iload_n dJ6_bitCount_0f7a4_24 rfl ?_
  refine go_iload_n dJ6_bitCount_0f7a4_25 rfl ?_
  refine go_iconst dJ6_bitCount_0f7a4_26 ⟨by decide, by decide⟩ ?_
  refine go_iushr (z := 0) dJ6_bitCount_0f7a4_27 (by decide +kernel) ⟨by decide, by decide⟩ ?_
  refine go_iadd dJ6_bitCount_0f7a4_28 (by decide) (by decide) ?_
  refine go_ldcw dJ6_bitCount_0f7a4_29 knJ6_267 ⟨by decide, by decide⟩ ?_
  refine go_iand (z := 0) dJ6_bitCount_0f7a4_32 (by decide +kernel) ⟨by decide, by decide⟩ ?_
  refine go_istore_n 0 dJ6_bitCount_0f7a4_33 rfl (Nat.le_of_ble_eq_true rfl) rfl (by dsimp only [List.set]) ?_
  refine go_iload_n dJ6_bitCount_0f7a4_34 rfl ?_
  refine go_iload_n dJ6_bitCount_0f7a4_35 rfl ?_
  refine go_bipush dJ6_bitCount_0f7a4_36 (by decide +kernel) ⟨by decide, by decide⟩ ?_
  refine go_iushr (z := 0) dJ6_bitCount_0f7a4_38 (by decide +kernel) ⟨by decide, by decide⟩ ?_
  refine go_iadd dJ6_bitCount_0f7a4_39 (by decide) (by decide) ?_
  refine go_istore_n 0 dJ6_bitCount_0f7a4_40 rfl (Nat.le_of_ble_eq_true rfl) rfl (by dsimp only [List.set]) ?_
  refine go_iload_n dJ6_bitCount_0f7a4_41 rfl ?_
  refine go_iload_n dJ6_bitCount_0f7a4_42 rfl ?_
  refine go_bipush dJ6_bitCount_0f7a4_43 (by decide +kernel) ⟨by decide, by decide⟩ ?_
  refine go_iushr (z := 0) dJ6_bitCount_0f7a4_45 (by decide +kernel) ⟨by decide, by decide⟩ ?_
  refine go_iadd dJ6_bitCount_0f7a4_46 (by decide) (by decide) ?_
  refine go_istore_n 0 dJ6_bitCount_0f7a4_47 rfl (Nat.le_of_ble_eq_true rfl) rfl (by dsimp only [List.set]) ?_
  refine go_iload_n dJ6_bitCount_0f7a4_48 rfl ?_
  refine go_bipush dJ6_bitCount_0f7a4_49 (by decide +kernel) ⟨by decide, by decide⟩ ?_
  refine go_iand (z := 0) dJ6_bitCount_0f7a4_51 (by decide +kernel) ⟨by decide, by decide⟩ ?_
  refine go_ireturn dJ6_bitCount_0f7a4_52 rfl ?_
  exact hQ

set_option maxHeartbeats 4000000 in
set_option maxRecDepth 100000 in
theorem j_bit_1 {x : mX} {h : mH} {Q : Int → mH → Prop} (hQ : Q 1 h) : CtI x mtJ6_bitCount_0f7a4 [xI 1] h Q := by
  refine ct_go (ls := [xI 1]) (by decide +kernel) (Nat.le_of_ble_eq_true rfl) rfl ?_
  refine go_iload_n dJ6_bitCount_0f7a4_0 rfl ?_
  refine go_iload_n dJ6_bitCount_0f7a4_1 rfl ?_
  refine go_iconst dJ6_bitCount_0f7a4_2 ⟨by decide, by decide⟩ ?_
  refine go_iushr (z := 0) dJ6_bitCount_0f7a4_3 (by decide +kernel) ⟨by decide, by decide⟩ ?_
  refine go_ldcw dJ6_bitCount_0f7a4_4 knJ6_265 ⟨by decide, by decide⟩ ?_
  refine go_iand (z := 0) dJ6_bitCount_0f7a4_7 (by decide +kernel) ⟨by decide, by decide⟩ ?_
  refine go_isub dJ6_bitCount_0f7a4_8 (by decide) (by decide) ?_
  refine go_istore_n 0 dJ6_bitCount_0f7a4_9 rfl (Nat.le_of_ble_eq_true rfl) rfl (by dsimp only [List.set]) ?_
  refine go_iload_n dJ6_bitCount_0f7a4_10 rfl ?_
  refine go_ldcw dJ6_bitCount_0f7a4_11 knJ6_266 ⟨by decide, by decide⟩ ?_
  refine go_iand (z := 1) dJ6_bitCount_0f7a4_14 (by decide +kernel) ⟨by decide, by decide⟩ ?_
  refine go_iload_n dJ6_bitCount_0f7a4_15 rfl ?_
  refine go_iconst dJ6_bitCount_0f7a4_16 ⟨by decide, by decide⟩ ?_
  refine go_iushr (z := 0) dJ6_bitCount_0f7a4_17 (by decide +kernel) ⟨by decide, by decide⟩ ?_
  refine go_ldcw dJ6_bitCount_0f7a4_18 knJ6_266 ⟨by decide, by decide⟩ ?_
  refine go_iand (z := 0) dJ6_bitCount_0f7a4_21 (by decide +kernel) ⟨by decide, by decide⟩ ?_
  refine go_iadd dJ6_bitCount_0f7a4_22 (by decide) (by decide) ?_
  refine go_istore_n 0 dJ6_bitCount_0f7a4_23 rfl (Nat.le_of_ble_eq_true rfl) rfl (by dsimp only [List.set]) ?_
  refine go_iload_n dJ6_bitCount_0f7a4_24 rfl ?_
  refine go_iload_n dJ6_bitCount_0f7a4_25 rfl ?_
  refine go_iconst dJ6_bitCount_0f7a4_26 ⟨by decide, by decide⟩ ?_
  refine go_iushr (z := 0) dJ6_bitCount_0f7a4_27 (by decide +kernel) ⟨by decide, by decide⟩ ?_
  refine go_iadd dJ6_bitCount_0f7a4_28 (by decide) (by decide) ?_
  refine go_ldcw dJ6_bitCount_0f7a4_29 knJ6_267 ⟨by decide, by decide⟩ ?_
  refine go_iand (z := 1) dJ6_bitCount_0f7a4_32 (by decide +kernel) ⟨by decide, by decide⟩ ?_
  refine go_istore_n 0 dJ6_bitCount_0f7a4_33 rfl (Nat.le_of_ble_eq_true rfl) rfl (by dsimp only [List.set]) ?_
  refine go_iload_n dJ6_bitCount_0f7a4_34 rfl ?_
  refine go_iload_n dJ6_bitCount_0f7a4_35 rfl ?_
  refine go_bipush dJ6_bitCount_0f7a4_36 (by decide +kernel) ⟨by decide, by decide⟩ ?_
  refine go_iushr (z := 0) dJ6_bitCount_0f7a4_38 (by decide +kernel) ⟨by decide, by decide⟩ ?_
  refine go_iadd dJ6_bitCount_0f7a4_39 (by decide) (by decide) ?_
  refine go_istore_n 0 dJ6_bitCount_0f7a4_40 rfl (Nat.le_of_ble_eq_true rfl) rfl (by dsimp only [List.set]) ?_
  refine go_iload_n dJ6_bitCount_0f7a4_41 rfl ?_
  refine go_iload_n dJ6_bitCount_0f7a4_42 rfl ?_
  refine go_bipush dJ6_bitCount_0f7a4_43 (by decide +kernel) ⟨by decide, by decide⟩ ?_
  refine go_iushr (z := 0) dJ6_bitCount_0f7a4_45 (by decide +kernel) ⟨by decide, by decide⟩ ?_
  refine go_iadd dJ6_bitCount_0f7a4_46 (by decide) (by decide) ?_
  refine go_istore_n 0 dJ6_bitCount_0f7a4_47 rfl (Nat.le_of_ble_eq_true rfl) rfl (by dsimp only [List.set]) ?_
  refine go_iload_n dJ6_bitCount_0f7a4_48 rfl ?_
  refine go_bipush dJ6_bitCount_0f7a4_49 (by decide +kernel) ⟨by decide, by decide⟩ ?_
  refine go_iand (z := 1) dJ6_bitCount_0f7a4_51 (by decide +kernel) ⟨by decide, by decide⟩ ?_
  refine go_ireturn dJ6_bitCount_0f7a4_52 rfl ?_
  exact hQ

set_option maxHeartbeats 4000000 in
set_option maxRecDepth 100000 in
theorem j_bit_2 {x : mX} {h : mH} {Q : Int → mH → Prop} (hQ : Q 1 h) : CtI x mtJ6_bitCount_0f7a4 [xI 2] h Q := by
  refine ct_go (ls := [xI 2]) (by decide +kernel) (Nat.le_of_ble_eq_true rfl) rfl ?_
  refine go_iload_n dJ6_bitCount_0f7a4_0 rfl ?_
  refine go_iload_n dJ6_bitCount_0f7a4_1 rfl ?_
  refine go_iconst dJ6_bitCount_0f7a4_2 ⟨by decide, by decide⟩ ?_
  refine go_iushr (z := 1) dJ6_bitCount_0f7a4_3 (by decide +kernel) ⟨by decide, by decide⟩ ?_
  refine go_ldcw dJ6_bitCount_0f7a4_4 knJ6_265 ⟨by decide, by decide⟩ ?_
  refine go_iand (z := 1) dJ6_bitCount_0f7a4_7 (by decide +kernel) ⟨by decide, by decide⟩ ?_
  refine go_isub dJ6_bitCount_0f7a4_8 (by decide) (by decide) ?_
  refine go_istore_n 0 dJ6_bitCount_0f7a4_9 rfl (Nat.le_of_ble_eq_true rfl) rfl (by dsimp only [List.set]) ?_
  refine go_iload_n dJ6_bitCount_0f7a4_10 rfl ?_
  refine go_ldcw dJ6_bitCount_0f7a4_11 knJ6_266 ⟨by decide, by decide⟩ ?_
  refine go_iand (z := 1) dJ6_bitCount_0f7a4_14 (by decide +kernel) ⟨by decide, by decide⟩ ?_
  refine go_iload_n dJ6_bitCount_0f7a4_15 rfl ?_
  refine go_iconst dJ6_bitCount_0f7a4_16 ⟨by decide, by decide⟩ ?_
  refine go_iushr (z := 0) dJ6_bitCount_0f7a4_17 (by decide +kernel) ⟨by decide, by decide⟩ ?_
  refine go_ldcw dJ6_bitCount_0f7a4_18 knJ6_266 ⟨by decide, by decide⟩ ?_
  refine go_iand (z := 0) dJ6_bitCount_0f7a4_21 (by decide +kernel) ⟨by decide, by decide⟩ ?_
  refine go_iadd dJ6_bitCount_0f7a4_22 (by decide) (by decide) ?_
  refine go_istore_n 0 dJ6_bitCount_0f7a4_23 rfl (Nat.le_of_ble_eq_true rfl) rfl (by dsimp only [List.set]) ?_
  refine go_iload_n dJ6_bitCount_0f7a4_24 rfl ?_
  refine go_iload_n dJ6_bitCount_0f7a4_25 rfl ?_
  refine go_iconst dJ6_bitCount_0f7a4_26 ⟨by decide, by decide⟩ ?_
  refine go_iushr (z := 0) dJ6_bitCount_0f7a4_27 (by decide +kernel) ⟨by decide, by decide⟩ ?_
  refine go_iadd dJ6_bitCount_0f7a4_28 (by decide) (by decide) ?_
  refine go_ldcw dJ6_bitCount_0f7a4_29 knJ6_267 ⟨by decide, by decide⟩ ?_
  refine go_iand (z := 1) dJ6_bitCount_0f7a4_32 (by decide +kernel) ⟨by decide, by decide⟩ ?_
  refine go_istore_n 0 dJ6_bitCount_0f7a4_33 rfl (Nat.le_of_ble_eq_true rfl) rfl (by dsimp only [List.set]) ?_
  refine go_iload_n dJ6_bitCount_0f7a4_34 rfl ?_
  refine go_iload_n dJ6_bitCount_0f7a4_35 rfl ?_
  refine go_bipush dJ6_bitCount_0f7a4_36 (by decide +kernel) ⟨by decide, by decide⟩ ?_
  refine go_iushr (z := 0) dJ6_bitCount_0f7a4_38 (by decide +kernel) ⟨by decide, by decide⟩ ?_
  refine go_iadd dJ6_bitCount_0f7a4_39 (by decide) (by decide) ?_
  refine go_istore_n 0 dJ6_bitCount_0f7a4_40 rfl (Nat.le_of_ble_eq_true rfl) rfl (by dsimp only [List.set]) ?_
  refine go_iload_n dJ6_bitCount_0f7a4_41 rfl ?_
  refine go_iload_n dJ6_bitCount_0f7a4_42 rfl ?_
  refine go_bipush dJ6_bitCount_0f7a4_43 (by decide +kernel) ⟨by decide, by decide⟩ ?_
  refine go_iushr (z := 0) dJ6_bitCount_0f7a4_45 (by decide +kernel) ⟨by decide, by decide⟩ ?_
  refine go_iadd dJ6_bitCount_0f7a4_46 (by decide) (by decide) ?_
  refine go_istore_n 0 dJ6_bitCount_0f7a4_47 rfl (Nat.le_of_ble_eq_true rfl) rfl (by dsimp only [List.set]) ?_
  refine go_iload_n dJ6_bitCount_0f7a4_48 rfl ?_
  refine go_bipush dJ6_bitCount_0f7a4_49 (by decide +kernel) ⟨by decide, by decide⟩ ?_
  refine go_iand (z := 1) dJ6_bitCount_0f7a4_51 (by decide +kernel) ⟨by decide, by decide⟩ ?_
  refine go_ireturn dJ6_bitCount_0f7a4_52 rfl ?_
  exact hQ

set_option maxHeartbeats 4000000 in
set_option maxRecDepth 100000 in
theorem j_bit_3 {x : mX} {h : mH} {Q : Int → mH → Prop} (hQ : Q 2 h) : CtI x mtJ6_bitCount_0f7a4 [xI 3] h Q := by
  refine ct_go (ls := [xI 3]) (by decide +kernel) (Nat.le_of_ble_eq_true rfl) rfl ?_
  refine go_iload_n dJ6_bitCount_0f7a4_0 rfl ?_
  refine go_iload_n dJ6_bitCount_0f7a4_1 rfl ?_
  refine go_iconst dJ6_bitCount_0f7a4_2 ⟨by decide, by decide⟩ ?_
  refine go_iushr (z := 1) dJ6_bitCount_0f7a4_3 (by decide +kernel) ⟨by decide, by decide⟩ ?_
  refine go_ldcw dJ6_bitCount_0f7a4_4 knJ6_265 ⟨by decide, by decide⟩ ?_
  refine go_iand (z := 1) dJ6_bitCount_0f7a4_7 (by decide +kernel) ⟨by decide, by decide⟩ ?_
  refine go_isub dJ6_bitCount_0f7a4_8 (by decide) (by decide) ?_
  refine go_istore_n 0 dJ6_bitCount_0f7a4_9 rfl (Nat.le_of_ble_eq_true rfl) rfl (by dsimp only [List.set]) ?_
  refine go_iload_n dJ6_bitCount_0f7a4_10 rfl ?_
  refine go_ldcw dJ6_bitCount_0f7a4_11 knJ6_266 ⟨by decide, by decide⟩ ?_
  refine go_iand (z := 2) dJ6_bitCount_0f7a4_14 (by decide +kernel) ⟨by decide, by decide⟩ ?_
  refine go_iload_n dJ6_bitCount_0f7a4_15 rfl ?_
  refine go_iconst dJ6_bitCount_0f7a4_16 ⟨by decide, by decide⟩ ?_
  refine go_iushr (z := 0) dJ6_bitCount_0f7a4_17 (by decide +kernel) ⟨by decide, by decide⟩ ?_
  refine go_ldcw dJ6_bitCount_0f7a4_18 knJ6_266 ⟨by decide, by decide⟩ ?_
  refine go_iand (z := 0) dJ6_bitCount_0f7a4_21 (by decide +kernel) ⟨by decide, by decide⟩ ?_
  refine go_iadd dJ6_bitCount_0f7a4_22 (by decide) (by decide) ?_
  refine go_istore_n 0 dJ6_bitCount_0f7a4_23 rfl (Nat.le_of_ble_eq_true rfl) rfl (by dsimp only [List.set]) ?_
  refine go_iload_n dJ6_bitCount_0f7a4_24 rfl ?_
  refine go_iload_n dJ6_bitCount_0f7a4_25 rfl ?_
  refine go_iconst dJ6_bitCount_0f7a4_26 ⟨by decide, by decide⟩ ?_
  refine go_iushr (z := 0) dJ6_bitCount_0f7a4_27 (by decide +kernel) ⟨by decide, by decide⟩ ?_
  refine go_iadd dJ6_bitCount_0f7a4_28 (by decide) (by decide) ?_
  refine go_ldcw dJ6_bitCount_0f7a4_29 knJ6_267 ⟨by decide, by decide⟩ ?_
  refine go_iand (z := 2) dJ6_bitCount_0f7a4_32 (by decide +kernel) ⟨by decide, by decide⟩ ?_
  refine go_istore_n 0 dJ6_bitCount_0f7a4_33 rfl (Nat.le_of_ble_eq_true rfl) rfl (by dsimp only [List.set]) ?_
  refine go_iload_n dJ6_bitCount_0f7a4_34 rfl ?_
  refine go_iload_n dJ6_bitCount_0f7a4_35 rfl ?_
  refine go_bipush dJ6_bitCount_0f7a4_36 (by decide +kernel) ⟨by decide, by decide⟩ ?_
  refine go_iushr (z := 0) dJ6_bitCount_0f7a4_38 (by decide +kernel) ⟨by decide, by decide⟩ ?_
  refine go_iadd dJ6_bitCount_0f7a4_39 (by decide) (by decide) ?_
  refine go_istore_n 0 dJ6_bitCount_0f7a4_40 rfl (Nat.le_of_ble_eq_true rfl) rfl (by dsimp only [List.set]) ?_
  refine go_iload_n dJ6_bitCount_0f7a4_41 rfl ?_
  refine go_iload_n dJ6_bitCount_0f7a4_42 rfl ?_
  refine go_bipush dJ6_bitCount_0f7a4_43 (by decide +kernel) ⟨by decide, by decide⟩ ?_
  refine go_iushr (z := 0) dJ6_bitCount_0f7a4_45 (by decide +kernel) ⟨by decide, by decide⟩ ?_
  refine go_iadd dJ6_bitCount_0f7a4_46 (by decide) (by decide) ?_
  refine go_istore_n 0 dJ6_bitCount_0f7a4_47 rfl (Nat.le_of_ble_eq_true rfl) rfl (by dsimp only [List.set]) ?_
  refine go_iload_n dJ6_bitCount_0f7a4_48 rfl ?_
  refine go_bipush dJ6_bitCount_0f7a4_49 (by decide +kernel) ⟨by decide, by decide⟩ ?_
  refine go_iand (z := 2) dJ6_bitCount_0f7a4_51 (by decide +kernel) ⟨by decide, by decide⟩ ?_
  refine go_ireturn dJ6_bitCount_0f7a4_52 rfl ?_
  exact hQ

set_option maxHeartbeats 4000000 in
set_option maxRecDepth 100000 in
theorem j_bit_4 {x : mX} {h : mH} {Q : Int → mH → Prop} (hQ : Q 1 h) : CtI x mtJ6_bitCount_0f7a4 [xI 4] h Q := by
  refine ct_go (ls := [xI 4]) (by decide +kernel) (Nat.le_of_ble_eq_true rfl) rfl ?_
  refine go_iload_n dJ6_bitCount_0f7a4_0 rfl ?_
  refine go_iload_n dJ6_bitCount_0f7a4_1 rfl ?_
  refine go_iconst dJ6_bitCount_0f7a4_2 ⟨by decide, by decide⟩ ?_
  refine go_iushr (z := 2) dJ6_bitCount_0f7a4_3 (by decide +kernel) ⟨by decide, by decide⟩ ?_
  refine go_ldcw dJ6_bitCount_0f7a4_4 knJ6_265 ⟨by decide, by decide⟩ ?_
  refine go_iand (z := 0) dJ6_bitCount_0f7a4_7 (by decide +kernel) ⟨by decide, by decide⟩ ?_
  refine go_isub dJ6_bitCount_0f7a4_8 (by decide) (by decide) ?_
  refine go_istore_n 0 dJ6_bitCount_0f7a4_9 rfl (Nat.le_of_ble_eq_true rfl) rfl (by dsimp only [List.set]) ?_
  refine go_iload_n dJ6_bitCount_0f7a4_10 rfl ?_
  refine go_ldcw dJ6_bitCount_0f7a4_11 knJ6_266 ⟨by decide, by decide⟩ ?_
  refine go_iand (z := 0) dJ6_bitCount_0f7a4_14 (by decide +kernel) ⟨by decide, by decide⟩ ?_
  refine go_iload_n dJ6_bitCount_0f7a4_15 rfl ?_
  refine go_iconst dJ6_bitCount_0f7a4_16 ⟨by decide, by decide⟩ ?_
  refine go_iushr (z := 1) dJ6_bitCount_0f7a4_17 (by decide +kernel) ⟨by decide, by decide⟩ ?_
  refine go_ldcw dJ6_bitCount_0f7a4_18 knJ6_266 ⟨by decide, by decide⟩ ?_
  refine go_iand (z := 1) dJ6_bitCount_0f7a4_21 (by decide +kernel) ⟨by decide, by decide⟩ ?_
  refine go_iadd dJ6_bitCount_0f7a4_22 (by decide) (by decide) ?_
  refine go_istore_n 0 dJ6_bitCount_0f7a4_23 rfl (Nat.le_of_ble_eq_true rfl) rfl (by dsimp only [List.set]) ?_
  refine go_iload_n dJ6_bitCount_0f7a4_24 rfl ?_
  refine go_iload_n dJ6_bitCount_0f7a4_25 rfl ?_
  refine go_iconst dJ6_bitCount_0f7a4_26 ⟨by decide, by decide⟩ ?_
  refine go_iushr (z := 0) dJ6_bitCount_0f7a4_27 (by decide +kernel) ⟨by decide, by decide⟩ ?_
  refine go_iadd dJ6_bitCount_0f7a4_28 (by decide) (by decide) ?_
  refine go_ldcw dJ6_bitCount_0f7a4_29 knJ6_267 ⟨by decide, by decide⟩ ?_
  refine go_iand (z := 1) dJ6_bitCount_0f7a4_32 (by decide +kernel) ⟨by decide, by decide⟩ ?_
  refine go_istore_n 0 dJ6_bitCount_0f7a4_33 rfl (Nat.le_of_ble_eq_true rfl) rfl (by dsimp only [List.set]) ?_
  refine go_iload_n dJ6_bitCount_0f7a4_34 rfl ?_
  refine go_iload_n dJ6_bitCount_0f7a4_35 rfl ?_
  refine go_bipush dJ6_bitCount_0f7a4_36 (by decide +kernel) ⟨by decide, by decide⟩ ?_
  refine go_iushr (z := 0) dJ6_bitCount_0f7a4_38 (by decide +kernel) ⟨by decide, by decide⟩ ?_
  refine go_iadd dJ6_bitCount_0f7a4_39 (by decide) (by decide) ?_
  refine go_istore_n 0 dJ6_bitCount_0f7a4_40 rfl (Nat.le_of_ble_eq_true rfl) rfl (by dsimp only [List.set]) ?_
  refine go_iload_n dJ6_bitCount_0f7a4_41 rfl ?_
  refine go_iload_n dJ6_bitCount_0f7a4_42 rfl ?_
  refine go_bipush dJ6_bitCount_0f7a4_43 (by decide +kernel) ⟨by decide, by decide⟩ ?_
  refine go_iushr (z := 0) dJ6_bitCount_0f7a4_45 (by decide +kernel) ⟨by decide, by decide⟩ ?_
  refine go_iadd dJ6_bitCount_0f7a4_46 (by decide) (by decide) ?_
  refine go_istore_n 0 dJ6_bitCount_0f7a4_47 rfl (Nat.le_of_ble_eq_true rfl) rfl (by dsimp only [List.set]) ?_
  refine go_iload_n dJ6_bitCount_0f7a4_48 rfl ?_
  refine go_bipush dJ6_bitCount_0f7a4_49 (by decide +kernel) ⟨by decide, by decide⟩ ?_
  refine go_iand (z := 1) dJ6_bitCount_0f7a4_51 (by decide +kernel) ⟨by decide, by decide⟩ ?_
  refine go_ireturn dJ6_bitCount_0f7a4_52 rfl ?_
  exact hQ

set_option maxHeartbeats 4000000 in
set_option maxRecDepth 100000 in
theorem j_bit_5 {x : mX} {h : mH} {Q : Int → mH → Prop} (hQ : Q 2 h) : CtI x mtJ6_bitCount_0f7a4 [xI 5] h Q := by
  refine ct_go (ls := [xI 5]) (by decide +kernel) (Nat.le_of_ble_eq_true rfl) rfl ?_
  refine go_iload_n dJ6_bitCount_0f7a4_0 rfl ?_
  refine go_iload_n dJ6_bitCount_0f7a4_1 rfl ?_
  refine go_iconst dJ6_bitCount_0f7a4_2 ⟨by decide, by decide⟩ ?_
  refine go_iushr (z := 2) dJ6_bitCount_0f7a4_3 (by decide +kernel) ⟨by decide, by decide⟩ ?_
  refine go_ldcw dJ6_bitCount_0f7a4_4 knJ6_265 ⟨by decide, by decide⟩ ?_
  refine go_iand (z := 0) dJ6_bitCount_0f7a4_7 (by decide +kernel) ⟨by decide, by decide⟩ ?_
  refine go_isub dJ6_bitCount_0f7a4_8 (by decide) (by decide) ?_
  refine go_istore_n 0 dJ6_bitCount_0f7a4_9 rfl (Nat.le_of_ble_eq_true rfl) rfl (by dsimp only [List.set]) ?_
  refine go_iload_n dJ6_bitCount_0f7a4_10 rfl ?_
  refine go_ldcw dJ6_bitCount_0f7a4_11 knJ6_266 ⟨by decide, by decide⟩ ?_
  refine go_iand (z := 1) dJ6_bitCount_0f7a4_14 (by decide +kernel) ⟨by decide, by decide⟩ ?_
  refine go_iload_n dJ6_bitCount_0f7a4_15 rfl ?_
  refine go_iconst dJ6_bitCount_0f7a4_16 ⟨by decide, by decide⟩ ?_
  refine go_iushr (z := 1) dJ6_bitCount_0f7a4_17 (by decide +kernel) ⟨by decide, by decide⟩ ?_
  refine go_ldcw dJ6_bitCount_0f7a4_18 knJ6_266 ⟨by decide, by decide⟩ ?_
  refine go_iand (z := 1) dJ6_bitCount_0f7a4_21 (by decide +kernel) ⟨by decide, by decide⟩ ?_
  refine go_iadd dJ6_bitCount_0f7a4_22 (by decide) (by decide) ?_
  refine go_istore_n 0 dJ6_bitCount_0f7a4_23 rfl (Nat.le_of_ble_eq_true rfl) rfl (by dsimp only [List.set]) ?_
  refine go_iload_n dJ6_bitCount_0f7a4_24 rfl ?_
  refine go_iload_n dJ6_bitCount_0f7a4_25 rfl ?_
  refine go_iconst dJ6_bitCount_0f7a4_26 ⟨by decide, by decide⟩ ?_
  refine go_iushr (z := 0) dJ6_bitCount_0f7a4_27 (by decide +kernel) ⟨by decide, by decide⟩ ?_
  refine go_iadd dJ6_bitCount_0f7a4_28 (by decide) (by decide) ?_
  refine go_ldcw dJ6_bitCount_0f7a4_29 knJ6_267 ⟨by decide, by decide⟩ ?_
  refine go_iand (z := 2) dJ6_bitCount_0f7a4_32 (by decide +kernel) ⟨by decide, by decide⟩ ?_
  refine go_istore_n 0 dJ6_bitCount_0f7a4_33 rfl (Nat.le_of_ble_eq_true rfl) rfl (by dsimp only [List.set]) ?_
  refine go_iload_n dJ6_bitCount_0f7a4_34 rfl ?_
  refine go_iload_n dJ6_bitCount_0f7a4_35 rfl ?_
  refine go_bipush dJ6_bitCount_0f7a4_36 (by decide +kernel) ⟨by decide, by decide⟩ ?_
  refine go_iushr (z := 0) dJ6_bitCount_0f7a4_38 (by decide +kernel) ⟨by decide, by decide⟩ ?_
  refine go_iadd dJ6_bitCount_0f7a4_39 (by decide) (by decide) ?_
  refine go_istore_n 0 dJ6_bitCount_0f7a4_40 rfl (Nat.le_of_ble_eq_true rfl) rfl (by dsimp only [List.set]) ?_
  refine go_iload_n dJ6_bitCount_0f7a4_41 rfl ?_
  refine go_iload_n dJ6_bitCount_0f7a4_42 rfl ?_
  refine go_bipush dJ6_bitCount_0f7a4_43 (by decide +kernel) ⟨by decide, by decide⟩ ?_
  refine go_iushr (z := 0) dJ6_bitCount_0f7a4_45 (by decide +kernel) ⟨by decide, by decide⟩ ?_
  refine go_iadd dJ6_bitCount_0f7a4_46 (by decide) (by decide) ?_
  refine go_istore_n 0 dJ6_bitCount_0f7a4_47 rfl (Nat.le_of_ble_eq_true rfl) rfl (by dsimp only [List.set]) ?_
  refine go_iload_n dJ6_bitCount_0f7a4_48 rfl ?_
  refine go_bipush dJ6_bitCount_0f7a4_49 (by decide +kernel) ⟨by decide, by decide⟩ ?_
  refine go_iand (z := 2) dJ6_bitCount_0f7a4_51 (by decide +kernel) ⟨by decide, by decide⟩ ?_
  refine go_ireturn dJ6_bitCount_0f7a4_52 rfl ?_
  exact hQ

set_option maxHeartbeats 4000000 in
set_option maxRecDepth 100000 in
theorem j_bit_6 {x : mX} {h : mH} {Q : Int → mH → Prop} (hQ : Q 2 h) : CtI x mtJ6_bitCount_0f7a4 [xI 6] h Q := by
  refine ct_go (ls := [xI 6]) (by decide +kernel) (Nat.le_of_ble_eq_true rfl) rfl ?_
  refine go_iload_n dJ6_bitCount_0f7a4_0 rfl ?_
  refine go_iload_n dJ6_bitCount_0f7a4_1 rfl ?_
  refine go_iconst dJ6_bitCount_0f7a4_2 ⟨by decide, by decide⟩ ?_
  refine go_iushr (z := 3) dJ6_bitCount_0f7a4_3 (by decide +kernel) ⟨by decide, by decide⟩ ?_
  refine go_ldcw dJ6_bitCount_0f7a4_4 knJ6_265 ⟨by decide, by decide⟩ ?_
  refine go_iand (z := 1) dJ6_bitCount_0f7a4_7 (by decide +kernel) ⟨by decide, by decide⟩ ?_
  refine go_isub dJ6_bitCount_0f7a4_8 (by decide) (by decide) ?_
  refine go_istore_n 0 dJ6_bitCount_0f7a4_9 rfl (Nat.le_of_ble_eq_true rfl) rfl (by dsimp only [List.set]) ?_
  refine go_iload_n dJ6_bitCount_0f7a4_10 rfl ?_
  refine go_ldcw dJ6_bitCount_0f7a4_11 knJ6_266 ⟨by decide, by decide⟩ ?_
  refine go_iand (z := 1) dJ6_bitCount_0f7a4_14 (by decide +kernel) ⟨by decide, by decide⟩ ?_
  refine go_iload_n dJ6_bitCount_0f7a4_15 rfl ?_
  refine go_iconst dJ6_bitCount_0f7a4_16 ⟨by decide, by decide⟩ ?_
  refine go_iushr (z := 1) dJ6_bitCount_0f7a4_17 (by decide +kernel) ⟨by decide, by decide⟩ ?_
  refine go_ldcw dJ6_bitCount_0f7a4_18 knJ6_266 ⟨by decide, by decide⟩ ?_
  refine go_iand (z := 1) dJ6_bitCount_0f7a4_21 (by decide +kernel) ⟨by decide, by decide⟩ ?_
  refine go_iadd dJ6_bitCount_0f7a4_22 (by decide) (by decide) ?_
  refine go_istore_n 0 dJ6_bitCount_0f7a4_23 rfl (Nat.le_of_ble_eq_true rfl) rfl (by dsimp only [List.set]) ?_
  refine go_iload_n dJ6_bitCount_0f7a4_24 rfl ?_
  refine go_iload_n dJ6_bitCount_0f7a4_25 rfl ?_
  refine go_iconst dJ6_bitCount_0f7a4_26 ⟨by decide, by decide⟩ ?_
  refine go_iushr (z := 0) dJ6_bitCount_0f7a4_27 (by decide +kernel) ⟨by decide, by decide⟩ ?_
  refine go_iadd dJ6_bitCount_0f7a4_28 (by decide) (by decide) ?_
  refine go_ldcw dJ6_bitCount_0f7a4_29 knJ6_267 ⟨by decide, by decide⟩ ?_
  refine go_iand (z := 2) dJ6_bitCount_0f7a4_32 (by decide +kernel) ⟨by decide, by decide⟩ ?_
  refine go_istore_n 0 dJ6_bitCount_0f7a4_33 rfl (Nat.le_of_ble_eq_true rfl) rfl (by dsimp only [List.set]) ?_
  refine go_iload_n dJ6_bitCount_0f7a4_34 rfl ?_
  refine go_iload_n dJ6_bitCount_0f7a4_35 rfl ?_
  refine go_bipush dJ6_bitCount_0f7a4_36 (by decide +kernel) ⟨by decide, by decide⟩ ?_
  refine go_iushr (z := 0) dJ6_bitCount_0f7a4_38 (by decide +kernel) ⟨by decide, by decide⟩ ?_
  refine go_iadd dJ6_bitCount_0f7a4_39 (by decide) (by decide) ?_
  refine go_istore_n 0 dJ6_bitCount_0f7a4_40 rfl (Nat.le_of_ble_eq_true rfl) rfl (by dsimp only [List.set]) ?_
  refine go_iload_n dJ6_bitCount_0f7a4_41 rfl ?_
  refine go_iload_n dJ6_bitCount_0f7a4_42 rfl ?_
  refine go_bipush dJ6_bitCount_0f7a4_43 (by decide +kernel) ⟨by decide, by decide⟩ ?_
  refine go_iushr (z := 0) dJ6_bitCount_0f7a4_45 (by decide +kernel) ⟨by decide, by decide⟩ ?_
  refine go_iadd dJ6_bitCount_0f7a4_46 (by decide) (by decide) ?_
  refine go_istore_n 0 dJ6_bitCount_0f7a4_47 rfl (Nat.le_of_ble_eq_true rfl) rfl (by dsimp only [List.set]) ?_
  refine go_iload_n dJ6_bitCount_0f7a4_48 rfl ?_
  refine go_bipush dJ6_bitCount_0f7a4_49 (by decide +kernel) ⟨by decide, by decide⟩ ?_
  refine go_iand (z := 2) dJ6_bitCount_0f7a4_51 (by decide +kernel) ⟨by decide, by decide⟩ ?_
  refine go_ireturn dJ6_bitCount_0f7a4_52 rfl ?_
  exact hQ

set_option maxHeartbeats 4000000 in
set_option maxRecDepth 100000 in
theorem j_bit_7 {x : mX} {h : mH} {Q : Int → mH → Prop} (hQ : Q 3 h) : CtI x mtJ6_bitCount_0f7a4 [xI 7] h Q := by
  refine ct_go (ls := [xI 7]) (by decide +kernel) (Nat.le_of_ble_eq_true rfl) rfl ?_
  refine go_iload_n dJ6_bitCount_0f7a4_0 rfl ?_
  refine go_iload_n dJ6_bitCount_0f7a4_1 rfl ?_
  refine go_iconst dJ6_bitCount_0f7a4_2 ⟨by decide, by decide⟩ ?_
  refine go_iushr (z := 3) dJ6_bitCount_0f7a4_3 (by decide +kernel) ⟨by decide, by decide⟩ ?_
  refine go_ldcw dJ6_bitCount_0f7a4_4 knJ6_265 ⟨by decide, by decide⟩ ?_
  refine go_iand (z := 1) dJ6_bitCount_0f7a4_7 (by decide +kernel) ⟨by decide, by decide⟩ ?_
  refine go_isub dJ6_bitCount_0f7a4_8 (by decide) (by decide) ?_
  refine go_istore_n 0 dJ6_bitCount_0f7a4_9 rfl (Nat.le_of_ble_eq_true rfl) rfl (by dsimp only [List.set]) ?_
  refine go_iload_n dJ6_bitCount_0f7a4_10 rfl ?_
  refine go_ldcw dJ6_bitCount_0f7a4_11 knJ6_266 ⟨by decide, by decide⟩ ?_
  refine go_iand (z := 2) dJ6_bitCount_0f7a4_14 (by decide +kernel) ⟨by decide, by decide⟩ ?_
  refine go_iload_n dJ6_bitCount_0f7a4_15 rfl ?_
  refine go_iconst dJ6_bitCount_0f7a4_16 ⟨by decide, by decide⟩ ?_
  refine go_iushr (z := 1) dJ6_bitCount_0f7a4_17 (by decide +kernel) ⟨by decide, by decide⟩ ?_
  refine go_ldcw dJ6_bitCount_0f7a4_18 knJ6_266 ⟨by decide, by decide⟩ ?_
  refine go_iand (z := 1) dJ6_bitCount_0f7a4_21 (by decide +kernel) ⟨by decide, by decide⟩ ?_
  refine go_iadd dJ6_bitCount_0f7a4_22 (by decide) (by decide) ?_
  refine go_istore_n 0 dJ6_bitCount_0f7a4_23 rfl (Nat.le_of_ble_eq_true rfl) rfl (by dsimp only [List.set]) ?_
  refine go_iload_n dJ6_bitCount_0f7a4_24 rfl ?_
  refine go_iload_n dJ6_bitCount_0f7a4_25 rfl ?_
  refine go_iconst dJ6_bitCount_0f7a4_26 ⟨by decide, by decide⟩ ?_
  refine go_iushr (z := 0) dJ6_bitCount_0f7a4_27 (by decide +kernel) ⟨by decide, by decide⟩ ?_
  refine go_iadd dJ6_bitCount_0f7a4_28 (by decide) (by decide) ?_
  refine go_ldcw dJ6_bitCount_0f7a4_29 knJ6_267 ⟨by decide, by decide⟩ ?_
  refine go_iand (z := 3) dJ6_bitCount_0f7a4_32 (by decide +kernel) ⟨by decide, by decide⟩ ?_
  refine go_istore_n 0 dJ6_bitCount_0f7a4_33 rfl (Nat.le_of_ble_eq_true rfl) rfl (by dsimp only [List.set]) ?_
  refine go_iload_n dJ6_bitCount_0f7a4_34 rfl ?_
  refine go_iload_n dJ6_bitCount_0f7a4_35 rfl ?_
  refine go_bipush dJ6_bitCount_0f7a4_36 (by decide +kernel) ⟨by decide, by decide⟩ ?_
  refine go_iushr (z := 0) dJ6_bitCount_0f7a4_38 (by decide +kernel) ⟨by decide, by decide⟩ ?_
  refine go_iadd dJ6_bitCount_0f7a4_39 (by decide) (by decide) ?_
  refine go_istore_n 0 dJ6_bitCount_0f7a4_40 rfl (Nat.le_of_ble_eq_true rfl) rfl (by dsimp only [List.set]) ?_
  refine go_iload_n dJ6_bitCount_0f7a4_41 rfl ?_
  refine go_iload_n dJ6_bitCount_0f7a4_42 rfl ?_
  refine go_bipush dJ6_bitCount_0f7a4_43 (by decide +kernel) ⟨by decide, by decide⟩ ?_
  refine go_iushr (z := 0) dJ6_bitCount_0f7a4_45 (by decide +kernel) ⟨by decide, by decide⟩ ?_
  refine go_iadd dJ6_bitCount_0f7a4_46 (by decide) (by decide) ?_
  refine go_istore_n 0 dJ6_bitCount_0f7a4_47 rfl (Nat.le_of_ble_eq_true rfl) rfl (by dsimp only [List.set]) ?_
  refine go_iload_n dJ6_bitCount_0f7a4_48 rfl ?_
  refine go_bipush dJ6_bitCount_0f7a4_49 (by decide +kernel) ⟨by decide, by decide⟩ ?_
  refine go_iand (z := 3) dJ6_bitCount_0f7a4_51 (by decide +kernel) ⟨by decide, by decide⟩ ?_
  refine go_ireturn dJ6_bitCount_0f7a4_52 rfl ?_
  exact hQ

set_option maxHeartbeats 4000000 in
set_option maxRecDepth 100000 in
theorem j_bit_8 {x : mX} {h : mH} {Q : Int → mH → Prop} (hQ : Q 1 h) : CtI x mtJ6_bitCount_0f7a4 [xI 8] h Q := by
  refine ct_go (ls := [xI 8]) (by decide +kernel) (Nat.le_of_ble_eq_true rfl) rfl ?_
  refine go_iload_n dJ6_bitCount_0f7a4_0 rfl ?_
  refine go_iload_n dJ6_bitCount_0f7a4_1 rfl ?_
  refine go_iconst dJ6_bitCount_0f7a4_2 ⟨by decide, by decide⟩ ?_
  refine go_iushr (z := 4) dJ6_bitCount_0f7a4_3 (by decide +kernel) ⟨by decide, by decide⟩ ?_
  refine go_ldcw dJ6_bitCount_0f7a4_4 knJ6_265 ⟨by decide, by decide⟩ ?_
  refine go_iand (z := 4) dJ6_bitCount_0f7a4_7 (by decide +kernel) ⟨by decide, by decide⟩ ?_
  refine go_isub dJ6_bitCount_0f7a4_8 (by decide) (by decide) ?_
  refine go_istore_n 0 dJ6_bitCount_0f7a4_9 rfl (Nat.le_of_ble_eq_true rfl) rfl (by dsimp only [List.set]) ?_
  refine go_iload_n dJ6_bitCount_0f7a4_10 rfl ?_
  refine go_ldcw dJ6_bitCount_0f7a4_11 knJ6_266 ⟨by decide, by decide⟩ ?_
  refine go_iand (z := 0) dJ6_bitCount_0f7a4_14 (by decide +kernel) ⟨by decide, by decide⟩ ?_
  refine go_iload_n dJ6_bitCount_0f7a4_15 rfl ?_
  refine go_iconst dJ6_bitCount_0f7a4_16 ⟨by decide, by decide⟩ ?_
  refine go_iushr (z := 1) dJ6_bitCount_0f7a4_17 (by decide +kernel) ⟨by decide, by decide⟩ ?_
  refine go_ldcw dJ6_bitCount_0f7a4_18 knJ6_266 ⟨by decide, by decide⟩ ?_
  refine go_iand (z := 1) dJ6_bitCount_0f7a4_21 (by decide +kernel) ⟨by decide, by decide⟩ ?_
  refine go_iadd dJ6_bitCount_0f7a4_22 (by decide) (by decide) ?_
  refine go_istore_n 0 dJ6_bitCount_0f7a4_23 rfl (Nat.le_of_ble_eq_true rfl) rfl (by dsimp only [List.set]) ?_
  refine go_iload_n dJ6_bitCount_0f7a4_24 rfl ?_
  refine go_iload_n dJ6_bitCount_0f7a4_25 rfl ?_
  refine go_iconst dJ6_bitCount_0f7a4_26 ⟨by decide, by decide⟩ ?_
  refine go_iushr (z := 0) dJ6_bitCount_0f7a4_27 (by decide +kernel) ⟨by decide, by decide⟩ ?_
  refine go_iadd dJ6_bitCount_0f7a4_28 (by decide) (by decide) ?_
  refine go_ldcw dJ6_bitCount_0f7a4_29 knJ6_267 ⟨by decide, by decide⟩ ?_
  refine go_iand (z := 1) dJ6_bitCount_0f7a4_32 (by decide +kernel) ⟨by decide, by decide⟩ ?_
  refine go_istore_n 0 dJ6_bitCount_0f7a4_33 rfl (Nat.le_of_ble_eq_true rfl) rfl (by dsimp only [List.set]) ?_
  refine go_iload_n dJ6_bitCount_0f7a4_34 rfl ?_
  refine go_iload_n dJ6_bitCount_0f7a4_35 rfl ?_
  refine go_bipush dJ6_bitCount_0f7a4_36 (by decide +kernel) ⟨by decide, by decide⟩ ?_
  refine go_iushr (z := 0) dJ6_bitCount_0f7a4_38 (by decide +kernel) ⟨by decide, by decide⟩ ?_
  refine go_iadd dJ6_bitCount_0f7a4_39 (by decide) (by decide) ?_
  refine go_istore_n 0 dJ6_bitCount_0f7a4_40 rfl (Nat.le_of_ble_eq_true rfl) rfl (by dsimp only [List.set]) ?_
  refine go_iload_n dJ6_bitCount_0f7a4_41 rfl ?_
  refine go_iload_n dJ6_bitCount_0f7a4_42 rfl ?_
  refine go_bipush dJ6_bitCount_0f7a4_43 (by decide +kernel) ⟨by decide, by decide⟩ ?_
  refine go_iushr (z := 0) dJ6_bitCount_0f7a4_45 (by decide +kernel) ⟨by decide, by decide⟩ ?_
  refine go_iadd dJ6_bitCount_0f7a4_46 (by decide) (by decide) ?_
  refine go_istore_n 0 dJ6_bitCount_0f7a4_47 rfl (Nat.le_of_ble_eq_true rfl) rfl (by dsimp only [List.set]) ?_
  refine go_iload_n dJ6_bitCount_0f7a4_48 rfl ?_
  refine go_bipush dJ6_bitCount_0f7a4_49 (by decide +kernel) ⟨by decide, by decide⟩ ?_
  refine go_iand (z := 1) dJ6_bitCount_0f7a4_51 (by decide +kernel) ⟨by decide, by decide⟩ ?_
  refine go_ireturn dJ6_bitCount_0f7a4_52 rfl ?_
  exact hQ

set_option maxHeartbeats 4000000 in
set_option maxRecDepth 100000 in
theorem j_bit_9 {x : mX} {h : mH} {Q : Int → mH → Prop} (hQ : Q 2 h) : CtI x mtJ6_bitCount_0f7a4 [xI 9] h Q := by
  refine ct_go (ls := [xI 9]) (by decide +kernel) (Nat.le_of_ble_eq_true rfl) rfl ?_
  refine go_iload_n dJ6_bitCount_0f7a4_0 rfl ?_
  refine go_iload_n dJ6_bitCount_0f7a4_1 rfl ?_
  refine go_iconst dJ6_bitCount_0f7a4_2 ⟨by decide, by decide⟩ ?_
  refine go_iushr (z := 4) dJ6_bitCount_0f7a4_3 (by decide +kernel) ⟨by decide, by decide⟩ ?_
  refine go_ldcw dJ6_bitCount_0f7a4_4 knJ6_265 ⟨by decide, by decide⟩ ?_
  refine go_iand (z := 4) dJ6_bitCount_0f7a4_7 (by decide +kernel) ⟨by decide, by decide⟩ ?_
  refine go_isub dJ6_bitCount_0f7a4_8 (by decide) (by decide) ?_
  refine go_istore_n 0 dJ6_bitCount_0f7a4_9 rfl (Nat.le_of_ble_eq_true rfl) rfl (by dsimp only [List.set]) ?_
  refine go_iload_n dJ6_bitCount_0f7a4_10 rfl ?_
  refine go_ldcw dJ6_bitCount_0f7a4_11 knJ6_266 ⟨by decide, by decide⟩ ?_
  refine go_iand (z := 1) dJ6_bitCount_0f7a4_14 (by decide +kernel) ⟨by decide, by decide⟩ ?_
  refine go_iload_n dJ6_bitCount_0f7a4_15 rfl ?_
  refine go_iconst dJ6_bitCount_0f7a4_16 ⟨by decide, by decide⟩ ?_
  refine go_iushr (z := 1) dJ6_bitCount_0f7a4_17 (by decide +kernel) ⟨by decide, by decide⟩ ?_
  refine go_ldcw dJ6_bitCount_0f7a4_18 knJ6_266 ⟨by decide, by decide⟩ ?_
  refine go_iand (z := 1) dJ6_bitCount_0f7a4_21 (by decide +kernel) ⟨by decide, by decide⟩ ?_
  refine go_iadd dJ6_bitCount_0f7a4_22 (by decide) (by decide) ?_
  refine go_istore_n 0 dJ6_bitCount_0f7a4_23 rfl (Nat.le_of_ble_eq_true rfl) rfl (by dsimp only [List.set]) ?_
  refine go_iload_n dJ6_bitCount_0f7a4_24 rfl ?_
  refine go_iload_n dJ6_bitCount_0f7a4_25 rfl ?_
  refine go_iconst dJ6_bitCount_0f7a4_26 ⟨by decide, by decide⟩ ?_
  refine go_iushr (z := 0) dJ6_bitCount_0f7a4_27 (by decide +kernel) ⟨by decide, by decide⟩ ?_
  refine go_iadd dJ6_bitCount_0f7a4_28 (by decide) (by decide) ?_
  refine go_ldcw dJ6_bitCount_0f7a4_29 knJ6_267 ⟨by decide, by decide⟩ ?_
  refine go_iand (z := 2) dJ6_bitCount_0f7a4_32 (by decide +kernel) ⟨by decide, by decide⟩ ?_
  refine go_istore_n 0 dJ6_bitCount_0f7a4_33 rfl (Nat.le_of_ble_eq_true rfl) rfl (by dsimp only [List.set]) ?_
  refine go_iload_n dJ6_bitCount_0f7a4_34 rfl ?_
  refine go_iload_n dJ6_bitCount_0f7a4_35 rfl ?_
  refine go_bipush dJ6_bitCount_0f7a4_36 (by decide +kernel) ⟨by decide, by decide⟩ ?_
  refine go_iushr (z := 0) dJ6_bitCount_0f7a4_38 (by decide +kernel) ⟨by decide, by decide⟩ ?_
  refine go_iadd dJ6_bitCount_0f7a4_39 (by decide) (by decide) ?_
  refine go_istore_n 0 dJ6_bitCount_0f7a4_40 rfl (Nat.le_of_ble_eq_true rfl) rfl (by dsimp only [List.set]) ?_
  refine go_iload_n dJ6_bitCount_0f7a4_41 rfl ?_
  refine go_iload_n dJ6_bitCount_0f7a4_42 rfl ?_
  refine go_bipush dJ6_bitCount_0f7a4_43 (by decide +kernel) ⟨by decide, by decide⟩ ?_
  refine go_iushr (z := 0) dJ6_bitCount_0f7a4_45 (by decide +kernel) ⟨by decide, by decide⟩ ?_
  refine go_iadd dJ6_bitCount_0f7a4_46 (by decide) (by decide) ?_
  refine go_istore_n 0 dJ6_bitCount_0f7a4_47 rfl (Nat.le_of_ble_eq_true rfl) rfl (by dsimp only [List.set]) ?_
  refine go_iload_n dJ6_bitCount_0f7a4_48 rfl ?_
  refine go_bipush dJ6_bitCount_0f7a4_49 (by decide +kernel) ⟨by decide, by decide⟩ ?_
  refine go_iand (z := 2) dJ6_bitCount_0f7a4_51 (by decide +kernel) ⟨by decide, by decide⟩ ?_
  refine go_ireturn dJ6_bitCount_0f7a4_52 rfl ?_
  exact hQ

set_option maxHeartbeats 4000000 in
set_option maxRecDepth 100000 in
theorem j_bit_10 {x : mX} {h : mH} {Q : Int → mH → Prop} (hQ : Q 2 h) : CtI x mtJ6_bitCount_0f7a4 [xI 10] h Q := by
  refine ct_go (ls := [xI 10]) (by decide +kernel) (Nat.le_of_ble_eq_true rfl) rfl ?_
  refine go_iload_n dJ6_bitCount_0f7a4_0 rfl ?_
  refine go_iload_n dJ6_bitCount_0f7a4_1 rfl ?_
  refine go_iconst dJ6_bitCount_0f7a4_2 ⟨by decide, by decide⟩ ?_
  refine go_iushr (z := 5) dJ6_bitCount_0f7a4_3 (by decide +kernel) ⟨by decide, by decide⟩ ?_
  refine go_ldcw dJ6_bitCount_0f7a4_4 knJ6_265 ⟨by decide, by decide⟩ ?_
  refine go_iand (z := 5) dJ6_bitCount_0f7a4_7 (by decide +kernel) ⟨by decide, by decide⟩ ?_
  refine go_isub dJ6_bitCount_0f7a4_8 (by decide) (by decide) ?_
  refine go_istore_n 0 dJ6_bitCount_0f7a4_9 rfl (Nat.le_of_ble_eq_true rfl) rfl (by dsimp only [List.set]) ?_
  refine go_iload_n dJ6_bitCount_0f7a4_10 rfl ?_
  refine go_ldcw dJ6_bitCount_0f7a4_11 knJ6_266 ⟨by decide, by decide⟩ ?_
  refine go_iand (z := 1) dJ6_bitCount_0f7a4_14 (by decide +kernel) ⟨by decide, by decide⟩ ?_
  refine go_iload_n dJ6_bitCount_0f7a4_15 rfl ?_
  refine go_iconst dJ6_bitCount_0f7a4_16 ⟨by decide, by decide⟩ ?_
  refine go_iushr (z := 1) dJ6_bitCount_0f7a4_17 (by decide +kernel) ⟨by decide, by decide⟩ ?_
  refine go_ldcw dJ6_bitCount_0f7a4_18 knJ6_266 ⟨by decide, by decide⟩ ?_
  refine go_iand (z := 1) dJ6_bitCount_0f7a4_21 (by decide +kernel) ⟨by decide, by decide⟩ ?_
  refine go_iadd dJ6_bitCount_0f7a4_22 (by decide) (by decide) ?_
  refine go_istore_n 0 dJ6_bitCount_0f7a4_23 rfl (Nat.le_of_ble_eq_true rfl) rfl (by dsimp only [List.set]) ?_
  refine go_iload_n dJ6_bitCount_0f7a4_24 rfl ?_
  refine go_iload_n dJ6_bitCount_0f7a4_25 rfl ?_
  refine go_iconst dJ6_bitCount_0f7a4_26 ⟨by decide, by decide⟩ ?_
  refine go_iushr (z := 0) dJ6_bitCount_0f7a4_27 (by decide +kernel) ⟨by decide, by decide⟩ ?_
  refine go_iadd dJ6_bitCount_0f7a4_28 (by decide) (by decide) ?_
  refine go_ldcw dJ6_bitCount_0f7a4_29 knJ6_267 ⟨by decide, by decide⟩ ?_
  refine go_iand (z := 2) dJ6_bitCount_0f7a4_32 (by decide +kernel) ⟨by decide, by decide⟩ ?_
  refine go_istore_n 0 dJ6_bitCount_0f7a4_33 rfl (Nat.le_of_ble_eq_true rfl) rfl (by dsimp only [List.set]) ?_
  refine go_iload_n dJ6_bitCount_0f7a4_34 rfl ?_
  refine go_iload_n dJ6_bitCount_0f7a4_35 rfl ?_
  refine go_bipush dJ6_bitCount_0f7a4_36 (by decide +kernel) ⟨by decide, by decide⟩ ?_
  refine go_iushr (z := 0) dJ6_bitCount_0f7a4_38 (by decide +kernel) ⟨by decide, by decide⟩ ?_
  refine go_iadd dJ6_bitCount_0f7a4_39 (by decide) (by decide) ?_
  refine go_istore_n 0 dJ6_bitCount_0f7a4_40 rfl (Nat.le_of_ble_eq_true rfl) rfl (by dsimp only [List.set]) ?_
  refine go_iload_n dJ6_bitCount_0f7a4_41 rfl ?_
  refine go_iload_n dJ6_bitCount_0f7a4_42 rfl ?_
  refine go_bipush dJ6_bitCount_0f7a4_43 (by decide +kernel) ⟨by decide, by decide⟩ ?_
  refine go_iushr (z := 0) dJ6_bitCount_0f7a4_45 (by decide +kernel) ⟨by decide, by decide⟩ ?_
  refine go_iadd dJ6_bitCount_0f7a4_46 (by decide) (by decide) ?_
  refine go_istore_n 0 dJ6_bitCount_0f7a4_47 rfl (Nat.le_of_ble_eq_true rfl) rfl (by dsimp only [List.set]) ?_
  refine go_iload_n dJ6_bitCount_0f7a4_48 rfl ?_
  refine go_bipush dJ6_bitCount_0f7a4_49 (by decide +kernel) ⟨by decide, by decide⟩ ?_
  refine go_iand (z := 2) dJ6_bitCount_0f7a4_51 (by decide +kernel) ⟨by decide, by decide⟩ ?_
  refine go_ireturn dJ6_bitCount_0f7a4_52 rfl ?_
  exact hQ

set_option maxHeartbeats 4000000 in
set_option maxRecDepth 100000 in
theorem j_bit_11 {x : mX} {h : mH} {Q : Int → mH → Prop} (hQ : Q 3 h) : CtI x mtJ6_bitCount_0f7a4 [xI 11] h Q := by
  refine ct_go (ls := [xI 11]) (by decide +kernel) (Nat.le_of_ble_eq_true rfl) rfl ?_
  refine go_iload_n dJ6_bitCount_0f7a4_0 rfl ?_
  refine go_iload_n dJ6_bitCount_0f7a4_1 rfl ?_
  refine go_iconst dJ6_bitCount_0f7a4_2 ⟨by decide, by decide⟩ ?_
  refine go_iushr (z := 5) dJ6_bitCount_0f7a4_3 (by decide +kernel) ⟨by decide, by decide⟩ ?_
  refine go_ldcw dJ6_bitCount_0f7a4_4 knJ6_265 ⟨by decide, by decide⟩ ?_
  refine go_iand (z := 5) dJ6_bitCount_0f7a4_7 (by decide +kernel) ⟨by decide, by decide⟩ ?_
  refine go_isub dJ6_bitCount_0f7a4_8 (by decide) (by decide) ?_
  refine go_istore_n 0 dJ6_bitCount_0f7a4_9 rfl (Nat.le_of_ble_eq_true rfl) rfl (by dsimp only [List.set]) ?_
  refine go_iload_n dJ6_bitCount_0f7a4_10 rfl ?_
  refine go_ldcw dJ6_bitCount_0f7a4_11 knJ6_266 ⟨by decide, by decide⟩ ?_
  refine go_iand (z := 2) dJ6_bitCount_0f7a4_14 (by decide +kernel) ⟨by decide, by decide⟩ ?_
  refine go_iload_n dJ6_bitCount_0f7a4_15 rfl ?_
  refine go_iconst dJ6_bitCount_0f7a4_16 ⟨by decide, by decide⟩ ?_
  refine go_iushr (z := 1) dJ6_bitCount_0f7a4_17 (by decide +kernel) ⟨by decide, by decide⟩ ?_
  refine go_ldcw dJ6_bitCount_0f7a4_18 knJ6_266 ⟨by decide, by decide⟩ ?_
  refine go_iand (z := 1) dJ6_bitCount_0f7a4_21 (by decide +kernel) ⟨by decide, by decide⟩ ?_
  refine go_iadd dJ6_bitCount_0f7a4_22 (by decide) (by decide) ?_
  refine go_istore_n 0 dJ6_bitCount_0f7a4_23 rfl (Nat.le_of_ble_eq_true rfl) rfl (by dsimp only [List.set]) ?_
  refine go_iload_n dJ6_bitCount_0f7a4_24 rfl ?_
  refine go_iload_n dJ6_bitCount_0f7a4_25 rfl ?_
  refine go_iconst dJ6_bitCount_0f7a4_26 ⟨by decide, by decide⟩ ?_
  refine go_iushr (z := 0) dJ6_bitCount_0f7a4_27 (by decide +kernel) ⟨by decide, by decide⟩ ?_
  refine go_iadd dJ6_bitCount_0f7a4_28 (by decide) (by decide) ?_
  refine go_ldcw dJ6_bitCount_0f7a4_29 knJ6_267 ⟨by decide, by decide⟩ ?_
  refine go_iand (z := 3) dJ6_bitCount_0f7a4_32 (by decide +kernel) ⟨by decide, by decide⟩ ?_
  refine go_istore_n 0 dJ6_bitCount_0f7a4_33 rfl (Nat.le_of_ble_eq_true rfl) rfl (by dsimp only [List.set]) ?_
  refine go_iload_n dJ6_bitCount_0f7a4_34 rfl ?_
  refine go_iload_n dJ6_bitCount_0f7a4_35 rfl ?_
  refine go_bipush dJ6_bitCount_0f7a4_36 (by decide +kernel) ⟨by decide, by decide⟩ ?_
  refine go_iushr (z := 0) dJ6_bitCount_0f7a4_38 (by decide +kernel) ⟨by decide, by decide⟩ ?_
  refine go_iadd dJ6_bitCount_0f7a4_39 (by decide) (by decide) ?_
  refine go_istore_n 0 dJ6_bitCount_0f7a4_40 rfl (Nat.le_of_ble_eq_true rfl) rfl (by dsimp only [List.set]) ?_
  refine go_iload_n dJ6_bitCount_0f7a4_41 rfl ?_
  refine go_iload_n dJ6_bitCount_0f7a4_42 rfl ?_
  refine go_bipush dJ6_bitCount_0f7a4_43 (by decide +kernel) ⟨by decide, by decide⟩ ?_
  refine go_iushr (z := 0) dJ6_bitCount_0f7a4_45 (by decide +kernel) ⟨by decide, by decide⟩ ?_
  refine go_iadd dJ6_bitCount_0f7a4_46 (by decide) (by decide) ?_
  refine go_istore_n 0 dJ6_bitCount_0f7a4_47 rfl (Nat.le_of_ble_eq_true rfl) rfl (by dsimp only [List.set]) ?_
  refine go_iload_n dJ6_bitCount_0f7a4_48 rfl ?_
  refine go_bipush dJ6_bitCount_0f7a4_49 (by decide +kernel) ⟨by decide, by decide⟩ ?_
  refine go_iand (z := 3) dJ6_bitCount_0f7a4_51 (by decide +kernel) ⟨by decide, by decide⟩ ?_
  refine go_ireturn dJ6_bitCount_0f7a4_52 rfl ?_
  exact hQ

set_option maxHeartbeats 4000000 in
set_option maxRecDepth 100000 in
theorem j_bit_12 {x : mX} {h : mH} {Q : Int → mH → Prop} (hQ : Q 2 h) : CtI x mtJ6_bitCount_0f7a4 [xI 12] h Q := by
  refine ct_go (ls := [xI 12]) (by decide +kernel) (Nat.le_of_ble_eq_true rfl) rfl ?_
  refine go_iload_n dJ6_bitCount_0f7a4_0 rfl ?_
  refine go_iload_n dJ6_bitCount_0f7a4_1 rfl ?_
  refine go_iconst dJ6_bitCount_0f7a4_2 ⟨by decide, by decide⟩ ?_
  refine go_iushr (z := 6) dJ6_bitCount_0f7a4_3 (by decide +kernel) ⟨by decide, by decide⟩ ?_
  refine go_ldcw dJ6_bitCount_0f7a4_4 knJ6_265 ⟨by decide, by decide⟩ ?_
  refine go_iand (z := 4) dJ6_bitCount_0f7a4_7 (by decide +kernel) ⟨by decide, by decide⟩ ?_
  refine go_isub dJ6_bitCount_0f7a4_8 (by decide) (by decide) ?_
  refine go_istore_n 0 dJ6_bitCount_0f7a4_9 rfl (Nat.le_of_ble_eq_true rfl) rfl (by dsimp only [List.set]) ?_
  refine go_iload_n dJ6_bitCount_0f7a4_10 rfl ?_
  refine go_ldcw dJ6_bitCount_0f7a4_11 knJ6_266 ⟨by decide, by decide⟩ ?_
  refine go_iand (z := 0) dJ6_bitCount_0f7a4_14 (by decide +kernel) ⟨by decide, by decide⟩ ?_
  refine go_iload_n dJ6_bitCount_0f7a4_15 rfl ?_
  refine go_iconst dJ6_bitCount_0f7a4_16 ⟨by decide, by decide⟩ ?_
  refine go_iushr (z := 2) dJ6_bitCount_0f7a4_17 (by decide +kernel) ⟨by decide, by decide⟩ ?_
  refine go_ldcw dJ6_bitCount_0f7a4_18 knJ6_266 ⟨by decide, by decide⟩ ?_
  refine go_iand (z := 2) dJ6_bitCount_0f7a4_21 (by decide +kernel) ⟨by decide, by decide⟩ ?_
  refine go_iadd dJ6_bitCount_0f7a4_22 (by decide) (by decide) ?_
  refine go_istore_n 0 dJ6_bitCount_0f7a4_23 rfl (Nat.le_of_ble_eq_true rfl) rfl (by dsimp only [List.set]) ?_
  refine go_iload_n dJ6_bitCount_0f7a4_24 rfl ?_
  refine go_iload_n dJ6_bitCount_0f7a4_25 rfl ?_
  refine go_iconst dJ6_bitCount_0f7a4_26 ⟨by decide, by decide⟩ ?_
  refine go_iushr (z := 0) dJ6_bitCount_0f7a4_27 (by decide +kernel) ⟨by decide, by decide⟩ ?_
  refine go_iadd dJ6_bitCount_0f7a4_28 (by decide) (by decide) ?_
  refine go_ldcw dJ6_bitCount_0f7a4_29 knJ6_267 ⟨by decide, by decide⟩ ?_
  refine go_iand (z := 2) dJ6_bitCount_0f7a4_32 (by decide +kernel) ⟨by decide, by decide⟩ ?_
  refine go_istore_n 0 dJ6_bitCount_0f7a4_33 rfl (Nat.le_of_ble_eq_true rfl) rfl (by dsimp only [List.set]) ?_
  refine go_iload_n dJ6_bitCount_0f7a4_34 rfl ?_
  refine go_iload_n dJ6_bitCount_0f7a4_35 rfl ?_
  refine go_bipush dJ6_bitCount_0f7a4_36 (by decide +kernel) ⟨by decide, by decide⟩ ?_
  refine go_iushr (z := 0) dJ6_bitCount_0f7a4_38 (by decide +kernel) ⟨by decide, by decide⟩ ?_
  refine go_iadd dJ6_bitCount_0f7a4_39 (by decide) (by decide) ?_
  refine go_istore_n 0 dJ6_bitCount_0f7a4_40 rfl (Nat.le_of_ble_eq_true rfl) rfl (by dsimp only [List.set]) ?_
  refine go_iload_n dJ6_bitCount_0f7a4_41 rfl ?_
  refine go_iload_n dJ6_bitCount_0f7a4_42 rfl ?_
  refine go_bipush dJ6_bitCount_0f7a4_43 (by decide +kernel) ⟨by decide, by decide⟩ ?_
  refine go_iushr (z := 0) dJ6_bitCount_0f7a4_45 (by decide +kernel) ⟨by decide, by decide⟩ ?_
  refine go_iadd dJ6_bitCount_0f7a4_46 (by decide) (by decide) ?_
  refine go_istore_n 0 dJ6_bitCount_0f7a4_47 rfl (Nat.le_of_ble_eq_true rfl) rfl (by dsimp only [List.set]) ?_
  refine go_iload_n dJ6_bitCount_0f7a4_48 rfl ?_
  refine go_bipush dJ6_bitCount_0f7a4_49 (by decide +kernel) ⟨by decide, by decide⟩ ?_
  refine go_iand (z := 2) dJ6_bitCount_0f7a4_51 (by decide +kernel) ⟨by decide, by decide⟩ ?_
  refine go_ireturn dJ6_bitCount_0f7a4_52 rfl ?_
  exact hQ

set_option maxHeartbeats 4000000 in
set_option maxRecDepth 100000 in
theorem j_bit_13 {x : mX} {h : mH} {Q : Int → mH → Prop} (hQ : Q 3 h) : CtI x mtJ6_bitCount_0f7a4 [xI 13] h Q := by
  refine ct_go (ls := [xI 13]) (by decide +kernel) (Nat.le_of_ble_eq_true rfl) rfl ?_
  refine go_iload_n dJ6_bitCount_0f7a4_0 rfl ?_
  refine go_iload_n dJ6_bitCount_0f7a4_1 rfl ?_
  refine go_iconst dJ6_bitCount_0f7a4_2 ⟨by decide, by decide⟩ ?_
  refine go_iushr (z := 6) dJ6_bitCount_0f7a4_3 (by decide +kernel) ⟨by decide, by decide⟩ ?_
  refine go_ldcw dJ6_bitCount_0f7a4_4 knJ6_265 ⟨by decide, by decide⟩ ?_
  refine go_iand (z := 4) dJ6_bitCount_0f7a4_7 (by decide +kernel) ⟨by decide, by decide⟩ ?_
  refine go_isub dJ6_bitCount_0f7a4_8 (by decide) (by decide) ?_
  refine go_istore_n 0 dJ6_bitCount_0f7a4_9 rfl (Nat.le_of_ble_eq_true rfl) rfl (by dsimp only [List.set]) ?_
  refine go_iload_n dJ6_bitCount_0f7a4_10 rfl ?_
  refine go_ldcw dJ6_bitCount_0f7a4_11 knJ6_266 ⟨by decide, by decide⟩ ?_
  refine go_iand (z := 1) dJ6_bitCount_0f7a4_14 (by decide +kernel) ⟨by decide, by decide⟩ ?_
  refine go_iload_n dJ6_bitCount_0f7a4_15 rfl ?_
  refine go_iconst dJ6_bitCount_0f7a4_16 ⟨by decide, by decide⟩ ?_
  refine go_iushr (z := 2) dJ6_bitCount_0f7a4_17 (by decide +kernel) ⟨by decide, by decide⟩ ?_
  refine go_ldcw dJ6_bitCount_0f7a4_18 knJ6_266 ⟨by decide, by decide⟩ ?_
  refine go_iand (z := 2) dJ6_bitCount_0f7a4_21 (by decide +kernel) ⟨by decide, by decide⟩ ?_
  refine go_iadd dJ6_bitCount_0f7a4_22 (by decide) (by decide) ?_
  refine go_istore_n 0 dJ6_bitCount_0f7a4_23 rfl (Nat.le_of_ble_eq_true rfl) rfl (by dsimp only [List.set]) ?_
  refine go_iload_n dJ6_bitCount_0f7a4_24 rfl ?_
  refine go_iload_n dJ6_bitCount_0f7a4_25 rfl ?_
  refine go_iconst dJ6_bitCount_0f7a4_26 ⟨by decide, by decide⟩ ?_
  refine go_iushr (z := 0) dJ6_bitCount_0f7a4_27 (by decide +kernel) ⟨by decide, by decide⟩ ?_
  refine go_iadd dJ6_bitCount_0f7a4_28 (by decide) (by decide) ?_
  refine go_ldcw dJ6_bitCount_0f7a4_29 knJ6_267 ⟨by decide, by decide⟩ ?_
  refine go_iand (z := 3) dJ6_bitCount_0f7a4_32 (by decide +kernel) ⟨by decide, by decide⟩ ?_
  refine go_istore_n 0 dJ6_bitCount_0f7a4_33 rfl (Nat.le_of_ble_eq_true rfl) rfl (by dsimp only [List.set]) ?_
  refine go_iload_n dJ6_bitCount_0f7a4_34 rfl ?_
  refine go_iload_n dJ6_bitCount_0f7a4_35 rfl ?_
  refine go_bipush dJ6_bitCount_0f7a4_36 (by decide +kernel) ⟨by decide, by decide⟩ ?_
  refine go_iushr (z := 0) dJ6_bitCount_0f7a4_38 (by decide +kernel) ⟨by decide, by decide⟩ ?_
  refine go_iadd dJ6_bitCount_0f7a4_39 (by decide) (by decide) ?_
  refine go_istore_n 0 dJ6_bitCount_0f7a4_40 rfl (Nat.le_of_ble_eq_true rfl) rfl (by dsimp only [List.set]) ?_
  refine go_iload_n dJ6_bitCount_0f7a4_41 rfl ?_
  refine go_iload_n dJ6_bitCount_0f7a4_42 rfl ?_
  refine go_bipush dJ6_bitCount_0f7a4_43 (by decide +kernel) ⟨by decide, by decide⟩ ?_
  refine go_iushr (z := 0) dJ6_bitCount_0f7a4_45 (by decide +kernel) ⟨by decide, by decide⟩ ?_
  refine go_iadd dJ6_bitCount_0f7a4_46 (by decide) (by decide) ?_
  refine go_istore_n 0 dJ6_bitCount_0f7a4_47 rfl (Nat.le_of_ble_eq_true rfl) rfl (by dsimp only [List.set]) ?_
  refine go_iload_n dJ6_bitCount_0f7a4_48 rfl ?_
  refine go_bipush dJ6_bitCount_0f7a4_49 (by decide +kernel) ⟨by decide, by decide⟩ ?_
  refine go_iand (z := 3) dJ6_bitCount_0f7a4_51 (by decide +kernel) ⟨by decide, by decide⟩ ?_
  refine go_ireturn dJ6_bitCount_0f7a4_52 rfl ?_
  exact hQ

set_option maxHeartbeats 4000000 in
set_option maxRecDepth 100000 in
theorem j_bit_14 {x : mX} {h : mH} {Q : Int → mH → Prop} (hQ : Q 3 h) : CtI x mtJ6_bitCount_0f7a4 [xI 14] h Q := by
  refine ct_go (ls := [xI 14]) (by decide +kernel) (Nat.le_of_ble_eq_true rfl) rfl ?_
  refine go_iload_n dJ6_bitCount_0f7a4_0 rfl ?_
  refine go_iload_n dJ6_bitCount_0f7a4_1 rfl ?_
  refine go_iconst dJ6_bitCount_0f7a4_2 ⟨by decide, by decide⟩ ?_
  refine go_iushr (z := 7) dJ6_bitCount_0f7a4_3 (by decide +kernel) ⟨by decide, by decide⟩ ?_
  refine go_ldcw dJ6_bitCount_0f7a4_4 knJ6_265 ⟨by decide, by decide⟩ ?_
  refine go_iand (z := 5) dJ6_bitCount_0f7a4_7 (by decide +kernel) ⟨by decide, by decide⟩ ?_
  refine go_isub dJ6_bitCount_0f7a4_8 (by decide) (by decide) ?_
  refine go_istore_n 0 dJ6_bitCount_0f7a4_9 rfl (Nat.le_of_ble_eq_true rfl) rfl (by dsimp only [List.set]) ?_
  refine go_iload_n dJ6_bitCount_0f7a4_10 rfl ?_
  refine go_ldcw dJ6_bitCount_0f7a4_11 knJ6_266 ⟨by decide, by decide⟩ ?_
  refine go_iand (z := 1) dJ6_bitCount_0f7a4_14 (by decide +kernel) ⟨by decide, by decide⟩ ?_
  refine go_iload_n dJ6_bitCount_0f7a4_15 rfl ?_
  refine go_iconst dJ6_bitCount_0f7a4_16 ⟨by decide, by decide⟩ ?_
  refine go_iushr (z := 2) dJ6_bitCount_0f7a4_17 (by decide +kernel) ⟨by decide, by decide⟩ ?_
  refine go_ldcw dJ6_bitCount_0f7a4_18 knJ6_266 ⟨by decide, by decide⟩ ?_
  refine go_iand (z := 2) dJ6_bitCount_0f7a4_21 (by decide +kernel) ⟨by decide, by decide⟩ ?_
  refine go_iadd dJ6_bitCount_0f7a4_22 (by decide) (by decide) ?_
  refine go_istore_n 0 dJ6_bitCount_0f7a4_23 rfl (Nat.le_of_ble_eq_true rfl) rfl (by dsimp only [List.set]) ?_
  refine go_iload_n dJ6_bitCount_0f7a4_24 rfl ?_
  refine go_iload_n dJ6_bitCount_0f7a4_25 rfl ?_
  refine go_iconst dJ6_bitCount_0f7a4_26 ⟨by decide, by decide⟩ ?_
  refine go_iushr (z := 0) dJ6_bitCount_0f7a4_27 (by decide +kernel) ⟨by decide, by decide⟩ ?_
  refine go_iadd dJ6_bitCount_0f7a4_28 (by decide) (by decide) ?_
  refine go_ldcw dJ6_bitCount_0f7a4_29 knJ6_267 ⟨by decide, by decide⟩ ?_
  refine go_iand (z := 3) dJ6_bitCount_0f7a4_32 (by decide +kernel) ⟨by decide, by decide⟩ ?_
  refine go_istore_n 0 dJ6_bitCount_0f7a4_33 rfl (Nat.le_of_ble_eq_true rfl) rfl (by dsimp only [List.set]) ?_
  refine go_iload_n dJ6_bitCount_0f7a4_34 rfl ?_
  refine go_iload_n dJ6_bitCount_0f7a4_35 rfl ?_
  refine go_bipush dJ6_bitCount_0f7a4_36 (by decide +kernel) ⟨by decide, by decide⟩ ?_
  refine go_iushr (z := 0) dJ6_bitCount_0f7a4_38 (by decide +kernel) ⟨by decide, by decide⟩ ?_
  refine go_iadd dJ6_bitCount_0f7a4_39 (by decide) (by decide) ?_
  refine go_istore_n 0 dJ6_bitCount_0f7a4_40 rfl (Nat.le_of_ble_eq_true rfl) rfl (by dsimp only [List.set]) ?_
  refine go_iload_n dJ6_bitCount_0f7a4_41 rfl ?_
  refine go_iload_n dJ6_bitCount_0f7a4_42 rfl ?_
  refine go_bipush dJ6_bitCount_0f7a4_43 (by decide +kernel) ⟨by decide, by decide⟩ ?_
  refine go_iushr (z := 0) dJ6_bitCount_0f7a4_45 (by decide +kernel) ⟨by decide, by decide⟩ ?_
  refine go_iadd dJ6_bitCount_0f7a4_46 (by decide) (by decide) ?_
  refine go_istore_n 0 dJ6_bitCount_0f7a4_47 rfl (Nat.le_of_ble_eq_true rfl) rfl (by dsimp only [List.set]) ?_
  refine go_iload_n dJ6_bitCount_0f7a4_48 rfl ?_
  refine go_bipush dJ6_bitCount_0f7a4_49 (by decide +kernel) ⟨by decide, by decide⟩ ?_
  refine go_iand (z := 3) dJ6_bitCount_0f7a4_51 (by decide +kernel) ⟨by decide, by decide⟩ ?_
  refine go_ireturn dJ6_bitCount_0f7a4_52 rfl ?_
  exact hQ

set_option maxHeartbeats 4000000 in
set_option maxRecDepth 100000 in
theorem j_bit_15 {x : mX} {h : mH} {Q : Int → mH → Prop} (hQ : Q 4 h) : CtI x mtJ6_bitCount_0f7a4 [xI 15] h Q := by
  refine ct_go (ls := [xI 15]) (by decide +kernel) (Nat.le_of_ble_eq_true rfl) rfl ?_
  refine go_iload_n dJ6_bitCount_0f7a4_0 rfl ?_
  refine go_iload_n dJ6_bitCount_0f7a4_1 rfl ?_
  refine go_iconst dJ6_bitCount_0f7a4_2 ⟨by decide, by decide⟩ ?_
  refine go_iushr (z := 7) dJ6_bitCount_0f7a4_3 (by decide +kernel) ⟨by decide, by decide⟩ ?_
  refine go_ldcw dJ6_bitCount_0f7a4_4 knJ6_265 ⟨by decide, by decide⟩ ?_
  refine go_iand (z := 5) dJ6_bitCount_0f7a4_7 (by decide +kernel) ⟨by decide, by decide⟩ ?_
  refine go_isub dJ6_bitCount_0f7a4_8 (by decide) (by decide) ?_
  refine go_istore_n 0 dJ6_bitCount_0f7a4_9 rfl (Nat.le_of_ble_eq_true rfl) rfl (by dsimp only [List.set]) ?_
  refine go_iload_n dJ6_bitCount_0f7a4_10 rfl ?_
  refine go_ldcw dJ6_bitCount_0f7a4_11 knJ6_266 ⟨by decide, by decide⟩ ?_
  refine go_iand (z := 2) dJ6_bitCount_0f7a4_14 (by decide +kernel) ⟨by decide, by decide⟩ ?_
  refine go_iload_n dJ6_bitCount_0f7a4_15 rfl ?_
  refine go_iconst dJ6_bitCount_0f7a4_16 ⟨by decide, by decide⟩ ?_
  refine go_iushr (z := 2) dJ6_bitCount_0f7a4_17 (by decide +kernel) ⟨by decide, by decide⟩ ?_
  refine go_ldcw dJ6_bitCount_0f7a4_18 knJ6_266 ⟨by decide, by decide⟩ ?_
  refine go_iand (z := 2) dJ6_bitCount_0f7a4_21 (by decide +kernel) ⟨by decide, by decide⟩ ?_
  refine go_iadd dJ6_bitCount_0f7a4_22 (by decide) (by decide) ?_
  refine go_istore_n 0 dJ6_bitCount_0f7a4_23 rfl (Nat.le_of_ble_eq_true rfl) rfl (by dsimp only [List.set]) ?_
  refine go_iload_n dJ6_bitCount_0f7a4_24 rfl ?_
  refine go_iload_n dJ6_bitCount_0f7a4_25 rfl ?_
  refine go_iconst dJ6_bitCount_0f7a4_26 ⟨by decide, by decide⟩ ?_
  refine go_iushr (z := 0) dJ6_bitCount_0f7a4_27 (by decide +kernel) ⟨by decide, by decide⟩ ?_
  refine go_iadd dJ6_bitCount_0f7a4_28 (by decide) (by decide) ?_
  refine go_ldcw dJ6_bitCount_0f7a4_29 knJ6_267 ⟨by decide, by decide⟩ ?_
  refine go_iand (z := 4) dJ6_bitCount_0f7a4_32 (by decide +kernel) ⟨by decide, by decide⟩ ?_
  refine go_istore_n 0 dJ6_bitCount_0f7a4_33 rfl (Nat.le_of_ble_eq_true rfl) rfl (by dsimp only [List.set]) ?_
  refine go_iload_n dJ6_bitCount_0f7a4_34 rfl ?_
  refine go_iload_n dJ6_bitCount_0f7a4_35 rfl ?_
  refine go_bipush dJ6_bitCount_0f7a4_36 (by decide +kernel) ⟨by decide, by decide⟩ ?_
  refine go_iushr (z := 0) dJ6_bitCount_0f7a4_38 (by decide +kernel) ⟨by decide, by decide⟩ ?_
  refine go_iadd dJ6_bitCount_0f7a4_39 (by decide) (by decide) ?_
  refine go_istore_n 0 dJ6_bitCount_0f7a4_40 rfl (Nat.le_of_ble_eq_true rfl) rfl (by dsimp only [List.set]) ?_
  refine go_iload_n dJ6_bitCount_0f7a4_41 rfl ?_
  refine go_iload_n dJ6_bitCount_0f7a4_42 rfl ?_
  refine go_bipush dJ6_bitCount_0f7a4_43 (by decide +kernel) ⟨by decide, by decide⟩ ?_
  refine go_iushr (z := 0) dJ6_bitCount_0f7a4_45 (by decide +kernel) ⟨by decide, by decide⟩ ?_
  refine go_iadd dJ6_bitCount_0f7a4_46 (by decide) (by decide) ?_
  refine go_istore_n 0 dJ6_bitCount_0f7a4_47 rfl (Nat.le_of_ble_eq_true rfl) rfl (by dsimp only [List.set]) ?_
  refine go_iload_n dJ6_bitCount_0f7a4_48 rfl ?_
  refine go_bipush dJ6_bitCount_0f7a4_49 (by decide +kernel) ⟨by decide, by decide⟩ ?_
  refine go_iand (z := 4) dJ6_bitCount_0f7a4_51 (by decide +kernel) ⟨by decide, by decide⟩ ?_
  refine go_ireturn dJ6_bitCount_0f7a4_52 rfl ?_
  exact hQ

theorem j_bit {x : mX} {h : mH} {Q : Int → mH → Prop} {m : Nat} (hm : m < 16) (hQ : Q (pc4 m) h) : CtI x mtJ6_bitCount_0f7a4 [xI m] h Q := by
  match m, hm with
  | 0, _ => exact j_bit_0 ((show pc4 0 = 0 by decide +kernel) ▸ hQ)
  | 1, _ => exact j_bit_1 ((show pc4 1 = 1 by decide +kernel) ▸ hQ)
  | 2, _ => exact j_bit_2 ((show pc4 2 = 1 by decide +kernel) ▸ hQ)
  | 3, _ => exact j_bit_3 ((show pc4 3 = 2 by decide +kernel) ▸ hQ)
  | 4, _ => exact j_bit_4 ((show pc4 4 = 1 by decide +kernel) ▸ hQ)
  | 5, _ => exact j_bit_5 ((show pc4 5 = 2 by decide +kernel) ▸ hQ)
  | 6, _ => exact j_bit_6 ((show pc4 6 = 2 by decide +kernel) ▸ hQ)
  | 7, _ => exact j_bit_7 ((show pc4 7 = 3 by decide +kernel) ▸ hQ)
  | 8, _ => exact j_bit_8 ((show pc4 8 = 1 by decide +kernel) ▸ hQ)
  | 9, _ => exact j_bit_9 ((show pc4 9 = 2 by decide +kernel) ▸ hQ)
  | 10, _ => exact j_bit_10 ((show pc4 10 = 2 by decide +kernel) ▸ hQ)
  | 11, _ => exact j_bit_11 ((show pc4 11 = 3 by decide +kernel) ▸ hQ)
  | 12, _ => exact j_bit_12 ((show pc4 12 = 2 by decide +kernel) ▸ hQ)
  | 13, _ => exact j_bit_13 ((show pc4 13 = 3 by decide +kernel) ▸ hQ)
  | 14, _ => exact j_bit_14 ((show pc4 14 = 3 by decide +kernel) ▸ hQ)
  | 15, _ => exact j_bit_15 ((show pc4 15 = 4 by decide +kernel) ▸ hQ)
  | m + 16, hm => exact absurd hm (by omega)

def isStg (t : Nat) : Prop := kd t = 7 ∧ kd (t + 1) = 10 ∧ ln (t + 1) = 5

set_option maxHeartbeats 4000000 in
set_option maxRecDepth 100000 in
theorem st_shutsNone {x : mX} {h : mH} {Q : mH → Prop} {t : Nat} (ht : isStg t) (hQ : Q (hset h t 2 0)) : CtV x mtX7_shutsNone [xR t] h Q := by
  obtain ⟨k1, k2, k3⟩ := ht
  refine ct_go (ls := [xR t]) (by decide +kernel) (Nat.le_of_ble_eq_true rfl) rfl ?_
  refine go_aload_n dX7_shutsNone_0 rfl ?_
  refine go_iconst dX7_shutsNone_1 ⟨by decide, by decide⟩ ?_
  refine pfX7_shut (by first | assumption | rfl) flX7_19 dX7_shutsNone_2 ?_
  refine go_return dX7_shutsNone_5 rfl ?_
  exact hQ

set_option maxHeartbeats 4000000 in
set_option maxRecDepth 100000 in
theorem st_shutsOpen {x : mX} {h : mH} {Q : mH → Prop} {t sh op : Nat} (ht : isStg t) (hsh : h t 2 = sh) (hop : h t 3 = op) (b1 : sh < 16) (b2 : op < 16) (hQ : Q (hset h t 2 ((sh ||| op : Nat) : Int))) : CtV x mtX7_shutsOpen [xR t] h Q := by
  obtain ⟨k1, k2, k3⟩ := ht
  refine ct_go (ls := [xR t]) (by decide +kernel) (Nat.le_of_ble_eq_true rfl) rfl ?_
  refine go_aload_n dX7_shutsOpen_0 rfl ?_
  first | refine go_dupR dX7_shutsOpen_1 ?_ | refine go_dupI dX7_shutsOpen_1 ?_
  refine gfX7_shut (by first | assumption | rfl) flX7_19 dX7_shutsOpen_2 ?_
  rw [hsh]
  refine go_aload_n dX7_shutsOpen_5 rfl ?_
  refine gfX7_open (by first | assumption | rfl) flX7_22 dX7_shutsOpen_6 ?_
  rw [hop]
  refine go_ior  dX7_shutsOpen_9 (orm_ok sh b1 op b2) (inR_nat (Nat.lt_trans (orm_bd sh b1 op b2) (by decide))) ?_
  refine pfX7_shut (by first | assumption | rfl) flX7_19 dX7_shutsOpen_10 ?_
  refine go_return dX7_shutsOpen_13 rfl ?_
  exact hQ

set_option maxHeartbeats 4000000 in
set_option maxRecDepth 100000 in
theorem st_width {x : mX} {h : mH} {Q : Int → mH → Prop} {t : Nat} {k : Int} (ht : isStg t) (h0 : 0 ≤ k) (h1 : k < 5) (hQ : Q (h (t + 1) k) h) : CtI x mtX7_width [xR t, xI k] h Q := by
  obtain ⟨k1, k2, k3⟩ := ht
  refine ct_go (ls := [xR t, xI k]) (by decide +kernel) (Nat.le_of_ble_eq_true rfl) rfl ?_
  refine go_iload_n dX7_width_0 rfl ?_
  refine go_if_lt_f (tgt := 22) dX7_width_1 (by decide) (h0) ?_
  refine go_iload_n dX7_width_4 rfl ?_
  refine go_aload_n dX7_width_5 rfl ?_
  refine gfX7_widths (by first | assumption | rfl) flX7_9 dX7_width_6 ?_
  refine go_alen (Or.inl (by first | assumption | rfl)) dX7_width_9 (⟨by omega, by omega⟩) ?_
  refine go_icmp_ge_f (tgt := 22) dX7_width_10 (by decide) (by omega) ?_
  refine go_aload_n dX7_width_13 rfl ?_
  refine gfX7_widths (by first | assumption | rfl) flX7_9 dX7_width_14 ?_
  refine go_iload_n dX7_width_17 rfl ?_
  refine go_iaload (by first | assumption | rfl) dX7_width_18 (by omega) (by omega) ?_
  refine go_goto (tgt := 23) dX7_width_19 (by decide) ?_
  refine go_ireturn dX7_width_23 rfl ?_
  exact hQ

set_option maxHeartbeats 4000000 in
set_option maxRecDepth 100000 in
theorem st_beginOf {x : mX} {h : mH} {Q : Int → mH → Prop} {t k : Nat} (ht : isStg t) (hk : k ≤ 5) (hwd : ∀ s : Nat, s < 5 → 0 ≤ h (t + 1) (s : Int) ∧ h (t + 1) (s : Int) ≤ 1000) (hQ : Q (tot (fun s => h (t + 1) (s : Int)) k) h) : CtI x mtX7_beginOf [xR t, xI k] h Q := by
  refine ct_go (ls := [xR t, xI k, xU, xU]) (by decide +kernel) (Nat.le_of_ble_eq_true rfl) rfl ?_
  refine go_iconst dX7_beginOf_0 ⟨by decide, by decide⟩ ?_
  refine go_istore_n 2 dX7_beginOf_1 rfl (Nat.le_of_ble_eq_true rfl) rfl (by dsimp only [List.set]) ?_
  refine go_iconst dX7_beginOf_2 ⟨by decide, by decide⟩ ?_
  refine go_istore_n 3 dX7_beginOf_3 rfl (Nat.le_of_ble_eq_true rfl) rfl (by dsimp only [List.set]) ?_
  refine up_indN (P := fun s => Go x mtX7_beginOf 4 [xR t, xI k, xI (tot (fun k => h (t + 1) (k : Int)) s), xI s] [] h (qI Q)) k (fun s hs ih => ?_)
  have hb := tot_bd (w := fun k => h (t + 1) (k : Int)) (B := 1000) (n := s) (fun j hj => hwd j (by omega))
  by_cases hlt : s < k
  · skip
    refine go_iload_n dX7_beginOf_4 rfl ?_
    refine go_iload_n dX7_beginOf_5 rfl ?_
    refine go_icmp_ge_f (tgt := 23) dX7_beginOf_6 (by decide) (by omega) ?_
    refine go_iload_n dX7_beginOf_9 rfl ?_
    refine go_aload_n dX7_beginOf_10 rfl ?_
    refine go_iload_n dX7_beginOf_11 rfl ?_
    refine go_cV1I ht.1 vlX7_37 dX7_beginOf_12 (by decide) rfl rfl (by decide) (Nat.le_of_ble_eq_true rfl) (st_width ht (by omega) (by omega) ?_)
    have hw := hwd s (by omega)
    refine go_iadd dX7_beginOf_15 (by omega) (by omega) ?_
    refine go_istore_n 2 dX7_beginOf_16 rfl (Nat.le_of_ble_eq_true rfl) rfl (by dsimp only [List.set]) ?_
    refine go_iinc dX7_beginOf_17 rfl rfl rfl (by omega) (by omega) (by dsimp only [List.set]) ?_
    refine go_goto (tgt := 4) dX7_beginOf_20 (by decide) ?_
    rw [show tot (fun k => h (t + 1) (k : Int)) s + h (t + 1) (s : Int) = tot (fun k => h (t + 1) (k : Int)) (s + 1) from rfl]
    exact ih (by omega)
  · have hie : s = k := by omega
    subst hie
    refine go_iload_n dX7_beginOf_4 rfl ?_
    refine go_iload_n dX7_beginOf_5 rfl ?_
    refine go_icmp_ge_t (tgt := 23) dX7_beginOf_6 (by decide) (by omega) ?_
    refine go_iload_n dX7_beginOf_23 rfl ?_
    refine go_ireturn dX7_beginOf_24 rfl ?_
    exact hQ

set_option maxHeartbeats 4000000 in
set_option maxRecDepth 100000 in
theorem st_choiceFor {x : mX} {h : mH} {Q : Int → mH → Prop} {t : Nat} {k : Int} (ht : isStg t) (h0 : 0 ≤ k) (h1 : k < 4) (hQ : Q (if 0 < h (t + 1) k then k else 4) h) : CtI x mtX7_choiceFor [xR t, xI k] h Q := by
  refine ct_go (ls := [xR t, xI k]) (by decide +kernel) (Nat.le_of_ble_eq_true rfl) rfl ?_
  refine go_aload_n dX7_choiceFor_0 rfl ?_
  refine go_iload_n dX7_choiceFor_1 rfl ?_
  refine go_cV1I ht.1 vlX7_37 dX7_choiceFor_2 (by decide) rfl rfl (by decide) (Nat.le_of_ble_eq_true rfl) (st_width ht h0 (by omega) ?_)
  refine go_if_le (tgt := 12) dX7_choiceFor_5 (by decide) (fun c5 => ?_) (fun c5 => ?_)
  · refine go_iconst dX7_choiceFor_12 ⟨by decide, by decide⟩ ?_
    refine go_ireturn dX7_choiceFor_13 rfl ?_
    first | (rw [if_neg (by omega)] at hQ; exact hQ) | (rw [if_pos (by omega)] at hQ; exact hQ)
  · refine go_iload_n dX7_choiceFor_8 rfl ?_
    refine go_goto (tgt := 13) dX7_choiceFor_9 (by decide) ?_
    refine go_ireturn dX7_choiceFor_13 rfl ?_
    first | (rw [if_neg (by omega)] at hQ; exact hQ) | (rw [if_pos (by omega)] at hQ; exact hQ)

/-- the first of the four whose part ends above v; else 4 -/
def chAt (w : Nat → Int) (v : Int) : Nat := if v < tot w 1 then 0 else if v < tot w 2 then 1 else if v < tot w 3 then 2 else if v < tot w 4 then 3 else 4

set_option maxHeartbeats 4000000 in
set_option maxRecDepth 100000 in
theorem st_choiceAt {x : mX} {h : mH} {Q : Int → mH → Prop} {t : Nat} {v : Int} (ht : isStg t) (hwd : ∀ s : Nat, s < 5 → 0 ≤ h (t + 1) (s : Int) ∧ h (t + 1) (s : Int) ≤ 1000) (hQ : Q ((chAt (fun s => h (t + 1) (s : Int)) v : Nat) : Int) h) : CtI x mtX7_choiceAt [xR t, xI v] h Q := by
  have w0 : 0 ≤ h (t + 1) 0 ∧ h (t + 1) 0 ≤ 1000 := hwd 0 (by decide)
  have w1 : 0 ≤ h (t + 1) 1 ∧ h (t + 1) 1 ≤ 1000 := hwd 1 (by decide)
  have w2 : 0 ≤ h (t + 1) 2 ∧ h (t + 1) 2 ≤ 1000 := hwd 2 (by decide)
  have w3 : 0 ≤ h (t + 1) 3 ∧ h (t + 1) 3 ≤ 1000 := hwd 3 (by decide)
  have t1 : tot (fun s => h (t + 1) (s : Int)) 1 = h (t + 1) 0 := Int.zero_add _
  have t2 : tot (fun s => h (t + 1) (s : Int)) 2 = h (t + 1) 0 + h (t + 1) 1 := by rw [tot, t1]; rfl
  have t3 : tot (fun s => h (t + 1) (s : Int)) 3 = h (t + 1) 0 + h (t + 1) 1 + h (t + 1) 2 := by rw [tot, t2]; rfl
  have t4 : tot (fun s => h (t + 1) (s : Int)) 4 = h (t + 1) 0 + h (t + 1) 1 + h (t + 1) 2 + h (t + 1) 3 := by rw [tot, t3]; rfl
  refine ct_go (ls := [xR t, xI v, xU, xU]) (by decide +kernel) (Nat.le_of_ble_eq_true rfl) rfl ?_
  refine go_iconst dX7_choiceAt_0 ⟨by decide, by decide⟩ ?_
  refine go_istore_n 2 dX7_choiceAt_1 rfl (Nat.le_of_ble_eq_true rfl) rfl (by dsimp only [List.set]) ?_
  refine go_iconst dX7_choiceAt_2 ⟨by decide, by decide⟩ ?_
  refine go_istore_n 3 dX7_choiceAt_3 rfl (Nat.le_of_ble_eq_true rfl) rfl (by dsimp only [List.set]) ?_
  refine go_iload_n dX7_choiceAt_4 rfl ?_
  refine go_iconst dX7_choiceAt_5 ⟨by decide, by decide⟩ ?_
  refine go_icmp_ge_f (tgt := 30) dX7_choiceAt_6 (by decide) (by omega) ?_
  refine go_iload_n dX7_choiceAt_9 rfl ?_
  refine go_aload_n dX7_choiceAt_10 rfl ?_
  refine go_iload_n dX7_choiceAt_11 rfl ?_
  refine go_cV1I ht.1 vlX7_37 dX7_choiceAt_12 (by decide) rfl rfl (by decide) (Nat.le_of_ble_eq_true rfl) (st_width ht (by omega) (by omega) ?_)
  try simp only [Int.zero_add, Int.reduceAdd]
  refine go_iadd dX7_choiceAt_15 (by omega) (by omega) ?_
  refine go_istore_n 2 dX7_choiceAt_16 rfl (Nat.le_of_ble_eq_true rfl) rfl (by dsimp only [List.set]) ?_
  refine go_iload_n dX7_choiceAt_17 rfl ?_
  refine go_iload_n dX7_choiceAt_18 rfl ?_
  refine go_icmp_ge (tgt := 24) dX7_choiceAt_19 (by decide) (fun c19 => ?_) (fun c19 => ?_)
  · refine go_iinc dX7_choiceAt_24 rfl rfl rfl (by omega) (by omega) (by dsimp only [List.set]) ?_
    refine go_goto (tgt := 4) dX7_choiceAt_27 (by decide) ?_
    refine go_iload_n dX7_choiceAt_4 rfl ?_
    refine go_iconst dX7_choiceAt_5 ⟨by decide, by decide⟩ ?_
    refine go_icmp_ge_f (tgt := 30) dX7_choiceAt_6 (by decide) (by omega) ?_
    refine go_iload_n dX7_choiceAt_9 rfl ?_
    refine go_aload_n dX7_choiceAt_10 rfl ?_
    refine go_iload_n dX7_choiceAt_11 rfl ?_
    refine go_cV1I ht.1 vlX7_37 dX7_choiceAt_12 (by decide) rfl rfl (by decide) (Nat.le_of_ble_eq_true rfl) (st_width ht (by omega) (by omega) ?_)
    try simp only [Int.zero_add, Int.reduceAdd]
    refine go_iadd dX7_choiceAt_15 (by omega) (by omega) ?_
    refine go_istore_n 2 dX7_choiceAt_16 rfl (Nat.le_of_ble_eq_true rfl) rfl (by dsimp only [List.set]) ?_
    refine go_iload_n dX7_choiceAt_17 rfl ?_
    refine go_iload_n dX7_choiceAt_18 rfl ?_
    refine go_icmp_ge (tgt := 24) dX7_choiceAt_19 (by decide) (fun c19 => ?_) (fun c19 => ?_)
    · refine go_iinc dX7_choiceAt_24 rfl rfl rfl (by omega) (by omega) (by dsimp only [List.set]) ?_
      refine go_goto (tgt := 4) dX7_choiceAt_27 (by decide) ?_
      refine go_iload_n dX7_choiceAt_4 rfl ?_
      refine go_iconst dX7_choiceAt_5 ⟨by decide, by decide⟩ ?_
      refine go_icmp_ge_f (tgt := 30) dX7_choiceAt_6 (by decide) (by omega) ?_
      refine go_iload_n dX7_choiceAt_9 rfl ?_
      refine go_aload_n dX7_choiceAt_10 rfl ?_
      refine go_iload_n dX7_choiceAt_11 rfl ?_
      refine go_cV1I ht.1 vlX7_37 dX7_choiceAt_12 (by decide) rfl rfl (by decide) (Nat.le_of_ble_eq_true rfl) (st_width ht (by omega) (by omega) ?_)
      try simp only [Int.zero_add, Int.reduceAdd]
      refine go_iadd dX7_choiceAt_15 (by omega) (by omega) ?_
      refine go_istore_n 2 dX7_choiceAt_16 rfl (Nat.le_of_ble_eq_true rfl) rfl (by dsimp only [List.set]) ?_
      refine go_iload_n dX7_choiceAt_17 rfl ?_
      refine go_iload_n dX7_choiceAt_18 rfl ?_
      refine go_icmp_ge (tgt := 24) dX7_choiceAt_19 (by decide) (fun c19 => ?_) (fun c19 => ?_)
      · refine go_iinc dX7_choiceAt_24 rfl rfl rfl (by omega) (by omega) (by dsimp only [List.set]) ?_
        refine go_goto (tgt := 4) dX7_choiceAt_27 (by decide) ?_
        refine go_iload_n dX7_choiceAt_4 rfl ?_
        refine go_iconst dX7_choiceAt_5 ⟨by decide, by decide⟩ ?_
        refine go_icmp_ge_f (tgt := 30) dX7_choiceAt_6 (by decide) (by omega) ?_
        refine go_iload_n dX7_choiceAt_9 rfl ?_
        refine go_aload_n dX7_choiceAt_10 rfl ?_
        refine go_iload_n dX7_choiceAt_11 rfl ?_
        refine go_cV1I ht.1 vlX7_37 dX7_choiceAt_12 (by decide) rfl rfl (by decide) (Nat.le_of_ble_eq_true rfl) (st_width ht (by omega) (by omega) ?_)
        try simp only [Int.zero_add, Int.reduceAdd]
        refine go_iadd dX7_choiceAt_15 (by omega) (by omega) ?_
        refine go_istore_n 2 dX7_choiceAt_16 rfl (Nat.le_of_ble_eq_true rfl) rfl (by dsimp only [List.set]) ?_
        refine go_iload_n dX7_choiceAt_17 rfl ?_
        refine go_iload_n dX7_choiceAt_18 rfl ?_
        refine go_icmp_ge (tgt := 24) dX7_choiceAt_19 (by decide) (fun c19 => ?_) (fun c19 => ?_)
        · refine go_iinc dX7_choiceAt_24 rfl rfl rfl (by omega) (by omega) (by dsimp only [List.set]) ?_
          refine go_goto (tgt := 4) dX7_choiceAt_27 (by decide) ?_
          refine go_iload_n dX7_choiceAt_4 rfl ?_
          refine go_iconst dX7_choiceAt_5 ⟨by decide, by decide⟩ ?_
          refine go_icmp_ge_t (tgt := 30) dX7_choiceAt_6 (by decide) (by omega) ?_
          refine go_iconst dX7_choiceAt_30 ⟨by decide, by decide⟩ ?_
          refine go_ireturn dX7_choiceAt_31 rfl ?_
          rw [show chAt (fun s => h (t + 1) (s : Int)) v = 4 by unfold chAt; rw [t1, t2, t3, t4]; rw [if_neg (by omega), if_neg (by omega), if_neg (by omega), if_neg (by omega)]] at hQ
          exact hQ
        · refine go_iload_n dX7_choiceAt_22 rfl ?_
          refine go_ireturn dX7_choiceAt_23 rfl ?_
          rw [show chAt (fun s => h (t + 1) (s : Int)) v = 3 by unfold chAt; rw [t1, t2, t3, t4]; rw [if_neg (by omega), if_neg (by omega), if_neg (by omega), if_pos (by omega)]] at hQ
          exact hQ
      · refine go_iload_n dX7_choiceAt_22 rfl ?_
        refine go_ireturn dX7_choiceAt_23 rfl ?_
        rw [show chAt (fun s => h (t + 1) (s : Int)) v = 2 by unfold chAt; rw [t1, t2, t3, t4]; rw [if_neg (by omega), if_neg (by omega), if_pos (by omega)]] at hQ
        exact hQ
    · refine go_iload_n dX7_choiceAt_22 rfl ?_
      refine go_ireturn dX7_choiceAt_23 rfl ?_
      rw [show chAt (fun s => h (t + 1) (s : Int)) v = 1 by unfold chAt; rw [t1, t2, t3, t4]; rw [if_neg (by omega), if_pos (by omega)]] at hQ
      exact hQ
  · refine go_iload_n dX7_choiceAt_22 rfl ?_
    refine go_ireturn dX7_choiceAt_23 rfl ?_
    rw [show chAt (fun s => h (t + 1) (s : Int)) v = 0 by unfold chAt; rw [t1, t2, t3, t4]; rw [if_pos (by omega)]] at hQ
    exact hQ
end
section
/-! ===== Stage.shows ===== -/
def shwH (h : mH) (t : Nat) (w : Nat → Int) (n : Nat) : mH := fun a b => if a = t + 1 ∧ 0 ≤ b ∧ b < n then w b.toNat else if a = t ∧ b = 3 then (opn w n : Int) else if a = t ∧ b = 1 then tot w n else h a b
/-- the Stage t behind shows: widths w 0 to w 4, open, total -/
def stgH (h : mH) (t : Nat) (w : Nat → Int) : mH := fun a b => if a = t + 1 ∧ 0 ≤ b ∧ b < 5 then w b.toNat else if a = t ∧ b = 3 then (opn w 4 : Int) else if a = t ∧ b = 1 then tot w 5 else h a b
theorem shw_step1 {h : mH} {t n : Nat} {w : Nat → Int} (hp : 0 < w n) : hset (hset (hset (shwH h t w n) t 3 ((opn w n + 2 ^ n : Nat) : Int)) (t + 1) n (w n)) t 1 (tot w n + w n) = shwH h t w (n + 1) := by
  funext a b
  unfold hset shwH
  rw [show opn w (n + 1) = opn w n + 2 ^ n by rw [opn, if_pos hp], show tot w (n + 1) = tot w n + w n from rfl]
  by_cases e1 : a = t ∧ b = 1
  · rw [if_pos e1, if_neg (by omega), if_neg (by omega), if_pos e1]
  · rw [if_neg e1]
    by_cases e2 : a = t + 1 ∧ b = n
    · rw [if_pos e2, if_pos (by omega), e2.2, Int.toNat_natCast]
    · rw [if_neg e2]
      by_cases e3 : a = t ∧ b = 3
      · rw [if_pos e3, if_neg (by omega), if_pos e3]
      · rw [if_neg e3]
        by_cases e4 : a = t + 1 ∧ 0 ≤ b ∧ b < n
        · rw [if_pos e4, if_pos (by omega)]
        · rw [if_neg e4, if_neg e3, if_neg e1, if_neg (by omega), if_neg e3, if_neg e1]
theorem shw_step0 {h : mH} {t n : Nat} {w : Nat → Int} (hp : ¬ 0 < w n) : hset (hset (shwH h t w n) (t + 1) n (w n)) t 1 (tot w n + w n) = shwH h t w (n + 1) := by
  funext a b
  unfold hset shwH
  rw [show opn w (n + 1) = opn w n by rw [opn, if_neg hp]; rfl, show tot w (n + 1) = tot w n + w n from rfl]
  by_cases e1 : a = t ∧ b = 1
  · rw [if_pos e1, if_neg (by omega), if_neg (by omega), if_pos e1]
  · rw [if_neg e1]
    by_cases e2 : a = t + 1 ∧ b = n
    · rw [if_pos e2, if_pos (by omega), e2.2, Int.toNat_natCast]
    · rw [if_neg e2]
      by_cases e4 : a = t + 1 ∧ 0 ≤ b ∧ b < n
      · rw [if_pos e4, if_pos (by omega)]
      · rw [if_neg e4, if_neg (show ¬ (a = t + 1 ∧ 0 ≤ b ∧ b < ((n + 1 : Nat) : Int)) by omega)]
        by_cases e3 : a = t ∧ b = 3
        · rw [if_pos e3, if_pos e3]
        · rw [if_neg e3, if_neg e3, if_neg e1, if_neg e1]
theorem shw_end {h : mH} {t : Nat} {w w' : Nat → Int} (hw : ∀ k, k < 4 → w' k = w k) : hset (hset (shwH h t w 4) (t + 1) 4 (w' 4)) t 1 (tot w 4 + w' 4) = stgH h t w' := by
  funext a b
  unfold hset shwH stgH
  rw [show tot w' 5 = tot w 4 + w' 4 by rw [tot, tot_congr hw], opn_congr hw]
  by_cases e1 : a = t ∧ b = 1
  · rw [if_pos e1, if_neg (by omega), if_neg (by omega), if_pos e1]
  · rw [if_neg e1]
    by_cases e2 : a = t + 1 ∧ b = 4
    · rw [if_pos e2, if_pos (by omega), e2.2]; rfl
    · rw [if_neg e2]
      by_cases e4 : a = t + 1 ∧ 0 ≤ b ∧ b < 4
      · rw [if_pos (show a = t + 1 ∧ 0 ≤ b ∧ b < ((4 : Nat) : Int) by omega), if_pos (show a = t + 1 ∧ 0 ≤ b ∧ b < 5 by omega), hw _ (by omega)]
      · rw [if_neg (show ¬ (a = t + 1 ∧ 0 ≤ b ∧ b < ((4 : Nat) : Int)) by omega), if_neg (show ¬ (a = t + 1 ∧ 0 ≤ b ∧ b < 5) by omega)]
        by_cases e3 : a = t ∧ b = 3
        · rw [if_pos e3, if_pos e3]
        · rw [if_neg e3, if_neg e3, if_neg e1, if_neg e1]
theorem wS_bd {cs : Int → Int} {pl : Int} {sh s : Nat} {B : Int} (hB : 1 ≤ B) (h : pl = -1 ∨ (0 ≤ cs (4 * pl + s) ∧ cs (4 * pl + s) ≤ B)) : 0 ≤ wS cs pl sh s ∧ wS cs pl sh s ≤ B := by
  unfold wS
  split
  · omega
  · split
    · omega
    · omega

set_option maxHeartbeats 8000000 in
set_option maxRecDepth 100000 in
theorem st_shows {x : mX} {h : mH} {Q : mH → Prop} {t c sh : Nat} {pl : Int} (ht : isStg t) (hc : isCtx c) (htc : t + 2 ≤ c ∨ c + 2 ≤ t) (h2 : h t 2 = sh) (hsh : sh < 16) (hpl : -1 ≤ pl) (hpl2 : pl ≤ 84) (hcs : ∀ s : Nat, s < 4 → pl = -1 ∨ (0 ≤ h (c + 1) (4 * pl + s) ∧ h (c + 1) (4 * pl + s) ≤ 1000)) (hQ : Q (stgH h t (wE (h (c + 1)) pl sh))) : CtV x mtX7_shows [xR t, xR c, xI pl] h Q := by
  obtain ⟨k1, k2, k3⟩ := ht
  generalize hwe : wS (h (c + 1)) pl sh = w
  have hwb : ∀ k, k < 4 → 0 ≤ w k ∧ w k ≤ 1000 := fun k hk => by rw [← hwe]; exact wS_bd (by decide) (hcs k hk)
  have J : ∀ u v : mV, Go x mtX7_shows 129 [xR t, xR c, xI pl, u, v] [xI (esc pl sh (opn w 4))] (shwH h t w 4) (qV Q) := by
    intro u v
    have eb := esc_bd pl sh (opn w 4)
    have tb := tot_bd (B := 1000) (n := 4) hwb
    have z1 : hset (shwH h t w 4) (t + 1) 4 (esc pl sh (opn w 4)) t 1 = tot w 4 := by
      rw [hset_ni (by omega)]; unfold shwH; rw [if_neg (by omega), if_neg (by omega), if_pos ⟨rfl, rfl⟩]
    have hQ : Q (hset (hset (shwH h t w 4) (t + 1) 4 (esc pl sh (opn w 4))) t 1 (tot w 4 + esc pl sh (opn w 4))) := by
      have e9 := shw_end (h := h) (t := t) (w := w) (w' := wE (h (c + 1)) pl sh) (fun k hk => by rw [wE_lt hk, hwe])
      rw [wE_4, hwe] at e9
      rw [e9]; exact hQ
    refine go_istore_n 3 dX7_shows_129 rfl (Nat.le_of_ble_eq_true rfl) rfl (by dsimp only [List.set]) ?_
    refine go_iconst dX7_shows_130 ⟨by decide, by decide⟩ ?_
    refine go_aload_n dX7_shows_131 rfl ?_
    refine gfX7_widths (by first | assumption | rfl) flX7_9 dX7_shows_132 ?_
    refine go_alen (Or.inl (by first | assumption | rfl)) dX7_shows_135 (⟨by omega, by omega⟩) ?_
    refine go_icmp_ge_f (tgt := 146) dX7_shows_136 (by decide) (by omega) ?_
    refine go_aload_n dX7_shows_139 rfl ?_
    refine gfX7_widths (by first | assumption | rfl) flX7_9 dX7_shows_140 ?_
    refine go_iconst dX7_shows_143 ⟨by decide, by decide⟩ ?_
    refine go_iload_n dX7_shows_144 rfl ?_
    refine go_iastore (by first | assumption | rfl) dX7_shows_145 (by omega) (by omega) ?_
    refine go_aload_n dX7_shows_146 rfl ?_
    first | refine go_dupR dX7_shows_147 ?_ | refine go_dupI dX7_shows_147 ?_
    refine gfX7_total (by first | assumption | rfl) flX7_15 dX7_shows_148 ?_
    rw [z1]
    refine go_iload_n dX7_shows_151 rfl ?_
    refine go_iadd dX7_shows_152 (by omega) (by omega) ?_
    refine pfX7_total (by first | assumption | rfl) flX7_15 dX7_shows_153 ?_
    refine go_return dX7_shows_156 rfl ?_
    exact hQ
  have key : ∀ u : mV, Go x mtX7_shows 12 [xR t, xR c, xI pl, xI 0, u] [] (shwH h t w 0) (qV Q) := by
    refine up_indN (P := fun s => ∀ u : mV, Go x mtX7_shows 12 [xR t, xR c, xI pl, xI s, u] [] (shwH h t w s) (qV Q)) 4 (fun s hs ih u => ?_)
    have q2 : shwH h t w s t 2 = sh := by unfold shwH; rw [if_neg (by omega), if_neg (by omega), if_neg (by omega), h2]
    have q3 : shwH h t w s t 3 = (opn w s : Int) := by unfold shwH; rw [if_neg (by omega), if_pos ⟨rfl, rfl⟩]
    have q1 : shwH h t w s t 1 = tot w s := by unfold shwH; rw [if_neg (by omega), if_neg (by omega), if_pos ⟨rfl, rfl⟩]
    have qc : shwH h t w s (c + 1) = h (c + 1) := by funext b; unfold shwH; rw [if_neg (by omega), if_neg (by omega), if_neg (by omega)]
    by_cases hs4 : s < 4
    · have hw := hwb s hs4
      have tb := tot_bd (B := 1000) (n := s) (fun k hk => hwb k (by omega))
      have hcs' := hcs s hs4
      have K : ∀ u : Int, Go x mtX7_shows 57 [xR t, xR c, xI pl, xI s, xI (w s)] [] (shwH h t w s) (qV Q) := by
        intro _
        have q1a : hset (hset (shwH h t w s) t 3 ((opn w s + 2 ^ s : Nat) : Int)) (t + 1) s (w s) t 1 = tot w s := by rw [hset_ni (by omega), hset_nk (by omega), q1]
        have q1b : hset (shwH h t w s) (t + 1) s (w s) t 1 = tot w s := by rw [hset_ni (by omega), q1]
        refine go_iload dX7_shows_57 rfl ?_
        refine go_if_le (tgt := 74) dX7_shows_59 (by decide) (fun c59 => ?_) (fun c59 => ?_)
        · refine go_aload_n dX7_shows_74 rfl ?_
          refine gfX7_widths (by first | assumption | rfl) flX7_9 dX7_shows_75 ?_
          refine go_iload_n dX7_shows_78 rfl ?_
          refine go_iload dX7_shows_79 rfl ?_
          refine go_iastore (by first | assumption | rfl) dX7_shows_81 (by omega) (by omega) ?_
          refine go_aload_n dX7_shows_82 rfl ?_
          first | refine go_dupR dX7_shows_83 ?_ | refine go_dupI dX7_shows_83 ?_
          refine gfX7_total (by first | assumption | rfl) flX7_15 dX7_shows_84 ?_
          first | rw [q1a] | rw [q1b]
          refine go_iload dX7_shows_87 rfl ?_
          refine go_iadd dX7_shows_89 (by omega) (by omega) ?_
          refine pfX7_total (by first | assumption | rfl) flX7_15 dX7_shows_90 ?_
          refine go_iinc dX7_shows_93 rfl rfl rfl (by omega) (by omega) (by dsimp only [List.set]) ?_
          refine go_goto (tgt := 12) dX7_shows_96 (by decide) ?_
          first | (rw [shw_step1 c59]; exact ih (by omega) _) | (rw [shw_step0 (by omega)]; exact ih (by omega) _)
        · refine go_aload_n dX7_shows_62 rfl ?_
          first | refine go_dupR dX7_shows_63 ?_ | refine go_dupI dX7_shows_63 ?_
          refine gfX7_open (by first | assumption | rfl) flX7_22 dX7_shows_64 ?_
          rw [q3]
          refine go_iconst dX7_shows_67 ⟨by decide, by decide⟩ ?_
          refine go_iload_n dX7_shows_68 rfl ?_
          refine go_ishl  dX7_shows_69 (shl_ok s hs4) (inR_nat (Nat.lt_of_le_of_lt (pow_bd s hs4) (by decide))) ?_
          refine go_ior  dX7_shows_70 (orp_ok s hs4 _ (opn_lt w s)) (inR_nat (by have := opn_lt w s; have := pow_bd s hs4; omega)) ?_
          refine pfX7_open (by first | assumption | rfl) flX7_22 dX7_shows_71 ?_
          refine go_aload_n dX7_shows_74 rfl ?_
          refine gfX7_widths (by first | assumption | rfl) flX7_9 dX7_shows_75 ?_
          refine go_iload_n dX7_shows_78 rfl ?_
          refine go_iload dX7_shows_79 rfl ?_
          refine go_iastore (by first | assumption | rfl) dX7_shows_81 (by omega) (by omega) ?_
          refine go_aload_n dX7_shows_82 rfl ?_
          first | refine go_dupR dX7_shows_83 ?_ | refine go_dupI dX7_shows_83 ?_
          refine gfX7_total (by first | assumption | rfl) flX7_15 dX7_shows_84 ?_
          first | rw [q1a] | rw [q1b]
          refine go_iload dX7_shows_87 rfl ?_
          refine go_iadd dX7_shows_89 (by omega) (by omega) ?_
          refine pfX7_total (by first | assumption | rfl) flX7_15 dX7_shows_90 ?_
          refine go_iinc dX7_shows_93 rfl rfl rfl (by omega) (by omega) (by dsimp only [List.set]) ?_
          refine go_goto (tgt := 12) dX7_shows_96 (by decide) ?_
          first | (rw [shw_step1 c59]; exact ih (by omega) _) | (rw [shw_step0 (by omega)]; exact ih (by omega) _)
      have hbb := b1_bd (hb sh s)
      have hw1 : b1 (hb sh s) ≠ 0 → w s = 0 := by
        intro q; rw [← hwe]; unfold wS; rw [if_pos (by cases hq : hb sh s <;> simp_all [b1])]
      have hw2 : b1 (hb sh s) = 0 → pl = -1 → w s = 1 := by
        intro q q2; rw [← hwe]; unfold wS; rw [if_neg (by intro z; rw [z] at q; simp [b1] at q), if_pos q2]
      have hw3 : b1 (hb sh s) = 0 → pl ≠ -1 → w s = shwH h t w s (c + 1) (4 * pl + s) := by
        intro q q2; rw [qc, ← hwe]; unfold wS; rw [if_neg (by intro z; rw [z] at q; simp [b1] at q), if_neg q2]
      have hcsq : pl ≠ -1 → 0 ≤ shwH h t w s (c + 1) (4 * pl + s) ∧ shwH h t w s (c + 1) (4 * pl + s) ≤ 1000 := by rw [qc]; omega
      refine go_iload_n dX7_shows_12 rfl ?_
      refine go_iconst dX7_shows_13 ⟨by decide, by decide⟩ ?_
      refine go_icmp_ge_f (tgt := 99) dX7_shows_14 (by decide) (by omega) ?_
      refine go_iload_n dX7_shows_17 rfl ?_
      refine go_aload_n dX7_shows_18 rfl ?_
      refine gfX7_widths (by first | assumption | rfl) flX7_9 dX7_shows_19 ?_
      refine go_alen (Or.inl (by first | assumption | rfl)) dX7_shows_22 (⟨by omega, by omega⟩) ?_
      refine go_icmp_ge_f (tgt := 99) dX7_shows_23 (by decide) (by omega) ?_
      refine go_iload_n dX7_shows_26 rfl ?_
      refine go_iconst dX7_shows_27 ⟨by decide, by decide⟩ ?_
      refine go_icmp_ne (tgt := 35) dX7_shows_28 (by decide) (fun c28 => ?_) (fun c28 => ?_)
      · refine go_aload_n dX7_shows_35 rfl ?_
        refine go_iload_n dX7_shows_36 rfl ?_
        refine go_iload_n dX7_shows_37 rfl ?_
        refine go_cV2I hc.1 vlX7_25 dX7_shows_38 (by decide) rfl rfl (by decide) (Nat.le_of_ble_eq_true rfl) (ctx_at hc (by omega) (by omega) (by omega) (by omega) ?_)
        refine go_istore dX7_shows_41 (Nat.le_of_ble_eq_true rfl) rfl (by dsimp only [List.set]) ?_
        refine go_aload_n dX7_shows_43 rfl ?_
        refine gfX7_shut (by first | assumption | rfl) flX7_19 dX7_shows_44 ?_
        rw [q2]
        refine go_iload_n dX7_shows_47 rfl ?_
        refine go_ishr  dX7_shows_48 (shr_ok sh hsh s hs4) (inR_nat (Nat.lt_trans (shr_bd sh hsh s hs4) (by decide))) ?_
        refine go_iconst dX7_shows_49 ⟨by decide, by decide⟩ ?_
        refine go_iand  dX7_shows_50 (and1_ok sh hsh s hs4) ⟨by have := b1_bd (hb sh s); omega, by have := b1_bd (hb sh s); omega⟩ ?_
        refine go_if_eq (tgt := 57) dX7_shows_51 (by decide) (fun c51 => ?_) (fun c51 => ?_)
        · first | (rw [hw1 (by omega)] at K; exact K 0) | (rw [hw2 (by omega) (by omega)] at K; exact K 0) | (rw [← hw3 (by omega) (by omega)]; exact K 0)
        · refine go_iconst dX7_shows_54 ⟨by decide, by decide⟩ ?_
          refine go_istore dX7_shows_55 (Nat.le_of_ble_eq_true rfl) rfl (by dsimp only [List.set]) ?_
          first | (rw [hw1 (by omega)] at K; exact K 0) | (rw [hw2 (by omega) (by omega)] at K; exact K 0) | (rw [← hw3 (by omega) (by omega)]; exact K 0)
      · refine go_iconst dX7_shows_31 ⟨by decide, by decide⟩ ?_
        refine go_goto (tgt := 41) dX7_shows_32 (by decide) ?_
        refine go_istore dX7_shows_41 (Nat.le_of_ble_eq_true rfl) rfl (by dsimp only [List.set]) ?_
        refine go_aload_n dX7_shows_43 rfl ?_
        refine gfX7_shut (by first | assumption | rfl) flX7_19 dX7_shows_44 ?_
        rw [q2]
        refine go_iload_n dX7_shows_47 rfl ?_
        refine go_ishr  dX7_shows_48 (shr_ok sh hsh s hs4) (inR_nat (Nat.lt_trans (shr_bd sh hsh s hs4) (by decide))) ?_
        refine go_iconst dX7_shows_49 ⟨by decide, by decide⟩ ?_
        refine go_iand  dX7_shows_50 (and1_ok sh hsh s hs4) ⟨by have := b1_bd (hb sh s); omega, by have := b1_bd (hb sh s); omega⟩ ?_
        refine go_if_eq (tgt := 57) dX7_shows_51 (by decide) (fun c51 => ?_) (fun c51 => ?_)
        · first | (rw [hw1 (by omega)] at K; exact K 0) | (rw [hw2 (by omega) (by omega)] at K; exact K 0) | (rw [← hw3 (by omega) (by omega)]; exact K 0)
        · refine go_iconst dX7_shows_54 ⟨by decide, by decide⟩ ?_
          refine go_istore dX7_shows_55 (Nat.le_of_ble_eq_true rfl) rfl (by dsimp only [List.set]) ?_
          first | (rw [hw1 (by omega)] at K; exact K 0) | (rw [hw2 (by omega) (by omega)] at K; exact K 0) | (rw [← hw3 (by omega) (by omega)]; exact K 0)
    · have hs5 : s = 4 := by omega
      subst hs5
      have he1 : pl = -1 ∨ opn w 4 ||| sh = 15 → esc pl sh (opn w 4) = 0 := by intro q; unfold esc; rw [if_pos q]
      have he2 : ¬ (pl = -1 ∨ opn w 4 ||| sh = 15) → esc pl sh (opn w 4) = pc4 (opn w 4) := by intro q; unfold esc; rw [if_neg q]
      refine go_iload_n dX7_shows_12 rfl ?_
      refine go_iconst dX7_shows_13 ⟨by decide, by decide⟩ ?_
      refine go_icmp_ge_t (tgt := 99) dX7_shows_14 (by decide) (by omega) ?_
      refine go_iload_n dX7_shows_99 rfl ?_
      refine go_iconst dX7_shows_100 ⟨by decide, by decide⟩ ?_
      refine go_icmp_eq (tgt := 118) dX7_shows_101 (by decide) (fun c101 => ?_) (fun c101 => ?_)
      · refine go_iconst dX7_shows_118 ⟨by decide, by decide⟩ ?_
        refine go_goto (tgt := 129) dX7_shows_119 (by decide) ?_
        first | (rw [he1 (by omega)] at J; exact J _ _) | (rw [he2 (by omega)] at J; exact J _ _)
      · refine go_aload_n dX7_shows_104 rfl ?_
        refine gfX7_open (by first | assumption | rfl) flX7_22 dX7_shows_105 ?_
        rw [q3]
        refine go_aload_n dX7_shows_108 rfl ?_
        refine gfX7_shut (by first | assumption | rfl) flX7_19 dX7_shows_109 ?_
        rw [q2]
        refine go_ior  dX7_shows_112 (orm_ok _ (opn_lt w 4) sh hsh) (inR_nat (Nat.lt_trans (orm_bd _ (opn_lt w 4) sh hsh) (by decide))) ?_
        refine go_bipush dX7_shows_113 (by decide +kernel) ⟨by decide, by decide⟩ ?_
        refine go_icmp_ne (tgt := 122) dX7_shows_115 (by decide) (fun c115 => ?_) (fun c115 => ?_)
        · refine go_aload_n dX7_shows_122 rfl ?_
          refine gfX7_open (by first | assumption | rfl) flX7_22 dX7_shows_123 ?_
          rw [q3]
          refine go_cS1I slX7_31 dX7_shows_126 (by decide) (Nat.le_of_ble_eq_true rfl) (j_bit (Nat.lt_of_lt_of_le (opn_lt w 4) (by decide)) ?_)
          first | (rw [he1 (by omega)] at J; exact J _ _) | (rw [he2 (by omega)] at J; exact J _ _)
        · refine go_iconst dX7_shows_118 ⟨by decide, by decide⟩ ?_
          refine go_goto (tgt := 129) dX7_shows_119 (by decide) ?_
          first | (rw [he1 (by omega)] at J; exact J _ _) | (rw [he2 (by omega)] at J; exact J _ _)
  have e0 : hset (hset h t 3 0) t 1 0 = shwH h t w 0 := by
    funext a b
    unfold hset shwH
    by_cases e1 : a = t ∧ b = 1
    · rw [if_pos e1, if_neg (by omega), if_neg (by omega), if_pos e1]; rfl
    · rw [if_neg e1, if_neg (show ¬ (a = t + 1 ∧ 0 ≤ b ∧ b < ((0 : Nat) : Int)) by omega)]
      by_cases e2 : a = t ∧ b = 3
      · rw [if_pos e2, if_pos e2]; rfl
      · rw [if_neg e2, if_neg e2, if_neg e1]
  refine ct_go (ls := [xR t, xR c, xI pl, xU, xU]) (by decide +kernel) (Nat.le_of_ble_eq_true rfl) rfl ?_
  refine go_aload_n dX7_shows_0 rfl ?_
  refine go_iconst dX7_shows_1 ⟨by decide, by decide⟩ ?_
  refine pfX7_open (by first | assumption | rfl) flX7_22 dX7_shows_2 ?_
  refine go_aload_n dX7_shows_5 rfl ?_
  refine go_iconst dX7_shows_6 ⟨by decide, by decide⟩ ?_
  refine pfX7_total (by first | assumption | rfl) flX7_15 dX7_shows_7 ?_
  refine go_iconst dX7_shows_10 ⟨by decide, by decide⟩ ?_
  refine go_istore_n 3 dX7_shows_11 rfl (Nat.le_of_ble_eq_true rfl) rfl (by dsimp only [List.set]) ?_
  rw [e0]
  exact key _
end
section
/-! ===== the range, written and read: pure ===== -/
def les (lo hi : Int) : Int := if hi < 32768 then 0 else if 32768 ≤ lo then 32768 else if 16384 ≤ lo ∧ hi < 49152 then 16384 else -9
/-- low, high, owed, the bits -/
abbrev Cd : Type := Int × Int × Nat × List Int
def stp (c : Cd) : Cd := (2 * (c.1 - les c.1 c.2.1), 2 * (c.2.1 - les c.1 c.2.1) + 1, if les c.1 c.2.1 = 16384 then c.2.2.1 + 1 else 0, if les c.1 c.2.1 = 16384 then c.2.2.2 else c.2.2.2 ++ (if les c.1 c.2.1 = 0 then 0 else 1) :: List.replicate c.2.2.1 (1 - (if les c.1 c.2.1 = 0 then 0 else 1)))
def wdn : Nat → Cd → Cd
  | 0, c => c
  | n + 1, c => if les c.1 c.2.1 = -9 then c else wdn n (stp c)
def prt (c : Cd) (b w t : Int) : Cd := wdn 17 (c.1 + (c.2.1 - c.1 + 1) * b / t, c.1 + (c.2.1 - c.1 + 1) * (b + w) / t - 1, c.2.2.1, c.2.2.2)
/-- low and high as they are between steps -/
def CdB (lo hi : Int) : Prop := 0 ≤ lo ∧ lo ≤ hi ∧ hi ≤ 65535
def CdN (lo hi : Int) : Prop := 0 ≤ lo ∧ hi ≤ 65535 ∧ 16384 < hi - lo + 1
/-- how many bits there are, and are owed -/
def Dn (c : Cd) : Nat := c.2.2.2.length + c.2.2.1
theorem les_cases {lo hi : Int} : (les lo hi = 0 ∧ hi < 32768) ∨ (les lo hi = 32768 ∧ 32768 ≤ hi ∧ 32768 ≤ lo) ∨ (les lo hi = 16384 ∧ 32768 ≤ hi ∧ lo < 32768 ∧ 16384 ≤ lo ∧ hi < 49152) ∨ (les lo hi = -9 ∧ 32768 ≤ hi ∧ lo < 32768 ∧ (lo < 16384 ∨ 49152 ≤ hi)) := by
  unfold les
  by_cases h1 : hi < 32768
  · rw [if_pos h1]; omega
  · rw [if_neg h1]
    by_cases h2 : 32768 ≤ lo
    · rw [if_pos h2]; omega
    · rw [if_neg h2]
      by_cases h3 : 16384 ≤ lo ∧ hi < 49152
      · rw [if_pos h3]; omega
      · rw [if_neg h3]; omega
theorem stp_B {c : Cd} (h : CdB c.1 c.2.1) (hl : les c.1 c.2.1 ≠ -9) : CdB (stp c).1 (stp c).2.1 ∧ (stp c).2.1 - (stp c).1 + 1 = 2 * (c.2.1 - c.1 + 1) := by
  obtain ⟨h1, h2, h3⟩ := h
  have e1 : (stp c).1 = 2 * (c.1 - les c.1 c.2.1) := rfl
  have e2 : (stp c).2.1 = 2 * (c.2.1 - les c.1 c.2.1) + 1 := rfl
  unfold CdB
  rw [e1, e2]
  rcases les_cases (lo := c.1) (hi := c.2.1) with q | q | q | q <;> omega
theorem stp_D (c : Cd) : Dn (stp c) = Dn c + 1 := by
  unfold Dn stp
  by_cases h : les c.1 c.2.1 = 16384
  · simp only [if_pos h]; omega
  · simp only [if_neg h, List.length_append, List.length_cons, List.length_replicate]; omega
theorem wdn_D : ∀ (n : Nat) (c : Cd), Dn c ≤ Dn (wdn n c)
  | 0, _ => Nat.le_refl _
  | n + 1, c => by
    rw [wdn]
    split
    · exact Nat.le_refl _
    · have := wdn_D n (stp c)
      rw [stp_D] at this
      omega
theorem wdn_N : ∀ (n : Nat) (c : Cd), CdB c.1 c.2.1 → 131072 ≤ (c.2.1 - c.1 + 1) * 2 ^ n → CdN (wdn n c).1 (wdn n c).2.1
  | 0, c, h, h2 => by
    obtain ⟨a1, a2, a3⟩ := h
    rw [Int.pow_zero, Int.mul_one] at h2
    omega
  | n + 1, c, h, h2 => by
    rw [wdn]
    split
    · rename_i q
      obtain ⟨a1, a2, a3⟩ := h
      rcases les_cases (lo := c.1) (hi := c.2.1) with z | z | z | z
      · omega
      · omega
      · omega
      · unfold CdN; omega
    · rename_i q
      have := stp_B h q
      refine wdn_N n (stp c) this.1 ?_
      rw [this.2]
      have e : (c.2.1 - c.1 + 1) * 2 ^ (n + 1) = 2 * (c.2.1 - c.1 + 1) * 2 ^ n := by rw [Int.pow_succ, Int.mul_comm ((2 : Int) ^ n) 2, ← Int.mul_assoc, Int.mul_comm (c.2.1 - c.1 + 1) 2]
      rw [← e]; exact h2
/-- a part of a range of more than 16384: it lies in the range, and isn't empty -/
theorem prt_B {lo hi b w t : Int} (hN : CdN lo hi) (hb : 0 ≤ b) (hw : 1 ≤ w) (ht : b + w ≤ t) (ht2 : t ≤ 5000) : CdB (lo + (hi - lo + 1) * b / t) (lo + (hi - lo + 1) * (b + w) / t - 1) := by
  obtain ⟨n1, n2, n3⟩ := hN
  have htp : 0 < t := by omega
  generalize hr : hi - lo + 1 = r at n3 ⊢
  have a1 : 0 ≤ r * b / t := Int.ediv_nonneg (Int.mul_nonneg (by omega) hb) (by omega)
  have a2 : r * (b + w) / t ≤ r := by
    have : r * (b + w) ≤ r * t := Int.mul_le_mul_of_nonneg_left ht (by omega)
    calc r * (b + w) / t ≤ r * t / t := Int.ediv_le_ediv htp this
      _ = r := Int.mul_ediv_cancel r (by omega)
  have a3 : r * b / t + 1 ≤ r * (b + w) / t := by
    have h1 : r * b + t ≤ r * (b + w) := by
      rw [Int.mul_add]
      have : r * 1 ≤ r * w := Int.mul_le_mul_of_nonneg_left hw (by omega)
      omega
    calc r * b / t + 1 = (r * b + 1 * t) / t := (Int.add_mul_ediv_right (r * b) 1 (by omega)).symm
      _ ≤ r * (b + w) / t := Int.ediv_le_ediv htp (by omega)
  unfold CdB
  omega
theorem prt_N {c : Cd} {b w t : Int} (hN : CdN c.1 c.2.1) (hb : 0 ≤ b) (hw : 1 ≤ w) (ht : b + w ≤ t) (ht2 : t ≤ 5000) : CdN (prt c b w t).1 (prt c b w t).2.1 := by
  unfold prt
  have h := prt_B hN hb hw ht ht2
  refine wdn_N 17 _ h ?_
  have e : (2 : Int) ^ 17 = 131072 := by decide
  rw [e]
  obtain ⟨h1, h2, h3⟩ := h
  show 131072 ≤ (c.1 + (c.2.1 - c.1 + 1) * (b + w) / t - 1 - (c.1 + (c.2.1 - c.1 + 1) * b / t) + 1) * 131072
  omega
/-! reading: low, high, owed, value, the next bit's place -/
abbrev Rd : Type := Int × Int × Int × Int × Int
def rstp (sf : Int → Int) (c : Rd) : Rd := (2 * (c.1 - les c.1 c.2.1), 2 * (c.2.1 - les c.1 c.2.1) + 1, if les c.1 c.2.1 = 16384 then c.2.2.1 + 1 else c.2.2.1, 2 * (c.2.2.2.1 - les c.1 c.2.1) + sf c.2.2.2.2, c.2.2.2.2 + 1)
def rdn (sf : Int → Int) : Nat → Rd → Rd
  | 0, c => c
  | n + 1, c => if les c.1 c.2.1 = -9 then c else rdn sf n (rstp sf c)
def rprt (sf : Int → Int) (c : Rd) (b w t : Int) : Rd := rdn sf 17 (c.1 + (c.2.1 - c.1 + 1) * b / t, c.1 + (c.2.1 - c.1 + 1) * (b + w) / t - 1, c.2.2.1, c.2.2.2.1, c.2.2.2.2)
/-- the value lies in the range; owed and the place are small -/
def RdV (K : Int) (c : Rd) : Prop := c.1 ≤ c.2.2.2.1 ∧ c.2.2.2.1 ≤ c.2.1 ∧ 0 ≤ c.2.2.1 ∧ c.2.2.1 ≤ K ∧ 0 ≤ c.2.2.2.2 ∧ c.2.2.2.2 ≤ K + 16
theorem rstp_B {sf : Int → Int} {c : Rd} (h : CdB c.1 c.2.1) (hl : les c.1 c.2.1 ≠ -9) : CdB (rstp sf c).1 (rstp sf c).2.1 ∧ (rstp sf c).2.1 - (rstp sf c).1 + 1 = 2 * (c.2.1 - c.1 + 1) := by
  obtain ⟨h1, h2, h3⟩ := h
  have e1 : (rstp sf c).1 = 2 * (c.1 - les c.1 c.2.1) := rfl
  have e2 : (rstp sf c).2.1 = 2 * (c.2.1 - les c.1 c.2.1) + 1 := rfl
  unfold CdB
  rw [e1, e2]
  rcases les_cases (lo := c.1) (hi := c.2.1) with q | q | q | q <;> omega
theorem rstp_V {sf : Int → Int} {K : Int} {c : Rd} (hsf : ∀ k, sf k = 0 ∨ sf k = 1) (h : RdV K c) : RdV (K + 1) (rstp sf c) := by
  obtain ⟨h1, h2, h3, h4, h5, h6⟩ := h
  have hs := hsf c.2.2.2.2
  have e1 : (rstp sf c).1 = 2 * (c.1 - les c.1 c.2.1) := rfl
  have e2 : (rstp sf c).2.1 = 2 * (c.2.1 - les c.1 c.2.1) + 1 := rfl
  have e3 : (rstp sf c).2.2.2.1 = 2 * (c.2.2.2.1 - les c.1 c.2.1) + sf c.2.2.2.2 := rfl
  have e4 : (rstp sf c).2.2.2.2 = c.2.2.2.2 + 1 := rfl
  have e5 : (rstp sf c).2.2.1 = if les c.1 c.2.1 = 16384 then c.2.2.1 + 1 else c.2.2.1 := rfl
  unfold RdV
  rw [e1, e2, e3, e4, e5]
  split <;> omega
theorem rdn_N (sf : Int → Int) : ∀ (n : Nat) (c : Rd), CdB c.1 c.2.1 → 131072 ≤ (c.2.1 - c.1 + 1) * 2 ^ n → CdN (rdn sf n c).1 (rdn sf n c).2.1
  | 0, c, h, h2 => by
    obtain ⟨a1, a2, a3⟩ := h
    rw [Int.pow_zero, Int.mul_one] at h2
    omega
  | n + 1, c, h, h2 => by
    rw [rdn]
    split
    · rename_i q
      obtain ⟨a1, a2, a3⟩ := h
      rcases les_cases (lo := c.1) (hi := c.2.1) with z | z | z | z
      · omega
      · omega
      · omega
      · unfold CdN; omega
    · rename_i q
      have := rstp_B (sf := sf) h q
      refine rdn_N sf n (rstp sf c) this.1 ?_
      rw [this.2]
      have e : (c.2.1 - c.1 + 1) * 2 ^ (n + 1) = 2 * (c.2.1 - c.1 + 1) * 2 ^ n := by rw [Int.pow_succ, Int.mul_comm ((2 : Int) ^ n) 2, ← Int.mul_assoc, Int.mul_comm (c.2.1 - c.1 + 1) 2]
      rw [← e]; exact h2
theorem rdn_V (sf : Int → Int) (hsf : ∀ k, sf k = 0 ∨ sf k = 1) : ∀ (n : Nat) (K : Int) (c : Rd), RdV K c → RdV (K + n) (rdn sf n c)
  | 0, K, c, h => by simpa [rdn] using h
  | n + 1, K, c, h => by
    rw [rdn]
    split
    · obtain ⟨h1, h2, h3, h4, h5, h6⟩ := h
      exact ⟨h1, h2, h3, by omega, h5, by omega⟩
    · have := rdn_V sf hsf n (K + 1) (rstp sf c) (rstp_V hsf h)
      rw [show K + ((n + 1 : Nat) : Int) = K + 1 + n by omega]
      exact this
end
section
/-! ===== Range ===== -/
def RowL (h : mH) (r : Nat) (bs : List Int) : Prop := h r 1 = bs.length ∧ ∀ k : Nat, k < bs.length → h (r + 1) k = bs.getD k 0
/-- all but a row is as it was -/
def FrR (h h' : mH) (r : Nat) : Prop := ∀ i, i ≠ r → i ≠ r + 1 → h' i = h i
theorem RowL.congr {h h' : mH} {r : Nat} {bs : List Int} (H : RowL h r bs) (e1 : h' r = h r) (e2 : h' (r + 1) = h (r + 1)) : RowL h' r bs := ⟨by rw [e1]; exact H.1, fun k hk => by rw [e2]; exact H.2 k hk⟩
theorem rowL_put {h : mH} {r : Nat} {bs : List Int} {v : Int} (H : RowL h r bs) : RowL (hset (hset h (r + 1) (h r 1) v) r 1 (h r 1 + 1)) r (bs ++ [v]) := by
  obtain ⟨h1, h2⟩ := H
  refine ⟨by rw [hset_eq, h1, List.length_append]; simp, fun k hk => ?_⟩
  rw [hset_ni (by omega), h1]
  rw [List.length_append, List.length_singleton] at hk
  by_cases e : k = bs.length
  · subst e
    rw [hset_eq]; simp
  · rw [hset_nk (by omega), h2 k (by omega), List.getD_eq_getElem?_getD, List.getD_eq_getElem?_getD, List.getElem?_append_left (by omega)]
theorem row_putsL {x : mX} {h : mH} {Q : mH → Prop} {r N : Nat} {v : Int} {bs : List Int} (hr : isRow r N) (H : RowL h r bs) (hN : bs.length < N) (hQ : ∀ h', RowL h' r (bs ++ [v]) → FrR h h' r → Q h') : CtV x mtX6_puts [xR r, xI v] h Q :=
  row_puts hr (by rw [H.1]; omega) (by rw [H.1]; omega) (hQ _ (rowL_put H) (fun i h1 h2 => by rw [hset_ni h1, hset_ni h2]))
def isRg (g : Nat) : Prop := kd g = 5 ∧ isRow (g + 1) 722
/-- a Range that is written: low, high, owed, the bits -/
def RgW (h : mH) (g : Nat) (c : Cd) : Prop := h g 1 = c.1 ∧ h g 2 = c.2.1 ∧ h g 3 = (c.2.2.1 : Int) ∧ h g 5 = 0 ∧ RowL h (g + 1) c.2.2.2
/-- what a Range's own methods leave as it was -/
def FrG (h h' : mH) (g : Nat) : Prop := (∀ i, i ≠ g → i ≠ g + 1 → i ≠ g + 2 → h' i = h i) ∧ h' g 4 = h g 4 ∧ h' g 5 = h g 5
theorem FrG.rf {h : mH} {g : Nat} : FrG h h g := ⟨fun _ _ _ _ => rfl, rfl, rfl⟩
theorem FrG.tr {h h1 h2 : mH} {g : Nat} (a : FrG h h1 g) (b : FrG h1 h2 g) : FrG h h2 g := ⟨fun i q1 q2 q3 => (b.1 i q1 q2 q3).trans (a.1 i q1 q2 q3), b.2.1.trans a.2.1, b.2.2.trans a.2.2⟩

set_option maxHeartbeats 4000000 in
set_option maxRecDepth 100000 in
theorem rg_writesBit {x : mX} {h : mH} {Q : mH → Prop} {g : Nat} {c : Cd} {b : Int} (hg : isRg g) (H : RgW h g c) (hb : b = 0 ∨ b = 1) (hD : Dn c + 1 ≤ 722) (hQ : ∀ h', RgW h' g (c.1, c.2.1, 0, c.2.2.2 ++ b :: List.replicate c.2.2.1 (1 - b)) → FrG h h' g → Q h') : CtV x mtX5_writesBit [xR g, xI b] h Q := by
  refine ct_go (ls := [xR g, xI b, xU]) (by decide +kernel) (Nat.le_of_ble_eq_true rfl) rfl ?_
  refine go_aload_n dX5_writesBit_0 rfl ?_
  refine gfX5_reading hg.1 flX5_34 dX5_writesBit_1 ?_
  refine go_if_eq_t (tgt := 8) dX5_writesBit_4 (by decide) (H.2.2.2.1) ?_
  refine go_aload_n dX5_writesBit_8 rfl ?_
  refine gfX5_bits hg.1 flX5_14 dX5_writesBit_9 ?_
  refine go_iload_n dX5_writesBit_12 rfl ?_
  refine go_cV1V hg.2.1 vlX5_80 dX5_writesBit_13 (by decide) rfl rfl (by decide) (Nat.le_of_ble_eq_true rfl) (row_putsL (N := 722) hg.2 H.2.2.2.2 (by unfold Dn at hD; omega) ?_)
  intro h1 H1 F1
  refine go_iconst dX5_writesBit_16 ⟨by decide, by decide⟩ ?_
  refine go_istore_n 2 dX5_writesBit_17 rfl (Nat.le_of_ble_eq_true rfl) rfl (by dsimp only [List.set]) ?_
  unfold Dn at hD
  refine up_indN (P := fun s => ∀ hh, RowL hh (g + 1) (c.2.2.2 ++ b :: List.replicate s (1 - b)) → FrR h hh (g + 1) → Go x mtX5_writesBit 18 [xR g, xI b, xI s] [] hh (qV Q)) c.2.2.1 (fun s hs ih hh Hs Fs => ?_) h1 H1 F1
  have e3 : hh g 3 = (c.2.2.1 : Int) := by rw [Fs g (by omega) (by omega)]; exact H.2.2.1
  by_cases hlt : s < c.2.2.1
  · skip
    refine go_iload_n dX5_writesBit_18 rfl ?_
    refine go_aload_n dX5_writesBit_19 rfl ?_
    refine gfX5_owed hg.1 flX5_28 dX5_writesBit_20 ?_
    rw [e3]
    refine go_icmp_ge_f (tgt := 49) dX5_writesBit_23 (by decide) (by omega) ?_
    refine go_iload_n dX5_writesBit_26 rfl ?_
    refine go_sipush dX5_writesBit_27 (by decide +kernel) ⟨by decide, by decide⟩ ?_
    refine go_icmp_ge_f (tgt := 49) dX5_writesBit_30 (by decide) (by omega) ?_
    refine go_aload_n dX5_writesBit_33 rfl ?_
    refine gfX5_bits hg.1 flX5_14 dX5_writesBit_34 ?_
    refine go_iconst dX5_writesBit_37 ⟨by decide, by decide⟩ ?_
    refine go_iload_n dX5_writesBit_38 rfl ?_
    refine go_isub dX5_writesBit_39 (by omega) (by omega) ?_
    refine go_cV1V hg.2.1 vlX5_80 dX5_writesBit_40 (by decide) rfl rfl (by decide) (Nat.le_of_ble_eq_true rfl) (row_putsL (N := 722) hg.2 Hs (by rw [List.length_append, List.length_cons, List.length_replicate]; omega) ?_)
    intro h2 H2 F2
    refine go_iinc dX5_writesBit_43 rfl rfl rfl (by omega) (by omega) (by dsimp only [List.set]) ?_
    refine go_goto (tgt := 18) dX5_writesBit_46 (by decide) ?_
    refine ih (by omega) h2 ?_ (fun i q1 q2 => (F2 i q1 q2).trans (Fs i q1 q2))
    rw [List.append_assoc, List.cons_append, ← List.replicate_succ'] at H2
    exact H2
  · have hie : s = c.2.2.1 := by omega
    subst hie
    refine go_iload_n dX5_writesBit_18 rfl ?_
    refine go_aload_n dX5_writesBit_19 rfl ?_
    refine gfX5_owed hg.1 flX5_28 dX5_writesBit_20 ?_
    rw [e3]
    refine go_icmp_ge_t (tgt := 49) dX5_writesBit_23 (by decide) (by omega) ?_
    refine go_aload_n dX5_writesBit_49 rfl ?_
    refine go_iconst dX5_writesBit_50 ⟨by decide, by decide⟩ ?_
    refine pfX5_owed hg.1 flX5_28 dX5_writesBit_51 ?_
    refine go_return dX5_writesBit_54 rfl ?_
    refine hQ _ ⟨?_, ?_, ?_, ?_, Hs.congr (hset_ni (by omega)) (hset_ni (by omega))⟩ ⟨fun i q1 q2 q3 => ?_, ?_, ?_⟩
    · rw [hset_nk (by decide), Fs g (by omega) (by omega)]; exact H.1
    · rw [hset_nk (by decide), Fs g (by omega) (by omega)]; exact H.2.1
    · exact hset_eq _ _ _ _
    · rw [hset_nk (by decide), Fs g (by omega) (by omega)]; exact H.2.2.2.1
    · rw [hset_ni q1, Fs i q2 q3]
    · rw [hset_nk (by decide), Fs g (by omega) (by omega)]
    · rw [hset_nk (by decide), Fs g (by omega) (by omega)]

set_option maxHeartbeats 4000000 in
set_option maxRecDepth 100000 in
theorem rg_writesBit_r {x : mX} {h : mH} {Q : mH → Prop} {g : Nat} {b : Int} (hg : isRg g) (h5 : h g 5 = 1) (hQ : Q h) : CtV x mtX5_writesBit [xR g, xI b] h Q := by
  refine ct_go (ls := [xR g, xI b, xU]) (by decide +kernel) (Nat.le_of_ble_eq_true rfl) rfl ?_
  refine go_aload_n dX5_writesBit_0 rfl ?_
  refine gfX5_reading hg.1 flX5_34 dX5_writesBit_1 ?_
  refine go_if_eq_f (tgt := 8) dX5_writesBit_4 (by decide) (by omega) ?_
  refine go_return dX5_writesBit_7 rfl ?_
  exact hQ

set_option maxHeartbeats 4000000 in
set_option maxRecDepth 100000 in
theorem rg_doubles {x : mX} {h : mH} {Q : mH → Prop} {g : Nat} {L : Int} (hg : isRg g) (h5 : h g 5 = 0) (b1 : -100000 ≤ h g 1 - L) (b2 : h g 1 - L ≤ 100000) (b3 : -100000 ≤ h g 2 - L) (b4 : h g 2 - L ≤ 100000) (hQ : Q (hset (hset h g 1 (2 * (h g 1 - L))) g 2 (2 * (h g 2 - L) + 1))) : CtV x mtX5_doubles [xR g, xI L] h Q := by
  refine ct_go (ls := [xR g, xI L]) (by decide +kernel) (Nat.le_of_ble_eq_true rfl) rfl ?_
  refine go_aload_n dX5_doubles_0 rfl ?_
  refine go_iconst dX5_doubles_1 ⟨by decide, by decide⟩ ?_
  refine go_aload_n dX5_doubles_2 rfl ?_
  refine gfX5_low hg.1 flX5_20 dX5_doubles_3 ?_
  refine go_iload_n dX5_doubles_6 rfl ?_
  refine go_isub dX5_doubles_7 (by omega) (by omega) ?_
  refine go_imul dX5_doubles_8 (by omega) (by omega) ?_
  refine pfX5_low hg.1 flX5_20 dX5_doubles_9 ?_
  refine go_aload_n dX5_doubles_12 rfl ?_
  refine go_iconst dX5_doubles_13 ⟨by decide, by decide⟩ ?_
  refine go_aload_n dX5_doubles_14 rfl ?_
  refine gfX5_high hg.1 flX5_25 dX5_doubles_15 ?_
  rw [hset_nk (show (2 : Int) ≠ 1 by decide)]
  refine go_iload_n dX5_doubles_18 rfl ?_
  refine go_isub dX5_doubles_19 (by omega) (by omega) ?_
  refine go_imul dX5_doubles_20 (by omega) (by omega) ?_
  refine go_iconst dX5_doubles_21 ⟨by decide, by decide⟩ ?_
  refine go_iadd dX5_doubles_22 (by omega) (by omega) ?_
  refine pfX5_high hg.1 flX5_25 dX5_doubles_23 ?_
  refine go_aload_n dX5_doubles_26 rfl ?_
  refine gfX5_reading hg.1 flX5_34 dX5_doubles_27 ?_
  refine go_if_ne_f (tgt := 34) dX5_doubles_30 (by decide) (by rw [hset_nk (by decide), hset_nk (by decide)]; exact h5) ?_
  refine go_return dX5_doubles_33 rfl ?_
  exact hQ

/-- what is read behind the bits' end is 0 -/
def srF (bs : List Int) (k : Int) : Int := if 0 ≤ k ∧ k < bs.length then bs.getD k.toNat 0 else 0
theorem row_atL {x : mX} {h : mH} {Q : Int → mH → Prop} {r N : Nat} {i : Int} {bs : List Int} (hr : isRow r N) (H : RowL h r bs) (hN : bs.length ≤ N) (hQ : Q (srF bs i) h) : CtI x mtX6_at [xR r, xI i] h Q := by
  refine row_at hr (by rw [H.1]; omega) ?_
  have e : (if 0 ≤ i ∧ i < h r 1 then h (r + 1) i else 0) = srF bs i := by
    unfold srF
    rw [H.1]
    by_cases q : 0 ≤ i ∧ i < (bs.length : Int)
    · rw [if_pos q, if_pos q]
      have := H.2 i.toNat (by omega)
      rw [Int.toNat_of_nonneg q.1] at this
      exact this
    · rw [if_neg q, if_neg q]
  rw [e]; exact hQ

set_option maxHeartbeats 4000000 in
set_option maxRecDepth 100000 in
theorem rg_doubles_r {x : mX} {h : mH} {Q : mH → Prop} {g : Nat} {L : Int} {bs : List Int} (hg : isRg g) (H : RowL h (g + 1) bs) (hN : bs.length ≤ 722) (hsf : ∀ k, srF bs k = 0 ∨ srF bs k = 1) (h5 : h g 5 = 1) (b1 : -100000 ≤ h g 1 - L) (b2 : h g 1 - L ≤ 100000) (b3 : -100000 ≤ h g 2 - L) (b4 : h g 2 - L ≤ 100000) (b5 : -100000 ≤ h g 6 - L) (b6 : h g 6 - L ≤ 100000) (b7 : 0 ≤ h g 7) (b8 : h g 7 ≤ 100000) (hQ : Q (hset (hset (hset (hset h g 1 (2 * (h g 1 - L))) g 2 (2 * (h g 2 - L) + 1)) g 6 (2 * (h g 6 - L) + srF bs (h g 7))) g 7 (h g 7 + 1))) : CtV x mtX5_doubles [xR g, xI L] h Q := by
  refine ct_go (ls := [xR g, xI L]) (by decide +kernel) (Nat.le_of_ble_eq_true rfl) rfl ?_
  refine go_aload_n dX5_doubles_0 rfl ?_
  refine go_iconst dX5_doubles_1 ⟨by decide, by decide⟩ ?_
  refine go_aload_n dX5_doubles_2 rfl ?_
  refine gfX5_low hg.1 flX5_20 dX5_doubles_3 ?_
  refine go_iload_n dX5_doubles_6 rfl ?_
  refine go_isub dX5_doubles_7 (by omega) (by omega) ?_
  refine go_imul dX5_doubles_8 (by omega) (by omega) ?_
  refine pfX5_low hg.1 flX5_20 dX5_doubles_9 ?_
  refine go_aload_n dX5_doubles_12 rfl ?_
  refine go_iconst dX5_doubles_13 ⟨by decide, by decide⟩ ?_
  refine go_aload_n dX5_doubles_14 rfl ?_
  refine gfX5_high hg.1 flX5_25 dX5_doubles_15 ?_
  rw [hset_nk (show (2 : Int) ≠ 1 by decide)]
  refine go_iload_n dX5_doubles_18 rfl ?_
  refine go_isub dX5_doubles_19 (by omega) (by omega) ?_
  refine go_imul dX5_doubles_20 (by omega) (by omega) ?_
  refine go_iconst dX5_doubles_21 ⟨by decide, by decide⟩ ?_
  refine go_iadd dX5_doubles_22 (by omega) (by omega) ?_
  refine pfX5_high hg.1 flX5_25 dX5_doubles_23 ?_
  refine go_aload_n dX5_doubles_26 rfl ?_
  refine gfX5_reading hg.1 flX5_34 dX5_doubles_27 ?_
  refine go_if_ne_t (tgt := 34) dX5_doubles_30 (by decide) (by rw [hset_nk (by decide), hset_nk (by decide)]; omega) ?_
  refine go_aload_n dX5_doubles_34 rfl ?_
  refine go_iconst dX5_doubles_35 ⟨by decide, by decide⟩ ?_
  refine go_aload_n dX5_doubles_36 rfl ?_
  refine gfX5_value hg.1 flX5_38 dX5_doubles_37 ?_
  rw [hset_nk (show (6 : Int) ≠ 2 by decide), hset_nk (show (6 : Int) ≠ 1 by decide)]
  refine go_iload_n dX5_doubles_40 rfl ?_
  refine go_isub dX5_doubles_41 (by omega) (by omega) ?_
  refine go_imul dX5_doubles_42 (by omega) (by omega) ?_
  refine go_aload_n dX5_doubles_43 rfl ?_
  refine gfX5_bits hg.1 flX5_14 dX5_doubles_44 ?_
  refine go_aload_n dX5_doubles_47 rfl ?_
  refine gfX5_nextRead hg.1 flX5_41 dX5_doubles_48 ?_
  rw [hset_nk (show (7 : Int) ≠ 2 by decide), hset_nk (show (7 : Int) ≠ 1 by decide)]
  refine go_cV1I hg.2.1 vlX5_50 dX5_doubles_51 (by decide) rfl rfl (by decide) (Nat.le_of_ble_eq_true rfl) (row_atL hg.2 (bs := bs) (H.congr (by rw [hset_ni (by omega), hset_ni (by omega)]) (by rw [hset_ni (by omega), hset_ni (by omega)])) hN ?_)
  have hz := hsf (h g 7)
  refine go_iadd dX5_doubles_54 (by omega) (by omega) ?_
  refine pfX5_value hg.1 flX5_38 dX5_doubles_55 ?_
  refine go_aload_n dX5_doubles_58 rfl ?_
  first | refine go_dupR dX5_doubles_59 ?_ | refine go_dupI dX5_doubles_59 ?_
  refine gfX5_nextRead hg.1 flX5_41 dX5_doubles_60 ?_
  rw [hset_nk (show (7 : Int) ≠ 6 by decide), hset_nk (show (7 : Int) ≠ 2 by decide), hset_nk (show (7 : Int) ≠ 1 by decide)]
  refine go_iconst dX5_doubles_63 ⟨by decide, by decide⟩ ?_
  refine go_iadd dX5_doubles_64 (by omega) (by omega) ?_
  refine pfX5_nextRead hg.1 flX5_41 dX5_doubles_65 ?_
  refine go_return dX5_doubles_68 rfl ?_
  exact hQ

set_option maxHeartbeats 4000000 in
set_option maxRecDepth 100000 in
theorem rg_isWhole {x : mX} {h : mH} {Q : mH → Prop} {g : Nat} (hg : isRg g) (hQ : Q (hset (hset (hset h g 1 0) g 2 65535) g 3 0)) : CtV x mtX5_isWhole [xR g] h Q := by
  refine ct_go (ls := [xR g]) (by decide +kernel) (Nat.le_of_ble_eq_true rfl) rfl ?_
  refine go_aload_n dX5_isWhole_0 rfl ?_
  refine go_iconst dX5_isWhole_1 ⟨by decide, by decide⟩ ?_
  refine pfX5_low hg.1 flX5_20 dX5_isWhole_2 ?_
  refine go_aload_n dX5_isWhole_5 rfl ?_
  refine go_ldc dX5_isWhole_6 knX5_24 ⟨by decide, by decide⟩ ?_
  refine pfX5_high hg.1 flX5_25 dX5_isWhole_8 ?_
  refine go_aload_n dX5_isWhole_11 rfl ?_
  refine go_iconst dX5_isWhole_12 ⟨by decide, by decide⟩ ?_
  refine pfX5_owed hg.1 flX5_28 dX5_isWhole_13 ?_
  refine go_return dX5_isWhole_16 rfl ?_
  exact hQ

set_option maxHeartbeats 4000000 in
set_option maxRecDepth 100000 in
theorem rg_wants {x : mX} {h : mH} {Q : mH → Prop} {g : Nat} {s : Int} (hg : isRg g) (hQ : Q (hset h g 4 s)) : CtV x mtX5_wants [xR g, xI s] h Q := by
  refine ct_go (ls := [xR g, xI s]) (by decide +kernel) (Nat.le_of_ble_eq_true rfl) rfl ?_
  refine go_aload_n dX5_wants_0 rfl ?_
  refine go_iload_n dX5_wants_1 rfl ?_
  refine pfX5_wanted hg.1 flX5_31 dX5_wants_2 ?_
  refine go_return dX5_wants_5 rfl ?_
  exact hQ

set_option maxHeartbeats 4000000 in
set_option maxRecDepth 100000 in
theorem rg_startsWriting {x : mX} {h : mH} {Q : mH → Prop} {g : Nat} (hg : isRg g) (h0 : 0 ≤ h (g + 1) 1) (hQ : ∀ h', RgW h' g (0, 65535, 0, []) → (∀ i, i ≠ g → i ≠ g + 1 → h' i = h i) → Q h') : CtV x mtX5_startsWriting [xR g] h Q := by
  refine ct_go (ls := [xR g]) (by decide +kernel) (Nat.le_of_ble_eq_true rfl) rfl ?_
  refine go_aload_n dX5_startsWriting_0 rfl ?_
  refine gfX5_bits hg.1 flX5_14 dX5_startsWriting_1 ?_
  refine go_iconst dX5_startsWriting_4 ⟨by decide, by decide⟩ ?_
  refine go_cV1V hg.2.1 vlX5_44 dX5_startsWriting_5 (by decide) rfl rfl (by decide) (Nat.le_of_ble_eq_true rfl) (row_shortens hg.2 (Int.le_refl 0) h0 ?_)
  refine go_aload_n dX5_startsWriting_8 rfl ?_
  refine go_cV0V hg.1 vlX5_47 dX5_startsWriting_9 (by decide) rfl rfl (by decide) (Nat.le_of_ble_eq_true rfl) (rg_isWhole hg ?_)
  refine go_aload_n dX5_startsWriting_12 rfl ?_
  refine go_iconst dX5_startsWriting_13 ⟨by decide, by decide⟩ ?_
  refine pfX5_reading hg.1 flX5_34 dX5_startsWriting_14 (by first | exact Or.inl rfl | exact Or.inr rfl) ?_
  refine go_return dX5_startsWriting_17 rfl ?_
  refine hQ _ ⟨?_, ?_, ?_, ?_, ?_, ?_⟩ (fun i q1 q2 => ?_)
  · rw [hset_nk (by decide), hset_nk (by decide), hset_nk (by decide), hset_eq]
  · rw [hset_nk (by decide), hset_nk (by decide), hset_eq]
  · rw [hset_nk (by decide), hset_eq]; rfl
  · exact hset_eq _ _ _ _
  · rw [hset_ni (by omega), hset_ni (by omega), hset_ni (by omega), hset_ni (by omega), hset_eq]; rfl
  · intro k hk; exact absurd hk (by simp)
  · rw [hset_ni q1, hset_ni q1, hset_ni q1, hset_ni q1, hset_ni q2]

set_option maxHeartbeats 4000000 in
set_option maxRecDepth 100000 in
theorem rg_endedSize {x : mX} {h : mH} {Q : Int → mH → Prop} {g : Nat} {c : Cd} (hg : isRg g) (H : RgW h g c) (hD : Dn c ≤ 722) (hQ : Q ((Dn c + 2 : Nat) : Int) h) : CtI x mtX5_endedSize [xR g] h Q := by
  refine ct_go (ls := [xR g]) (by decide +kernel) (Nat.le_of_ble_eq_true rfl) rfl ?_
  refine go_aload_n dX5_endedSize_0 rfl ?_
  refine gfX5_bits hg.1 flX5_14 dX5_endedSize_1 ?_
  refine gfX6_size hg.2.1 flX5_61 dX5_endedSize_4 ?_
  rw [H.2.2.2.2.1]
  refine go_aload_n dX5_endedSize_7 rfl ?_
  refine gfX5_owed hg.1 flX5_28 dX5_endedSize_8 ?_
  rw [H.2.2.1]
  unfold Dn at hD hQ
  refine go_iadd dX5_endedSize_11 (by omega) (by omega) ?_
  refine go_iconst dX5_endedSize_12 ⟨by decide, by decide⟩ ?_
  refine go_iadd dX5_endedSize_13 (by omega) (by omega) ?_
  refine go_ireturn dX5_endedSize_14 rfl ?_
  rw [show ((c.2.2.2.length + c.2.2.1 + 2 : Nat) : Int) = (c.2.2.2.length : Int) + (c.2.2.1 : Int) + 2 by omega] at hQ
  exact hQ
end
section
/-! ===== Range.takes ===== -/
theorem les_0 {lo hi : Int} (h : hi < 32768) : les lo hi = 0 := by unfold les; rw [if_pos h]
theorem les_H {lo hi : Int} (h : 32768 ≤ hi) (h2 : 32768 ≤ lo) : les lo hi = 32768 := by unfold les; rw [if_neg (by omega), if_pos h2]
theorem les_Q {lo hi : Int} (h : 32768 ≤ hi) (h2 : lo < 32768) (h3 : 16384 ≤ lo) (h4 : hi < 49152) : les lo hi = 16384 := by unfold les; rw [if_neg (by omega), if_neg (by omega), if_pos ⟨h3, h4⟩]
theorem les_N {lo hi : Int} (h : 32768 ≤ hi) (h2 : lo < 32768) (h3 : lo < 16384 ∨ 49152 ≤ hi) : les lo hi = -9 := by unfold les; rw [if_neg (by omega), if_neg (by omega), if_neg (by omega)]
theorem stp_0 {lo hi : Int} {ow : Nat} {bs : List Int} (h : les lo hi = 0) : stp (lo, hi, ow, bs) = (2 * (lo - 0), 2 * (hi - 0) + 1, 0, bs ++ 0 :: List.replicate ow (1 - 0)) := by
  unfold stp; simp only [h]; rfl
theorem stp_H {lo hi : Int} {ow : Nat} {bs : List Int} (h : les lo hi = 32768) : stp (lo, hi, ow, bs) = (2 * (lo - 32768), 2 * (hi - 32768) + 1, 0, bs ++ 1 :: List.replicate ow (1 - 1)) := by
  unfold stp; simp only [h]; rfl
theorem stp_Q {lo hi : Int} {ow : Nat} {bs : List Int} (h : les lo hi = 16384) : stp (lo, hi, ow, bs) = (2 * (lo - 16384), 2 * (hi - 16384) + 1, ow + 1, bs) := by
  unfold stp; simp only [h]; rfl
theorem rgw_dbl {h : mH} {g : Nat} {lo hi L : Int} {ow : Nat} {bs : List Int} (H : RgW h g (lo, hi, ow, bs)) : RgW (hset (hset h g 1 (2 * (h g 1 - L))) g 2 (2 * (h g 2 - L) + 1)) g (2 * (lo - L), 2 * (hi - L) + 1, ow, bs) ∧ FrG h (hset (hset h g 1 (2 * (h g 1 - L))) g 2 (2 * (h g 2 - L) + 1)) g := by
  obtain ⟨e1, e2, e3, e5, R⟩ := H
  refine ⟨⟨?_, ?_, ?_, ?_, R.congr (by rw [hset_ni (by omega), hset_ni (by omega)]) (by rw [hset_ni (by omega), hset_ni (by omega)])⟩, ⟨fun i q1 q2 q3 => by rw [hset_ni q1, hset_ni q1], ?_, ?_⟩⟩
  · rw [hset_nk (by decide), hset_eq, e1]
  · rw [hset_eq, e2]
  · rw [hset_nk (by decide), hset_nk (by decide)]; exact e3
  · rw [hset_nk (by decide), hset_nk (by decide)]; exact e5
  · rw [hset_nk (by decide), hset_nk (by decide)]
  · rw [hset_nk (by decide), hset_nk (by decide)]
theorem rgw_owe {h : mH} {g : Nat} {lo hi : Int} {ow : Nat} {bs : List Int} (H : RgW h g (lo, hi, ow, bs)) : RgW (hset h g 3 ((ow : Int) + 1)) g (lo, hi, ow + 1, bs) ∧ FrG h (hset h g 3 ((ow : Int) + 1)) g := by
  obtain ⟨e1, e2, e3, e5, R⟩ := H
  refine ⟨⟨?_, ?_, ?_, ?_, R.congr (by rw [hset_ni (by omega)]) (by rw [hset_ni (by omega)])⟩, ⟨fun i q1 q2 q3 => by rw [hset_ni q1], ?_, ?_⟩⟩
  · rw [hset_nk (by decide)]; exact e1
  · rw [hset_nk (by decide)]; exact e2
  · rw [hset_eq]; rfl
  · rw [hset_nk (by decide)]; exact e5
  · rw [hset_nk (by decide)]
  · rw [hset_nk (by decide)]
theorem pow2_s (k : Nat) : (2 : Int) ^ (k + 1) = 2 * 2 ^ k := by rw [Int.pow_succ, Int.mul_comm]

set_option maxHeartbeats 4000000 in
set_option maxRecDepth 100000 in
theorem rg_loop_w {x : mX} {Q : mH → Prop} {g : Nat} {b w t r : Int} (hg : isRg g) : ∀ (n k : Nat) (h : mH) (c : Cd), n + k = 17 → RgW h g c → CdB c.1 c.2.1 → 2 ^ k ≤ c.2.1 - c.1 + 1 → Dn (wdn n c) ≤ 722 → (∀ h', RgW h' g (wdn n c) → FrG h h' g → Q h') → Go x mtX5_takes 55 [xR g, xI b, xI w, xI t, xI r, xI k] [] h (qV Q)
  | 0, k, h, c, hnk, H, hB, hR, hD, hQ => by
    obtain ⟨b1, b2, b3⟩ := hB
    have : k = 17 := by omega
    subst this
    have e : (2 : Int) ^ 17 = 131072 := by decide
    rw [e] at hR
    omega
  | n + 1, k, h, (lo, hi, ow, bs), hnk, H, hB, hR, hD, hQ => by
    have ih := rg_loop_w (x := x) (Q := Q) (g := g) (b := b) (w := w) (t := t) (r := r) hg n
    obtain ⟨b1, b2, b3⟩ := id hB
    dsimp only at b1 b2 b3 hR
    have e1 : h g 1 = lo := H.1
    have e2 : h g 2 = hi := H.2.1
    have e3 : h g 3 = (ow : Int) := H.2.2.1
    have hD1 : les lo hi ≠ -9 → Dn (lo, hi, ow, bs) + 1 ≤ 722 := by
      intro q
      have q2 := wdn_D n (stp (lo, hi, ow, bs))
      rw [stp_D] at q2
      rw [wdn, if_neg q] at hD
      omega
    have how : (ow : Int) ≤ 722 := by
      have q2 := wdn_D (n + 1) (lo, hi, ow, bs)
      unfold Dn at q2 hD
      dsimp only at q2
      omega
    refine go_iload dX5_takes_55 rfl ?_
    refine go_bipush dX5_takes_57 (by decide +kernel) ⟨by decide, by decide⟩ ?_
    refine go_icmp_ge_f (tgt := 153) dX5_takes_59 (by decide) (by omega) ?_
    refine go_aload_n dX5_takes_62 rfl ?_
    refine gfX5_high hg.1 flX5_25 dX5_takes_63 ?_
    rw [e2]
    refine go_ldc dX5_takes_66 knX5_75 ⟨by decide, by decide⟩ ?_
    refine go_icmp_ge (tgt := 84) dX5_takes_68 (by decide) (fun c68 => ?_) (fun c68 => ?_)
    · refine go_aload_n dX5_takes_84 rfl ?_
      refine gfX5_low hg.1 flX5_20 dX5_takes_85 ?_
      rw [e1]
      refine go_ldc dX5_takes_88 knX5_75 ⟨by decide, by decide⟩ ?_
      refine go_icmp_lt (tgt := 107) dX5_takes_90 (by decide) (fun c90 => ?_) (fun c90 => ?_)
      · refine go_aload_n dX5_takes_107 rfl ?_
        refine gfX5_low hg.1 flX5_20 dX5_takes_108 ?_
        rw [e1]
        refine go_sipush dX5_takes_111 (by decide +kernel) ⟨by decide, by decide⟩ ?_
        refine go_icmp_lt (tgt := 146) dX5_takes_114 (by decide) (fun c114 => ?_) (fun c114 => ?_)
        · have hl := les_N c68 c90 (by omega)
          refine go_return dX5_takes_146 rfl ?_
          have hwd : wdn (n + 1) (lo, hi, ow, bs) = (lo, hi, ow, bs) := by rw [wdn, if_pos hl]
          rw [hwd] at hQ
          exact hQ _ H FrG.rf
        · refine go_aload_n dX5_takes_117 rfl ?_
          refine gfX5_high hg.1 flX5_25 dX5_takes_118 ?_
          rw [e2]
          refine go_ldc dX5_takes_121 knX5_79 ⟨by decide, by decide⟩ ?_
          refine go_icmp_ge (tgt := 146) dX5_takes_123 (by decide) (fun c123 => ?_) (fun c123 => ?_)
          · have hl := les_N c68 c90 (by omega)
            refine go_return dX5_takes_146 rfl ?_
            have hwd : wdn (n + 1) (lo, hi, ow, bs) = (lo, hi, ow, bs) := by rw [wdn, if_pos hl]
            rw [hwd] at hQ
            exact hQ _ H FrG.rf
          · have hl := les_Q c68 c90 c114 c123
            refine go_aload_n dX5_takes_126 rfl ?_
            first | refine go_dupR dX5_takes_127 ?_ | refine go_dupI dX5_takes_127 ?_
            refine gfX5_owed hg.1 flX5_28 dX5_takes_128 ?_
            rw [e3]
            refine go_iconst dX5_takes_131 ⟨by decide, by decide⟩ ?_
            refine go_iadd dX5_takes_132 (by omega) (by omega) ?_
            refine pfX5_owed hg.1 flX5_28 dX5_takes_133 ?_
            refine go_aload_n dX5_takes_136 rfl ?_
            refine go_sipush dX5_takes_137 (by decide +kernel) ⟨by decide, by decide⟩ ?_
            refine go_cV1V hg.1 vlX5_76 dX5_takes_140 (by decide) rfl rfl (by decide) (Nat.le_of_ble_eq_true rfl) (rg_doubles hg (rgw_owe H).1.2.2.2.1 (by rw [(rgw_owe H).1.1]; show -100000 ≤ lo - 16384; omega) (by rw [(rgw_owe H).1.1]; show lo - 16384 ≤ 100000; omega) (by rw [(rgw_owe H).1.2.1]; show -100000 ≤ hi - 16384; omega) (by rw [(rgw_owe H).1.2.1]; show hi - 16384 ≤ 100000; omega) ?_)
            have Z := rgw_dbl (L := 16384) (rgw_owe H).1
            have H9 := Z.1
            rw [← stp_Q hl] at H9
            have F9 := FrG.tr (rgw_owe H).2 Z.2
            refine go_goto (tgt := 147) dX5_takes_143 (by decide) ?_
            refine go_iinc dX5_takes_147 rfl rfl rfl (by omega) (by omega) (by dsimp only [List.set]) ?_
            refine go_goto (tgt := 55) dX5_takes_150 (by decide) ?_
            have hB9 := stp_B (c := (lo, hi, ow, bs)) hB (by rw [hl]; decide)
            have hwd : wdn (n + 1) (lo, hi, ow, bs) = wdn n (stp (lo, hi, ow, bs)) := by rw [wdn, if_neg (by rw [hl]; decide)]
            rw [hwd] at hD hQ
            refine ih (k + 1) _ (stp (lo, hi, ow, bs)) (by omega) H9 hB9.1 (by rw [hB9.2, pow2_s]; show 2 * 2 ^ k ≤ 2 * (hi - lo + 1); omega) hD (fun h9 a9 b9 => hQ h9 a9 (F9.tr b9))
      · have hl := les_H c68 c90
        refine go_aload_n dX5_takes_93 rfl ?_
        refine go_iconst dX5_takes_94 ⟨by decide, by decide⟩ ?_
        refine go_cV1V hg.1 vlX5_58 dX5_takes_95 (by decide) rfl rfl (by decide) (Nat.le_of_ble_eq_true rfl) (rg_writesBit hg H (Or.inr rfl) (by have := hD1 (by omega); omega) ?_)
        intro h2 H2 F2
        refine go_aload_n dX5_takes_98 rfl ?_
        refine go_ldc dX5_takes_99 knX5_75 ⟨by decide, by decide⟩ ?_
        refine go_cV1V hg.1 vlX5_76 dX5_takes_101 (by decide) rfl rfl (by decide) (Nat.le_of_ble_eq_true rfl) (rg_doubles hg H2.2.2.2.1 (by rw [H2.1]; show -100000 ≤ lo - 32768; omega) (by rw [H2.1]; show lo - 32768 ≤ 100000; omega) (by rw [H2.2.1]; show -100000 ≤ hi - 32768; omega) (by rw [H2.2.1]; show hi - 32768 ≤ 100000; omega) ?_)
        have Z := rgw_dbl (L := 32768) H2
        have H9 := Z.1
        rw [← stp_H hl] at H9
        have F9 := FrG.tr F2 Z.2
        refine go_goto (tgt := 147) dX5_takes_104 (by decide) ?_
        refine go_iinc dX5_takes_147 rfl rfl rfl (by omega) (by omega) (by dsimp only [List.set]) ?_
        refine go_goto (tgt := 55) dX5_takes_150 (by decide) ?_
        have hB9 := stp_B (c := (lo, hi, ow, bs)) hB (by rw [hl]; decide)
        have hwd : wdn (n + 1) (lo, hi, ow, bs) = wdn n (stp (lo, hi, ow, bs)) := by rw [wdn, if_neg (by rw [hl]; decide)]
        rw [hwd] at hD hQ
        refine ih (k + 1) _ (stp (lo, hi, ow, bs)) (by omega) H9 hB9.1 (by rw [hB9.2, pow2_s]; show 2 * 2 ^ k ≤ 2 * (hi - lo + 1); omega) hD (fun h9 a9 b9 => hQ h9 a9 (F9.tr b9))
    · have hl := les_0 (lo := lo) c68
      refine go_aload_n dX5_takes_71 rfl ?_
      refine go_iconst dX5_takes_72 ⟨by decide, by decide⟩ ?_
      refine go_cV1V hg.1 vlX5_58 dX5_takes_73 (by decide) rfl rfl (by decide) (Nat.le_of_ble_eq_true rfl) (rg_writesBit hg H (Or.inl rfl) (by have := hD1 (by omega); omega) ?_)
      intro h2 H2 F2
      refine go_aload_n dX5_takes_76 rfl ?_
      refine go_iconst dX5_takes_77 ⟨by decide, by decide⟩ ?_
      refine go_cV1V hg.1 vlX5_76 dX5_takes_78 (by decide) rfl rfl (by decide) (Nat.le_of_ble_eq_true rfl) (rg_doubles hg H2.2.2.2.1 (by rw [H2.1]; show -100000 ≤ lo - 0; omega) (by rw [H2.1]; show lo - 0 ≤ 100000; omega) (by rw [H2.2.1]; show -100000 ≤ hi - 0; omega) (by rw [H2.2.1]; show hi - 0 ≤ 100000; omega) ?_)
      have Z := rgw_dbl (L := 0) H2
      have H9 := Z.1
      rw [← stp_0 hl] at H9
      have F9 := FrG.tr F2 Z.2
      refine go_goto (tgt := 147) dX5_takes_81 (by decide) ?_
      refine go_iinc dX5_takes_147 rfl rfl rfl (by omega) (by omega) (by dsimp only [List.set]) ?_
      refine go_goto (tgt := 55) dX5_takes_150 (by decide) ?_
      have hB9 := stp_B (c := (lo, hi, ow, bs)) hB (by rw [hl]; decide)
      have hwd : wdn (n + 1) (lo, hi, ow, bs) = wdn n (stp (lo, hi, ow, bs)) := by rw [wdn, if_neg (by rw [hl]; decide)]
      rw [hwd] at hD hQ
      refine ih (k + 1) _ (stp (lo, hi, ow, bs)) (by omega) H9 hB9.1 (by rw [hB9.2, pow2_s]; show 2 * 2 ^ k ≤ 2 * (hi - lo + 1); omega) hD (fun h9 a9 b9 => hQ h9 a9 (F9.tr b9))

set_option maxHeartbeats 4000000 in
set_option maxRecDepth 100000 in
theorem rg_takes_w {x : mX} {h : mH} {Q : mH → Prop} {g : Nat} {c : Cd} {b w t : Int} (hg : isRg g) (H : RgW h g c) (hN : CdN c.1 c.2.1) (hb : 0 ≤ b) (hw : 1 ≤ w) (ht : b + w ≤ t) (ht2 : t ≤ 5000) (hD : Dn (prt c b w t) ≤ 722) (hQ : ∀ h', RgW h' g (prt c b w t) → FrG h h' g → Q h') : CtV x mtX5_takes [xR g, xI b, xI w, xI t] h Q := by
  obtain ⟨lo, hi, ow, bs⟩ := c
  have e1 : h g 1 = lo := H.1
  have e2 : h g 2 = hi := H.2.1
  dsimp only at hN
  have hP := prt_B hN hb hw ht ht2
  obtain ⟨n1, n2, n3⟩ := hN
  have r1 : hi - lo + 1 ≤ 65536 := by omega
  have m1 : -2147483648 ≤ (hi - lo + 1) * (b + w) ∧ (hi - lo + 1) * (b + w) < 2147483648 := by
    have z1 : 0 ≤ (hi - lo + 1) * (b + w) := Int.mul_nonneg (by omega) (by omega)
    have z2 : (hi - lo + 1) * (b + w) ≤ 65536 * 5000 := Int.mul_le_mul r1 (by omega) (by omega) (by decide)
    omega
  have m2 : -2147483648 ≤ (hi - lo + 1) * b ∧ (hi - lo + 1) * b < 2147483648 := by
    have z1 : 0 ≤ (hi - lo + 1) * b := Int.mul_nonneg (by omega) (by omega)
    have z2 : (hi - lo + 1) * b ≤ 65536 * 5000 := Int.mul_le_mul r1 (by omega) (by omega) (by decide)
    omega
  have m3 : 0 ≤ (hi - lo + 1) * (b + w) := Int.mul_nonneg (by omega) (by omega)
  have m4 : 0 ≤ (hi - lo + 1) * b := Int.mul_nonneg (by omega) (by omega)
  obtain ⟨p1, p2, p3⟩ := id hP
  have d1 : 0 ≤ (hi - lo + 1) * (b + w) / t := Int.ediv_nonneg m3 (by omega)
  have d2 : 0 ≤ (hi - lo + 1) * b / t := Int.ediv_nonneg m4 (by omega)
  refine ct_go (ls := [xR g, xI b, xI w, xI t, xU, xU]) (by decide +kernel) (Nat.le_of_ble_eq_true rfl) rfl ?_
  refine go_iload_n dX5_takes_0 rfl ?_
  refine go_if_gt_t (tgt := 5) dX5_takes_1 (by decide) (by omega) ?_
  refine go_aload_n dX5_takes_5 rfl ?_
  refine gfX5_high hg.1 flX5_25 dX5_takes_6 ?_
  rw [e2]
  refine go_aload_n dX5_takes_9 rfl ?_
  refine gfX5_low hg.1 flX5_20 dX5_takes_10 ?_
  rw [e1]
  refine go_isub dX5_takes_13 (by omega) (by omega) ?_
  refine go_iconst dX5_takes_14 ⟨by decide, by decide⟩ ?_
  refine go_iadd dX5_takes_15 (by omega) (by omega) ?_
  refine go_istore dX5_takes_16 (Nat.le_of_ble_eq_true rfl) rfl (by dsimp only [List.set]) ?_
  refine go_aload_n dX5_takes_18 rfl ?_
  refine go_aload_n dX5_takes_19 rfl ?_
  refine gfX5_low hg.1 flX5_20 dX5_takes_20 ?_
  rw [e1]
  refine go_iload dX5_takes_23 rfl ?_
  refine go_iload_n dX5_takes_25 rfl ?_
  refine go_iload_n dX5_takes_26 rfl ?_
  refine go_iadd dX5_takes_27 (by omega) (by omega) ?_
  refine go_imul dX5_takes_28 (by exact m1.1) (by exact m1.2) ?_
  refine go_iload_n dX5_takes_29 rfl ?_
  refine go_idiv dX5_takes_30 (by omega) (by omega) ?_
  refine go_iadd dX5_takes_31 (by omega) (by omega) ?_
  refine go_iconst dX5_takes_32 ⟨by decide, by decide⟩ ?_
  refine go_isub dX5_takes_33 (by omega) (by omega) ?_
  refine pfX5_high hg.1 flX5_25 dX5_takes_34 ?_
  refine go_aload_n dX5_takes_37 rfl ?_
  refine go_aload_n dX5_takes_38 rfl ?_
  refine gfX5_low hg.1 flX5_20 dX5_takes_39 ?_
  rw [hset_nk (show (1 : Int) ≠ 2 by decide), e1]
  refine go_iload dX5_takes_42 rfl ?_
  refine go_iload_n dX5_takes_44 rfl ?_
  refine go_imul dX5_takes_45 (by exact m2.1) (by exact m2.2) ?_
  refine go_iload_n dX5_takes_46 rfl ?_
  refine go_idiv dX5_takes_47 (by omega) (by omega) ?_
  refine go_iadd dX5_takes_48 (by omega) (by omega) ?_
  refine pfX5_low hg.1 flX5_20 dX5_takes_49 ?_
  refine go_iconst dX5_takes_52 ⟨by decide, by decide⟩ ?_
  refine go_istore dX5_takes_53 (Nat.le_of_ble_eq_true rfl) rfl (by dsimp only [List.set]) ?_
  refine rg_loop_w hg 17 0 _ (lo + (hi - lo + 1) * b / t, lo + (hi - lo + 1) * (b + w) / t - 1, ow, bs) rfl ⟨?_, ?_, ?_, ?_, ?_⟩ hP (by rw [Int.pow_zero]; dsimp only; omega) hD (fun h9 a9 b9 => hQ h9 a9 (FrG.tr ⟨fun i q1 q2 q3 => ?_, ?_, ?_⟩ b9))
  · exact hset_eq _ _ _ _
  · rw [hset_nk (by decide), hset_eq]
  · rw [hset_nk (by decide), hset_nk (by decide)]; exact H.2.2.1
  · rw [hset_nk (by decide), hset_nk (by decide)]; exact H.2.2.2.1
  · exact H.2.2.2.2.congr (by rw [hset_ni (by omega), hset_ni (by omega)]) (by rw [hset_ni (by omega), hset_ni (by omega)])
  · rw [hset_ni q1, hset_ni q1]
  · rw [hset_nk (by decide), hset_nk (by decide)]
  · rw [hset_nk (by decide), hset_nk (by decide)]

/-- a Range that is read -/
def RgR (h : mH) (g : Nat) (bs : List Int) (c : Rd) : Prop := h g 1 = c.1 ∧ h g 2 = c.2.1 ∧ h g 3 = c.2.2.1 ∧ h g 5 = 1 ∧ h g 6 = c.2.2.2.1 ∧ h g 7 = c.2.2.2.2 ∧ RowL h (g + 1) bs
theorem rgr_dbl {h : mH} {g : Nat} {lo hi ow va nr L : Int} {bs : List Int} (H : RgR h g bs (lo, hi, ow, va, nr)) : RgR (hset (hset (hset (hset h g 1 (2 * (h g 1 - L))) g 2 (2 * (h g 2 - L) + 1)) g 6 (2 * (h g 6 - L) + srF bs (h g 7))) g 7 (h g 7 + 1)) g bs (2 * (lo - L), 2 * (hi - L) + 1, ow, 2 * (va - L) + srF bs nr, nr + 1) ∧ FrG h (hset (hset (hset (hset h g 1 (2 * (h g 1 - L))) g 2 (2 * (h g 2 - L) + 1)) g 6 (2 * (h g 6 - L) + srF bs (h g 7))) g 7 (h g 7 + 1)) g := by
  obtain ⟨e1, e2, e3, e5, e6, e7, R⟩ := H
  refine ⟨⟨?_, ?_, ?_, ?_, ?_, ?_, R.congr (by rw [hset_ni (by omega), hset_ni (by omega), hset_ni (by omega), hset_ni (by omega)]) (by rw [hset_ni (by omega), hset_ni (by omega), hset_ni (by omega), hset_ni (by omega)])⟩, ⟨fun i q1 q2 q3 => by rw [hset_ni q1, hset_ni q1, hset_ni q1, hset_ni q1], ?_, ?_⟩⟩
  · rw [hset_nk (by decide), hset_nk (by decide), hset_nk (by decide), hset_eq, e1]
  · rw [hset_nk (by decide), hset_nk (by decide), hset_eq, e2]
  · rw [hset_nk (by decide), hset_nk (by decide), hset_nk (by decide), hset_nk (by decide)]; exact e3
  · rw [hset_nk (by decide), hset_nk (by decide), hset_nk (by decide), hset_nk (by decide)]; exact e5
  · rw [hset_nk (by decide), hset_eq, e6, e7]
  · rw [hset_eq, e7]
  · rw [hset_nk (by decide), hset_nk (by decide), hset_nk (by decide), hset_nk (by decide)]
  · rw [hset_nk (by decide), hset_nk (by decide), hset_nk (by decide), hset_nk (by decide)]
theorem rgr_owe {h : mH} {g : Nat} {lo hi ow va nr : Int} {bs : List Int} (H : RgR h g bs (lo, hi, ow, va, nr)) : RgR (hset h g 3 (ow + 1)) g bs (lo, hi, ow + 1, va, nr) ∧ FrG h (hset h g 3 (ow + 1)) g := by
  obtain ⟨e1, e2, e3, e5, e6, e7, R⟩ := H
  refine ⟨⟨?_, ?_, ?_, ?_, ?_, ?_, R.congr (by rw [hset_ni (by omega)]) (by rw [hset_ni (by omega)])⟩, ⟨fun i q1 q2 q3 => by rw [hset_ni q1], ?_, ?_⟩⟩
  · rw [hset_nk (by decide)]; exact e1
  · rw [hset_nk (by decide)]; exact e2
  · rw [hset_eq]
  · rw [hset_nk (by decide)]; exact e5
  · rw [hset_nk (by decide)]; exact e6
  · rw [hset_nk (by decide)]; exact e7
  · rw [hset_nk (by decide)]
  · rw [hset_nk (by decide)]
theorem rstp_L {lo hi ow va nr L : Int} {bs : List Int} (h : les lo hi = L) (hn : L ≠ 16384) : rstp (srF bs) (lo, hi, ow, va, nr) = (2 * (lo - L), 2 * (hi - L) + 1, ow, 2 * (va - L) + srF bs nr, nr + 1) := by
  unfold rstp; simp only [h, if_neg hn]
theorem rstp_Q {lo hi ow va nr : Int} {bs : List Int} (h : les lo hi = 16384) : rstp (srF bs) (lo, hi, ow, va, nr) = (2 * (lo - 16384), 2 * (hi - 16384) + 1, ow + 1, 2 * (va - 16384) + srF bs nr, nr + 1) := by
  unfold rstp; simp only [h]; rfl

set_option maxHeartbeats 4000000 in
set_option maxRecDepth 100000 in
theorem rg_loop_r {x : mX} {Q : mH → Prop} {g : Nat} {bs : List Int} {b w t r : Int} (hg : isRg g) (hN722 : bs.length ≤ 722) (hsf : ∀ k, srF bs k = 0 ∨ srF bs k = 1) : ∀ (n k : Nat) (h : mH) (K : Int) (c : Rd), n + k = 17 → RgR h g bs c → CdB c.1 c.2.1 → 2 ^ k ≤ c.2.1 - c.1 + 1 → RdV K c → K + n ≤ 90000 → (∀ h', RgR h' g bs (rdn (srF bs) n c) → FrG h h' g → Q h') → Go x mtX5_takes 55 [xR g, xI b, xI w, xI t, xI r, xI k] [] h (qV Q)
  | 0, k, h, K, c, hnk, H, hB, hR, hV, hK, hQ => by
    obtain ⟨b1, b2, b3⟩ := hB
    have : k = 17 := by omega
    subst this
    have e : (2 : Int) ^ 17 = 131072 := by decide
    rw [e] at hR
    omega
  | n + 1, k, h, K, (lo, hi, ow, va, nr), hnk, H, hB, hR, hV, hK, hQ => by
    have ih := rg_loop_r (x := x) (Q := Q) (g := g) (bs := bs) (b := b) (w := w) (t := t) (r := r) hg hN722 hsf n
    obtain ⟨b1, b2, b3⟩ := id hB
    obtain ⟨v1, v2, v3, v4, v5, v6⟩ := id hV
    dsimp only at b1 b2 b3 hR v1 v2 v3 v4 v5 v6
    have e1 : h g 1 = lo := H.1
    have e2 : h g 2 = hi := H.2.1
    have e3 : h g 3 = ow := H.2.2.1
    refine go_iload dX5_takes_55 rfl ?_
    refine go_bipush dX5_takes_57 (by decide +kernel) ⟨by decide, by decide⟩ ?_
    refine go_icmp_ge_f (tgt := 153) dX5_takes_59 (by decide) (by omega) ?_
    refine go_aload_n dX5_takes_62 rfl ?_
    refine gfX5_high hg.1 flX5_25 dX5_takes_63 ?_
    rw [e2]
    refine go_ldc dX5_takes_66 knX5_75 ⟨by decide, by decide⟩ ?_
    refine go_icmp_ge (tgt := 84) dX5_takes_68 (by decide) (fun c68 => ?_) (fun c68 => ?_)
    · refine go_aload_n dX5_takes_84 rfl ?_
      refine gfX5_low hg.1 flX5_20 dX5_takes_85 ?_
      rw [e1]
      refine go_ldc dX5_takes_88 knX5_75 ⟨by decide, by decide⟩ ?_
      refine go_icmp_lt (tgt := 107) dX5_takes_90 (by decide) (fun c90 => ?_) (fun c90 => ?_)
      · refine go_aload_n dX5_takes_107 rfl ?_
        refine gfX5_low hg.1 flX5_20 dX5_takes_108 ?_
        rw [e1]
        refine go_sipush dX5_takes_111 (by decide +kernel) ⟨by decide, by decide⟩ ?_
        refine go_icmp_lt (tgt := 146) dX5_takes_114 (by decide) (fun c114 => ?_) (fun c114 => ?_)
        · have hl := les_N c68 c90 (by omega)
          refine go_return dX5_takes_146 rfl ?_
          have hwd : rdn (srF bs) (n + 1) (lo, hi, ow, va, nr) = (lo, hi, ow, va, nr) := by rw [rdn, if_pos hl]
          rw [hwd] at hQ
          exact hQ _ H FrG.rf
        · refine go_aload_n dX5_takes_117 rfl ?_
          refine gfX5_high hg.1 flX5_25 dX5_takes_118 ?_
          rw [e2]
          refine go_ldc dX5_takes_121 knX5_79 ⟨by decide, by decide⟩ ?_
          refine go_icmp_ge (tgt := 146) dX5_takes_123 (by decide) (fun c123 => ?_) (fun c123 => ?_)
          · have hl := les_N c68 c90 (by omega)
            refine go_return dX5_takes_146 rfl ?_
            have hwd : rdn (srF bs) (n + 1) (lo, hi, ow, va, nr) = (lo, hi, ow, va, nr) := by rw [rdn, if_pos hl]
            rw [hwd] at hQ
            exact hQ _ H FrG.rf
          · have hl := les_Q c68 c90 c114 c123
            refine go_aload_n dX5_takes_126 rfl ?_
            first | refine go_dupR dX5_takes_127 ?_ | refine go_dupI dX5_takes_127 ?_
            refine gfX5_owed hg.1 flX5_28 dX5_takes_128 ?_
            rw [e3]
            refine go_iconst dX5_takes_131 ⟨by decide, by decide⟩ ?_
            refine go_iadd dX5_takes_132 (by omega) (by omega) ?_
            refine pfX5_owed hg.1 flX5_28 dX5_takes_133 ?_
            refine go_aload_n dX5_takes_136 rfl ?_
            refine go_sipush dX5_takes_137 (by decide +kernel) ⟨by decide, by decide⟩ ?_
            refine go_cV1V hg.1 vlX5_76 dX5_takes_140 (by decide) rfl rfl (by decide) (Nat.le_of_ble_eq_true rfl) (rg_doubles_r hg (bs := bs) (rgr_owe H).1.2.2.2.2.2.2 hN722 hsf (rgr_owe H).1.2.2.2.1 (by rw [(rgr_owe H).1.1]; show -100000 ≤ lo - 16384; omega) (by rw [(rgr_owe H).1.1]; show lo - 16384 ≤ 100000; omega) (by rw [(rgr_owe H).1.2.1]; show -100000 ≤ hi - 16384; omega) (by rw [(rgr_owe H).1.2.1]; show hi - 16384 ≤ 100000; omega) (by rw [(rgr_owe H).1.2.2.2.2.1]; show -100000 ≤ va - 16384; omega) (by rw [(rgr_owe H).1.2.2.2.2.1]; show va - 16384 ≤ 100000; omega) (by rw [(rgr_owe H).1.2.2.2.2.2.1]; show 0 ≤ nr; omega) (by rw [(rgr_owe H).1.2.2.2.2.2.1]; show nr ≤ 100000; omega) ?_)
            have Z := rgr_dbl (L := 16384) (rgr_owe H).1
            have H9 := Z.1
            rw [← rstp_Q hl] at H9
            have F9 := FrG.tr (rgr_owe H).2 Z.2
            refine go_goto (tgt := 147) dX5_takes_143 (by decide) ?_
            refine go_iinc dX5_takes_147 rfl rfl rfl (by omega) (by omega) (by dsimp only [List.set]) ?_
            refine go_goto (tgt := 55) dX5_takes_150 (by decide) ?_
            have hB9 := rstp_B (sf := srF bs) (c := (lo, hi, ow, va, nr)) hB (by rw [hl]; decide)
            have hwd : rdn (srF bs) (n + 1) (lo, hi, ow, va, nr) = rdn (srF bs) n (rstp (srF bs) (lo, hi, ow, va, nr)) := by rw [rdn, if_neg (by rw [hl]; decide)]
            rw [hwd] at hQ
            refine ih (k + 1) _ (K + 1) (rstp (srF bs) (lo, hi, ow, va, nr)) (by omega) H9 hB9.1 (by rw [hB9.2, pow2_s]; show 2 * 2 ^ k ≤ 2 * (hi - lo + 1); omega) (rstp_V hsf hV) (by omega) (fun h9 a9 b9 => hQ h9 a9 (F9.tr b9))
      · have hl := les_H c68 c90
        refine go_aload_n dX5_takes_93 rfl ?_
        refine go_iconst dX5_takes_94 ⟨by decide, by decide⟩ ?_
        refine go_cV1V hg.1 vlX5_58 dX5_takes_95 (by decide) rfl rfl (by decide) (Nat.le_of_ble_eq_true rfl) (rg_writesBit_r hg H.2.2.2.1 ?_)
        refine go_aload_n dX5_takes_98 rfl ?_
        refine go_ldc dX5_takes_99 knX5_75 ⟨by decide, by decide⟩ ?_
        refine go_cV1V hg.1 vlX5_76 dX5_takes_101 (by decide) rfl rfl (by decide) (Nat.le_of_ble_eq_true rfl) (rg_doubles_r hg (bs := bs) H.2.2.2.2.2.2 hN722 hsf H.2.2.2.1 (by rw [H.1]; show -100000 ≤ lo - 32768; omega) (by rw [H.1]; show lo - 32768 ≤ 100000; omega) (by rw [H.2.1]; show -100000 ≤ hi - 32768; omega) (by rw [H.2.1]; show hi - 32768 ≤ 100000; omega) (by rw [H.2.2.2.2.1]; show -100000 ≤ va - 32768; omega) (by rw [H.2.2.2.2.1]; show va - 32768 ≤ 100000; omega) (by rw [H.2.2.2.2.2.1]; show 0 ≤ nr; omega) (by rw [H.2.2.2.2.2.1]; show nr ≤ 100000; omega) ?_)
        have Z := rgr_dbl (L := 32768) H
        have H9 := Z.1
        rw [← rstp_L hl (by decide)] at H9
        have F9 := FrG.tr FrG.rf Z.2
        refine go_goto (tgt := 147) dX5_takes_104 (by decide) ?_
        refine go_iinc dX5_takes_147 rfl rfl rfl (by omega) (by omega) (by dsimp only [List.set]) ?_
        refine go_goto (tgt := 55) dX5_takes_150 (by decide) ?_
        have hB9 := rstp_B (sf := srF bs) (c := (lo, hi, ow, va, nr)) hB (by rw [hl]; decide)
        have hwd : rdn (srF bs) (n + 1) (lo, hi, ow, va, nr) = rdn (srF bs) n (rstp (srF bs) (lo, hi, ow, va, nr)) := by rw [rdn, if_neg (by rw [hl]; decide)]
        rw [hwd] at hQ
        refine ih (k + 1) _ (K + 1) (rstp (srF bs) (lo, hi, ow, va, nr)) (by omega) H9 hB9.1 (by rw [hB9.2, pow2_s]; show 2 * 2 ^ k ≤ 2 * (hi - lo + 1); omega) (rstp_V hsf hV) (by omega) (fun h9 a9 b9 => hQ h9 a9 (F9.tr b9))
    · have hl := les_0 (lo := lo) c68
      refine go_aload_n dX5_takes_71 rfl ?_
      refine go_iconst dX5_takes_72 ⟨by decide, by decide⟩ ?_
      refine go_cV1V hg.1 vlX5_58 dX5_takes_73 (by decide) rfl rfl (by decide) (Nat.le_of_ble_eq_true rfl) (rg_writesBit_r hg H.2.2.2.1 ?_)
      refine go_aload_n dX5_takes_76 rfl ?_
      refine go_iconst dX5_takes_77 ⟨by decide, by decide⟩ ?_
      refine go_cV1V hg.1 vlX5_76 dX5_takes_78 (by decide) rfl rfl (by decide) (Nat.le_of_ble_eq_true rfl) (rg_doubles_r hg (bs := bs) H.2.2.2.2.2.2 hN722 hsf H.2.2.2.1 (by rw [H.1]; show -100000 ≤ lo - 0; omega) (by rw [H.1]; show lo - 0 ≤ 100000; omega) (by rw [H.2.1]; show -100000 ≤ hi - 0; omega) (by rw [H.2.1]; show hi - 0 ≤ 100000; omega) (by rw [H.2.2.2.2.1]; show -100000 ≤ va - 0; omega) (by rw [H.2.2.2.2.1]; show va - 0 ≤ 100000; omega) (by rw [H.2.2.2.2.2.1]; show 0 ≤ nr; omega) (by rw [H.2.2.2.2.2.1]; show nr ≤ 100000; omega) ?_)
      have Z := rgr_dbl (L := 0) H
      have H9 := Z.1
      rw [← rstp_L hl (by decide)] at H9
      have F9 := FrG.tr FrG.rf Z.2
      refine go_goto (tgt := 147) dX5_takes_81 (by decide) ?_
      refine go_iinc dX5_takes_147 rfl rfl rfl (by omega) (by omega) (by dsimp only [List.set]) ?_
      refine go_goto (tgt := 55) dX5_takes_150 (by decide) ?_
      have hB9 := rstp_B (sf := srF bs) (c := (lo, hi, ow, va, nr)) hB (by rw [hl]; decide)
      have hwd : rdn (srF bs) (n + 1) (lo, hi, ow, va, nr) = rdn (srF bs) n (rstp (srF bs) (lo, hi, ow, va, nr)) := by rw [rdn, if_neg (by rw [hl]; decide)]
      rw [hwd] at hQ
      refine ih (k + 1) _ (K + 1) (rstp (srF bs) (lo, hi, ow, va, nr)) (by omega) H9 hB9.1 (by rw [hB9.2, pow2_s]; show 2 * 2 ^ k ≤ 2 * (hi - lo + 1); omega) (rstp_V hsf hV) (by omega) (fun h9 a9 b9 => hQ h9 a9 (F9.tr b9))

set_option maxHeartbeats 4000000 in
set_option maxRecDepth 100000 in
theorem rg_takes_r {x : mX} {h : mH} {Q : mH → Prop} {g : Nat} {bs : List Int} {K : Int} {c : Rd} {b w t : Int} (hg : isRg g) (H : RgR h g bs c) (hN722 : bs.length ≤ 722) (hsf : ∀ k, srF bs k = 0 ∨ srF bs k = 1) (hN : CdN c.1 c.2.1) (hV : RdV K c) (hK : K ≤ 80000) (hb : 0 ≤ b) (hw : 1 ≤ w) (ht : b + w ≤ t) (ht2 : t ≤ 5000) (hv1 : c.1 + (c.2.1 - c.1 + 1) * b / t ≤ c.2.2.2.1) (hv2 : c.2.2.2.1 ≤ c.1 + (c.2.1 - c.1 + 1) * (b + w) / t - 1) (hQ : ∀ h', RgR h' g bs (rprt (srF bs) c b w t) → FrG h h' g → Q h') : CtV x mtX5_takes [xR g, xI b, xI w, xI t] h Q := by
  obtain ⟨lo, hi, ow, va, nr⟩ := c
  have e1 : h g 1 = lo := H.1
  have e2 : h g 2 = hi := H.2.1
  dsimp only at hN
  have hP := prt_B hN hb hw ht ht2
  obtain ⟨n1, n2, n3⟩ := hN
  have r1 : hi - lo + 1 ≤ 65536 := by omega
  have m1 : -2147483648 ≤ (hi - lo + 1) * (b + w) ∧ (hi - lo + 1) * (b + w) < 2147483648 := by
    have z1 : 0 ≤ (hi - lo + 1) * (b + w) := Int.mul_nonneg (by omega) (by omega)
    have z2 : (hi - lo + 1) * (b + w) ≤ 65536 * 5000 := Int.mul_le_mul r1 (by omega) (by omega) (by decide)
    omega
  have m2 : -2147483648 ≤ (hi - lo + 1) * b ∧ (hi - lo + 1) * b < 2147483648 := by
    have z1 : 0 ≤ (hi - lo + 1) * b := Int.mul_nonneg (by omega) (by omega)
    have z2 : (hi - lo + 1) * b ≤ 65536 * 5000 := Int.mul_le_mul r1 (by omega) (by omega) (by decide)
    omega
  have m3 : 0 ≤ (hi - lo + 1) * (b + w) := Int.mul_nonneg (by omega) (by omega)
  have m4 : 0 ≤ (hi - lo + 1) * b := Int.mul_nonneg (by omega) (by omega)
  obtain ⟨p1, p2, p3⟩ := id hP
  have d1 : 0 ≤ (hi - lo + 1) * (b + w) / t := Int.ediv_nonneg m3 (by omega)
  have d2 : 0 ≤ (hi - lo + 1) * b / t := Int.ediv_nonneg m4 (by omega)
  dsimp only at hv1 hv2
  refine ct_go (ls := [xR g, xI b, xI w, xI t, xU, xU]) (by decide +kernel) (Nat.le_of_ble_eq_true rfl) rfl ?_
  refine go_iload_n dX5_takes_0 rfl ?_
  refine go_if_gt_t (tgt := 5) dX5_takes_1 (by decide) (by omega) ?_
  refine go_aload_n dX5_takes_5 rfl ?_
  refine gfX5_high hg.1 flX5_25 dX5_takes_6 ?_
  rw [e2]
  refine go_aload_n dX5_takes_9 rfl ?_
  refine gfX5_low hg.1 flX5_20 dX5_takes_10 ?_
  rw [e1]
  refine go_isub dX5_takes_13 (by omega) (by omega) ?_
  refine go_iconst dX5_takes_14 ⟨by decide, by decide⟩ ?_
  refine go_iadd dX5_takes_15 (by omega) (by omega) ?_
  refine go_istore dX5_takes_16 (Nat.le_of_ble_eq_true rfl) rfl (by dsimp only [List.set]) ?_
  refine go_aload_n dX5_takes_18 rfl ?_
  refine go_aload_n dX5_takes_19 rfl ?_
  refine gfX5_low hg.1 flX5_20 dX5_takes_20 ?_
  rw [e1]
  refine go_iload dX5_takes_23 rfl ?_
  refine go_iload_n dX5_takes_25 rfl ?_
  refine go_iload_n dX5_takes_26 rfl ?_
  refine go_iadd dX5_takes_27 (by omega) (by omega) ?_
  refine go_imul dX5_takes_28 (by exact m1.1) (by exact m1.2) ?_
  refine go_iload_n dX5_takes_29 rfl ?_
  refine go_idiv dX5_takes_30 (by omega) (by omega) ?_
  refine go_iadd dX5_takes_31 (by omega) (by omega) ?_
  refine go_iconst dX5_takes_32 ⟨by decide, by decide⟩ ?_
  refine go_isub dX5_takes_33 (by omega) (by omega) ?_
  refine pfX5_high hg.1 flX5_25 dX5_takes_34 ?_
  refine go_aload_n dX5_takes_37 rfl ?_
  refine go_aload_n dX5_takes_38 rfl ?_
  refine gfX5_low hg.1 flX5_20 dX5_takes_39 ?_
  rw [hset_nk (show (1 : Int) ≠ 2 by decide), e1]
  refine go_iload dX5_takes_42 rfl ?_
  refine go_iload_n dX5_takes_44 rfl ?_
  refine go_imul dX5_takes_45 (by exact m2.1) (by exact m2.2) ?_
  refine go_iload_n dX5_takes_46 rfl ?_
  refine go_idiv dX5_takes_47 (by omega) (by omega) ?_
  refine go_iadd dX5_takes_48 (by omega) (by omega) ?_
  refine pfX5_low hg.1 flX5_20 dX5_takes_49 ?_
  refine go_iconst dX5_takes_52 ⟨by decide, by decide⟩ ?_
  refine go_istore dX5_takes_53 (Nat.le_of_ble_eq_true rfl) rfl (by dsimp only [List.set]) ?_
  refine rg_loop_r hg hN722 hsf 17 0 _ K (lo + (hi - lo + 1) * b / t, lo + (hi - lo + 1) * (b + w) / t - 1, ow, va, nr) rfl ⟨?_, ?_, ?_, ?_, ?_, ?_, ?_⟩ hP (by rw [Int.pow_zero]; dsimp only; omega) ⟨hv1, hv2, hV.2.2⟩ (by omega) (fun h9 a9 b9 => hQ h9 a9 (FrG.tr ⟨fun i q1 q2 q3 => ?_, ?_, ?_⟩ b9))
  · exact hset_eq _ _ _ _
  · rw [hset_nk (by decide), hset_eq]
  · rw [hset_nk (by decide), hset_nk (by decide)]; exact H.2.2.1
  · rw [hset_nk (by decide), hset_nk (by decide)]; exact H.2.2.2.1
  · rw [hset_nk (by decide), hset_nk (by decide)]; exact H.2.2.2.2.1
  · rw [hset_nk (by decide), hset_nk (by decide)]; exact H.2.2.2.2.2.1
  · exact H.2.2.2.2.2.2.congr (by rw [hset_ni (by omega), hset_ni (by omega)]) (by rw [hset_ni (by omega), hset_ni (by omega)])
  · rw [hset_ni q1, hset_ni q1]
  · rw [hset_nk (by decide), hset_nk (by decide)]
  · rw [hset_nk (by decide), hset_nk (by decide)]
end
section
/-! ===== Range: chooses, startsReading, endsLike; Odds ===== -/
set_option maxHeartbeats 4000000 in
set_option maxRecDepth 100000 in
theorem rg_chooses_w {x : mX} {h : mH} {Q : Int → mH → Prop} {g t : Nat} {s : Int} (hg : isRg g) (ht : isStg t) (h5 : h g 5 = 0) (h4 : h g 4 = s) (h0 : 0 ≤ s) (h1 : s < 4) (hQ : Q (if 0 < h (t + 1) s then s else 4) h) : CtI x mtX5_chooses [xR g, xR t] h Q := by
  refine ct_go (ls := [xR g, xR t, xU, xU]) (by decide +kernel) (Nat.le_of_ble_eq_true rfl) rfl ?_
  refine go_aload_n dX5_chooses_0 rfl ?_
  refine gfX5_reading hg.1 flX5_34 dX5_chooses_1 ?_
  refine go_if_ne_f (tgt := 16) dX5_chooses_4 (by decide) (h5) ?_
  refine go_aload_n dX5_chooses_7 rfl ?_
  refine go_aload_n dX5_chooses_8 rfl ?_
  refine gfX5_wanted hg.1 flX5_31 dX5_chooses_9 ?_
  rw [h4]
  refine go_cV1I ht.1 vlX5_64 dX5_chooses_12 (by decide) rfl rfl (by decide) (Nat.le_of_ble_eq_true rfl) (st_choiceFor ht h0 h1 ?_)
  refine go_ireturn dX5_chooses_15 rfl ?_
  exact hQ

set_option maxHeartbeats 4000000 in
set_option maxRecDepth 100000 in
theorem rg_chooses_r {x : mX} {h : mH} {Q : Int → mH → Prop} {g t : Nat} {bs : List Int} {c : Rd} {K : Int} (hg : isRg g) (ht : isStg t) (H : RgR h g bs c) (hN : CdN c.1 c.2.1) (hV : RdV K c) (ht1 : 1 ≤ h t 1) (ht2 : h t 1 ≤ 5000) (hwd : ∀ s : Nat, s < 5 → 0 ≤ h (t + 1) (s : Int) ∧ h (t + 1) (s : Int) ≤ 1000) (hQ : Q ((chAt (fun s => h (t + 1) (s : Int)) (((c.2.2.2.1 - c.1 + 1) * h t 1 - 1) / (c.2.1 - c.1 + 1)) : Nat) : Int) h) : CtI x mtX5_chooses [xR g, xR t] h Q := by
  obtain ⟨lo, hi, ow, va, nr⟩ := c
  have e1 : h g 1 = lo := H.1
  have e2 : h g 2 = hi := H.2.1
  have e5 : h g 5 = 1 := H.2.2.2.1
  have e6 : h g 6 = va := H.2.2.2.2.1
  obtain ⟨n1, n2, n3⟩ := hN
  obtain ⟨v1, v2, v3⟩ := hV
  dsimp only at n1 n2 n3 v1 v2 hQ
  have z1 : 1 * 1 ≤ (va - lo + 1) * h t 1 := Int.mul_le_mul (by omega) ht1 (by decide) (by omega)
  have z2 : (va - lo + 1) * h t 1 ≤ 65536 * 5000 := Int.mul_le_mul (by omega) ht2 (by omega) (by decide)
  have m1 : -2147483648 ≤ (va - lo + 1) * h t 1 ∧ (va - lo + 1) * h t 1 < 2147483648 := by omega
  refine ct_go (ls := [xR g, xR t, xU, xU]) (by decide +kernel) (Nat.le_of_ble_eq_true rfl) rfl ?_
  refine go_aload_n dX5_chooses_0 rfl ?_
  refine gfX5_reading hg.1 flX5_34 dX5_chooses_1 ?_
  refine go_if_ne_t (tgt := 16) dX5_chooses_4 (by decide) (by omega) ?_
  refine go_aload_n dX5_chooses_16 rfl ?_
  refine gfX5_high hg.1 flX5_25 dX5_chooses_17 ?_
  rw [e2]
  refine go_aload_n dX5_chooses_20 rfl ?_
  refine gfX5_low hg.1 flX5_20 dX5_chooses_21 ?_
  rw [e1]
  refine go_isub dX5_chooses_24 (by omega) (by omega) ?_
  refine go_iconst dX5_chooses_25 ⟨by decide, by decide⟩ ?_
  refine go_iadd dX5_chooses_26 (by omega) (by omega) ?_
  refine go_istore_n 2 dX5_chooses_27 rfl (Nat.le_of_ble_eq_true rfl) rfl (by dsimp only [List.set]) ?_
  refine go_iload_n dX5_chooses_28 rfl ?_
  refine go_if_le_f (tgt := 55) dX5_chooses_29 (by decide) (by omega) ?_
  refine go_aload_n dX5_chooses_32 rfl ?_
  refine gfX5_value hg.1 flX5_38 dX5_chooses_33 ?_
  rw [e6]
  refine go_aload_n dX5_chooses_36 rfl ?_
  refine gfX5_low hg.1 flX5_20 dX5_chooses_37 ?_
  rw [e1]
  refine go_isub dX5_chooses_40 (by omega) (by omega) ?_
  refine go_iconst dX5_chooses_41 ⟨by decide, by decide⟩ ?_
  refine go_iadd dX5_chooses_42 (by omega) (by omega) ?_
  refine go_aload_n dX5_chooses_43 rfl ?_
  refine gfX7_total ht.1 flX5_69 dX5_chooses_44 ?_
  refine go_imul dX5_chooses_47 (by exact m1.1) (by exact m1.2) ?_
  refine go_iconst dX5_chooses_48 ⟨by decide, by decide⟩ ?_
  refine go_isub dX5_chooses_49 (by omega) (by omega) ?_
  refine go_iload_n dX5_chooses_50 rfl ?_
  refine go_idiv dX5_chooses_51 (by omega) (by omega) ?_
  refine go_goto (tgt := 56) dX5_chooses_52 (by decide) ?_
  refine go_istore_n 3 dX5_chooses_56 rfl (Nat.le_of_ble_eq_true rfl) rfl (by dsimp only [List.set]) ?_
  refine go_aload_n dX5_chooses_57 rfl ?_
  refine go_iload_n dX5_chooses_58 rfl ?_
  refine go_cV1I ht.1 vlX5_72 dX5_chooses_59 (by decide) rfl rfl (by decide) (Nat.le_of_ble_eq_true rfl) (st_choiceAt ht hwd ?_)
  refine go_ireturn dX5_chooses_62 rfl ?_
  exact hQ

def v16 (sf : Int → Int) : Nat → Int
  | 0 => 0
  | k + 1 => 2 * v16 sf k + sf k
theorem v16_bd {sf : Int → Int} (hsf : ∀ k, sf k = 0 ∨ sf k = 1) : ∀ k, 0 ≤ v16 sf k ∧ v16 sf k + 1 ≤ 2 ^ k
  | 0 => by simp [v16]
  | k + 1 => by
    have h1 := v16_bd hsf k
    have h2 := hsf k
    rw [v16, pow2_s]
    omega
theorem pow_le16 : ∀ k : Nat, k ≤ 16 → (2 : Int) ^ k ≤ 65536 := by decide +kernel

set_option maxHeartbeats 4000000 in
set_option maxRecDepth 100000 in
theorem rg_startsReading {x : mX} {h : mH} {Q : mH → Prop} {g : Nat} {bs : List Int} (hg : isRg g) (H : RowL h (g + 1) bs) (hN : bs.length ≤ 722) (hsf : ∀ k, srF bs k = 0 ∨ srF bs k = 1) (hQ : ∀ h', RgR h' g bs (0, 65535, 0, v16 (srF bs) 16, 16) → (∀ i, i ≠ g → h' i = h i) → Q h') : CtV x mtX5_startsReading [xR g] h Q := by
  refine ct_go (ls := [xR g, xU]) (by decide +kernel) (Nat.le_of_ble_eq_true rfl) rfl ?_
  refine go_aload_n dX5_startsReading_0 rfl ?_
  refine go_cV0V hg.1 vlX5_47 dX5_startsReading_1 (by decide) rfl rfl (by decide) (Nat.le_of_ble_eq_true rfl) (rg_isWhole hg ?_)
  refine go_aload_n dX5_startsReading_4 rfl ?_
  refine go_iconst dX5_startsReading_5 ⟨by decide, by decide⟩ ?_
  refine pfX5_reading hg.1 flX5_34 dX5_startsReading_6 (by first | exact Or.inl rfl | exact Or.inr rfl) ?_
  refine go_aload_n dX5_startsReading_9 rfl ?_
  refine go_iconst dX5_startsReading_10 ⟨by decide, by decide⟩ ?_
  refine pfX5_value hg.1 flX5_38 dX5_startsReading_11 ?_
  refine go_iconst dX5_startsReading_14 ⟨by decide, by decide⟩ ?_
  refine go_istore_n 1 dX5_startsReading_15 rfl (Nat.le_of_ble_eq_true rfl) rfl (by dsimp only [List.set]) ?_
  refine up_indN (P := fun s => ∀ hh : mH, hh g 6 = v16 (srF bs) s → hh g 1 = 0 → hh g 2 = 65535 → hh g 3 = 0 → hh g 5 = 1 → (∀ i, i ≠ g → hh i = h i) → Go x mtX5_startsReading 16 [xR g, xI s] [] hh (qV Q)) 16 (fun s hs ih hh E6 E1 E2 E3 E5 EF => ?_) _ (hset_eq _ _ _ _) ?_ ?_ ?_ ?_ (fun i q => by rw [hset_ni q, hset_ni q, hset_ni q, hset_ni q, hset_ni q])
  · have hb := v16_bd hsf s
    have hp := pow_le16 s hs
    by_cases hlt : s < 16
    · skip
      refine go_iload_n dX5_startsReading_16 rfl ?_
      refine go_bipush dX5_startsReading_17 (by decide +kernel) ⟨by decide, by decide⟩ ?_
      refine go_icmp_ge_f (tgt := 47) dX5_startsReading_19 (by decide) (by omega) ?_
      refine go_aload_n dX5_startsReading_22 rfl ?_
      refine go_iconst dX5_startsReading_23 ⟨by decide, by decide⟩ ?_
      refine go_aload_n dX5_startsReading_24 rfl ?_
      refine gfX5_value hg.1 flX5_38 dX5_startsReading_25 ?_
      rw [E6]
      refine go_imul dX5_startsReading_28 (by omega) (by omega) ?_
      refine go_aload_n dX5_startsReading_29 rfl ?_
      refine gfX5_bits hg.1 flX5_14 dX5_startsReading_30 ?_
      refine go_iload_n dX5_startsReading_33 rfl ?_
      refine go_cV1I hg.2.1 vlX5_50 dX5_startsReading_34 (by decide) rfl rfl (by decide) (Nat.le_of_ble_eq_true rfl) (row_atL hg.2 (bs := bs) (H.congr (EF (g + 1) (by omega)) (EF (g + 1 + 1) (by omega))) hN ?_)
      have hz := hsf s
      refine go_iadd dX5_startsReading_37 (by omega) (by omega) ?_
      refine pfX5_value hg.1 flX5_38 dX5_startsReading_38 ?_
      refine go_iinc dX5_startsReading_41 rfl rfl rfl (by omega) (by omega) (by dsimp only [List.set]) ?_
      refine go_goto (tgt := 16) dX5_startsReading_44 (by decide) ?_
      rw [show 2 * v16 (srF bs) s + srF bs (s : Int) = v16 (srF bs) (s + 1) from rfl]
      refine ih (by omega) _ (hset_eq _ _ _ _) (by rw [hset_nk (by decide)]; exact E1) (by rw [hset_nk (by decide)]; exact E2) (by rw [hset_nk (by decide)]; exact E3) (by rw [hset_nk (by decide)]; exact E5) (fun i q => by rw [hset_ni q]; exact EF i q)
    · have hie : s = 16 := by omega
      subst hie
      refine go_iload_n dX5_startsReading_16 rfl ?_
      refine go_bipush dX5_startsReading_17 (by decide +kernel) ⟨by decide, by decide⟩ ?_
      refine go_icmp_ge_t (tgt := 47) dX5_startsReading_19 (by decide) (by omega) ?_
      refine go_aload_n dX5_startsReading_47 rfl ?_
      refine go_bipush dX5_startsReading_48 (by decide +kernel) ⟨by decide, by decide⟩ ?_
      refine pfX5_nextRead hg.1 flX5_41 dX5_startsReading_50 ?_
      refine go_return dX5_startsReading_53 rfl ?_
      refine hQ _ ⟨?_, ?_, ?_, ?_, ?_, ?_, H.congr (by rw [hset_ni (by omega)]; exact EF _ (by omega)) (by rw [hset_ni (by omega)]; exact EF _ (by omega))⟩ (fun i q => by rw [hset_ni q]; exact EF i q)
      · rw [hset_nk (by decide)]; exact E1
      · rw [hset_nk (by decide)]; exact E2
      · rw [hset_nk (by decide)]; exact E3
      · rw [hset_nk (by decide)]; exact E5
      · rw [hset_nk (by decide)]; exact E6
      · exact hset_eq _ _ _ _
  · rw [hset_nk (by decide), hset_nk (by decide), hset_nk (by decide), hset_nk (by decide), hset_eq]
  · rw [hset_nk (by decide), hset_nk (by decide), hset_nk (by decide), hset_eq]
  · rw [hset_nk (by decide), hset_nk (by decide), hset_eq]
  · rw [hset_nk (by decide), hset_eq]

theorem cpRow_L {h : mH} {r o : Nat} {bs : List Int} (H : RowL h o bs) : RowL (cpRow h r o (h o 1)) r bs := by
  refine ⟨by unfold cpRow; rw [if_pos ⟨rfl, rfl⟩]; exact H.1, fun k hk => ?_⟩
  unfold cpRow
  rw [if_neg (by omega), if_pos ⟨rfl, by omega, by rw [H.1]; omega⟩]
  exact H.2 k hk
theorem cpRow_ne {h : mH} {r o : Nat} {n : Int} {i : Nat} (h1 : i ≠ r) (h2 : i ≠ r + 1) : cpRow h r o n i = h i := by
  funext b; unfold cpRow; rw [if_neg (by omega), if_neg (by omega)]
theorem row_copiesL {x : mX} {h : mH} {Q : mH → Prop} {r o N K : Nat} {bs : List Int} (hr : isRow r N) (hro : isRow o K) (hd : r + 2 ≤ o ∨ o + 2 ≤ r) (H : RowL h o bs) (h1 : bs.length ≤ N) (h2 : bs.length ≤ K) (hQ : ∀ h', RowL h' r bs → FrR h h' r → Q h') : CtV x mtX6_copies [xR r, xR o] h Q :=
  row_copies (n := h o 1) hr hro (by omega) (by omega) (by omega) rfl (by rw [H.1]; omega) (by rw [H.1]; omega) (by rw [H.1]; omega) (hQ _ (cpRow_L H) (fun i a b => cpRow_ne a b))

set_option maxHeartbeats 4000000 in
set_option maxRecDepth 100000 in
theorem rg_endsLike {x : mX} {h : mH} {Q : mH → Prop} {g o : Nat} {c : Cd} (hg : isRg g) (ho : isRg o) (hgo : g + 3 ≤ o ∨ o + 3 ≤ g) (H : RgW h o c) (hD : Dn c + 2 ≤ 722) (hQ : ∀ h', RowL h' (g + 1) (c.2.2.2 ++ (if c.1 < 16384 then 0 else 1) :: List.replicate (c.2.2.1 + 1) (1 - (if c.1 < 16384 then 0 else 1))) → (∀ i, i ≠ g → i ≠ g + 1 → i ≠ g + 2 → h' i = h i) → Q h') : CtV x mtX5_endsLike [xR g, xR o] h Q := by
  obtain ⟨lo, hi, ow, bs⟩ := c
  dsimp only at hQ
  refine ct_go (ls := [xR g, xR o]) (by decide +kernel) (Nat.le_of_ble_eq_true rfl) rfl ?_
  refine go_aload_n dX5_endsLike_0 rfl ?_
  refine gfX5_bits hg.1 flX5_14 dX5_endsLike_1 ?_
  refine go_aload_n dX5_endsLike_4 rfl ?_
  refine gfX5_bits ho.1 flX5_14 dX5_endsLike_5 ?_
  refine go_cV1V hg.2.1 vlX5_54 dX5_endsLike_8 (by decide) rfl rfl (by decide) (Nat.le_of_ble_eq_true rfl) (row_copiesL (bs := bs) hg.2 ho.2 (by omega) H.2.2.2.2 (by unfold Dn at hD; dsimp only at hD; omega) (by unfold Dn at hD; dsimp only at hD; omega) ?_)
  intro h1 H1 F1
  have q3 : h1 o 3 = (ow : Int) := by rw [F1 o (by omega) (by omega)]; exact H.2.2.1
  have q1 : h1 o 1 = lo := by rw [F1 o (by omega) (by omega)]; exact H.1
  have hD2 : bs.length + ow + 2 ≤ 722 := hD
  refine go_aload_n dX5_endsLike_11 rfl ?_
  refine go_iconst dX5_endsLike_12 ⟨by decide, by decide⟩ ?_
  refine pfX5_reading hg.1 flX5_34 dX5_endsLike_13 (by first | exact Or.inl rfl | exact Or.inr rfl) ?_
  refine go_aload_n dX5_endsLike_16 rfl ?_
  refine go_aload_n dX5_endsLike_17 rfl ?_
  refine gfX5_owed ho.1 flX5_28 dX5_endsLike_18 ?_
  rw [hset_ni (show o ≠ g by omega), q3]
  refine go_iconst dX5_endsLike_21 ⟨by decide, by decide⟩ ?_
  refine go_iadd dX5_endsLike_22 (by omega) (by omega) ?_
  refine pfX5_owed hg.1 flX5_28 dX5_endsLike_23 ?_
  refine go_aload_n dX5_endsLike_26 rfl ?_
  refine go_aload_n dX5_endsLike_27 rfl ?_
  refine gfX5_low ho.1 flX5_20 dX5_endsLike_28 ?_
  rw [hset_ni (show o ≠ g by omega), hset_ni (show o ≠ g by omega), q1]
  refine go_sipush dX5_endsLike_31 (by decide +kernel) ⟨by decide, by decide⟩ ?_
  refine go_icmp_ge (tgt := 41) dX5_endsLike_34 (by decide) (fun c34 => ?_) (fun c34 => ?_)
  · refine go_iconst dX5_endsLike_41 ⟨by decide, by decide⟩ ?_
    refine go_cV1V hg.1 vlX5_58 dX5_endsLike_42 (by decide) rfl rfl (by decide) (Nat.le_of_ble_eq_true rfl) (rg_writesBit (c := (h1 g 1, h1 g 2, ow + 1, bs)) hg ⟨?_, ?_, ?_, ?_, ?_⟩ (by exact Or.inr rfl) ?_ ?_)
    · rw [hset_nk (by decide), hset_nk (by decide)]
    · rw [hset_nk (by decide), hset_nk (by decide)]
    · rw [hset_eq]; rfl
    · rw [hset_nk (by decide), hset_eq]
    · exact H1.congr (by rw [hset_ni (by omega), hset_ni (by omega)]) (by rw [hset_ni (by omega), hset_ni (by omega)])
    · show bs.length + (ow + 1) + 1 ≤ 722; omega
    · intro h2 H2 F2
      refine go_return dX5_endsLike_45 rfl ?_
      rw [if_neg (by omega)] at hQ
      refine hQ _ H2.2.2.2.2 (fun i a b c => ?_)
      rw [F2.1 i a b c, hset_ni a, hset_ni a]
      exact F1 i b c
  · refine go_iconst dX5_endsLike_37 ⟨by decide, by decide⟩ ?_
    refine go_goto (tgt := 42) dX5_endsLike_38 (by decide) ?_
    refine go_cV1V hg.1 vlX5_58 dX5_endsLike_42 (by decide) rfl rfl (by decide) (Nat.le_of_ble_eq_true rfl) (rg_writesBit (c := (h1 g 1, h1 g 2, ow + 1, bs)) hg ⟨?_, ?_, ?_, ?_, ?_⟩ (by exact Or.inl rfl) ?_ ?_)
    · rw [hset_nk (by decide), hset_nk (by decide)]
    · rw [hset_nk (by decide), hset_nk (by decide)]
    · rw [hset_eq]; rfl
    · rw [hset_nk (by decide), hset_eq]
    · exact H1.congr (by rw [hset_ni (by omega), hset_ni (by omega)]) (by rw [hset_ni (by omega), hset_ni (by omega)])
    · show bs.length + (ow + 1) + 1 ≤ 722; omega
    · intro h2 H2 F2
      refine go_return dX5_endsLike_45 rfl ?_
      rw [if_pos (by omega)] at hQ
      refine hQ _ H2.2.2.2.2 (fun i a b c => ?_)
      rw [F2.1 i a b c, hset_ni a, hset_ni a]
      exact F1 i b c

def isOd (d : Nat) : Prop := kd d = 2

set_option maxHeartbeats 4000000 in
set_option maxRecDepth 100000 in
theorem od_wants {x : mX} {h : mH} {Q : mH → Prop} {d : Nat} {s : Int} (hd : isOd d) (hQ : Q (hset (hset (hset (hset h d 0 s) d 1 (-1)) d 2 1) d 3 1)) : CtV x mtX2_wants [xR d, xI s] h Q := by
  refine ct_go (ls := [xR d, xI s]) (by decide +kernel) (Nat.le_of_ble_eq_true rfl) rfl ?_
  refine go_aload_n dX2_wants_0 rfl ?_
  refine go_iload_n dX2_wants_1 rfl ?_
  refine pfX2_wanted hd flX2_9 dX2_wants_2 ?_
  refine go_aload_n dX2_wants_5 rfl ?_
  refine go_iconst dX2_wants_6 ⟨by decide, by decide⟩ ?_
  refine pfX2_escaped hd flX2_15 dX2_wants_7 ?_
  refine go_aload_n dX2_wants_10 rfl ?_
  refine go_lconst (z := 1) dX2_wants_11 (by decide +kernel) ⟨by decide, by decide⟩ ?_
  refine pfX2_upper hd flX2_18 dX2_wants_12 ?_
  refine go_aload_n dX2_wants_15 rfl ?_
  refine go_lconst (z := 1) dX2_wants_16 (by decide +kernel) ⟨by decide, by decide⟩ ?_
  refine pfX2_lower hd flX2_22 dX2_wants_17 ?_
  refine go_return dX2_wants_20 rfl ?_
  exact hQ

set_option maxHeartbeats 4000000 in
set_option maxRecDepth 100000 in
theorem od_chooses {x : mX} {h : mH} {Q : Int → mH → Prop} {d t : Nat} {s : Int} (hd : isOd d) (ht : isStg t) (e0 : h d 0 = s) (h0 : 0 ≤ s) (h1 : s < 4) (hQ : Q (if 0 < h (t + 1) s then s else 4) h) : CtI x mtX2_chooses [xR d, xR t] h Q := by
  refine ct_go (ls := [xR d, xR t]) (by decide +kernel) (Nat.le_of_ble_eq_true rfl) rfl ?_
  refine go_aload_n dX2_chooses_0 rfl ?_
  refine go_aload_n dX2_chooses_1 rfl ?_
  refine gfX2_wanted hd flX2_9 dX2_chooses_2 ?_
  rw [e0]
  refine go_cV1I ht.1 vlX2_25 dX2_chooses_5 (by decide) rfl rfl (by decide) (Nat.le_of_ble_eq_true rfl) (st_choiceFor ht h0 h1 ?_)
  refine go_ireturn dX2_chooses_8 rfl ?_
  exact hQ

set_option maxHeartbeats 4000000 in
set_option maxRecDepth 100000 in
theorem od_takes {x : mX} {h : mH} {Q : mH → Prop} {d : Nat} {b w t : Int} (hd : isOd d) (e1 : -1 ≤ h d 1) (e2 : h d 1 ≤ 1000) (m1 : inL (h d 2 * w)) (m2 : inL (h d 3 * t)) (hQ : Q (hset (hset (hset h d 1 (h d 1 + 1)) d 2 (h d 2 * w)) d 3 (h d 3 * t))) : CtV x mtX2_takes [xR d, xI b, xI w, xI t] h Q := by
  refine ct_go (ls := [xR d, xI b, xI w, xI t]) (by decide +kernel) (Nat.le_of_ble_eq_true rfl) rfl ?_
  refine go_aload_n dX2_takes_0 rfl ?_
  first | refine go_dupR dX2_takes_1 ?_ | refine go_dupI dX2_takes_1 ?_
  refine gfX2_escaped hd flX2_15 dX2_takes_2 ?_
  refine go_iconst dX2_takes_5 ⟨by decide, by decide⟩ ?_
  refine go_iadd dX2_takes_6 (by omega) (by omega) ?_
  refine pfX2_escaped hd flX2_15 dX2_takes_7 ?_
  refine go_aload_n dX2_takes_10 rfl ?_
  first | refine go_dupR dX2_takes_11 ?_ | refine go_dupI dX2_takes_11 ?_
  refine gfX2_upper hd flX2_18 dX2_takes_12 ?_
  rw [hset_nk (show (2 : Int) ≠ 1 by decide)]
  refine go_iload_n dX2_takes_15 rfl ?_
  refine go_i2l dX2_takes_16 ?_
  refine go_lmul dX2_takes_17 (m1) ?_
  refine pfX2_upper hd flX2_18 dX2_takes_18 ?_
  refine go_aload_n dX2_takes_21 rfl ?_
  first | refine go_dupR dX2_takes_22 ?_ | refine go_dupI dX2_takes_22 ?_
  refine gfX2_lower hd flX2_22 dX2_takes_23 ?_
  rw [hset_nk (show (3 : Int) ≠ 2 by decide), hset_nk (show (3 : Int) ≠ 1 by decide)]
  refine go_iload_n dX2_takes_26 rfl ?_
  refine go_i2l dX2_takes_27 ?_
  refine go_lmul dX2_takes_28 (m2) ?_
  refine pfX2_lower hd flX2_22 dX2_takes_29 ?_
  refine go_return dX2_takes_32 rfl ?_
  exact hQ
end
section
/-! ===== Packer.descends ===== -/
/-- from the longest context down to none: where a sign was found, which was chosen, what came of it -/
def dsc {σ : Type} (ch : σ → (Nat → Int) → Nat) (tk : σ → Int → Int → Int → σ) (cs : Int → Int) (ctx : Nat → Int) : Nat → Nat → σ → Int × Nat × σ
  | 0, sh, c => (-1, ch c (wE cs (-1) sh), tk c (tot (wE cs (-1) sh) (ch c (wE cs (-1) sh))) (wE cs (-1) sh (ch c (wE cs (-1) sh))) (tot (wE cs (-1) sh) 5))
  | n + 1, sh, c => if tot (wE cs (ctx n) sh) 5 ≤ 0 then dsc ch tk cs ctx n sh c else if ch c (wE cs (ctx n) sh) = 4 then dsc ch tk cs ctx n (sh ||| opn (wE cs (ctx n) sh) 4) (tk c (tot (wE cs (ctx n) sh) (ch c (wE cs (ctx n) sh))) (wE cs (ctx n) sh (ch c (wE cs (ctx n) sh))) (tot (wE cs (ctx n) sh) 5)) else ((n : Int), ch c (wE cs (ctx n) sh), tk c (tot (wE cs (ctx n) sh) (ch c (wE cs (ctx n) sh))) (wE cs (ctx n) sh (ch c (wE cs (ctx n) sh))) (tot (wE cs (ctx n) sh) 5))
/-- what holds wherever a part is taken -/
def dOk {σ : Type} (ch : σ → (Nat → Int) → Nat) (tk : σ → Int → Int → Int → σ) (P : σ → (Nat → Int) → Prop) (cs : Int → Int) (ctx : Nat → Int) : Nat → Nat → σ → Prop
  | 0, sh, c => P c (wE cs (-1) sh)
  | n + 1, sh, c => if tot (wE cs (ctx n) sh) 5 ≤ 0 then dOk ch tk P cs ctx n sh c else P c (wE cs (ctx n) sh) ∧ (ch c (wE cs (ctx n) sh) = 4 → dOk ch tk P cs ctx n (sh ||| opn (wE cs (ctx n) sh) 4) (tk c (tot (wE cs (ctx n) sh) (ch c (wE cs (ctx n) sh))) (wE cs (ctx n) sh (ch c (wE cs (ctx n) sh))) (tot (wE cs (ctx n) sh) 5)))
def StIs (h : mH) (t : Nat) (w : Nat → Int) (sh : Nat) : Prop := (∀ s : Nat, s < 5 → h (t + 1) (s : Int) = w s) ∧ h t 1 = tot w 5 ∧ h t 3 = (opn w 4 : Int) ∧ h t 2 = (sh : Int)
def WOk (w : Nat → Int) : Prop := ∀ s : Nat, s < 5 → 0 ≤ w s ∧ w s ≤ 1000
theorem StIs.congr {h h' : mH} {t : Nat} {w : Nat → Int} {sh : Nat} (H : StIs h t w sh) (e1 : h' t = h t) (e2 : h' (t + 1) = h (t + 1)) : StIs h' t w sh := by
  unfold StIs; rw [e1, e2]; exact H
theorem stg_is {h : mH} {t : Nat} {w : Nat → Int} {sh : Nat} (h2 : h t 2 = (sh : Int)) : StIs (stgH h t w) t w sh := by
  refine ⟨fun s hs => ?_, ?_, ?_, ?_⟩
  · unfold stgH; rw [if_pos ⟨rfl, by omega, by omega⟩, Int.toNat_natCast]
  · unfold stgH; rw [if_neg (by omega), if_neg (by omega), if_pos ⟨rfl, rfl⟩]
  · unfold stgH; rw [if_neg (by omega), if_pos ⟨rfl, rfl⟩]
  · unfold stgH; rw [if_neg (by omega), if_neg (by omega), if_neg (by omega)]; exact h2
theorem stg_ne {h : mH} {t : Nat} {w : Nat → Int} {i : Nat} (h1 : i ≠ t) (h2 : i ≠ t + 1) : stgH h t w i = h i := by
  funext b; unfold stgH; rw [if_neg (by omega), if_neg (by omega), if_neg (by omega)]
theorem st_showsP {x : mX} {h : mH} {Q : mH → Prop} {t c sh : Nat} {pl : Int} {cs : Int → Int} (ht : isStg t) (hc : isCtx c) (htc : t + 2 ≤ c ∨ c + 2 ≤ t) (hcs : h (c + 1) = cs) (h2 : h t 2 = (sh : Int)) (hsh : sh < 16) (hpl : -1 ≤ pl) (hpl2 : pl ≤ 84) (hbd : ∀ k, 0 ≤ k → k < 340 → 0 ≤ cs k ∧ cs k ≤ 1000) (hQ : ∀ h', StIs h' t (wE cs pl sh) sh → (∀ i, i ≠ t → i ≠ t + 1 → h' i = h i) → Q h') : CtV x mtX7_shows [xR t, xR c, xI pl] h Q := by
  refine st_shows ht hc htc h2 hsh hpl hpl2 (fun s hs => ?_) ?_
  · rw [hcs]
    by_cases e : pl = -1
    · exact Or.inl e
    · exact Or.inr (hbd _ (by omega) (by omega))
  · rw [hcs]
    exact hQ _ (stg_is h2) (fun i a b => stg_ne a b)
theorem wE_ok {cs : Int → Int} {pl : Int} {sh : Nat} (hpl : -1 ≤ pl) (hpl2 : pl ≤ 84) (hbd : ∀ k, 0 ≤ k → k < 340 → 0 ≤ cs k ∧ cs k ≤ 1000) : WOk (wE cs pl sh) := by
  intro s hs
  by_cases e : s = 4
  · subst e
    rw [wE_4]
    have := esc_bd pl sh (opn (wS cs pl sh) 4)
    omega
  · rw [wE_lt (by omega)]
    refine wS_bd (by decide) ?_
    by_cases e : pl = -1
    · exact Or.inl e
    · exact Or.inr (hbd _ (by omega) (by omega))
theorem st_beginOfP {x : mX} {h : mH} {Q : Int → mH → Prop} {t k sh : Nat} {w : Nat → Int} (ht : isStg t) (hk : k ≤ 5) (H : StIs h t w sh) (hw : WOk w) (hQ : Q (tot w k) h) : CtI x mtX7_beginOf [xR t, xI k] h Q := by
  refine st_beginOf ht hk (fun s hs => ?_) ?_
  · rw [H.1 s hs]; exact hw s hs
  · rw [tot_congr (w' := w) (fun s hs => H.1 s (by omega))]; exact hQ
theorem st_widthP {x : mX} {h : mH} {Q : Int → mH → Prop} {t k sh : Nat} {w : Nat → Int} (ht : isStg t) (hk : k < 5) (H : StIs h t w sh) (hQ : Q (w k) h) : CtI x mtX7_width [xR t, xI k] h Q :=
  st_width ht (by omega) (by omega) (by rw [H.1 k hk]; exact hQ)
def isPk (b : Nat) : Prop := kd b = 3 ∧ isPast (b + 1) ∧ isCtx (b + 4) ∧ isRg (b + 6) ∧ isStg (b + 9)
/-- what descends leaves as it was -/
def FrD (T : Nat → Prop) (b : Nat) (h h' : mH) : Prop := (∀ i, ¬ T i → i ≠ b → i ≠ b + 9 → i ≠ b + 9 + 1 → h' i = h i) ∧ ∀ z, z ≠ 6 → h' b z = h b z
theorem FrD.rf {T : Nat → Prop} {b : Nat} {h : mH} : FrD T b h h := ⟨fun _ _ _ _ _ => rfl, fun _ _ => rfl⟩
theorem FrD.tr {T : Nat → Prop} {b : Nat} {h h1 h2 : mH} (a : FrD T b h h1) (c : FrD T b h1 h2) : FrD T b h h2 := ⟨fun i q1 q2 q3 q4 => (c.1 i q1 q2 q3 q4).trans (a.1 i q1 q2 q3 q4), fun z q => (c.2 z q).trans (a.2 z q)⟩
/-- a packer's text: order, how many signs are packed, the signs -/
def PkT (h : mH) (b : Nat) (o n : Int) (sg cs : Int → Int) : Prop := h (b + 1) 0 = o ∧ h b 4 = n ∧ h (b + 1 + 2) = sg ∧ h (b + 4 + 1) = cs ∧ 0 ≤ o ∧ o ≤ 3 ∧ 0 ≤ n ∧ n ≤ h (b + 1 + 1) 1 ∧ h (b + 1 + 1) 1 ≤ 60 ∧ (∀ k : Int, 0 ≤ k → k < n → 0 ≤ sg k ∧ sg k ≤ 3) ∧ ∀ k, 0 ≤ k → k < 340 → 0 ≤ cs k ∧ cs k ≤ 1000

set_option maxHeartbeats 4000000 in
set_option maxRecDepth 100000 in
theorem pk_longest {x : mX} {h : mH} {Q : Int → mH → Prop} {b : Nat} {o n : Int} (hb : isPk b) (e1 : h (b + 1) 0 = o) (e2 : h b 4 = n) (hQ : Q (if n < o then n else o) h) : CtI x mtX3_longest [xR b] h Q := by
  refine ct_go (ls := [xR b]) (by decide +kernel) (Nat.le_of_ble_eq_true rfl) rfl ?_
  refine go_aload_n dX3_longest_0 rfl ?_
  refine gfX3_past hb.1 flX3_12 dX3_longest_1 ?_
  refine gfX4_order hb.2.1.1 flX3_49 dX3_longest_4 ?_
  rw [e1]
  refine go_aload_n dX3_longest_7 rfl ?_
  refine gfX3_packed hb.1 flX3_39 dX3_longest_8 ?_
  rw [e2]
  refine go_min mmX3_145 dX3_longest_11 (by decide) (Nat.le_of_ble_eq_true rfl) ?_
  refine go_ireturn dX3_longest_14 rfl ?_
  exact hQ

set_option maxHeartbeats 4000000 in
set_option maxRecDepth 100000 in
theorem pk_descends_loop {x : mX} {σ : Type} {TS : mH → σ → Prop} {T : Nat → Prop} {ch : σ → (Nat → Int) → Nat} {tk : σ → Int → Int → Int → σ} {P : σ → (Nat → Int) → Prop} {Q : Int → mH → Prop} {b k ck : Nat} {N1 N2 : mM} {y1 y2 : MethodName} {q : vw_C} {o n : Int} {sg cs : Int → Int} {h0 : mH}
    (hb : isPk b) (hk : kd k = ck) (hck : ck < 10) (hcl : vwCl[ck]? = some q) (hq1 : q.1 = N1.1.cls) (hq2 : q.1 = N2.1.cls) (hl1 : mUl RX3 120 y1 N1 1) (hl2 : mUl RX3 132 y2 N2 3) (hh1 : N1.2.2.2.2 < 3) (hh2 : N2.2.2.2.2 < 3)
    (hT : ∀ i, T i → i < b ∨ b + 10 < i ∨ (b + 6 ≤ i ∧ i ≤ b + 8)) (hTS : ∀ (h h' : mH) (c : σ), (∀ i, T i → h' i = h i) → TS h c → TS h' c) (hch4 : ∀ (c : σ) (w : Nat → Int), ch c w ≤ 4)
    (hch : ∀ (h : mH) (c : σ) (w : Nat → Int) (sh : Nat) (Q : Int → mH → Prop), TS h c → StIs h (b + 9) w sh → WOk w → P c w → Q ((ch c w : Nat) : Int) h → CtI x N1 [xR k, xR (b + 9)] h Q)
    (htk : ∀ (h : mH) (c : σ) (w : Nat → Int) (Q : mH → Prop), TS h c → WOk w → P c w → (∀ h', TS h' (tk c (tot w (ch c w)) (w (ch c w)) (tot w 5)) → (∀ i, ¬ T i → h' i = h i) → Q h') → CtV x N2 [xR k, xI (tot w (ch c w)), xI (w (ch c w)), xI (tot w 5)] h Q)
    (hPk : PkT h0 b o n sg cs) : ∀ (N : Nat) (h : mH) (sh : Nat) (c : σ), (N : Int) ≤ o + 1 → (N : Int) ≤ n + 1 → FrD T b h0 h → h (b + 9) 2 = (sh : Int) → sh < 16 → TS h c → dOk ch tk P cs (fun j => cxp sg (n - (j : Int)) j) N sh c →
      (∀ h', TS h' (dsc ch tk cs (fun j => cxp sg (n - (j : Int)) j) N sh c).2.2 → FrD T b h0 h' → h' b 6 = ((dsc ch tk cs (fun j => cxp sg (n - (j : Int)) j) N sh c).2.1 : Int) → Q (dsc ch tk cs (fun j => cxp sg (n - (j : Int)) j) N sh c).1 h') → Go x mtX3_descends 12 [xR b, xR k, xI ((N : Int) - 1)] [] h (qI Q)
  | 0, h, sh, c, hNo, hNn, F, esh, hsh, TT, hP, hQ => by
    obtain ⟨p1, p2, p3, p4, p5, p6, p7, p8, p9, hsg, hbd⟩ := hPk
    have nT : ∀ i, b ≤ i → i ≤ b + 5 → ¬ T i := fun i a c w => by have := hT i w; omega
    have ecs : h (b + 4 + 1) = cs := by rw [F.1 _ (nT _ (by omega) (by omega)) (by omega) (by omega) (by omega)]; exact p4
    dsimp only [dOk] at hP
    dsimp only [dsc] at hQ
    refine go_iload_n dX3_descends_12 rfl ?_
    refine go_if_lt_t (tgt := 117) dX3_descends_13 (by decide) (by omega) ?_
    refine go_aload_n dX3_descends_117 rfl ?_
    refine gfX3_stage hb.1 flX3_35 dX3_descends_118 ?_
    refine go_aload_n dX3_descends_121 rfl ?_
    refine gfX3_contexts hb.1 flX3_21 dX3_descends_122 ?_
    refine go_iconst dX3_descends_125 ⟨by decide, by decide⟩ ?_
    refine go_cV2V hb.2.2.2.2.1 vlX3_113 dX3_descends_126 (by decide) rfl rfl (by decide) (Nat.le_of_ble_eq_true rfl) (st_showsP hb.2.2.2.2 hb.2.2.1 (by omega) ecs esh hsh (by decide) (by decide) hbd ?_)
    intro h1 S1 F1
    have T1 : TS h1 c := hTS _ _ c (fun i q => F1 i (by have := hT i q; omega) (by have := hT i q; omega)) TT
    have hW := wE_ok (cs := cs) (pl := -1) (sh := sh) (by decide) (by decide) hbd
    generalize hWe : wE cs (-1) sh = W at S1 hP hW hQ
    refine go_aload_n dX3_descends_129 rfl ?_
    refine go_aload_n dX3_descends_130 rfl ?_
    refine go_aload_n dX3_descends_131 rfl ?_
    refine gfX3_stage hb.1 flX3_35 dX3_descends_132 ?_
    refine go_cU1I hk hl1 dX3_descends_135 hck hcl hq1 hh1 (Nat.le_of_ble_eq_true rfl) (hch _ c W sh _ T1 S1 hW hP ?_)
    refine pfX3_chosen hb.1 flX3_46 dX3_descends_138 ?_
    have S2 : StIs (hset h1 b 6 ((ch c W : Nat) : Int)) (b + 9) W sh := S1.congr (hset_ni (by omega)) (hset_ni (by omega))
    have T2 : TS (hset h1 b 6 ((ch c W : Nat) : Int)) c := hTS _ _ c (fun i q => hset_ni (by have := hT i q; omega)) T1
    refine go_aload_n dX3_descends_141 rfl ?_
    refine go_aload_n dX3_descends_142 rfl ?_
    refine gfX3_stage hb.1 flX3_35 dX3_descends_143 ?_
    refine go_aload_n dX3_descends_146 rfl ?_
    refine gfX3_chosen hb.1 flX3_46 dX3_descends_147 ?_
    rw [hset_eq]
    refine go_cV1I hb.2.2.2.2.1 vlX3_126 dX3_descends_150 (by decide) rfl rfl (by decide) (Nat.le_of_ble_eq_true rfl) (st_beginOfP hb.2.2.2.2 (by have := hch4 c W; omega) S2 hW ?_)
    refine go_aload_n dX3_descends_153 rfl ?_
    refine gfX3_stage hb.1 flX3_35 dX3_descends_154 ?_
    refine go_aload_n dX3_descends_157 rfl ?_
    refine gfX3_chosen hb.1 flX3_46 dX3_descends_158 ?_
    rw [hset_eq]
    refine go_cV1I hb.2.2.2.2.1 vlX3_129 dX3_descends_161 (by decide) rfl rfl (by decide) (Nat.le_of_ble_eq_true rfl) (st_widthP hb.2.2.2.2 (by have := hch4 c W; omega) S2 ?_)
    refine go_aload_n dX3_descends_164 rfl ?_
    refine gfX3_stage hb.1 flX3_35 dX3_descends_165 ?_
    refine gfX7_total hb.2.2.2.2.1 flX3_117 dX3_descends_168 ?_
    rw [S2.2.1]
    refine go_cU3V hk hl2 dX3_descends_171 hck hcl hq2 hh2 (Nat.le_of_ble_eq_true rfl) (htk _ c W _ T2 hW hP ?_)
    intro h3 T3 F3
    refine go_iconst dX3_descends_174 ⟨by decide, by decide⟩ ?_
    refine go_ireturn dX3_descends_175 rfl ?_
    have FF : FrD T b h0 h3 := FrD.tr F ⟨fun i q1 q2 q3 q4 => by rw [F3 i q1, hset_ni q2, F1 i q3 q4], fun z q => by rw [F3 b (fun w => by have := hT b w; omega), hset_nk q, F1 b (by omega) (by omega)]⟩
    have C3 : h3 b 6 = ((ch c W : Nat) : Int) := by rw [F3 b (fun w => by have := hT b w; omega), hset_eq]
    exact hQ h3 T3 FF C3
  | N + 1, h, sh, c, hNo, hNn, F, esh, hsh, TT, hP, hQ => by
    have ih := pk_descends_loop (x := x) (TS := TS) (T := T) (ch := ch) (tk := tk) (P := P) (Q := Q) (h0 := h0) hb hk hck hcl hq1 hq2 hl1 hl2 hh1 hh2 hT hTS hch4 hch htk hPk N
    obtain ⟨p1, p2, p3, p4, p5, p6, p7, p8, p9, hsg, hbd⟩ := hPk
    have nT : ∀ i, b ≤ i → i ≤ b + 5 → ¬ T i := fun i a c w => by have := hT i w; omega
    have ecs : h (b + 4 + 1) = cs := by rw [F.1 _ (nT _ (by omega) (by omega)) (by omega) (by omega) (by omega)]; exact p4
    have esg : h (b + 1 + 2) = sg := by rw [F.1 _ (nT _ (by omega) (by omega)) (by omega) (by omega) (by omega)]; exact p3
    have esz : h (b + 1 + 1) 1 = h0 (b + 1 + 1) 1 := by rw [F.1 _ (nT _ (by omega) (by omega)) (by omega) (by omega) (by omega)]
    have e4 : h b 4 = n := by rw [F.2 4 (by decide)]; exact p2
    have hcx := cxp_bd (sg := sg) (a := n - (N : Int)) (n := N) (by omega) (fun k q1 q2 => hsg k (by omega) (by omega))
    rw [show (((N + 1 : Nat) : Int) - 1) = (N : Int) by omega]
    refine go_iload_n dX3_descends_12 rfl ?_
    refine go_if_lt_f (tgt := 117) dX3_descends_13 (by decide) (by omega) ?_
    refine go_aload_n dX3_descends_16 rfl ?_
    refine gfX3_stage hb.1 flX3_35 dX3_descends_17 ?_
    refine go_aload_n dX3_descends_20 rfl ?_
    refine gfX3_contexts hb.1 flX3_21 dX3_descends_21 ?_
    refine go_aload_n dX3_descends_24 rfl ?_
    refine gfX3_past hb.1 flX3_12 dX3_descends_25 ?_
    refine go_aload_n dX3_descends_28 rfl ?_
    refine gfX3_packed hb.1 flX3_39 dX3_descends_29 ?_
    rw [e4]
    refine go_iload_n dX3_descends_32 rfl ?_
    refine go_cV2I hb.2.1.1 vlX3_109 dX3_descends_33 (by decide) rfl rfl (by decide) (Nat.le_of_ble_eq_true rfl) (past_ctx (a := n - (N : Int)) (n := N) hb.2.1 (by omega) (by omega) (by omega) (by rw [esz]; omega) (by rw [esz]; omega) (fun k q1 q2 => by rw [esg]; exact hsg k (by omega) (by omega)) ?_)
    rw [esg]
    refine go_cV2V hb.2.2.2.2.1 vlX3_113 dX3_descends_36 (by decide) rfl rfl (by decide) (Nat.le_of_ble_eq_true rfl) (st_showsP hb.2.2.2.2 hb.2.2.1 (by omega) ecs esh hsh (by omega) (by omega) hbd ?_)
    intro h1 S1 F1
    have T1 : TS h1 c := hTS _ _ c (fun i q => F1 i (by have := hT i q; omega) (by have := hT i q; omega)) TT
    have hW := wE_ok (cs := cs) (pl := cxp sg (n - (N : Int)) N) (sh := sh) (by omega) (by omega) hbd
    have eD : dsc ch tk cs (fun j => cxp sg (n - (j : Int)) j) (N + 1) sh c = _ := rfl
    refine go_aload_n dX3_descends_39 rfl ?_
    refine gfX3_stage hb.1 flX3_35 dX3_descends_40 ?_
    refine gfX7_total hb.2.2.2.2.1 flX3_117 dX3_descends_43 ?_
    rw [S1.2.1]
    refine go_if_le (tgt := 111) dX3_descends_46 (by decide) (fun c46 => ?_) (fun c46 => ?_)
    · rw [dsc, if_pos c46] at hQ
      rw [dOk, if_pos c46] at hP
      refine go_iinc dX3_descends_111 rfl rfl rfl (by omega) (by omega) (by dsimp only [List.set]) ?_
      refine go_goto (tgt := 12) dX3_descends_114 (by decide) ?_
      exact ih h1 sh c (by omega) (by omega) (F.tr ⟨fun i q1 q2 q3 q4 => F1 i q3 q4, fun z q => by rw [F1 b (by omega) (by omega)]⟩) S1.2.2.2 hsh T1 hP hQ
    · rw [dsc, if_neg (by omega)] at hQ
      rw [dOk, if_neg (by omega)] at hP
      obtain ⟨hP, hPn⟩ := hP
      generalize hWe : wE cs (cxp sg (n - (N : Int)) N) sh = W at S1 hP hPn hW hQ c46
      refine go_aload_n dX3_descends_49 rfl ?_
      refine go_aload_n dX3_descends_50 rfl ?_
      refine go_aload_n dX3_descends_51 rfl ?_
      refine gfX3_stage hb.1 flX3_35 dX3_descends_52 ?_
      refine go_cU1I hk hl1 dX3_descends_55 hck hcl hq1 hh1 (Nat.le_of_ble_eq_true rfl) (hch _ c W sh _ T1 S1 hW hP ?_)
      refine pfX3_chosen hb.1 flX3_46 dX3_descends_58 ?_
      have S2 : StIs (hset h1 b 6 ((ch c W : Nat) : Int)) (b + 9) W sh := S1.congr (hset_ni (by omega)) (hset_ni (by omega))
      have T2 : TS (hset h1 b 6 ((ch c W : Nat) : Int)) c := hTS _ _ c (fun i q => hset_ni (by have := hT i q; omega)) T1
      refine go_aload_n dX3_descends_61 rfl ?_
      refine go_aload_n dX3_descends_62 rfl ?_
      refine gfX3_stage hb.1 flX3_35 dX3_descends_63 ?_
      refine go_aload_n dX3_descends_66 rfl ?_
      refine gfX3_chosen hb.1 flX3_46 dX3_descends_67 ?_
      rw [hset_eq]
      refine go_cV1I hb.2.2.2.2.1 vlX3_126 dX3_descends_70 (by decide) rfl rfl (by decide) (Nat.le_of_ble_eq_true rfl) (st_beginOfP hb.2.2.2.2 (by have := hch4 c W; omega) S2 hW ?_)
      refine go_aload_n dX3_descends_73 rfl ?_
      refine gfX3_stage hb.1 flX3_35 dX3_descends_74 ?_
      refine go_aload_n dX3_descends_77 rfl ?_
      refine gfX3_chosen hb.1 flX3_46 dX3_descends_78 ?_
      rw [hset_eq]
      refine go_cV1I hb.2.2.2.2.1 vlX3_129 dX3_descends_81 (by decide) rfl rfl (by decide) (Nat.le_of_ble_eq_true rfl) (st_widthP hb.2.2.2.2 (by have := hch4 c W; omega) S2 ?_)
      refine go_aload_n dX3_descends_84 rfl ?_
      refine gfX3_stage hb.1 flX3_35 dX3_descends_85 ?_
      refine gfX7_total hb.2.2.2.2.1 flX3_117 dX3_descends_88 ?_
      rw [S2.2.1]
      refine go_cU3V hk hl2 dX3_descends_91 hck hcl hq2 hh2 (Nat.le_of_ble_eq_true rfl) (htk _ c W _ T2 hW hP ?_)
      intro h3 T3 F3
      have FF : FrD T b h0 h3 := FrD.tr F ⟨fun i q1 q2 q3 q4 => by rw [F3 i q1, hset_ni q2, F1 i q3 q4], fun z q => by rw [F3 b (fun w => by have := hT b w; omega), hset_nk q, F1 b (by omega) (by omega)]⟩
      have C3 : h3 b 6 = ((ch c W : Nat) : Int) := by rw [F3 b (fun w => by have := hT b w; omega), hset_eq]
      refine go_aload_n dX3_descends_94 rfl ?_
      refine gfX3_chosen hb.1 flX3_46 dX3_descends_95 ?_
      rw [C3]
      refine go_iconst dX3_descends_98 ⟨by decide, by decide⟩ ?_
      refine go_icmp_eq (tgt := 104) dX3_descends_99 (by decide) (fun c99 => ?_) (fun c99 => ?_)
      · refine go_aload_n dX3_descends_104 rfl ?_
        refine gfX3_stage hb.1 flX3_35 dX3_descends_105 ?_
        have S3 : StIs h3 (b + 9) W sh := S2.congr (F3 _ (fun w => by have := hT _ w; omega)) (F3 _ (fun w => by have := hT _ w; omega))
        refine go_cV0V hb.2.2.2.2.1 vlX3_136 dX3_descends_108 (by decide) rfl rfl (by decide) (Nat.le_of_ble_eq_true rfl) (st_shutsOpen hb.2.2.2.2 (sh := sh) (op := opn W 4) S3.2.2.2 S3.2.2.1 hsh (opn_lt W 4) ?_)
        refine go_iinc dX3_descends_111 rfl rfl rfl (by omega) (by omega) (by dsimp only [List.set]) ?_
        refine go_goto (tgt := 12) dX3_descends_114 (by decide) ?_
        rw [if_pos (by omega)] at hQ
        refine ih _ (sh ||| opn W 4) _ (by omega) (by omega) (FF.tr ⟨fun i q1 q2 q3 q4 => by rw [hset_ni q3], fun z q => by rw [hset_ni (by omega)]⟩) (hset_eq _ _ _ _) (orm_bd sh hsh _ (opn_lt W 4)) (hTS _ _ _ (fun i q => hset_ni (by have := hT i q; omega)) T3) (hPn (by omega)) hQ
      · refine go_iload_n dX3_descends_102 rfl ?_
        refine go_ireturn dX3_descends_103 rfl ?_
        rw [if_neg (by omega)] at hQ
        exact hQ h3 T3 FF C3
end
section
/-! ===== counts learnt: pure ===== -/
/-- counts below the limit, none outside the 340 -/
def CsOk (cs : Int → Int) (l : Int) : Prop := (∀ k, 0 ≤ cs k ∧ cs k < l) ∧ ∀ k, k < 0 ∨ 340 ≤ k → cs k = 0
theorem csOk_bd {cs : Int → Int} {l : Int} (h : CsOk cs l) (hl : l ≤ 15) : ∀ k, 0 ≤ k → k < 340 → 0 ≤ cs k ∧ cs k ≤ 1000 := fun k _ _ => by have := h.1 k; omega
theorem csOk_zero {l : Int} (hl : 2 ≤ l) : CsOk (fun _ => 0) l := ⟨fun _ => ⟨Int.le_refl 0, by show (0 : Int) < l; omega⟩, fun _ _ => rfl⟩
theorem csOk_rai {cs : Int → Int} {p s l : Int} (h : CsOk cs l) (hl : 2 ≤ l) (hp : 0 ≤ p) (hp2 : p ≤ 84) (hs : 0 ≤ s) (hs2 : s ≤ 3) : CsOk (rai cs p s l) l := by
  refine ⟨fun k => ?_, fun k hk => ?_⟩
  · have h1 := h.1 k
    unfold rai
    by_cases e : cs (4 * p + s) + 1 = l
    · rw [if_pos e]
      by_cases e2 : 4 * p ≤ k ∧ k < 4 * p + 4
      · rw [if_pos e2]
        by_cases e3 : k = 4 * p + s
        · rw [if_pos e3]; omega
        · rw [if_neg e3]; omega
      · rw [if_neg e2]; exact h1
    · rw [if_neg e]
      by_cases e3 : k = 4 * p + s
      · rw [if_pos e3]; rw [← e3] at e; omega
      · rw [if_neg e3]; exact h1
  · have h2 := h.2 k hk
    unfold rai
    by_cases e : cs (4 * p + s) + 1 = l
    · rw [if_pos e, if_neg (by omega)]; exact h2
    · rw [if_neg e, if_neg (by omega)]; exact h2
/-- how many contexts are there, of the first n -/
def thC (cs : Int → Int) : Nat → Int
  | 0 => 0
  | n + 1 => thC cs n + (1 - thN cs n)
theorem thN_bd (cs : Int → Int) (p : Int) : 0 ≤ thN cs p ∧ thN cs p ≤ 1 := by
  unfold thN; split <;> omega
theorem thC_bd (cs : Int → Int) : ∀ n, 0 ≤ thC cs n ∧ thC cs n ≤ n
  | 0 => by simp [thC]
  | n + 1 => by
    have h1 := thC_bd cs n
    have h2 := thN_bd cs n
    rw [thC]; omega
theorem thN_other {cs : Int → Int} {p s l q : Int} (hs : 0 ≤ s) (hs2 : s ≤ 3) (hq : q ≠ p) : thN (rai cs p s l) q = thN cs q := by
  have e : ∀ k, ¬ (4 * p ≤ k ∧ k < 4 * p + 4) → rai cs p s l k = cs k := by
    intro k hk
    unfold rai
    by_cases e : cs (4 * p + s) + 1 = l
    · rw [if_pos e, if_neg hk]
    · rw [if_neg e, if_neg (by omega)]
  unfold thN
  rw [e (4 * q) (by omega), e (4 * q + 1) (by omega), e (4 * q + 2) (by omega), e (4 * q + 3) (by omega)]
theorem thN_self {cs : Int → Int} {p s l : Int} (h : CsOk cs l) (hl : 2 ≤ l) (hs : 0 ≤ s) (hs2 : s ≤ 3) : thN (rai cs p s l) p = 0 := by
  have e : 0 < rai cs p s l (4 * p + s) := by
    have h1 := h.1 (4 * p + s)
    unfold rai
    by_cases e : cs (4 * p + s) + 1 = l
    · rw [if_pos e, if_pos (by omega), if_pos rfl]; omega
    · rw [if_neg e, if_pos rfl]; omega
  unfold thN
  rw [if_neg]
  rintro ⟨a0, a1, a2, a3⟩
  rcases (show s = 0 ∨ s = 1 ∨ s = 2 ∨ s = 3 by omega) with rfl | rfl | rfl | rfl
  · rw [Int.add_zero] at e; omega
  · omega
  · omega
  · omega
theorem thC_low {cs : Int → Int} {p s l : Int} (hs : 0 ≤ s) (hs2 : s ≤ 3) : ∀ n : Nat, (n : Int) ≤ p → thC (rai cs p s l) n = thC cs n
  | 0, _ => rfl
  | n + 1, h => by rw [thC, thC, thC_low hs hs2 n (by omega), thN_other hs hs2 (by omega)]
theorem thC_rai {cs : Int → Int} {p s l : Int} (h : CsOk cs l) (hl : 2 ≤ l) (hp : 0 ≤ p) (hs : 0 ≤ s) (hs2 : s ≤ 3) : ∀ n : Nat, p < n → thC (rai cs p s l) n = thC cs n + thN cs p
  | 0, hn => by omega
  | n + 1, hn => by
    rw [thC, thC]
    by_cases e : (n : Int) = p
    · rw [thC_low hs hs2 n (by omega), e, thN_self h hl hs hs2]; omega
    · rw [thC_rai h hl hp hs hs2 n (by omega), thN_other hs hs2 e]; omega
/-- a sign raised in the contexts of lengths lo, lo+1, .. -/
def lrn (ctx : Nat → Int) (s l : Int) (lo : Nat) : Nat → (Int → Int) → Int → Int
  | 0, cs => cs
  | m + 1, cs => rai (lrn ctx s l lo m cs) (ctx (lo + m)) s l
def lng (o n : Int) : Nat := (if n < o then n else o).toNat
/-- what is learnt again: the signs from a on, m of them -/
def frg (sg : Int → Int) (o l a : Int) : Nat → (Int → Int) → Int → Int
  | 0, cs => cs
  | m + 1, cs => lrn (fun j => cxp sg (a + m - j) j) (sg (a + m)) l 0 (lng o m + 1) (frg sg o l a m cs)
theorem csOk_lrn {ctx : Nat → Int} {s l : Int} {lo : Nat} {cs : Int → Int} (h : CsOk cs l) (hl : 2 ≤ l) (hs : 0 ≤ s) (hs2 : s ≤ 3) : ∀ m : Nat, (∀ j, lo ≤ j → j < lo + m → 0 ≤ ctx j ∧ ctx j ≤ 84) → CsOk (lrn ctx s l lo m cs) l
  | 0, _ => h
  | m + 1, hc => csOk_rai (csOk_lrn h hl hs hs2 m (fun j a b => hc j a (by omega))) hl (hc (lo + m) (by omega) (by omega)).1 (hc (lo + m) (by omega) (by omega)).2 hs hs2
theorem lng_le {o n : Int} (ho : 0 ≤ o) (hn : 0 ≤ n) : (lng o n : Int) ≤ o ∧ (lng o n : Int) ≤ n := by
  unfold lng
  split <;> omega
theorem csOk_frg {sg : Int → Int} {o l a : Int} {cs : Int → Int} (h : CsOk cs l) (hl : 2 ≤ l) (ho : 0 ≤ o) (ho2 : o ≤ 3) : ∀ m : Nat, (∀ k : Int, a ≤ k → k < a + m → 0 ≤ sg k ∧ sg k ≤ 3) → CsOk (frg sg o l a m cs) l
  | 0, _ => h
  | m + 1, hs => by
    have ih := csOk_frg h hl ho ho2 m (fun k q1 q2 => hs k q1 (by omega))
    have h1 := hs (a + m) (by omega) (by omega)
    refine csOk_lrn ih hl h1.1 h1.2 _ (fun j _ hj => ?_)
    have h2 := lng_le (o := o) (n := m) ho (by omega)
    exact cxp_bd (by omega) (fun k q1 q2 => hs k (by omega) (by omega))
theorem lrn_congr {ctx ctx' : Nat → Int} {s l : Int} {lo : Nat} {cs : Int → Int} : ∀ m : Nat, (∀ j, lo ≤ j → j < lo + m → ctx j = ctx' j) → lrn ctx s l lo m cs = lrn ctx' s l lo m cs
  | 0, _ => rfl
  | m + 1, h => by rw [lrn, lrn, lrn_congr m (fun j a b => h j a (by omega)), h (lo + m) (by omega) (by omega)]
theorem frg_congr {sg sg' : Int → Int} {o l a : Int} {cs : Int → Int} (ho : 0 ≤ o) : ∀ m : Nat, (∀ k : Int, a ≤ k → k < a + m → sg k = sg' k) → frg sg o l a m cs = frg sg' o l a m cs
  | 0, _ => rfl
  | m + 1, h => by
    have h2 := lng_le (o := o) (n := m) ho (by omega)
    rw [frg, frg, frg_congr ho m (fun k q1 q2 => h k q1 (by omega)), h (a + m) (by omega) (by omega)]
    exact lrn_congr _ (fun j _ hj => cxp_congr (fun k q1 q2 => h k (by omega) (by omega)))
/-! the Contexts' own words -/
def CtxS (h : mH) (c : Nat) (cs : Int → Int) : Prop := h (c + 1) = cs ∧ h c 1 = thC cs 85
theorem ctx_raisesP {x : mX} {h : mH} {Q : mH → Prop} {c : Nat} {p s l : Int} {cs : Int → Int} (hc : isCtx c) (H : CtxS h c cs) (ho : CsOk cs l) (hl : 2 ≤ l) (hl2 : l ≤ 15) (hp : 0 ≤ p) (hp2 : p ≤ 84) (hs : 0 ≤ s) (hs2 : s ≤ 3) (hQ : ∀ h', CtxS h' c (rai cs p s l) → (∀ i, i ≠ c → i ≠ c + 1 → h' i = h i) → Q h') : CtV x mtX0_raises [xR c, xI p, xI s, xI l] h Q := by
  obtain ⟨e1, e2⟩ := H
  have hb := thC_bd cs 85
  refine ctx_raises hc hp hp2 hs hs2 (by rw [e1]; exact csOk_bd ho hl2) (by omega) (by omega) (hQ _ ⟨?_, ?_⟩ (fun i a b => ?_))
  · funext k; unfold raiH; rw [if_pos rfl, e1]
  · unfold raiH; rw [if_neg (by omega), if_pos ⟨rfl, rfl⟩, e1, e2, thC_rai ho hl hp hs hs2 85 (by omega)]
  · funext k; unfold raiH; rw [if_neg b, if_neg (by omega)]
theorem thC_zero : ∀ n, thC (fun _ => 0) n = 0
  | 0 => rfl
  | n + 1 => by rw [thC, thC_zero n]; unfold thN; simp
theorem ctx_emptiesP {x : mX} {h : mH} {Q : mH → Prop} {c : Nat} {cs : Int → Int} (hc : isCtx c) (H : h (c + 1) = cs) (h0 : ∀ k, k < 0 ∨ 340 ≤ k → cs k = 0) (hQ : ∀ h', CtxS h' c (fun _ => 0) → (∀ i, i ≠ c → i ≠ c + 1 → h' i = h i) → Q h') : CtV x mtX0_empties [xR c] h Q := by
  refine ctx_empties hc (hQ _ ⟨?_, ?_⟩ (fun i a b => ?_))
  · funext k
    rw [hset_ni (by omega)]
    unfold empH
    by_cases e : 0 ≤ k ∧ k < 340
    · rw [if_pos ⟨rfl, e⟩]
    · rw [if_neg (fun q => e q.2), H]; exact h0 k (by omega)
  · rw [hset_eq, thC_zero]
  · funext k
    rw [hset_ni a]
    unfold empH
    rw [if_neg (by omega)]
end
section
/-! ===== Packer: forgets, learns ===== -/
/-- order, limit, room, tail as they may be -/
def PrOk (o l r t : Int) : Prop := 0 ≤ o ∧ o ≤ 3 ∧ 2 ≤ l ∧ l ≤ 15 ∧ 4 ≤ r ∧ r ≤ 60 ∧ 0 ≤ t ∧ t ≤ 9
/-- the parameters of a past -/
def PaS (h : mH) (p : Nat) (o l r t : Int) : Prop := h p 0 = o ∧ h p 1 = l ∧ h p 2 = r ∧ h p 3 = t

set_option maxHeartbeats 4000000 in
set_option maxRecDepth 100000 in
theorem pk_forgets {x : mX} {h : mH} {Q : mH → Prop} {b M : Nat} {o l r t n a : Int} {sg cs : Int → Int} (hb : isPk b) (hPr : PrOk o l r t) (hPa : PaS h (b + 1) o l r t) (e4 : h b 4 = n) (esg : h (b + 1 + 2) = sg) (ecs : h (b + 4 + 1) = cs) (hz : ∀ k, k < 0 ∨ 340 ≤ k → cs k = 0) (h50 : 0 ≤ h b 5) (h51 : h b 5 ≤ 1000) (hn0 : 0 ≤ n) (hns : n ≤ h (b + 1 + 1) 1) (hs60 : h (b + 1 + 1) 1 ≤ 60) (hsg : ∀ k : Int, 0 ≤ k → k < n → 0 ≤ sg k ∧ sg k ≤ 3) (hae : (if n - t < 0 then 0 else n - t) = a) (hM : a + M = n)
    (hQ : ∀ h', CtxS h' (b + 4) (frg sg o l a M (fun _ => 0)) → (∀ i, i ≠ b → i ≠ b + 4 → i ≠ b + 4 + 1 → h' i = h i) → (∀ z, z ≠ 5 → h' b z = h b z) → h' b 5 = h b 5 + 1 → Q h') : CtV x mtX3_forgets [xR b] h Q := by
  obtain ⟨e0, e1, e2, e3⟩ := hPa
  have ha0 : 0 ≤ a := by rw [← hae]; split <;> omega
  have hpp := hPr
  obtain ⟨w1, w2, w3, w4, w5, w6, w7, w8⟩ := hpp
  refine ct_go (ls := [xR b, xU, xU, xU, xU]) (by decide +kernel) (Nat.le_of_ble_eq_true rfl) rfl ?_
  refine go_aload_n dX3_forgets_0 rfl ?_
  first | refine go_dupR dX3_forgets_1 ?_ | refine go_dupI dX3_forgets_1 ?_
  refine gfX3_forgotten hb.1 flX3_43 dX3_forgets_2 ?_
  refine go_iconst dX3_forgets_5 ⟨by decide, by decide⟩ ?_
  refine go_iadd dX3_forgets_6 (by omega) (by omega) ?_
  refine pfX3_forgotten hb.1 flX3_43 dX3_forgets_7 ?_
  refine go_aload_n dX3_forgets_10 rfl ?_
  refine gfX3_contexts hb.1 flX3_21 dX3_forgets_11 ?_
  refine go_cV0V hb.2.2.1.1 vlX3_139 dX3_forgets_14 (by decide) rfl rfl (by decide) (Nat.le_of_ble_eq_true rfl) (ctx_emptiesP hb.2.2.1 (cs := cs) (by rw [hset_ni (by omega)]; exact ecs) hz ?_)
  intro h1 C1 F1
  have G4 : h1 b 4 = n := by rw [F1 b (by omega) (by omega), hset_nk (by decide)]; exact e4
  refine go_aload_n dX3_forgets_17 rfl ?_
  refine gfX3_packed hb.1 flX3_39 dX3_forgets_18 ?_
  rw [G4]
  refine go_aload_n dX3_forgets_21 rfl ?_
  refine gfX3_past hb.1 flX3_12 dX3_forgets_22 ?_
  refine gfX4_tail hb.2.1.1 flX3_58 dX3_forgets_25 ?_
  rw [show h1 (b + 1) 3 = t by rw [F1 (b + 1) (by omega) (by omega), hset_ni (by omega)]; exact e3]
  refine go_isub dX3_forgets_28 (by omega) (by omega) ?_
  refine go_iconst dX3_forgets_29 ⟨by decide, by decide⟩ ?_
  refine go_max mmX3_150 dX3_forgets_30 (by decide) (Nat.le_of_ble_eq_true rfl) ?_
  refine go_istore_n 1 dX3_forgets_33 rfl (Nat.le_of_ble_eq_true rfl) rfl (by dsimp only [List.set]) ?_
  refine go_iload_n dX3_forgets_34 rfl ?_
  refine go_istore_n 2 dX3_forgets_35 rfl (Nat.le_of_ble_eq_true rfl) rfl (by dsimp only [List.set]) ?_
  have ha : (if n - t < 0 then 0 else n - t) = a := hae
  rw [ha]
  have key : ∀ u v : mV, Go x mtX3_forgets 36 [xR b, xI a, xI (a + ((0 : Nat) : Int)), u, v] [] h1 (qV Q) := by
    refine up_indN (P := fun m => ∀ hh : mH, CtxS hh (b + 4) (frg sg o l a m (fun _ => 0)) → (∀ i, i ≠ b → i ≠ b + 4 → i ≠ b + 4 + 1 → hh i = h i) → hh b 4 = n → (∀ z, z ≠ 5 → hh b z = h b z) → hh b 5 = h b 5 + 1 → ∀ u v : mV, Go x mtX3_forgets 36 [xR b, xI a, xI (a + (m : Int)), u, v] [] hh (qV Q)) M (fun m hm ihm hh CC FF E4 EB E5 u v => ?_) h1 C1 (fun i q1 q2 q3 => by rw [F1 i q2 q3, hset_ni q1]) G4 (fun z hz => by rw [F1 b (by omega) (by omega), hset_nk hz]) (by rw [F1 b (by omega) (by omega), hset_eq])
    by_cases hlt : m < M
    · replace ihm : ∀ hh : mH, CtxS hh (b + 4) (frg sg o l a (m + 1) (fun _ => 0)) → (∀ i, i ≠ b → i ≠ b + 4 → i ≠ b + 4 + 1 → hh i = h i) → hh b 4 = n → (∀ z, z ≠ 5 → hh b z = h b z) → hh b 5 = h b 5 + 1 → ∀ u v : mV, Go x mtX3_forgets 36 [xR b, xI a, xI (a + (m : Int) + 1), u, v] [] hh (qV Q) := by
        have z := ihm hlt
        rw [show a + ((m + 1 : Nat) : Int) = a + (m : Int) + 1 by omega] at z
        exact z
      rw [show frg sg o l a (m + 1) (fun _ => 0) = lrn (fun j => cxp sg (a + m - j) j) (sg (a + m)) l 0 (lng o m + 1) (frg sg o l a m (fun _ => 0)) from rfl] at ihm
      refine go_iload_n dX3_forgets_36 rfl ?_
      refine go_aload_n dX3_forgets_37 rfl ?_
      refine gfX3_packed hb.1 flX3_39 dX3_forgets_38 ?_
      rw [E4]
      refine go_icmp_ge_f (tgt := 114) dX3_forgets_41 (by decide) (by omega) ?_
      refine go_aload_n dX3_forgets_44 rfl ?_
      refine gfX3_past hb.1 flX3_12 dX3_forgets_45 ?_
      refine gfX4_order hb.2.1.1 flX3_49 dX3_forgets_48 ?_
      rw [show hh (b + 1) 0 = o from (congrFun (FF (b + 1) (by omega) (by omega) (by omega)) 0).trans e0]
      refine go_iload_n dX3_forgets_51 rfl ?_
      refine go_iload_n dX3_forgets_52 rfl ?_
      refine go_isub dX3_forgets_53 (by omega) (by omega) ?_
      refine go_min mmX3_145 dX3_forgets_54 (by decide) (Nat.le_of_ble_eq_true rfl) ?_
      refine go_istore_n 3 dX3_forgets_57 rfl (Nat.le_of_ble_eq_true rfl) rfl (by dsimp only [List.set]) ?_
      refine go_iconst dX3_forgets_58 ⟨by decide, by decide⟩ ?_
      refine go_istore dX3_forgets_59 (Nat.le_of_ble_eq_true rfl) rfl (by dsimp only [List.set]) ?_
      rw [show a + (m : Int) - a = (m : Int) by omega]
      have hL : (if (m : Int) < o then (m : Int) else o) = (lng o m : Int) := by unfold lng; split <;> omega
      rw [hL]
      have hlg := lng_le (o := o) (n := m) hPr.1 (by omega)
      have hsm := hsg (a + m) (by omega) (by omega)
      have okm := csOk_frg (sg := sg) (o := o) (l := l) (a := a) (csOk_zero hPr.2.2.1) hPr.2.2.1 hPr.1 hPr.2.1 m (fun k q1 q2 => hsg k (by omega) (by omega))
      refine up_indN (P := fun j => ∀ h2 : mH, CtxS h2 (b + 4) (lrn (fun j => cxp sg (a + m - j) j) (sg (a + m)) l 0 j (frg sg o l a m (fun _ => 0))) → (∀ i, i ≠ b → i ≠ b + 4 → i ≠ b + 4 + 1 → h2 i = h i) → h2 b 4 = n → (∀ z, z ≠ 5 → h2 b z = h b z) → h2 b 5 = h b 5 + 1 → Go x mtX3_forgets 61 [xR b, xI a, xI (a + m), xI (lng o m : Int), xI (j : Int)] [] h2 (qV Q)) (lng o m + 1) (fun j hj ihj h2 C2 F2 E4 EB E5 => ?_) hh CC FF E4 EB E5
      by_cases hjl : j < lng o m + 1
      · have okj := csOk_lrn (ctx := fun j => cxp sg (a + m - j) j) (s := sg (a + m)) (l := l) (lo := 0) okm hPr.2.2.1 hsm.1 hsm.2 j (fun i _ hi => cxp_bd (by omega) (fun k q1 q2 => hsg k (by omega) (by omega)))
        have hcx := cxp_bd (sg := sg) (a := a + m - (j : Int)) (n := j) (by omega) (fun k q1 q2 => hsg k (by omega) (by omega))
        rw [show lrn (fun j => cxp sg (a + m - j) j) (sg (a + m)) l 0 (j + 1) (frg sg o l a m (fun _ => 0)) = rai (lrn (fun j => cxp sg (a + m - j) j) (sg (a + m)) l 0 j (frg sg o l a m (fun _ => 0))) (cxp sg (a + m - (j : Int)) j) (sg (a + m)) l by rw [lrn, Nat.zero_add]] at ihj
        refine go_iload dX3_forgets_61 rfl ?_
        refine go_iload_n dX3_forgets_63 rfl ?_
        refine go_icmp_gt_f (tgt := 108) dX3_forgets_64 (by decide) (by omega) ?_
        refine go_aload_n dX3_forgets_67 rfl ?_
        refine gfX3_contexts hb.1 flX3_21 dX3_forgets_68 ?_
        refine go_aload_n dX3_forgets_71 rfl ?_
        refine gfX3_past hb.1 flX3_12 dX3_forgets_72 ?_
        refine go_iload_n dX3_forgets_75 rfl ?_
        refine go_iload dX3_forgets_76 rfl ?_
        refine go_cV2I hb.2.1.1 vlX3_109 dX3_forgets_78 (by decide) rfl rfl (by decide) (Nat.le_of_ble_eq_true rfl) (past_ctx (a := a + m - (j : Int)) (n := j) hb.2.1 (by omega) (by omega) (by omega) (by rw [F2 (b + 1 + 1) (by omega) (by omega) (by omega)]; omega) (by rw [F2 (b + 1 + 1) (by omega) (by omega) (by omega)]; omega) (fun k q1 q2 => by rw [F2 (b + 1 + 2) (by omega) (by omega) (by omega), esg]; exact hsg k (by omega) (by omega)) ?_)
        rw [F2 (b + 1 + 2) (by omega) (by omega) (by omega), esg]
        refine go_aload_n dX3_forgets_81 rfl ?_
        refine gfX3_past hb.1 flX3_12 dX3_forgets_82 ?_
        refine gfX4_signs hb.2.1.1 flX3_68 dX3_forgets_85 ?_
        refine go_iload_n dX3_forgets_88 rfl ?_
        refine go_cV1I hb.2.1.2.1 vlX3_81 dX3_forgets_89 (by decide) rfl rfl (by decide) (Nat.le_of_ble_eq_true rfl) (row_at hb.2.1.2 (by rw [F2 (b + 1 + 1) (by omega) (by omega) (by omega)]; omega) ?_)
        rw [if_pos (by rw [F2 (b + 1 + 1) (by omega) (by omega) (by omega)]; omega), show h2 (b + 1 + 1 + 1) = sg from (F2 (b + 1 + 2) (by omega) (by omega) (by omega)).trans esg]
        refine go_aload_n dX3_forgets_92 rfl ?_
        refine gfX3_past hb.1 flX3_12 dX3_forgets_93 ?_
        refine gfX4_limit hb.2.1.1 flX3_52 dX3_forgets_96 ?_
        rw [show h2 (b + 1) 1 = l from (congrFun (F2 (b + 1) (by omega) (by omega) (by omega)) 1).trans e1]
        refine go_cV3V hb.2.2.1.1 vlX3_153 dX3_forgets_99 (by decide) rfl rfl (by decide) (Nat.le_of_ble_eq_true rfl) (ctx_raisesP hb.2.2.1 C2 okj hPr.2.2.1 hPr.2.2.2.1 hcx.1 hcx.2 hsm.1 hsm.2 ?_)
        intro h3 C3 F3
        refine go_iinc dX3_forgets_102 rfl rfl rfl (by omega) (by omega) (by dsimp only [List.set]) ?_
        refine go_goto (tgt := 61) dX3_forgets_105 (by decide) ?_
        exact ihj (by omega) h3 C3 (fun i q1 q2 q3 => (F3 i q2 q3).trans (F2 i q1 q2 q3)) ((congrFun (F3 b (by omega) (by omega)) 4).trans E4) (fun z hz => (congrFun (F3 b (by omega) (by omega)) z).trans (EB z hz)) ((congrFun (F3 b (by omega) (by omega)) 5).trans E5)
      · have hje : j = lng o m + 1 := by omega
        subst hje
        refine go_iload dX3_forgets_61 rfl ?_
        refine go_iload_n dX3_forgets_63 rfl ?_
        refine go_icmp_gt_t (tgt := 108) dX3_forgets_64 (by decide) (by omega) ?_
        refine go_iinc dX3_forgets_108 rfl rfl rfl (by omega) (by omega) (by dsimp only [List.set]) ?_
        refine go_goto (tgt := 36) dX3_forgets_111 (by decide) ?_
        exact ihm h2 C2 F2 E4 EB E5 _ _
    · have hme : m = M := by omega
      subst hme
      refine go_iload_n dX3_forgets_36 rfl ?_
      refine go_aload_n dX3_forgets_37 rfl ?_
      refine gfX3_packed hb.1 flX3_39 dX3_forgets_38 ?_
      rw [E4]
      refine go_icmp_ge_t (tgt := 114) dX3_forgets_41 (by decide) (by omega) ?_
      refine go_return dX3_forgets_114 rfl ?_
      exact hQ hh CC FF EB E5
  rw [show a + ((0 : Nat) : Int) = a by omega] at key
  exact key _ _
end
section
/-! ===== Packer: learns, startsAnew, descends from its entry ===== -/
def tas (t n : Int) : Int := if n - t < 0 then 0 else n - t
def mx0 (f : Int) : Nat := (if f < 0 then 0 else f).toNat
/-- the counts with a sign learnt that was found at f, ahead of what is forgotten -/
def lc1 (sg cs : Int → Int) (o l n s f : Int) : Int → Int := lrn (fun j => cxp sg (n - j) j) s l (mx0 f) (lng o n + 1 - mx0 f) cs
def lst (sg cs : Int → Int) (o l r t n s f : Int) : Int → Int := if r < thC (lc1 sg cs o l n s f) 85 then frg sg o l (tas t (n + 1)) (n + 1 - tas t (n + 1)).toNat (fun _ => 0) else lc1 sg cs o l n s f
def lfg (sg cs : Int → Int) (o l r n s f : Int) : Int := if r < thC (lc1 sg cs o l n s f) 85 then 1 else 0
theorem csOk_lc1 {sg cs : Int → Int} {o l n s f : Int} (h : CsOk cs l) (hl : 2 ≤ l) (ho : 0 ≤ o) (ho2 : o ≤ 3) (hn : 0 ≤ n) (hs : 0 ≤ s) (hs2 : s ≤ 3) (hsg : ∀ k : Int, 0 ≤ k → k < n → 0 ≤ sg k ∧ sg k ≤ 3) : CsOk (lc1 sg cs o l n s f) l := by
  have h2 := lng_le (o := o) (n := n) ho hn
  exact csOk_lrn h hl hs hs2 _ (fun j _ hj => cxp_bd (by omega) (fun k q1 q2 => hsg k (by omega) (by omega)))
theorem csOk_lst {sg cs : Int → Int} {o l r t n s f : Int} (h : CsOk cs l) (hl : 2 ≤ l) (ho : 0 ≤ o) (ho2 : o ≤ 3) (hn : 0 ≤ n) (ht : 0 ≤ t) (hs : 0 ≤ s) (hs2 : s ≤ 3) (hsg : ∀ k : Int, 0 ≤ k → k < n + 1 → 0 ≤ sg k ∧ sg k ≤ 3) : CsOk (lst sg cs o l r t n s f) l := by
  unfold lst
  split
  · refine csOk_frg (csOk_zero hl) hl ho ho2 _ (fun k q1 q2 => ?_)
    unfold tas at q1 q2
    split at q1 <;> exact hsg k (by omega) (by split at q2 <;> omega)
  · exact csOk_lc1 h hl ho ho2 hn hs hs2 (fun k q1 q2 => hsg k q1 (by omega))

set_option maxHeartbeats 4000000 in
set_option maxRecDepth 100000 in
theorem pk_learns {x : mX} {h : mH} {Q : mH → Prop} {b : Nat} {o l r t n s f : Int} {sg cs : Int → Int} (hb : isPk b) (hPr : PrOk o l r t) (hPa : PaS h (b + 1) o l r t) (e4 : h b 4 = n) (esg : h (b + 1 + 2) = sg) (C : CtxS h (b + 4) cs) (ok : CsOk cs l) (h50 : 0 ≤ h b 5) (h51 : h b 5 ≤ 1000) (hn0 : 0 ≤ n) (hns : n + 1 ≤ h (b + 1 + 1) 1) (hs60 : h (b + 1 + 1) 1 ≤ 60) (hsg : ∀ k : Int, 0 ≤ k → k < n + 1 → 0 ≤ sg k ∧ sg k ≤ 3) (hs : 0 ≤ s) (hs2 : s ≤ 3) (hf : f ≤ lng o n) (hQ : ∀ h', CtxS h' (b + 4) (lst sg cs o l r t n s f) → (∀ i, i ≠ b → i ≠ b + 4 → i ≠ b + 4 + 1 → h' i = h i) → h' b 4 = n + 1 → h' b 5 = h b 5 + lfg sg cs o l r n s f → (∀ z, z ≠ 4 → z ≠ 5 → h' b z = h b z) → Q h') : CtV x mtX3_learns [xR b, xI s, xI f] h Q := by
  obtain ⟨e0, e1, e2, e3⟩ := hPa
  have hpp := hPr
  obtain ⟨w1, w2, w3, w4, w5, w6, w7, w8⟩ := hpp
  refine ct_go (ls := [xR b, xI s, xI f, xU, xU]) (by decide +kernel) (Nat.le_of_ble_eq_true rfl) rfl ?_
  refine go_aload_n dX3_learns_0 rfl ?_
  refine go_cV0I hb.1 vlX3_106 dX3_learns_1 (by decide) rfl rfl (by decide) (Nat.le_of_ble_eq_true rfl) (pk_longest hb e0 e4 ?_)
  refine go_istore_n 3 dX3_learns_4 rfl (Nat.le_of_ble_eq_true rfl) rfl (by dsimp only [List.set]) ?_
  refine go_iload_n dX3_learns_5 rfl ?_
  refine go_iconst dX3_learns_6 ⟨by decide, by decide⟩ ?_
  refine go_max mmX3_150 dX3_learns_7 (by decide) (Nat.le_of_ble_eq_true rfl) ?_
  refine go_istore dX3_learns_10 (Nat.le_of_ble_eq_true rfl) rfl (by dsimp only [List.set]) ?_
  have hL : (if n < o then n else o) = (lng o n : Int) := by unfold lng; split <;> omega
  rw [hL]
  have hM : (if f < 0 then 0 else f) = (mx0 f : Int) := by unfold mx0; split <;> omega
  rw [hM]
  have hmx : mx0 f ≤ lng o n := by have := hM; split at this <;> omega
  have hlg := lng_le (o := o) (n := n) hPr.1 hn0
  have hta : 0 ≤ tas t (n + 1) ∧ tas t (n + 1) ≤ n + 1 := by unfold tas; split <;> omega
  have okL := csOk_lc1 (f := f) ok hPr.2.2.1 hPr.1 hPr.2.1 hn0 hs hs2 (fun k q1 q2 => hsg k q1 (by omega))
  generalize hlo : mx0 f = lo at hmx
  have eLc : lrn (fun j => cxp sg (n - j) j) s l lo (lng o n + 1 - lo) cs = lc1 sg cs o l n s f := by unfold lc1; rw [hlo]
  have key : ∀ hh : mH, CtxS hh (b + 4) (lrn (fun j => cxp sg (n - j) j) s l lo 0 cs) → (∀ i, i ≠ b + 4 → i ≠ b + 4 + 1 → hh i = h i) → Go x mtX3_learns 12 [xR b, xI s, xI f, xI (lng o n : Int), xI ((lo + 0 : Nat) : Int)] [] hh (qV Q) := by
    refine up_indN (P := fun m => ∀ hh : mH, CtxS hh (b + 4) (lrn (fun j => cxp sg (n - j) j) s l lo m cs) → (∀ i, i ≠ b + 4 → i ≠ b + 4 + 1 → hh i = h i) → Go x mtX3_learns 12 [xR b, xI s, xI f, xI (lng o n : Int), xI ((lo + m : Nat) : Int)] [] hh (qV Q)) (lng o n + 1 - lo) (fun m hm ih hh CC FF => ?_)
    have E4 : hh b 4 = n := (congrFun (FF b (by omega) (by omega)) 4).trans e4
    by_cases hlt : m < lng o n + 1 - lo
    · replace ih := ih hlt
      have okm := csOk_lrn (ctx := fun j => cxp sg (n - j) j) (s := s) (l := l) (lo := lo) ok hPr.2.2.1 hs hs2 m (fun j _ hj => cxp_bd (by omega) (fun k q1 q2 => hsg k (by omega) (by omega)))
      have hcx := cxp_bd (sg := sg) (a := n - ((lo + m : Nat) : Int)) (n := lo + m) (by omega) (fun k q1 q2 => hsg k (by omega) (by omega))
      rw [show lrn (fun j => cxp sg (n - j) j) s l lo (m + 1) cs = rai (lrn (fun j => cxp sg (n - j) j) s l lo m cs) (cxp sg (n - ((lo + m : Nat) : Int)) (lo + m)) s l from rfl] at ih
      refine go_iload dX3_learns_12 rfl ?_
      refine go_iload_n dX3_learns_14 rfl ?_
      refine go_icmp_gt_f (tgt := 52) dX3_learns_15 (by decide) (by omega) ?_
      refine go_aload_n dX3_learns_18 rfl ?_
      refine gfX3_contexts hb.1 flX3_21 dX3_learns_19 ?_
      refine go_aload_n dX3_learns_22 rfl ?_
      refine gfX3_past hb.1 flX3_12 dX3_learns_23 ?_
      refine go_aload_n dX3_learns_26 rfl ?_
      refine gfX3_packed hb.1 flX3_39 dX3_learns_27 ?_
      rw [E4]
      refine go_iload dX3_learns_30 rfl ?_
      refine go_cV2I hb.2.1.1 vlX3_109 dX3_learns_32 (by decide) rfl rfl (by decide) (Nat.le_of_ble_eq_true rfl) (past_ctx (a := n - ((lo + m : Nat) : Int)) (n := lo + m) hb.2.1 (by omega) (by omega) (by omega) (by rw [FF (b + 1 + 1) (by omega) (by omega)]; omega) (by rw [FF (b + 1 + 1) (by omega) (by omega)]; omega) (fun k q1 q2 => by rw [FF (b + 1 + 2) (by omega) (by omega), esg]; exact hsg k (by omega) (by omega)) ?_)
      rw [FF (b + 1 + 2) (by omega) (by omega), esg]
      refine go_iload_n dX3_learns_35 rfl ?_
      refine go_aload_n dX3_learns_36 rfl ?_
      refine gfX3_past hb.1 flX3_12 dX3_learns_37 ?_
      refine gfX4_limit hb.2.1.1 flX3_52 dX3_learns_40 ?_
      rw [show hh (b + 1) 1 = l from (congrFun (FF (b + 1) (by omega) (by omega)) 1).trans e1]
      refine go_cV3V hb.2.2.1.1 vlX3_153 dX3_learns_43 (by decide) rfl rfl (by decide) (Nat.le_of_ble_eq_true rfl) (ctx_raisesP hb.2.2.1 CC okm hPr.2.2.1 hPr.2.2.2.1 hcx.1 hcx.2 hs hs2 ?_)
      intro h3 C3 F3
      refine go_iinc dX3_learns_46 rfl rfl rfl (by omega) (by omega) (by dsimp only [List.set]) ?_
      refine go_goto (tgt := 12) dX3_learns_49 (by decide) ?_
      exact ih h3 C3 (fun i q2 q3 => (F3 i q2 q3).trans (FF i q2 q3))
    · have hme : m = lng o n + 1 - lo := by omega
      subst hme
      rw [eLc] at CC
      refine go_iload dX3_learns_12 rfl ?_
      refine go_iload_n dX3_learns_14 rfl ?_
      refine go_icmp_gt_t (tgt := 52) dX3_learns_15 (by decide) (by omega) ?_
      refine go_aload_n dX3_learns_52 rfl ?_
      first | refine go_dupR dX3_learns_53 ?_ | refine go_dupI dX3_learns_53 ?_
      refine gfX3_packed hb.1 flX3_39 dX3_learns_54 ?_
      rw [E4]
      refine go_iconst dX3_learns_57 ⟨by decide, by decide⟩ ?_
      refine go_iadd dX3_learns_58 (by omega) (by omega) ?_
      refine pfX3_packed hb.1 flX3_39 dX3_learns_59 ?_
      refine go_aload_n dX3_learns_62 rfl ?_
      refine gfX3_contexts hb.1 flX3_21 dX3_learns_63 ?_
      refine gfX0_there hb.2.2.1.1 flX3_156 dX3_learns_66 ?_
      rw [hset_ni (show b + 4 ≠ b by omega), CC.2]
      refine go_aload_n dX3_learns_69 rfl ?_
      refine gfX3_past hb.1 flX3_12 dX3_learns_70 ?_
      refine gfX4_room hb.2.1.1 flX3_55 dX3_learns_73 ?_
      rw [hset_ni (show b + 1 ≠ b by omega), show hh (b + 1) 2 = r from (congrFun (FF (b + 1) (by omega) (by omega)) 2).trans e2]
      refine go_icmp_le (tgt := 83) dX3_learns_76 (by decide) (fun c76 => ?_) (fun c76 => ?_)
      · refine go_return dX3_learns_83 rfl ?_
        first
          | (have hle := c76
             have eL : lst sg cs o l r t n s f = lc1 sg cs o l n s f := by unfold lst; rw [if_neg (by omega)]
             have eF : lfg sg cs o l r n s f = 0 := by unfold lfg; rw [if_neg (by omega)]
             rw [eL, eF] at hQ
             refine hQ _ ⟨by rw [hset_ni (by omega)]; exact CC.1, by rw [hset_ni (by omega)]; exact CC.2⟩ (fun i q1 q2 q3 => by rw [hset_ni q1, FF i q2 q3]) (hset_eq _ _ _ _) (by rw [hset_nk (by decide), FF b (by omega) (by omega), Int.add_zero]) (fun z z1 z2 => by rw [hset_nk z1, FF b (by omega) (by omega)])
             done)
          | (have hgt := c76
             have eL : lst sg cs o l r t n s f = frg sg o l (tas t (n + 1)) (n + 1 - tas t (n + 1)).toNat (fun _ => 0) := by unfold lst; rw [if_pos (by omega)]
             have eF : lfg sg cs o l r n s f = 1 := by unfold lfg; rw [if_pos (by omega)]
             rw [eL, eF] at hQ
             refine hQ _ C9 (fun i q1 q2 q3 => by rw [F9 i q1 q2 q3, hset_ni q1, FF i q2 q3]) (by rw [B9 4 (by decide), hset_eq]) (by rw [G9, hset_nk (by decide), FF b (by omega) (by omega)]) (fun z z1 z2 => by rw [B9 z z2, hset_nk z1, FF b (by omega) (by omega)])
             done)
      · refine go_aload_n dX3_learns_79 rfl ?_
        refine go_cV0V hb.1 vlX3_159 dX3_learns_80 (by decide) rfl rfl (by decide) (Nat.le_of_ble_eq_true rfl) (pk_forgets (n := n + 1) (a := tas t (n + 1)) (M := (n + 1 - tas t (n + 1)).toNat) (sg := sg) hb hPr ⟨?_, ?_, ?_, ?_⟩ (hset_eq _ _ _ _) (by rw [hset_ni (by omega), FF (b + 1 + 2) (by omega) (by omega)]; exact esg) (by rw [hset_ni (by omega)]; exact CC.1) okL.2 (by rw [hset_nk (by decide), FF b (by omega) (by omega)]; exact h50) (by rw [hset_nk (by decide), FF b (by omega) (by omega)]; exact h51) (by omega) (by rw [hset_ni (by omega), FF (b + 1 + 1) (by omega) (by omega)]; omega) (by rw [hset_ni (by omega), FF (b + 1 + 1) (by omega) (by omega)]; omega) hsg rfl (by have := hta; omega) ?_)
        · rw [hset_ni (by omega), FF (b + 1) (by omega) (by omega)]; exact e0
        · rw [hset_ni (by omega), FF (b + 1) (by omega) (by omega)]; exact e1
        · rw [hset_ni (by omega), FF (b + 1) (by omega) (by omega)]; exact e2
        · rw [hset_ni (by omega), FF (b + 1) (by omega) (by omega)]; exact e3
        intro h9 C9 F9 B9 G9
        refine go_return dX3_learns_83 rfl ?_
        first
          | (have hle := c76
             have eL : lst sg cs o l r t n s f = lc1 sg cs o l n s f := by unfold lst; rw [if_neg (by omega)]
             have eF : lfg sg cs o l r n s f = 0 := by unfold lfg; rw [if_neg (by omega)]
             rw [eL, eF] at hQ
             refine hQ _ ⟨by rw [hset_ni (by omega)]; exact CC.1, by rw [hset_ni (by omega)]; exact CC.2⟩ (fun i q1 q2 q3 => by rw [hset_ni q1, FF i q2 q3]) (hset_eq _ _ _ _) (by rw [hset_nk (by decide), FF b (by omega) (by omega), Int.add_zero]) (fun z z1 z2 => by rw [hset_nk z1, FF b (by omega) (by omega)])
             done)
          | (have hgt := c76
             have eL : lst sg cs o l r t n s f = frg sg o l (tas t (n + 1)) (n + 1 - tas t (n + 1)).toNat (fun _ => 0) := by unfold lst; rw [if_pos (by omega)]
             have eF : lfg sg cs o l r n s f = 1 := by unfold lfg; rw [if_pos (by omega)]
             rw [eL, eF] at hQ
             refine hQ _ C9 (fun i q1 q2 q3 => by rw [F9 i q1 q2 q3, hset_ni q1, FF i q2 q3]) (by rw [B9 4 (by decide), hset_eq]) (by rw [G9, hset_nk (by decide), FF b (by omega) (by omega)]) (fun z z1 z2 => by rw [B9 z z2, hset_nk z1, FF b (by omega) (by omega)])
             done)
  exact key h C (fun _ _ _ => rfl)

set_option maxHeartbeats 4000000 in
set_option maxRecDepth 100000 in
theorem pk_descends {x : mX} {h : mH} {σ : Type} {TS : mH → σ → Prop} {T : Nat → Prop} {ch : σ → (Nat → Int) → Nat} {tk : σ → Int → Int → Int → σ} {P : σ → (Nat → Int) → Prop} {Q : Int → mH → Prop} {b k ck : Nat} {N1 N2 : mM} {y1 y2 : MethodName} {q : vw_C} {o n : Int} {sg cs : Int → Int} {c : σ}
    (hb : isPk b) (hk : kd k = ck) (hck : ck < 10) (hcl : vwCl[ck]? = some q) (hq1 : q.1 = N1.1.cls) (hq2 : q.1 = N2.1.cls) (hl1 : mUl RX3 120 y1 N1 1) (hl2 : mUl RX3 132 y2 N2 3) (hh1 : N1.2.2.2.2 < 3) (hh2 : N2.2.2.2.2 < 3)
    (hT : ∀ i, T i → i < b ∨ b + 10 < i ∨ (b + 6 ≤ i ∧ i ≤ b + 8)) (hTS : ∀ (h h' : mH) (c : σ), (∀ i, T i → h' i = h i) → TS h c → TS h' c) (hch4 : ∀ (c : σ) (w : Nat → Int), ch c w ≤ 4)
    (hch : ∀ (h : mH) (c : σ) (w : Nat → Int) (sh : Nat) (Q : Int → mH → Prop), TS h c → StIs h (b + 9) w sh → WOk w → P c w → Q ((ch c w : Nat) : Int) h → CtI x N1 [xR k, xR (b + 9)] h Q)
    (htk : ∀ (h : mH) (c : σ) (w : Nat → Int) (Q : mH → Prop), TS h c → WOk w → P c w → (∀ h', TS h' (tk c (tot w (ch c w)) (w (ch c w)) (tot w 5)) → (∀ i, ¬ T i → h' i = h i) → Q h') → CtV x N2 [xR k, xI (tot w (ch c w)), xI (w (ch c w)), xI (tot w 5)] h Q)
    (hPk : PkT h b o n sg cs) (TT : TS h c) (hP : dOk ch tk P cs (fun j => cxp sg (n - (j : Int)) j) (lng o n + 1) 0 c)
    (hQ : ∀ h', TS h' (dsc ch tk cs (fun j => cxp sg (n - (j : Int)) j) (lng o n + 1) 0 c).2.2 → FrD T b h h' → h' b 6 = ((dsc ch tk cs (fun j => cxp sg (n - (j : Int)) j) (lng o n + 1) 0 c).2.1 : Int) → Q (dsc ch tk cs (fun j => cxp sg (n - (j : Int)) j) (lng o n + 1) 0 c).1 h') : CtI x mtX3_descends [xR b, xR k] h Q := by
  refine ct_go (ls := [xR b, xR k, xU]) (by decide +kernel) (Nat.le_of_ble_eq_true rfl) rfl ?_
  refine go_aload_n dX3_descends_0 rfl ?_
  refine gfX3_stage hb.1 flX3_35 dX3_descends_1 ?_
  refine go_cV0V hb.2.2.2.2.1 vlX3_103 dX3_descends_4 (by decide) rfl rfl (by decide) (Nat.le_of_ble_eq_true rfl) (st_shutsNone hb.2.2.2.2 ?_)
  refine go_aload_n dX3_descends_7 rfl ?_
  refine go_cV0I hb.1 vlX3_106 dX3_descends_8 (by decide) rfl rfl (by decide) (Nat.le_of_ble_eq_true rfl) (pk_longest hb (o := o) (n := n) (by rw [hset_ni (by omega)]; exact hPk.1) (by rw [hset_ni (by omega)]; exact hPk.2.1) ?_)
  refine go_istore_n 2 dX3_descends_11 rfl (Nat.le_of_ble_eq_true rfl) rfl (by dsimp only [List.set]) ?_
  have hL : (if n < o then n else o) = ((lng o n + 1 : Nat) : Int) - 1 := by have := hPk.2.2.2.2; unfold lng; split <;> omega
  rw [hL]
  have hlg := lng_le (o := o) (n := n) hPk.2.2.2.2.1 hPk.2.2.2.2.2.2.1
  exact pk_descends_loop hb hk hck hcl hq1 hq2 hl1 hl2 hh1 hh2 hT hTS hch4 hch htk hPk (lng o n + 1) _ 0 c (by omega) (by omega) ⟨fun i q1 q2 q3 q4 => hset_ni q3, fun z q => by rw [hset_ni (by omega)]⟩ (hset_eq _ _ _ _) (by decide) (hTS _ _ c (fun i q => hset_ni (by have := hT i q; omega)) TT) hP hQ

set_option maxHeartbeats 4000000 in
set_option maxRecDepth 100000 in
theorem pk_startsAnew {x : mX} {h : mH} {Q : mH → Prop} {b : Nat} {cs : Int → Int} (hb : isPk b) (ecs : h (b + 4 + 1) = cs) (hz : ∀ k, k < 0 ∨ 340 ≤ k → cs k = 0) (h0 : 0 ≤ h (b + 6 + 1) 1) (hQ : ∀ h', h' b 4 = 0 → h' b 5 = 0 → CtxS h' (b + 4) (fun _ => 0) → RgW h' (b + 6) (0, 65535, 0, []) → (∀ i, i ≠ b → i ≠ b + 4 → i ≠ b + 4 + 1 → i ≠ b + 6 → i ≠ b + 6 + 1 → h' i = h i) → Q h') : CtV x mtX3_startsAnew [xR b] h Q := by
  refine ct_go (ls := [xR b]) (by decide +kernel) (Nat.le_of_ble_eq_true rfl) rfl ?_
  refine go_aload_n dX3_startsAnew_0 rfl ?_
  refine go_iconst dX3_startsAnew_1 ⟨by decide, by decide⟩ ?_
  refine pfX3_packed hb.1 flX3_39 dX3_startsAnew_2 ?_
  refine go_aload_n dX3_startsAnew_5 rfl ?_
  refine go_iconst dX3_startsAnew_6 ⟨by decide, by decide⟩ ?_
  refine pfX3_forgotten hb.1 flX3_43 dX3_startsAnew_7 ?_
  refine go_aload_n dX3_startsAnew_10 rfl ?_
  refine gfX3_contexts hb.1 flX3_21 dX3_startsAnew_11 ?_
  refine go_cV0V hb.2.2.1.1 vlX3_139 dX3_startsAnew_14 (by decide) rfl rfl (by decide) (Nat.le_of_ble_eq_true rfl) (ctx_emptiesP hb.2.2.1 (cs := cs) (by rw [hset_ni (by omega), hset_ni (by omega)]; exact ecs) hz ?_)
  intro h1 C1 F1
  refine go_aload_n dX3_startsAnew_17 rfl ?_
  refine gfX3_range hb.1 flX3_28 dX3_startsAnew_18 ?_
  refine go_cV0V hb.2.2.2.1.1 vlX3_142 dX3_startsAnew_21 (by decide) rfl rfl (by decide) (Nat.le_of_ble_eq_true rfl) (rg_startsWriting hb.2.2.2.1 (by rw [F1 _ (by omega) (by omega), hset_ni (by omega), hset_ni (by omega)]; exact h0) ?_)
  intro h2 R2 F2
  refine go_return dX3_startsAnew_24 rfl ?_
  refine hQ h2 ?_ ?_ ⟨?_, ?_⟩ R2 (fun i q1 q2 q3 q4 q5 => ?_)
  · rw [F2 b (by omega) (by omega), F1 b (by omega) (by omega), hset_nk (by decide), hset_eq]
  · rw [F2 b (by omega) (by omega), F1 b (by omega) (by omega), hset_eq]
  · rw [F2 _ (by omega) (by omega)]; exact C1.1
  · rw [F2 _ (by omega) (by omega)]; exact C1.2
  · rw [F2 i q4 q5, F1 i q2 q3, hset_ni q1, hset_ni q1]
end
section
/-! ===== how many bits a sign can cost: pure ===== -/
theorem hb_opn {w : Nat → Int} {s : Nat} (hs : s < 4) : hb (opn w 4) s = decide (0 < w s) := by
  have e : opn w 4 = 0 + (if 0 < w 0 then 2 ^ 0 else 0) + (if 0 < w 1 then 2 ^ 1 else 0) + (if 0 < w 2 then 2 ^ 2 else 0) + (if 0 < w 3 then 2 ^ 3 else 0) := rfl
  rw [e]
  by_cases h0 : 0 < w 0 <;> by_cases h1 : 0 < w 1 <;> by_cases h2 : 0 < w 2 <;> by_cases h3 : 0 < w 3 <;>
    (simp only [h0, h1, h2, h3, if_true, if_false]
     match s, hs with
     | 0, _ => simp only [h0]; decide
     | 1, _ => simp only [h1]; decide
     | 2, _ => simp only [h2]; decide
     | 3, _ => simp only [h3]; decide)
theorem all15 : ∀ a, a < 16 → ∀ b, b < 16 → (a ||| b = 15 ↔ pc4 (a ||| b) = 4) := by decide +kernel
theorem pc4_or : ∀ a, a < 16 → ∀ b, b < 16 → a &&& b = 0 → pc4 (a ||| b) = pc4 a + pc4 b := by decide +kernel
theorem and0 : ∀ a, a < 16 → ∀ b, b < 16 → (a &&& b = 0 ↔ (b1 (hb a 0) + b1 (hb b 0) ≤ 1 ∧ b1 (hb a 1) + b1 (hb b 1) ≤ 1 ∧ b1 (hb a 2) + b1 (hb b 2) ≤ 1 ∧ b1 (hb a 3) + b1 (hb b 3) ≤ 1)) := by decide +kernel
theorem hb_or (a b s : Nat) : hb (a ||| b) s = (hb a s || hb b s) := Nat.testBit_or a b s
theorem b1_dec {c : Prop} [Decidable c] : b1 (decide c) = if c then 1 else 0 := by
  by_cases h : c <;> simp [b1, h]
def four (f : Nat → Int) : Int := f 0 + f 1 + f 2 + f 3
/-- what holds of the widths at a context -/
theorem st_facts {cs : Int → Int} {pl : Int} {sh : Nat} (hsh : sh < 16) (hpl : pl ≠ -1) (hc : ∀ k, 0 ≤ cs k ∧ cs k ≤ 14) :
    (∀ s, s < 4 → 0 ≤ wE cs pl sh s ∧ wE cs pl sh s ≤ 14 * b1 (hb (opn (wE cs pl sh) 4) s) ∧ b1 (hb (opn (wE cs pl sh) 4) s) ≤ wE cs pl sh s ∧ b1 (hb (opn (wE cs pl sh) 4) s) + b1 (hb sh s) ≤ 1) ∧
    ((wE cs pl sh 4 = 0 ∧ pc4 (opn (wE cs pl sh) 4) + pc4 sh = 4) ∨ (wE cs pl sh 4 = pc4 (opn (wE cs pl sh) 4) ∧ pc4 (opn (wE cs pl sh) 4) + pc4 sh ≤ 3)) := by
  have hS : ∀ s, s < 4 → 0 ≤ wE cs pl sh s ∧ wE cs pl sh s ≤ 14 * b1 (hb (opn (wE cs pl sh) 4) s) ∧ b1 (hb (opn (wE cs pl sh) 4) s) ≤ wE cs pl sh s ∧ b1 (hb (opn (wE cs pl sh) 4) s) + b1 (hb sh s) ≤ 1 := by
    intro s hs
    rw [hb_opn hs, b1_dec, wE_lt hs]
    have h1 := hc (4 * pl + s)
    unfold wS
    cases hz : hb sh s with
    | true => simp [b1]
    | false =>
      simp only [Bool.false_eq_true, if_false, if_neg hpl, b1]
      split <;> omega
  refine ⟨hS, ?_⟩
  have hop : opn (wE cs pl sh) 4 < 16 := opn_lt _ 4
  have hd : opn (wE cs pl sh) 4 &&& sh = 0 := (and0 _ hop _ hsh).mpr ⟨(hS 0 (by decide)).2.2.2, (hS 1 (by decide)).2.2.2, (hS 2 (by decide)).2.2.2, (hS 3 (by decide)).2.2.2⟩
  have hp := pc4_or _ hop _ hsh hd
  have e4 : wE cs pl sh 4 = esc pl sh (opn (wE cs pl sh) 4) := by
    rw [wE_4, opn_congr (w := wE cs pl sh) (w' := wS cs pl sh) (fun k hk => wE_lt hk)]
  generalize opn (wE cs pl sh) 4 = op at hop hp e4 ⊢
  rw [e4]
  unfold esc
  have ha := all15 op hop sh hsh
  by_cases q : op ||| sh = 15
  · rw [if_pos (Or.inr q)]
    exact Or.inl ⟨rfl, by rw [← hp]; exact ha.mp q⟩
  · rw [if_neg (by rintro (z | z); exact hpl z; exact q z)]
    refine Or.inr ⟨rfl, ?_⟩
    have hne : pc4 (op ||| sh) ≠ 4 := fun z => q (ha.mpr z)
    have hb4 := pc4_bd (op ||| sh)
    omega
theorem st_plain {cs : Int → Int} {sh : Nat} : (∀ s, s < 4 → wE cs (-1) sh s = 1 - b1 (hb sh s)) ∧ wE cs (-1) sh 4 = 0 := by
  refine ⟨fun s hs => ?_, ?_⟩
  · rw [wE_lt hs]
    unfold wS
    cases hz : hb sh s with
    | true => simp [b1]
    | false => simp [b1]
  · rw [wE_4]; unfold esc; rw [if_pos (Or.inl rfl)]
theorem tot5 (w : Nat → Int) : tot w 5 = w 0 + w 1 + w 2 + w 3 + w 4 := by
  show 0 + w 0 + w 1 + w 2 + w 3 + w 4 = _
  omega
theorem tot4 (w : Nat → Int) : tot w 4 = w 0 + w 1 + w 2 + w 3 := by
  show 0 + w 0 + w 1 + w 2 + w 3 = _
  omega
/-- what is left of 4096, with so many signs shut -/
def Kq (q : Int) : Int := if q ≤ 0 then 4096 else if q = 1 then 272 else if q = 2 then 18 else 1
theorem Kq_pos (q : Int) : 1 ≤ Kq q := by unfold Kq; split <;> (try split) <;> (try split) <;> omega
def chW (s : Nat) (_ : Cd) (w : Nat → Int) : Nat := if 0 < w s then s else 4
/-- the part that is taken for a sign that isn't shut: it isn't empty; how dear it is -/
theorem part_dear {cs : Int → Int} {pl : Int} {sh s : Nat} {c : Cd} (hs : s < 4) (hsh : sh < 16) (hns : hb sh s = false) (hc : ∀ k, 0 ≤ cs k ∧ cs k ≤ 14) (ht : 0 < tot (wE cs pl sh) 5) :
    1 ≤ wE cs pl sh (chW s c (wE cs pl sh)) ∧ 0 ≤ tot (wE cs pl sh) (chW s c (wE cs pl sh)) ∧ tot (wE cs pl sh) (chW s c (wE cs pl sh)) + wE cs pl sh (chW s c (wE cs pl sh)) ≤ tot (wE cs pl sh) 5 ∧ tot (wE cs pl sh) 5 ≤ 60 ∧ pc4 sh ≤ 3 ∧
    (chW s c (wE cs pl sh) = 4 → pl ≠ -1 → hb (sh ||| opn (wE cs pl sh) 4) s = false ∧ Kq (pc4 (sh ||| opn (wE cs pl sh) 4)) * tot (wE cs pl sh) 5 * 256 ≤ Kq (pc4 sh) * wE cs pl sh 4 * 255) ∧
    (chW s c (wE cs pl sh) ≠ 4 → tot (wE cs pl sh) 5 * 256 ≤ Kq (pc4 sh) * wE cs pl sh (chW s c (wE cs pl sh)) * 255 ∨ (tot (wE cs pl sh) (chW s c (wE cs pl sh)) = 0 ∧ wE cs pl sh (chW s c (wE cs pl sh)) = tot (wE cs pl sh) 5)) ∧ (pl = -1 → chW s c (wE cs pl sh) = s) := by
  have bz0 := b1_bd (hb sh 0); have bz1 := b1_bd (hb sh 1); have bz2 := b1_bd (hb sh 2); have bz3 := b1_bd (hb sh 3)
  have hzs : b1 (hb sh s) = 0 := by rw [hns]; rfl
  by_cases hpl : pl = -1
  · subst hpl
    obtain ⟨f1, f2⟩ := st_plain (cs := cs) (sh := sh)
    have g0 := f1 0 (by decide); have g1 := f1 1 (by decide); have g2 := f1 2 (by decide); have g3 := f1 3 (by decide)
    have gs := f1 s hs
    have hch : chW s c (wE cs (-1) sh) = s := by unfold chW; rw [if_pos (by omega)]
    rw [hch, tot5]
    rw [tot5] at ht
    have hpc : pc4 sh = b1 (hb sh 0) + b1 (hb sh 1) + b1 (hb sh 2) + b1 (hb sh 3) := rfl
    have hT : tot (wE cs (-1) sh) s + wE cs (-1) sh s ≤ wE cs (-1) sh 0 + wE cs (-1) sh 1 + wE cs (-1) sh 2 + wE cs (-1) sh 3 + wE cs (-1) sh 4 ∧ 0 ≤ tot (wE cs (-1) sh) s ∧ (pc4 sh = 3 → tot (wE cs (-1) sh) s = 0) ∧ pc4 sh ≤ 3 := by
      rcases (show s = 0 ∨ s = 1 ∨ s = 2 ∨ s = 3 by omega) with rfl | rfl | rfl | rfl <;> (first | (dsimp only [tot]; omega) | (simp only [tot, implies_true, true_and, and_true]; omega))
    obtain ⟨t1, t2, t3, t4⟩ := hT
    refine ⟨by omega, t2, t1, by omega, t4, fun q => absurd q (by omega), fun _ => ?_, fun _ => rfl⟩
    by_cases q3 : pc4 sh = 3
    · exact Or.inr ⟨t3 q3, by omega⟩
    · refine Or.inl ?_
      have : 18 ≤ Kq (pc4 sh) := by unfold Kq; split <;> (try split) <;> (try split) <;> omega
      rw [gs, hzs, Int.sub_zero, Int.mul_one]
      omega
  · obtain ⟨f1, f2⟩ := st_facts hsh hpl hc
    generalize hw : wE cs pl sh = w at *
    have g0 := f1 0 (by decide); have g1 := f1 1 (by decide); have g2 := f1 2 (by decide); have g3 := f1 3 (by decide)
    have bp0 := b1_bd (hb (opn w 4) 0); have bp1 := b1_bd (hb (opn w 4) 1); have bp2 := b1_bd (hb (opn w 4) 2); have bp3 := b1_bd (hb (opn w 4) 3)
    have hop : opn w 4 < 16 := opn_lt _ 4
    have hd : sh &&& opn w 4 = 0 := (and0 _ hsh _ hop).mpr ⟨by omega, by omega, by omega, by omega⟩
    have hpo := pc4_or _ hsh _ hop hd
    have hpc : pc4 sh = b1 (hb sh 0) + b1 (hb sh 1) + b1 (hb sh 2) + b1 (hb sh 3) := rfl
    have hpp : pc4 (opn w 4) = b1 (hb (opn w 4) 0) + b1 (hb (opn w 4) 1) + b1 (hb (opn w 4) 2) + b1 (hb (opn w 4) 3) := rfl
    have gs := f1 s hs
    rw [tot5] at ht ⊢
    by_cases hws : 0 < w s
    · have hch : chW s c w = s := by unfold chW; rw [if_pos hws]
      rw [hch]
      have hT : tot w s + w s ≤ w 0 + w 1 + w 2 + w 3 + w 4 ∧ 0 ≤ tot w s ∧ (pc4 sh = 3 → tot w s = 0 ∧ w s = w 0 + w 1 + w 2 + w 3 + w 4) ∧ pc4 sh ≤ 3 ∧ w 0 + w 1 + w 2 + w 3 + w 4 ≤ w s + 14 * (pc4 (opn w 4) - 1) + pc4 (opn w 4) := by
        rcases (show s = 0 ∨ s = 1 ∨ s = 2 ∨ s = 3 by omega) with rfl | rfl | rfl | rfl <;> (first | (dsimp only [tot]; omega) | (simp only [tot, implies_true, true_and, and_true]; omega))
      obtain ⟨t1, t2, t3, t4, t5⟩ := hT
      refine ⟨by omega, t2, t1, by omega, t4, fun q => absurd q (by omega), fun _ => ?_, fun q => absurd q hpl⟩
      by_cases q3 : pc4 sh = 3
      · exact Or.inr (t3 q3)
      · refine Or.inl ?_
        rcases (show pc4 sh = 0 ∨ pc4 sh = 1 ∨ pc4 sh = 2 by omega) with q | q | q
        · have : Kq (pc4 sh) = 4096 := by rw [q]; rfl
          rw [this]; omega
        · have : Kq (pc4 sh) = 272 := by rw [q]; rfl
          rw [this]; omega
        · have : Kq (pc4 sh) = 18 := by rw [q]; rfl
          rw [this]; omega
    · have hch : chW s c w = 4 := by unfold chW; rw [if_neg hws]
      rw [hch, tot4]
      have hT : pc4 sh ≤ 3 ∧ pc4 (opn w 4) + pc4 sh ≤ 3 ∧ 1 ≤ pc4 (opn w 4) ∧ w 0 + w 1 + w 2 + w 3 ≤ 14 * pc4 (opn w 4) := by
        rcases (show s = 0 ∨ s = 1 ∨ s = 2 ∨ s = 3 by omega) with rfl | rfl | rfl | rfl <;> omega
      obtain ⟨t1, t2, t3, t4⟩ := hT
      refine ⟨by omega, by omega, by omega, by omega, t1, fun _ _ => ⟨?_, ?_⟩, fun q => absurd rfl q, fun q => absurd q hpl⟩
      · rw [hb_or, hns]
        have : b1 (hb (opn w 4) s) = 0 := by omega
        cases hq : hb (opn w 4) s with
        | true => rw [hq] at this; simp [b1] at this
        | false => rfl
      · rw [hpo]
        have e4 : w 4 = pc4 (opn w 4) := by omega
        rw [e4]
        have hK : Kq (pc4 sh + pc4 (opn w 4)) * 15 * 256 ≤ Kq (pc4 sh) * 255 ∧ 1 ≤ Kq (pc4 sh + pc4 (opn w 4)) := by
          rcases (show (pc4 sh = 0 ∧ pc4 (opn w 4) = 1) ∨ (pc4 sh = 0 ∧ pc4 (opn w 4) = 2) ∨ (pc4 sh = 0 ∧ pc4 (opn w 4) = 3) ∨ (pc4 sh = 1 ∧ pc4 (opn w 4) = 1) ∨ (pc4 sh = 1 ∧ pc4 (opn w 4) = 2) ∨ (pc4 sh = 2 ∧ pc4 (opn w 4) = 1) by have := pc4_bd sh; omega) with ⟨q1, q2⟩ | ⟨q1, q2⟩ | ⟨q1, q2⟩ | ⟨q1, q2⟩ | ⟨q1, q2⟩ | ⟨q1, q2⟩ <;> (rw [q1, q2]; decide)
        generalize Kq (pc4 sh + pc4 (opn w 4)) = A at hK ⊢
        generalize Kq (pc4 sh) = B at hK ⊢
        have z1 : w 0 + w 1 + w 2 + w 3 + pc4 (opn w 4) ≤ 15 * pc4 (opn w 4) := by omega
        calc A * (w 0 + w 1 + w 2 + w 3 + pc4 (opn w 4)) * 256 ≤ A * (15 * pc4 (opn w 4)) * 256 := Int.mul_le_mul_of_nonneg_right (Int.mul_le_mul_of_nonneg_left z1 (by omega)) (by decide)
          _ = A * 15 * 256 * pc4 (opn w 4) := by rw [← Int.mul_assoc, Int.mul_right_comm]
          _ ≤ B * 255 * pc4 (opn w 4) := Int.mul_le_mul_of_nonneg_right hK.1 (by omega)
          _ = B * pc4 (opn w 4) * 255 := Int.mul_right_comm _ _ _
end
section
/-! ===== the bits' bound ===== -/
def rng (c : Cd) : Int := c.2.1 - c.1 + 1
def pw2 (n : Nat) : Int := ((2 ^ n : Nat) : Int)
theorem pw2_pos (n : Nat) : 1 ≤ pw2 n := by
  unfold pw2
  have := Nat.pow_pos (n := n) (show 0 < 2 by decide)
  omega
theorem pw2_s (n : Nat) : pw2 (n + 1) = 2 * pw2 n := by
  unfold pw2
  rw [Nat.pow_succ]; omega
def Pot (c : Cd) (K Z : Int) : Prop := 65536 * pw2 (Dn c) * K ≤ rng c * Z
theorem stp_rng {c : Cd} (h : CdB c.1 c.2.1) (hl : les c.1 c.2.1 ≠ -9) : rng (stp c) = 2 * rng c := (stp_B h hl).2
theorem wdn_pot : ∀ (n : Nat) (c : Cd) (K Z : Int), CdB c.1 c.2.1 → Pot c K Z → Pot (wdn n c) K Z
  | 0, _, _, _, _, h => h
  | n + 1, c, K, Z, hB, h => by
    rw [wdn]
    split
    · exact h
    · rename_i hl
      refine wdn_pot n (stp c) K Z (stp_B hB hl).1 ?_
      unfold Pot at h ⊢
      rw [stp_rng hB hl, stp_D, pw2_s]
      have e1 : 65536 * (2 * pw2 (Dn c)) * K = 2 * (65536 * pw2 (Dn c) * K) := by rw [Int.mul_left_comm, Int.mul_assoc 2]
      have e2 : 2 * rng c * Z = 2 * (rng c * Z) := Int.mul_assoc _ _ _
      rw [e1, e2]
      omega
theorem prt_ratio {r b w t : Int} (hr : 16385 ≤ r) (hb : 0 ≤ b) (hw : 1 ≤ w) (ht : b + w ≤ t) (ht2 : t ≤ 64) : 255 * (r * w) ≤ (r * (b + w) / t - r * b / t) * t * 256 := by
  have htp : 0 < t := by omega
  have a1 : r * (b + w) - t < r * (b + w) / t * t := by
    have := Int.lt_ediv_add_one_mul_self (r * (b + w)) htp
    rw [Int.add_mul, Int.one_mul] at this
    omega
  have a2 : r * b / t * t ≤ r * b := Int.ediv_mul_le _ (by omega)
  have a3 : r * (b + w) = r * b + r * w := Int.mul_add _ _ _
  have a4 : r * 1 ≤ r * w := Int.mul_le_mul_of_nonneg_left hw (by omega)
  rw [Int.sub_mul]
  generalize r * (b + w) / t * t = U at *
  generalize r * b / t * t = V at *
  omega
theorem mul_le3 {a b k : Int} (hk : 0 < k) (h : a * k ≤ b * k) : a ≤ b := Int.le_of_mul_le_mul_right h hk
theorem prt_pot {c : Cd} {b w t K K' Z : Int} (hN : CdN c.1 c.2.1) (hb : 0 ≤ b) (hw : 1 ≤ w) (ht : b + w ≤ t) (ht2 : t ≤ 64) (hZ : 0 ≤ Z) (h : Pot c K Z) (hK : K' * t * 256 ≤ K * w * 255) : Pot (prt c b w t) K' Z := by
  unfold prt
  refine wdn_pot 17 _ K' Z (prt_B hN hb hw ht (by omega)) ?_
  unfold Pot at h ⊢
  have er : rng (c.1 + (c.2.1 - c.1 + 1) * b / t, c.1 + (c.2.1 - c.1 + 1) * (b + w) / t - 1, c.2.2.1, c.2.2.2) = (rng c) * (b + w) / t - rng c * b / t := by
    unfold rng; dsimp only; omega
  have eD : Dn (c.1 + (c.2.1 - c.1 + 1) * b / t, c.1 + (c.2.1 - c.1 + 1) * (b + w) / t - 1, c.2.2.1, c.2.2.2) = Dn c := rfl
  rw [er, eD]
  have hr : 16385 ≤ rng c := by have := hN.2.2; unfold rng; omega
  have hq := prt_ratio hr hb hw ht ht2
  have hX := pw2_pos (Dn c)
  generalize rng c * (b + w) / t - rng c * b / t = r1 at hq ⊢
  generalize pw2 (Dn c) = X at *
  generalize rng c = r at *
  refine mul_le3 (k := t * 256) (by omega) ?_
  calc 65536 * X * K' * (t * 256) = 65536 * X * (K' * t * 256) := by rw [Int.mul_assoc (65536 * X), Int.mul_assoc K']
    _ ≤ 65536 * X * (K * w * 255) := Int.mul_le_mul_of_nonneg_left hK (by omega)
    _ = 65536 * X * K * (w * 255) := by rw [Int.mul_assoc (65536 * X), Int.mul_assoc K]
    _ ≤ r * Z * (w * 255) := Int.mul_le_mul_of_nonneg_right h (by omega)
    _ = 255 * (r * w) * Z := by
      rw [Int.mul_comm w 255, Int.mul_assoc r Z, Int.mul_comm Z, Int.mul_assoc 255, Int.mul_assoc 255, Int.mul_left_comm r 255, Int.mul_assoc r]
    _ ≤ r1 * t * 256 * Z := Int.mul_le_mul_of_nonneg_right hq hZ
    _ = r1 * Z * (t * 256) := by
      rw [Int.mul_assoc r1 t 256, Int.mul_assoc r1 (t * 256) Z, Int.mul_comm (t * 256) Z, ← Int.mul_assoc]
theorem prt_whole {c : Cd} {t : Int} (ht : 0 < t) : prt c 0 t t = wdn 17 c := by
  unfold prt
  rw [Int.mul_zero, Int.zero_ediv, Int.add_zero, Int.zero_add, Int.mul_ediv_cancel _ (by omega)]
  congr 1
  obtain ⟨lo, hi, ow, bs⟩ := c
  dsimp only
  rw [show lo + (hi - lo + 1) - 1 = hi by omega]
theorem pot_D {c : Cd} {K Z : Int} {m : Nat} (hN : CdN c.1 c.2.1) (hK : 1 ≤ K) (hZ : Z = pw2 m) (h : Pot c K Z) : Dn c ≤ m := by
  unfold Pot at h
  have hr : rng c ≤ 65536 := by obtain ⟨a, b, _⟩ := hN; unfold rng; omega
  have hr0 : 0 ≤ rng c := by obtain ⟨a, b, q⟩ := hN; unfold rng; omega
  have hX := pw2_pos (Dn c)
  have hZp : 1 ≤ Z := by rw [hZ]; exact pw2_pos m
  have h1 : 65536 * pw2 (Dn c) * 1 ≤ 65536 * pw2 (Dn c) * K := Int.mul_le_mul_of_nonneg_left hK (by omega)
  have h2 : rng c * Z ≤ 65536 * Z := Int.mul_le_mul_of_nonneg_right hr (by omega)
  have h3 : pw2 (Dn c) ≤ pw2 m := by rw [← hZ]; omega
  unfold pw2 at h3
  have h4 : 2 ^ Dn c ≤ 2 ^ m := by omega
  exact (Nat.pow_le_pow_iff_right (by decide)).mp h4
/-- what holds where a part is written -/
def PW (s : Nat) (c : Cd) (w : Nat → Int) : Prop := CdN c.1 c.2.1 ∧ 1 ≤ w (chW s c w) ∧ 0 ≤ tot w (chW s c w) ∧ tot w (chW s c w) + w (chW s c w) ≤ tot w 5 ∧ tot w 5 ≤ 60 ∧ Dn (prt c (tot w (chW s c w)) (w (chW s c w)) (tot w 5)) ≤ 722
theorem dscW_ok {cs : Int → Int} {ctx : Nat → Int} {s m : Nat} {Z : Int} (hs : s < 4) (hc : ∀ k, 0 ≤ cs k ∧ cs k ≤ 14) (hZ : Z = pw2 m) (hm : m ≤ 720) : ∀ (N sh : Nat) (c : Cd), (∀ j, j < N → 0 ≤ ctx j) → sh < 16 → hb sh s = false → CdN c.1 c.2.1 → Pot c (Kq (pc4 sh)) Z →
    dOk (chW s) prt (PW s) cs ctx N sh c ∧ (dsc (chW s) prt cs ctx N sh c).2.1 = s ∧ CdN (dsc (chW s) prt cs ctx N sh c).2.2.1 (dsc (chW s) prt cs ctx N sh c).2.2.2.1 ∧ Pot (dsc (chW s) prt cs ctx N sh c).2.2 1 Z ∧ -1 ≤ (dsc (chW s) prt cs ctx N sh c).1 ∧ (dsc (chW s) prt cs ctx N sh c).1 < N
  | 0, sh, c, hctx, hsh, hns, hN, hP => by
    have hZ0 : 0 ≤ Z := by rw [hZ]; have := pw2_pos m; omega
    have ht : 0 < tot (wE cs (-1) sh) 5 := by
      obtain ⟨f1, f2⟩ := st_plain (cs := cs) (sh := sh)
      have g0 := f1 0 (by decide); have g1 := f1 1 (by decide); have g2 := f1 2 (by decide); have g3 := f1 3 (by decide)
      have bz0 := b1_bd (hb sh 0); have bz1 := b1_bd (hb sh 1); have bz2 := b1_bd (hb sh 2); have bz3 := b1_bd (hb sh 3)
      have gs := f1 s hs
      rw [hns] at gs
      rw [tot5]
      have : b1 false = 0 := rfl
      rcases (show s = 0 ∨ s = 1 ∨ s = 2 ∨ s = 3 by omega) with rfl | rfl | rfl | rfl <;> omega
    obtain ⟨p1, p2, p3, p4, p5, p6, p7, p8⟩ := part_dear (c := c) hs hsh hns hc ht
    have hch := p8 rfl
    dsimp only [dOk, dsc]
    generalize wE cs (-1) sh = w at *
    have hne : chW s c w ≠ 4 := by omega
    have hpot : Pot (prt c (tot w (chW s c w)) (w (chW s c w)) (tot w 5)) 1 Z := by
      rcases p7 hne with q | ⟨q1, q2⟩
      · exact prt_pot hN p2 p1 p3 (by omega) hZ0 hP (by omega)
      · rw [q1, q2, prt_whole ht]
        refine wdn_pot 17 c 1 Z ⟨hN.1, by have := hN.2.2; omega, hN.2.1⟩ ?_
        unfold Pot at hP ⊢
        have := Kq_pos (pc4 sh)
        have hX := pw2_pos (Dn c)
        have h1 : 65536 * pw2 (Dn c) * 1 ≤ 65536 * pw2 (Dn c) * Kq (pc4 sh) := Int.mul_le_mul_of_nonneg_left this (by omega)
        omega
    have hN' := prt_N (c := c) hN p2 p1 p3 (by omega)
    have hD := pot_D hN' (Int.le_refl 1) hZ hpot
    exact ⟨⟨hN, p1, p2, p3, p4, by omega⟩, hch, hN', hpot, Int.le_refl _, by decide⟩
  | N + 1, sh, c, hctx, hsh, hns, hN, hP => by
    have hZ0 : 0 ≤ Z := by rw [hZ]; have := pw2_pos m; omega
    have ih := dscW_ok (cs := cs) (ctx := ctx) hs hc hZ hm N
    have hpl := hctx N (by omega)
    rw [dOk, dsc]
    by_cases ht : tot (wE cs (ctx N) sh) 5 ≤ 0
    · rw [if_pos ht, if_pos ht]
      obtain ⟨i1, i2, i3, i4, i5, i6⟩ := ih sh c (fun j hj => hctx j (by omega)) hsh hns hN hP
      exact ⟨i1, i2, i3, i4, i5, by omega⟩
    · rw [if_neg ht, if_neg ht]
      obtain ⟨p1, p2, p3, p4, p5, p6, p7, p8⟩ := part_dear (c := c) (pl := ctx N) hs hsh hns hc (by omega)
      have hpl1 : ctx N ≠ -1 := by omega
      generalize wE cs (ctx N) sh = w at *
      have hN' := prt_N (c := c) hN p2 p1 p3 (by omega)
      by_cases hch : chW s c w = 4
      · obtain ⟨r1, r2⟩ := p6 hch hpl1
        rw [hch] at p1 p2 p3
        have hpot : Pot (prt c (tot w (chW s c w)) (w (chW s c w)) (tot w 5)) (Kq (pc4 (sh ||| opn w 4))) Z := by
          rw [hch]
          exact prt_pot hN p2 p1 p3 (by omega) hZ0 hP r2
        have hD := pot_D hN' (Kq_pos _) hZ hpot
        obtain ⟨i1, i2, i3, i4, i5, i6⟩ := ih (sh ||| opn w 4) _ (fun j hj => hctx j (by omega)) (orm_bd sh hsh _ (opn_lt w 4)) r1 hN' hpot
        rw [if_pos hch]
        exact ⟨⟨⟨hN, by rw [hch]; exact p1, by rw [hch]; exact p2, by rw [hch]; exact p3, p4, by omega⟩, fun _ => i1⟩, i2, i3, i4, i5, by omega⟩
      · have hcs : chW s c w = s := by unfold chW at hch ⊢; split; rfl; rename_i q; rw [if_neg q] at hch; exact absurd rfl hch
        have hpot : Pot (prt c (tot w (chW s c w)) (w (chW s c w)) (tot w 5)) 1 Z := by
          rcases p7 hch with q | ⟨q1, q2⟩
          · exact prt_pot hN p2 p1 p3 (by omega) hZ0 hP (by omega)
          · rw [q1, q2, prt_whole (by omega)]
            refine wdn_pot 17 c 1 Z ⟨hN.1, by have := hN.2.2; omega, hN.2.1⟩ ?_
            unfold Pot at hP ⊢
            have := Kq_pos (pc4 sh)
            have hX := pw2_pos (Dn c)
            have h1 : 65536 * pw2 (Dn c) * 1 ≤ 65536 * pw2 (Dn c) * Kq (pc4 sh) := Int.mul_le_mul_of_nonneg_left this (by omega)
            omega
        have hD := pot_D hN' (Int.le_refl 1) hZ hpot
        rw [if_neg hch]
        exact ⟨⟨⟨hN, p1, p2, p3, p4, by omega⟩, fun q => absurd q hch⟩, hcs, hN', hpot, by dsimp only; omega, by dsimp only; omega⟩
end
section
/-! ===== packing and reading, as functions of the text: pure ===== -/
def TxOk (T : List Int) : Prop := T.length ≤ 60 ∧ ∀ k : Nat, k < T.length → 0 ≤ T.getD k 0 ∧ T.getD k 0 ≤ 3
theorem srF_nat {T : List Int} {k : Nat} (h : k < T.length) : srF T (k : Int) = T.getD k 0 := by
  unfold srF; rw [if_pos (by omega), Int.toNat_natCast]
theorem srF_bd {T : List Int} (h : TxOk T) {k : Int} (h0 : 0 ≤ k) (h1 : k < T.length) : 0 ≤ srF T k ∧ srF T k ≤ 3 := by
  unfold srF; rw [if_pos ⟨h0, h1⟩]; exact h.2 _ (by omega)
theorem dsc_congr {σ : Type} {ch : σ → (Nat → Int) → Nat} {tk : σ → Int → Int → Int → σ} {cs : Int → Int} {ctx ctx' : Nat → Int} : ∀ (N sh : Nat) (c : σ), (∀ j, j < N → ctx j = ctx' j) → dsc ch tk cs ctx N sh c = dsc ch tk cs ctx' N sh c
  | 0, _, _, _ => rfl
  | N + 1, sh, c, h => by
    rw [dsc, dsc, h N (by omega), dsc_congr N sh c (fun j hj => h j (by omega)), dsc_congr N _ _ (fun j hj => h j (by omega))]
theorem dOk_congr {σ : Type} {ch : σ → (Nat → Int) → Nat} {tk : σ → Int → Int → Int → σ} {P : σ → (Nat → Int) → Prop} {cs : Int → Int} {ctx ctx' : Nat → Int} : ∀ (N sh : Nat) (c : σ), (∀ j, j < N → ctx j = ctx' j) → dOk ch tk P cs ctx N sh c = dOk ch tk P cs ctx' N sh c
  | 0, _, _, _ => rfl
  | N + 1, sh, c, h => by
    rw [dOk, dOk, h N (by omega), dOk_congr N sh c (fun j hj => h j (by omega)), dOk_congr N _ _ (fun j hj => h j (by omega))]
theorem lc1_congr {sg sg' cs : Int → Int} {o l n s f : Int} (ho : 0 ≤ o) (hn : 0 ≤ n) (h : ∀ k : Int, 0 ≤ k → k < n → sg k = sg' k) : lc1 sg cs o l n s f = lc1 sg' cs o l n s f := by
  have h2 := lng_le (o := o) (n := n) ho hn
  unfold lc1
  exact lrn_congr _ (fun j _ hj => cxp_congr (fun k q1 q2 => h k (by omega) (by omega)))
theorem tas_bd {t n : Int} (ht : 0 ≤ t) (hn : 0 ≤ n) : 0 ≤ tas t n ∧ tas t n ≤ n := by unfold tas; split <;> omega
theorem lst_congr {sg sg' cs : Int → Int} {o l r t n s f : Int} (ho : 0 ≤ o) (ht : 0 ≤ t) (hn : 0 ≤ n) (h : ∀ k : Int, 0 ≤ k → k < n + 1 → sg k = sg' k) : lst sg cs o l r t n s f = lst sg' cs o l r t n s f := by
  have hb := tas_bd (t := t) (n := n + 1) ht (by omega)
  unfold lst
  rw [lc1_congr (sg' := sg') ho hn (fun k a b => h k a (by omega)), frg_congr (sg' := sg') ho _ (fun k a b => h k (by omega) (by omega))]
theorem lfg_congr {sg sg' cs : Int → Int} {o l r n s f : Int} (ho : 0 ≤ o) (hn : 0 ≤ n) (h : ∀ k : Int, 0 ≤ k → k < n → sg k = sg' k) : lfg sg cs o l r n s f = lfg sg' cs o l r n s f := by
  unfold lfg
  rw [lc1_congr (sg' := sg') ho hn h]
theorem lfg_bd {sg cs : Int → Int} {o l r n s f : Int} : 0 ≤ lfg sg cs o l r n s f ∧ lfg sg cs o l r n s f ≤ 1 := by unfold lfg; split <;> omega
theorem ctx_congr {sg sg' : Int → Int} {o n : Int} (ho : 0 ≤ o) (hn : 0 ≤ n) (h : ∀ k : Int, 0 ≤ k → k < n → sg k = sg' k) : ∀ j : Nat, j < lng o n + 1 → cxp sg (n - (j : Int)) j = cxp sg' (n - (j : Int)) j := by
  have h2 := lng_le (o := o) (n := n) ho hn
  exact fun j hj => cxp_congr (fun k q1 q2 => h k (by omega) (by omega))
/-- counts, how often forgotten, the coder -/
abbrev PS : Type := (Int → Int) × Int × Cd
/-- the n-th sign of T packed -/
def pdn (o : Int) (T : List Int) (n : Nat) (S : PS) : Int × Nat × Cd := dsc (chW (T.getD n 0).toNat) prt S.1 (fun j => cxp (srF T) ((n : Int) - (j : Int)) j) (lng o n + 1) 0 S.2.2
def pstep (o l r t : Int) (T : List Int) (n : Nat) (S : PS) : PS := (lst (srF T) S.1 o l r t n (T.getD n 0) (pdn o T n S).1, S.2.1 + lfg (srF T) S.1 o l r n (T.getD n 0) (pdn o T n S).1, (pdn o T n S).2.2)
def pck (o l r t : Int) (T : List Int) : Nat → PS
  | 0 => (fun _ => 0, 0, (0, 65535, 0, []))
  | n + 1 => pstep o l r t T n (pck o l r t T n)
def PInv (l : Int) (n : Nat) (S : PS) : Prop := CsOk S.1 l ∧ 0 ≤ S.2.1 ∧ S.2.1 ≤ n ∧ CdN S.2.2.1 S.2.2.2.1 ∧ Pot S.2.2 1 (pw2 (12 * n))
theorem pot_up {c : Cd} {n : Nat} (h : Pot c 1 (pw2 (12 * n))) : Pot c (Kq (pc4 0)) (pw2 (12 * (n + 1))) := by
  have e : pw2 (12 * (n + 1)) = 4096 * pw2 (12 * n) := by
    unfold pw2
    rw [Nat.mul_succ, Nat.pow_add]; omega
  have e2 : Kq (pc4 0) = 4096 := by decide
  unfold Pot at h ⊢
  rw [e, e2, Int.mul_left_comm]
  omega
theorem pdn_ok {o l r t : Int} {T : List Int} {n : Nat} {S : PS} (hPr : PrOk o l r t) (hT : TxOk T) (hn : n < T.length) (h : PInv l n S) :
    dOk (chW (T.getD n 0).toNat) prt (PW (T.getD n 0).toNat) S.1 (fun j => cxp (srF T) ((n : Int) - (j : Int)) j) (lng o n + 1) 0 S.2.2 ∧ (pdn o T n S).2.1 = (T.getD n 0).toNat ∧ CdN (pdn o T n S).2.2.1 (pdn o T n S).2.2.2.1 ∧ Pot (pdn o T n S).2.2 1 (pw2 (12 * (n + 1))) ∧ -1 ≤ (pdn o T n S).1 ∧ (pdn o T n S).1 ≤ lng o n := by
  obtain ⟨i1, i2, i3, i4, i5⟩ := h
  obtain ⟨w1, w2, w3, w4, w5, w6, w7, w8⟩ := hPr
  have hs := hT.2 n hn
  have h2 := lng_le (o := o) (n := n) w1 (by omega)
  have hl := hT.1
  obtain ⟨a1, a2, a3, a4, a5, a6⟩ := dscW_ok (cs := S.1) (ctx := fun j => cxp (srF T) ((n : Int) - (j : Int)) j) (s := (T.getD n 0).toNat) (m := 12 * (n + 1)) (by omega) (fun k => by have := i1.1 k; omega) rfl (by omega) (lng o n + 1) 0 S.2.2 (fun j hj => (cxp_bd (by omega) (fun k q1 q2 => srF_bd hT (by omega) (by omega))).1) (by decide) (by unfold hb; exact Nat.zero_testBit _) i4 (pot_up i5)
  exact ⟨a1, a2, a3, a4, a5, by unfold pdn; omega⟩
theorem pstep_inv {o l r t : Int} {T : List Int} {n : Nat} {S : PS} (hPr : PrOk o l r t) (hT : TxOk T) (hn : n < T.length) (h : PInv l n S) : PInv l (n + 1) (pstep o l r t T n S) := by
  obtain ⟨a1, a2, a3, a4, a5, a6⟩ := pdn_ok hPr hT hn h
  obtain ⟨i1, i2, i3, i4, i5⟩ := h
  obtain ⟨w1, w2, w3, w4, w5, w6, w7, w8⟩ := hPr
  have hs := hT.2 n hn
  have hf := lfg_bd (sg := srF T) (cs := S.1) (o := o) (l := l) (r := r) (n := n) (s := T.getD n 0) (f := (pdn o T n S).1)
  have c1 : CsOk (lst (srF T) S.1 o l r t (n : Int) (T.getD n 0) (pdn o T n S).1) l := csOk_lst i1 w3 w1 w2 (by omega) w7 hs.1 hs.2 (fun k q1 q2 => srF_bd hT q1 (by omega))
  unfold PInv pstep
  dsimp only
  refine ⟨c1, ?_, ?_, a3, a4⟩
  · show 0 ≤ S.2.1 + lfg (srF T) S.1 o l r n (T.getD n 0) (pdn o T n S).1; omega
  · show S.2.1 + lfg (srF T) S.1 o l r n (T.getD n 0) (pdn o T n S).1 ≤ ((n + 1 : Nat) : Int); omega
theorem pck_inv {o l r t : Int} {T : List Int} (hPr : PrOk o l r t) (hT : TxOk T) : ∀ n : Nat, n ≤ T.length → PInv l n (pck o l r t T n)
  | 0, _ => by
    have h1 : CdN 0 65535 := ⟨by decide, by decide, by decide⟩
    have h2 : Pot (0, 65535, 0, []) 1 (pw2 (12 * 0)) := by unfold Pot; decide
    unfold PInv pck
    exact ⟨csOk_zero hPr.2.2.1, Int.le_refl _, Int.le_refl _, h1, h2⟩
  | n + 1, hn => pstep_inv hPr hT (by omega) (pck_inv hPr hT n (by omega))
theorem pck_D {o l r t : Int} {T : List Int} (hPr : PrOk o l r t) (hT : TxOk T) {n : Nat} (hn : n ≤ T.length) : Dn (pck o l r t T n).2.2 ≤ 720 := by
  have h := pck_inv hPr hT n hn
  have := pot_D h.2.2.2.1 (Int.le_refl 1) rfl h.2.2.2.2
  have := hT.1
  omega
theorem pdn_congr {o : Int} {T T' : List Int} {n : Nat} {S : PS} (ho : 0 ≤ o) (hn : n < T.length) (hn' : n < T'.length) (h : ∀ k : Nat, k ≤ n → T.getD k 0 = T'.getD k 0) : pdn o T n S = pdn o T' n S := by
  unfold pdn
  rw [h n (Nat.le_refl _)]
  refine dsc_congr _ _ _ (ctx_congr ho (by omega) (fun k q1 q2 => ?_))
  have e1 := srF_nat (T := T) (k := k.toNat) (by omega)
  have e2 := srF_nat (T := T') (k := k.toNat) (by omega)
  rw [Int.toNat_of_nonneg q1] at e1 e2
  rw [e1, e2, h _ (by omega)]
theorem pck_congr {o l r t : Int} {T T' : List Int} (ho : 0 ≤ o) (ht : 0 ≤ t) : ∀ n : Nat, n ≤ T.length → n ≤ T'.length → (∀ k : Nat, k < n → T.getD k 0 = T'.getD k 0) → pck o l r t T n = pck o l r t T' n
  | 0, _, _, _ => rfl
  | n + 1, h1, h2, h => by
    have hk : ∀ k : Int, 0 ≤ k → k < (n : Int) + 1 → srF T k = srF T' k := by
      intro k q1 q2
      have e1 := srF_nat (T := T) (k := k.toNat) (by omega)
      have e2 := srF_nat (T := T') (k := k.toNat) (by omega)
      rw [Int.toNat_of_nonneg q1] at e1 e2
      rw [e1, e2, h _ (by omega)]
    rw [pck, pck, pck_congr ho ht n (by omega) (by omega) (fun k hk => h k (by omega))]
    unfold pstep
    rw [pdn_congr (T' := T') ho (by omega) (by omega) (fun k hk => h k (by omega)), h n (by omega), lst_congr (sg' := srF T') ho ht (by omega) hk, lfg_congr (sg' := srF T') ho (by omega) (fun k a b => hk k a (by omega))]
/-! reading -/
def chR (c : Rd) (w : Nat → Int) : Nat := chAt w (((c.2.2.2.1 - c.1 + 1) * tot w 5 - 1) / (c.2.1 - c.1 + 1))
theorem chAt_le (w : Nat → Int) (v : Int) : chAt w v ≤ 4 := by unfold chAt; split <;> (try split) <;> (try split) <;> (try split) <;> omega
/-- v lies in the part that is chosen -/
theorem chAt_in {w : Nat → Int} {v : Int} (h0 : 0 ≤ v) (h1 : v < tot w 5) : tot w (chAt w v) ≤ v ∧ v < tot w (chAt w v) + w (chAt w v) ∧ (chAt w v = 4 → tot w 4 ≤ v) := by
  have e1 : tot w 1 = 0 + w 0 := rfl
  have e2 : tot w 2 = tot w 1 + w 1 := rfl
  have e3 : tot w 3 = tot w 2 + w 2 := rfl
  have e4 : tot w 4 = tot w 3 + w 3 := rfl
  have e5 : tot w 5 = tot w 4 + w 4 := rfl
  have e0 : tot w 0 = 0 := rfl
  unfold chAt
  by_cases q1 : v < tot w 1
  · rw [if_pos q1]; omega
  · rw [if_neg q1]
    by_cases q2 : v < tot w 2
    · rw [if_pos q2]; omega
    · rw [if_neg q2]
      by_cases q3 : v < tot w 3
      · rw [if_pos q3]; omega
      · rw [if_neg q3]
        by_cases q4 : v < tot w 4
        · rw [if_pos q4]; omega
        · rw [if_neg q4]; omega
theorem val_in {lo hi va b u t : Int} (hN : CdN lo hi) (h1 : lo ≤ va) (h2 : va ≤ hi) (ht : 1 ≤ t) (hb : b ≤ ((va - lo + 1) * t - 1) / (hi - lo + 1)) (hu : ((va - lo + 1) * t - 1) / (hi - lo + 1) < u) : lo + (hi - lo + 1) * b / t ≤ va ∧ va ≤ lo + (hi - lo + 1) * u / t - 1 := by
  obtain ⟨n1, n2, n3⟩ := hN
  have hr : 0 < hi - lo + 1 := by omega
  generalize hi - lo + 1 = r at *
  generalize hx : (va - lo + 1) * t - 1 = X at *
  have a1 : X / r * r ≤ X := Int.ediv_mul_le _ (by omega)
  have a2 : X < (X / r + 1) * r := Int.lt_ediv_add_one_mul_self X hr
  have b1 : b * r ≤ X / r * r := Int.mul_le_mul_of_nonneg_right hb (by omega)
  have b2 : (X / r + 1) * r ≤ u * r := Int.mul_le_mul_of_nonneg_right (by omega) (by omega)
  rw [Int.mul_comm b r] at b1
  rw [Int.mul_comm u r] at b2
  have c1 : r * b / t ≤ va - lo := by
    apply Int.le_of_lt_add_one
    apply Int.ediv_lt_of_lt_mul (by omega)
    omega
  have c2 : va - lo + 1 ≤ r * u / t := by
    apply Int.le_ediv_of_mul_le (by omega)
    omega
  omega
def PR (K : Int) (c : Rd) (w : Nat → Int) : Prop := CdN c.1 c.2.1 ∧ RdV K c ∧ K ≤ 80000 ∧ 1 ≤ w (chR c w) ∧ 0 ≤ tot w (chR c w) ∧ tot w (chR c w) + w (chR c w) ≤ tot w 5 ∧ 1 ≤ tot w 5 ∧ tot w 5 ≤ 60 ∧ c.1 + (c.2.1 - c.1 + 1) * tot w (chR c w) / tot w 5 ≤ c.2.2.2.1 ∧ c.2.2.2.1 ≤ c.1 + (c.2.1 - c.1 + 1) * (tot w (chR c w) + w (chR c w)) / tot w 5 - 1
theorem tot_mono {w : Nat → Int} (h : ∀ k, k < 5 → 0 ≤ w k) (k : Nat) (hk : k ≤ 4) : 0 ≤ tot w k ∧ tot w k + w k ≤ tot w 5 := by
  have g0 := h 0 (by decide); have g1 := h 1 (by decide); have g2 := h 2 (by decide); have g3 := h 3 (by decide); have g4 := h 4 (by decide)
  have e1 : tot w 1 = 0 + w 0 := rfl
  have e2 : tot w 2 = tot w 1 + w 1 := rfl
  have e3 : tot w 3 = tot w 2 + w 2 := rfl
  have e4 : tot w 4 = tot w 3 + w 3 := rfl
  have e5 : tot w 5 = tot w 4 + w 4 := rfl
  have e0 : tot w 0 = 0 := rfl
  rcases (show k = 0 ∨ k = 1 ∨ k = 2 ∨ k = 3 ∨ k = 4 by omega) with rfl | rfl | rfl | rfl | rfl <;> omega
theorem chR_PR {K : Int} {c : Rd} {w : Nat → Int} (hN : CdN c.1 c.2.1) (hV : RdV K c) (hK : K ≤ 80000) (hw : ∀ k, k < 5 → 0 ≤ w k) (ht : 1 ≤ tot w 5) (ht2 : tot w 5 ≤ 60) : PR K c w ∧ chR c w ≤ 4 ∧ (chR c w = 4 → 1 ≤ w 4) := by
  obtain ⟨n1, n2, n3⟩ := id hN
  obtain ⟨v1, v2, v3⟩ := id hV
  have hr : 0 < c.2.1 - c.1 + 1 := by omega
  have m1 : 1 * 1 ≤ (c.2.2.2.1 - c.1 + 1) * tot w 5 := Int.mul_le_mul (by omega) ht (by decide) (by omega)
  have m2 : (c.2.2.2.1 - c.1 + 1) * tot w 5 ≤ (c.2.1 - c.1 + 1) * tot w 5 := Int.mul_le_mul_of_nonneg_right (by omega) (by omega)
  have h0 : 0 ≤ ((c.2.2.2.1 - c.1 + 1) * tot w 5 - 1) / (c.2.1 - c.1 + 1) := Int.ediv_nonneg (by omega) (by omega)
  have h1 : ((c.2.2.2.1 - c.1 + 1) * tot w 5 - 1) / (c.2.1 - c.1 + 1) < tot w 5 := by
    apply Int.ediv_lt_of_lt_mul hr
    rw [Int.mul_comm (tot w 5)]
    omega
  obtain ⟨i1, i2, i3⟩ := chAt_in h0 h1
  have h4 : chR c w ≤ 4 := chAt_le _ _
  have tm := tot_mono hw (chR c w) h4
  have vi := val_in hN v1 v2 ht i1 i2
  refine ⟨⟨hN, hV, hK, ?_, tm.1, tm.2, ht, ht2, vi.1, vi.2⟩, h4, fun q => ?_⟩
  · unfold chR; omega
  · have e : w (chR c w) = w 4 := by rw [q]
    unfold chR at e
    omega
theorem rprt_N {sf : Int → Int} {c : Rd} {b w t : Int} (hN : CdN c.1 c.2.1) (hb : 0 ≤ b) (hw : 1 ≤ w) (ht : b + w ≤ t) (ht2 : t ≤ 5000) : CdN (rprt sf c b w t).1 (rprt sf c b w t).2.1 := by
  unfold rprt
  have h := prt_B hN hb hw ht ht2
  refine rdn_N sf 17 _ h ?_
  have e : (2 : Int) ^ 17 = 131072 := by decide
  rw [e]
  obtain ⟨h1, h2, h3⟩ := h
  show 131072 ≤ (c.1 + (c.2.1 - c.1 + 1) * (b + w) / t - 1 - (c.1 + (c.2.1 - c.1 + 1) * b / t) + 1) * 131072
  omega
theorem rprt_V {sf : Int → Int} (hsf : ∀ k, sf k = 0 ∨ sf k = 1) {K : Int} {c : Rd} {b w t : Int} (hV : RdV K c) (h1 : c.1 + (c.2.1 - c.1 + 1) * b / t ≤ c.2.2.2.1) (h2 : c.2.2.2.1 ≤ c.1 + (c.2.1 - c.1 + 1) * (b + w) / t - 1) : RdV (K + 17) (rprt sf c b w t) := by
  unfold rprt
  exact rdn_V sf hsf 17 K _ ⟨h1, h2, hV.2.2⟩
theorem RdV_up {K K' : Int} {c : Rd} (h : RdV K c) (hk : K ≤ K') : RdV K' c := ⟨h.1, h.2.1, h.2.2.1, by have := h.2.2.2.1; omega, h.2.2.2.2.1, by have := h.2.2.2.2.2; omega⟩
theorem dscR_ok {cs : Int → Int} {ctx : Nat → Int} {sf : Int → Int} (hsf : ∀ k, sf k = 0 ∨ sf k = 1) (hc : ∀ k, 0 ≤ cs k ∧ cs k ≤ 14) {K9 : Int} (hK9 : K9 ≤ 80000) : ∀ (N sh : Nat) (K : Int) (c : Rd), (∀ j, j < N → 0 ≤ ctx j) → sh < 16 → pc4 sh ≤ 3 → CdN c.1 c.2.1 → RdV K c → K + 17 * (N + 1) ≤ K9 →
    dOk chR (rprt sf) (PR K9) cs ctx N sh c ∧ (dsc chR (rprt sf) cs ctx N sh c).2.1 ≤ 3 ∧ CdN (dsc chR (rprt sf) cs ctx N sh c).2.2.1 (dsc chR (rprt sf) cs ctx N sh c).2.2.2.1 ∧ RdV K9 (dsc chR (rprt sf) cs ctx N sh c).2.2 ∧ RdV (K + 17 * (N + 1)) (dsc chR (rprt sf) cs ctx N sh c).2.2 ∧ -1 ≤ (dsc chR (rprt sf) cs ctx N sh c).1 ∧ (dsc chR (rprt sf) cs ctx N sh c).1 < N
  | 0, sh, K, c, hctx, hsh, hp3, hN, hV, hK => by
    obtain ⟨f1, f2⟩ := st_plain (cs := cs) (sh := sh)
    have g0 := f1 0 (by decide); have g1 := f1 1 (by decide); have g2 := f1 2 (by decide); have g3 := f1 3 (by decide)
    have bz0 := b1_bd (hb sh 0); have bz1 := b1_bd (hb sh 1); have bz2 := b1_bd (hb sh 2); have bz3 := b1_bd (hb sh 3)
    have hpc : pc4 sh = b1 (hb sh 0) + b1 (hb sh 1) + b1 (hb sh 2) + b1 (hb sh 3) := rfl
    have t5 := tot5 (wE cs (-1) sh)
    dsimp only [dOk, dsc]
    generalize wE cs (-1) sh = w at *
    have hw : ∀ k, k < 5 → 0 ≤ w k := by
      intro k hk
      rcases (show k = 0 ∨ k = 1 ∨ k = 2 ∨ k = 3 ∨ k = 4 by omega) with rfl | rfl | rfl | rfl | rfl <;> omega
    obtain ⟨hP, h4, h4w⟩ := chR_PR hN (RdV_up hV (show K ≤ K9 by omega)) hK9 hw (by omega) (by omega)
    obtain ⟨q1, q2, q3, q4, q5, q6, q7, q8, q9, q10⟩ := id hP
    have hN' := rprt_N (sf := sf) hN q5 q4 q6 (by omega)
    have hV' := rprt_V hsf hV q9 q10
    refine ⟨hP, ?_, hN', RdV_up hV' (by omega), RdV_up hV' (by omega), Int.le_refl _, by decide⟩
    rcases Nat.lt_or_ge (chR c w) 4 with z | z
    · omega
    · have := h4w (by omega); omega
  | N + 1, sh, K, c, hctx, hsh, hp3, hN, hV, hK => by
    have ih := dscR_ok (cs := cs) (ctx := ctx) hsf hc hK9 N
    have hpl := hctx N (by omega)
    rw [dOk, dsc]
    by_cases ht : tot (wE cs (ctx N) sh) 5 ≤ 0
    · rw [if_pos ht, if_pos ht]
      obtain ⟨i1, i2, i3, i4, i5, i6, i7⟩ := ih sh K c (fun j hj => hctx j (by omega)) hsh hp3 hN hV (by omega)
      exact ⟨i1, i2, i3, i4, RdV_up i5 (by omega), i6, by omega⟩
    · rw [if_neg ht, if_neg ht]
      obtain ⟨f1, f2⟩ := st_facts (cs := cs) (pl := ctx N) hsh (by omega) hc
      generalize wE cs (ctx N) sh = w at *
      have g0 := f1 0 (by decide); have g1 := f1 1 (by decide); have g2 := f1 2 (by decide); have g3 := f1 3 (by decide)
      have bp0 := b1_bd (hb (opn w 4) 0); have bp1 := b1_bd (hb (opn w 4) 1); have bp2 := b1_bd (hb (opn w 4) 2); have bp3 := b1_bd (hb (opn w 4) 3)
      have hop : opn w 4 < 16 := opn_lt _ 4
      have bq := pc4_bd (opn w 4)
      have hd : sh &&& opn w 4 = 0 := (and0 _ hsh _ hop).mpr ⟨by omega, by omega, by omega, by omega⟩
      have hpo := pc4_or _ hsh _ hop hd
      have t5 := tot5 w
      have hw : ∀ k, k < 5 → 0 ≤ w k := by
        intro k hk
        rcases (show k = 0 ∨ k = 1 ∨ k = 2 ∨ k = 3 ∨ k = 4 by omega) with rfl | rfl | rfl | rfl | rfl <;> omega
      obtain ⟨hP, h4, h4w⟩ := chR_PR hN (RdV_up hV (show K ≤ K9 by omega)) hK9 hw (by omega) (by omega)
      obtain ⟨q1, q2, q3, q4, q5, q6, q7, q8, q9, q10⟩ := id hP
      have hN' := rprt_N (sf := sf) hN q5 q4 q6 (by omega)
      have hV' := rprt_V hsf hV q9 q10
      by_cases hch : chR c w = 4
      · have := h4w hch
        obtain ⟨i1, i2, i3, i4, i5, i6, i7⟩ := ih (sh ||| opn w 4) (K + 17) _ (fun j hj => hctx j (by omega)) (orm_bd sh hsh _ hop) (by omega) hN' hV' (by omega)
        rw [if_pos hch]
        exact ⟨⟨hP, fun _ => i1⟩, i2, i3, i4, RdV_up i5 (by omega), i6, by omega⟩
      · rw [if_neg hch]
        exact ⟨⟨hP, fun q => absurd q hch⟩, by dsimp only; omega, hN', RdV_up hV' (by omega), RdV_up hV' (by omega), by dsimp only; omega, by dsimp only; omega⟩
end
section
/-! ===== Packer: packsNext, repacks, readsNext, weighs ===== -/
/-- the packer b has these parameters, the text T, and n of its signs packed -/
def PkS (h : mH) (b : Nat) (o l r t : Int) (T : List Int) (n : Nat) : Prop := PaS h (b + 1) o l r t ∧ RowL h (b + 1 + 1) T ∧ h b 4 = (n : Int) ∧ CtxS h (b + 4) (pck o l r t T n).1 ∧ h b 5 = (pck o l r t T n).2.1 ∧ RgW h (b + 6) (pck o l r t T n).2.2
/-- all but a packer's own cells is as it was -/
def FrP (b : Nat) (h h' : mH) : Prop := ∀ i, i < b ∨ b + 11 ≤ i → h' i = h i
theorem FrP.tr {b : Nat} {h h1 h2 : mH} (a : FrP b h h1) (c : FrP b h1 h2) : FrP b h h2 := fun i q => (c i q).trans (a i q)
theorem rowL_sg {h : mH} {r : Nat} {T : List Int} (H : RowL h r T) : ∀ k : Int, 0 ≤ k → k < T.length → h (r + 1) k = srF T k := by
  intro k h0 h1
  have := H.2 k.toNat (by omega)
  rw [Int.toNat_of_nonneg h0] at this
  rw [this]; unfold srF; rw [if_pos ⟨h0, h1⟩]
theorem pkT_of {h : mH} {b : Nat} {o l r t : Int} {T : List Int} {n : Nat} {cs : Int → Int} (hPr : PrOk o l r t) (hT : TxOk T) (hn : n ≤ T.length) (hPa : PaS h (b + 1) o l r t) (hR : RowL h (b + 1 + 1) T) (e4 : h b 4 = (n : Int)) (hC : CtxS h (b + 4) cs) (hok : CsOk cs l) : PkT h b o n (h (b + 1 + 2)) cs := by
  have hl := hT.1
  refine ⟨hPa.1, e4, rfl, hC.1, hPr.1, hPr.2.1, by omega, by rw [hR.1]; omega, by rw [hR.1]; omega, fun k q1 q2 => ?_, csOk_bd hok hPr.2.2.2.1⟩
  have := rowL_sg hR k q1 (by omega)
  have e : h (b + 1 + 2) k = srF T k := this
  rw [e]; exact srF_bd hT q1 (by omega)
theorem chW_le (s : Nat) (hs : s < 4) (c : Cd) (w : Nat → Int) : chW s c w ≤ 4 := by unfold chW; split <;> omega

set_option maxHeartbeats 4000000 in
set_option maxRecDepth 100000 in
theorem pk_packsNext {x : mX} {h : mH} {Q : Int → mH → Prop} {b n : Nat} {o l r t : Int} {T : List Int} (hb : isPk b) (hPr : PrOk o l r t) (hT : TxOk T) (hn : n < T.length) (H : PkS h b o l r t T n) (hQ : ∀ h', PkS h' b o l r t T (n + 1) → FrP b h h' → Q (pdn o T n (pck o l r t T n)).1 h') : CtI x mtX3_packsNext [xR b] h Q := by
  have iv := pck_inv hPr hT n (by omega)
  obtain ⟨ok1, ok2, ok3, ok4, ok5, ok6⟩ := pdn_ok hPr hT hn iv
  obtain ⟨hPa, hR, e4, hC, e5, hG⟩ := H
  have eP : pck o l r t T (n + 1) = pstep o l r t T n (pck o l r t T n) := rfl
  have hs := hT.2 n hn
  have hl60 := hT.1
  generalize hSe : pck o l r t T n = S at *
  refine ct_go (ls := [xR b, xU, xU]) (by decide +kernel) (Nat.le_of_ble_eq_true rfl) rfl ?_
  refine go_aload_n dX3_packsNext_0 rfl ?_
  refine gfX3_past hb.1 flX3_12 dX3_packsNext_1 ?_
  refine gfX4_signs hb.2.1.1 flX3_68 dX3_packsNext_4 ?_
  refine go_aload_n dX3_packsNext_7 rfl ?_
  refine gfX3_packed hb.1 flX3_39 dX3_packsNext_8 ?_
  rw [e4]
  refine go_cV1I hb.2.1.2.1 vlX3_81 dX3_packsNext_11 (by decide) rfl rfl (by decide) (Nat.le_of_ble_eq_true rfl) (row_atL hb.2.1.2 (bs := T) hR (by omega) ?_)
  rw [srF_nat hn]
  refine go_istore_n 1 dX3_packsNext_14 rfl (Nat.le_of_ble_eq_true rfl) rfl (by dsimp only [List.set]) ?_
  refine go_aload_n dX3_packsNext_15 rfl ?_
  refine gfX3_range hb.1 flX3_28 dX3_packsNext_16 ?_
  refine go_iload_n dX3_packsNext_19 rfl ?_
  refine go_cV1V hb.2.2.2.1.1 vlX3_85 dX3_packsNext_20 (by decide) rfl rfl (by decide) (Nat.le_of_ble_eq_true rfl) (rg_wants hb.2.2.2.1 ?_)
  have nE : ∀ i, i ≠ b + 6 → hset h (b + 6) 4 (T.getD n 0) i = h i := fun i q => hset_ni q
  generalize hsT : T.getD n 0 = s at hs ok1 nE ⊢
  have hR1 : RgW (hset h (b + 6) 4 s) (b + 6) S.2.2 := ⟨by rw [hset_nk (by decide)]; exact hG.1, by rw [hset_nk (by decide)]; exact hG.2.1, by rw [hset_nk (by decide)]; exact hG.2.2.1, by rw [hset_nk (by decide)]; exact hG.2.2.2.1, hG.2.2.2.2.congr (nE _ (by omega)) (nE _ (by omega))⟩
  have hPT : PkT (hset h (b + 6) 4 s) b o n (hset h (b + 6) 4 s (b + 1 + 2)) S.1 := pkT_of (l := l) (r := r) (t := t) (T := T) hPr hT (by omega) (by unfold PaS; rw [nE _ (by omega)]; exact hPa) (hR.congr (nE _ (by omega)) (nE _ (by omega))) (by rw [nE _ (by omega)]; exact e4) ⟨by rw [nE _ (by omega)]; exact hC.1, by rw [nE _ (by omega)]; exact hC.2⟩ iv.1
  have hctx : ∀ j : Nat, j < lng o n + 1 → cxp (hset h (b + 6) 4 s (b + 1 + 2)) ((n : Int) - (j : Int)) j = cxp (srF T) ((n : Int) - (j : Int)) j := ctx_congr hPr.1 (by omega) (fun k q1 q2 => by rw [nE _ (by omega)]; exact rowL_sg hR k q1 (by omega))
  refine go_aload_n dX3_packsNext_23 rfl ?_
  refine go_aload_n dX3_packsNext_24 rfl ?_
  refine gfX3_range hb.1 flX3_28 dX3_packsNext_25 ?_
  refine go_cV1I hb.1 vlX3_89 dX3_packsNext_28 (by decide) rfl rfl (by decide) (Nat.le_of_ble_eq_true rfl) (pk_descends (TS := fun h c => RgW h (b + 6) c ∧ h (b + 6) 4 = s) (T := fun i => i = b + 6 ∨ i = b + 6 + 1 ∨ i = b + 6 + 2) (ch := chW s.toNat) (tk := prt) (P := PW s.toNat) (o := o) (n := (n : Int)) (sg := hset h (b + 6) 4 s (b + 1 + 2)) (cs := S.1) (c := S.2.2) hb hb.2.2.2.1.1 (by decide) rfl rfl rfl ulX3_120_X5 ulX3_132_X5 (by decide) (by decide) (fun i q => by omega) (fun h h2 c q Z => ?_) (chW_le s.toNat (by omega)) (fun h2 c w sh Q2 Z St Wo Pw q => ?_) (fun h2 c w Q2 Z Wo Pw q => ?_) hPT ⟨hR1, hset_eq _ _ _ _⟩ ?_ ?_)
  · obtain ⟨⟨z1, z2, z3, z4, z5⟩, z6⟩ := Z
    have e0 := q (b + 6) (Or.inl rfl)
    refine ⟨⟨by rw [e0]; exact z1, by rw [e0]; exact z2, by rw [e0]; exact z3, by rw [e0]; exact z4, z5.congr (q _ (Or.inr (Or.inl rfl))) (q _ (Or.inr (Or.inr rfl)))⟩, by rw [e0]; exact z6⟩
  · refine rg_chooses_w (s := s) hb.2.2.2.1 hb.2.2.2.2 Z.1.2.2.2.1 Z.2 (by omega) (by omega) ?_
    have e0 := St.1 s.toNat (by omega)
    rw [Int.toNat_of_nonneg (by omega)] at e0
    rw [e0]
    have e9 : (if 0 < w s.toNat then s else 4) = ((chW s.toNat c w : Nat) : Int) := by unfold chW; split <;> omega
    rw [e9]; exact q
  · obtain ⟨p1, p2, p3, p4, p5, p6⟩ := Pw
    refine rg_takes_w hb.2.2.2.1 Z.1 p1 p3 p2 p4 (by omega) p6 (fun h3 R3 F3 => q h3 ⟨R3, by rw [F3.2.1]; exact Z.2⟩ (fun i qi => F3.1 i (fun w => qi (Or.inl w)) (fun w => qi (Or.inr (Or.inl w))) (fun w => qi (Or.inr (Or.inr w)))))
  · rw [dOk_congr _ _ _ hctx]; exact ok1
  intro h2 TT2 F2 _
  rw [dsc_congr _ _ _ hctx] at TT2 ⊢
  replace TT2 := TT2.1
  have eqD : dsc (chW s.toNat) prt S.1 (fun j => cxp (srF T) ((n : Int) - (j : Int)) j) (lng o n + 1) 0 S.2.2 = pdn o T n S := by unfold pdn; rw [hsT]
  rw [eqD] at TT2 ⊢
  have nF : ∀ i, i ≠ b → i ≠ b + 6 → i ≠ b + 6 + 1 → i ≠ b + 6 + 2 → i ≠ b + 9 → i ≠ b + 9 + 1 → h2 i = hset h (b + 6) 4 s i := fun i q1 q2 q3 q4 q5 q6 => F2.1 i (by omega) q1 q5 q6
  have hsg2 : ∀ k : Int, 0 ≤ k → k < T.length → h2 (b + 1 + 2) k = srF T k := by intro k q1 q2; rw [nF (b + 1 + 2) (by omega) (by omega) (by omega) (by omega) (by omega) (by omega), nE _ (by omega)]; exact rowL_sg hR k q1 q2
  refine go_istore_n 2 dX3_packsNext_31 rfl (Nat.le_of_ble_eq_true rfl) rfl (by dsimp only [List.set]) ?_
  refine go_aload_n dX3_packsNext_32 rfl ?_
  refine go_iload_n dX3_packsNext_33 rfl ?_
  refine go_iload_n dX3_packsNext_34 rfl ?_
  refine go_cV2V hb.1 vlX3_93 dX3_packsNext_35 (by decide) rfl rfl (by decide) (Nat.le_of_ble_eq_true rfl) (pk_learns (o := o) (l := l) (r := r) (t := t) (n := (n : Int)) (s := s) (f := (pdn o T n S).1) (sg := h2 (b + 1 + 2)) (cs := S.1) hb hPr ⟨?_, ?_, ?_, ?_⟩ ?_ rfl ⟨?_, ?_⟩ iv.1 ?_ ?_ (by omega) ?_ ?_ ?_ hs.1 hs.2 ok6 ?_)
  · rw [nF (b + 1) (by omega) (by omega) (by omega) (by omega) (by omega) (by omega), nE (b + 1) (by omega)]; exact hPa.1
  · rw [nF (b + 1) (by omega) (by omega) (by omega) (by omega) (by omega) (by omega), nE (b + 1) (by omega)]; exact hPa.2.1
  · rw [nF (b + 1) (by omega) (by omega) (by omega) (by omega) (by omega) (by omega), nE (b + 1) (by omega)]; exact hPa.2.2.1
  · rw [nF (b + 1) (by omega) (by omega) (by omega) (by omega) (by omega) (by omega), nE (b + 1) (by omega)]; exact hPa.2.2.2
  · rw [F2.2 4 (by decide), nE b (by omega)]; exact e4
  · rw [nF (b + 4 + 1) (by omega) (by omega) (by omega) (by omega) (by omega) (by omega), nE _ (by omega)]; exact hC.1
  · rw [nF (b + 4) (by omega) (by omega) (by omega) (by omega) (by omega) (by omega), nE _ (by omega)]; exact hC.2
  · rw [F2.2 5 (by decide), nE b (by omega), e5]; exact iv.2.1
  · rw [F2.2 5 (by decide), nE b (by omega), e5]; have := iv.2.2.1; omega
  · rw [nF (b + 1 + 1) (by omega) (by omega) (by omega) (by omega) (by omega) (by omega), nE _ (by omega), hR.1]; omega
  · rw [nF (b + 1 + 1) (by omega) (by omega) (by omega) (by omega) (by omega) (by omega), nE _ (by omega), hR.1]; omega
  · intro k q1 q2
    rw [hsg2 k q1 (by omega)]
    exact srF_bd hT q1 (by omega)
  intro h3 C3 F3 E4 E5 EB
  rw [lst_congr (sg' := srF T) hPr.1 hPr.2.2.2.2.2.2.1 (by omega) (fun k q1 q2 => hsg2 k q1 (by omega))] at C3
  rw [lfg_congr (sg' := srF T) hPr.1 (by omega) (fun k q1 q2 => hsg2 k q1 (by omega))] at E5
  refine go_iload_n dX3_packsNext_38 rfl ?_
  refine go_ireturn dX3_packsNext_39 rfl ?_
  refine hQ h3 ⟨?_, ?_, ?_, ⟨?_, ?_⟩, ?_, ?_⟩ (fun i q => ?_)
  · unfold PaS; rw [F3 (b + 1) (by omega) (by omega) (by omega), nF (b + 1) (by omega) (by omega) (by omega) (by omega) (by omega) (by omega), nE _ (by omega)]; exact hPa
  · refine hR.congr ?_ ?_
    · rw [F3 (b + 1 + 1) (by omega) (by omega) (by omega), nF (b + 1 + 1) (by omega) (by omega) (by omega) (by omega) (by omega) (by omega), nE _ (by omega)]
    · rw [F3 (b + 1 + 1 + 1) (by omega) (by omega) (by omega), nF (b + 1 + 1 + 1) (by omega) (by omega) (by omega) (by omega) (by omega) (by omega), nE _ (by omega)]
  · rw [E4]; rfl
  · rw [C3.1, eP]; unfold pstep; rw [hsT]
  · rw [C3.2, eP]; unfold pstep; rw [hsT]
  · rw [E5, F2.2 5 (by decide), nE b (by omega), e5, eP]; unfold pstep; rw [hsT]
  · rw [eP]
    have e6 : h3 (b + 6) = h2 (b + 6) := F3 _ (by omega) (by omega) (by omega)
    refine ⟨by rw [e6]; exact TT2.1, by rw [e6]; exact TT2.2.1, by rw [e6]; exact TT2.2.2.1, by rw [e6]; exact TT2.2.2.2.1, TT2.2.2.2.2.congr (F3 _ (by omega) (by omega) (by omega)) (F3 _ (by omega) (by omega) (by omega))⟩
  · rw [F3 i (by omega) (by omega) (by omega), nF i (by omega) (by omega) (by omega) (by omega) (by omega) (by omega), nE i (by omega)]
end
section
/-! ===== Packer: repacks, startsLike, readsNext, weighs ===== -/
/-- what holds of a packer at any time -/
def PkZ (h : mH) (b : Nat) : Prop := (∀ k, k < 0 ∨ 340 ≤ k → h (b + 4 + 1) k = 0) ∧ 0 ≤ h (b + 6 + 1) 1 ∧ 0 ≤ h (b + 1 + 1) 1
theorem PkS.z {h : mH} {b : Nat} {o l r t : Int} {T : List Int} {n : Nat} (hPr : PrOk o l r t) (hT : TxOk T) (hn : n ≤ T.length) (H : PkS h b o l r t T n) : PkZ h b := by
  obtain ⟨hPa, hR, e4, hC, e5, hG⟩ := H
  refine ⟨fun k hk => by rw [hC.1]; exact (pck_inv hPr hT n hn).1.2 k hk, by rw [hG.2.2.2.2.1]; omega, by rw [hR.1]; omega⟩

set_option maxHeartbeats 4000000 in
set_option maxRecDepth 100000 in
theorem pk_repacks {x : mX} {h : mH} {Q : mH → Prop} {b : Nat} {o l r t : Int} {T : List Int} (hb : isPk b) (hPr : PrOk o l r t) (hT : TxOk T) (hPa : PaS h (b + 1) o l r t) (hR : RowL h (b + 1 + 1) T) (hz : PkZ h b) (hQ : ∀ h', PkS h' b o l r t T T.length → FrP b h h' → Q h') : CtV x mtX3_repacks [xR b] h Q := by
  refine ct_go (ls := [xR b, xU, xU]) (by decide +kernel) (Nat.le_of_ble_eq_true rfl) rfl ?_
  refine go_aload_n dX3_repacks_0 rfl ?_
  refine go_cV0V hb.1 vlX3_65 dX3_repacks_1 (by decide) rfl rfl (by decide) (Nat.le_of_ble_eq_true rfl) (pk_startsAnew hb rfl hz.1 hz.2.1 ?_)
  intro h1 a4 a5 aC aR aF
  have H1 : PkS h1 b o l r t T 0 := ⟨by unfold PaS; rw [aF (b + 1) (by omega) (by omega) (by omega) (by omega) (by omega)]; exact hPa, hR.congr (aF _ (by omega) (by omega) (by omega) (by omega) (by omega)) (aF _ (by omega) (by omega) (by omega) (by omega) (by omega)), a4, aC, a5, aR⟩
  refine go_aload_n dX3_repacks_4 rfl ?_
  refine gfX3_past hb.1 flX3_12 dX3_repacks_5 ?_
  refine gfX4_signs hb.2.1.1 flX3_68 dX3_repacks_8 ?_
  refine gfX6_size hb.2.1.2.1 flX3_72 dX3_repacks_11 ?_
  rw [H1.2.1.1]
  refine go_istore_n 1 dX3_repacks_14 rfl (Nat.le_of_ble_eq_true rfl) rfl (by dsimp only [List.set]) ?_
  refine go_iconst dX3_repacks_15 ⟨by decide, by decide⟩ ?_
  refine go_istore_n 2 dX3_repacks_16 rfl (Nat.le_of_ble_eq_true rfl) rfl (by dsimp only [List.set]) ?_
  have hl60 := hT.1
  refine up_indN (P := fun n => ∀ hh : mH, PkS hh b o l r t T n → FrP b h hh → Go x mtX3_repacks 17 [xR b, xI (T.length : Int), xI (n : Int)] [] hh (qV Q)) T.length (fun n hn ih hh H F => ?_) h1 H1 (fun i q => aF i (by omega) (by omega) (by omega) (by omega) (by omega))
  by_cases hlt : n < T.length
  · skip
    refine go_iload_n dX3_repacks_17 rfl ?_
    refine go_iload_n dX3_repacks_18 rfl ?_
    refine go_icmp_ge_f (tgt := 33) dX3_repacks_19 (by decide) (by omega) ?_
    refine go_aload_n dX3_repacks_22 rfl ?_
    refine go_cV0I hb.1 vlX3_77 dX3_repacks_23 (by decide) rfl rfl (by decide) (Nat.le_of_ble_eq_true rfl) (pk_packsNext hb hPr hT hlt H ?_)
    intro h2 H2 F2
    refine go_popI dX3_repacks_26 ?_
    refine go_iinc dX3_repacks_27 rfl rfl rfl (by omega) (by omega) (by dsimp only [List.set]) ?_
    refine go_goto (tgt := 17) dX3_repacks_30 (by decide) ?_
    exact ih hlt h2 H2 (F.tr F2)
  · have hne : n = T.length := by omega
    subst hne
    refine go_iload_n dX3_repacks_17 rfl ?_
    refine go_iload_n dX3_repacks_18 rfl ?_
    refine go_icmp_ge_t (tgt := 33) dX3_repacks_19 (by decide) (by omega) ?_
    refine go_return dX3_repacks_33 rfl ?_
    exact hQ hh H F

set_option maxHeartbeats 4000000 in
set_option maxRecDepth 100000 in
theorem pk_startsLike {x : mX} {h : mH} {Q : mH → Prop} {b q : Nat} {o l r t : Int} (hb : isPk b) (hq : isPast q) (hq2 : q + 3 ≤ b ∨ b + 11 ≤ q) (hPa : PaS h q o l r t) (hz : PkZ h b) (hQ : ∀ h', PkS h' b o l r t [] 0 → FrP b h h' → Q h') : CtV x mtX3_startsLike [xR b, xR q] h Q := by
  refine ct_go (ls := [xR b, xR q]) (by decide +kernel) (Nat.le_of_ble_eq_true rfl) rfl ?_
  refine go_aload_n dX3_startsLike_0 rfl ?_
  refine gfX3_past hb.1 flX3_12 dX3_startsLike_1 ?_
  refine go_aload_n dX3_startsLike_4 rfl ?_
  refine gfX4_order hq.1 flX3_49 dX3_startsLike_5 ?_
  rw [hPa.1]
  refine go_aload_n dX3_startsLike_8 rfl ?_
  refine gfX4_limit hq.1 flX3_52 dX3_startsLike_9 ?_
  rw [hPa.2.1]
  refine go_aload_n dX3_startsLike_12 rfl ?_
  refine gfX4_room hq.1 flX3_55 dX3_startsLike_13 ?_
  rw [hPa.2.2.1]
  refine go_aload_n dX3_startsLike_16 rfl ?_
  refine gfX4_tail hq.1 flX3_58 dX3_startsLike_17 ?_
  rw [hPa.2.2.2]
  refine go_cV4V hb.2.1.1 vlX3_61 dX3_startsLike_20 (by decide) rfl rfl (by decide) (Nat.le_of_ble_eq_true rfl) (past_setsOut hb.2.1 hz.2.2 ?_)
  have sE : ∀ i, i ≠ b + 1 → i ≠ b + 1 + 1 → setH h (b + 1) o l r t i = h i := fun i q1 q2 => setH_ne q1 q2
  refine go_aload_n dX3_startsLike_23 rfl ?_
  refine go_cV0V hb.1 vlX3_65 dX3_startsLike_24 (by decide) rfl rfl (by decide) (Nat.le_of_ble_eq_true rfl) (pk_startsAnew hb rfl (fun k hk => by rw [sE _ (by omega) (by omega)]; exact hz.1 k hk) (by rw [sE _ (by omega) (by omega)]; exact hz.2.1) ?_)
  intro h1 a4 a5 aC aR aF
  refine go_return dX3_startsLike_27 rfl ?_
  have e1 : h1 (b + 1) = setH h (b + 1) o l r t (b + 1) := aF _ (by omega) (by omega) (by omega) (by omega) (by omega)
  have e2 : h1 (b + 1 + 1) = setH h (b + 1) o l r t (b + 1 + 1) := aF _ (by omega) (by omega) (by omega) (by omega) (by omega)
  refine hQ h1 ⟨⟨?_, ?_, ?_, ?_⟩, ⟨?_, fun k hk => absurd hk (by simp)⟩, a4, aC, a5, aR⟩ (fun i q => ?_)
  · rw [e1]; unfold setH; rw [hset_ni (by omega), hset_nk (by decide), hset_nk (by decide), hset_nk (by decide), hset_eq]
  · rw [e1]; unfold setH; rw [hset_ni (by omega), hset_nk (by decide), hset_nk (by decide), hset_eq]
  · rw [e1]; unfold setH; rw [hset_ni (by omega), hset_nk (by decide), hset_eq]
  · rw [e1]; unfold setH; rw [hset_ni (by omega), hset_eq]
  · rw [e2]; unfold setH; rw [hset_eq]; rfl
  · rw [aF i (by omega) (by omega) (by omega) (by omega) (by omega), sE i (by omega) (by omega)]

abbrev RS : Type := (Int → Int) × Int × Rd
def rdd (o : Int) (sf : Int → Int) (T : List Int) (S : RS) : Int × Nat × Rd := dsc chR (rprt sf) S.1 (fun j => cxp (srF T) ((T.length : Int) - (j : Int)) j) (lng o T.length + 1) 0 S.2.2
/-- one sign read: the text, the counts, how often forgotten, the range -/
def rstT (o : Int) (sf : Int → Int) (T : List Int) (S : RS) : List Int := T ++ [((rdd o sf T S).2.1 : Int)]
def rstS (o l r t : Int) (sf : Int → Int) (T : List Int) (S : RS) : RS := (lst (srF (rstT o sf T S)) S.1 o l r t T.length ((rdd o sf T S).2.1 : Int) (rdd o sf T S).1, S.2.1 + lfg (srF (rstT o sf T S)) S.1 o l r T.length ((rdd o sf T S).2.1 : Int) (rdd o sf T S).1, (rdd o sf T S).2.2)
def RInv (l : Int) (T : List Int) (S : RS) : Prop := TxOk T ∧ CsOk S.1 l ∧ 0 ≤ S.2.1 ∧ S.2.1 ≤ T.length ∧ CdN S.2.2.1 S.2.2.2.1 ∧ RdV (100 * T.length) S.2.2
theorem srF_app {T : List Int} {k v : Int} (h1 : k < T.length) : srF (T ++ [v]) k = srF T k := by
  unfold srF
  by_cases h0 : 0 ≤ k
  · rw [if_pos ⟨h0, by rw [List.length_append]; simp; omega⟩, if_pos ⟨h0, h1⟩, List.getD_eq_getElem?_getD, List.getD_eq_getElem?_getD, List.getElem?_append_left (by omega)]
  · rw [if_neg (by omega), if_neg (by omega)]
theorem txOk_app {T : List Int} {v : Int} (h : TxOk T) (hl : T.length < 60) (h0 : 0 ≤ v) (h3 : v ≤ 3) : TxOk (T ++ [v]) := by
  refine ⟨by rw [List.length_append]; simp; omega, fun k hk => ?_⟩
  rw [List.length_append, List.length_singleton] at hk
  by_cases e : k < T.length
  · rw [List.getD_eq_getElem?_getD, List.getElem?_append_left e, ← List.getD_eq_getElem?_getD]; exact h.2 k e
  · have : k = T.length := by omega
    subst this
    simp; omega
theorem rdd_ok {o l r t : Int} {sf : Int → Int} {T : List Int} {S : RS} (hsf : ∀ k, sf k = 0 ∨ sf k = 1) (hPr : PrOk o l r t) (h : RInv l T S) (hl : T.length < 60) : dOk chR (rprt sf) (PR (100 * (T.length + 1))) S.1 (fun j => cxp (srF T) ((T.length : Int) - (j : Int)) j) (lng o T.length + 1) 0 S.2.2 ∧ (rdd o sf T S).2.1 ≤ 3 ∧ CdN (rdd o sf T S).2.2.1 (rdd o sf T S).2.2.2.1 ∧ RdV (100 * (T.length + 1)) (rdd o sf T S).2.2 ∧ -1 ≤ (rdd o sf T S).1 ∧ (rdd o sf T S).1 ≤ lng o T.length := by
  obtain ⟨i0, i1, i2, i3, i4, i5⟩ := h
  obtain ⟨w1, w2, w3, w4, w5, w6, w7, w8⟩ := hPr
  have h2 := lng_le (o := o) (n := T.length) w1 (by omega)
  obtain ⟨a1, a2, a3, a4, a5, a6, a7⟩ := dscR_ok (cs := S.1) (ctx := fun j => cxp (srF T) ((T.length : Int) - (j : Int)) j) hsf (fun k => by have := i1.1 k; omega) (K9 := 100 * (T.length + 1)) (by omega) (lng o T.length + 1) 0 (100 * T.length) S.2.2 (fun j hj => (cxp_bd (by omega) (fun k q1 q2 => srF_bd i0 (by omega) (by omega))).1) (by decide) (by decide) i4 i5 (by omega)
  exact ⟨a1, a2, a3, a4, a6, by unfold rdd; omega⟩
theorem rst_inv {o l r t : Int} {sf : Int → Int} {T : List Int} {S : RS} (hsf : ∀ k, sf k = 0 ∨ sf k = 1) (hPr : PrOk o l r t) (h : RInv l T S) (hl : T.length < 60) : RInv l (rstT o sf T S) (rstS o l r t sf T S) := by
  obtain ⟨a1, a2, a3, a4, a5, a6⟩ := rdd_ok hsf hPr h hl
  obtain ⟨i0, i1, i2, i3, i4, i5⟩ := h
  obtain ⟨w1, w2, w3, w4, w5, w6, w7, w8⟩ := hPr
  have hT' : TxOk (rstT o sf T S) := txOk_app i0 hl (by omega) (by omega)
  have hlen : (rstT o sf T S).length = T.length + 1 := by unfold rstT; simp
  have hf := lfg_bd (sg := srF (rstT o sf T S)) (cs := S.1) (o := o) (l := l) (r := r) (n := T.length) (s := ((rdd o sf T S).2.1 : Int)) (f := (rdd o sf T S).1)
  have c1 : CsOk (lst (srF (rstT o sf T S)) S.1 o l r t T.length ((rdd o sf T S).2.1 : Int) (rdd o sf T S).1) l := csOk_lst i1 w3 w1 w2 (by omega) w7 (by omega) (by omega) (fun k q1 q2 => srF_bd hT' q1 (by rw [hlen]; omega))
  unfold RInv
  rw [hlen]
  unfold rstS
  dsimp only
  exact ⟨hT', c1, by omega, by omega, a3, by rw [show (100 : Int) * ((T.length + 1 : Nat) : Int) = 100 * (T.length + 1) by omega]; exact a4⟩
/-- a packer that reads: parameters, the text so far, the bits, the state -/
def RdS (h : mH) (b : Nat) (o l r t : Int) (bs T : List Int) (S : RS) : Prop := PaS h (b + 1) o l r t ∧ RowL h (b + 1 + 1) T ∧ h b 4 = (T.length : Int) ∧ CtxS h (b + 4) S.1 ∧ h b 5 = S.2.1 ∧ RgR h (b + 6) bs S.2.2

set_option maxHeartbeats 4000000 in
set_option maxRecDepth 100000 in
theorem pk_readsNext {x : mX} {h : mH} {Q : Int → mH → Prop} {b : Nat} {o l r t : Int} {bs T : List Int} {S : RS} (hb : isPk b) (hPr : PrOk o l r t) (hN722 : bs.length ≤ 722) (hsf : ∀ k, srF bs k = 0 ∨ srF bs k = 1) (iv : RInv l T S) (hl : T.length < 60) (H : RdS h b o l r t bs T S) (hQ : ∀ h', RdS h' b o l r t bs (rstT o (srF bs) T S) (rstS o l r t (srF bs) T S) → FrP b h h' → Q ((rdd o (srF bs) T S).2.1 : Int) h') : CtI x mtX3_readsNext [xR b] h Q := by
  obtain ⟨ok1, ok2, ok3, ok4, ok5, ok6⟩ := rdd_ok hsf hPr iv hl
  have hT := iv.1
  obtain ⟨hPa, hR, e4, hC, e5, hG⟩ := H
  have hPT : PkT h b o T.length (h (b + 1 + 2)) S.1 := pkT_of hPr hT (Nat.le_refl _) hPa hR e4 hC iv.2.1
  have hctx : ∀ j : Nat, j < lng o T.length + 1 → cxp (h (b + 1 + 2)) ((T.length : Int) - (j : Int)) j = cxp (srF T) ((T.length : Int) - (j : Int)) j := ctx_congr hPr.1 (by omega) (fun k q1 q2 => rowL_sg hR k q1 (by omega))
  have hT3 : TxOk (rstT o (srF bs) T S) := txOk_app hT hl (by omega) (by omega)
  have hlen : (rstT o (srF bs) T S).length = T.length + 1 := by unfold rstT; simp
  refine ct_go (ls := [xR b, xU, xU]) (by decide +kernel) (Nat.le_of_ble_eq_true rfl) rfl ?_
  refine go_aload_n dX3_readsNext_0 rfl ?_
  refine go_aload_n dX3_readsNext_1 rfl ?_
  refine gfX3_range hb.1 flX3_28 dX3_readsNext_2 ?_
  refine go_cV1I hb.1 vlX3_89 dX3_readsNext_5 (by decide) rfl rfl (by decide) (Nat.le_of_ble_eq_true rfl) (pk_descends (TS := fun h c => RgR h (b + 6) bs c) (T := fun i => i = b + 6 ∨ i = b + 6 + 1 ∨ i = b + 6 + 2) (ch := chR) (tk := rprt (srF bs)) (P := PR (100 * (T.length + 1))) (o := o) (n := (T.length : Int)) (sg := h (b + 1 + 2)) (cs := S.1) (c := S.2.2) hb hb.2.2.2.1.1 (by decide) rfl rfl rfl ulX3_120_X5 ulX3_132_X5 (by decide) (by decide) (fun i q => by omega) (fun h h2 c q Z => ?_) (fun c w => chAt_le _ _) (fun h2 c w sh Q2 Z St Wo Pw q => ?_) (fun h2 c w Q2 Z Wo Pw q => ?_) hPT hG ?_ ?_)
  · obtain ⟨z1, z2, z3, z4, z6, z7, z5⟩ := Z
    have e0 := q (b + 6) (Or.inl rfl)
    exact ⟨by rw [e0]; exact z1, by rw [e0]; exact z2, by rw [e0]; exact z3, by rw [e0]; exact z4, by rw [e0]; exact z6, by rw [e0]; exact z7, z5.congr (q _ (Or.inr (Or.inl rfl))) (q _ (Or.inr (Or.inr rfl)))⟩
  · obtain ⟨p1, p2, p3, p4, p5, p6, p7, p8, p9, p10⟩ := Pw
    refine rg_chooses_r (bs := bs) (c := c) (K := 100 * (T.length + 1)) hb.2.2.2.1 hb.2.2.2.2 Z p1 p2 (by rw [St.2.1]; exact p7) (by rw [St.2.1]; omega) (fun s hs => by rw [St.1 s hs]; exact Wo s hs) ?_
    rw [St.2.1]
    have e9 : chAt (fun s => h2 (b + 9 + 1) (s : Int)) (((c.2.2.2.1 - c.1 + 1) * tot w 5 - 1) / (c.2.1 - c.1 + 1)) = chR c w := by
      have et : ∀ k, k ≤ 5 → tot (fun s => h2 (b + 9 + 1) (s : Int)) k = tot w k := fun k hk => tot_congr (fun s hs => St.1 s (by omega))
      unfold chR chAt
      rw [et 1 (by decide), et 2 (by decide), et 3 (by decide), et 4 (by decide)]
    rw [e9]; exact q
  · obtain ⟨p1, p2, p3, p4, p5, p6, p7, p8, p9, p10⟩ := Pw
    refine rg_takes_r (K := 100 * (T.length + 1)) hb.2.2.2.1 Z hN722 hsf p1 p2 p3 p5 p4 p6 (by omega) p9 p10 (fun h3 R3 F3 => q h3 R3 (fun i qi => F3.1 i (fun w => qi (Or.inl w)) (fun w => qi (Or.inr (Or.inl w))) (fun w => qi (Or.inr (Or.inr w)))))
  · rw [dOk_congr _ _ _ hctx]; exact ok1
  intro h2 TT2 F2 E6
  rw [dsc_congr _ _ _ hctx] at TT2 E6 ⊢
  change RgR h2 (b + 6) bs (rdd o (srF bs) T S).2.2 at TT2
  change h2 b 6 = ((rdd o (srF bs) T S).2.1 : Int) at E6
  change Go x mtX3_readsNext _ _ [xI (rdd o (srF bs) T S).1] h2 (qI Q)
  have nF : ∀ i, i ≠ b → i ≠ b + 6 → i ≠ b + 6 + 1 → i ≠ b + 6 + 2 → i ≠ b + 9 → i ≠ b + 9 + 1 → h2 i = h i := fun i q1 q2 q3 q4 q5 q6 => F2.1 i (by omega) q1 q5 q6
  refine go_istore_n 1 dX3_readsNext_8 rfl (Nat.le_of_ble_eq_true rfl) rfl (by dsimp only [List.set]) ?_
  refine go_aload_n dX3_readsNext_9 rfl ?_
  refine gfX3_chosen hb.1 flX3_46 dX3_readsNext_10 ?_
  rw [E6]
  refine go_istore_n 2 dX3_readsNext_13 rfl (Nat.le_of_ble_eq_true rfl) rfl (by dsimp only [List.set]) ?_
  refine go_aload_n dX3_readsNext_14 rfl ?_
  refine gfX3_past hb.1 flX3_12 dX3_readsNext_15 ?_
  refine gfX4_signs hb.2.1.1 flX3_68 dX3_readsNext_18 ?_
  refine go_iload_n dX3_readsNext_21 rfl ?_
  refine go_cV1V hb.2.1.2.1 vlX3_97 dX3_readsNext_22 (by decide) rfl rfl (by decide) (Nat.le_of_ble_eq_true rfl) (row_putsL (N := 60) (bs := T) hb.2.1.2 (hR.congr (nF _ (by omega) (by omega) (by omega) (by omega) (by omega) (by omega)) (nF _ (by omega) (by omega) (by omega) (by omega) (by omega) (by omega))) hl ?_)
  intro h3 R3 F3
  change RowL h3 (b + 1 + 1) (rstT o (srF bs) T S) at R3
  have hsg3 : ∀ k : Int, 0 ≤ k → k < T.length + 1 → h3 (b + 1 + 2) k = srF (rstT o (srF bs) T S) k := fun k q1 q2 => rowL_sg R3 k q1 (by rw [hlen]; omega)
  refine go_aload_n dX3_readsNext_25 rfl ?_
  refine go_iload_n dX3_readsNext_26 rfl ?_
  refine go_iload_n dX3_readsNext_27 rfl ?_
  refine go_cV2V hb.1 vlX3_93 dX3_readsNext_28 (by decide) rfl rfl (by decide) (Nat.le_of_ble_eq_true rfl) (pk_learns (o := o) (l := l) (r := r) (t := t) (n := (T.length : Int)) (s := ((rdd o (srF bs) T S).2.1 : Int)) (f := (rdd o (srF bs) T S).1) (sg := h3 (b + 1 + 2)) (cs := S.1) hb hPr ⟨?_, ?_, ?_, ?_⟩ ?_ rfl ⟨?_, ?_⟩ iv.2.1 ?_ ?_ (by omega) ?_ ?_ ?_ (by omega) (by omega) ok6 ?_)
  · rw [F3 (b + 1) (by omega) (by omega), nF (b + 1) (by omega) (by omega) (by omega) (by omega) (by omega) (by omega)]; exact hPa.1
  · rw [F3 (b + 1) (by omega) (by omega), nF (b + 1) (by omega) (by omega) (by omega) (by omega) (by omega) (by omega)]; exact hPa.2.1
  · rw [F3 (b + 1) (by omega) (by omega), nF (b + 1) (by omega) (by omega) (by omega) (by omega) (by omega) (by omega)]; exact hPa.2.2.1
  · rw [F3 (b + 1) (by omega) (by omega), nF (b + 1) (by omega) (by omega) (by omega) (by omega) (by omega) (by omega)]; exact hPa.2.2.2
  · rw [F3 b (by omega) (by omega), F2.2 4 (by decide)]; exact e4
  · rw [F3 (b + 4 + 1) (by omega) (by omega), nF (b + 4 + 1) (by omega) (by omega) (by omega) (by omega) (by omega) (by omega)]; exact hC.1
  · rw [F3 (b + 4) (by omega) (by omega), nF (b + 4) (by omega) (by omega) (by omega) (by omega) (by omega) (by omega)]; exact hC.2
  · rw [F3 b (by omega) (by omega), F2.2 5 (by decide), e5]; exact iv.2.2.1
  · rw [F3 b (by omega) (by omega), F2.2 5 (by decide), e5]; have := iv.2.2.2.1; omega
  · rw [R3.1, hlen]; omega
  · rw [R3.1, hlen]; omega
  · intro k q1 q2
    rw [hsg3 k q1 (by omega)]
    exact srF_bd hT3 q1 (by rw [hlen]; omega)
  intro h4 C4 F4 E4 E5 EB
  rw [lst_congr (sg' := srF (rstT o (srF bs) T S)) hPr.1 hPr.2.2.2.2.2.2.1 (by omega) (fun k q1 q2 => hsg3 k q1 (by omega))] at C4
  rw [lfg_congr (sg' := srF (rstT o (srF bs) T S)) hPr.1 (by omega) (fun k q1 q2 => hsg3 k q1 (by omega))] at E5
  refine go_iload_n dX3_readsNext_31 rfl ?_
  refine go_ireturn dX3_readsNext_32 rfl ?_
  refine hQ h4 ⟨?_, ?_, ?_, ⟨?_, ?_⟩, ?_, ?_⟩ (fun i q => ?_)
  · unfold PaS; rw [F4 (b + 1) (by omega) (by omega) (by omega)]; rw [F3 (b + 1) (by omega) (by omega), nF (b + 1) (by omega) (by omega) (by omega) (by omega) (by omega) (by omega)]; exact hPa
  · exact R3.congr (F4 _ (by omega) (by omega) (by omega)) (F4 _ (by omega) (by omega) (by omega))
  · rw [E4, hlen]; omega
  · exact C4.1
  · exact C4.2
  · rw [E5, F3 b (by omega) (by omega), F2.2 5 (by decide), e5]; rfl
  · have e6 : h4 (b + 6) = h2 (b + 6) := (F4 _ (by omega) (by omega) (by omega)).trans (F3 _ (by omega) (by omega))
    refine ⟨by rw [e6]; exact TT2.1, by rw [e6]; exact TT2.2.1, by rw [e6]; exact TT2.2.2.1, by rw [e6]; exact TT2.2.2.2.1, by rw [e6]; exact TT2.2.2.2.2.1, by rw [e6]; exact TT2.2.2.2.2.2.1, TT2.2.2.2.2.2.2.congr ((F4 _ (by omega) (by omega) (by omega)).trans (F3 _ (by omega) (by omega))) ((F4 _ (by omega) (by omega) (by omega)).trans (F3 _ (by omega) (by omega)))⟩
  · rw [F4 i (by omega) (by omega) (by omega), F3 i (by omega) (by omega), nF i (by omega) (by omega) (by omega) (by omega) (by omega) (by omega)]
end
