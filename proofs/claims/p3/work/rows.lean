section
-- ===== PART A: goes FIRST, ahead of the names: the tables' words, and 'selects' of the private methods out of them =====
/-- a private method of a class that the tables say can be made, by its rows of tables_1 -/
def lw_okq (q : MethodName × Nat) : Prop := (q.1.cls ≠ "java/lang/invoke/MethodHandle" ∧ q.1.cls ≠ "java/lang/invoke/VarHandle") ∧ Cond.instantiable q.1.cls q.2 ∈ tables_1 ∧ Cond.privateMethod q.1 ∈ tables_1 ∧ Cond.instanceMethod q.1 ∈ tables_1
theorem lw_p0 : lw_okq (⟨"SharedSense$Text", "skipBlanks", "()V"⟩, 6) := ⟨⟨by decide +kernel, by decide +kernel⟩, List.mem_of_getElem? (i := 26) (by decide +kernel), List.mem_of_getElem? (i := 339) (by decide +kernel), List.mem_of_getElem? (i := 340) (by decide +kernel)⟩
theorem lw_p1 : lw_okq (⟨"SharedSense$Text", "byteAt", "(I)I"⟩, 6) := ⟨⟨by decide +kernel, by decide +kernel⟩, List.mem_of_getElem? (i := 26) (by decide +kernel), List.mem_of_getElem? (i := 343) (by decide +kernel), List.mem_of_getElem? (i := 344) (by decide +kernel)⟩
theorem lw_p2 : lw_okq (⟨"SharedSense$Text", "readWord", "()V"⟩, 6) := ⟨⟨by decide +kernel, by decide +kernel⟩, List.mem_of_getElem? (i := 26) (by decide +kernel), List.mem_of_getElem? (i := 350) (by decide +kernel), List.mem_of_getElem? (i := 351) (by decide +kernel)⟩
theorem lw_p3 : lw_okq (⟨"SharedSense$Text", "readNumber", "()V"⟩, 6) := ⟨⟨by decide +kernel, by decide +kernel⟩, List.mem_of_getElem? (i := 26) (by decide +kernel), List.mem_of_getElem? (i := 360) (by decide +kernel), List.mem_of_getElem? (i := 361) (by decide +kernel)⟩
theorem lw_p4 : lw_okq (⟨"SharedSense$Reader", "readClause", "(LSharedSense$Text;I)Z"⟩, 10) := ⟨⟨by decide +kernel, by decide +kernel⟩, List.mem_of_getElem? (i := 52) (by decide +kernel), List.mem_of_getElem? (i := 371) (by decide +kernel), List.mem_of_getElem? (i := 372) (by decide +kernel)⟩
theorem lw_p5 : lw_okq (⟨"SharedSense$Reader", "readLiteral", "(LSharedSense$Text;)Z"⟩, 10) := ⟨⟨by decide +kernel, by decide +kernel⟩, List.mem_of_getElem? (i := 52) (by decide +kernel), List.mem_of_getElem? (i := 380) (by decide +kernel), List.mem_of_getElem? (i := 381) (by decide +kernel)⟩
theorem lw_p6 : lw_okq (⟨"SharedSense", "takeClauses", "()V"⟩, 16) := ⟨⟨by decide +kernel, by decide +kernel⟩, List.mem_of_getElem? (i := 18) (by decide +kernel), List.mem_of_getElem? (i := 391) (by decide +kernel), List.mem_of_getElem? (i := 392) (by decide +kernel)⟩
theorem lw_p7 : lw_okq (⟨"SharedSense$WorldSet", "partTurned", "(II)J"⟩, 1) := ⟨⟨by decide +kernel, by decide +kernel⟩, List.mem_of_getElem? (i := 98) (by decide +kernel), List.mem_of_getElem? (i := 461) (by decide +kernel), List.mem_of_getElem? (i := 462) (by decide +kernel)⟩
theorem lw_p8 : lw_okq (⟨"SharedSense", "forgetProof", "()V"⟩, 16) := ⟨⟨by decide +kernel, by decide +kernel⟩, List.mem_of_getElem? (i := 18) (by decide +kernel), List.mem_of_getElem? (i := 481) (by decide +kernel), List.mem_of_getElem? (i := 482) (by decide +kernel)⟩
theorem lw_p9 : lw_okq (⟨"SharedSense", "firstEmptyLine", "()I"⟩, 16) := ⟨⟨by decide +kernel, by decide +kernel⟩, List.mem_of_getElem? (i := 18) (by decide +kernel), List.mem_of_getElem? (i := 485) (by decide +kernel), List.mem_of_getElem? (i := 486) (by decide +kernel)⟩
theorem lw_p10 : lw_okq (⟨"SharedSense$Reader", "readStep", "(LSharedSense$Text;II)Z"⟩, 10) := ⟨⟨by decide +kernel, by decide +kernel⟩, List.mem_of_getElem? (i := 52) (by decide +kernel), List.mem_of_getElem? (i := 507) (by decide +kernel), List.mem_of_getElem? (i := 508) (by decide +kernel)⟩
theorem lw_p11 : lw_okq (⟨"SharedSense", "takeSteps", "()V"⟩, 16) := ⟨⟨by decide +kernel, by decide +kernel⟩, List.mem_of_getElem? (i := 18) (by decide +kernel), List.mem_of_getElem? (i := 511) (by decide +kernel), List.mem_of_getElem? (i := 512) (by decide +kernel)⟩
theorem lw_p12 : lw_okq (⟨"SharedSense", "makeLine", "(I)Z"⟩, 16) := ⟨⟨by decide +kernel, by decide +kernel⟩, List.mem_of_getElem? (i := 18) (by decide +kernel), List.mem_of_getElem? (i := 519) (by decide +kernel), List.mem_of_getElem? (i := 520) (by decide +kernel)⟩
theorem lw_p13 : lw_okq (⟨"SharedSense", "lineAt", "(I)LSharedSense$Line;"⟩, 16) := ⟨⟨by decide +kernel, by decide +kernel⟩, List.mem_of_getElem? (i := 18) (by decide +kernel), List.mem_of_getElem? (i := 535) (by decide +kernel), List.mem_of_getElem? (i := 536) (by decide +kernel)⟩
theorem lw_p14 : lw_okq (⟨"SharedSense$WorldSet", "hangsOn", "(I)Z"⟩, 1) := ⟨⟨by decide +kernel, by decide +kernel⟩, List.mem_of_getElem? (i := 98) (by decide +kernel), List.mem_of_getElem? (i := 653) (by decide +kernel), List.mem_of_getElem? (i := 654) (by decide +kernel)⟩
theorem lw_p15 : lw_okq (⟨"SharedSense", "setOf", "(I)LSharedSense$WorldSet;"⟩, 16) := ⟨⟨by decide +kernel, by decide +kernel⟩, List.mem_of_getElem? (i := 18) (by decide +kernel), List.mem_of_getElem? (i := 668) (by decide +kernel), List.mem_of_getElem? (i := 669) (by decide +kernel)⟩
def lw_privs_1 : List (MethodName × Nat) := [(⟨"SharedSense$Text", "skipBlanks", "()V"⟩, 6), (⟨"SharedSense$Text", "byteAt", "(I)I"⟩, 6), (⟨"SharedSense$Text", "readWord", "()V"⟩, 6), (⟨"SharedSense$Text", "readNumber", "()V"⟩, 6), (⟨"SharedSense$Reader", "readClause", "(LSharedSense$Text;I)Z"⟩, 10), (⟨"SharedSense$Reader", "readLiteral", "(LSharedSense$Text;)Z"⟩, 10), (⟨"SharedSense", "takeClauses", "()V"⟩, 16), (⟨"SharedSense$WorldSet", "partTurned", "(II)J"⟩, 1), (⟨"SharedSense", "forgetProof", "()V"⟩, 16), (⟨"SharedSense", "firstEmptyLine", "()I"⟩, 16), (⟨"SharedSense$Reader", "readStep", "(LSharedSense$Text;II)Z"⟩, 10), (⟨"SharedSense", "takeSteps", "()V"⟩, 16), (⟨"SharedSense", "makeLine", "(I)Z"⟩, 16), (⟨"SharedSense", "lineAt", "(I)LSharedSense$Line;"⟩, 16), (⟨"SharedSense$WorldSet", "hangsOn", "(I)Z"⟩, 1), (⟨"SharedSense", "setOf", "(I)LSharedSense$WorldSet;"⟩, 16)]
theorem lw_r1 : ∀ q ∈ lw_privs_1, lw_okq q := List.forall_mem_cons.mpr ⟨lw_p0, List.forall_mem_cons.mpr ⟨lw_p1, List.forall_mem_cons.mpr ⟨lw_p2, List.forall_mem_cons.mpr ⟨lw_p3, List.forall_mem_cons.mpr ⟨lw_p4, List.forall_mem_cons.mpr ⟨lw_p5, List.forall_mem_cons.mpr ⟨lw_p6, List.forall_mem_cons.mpr ⟨lw_p7, List.forall_mem_cons.mpr ⟨lw_p8, List.forall_mem_cons.mpr ⟨lw_p9, List.forall_mem_cons.mpr ⟨lw_p10, List.forall_mem_cons.mpr ⟨lw_p11, List.forall_mem_cons.mpr ⟨lw_p12, List.forall_mem_cons.mpr ⟨lw_p13, List.forall_mem_cons.mpr ⟨lw_p14, List.forall_mem_cons.mpr ⟨lw_p15, fun _ h => absurd h List.not_mem_nil⟩⟩⟩⟩⟩⟩⟩⟩⟩⟩⟩⟩⟩⟩⟩⟩
theorem lw_p16 : lw_okq (⟨"SharedSense$Sides", "findFewest", "()I"⟩, 9) := ⟨⟨by decide +kernel, by decide +kernel⟩, List.mem_of_getElem? (i := 92) (by decide +kernel), List.mem_of_getElem? (i := 696) (by decide +kernel), List.mem_of_getElem? (i := 697) (by decide +kernel)⟩
theorem lw_p17 : lw_okq (⟨"SharedSense$Sides", "tellsApart", "(I)Z"⟩, 9) := ⟨⟨by decide +kernel, by decide +kernel⟩, List.mem_of_getElem? (i := 92) (by decide +kernel), List.mem_of_getElem? (i := 700) (by decide +kernel), List.mem_of_getElem? (i := 701) (by decide +kernel)⟩
theorem lw_p18 : lw_okq (⟨"SharedSense", "clausesUnder", "(I)I"⟩, 16) := ⟨⟨by decide +kernel, by decide +kernel⟩, List.mem_of_getElem? (i := 18) (by decide +kernel), List.mem_of_getElem? (i := 728) (by decide +kernel), List.mem_of_getElem? (i := 729) (by decide +kernel)⟩
theorem lw_p19 : lw_okq (⟨"SharedSense$Core", "allClash", "()Z"⟩, 6) := ⟨⟨by decide +kernel, by decide +kernel⟩, List.mem_of_getElem? (i := 154) (by decide +kernel), List.mem_of_getElem? (i := 743) (by decide +kernel), List.mem_of_getElem? (i := 744) (by decide +kernel)⟩
theorem lw_p20 : lw_okq (⟨"SharedSense$Core", "choose", "(III)V"⟩, 6) := ⟨⟨by decide +kernel, by decide +kernel⟩, List.mem_of_getElem? (i := 154) (by decide +kernel), List.mem_of_getElem? (i := 753) (by decide +kernel), List.mem_of_getElem? (i := 754) (by decide +kernel)⟩
theorem lw_p21 : lw_okq (⟨"SharedSense$Core", "keep", "(II)V"⟩, 6) := ⟨⟨by decide +kernel, by decide +kernel⟩, List.mem_of_getElem? (i := 154) (by decide +kernel), List.mem_of_getElem? (i := 757) (by decide +kernel), List.mem_of_getElem? (i := 758) (by decide +kernel)⟩
theorem lw_p22 : lw_okq (⟨"SharedSense", "ruleOf", "(I)LSharedSense$Rule;"⟩, 16) := ⟨⟨by decide +kernel, by decide +kernel⟩, List.mem_of_getElem? (i := 18) (by decide +kernel), List.mem_of_getElem? (i := 767) (by decide +kernel), List.mem_of_getElem? (i := 768) (by decide +kernel)⟩
theorem lw_p23 : lw_okq (⟨"SharedSenseModel", "bounds", "()V"⟩, 25) := ⟨⟨by decide +kernel, by decide +kernel⟩, List.mem_of_getElem? (i := 810) (by decide +kernel), List.mem_of_getElem? (i := 816) (by decide +kernel), List.mem_of_getElem? (i := 817) (by decide +kernel)⟩
theorem lw_p24 : lw_okq (⟨"SharedSenseModel", "shared", "()I"⟩, 25) := ⟨⟨by decide +kernel, by decide +kernel⟩, List.mem_of_getElem? (i := 810) (by decide +kernel), List.mem_of_getElem? (i := 820) (by decide +kernel), List.mem_of_getElem? (i := 821) (by decide +kernel)⟩
theorem lw_p25 : lw_okq (⟨"SharedSenseModel", "lettersOf", "(I)I"⟩, 25) := ⟨⟨by decide +kernel, by decide +kernel⟩, List.mem_of_getElem? (i := 810) (by decide +kernel), List.mem_of_getElem? (i := 824) (by decide +kernel), List.mem_of_getElem? (i := 825) (by decide +kernel)⟩
theorem lw_p26 : lw_okq (⟨"SharedSenseModel", "begins", "()V"⟩, 25) := ⟨⟨by decide +kernel, by decide +kernel⟩, List.mem_of_getElem? (i := 810) (by decide +kernel), List.mem_of_getElem? (i := 927) (by decide +kernel), List.mem_of_getElem? (i := 928) (by decide +kernel)⟩
theorem lw_p27 : lw_okq (⟨"SharedSenseModel", "advances", "()V"⟩, 25) := ⟨⟨by decide +kernel, by decide +kernel⟩, List.mem_of_getElem? (i := 810) (by decide +kernel), List.mem_of_getElem? (i := 931) (by decide +kernel), List.mem_of_getElem? (i := 932) (by decide +kernel)⟩
theorem lw_p28 : lw_okq (⟨"SharedSenseModel", "byteAt", "(I)I"⟩, 25) := ⟨⟨by decide +kernel, by decide +kernel⟩, List.mem_of_getElem? (i := 810) (by decide +kernel), List.mem_of_getElem? (i := 935) (by decide +kernel), List.mem_of_getElem? (i := 936) (by decide +kernel)⟩
theorem lw_p29 : lw_okq (⟨"SharedSenseModel", "word", "(I)V"⟩, 25) := ⟨⟨by decide +kernel, by decide +kernel⟩, List.mem_of_getElem? (i := 810) (by decide +kernel), List.mem_of_getElem? (i := 939) (by decide +kernel), List.mem_of_getElem? (i := 940) (by decide +kernel)⟩
theorem lw_p30 : lw_okq (⟨"SharedSenseModel", "isWell", "()Z"⟩, 25) := ⟨⟨by decide +kernel, by decide +kernel⟩, List.mem_of_getElem? (i := 810) (by decide +kernel), List.mem_of_getElem? (i := 943) (by decide +kernel), List.mem_of_getElem? (i := 944) (by decide +kernel)⟩
theorem lw_p31 : lw_okq (⟨"SharedSenseModel", "wants", "(Z)V"⟩, 25) := ⟨⟨by decide +kernel, by decide +kernel⟩, List.mem_of_getElem? (i := 810) (by decide +kernel), List.mem_of_getElem? (i := 947) (by decide +kernel), List.mem_of_getElem? (i := 948) (by decide +kernel)⟩
def lw_privs_2 : List (MethodName × Nat) := [(⟨"SharedSense$Sides", "findFewest", "()I"⟩, 9), (⟨"SharedSense$Sides", "tellsApart", "(I)Z"⟩, 9), (⟨"SharedSense", "clausesUnder", "(I)I"⟩, 16), (⟨"SharedSense$Core", "allClash", "()Z"⟩, 6), (⟨"SharedSense$Core", "choose", "(III)V"⟩, 6), (⟨"SharedSense$Core", "keep", "(II)V"⟩, 6), (⟨"SharedSense", "ruleOf", "(I)LSharedSense$Rule;"⟩, 16), (⟨"SharedSenseModel", "bounds", "()V"⟩, 25), (⟨"SharedSenseModel", "shared", "()I"⟩, 25), (⟨"SharedSenseModel", "lettersOf", "(I)I"⟩, 25), (⟨"SharedSenseModel", "begins", "()V"⟩, 25), (⟨"SharedSenseModel", "advances", "()V"⟩, 25), (⟨"SharedSenseModel", "byteAt", "(I)I"⟩, 25), (⟨"SharedSenseModel", "word", "(I)V"⟩, 25), (⟨"SharedSenseModel", "isWell", "()Z"⟩, 25), (⟨"SharedSenseModel", "wants", "(Z)V"⟩, 25)]
theorem lw_r2 : ∀ q ∈ lw_privs_2, lw_okq q := List.forall_mem_cons.mpr ⟨lw_p16, List.forall_mem_cons.mpr ⟨lw_p17, List.forall_mem_cons.mpr ⟨lw_p18, List.forall_mem_cons.mpr ⟨lw_p19, List.forall_mem_cons.mpr ⟨lw_p20, List.forall_mem_cons.mpr ⟨lw_p21, List.forall_mem_cons.mpr ⟨lw_p22, List.forall_mem_cons.mpr ⟨lw_p23, List.forall_mem_cons.mpr ⟨lw_p24, List.forall_mem_cons.mpr ⟨lw_p25, List.forall_mem_cons.mpr ⟨lw_p26, List.forall_mem_cons.mpr ⟨lw_p27, List.forall_mem_cons.mpr ⟨lw_p28, List.forall_mem_cons.mpr ⟨lw_p29, List.forall_mem_cons.mpr ⟨lw_p30, List.forall_mem_cons.mpr ⟨lw_p31, fun _ h => absurd h List.not_mem_nil⟩⟩⟩⟩⟩⟩⟩⟩⟩⟩⟩⟩⟩⟩⟩⟩
theorem lw_p32 : lw_okq (⟨"SharedSenseModel", "readsClause", "(I)V"⟩, 25) := ⟨⟨by decide +kernel, by decide +kernel⟩, List.mem_of_getElem? (i := 810) (by decide +kernel), List.mem_of_getElem? (i := 951) (by decide +kernel), List.mem_of_getElem? (i := 952) (by decide +kernel)⟩
theorem lw_p33 : lw_okq (⟨"SharedSenseModel", "goesOn", "()V"⟩, 25) := ⟨⟨by decide +kernel, by decide +kernel⟩, List.mem_of_getElem? (i := 810) (by decide +kernel), List.mem_of_getElem? (i := 955) (by decide +kernel), List.mem_of_getElem? (i := 956) (by decide +kernel)⟩
theorem lw_p34 : lw_okq (⟨"SharedSenseModel", "holding", "(I)V"⟩, 25) := ⟨⟨by decide +kernel, by decide +kernel⟩, List.mem_of_getElem? (i := 810) (by decide +kernel), List.mem_of_getElem? (i := 959) (by decide +kernel), List.mem_of_getElem? (i := 960) (by decide +kernel)⟩
theorem lw_p35 : lw_okq (⟨"SharedSenseModel", "beginning", "(I)V"⟩, 25) := ⟨⟨by decide +kernel, by decide +kernel⟩, List.mem_of_getElem? (i := 810) (by decide +kernel), List.mem_of_getElem? (i := 966) (by decide +kernel), List.mem_of_getElem? (i := 967) (by decide +kernel)⟩
theorem lw_p36 : lw_okq (⟨"SharedSenseModel", "readsStep", "(I)V"⟩, 25) := ⟨⟨by decide +kernel, by decide +kernel⟩, List.mem_of_getElem? (i := 810) (by decide +kernel), List.mem_of_getElem? (i := 974) (by decide +kernel), List.mem_of_getElem? (i := 975) (by decide +kernel)⟩
theorem lw_p37 : lw_okq (⟨"SharedSenseModel", "makes", "(I)Z"⟩, 25) := ⟨⟨by decide +kernel, by decide +kernel⟩, List.mem_of_getElem? (i := 810) (by decide +kernel), List.mem_of_getElem? (i := 978) (by decide +kernel), List.mem_of_getElem? (i := 979) (by decide +kernel)⟩
theorem lw_p38 : lw_okq (⟨"SharedSenseModel", "ending", "()I"⟩, 25) := ⟨⟨by decide +kernel, by decide +kernel⟩, List.mem_of_getElem? (i := 810) (by decide +kernel), List.mem_of_getElem? (i := 990) (by decide +kernel), List.mem_of_getElem? (i := 991) (by decide +kernel)⟩
theorem lw_p39 : lw_okq (⟨"SharedSenseModel", "isLine", "(I)Z"⟩, 25) := ⟨⟨by decide +kernel, by decide +kernel⟩, List.mem_of_getElem? (i := 810) (by decide +kernel), List.mem_of_getElem? (i := 998) (by decide +kernel), List.mem_of_getElem? (i := 999) (by decide +kernel)⟩
theorem lw_p40 : lw_okq (⟨"SharedSenseModel", "takes", "(I[J)Z"⟩, 25) := ⟨⟨by decide +kernel, by decide +kernel⟩, List.mem_of_getElem? (i := 810) (by decide +kernel), List.mem_of_getElem? (i := 1032) (by decide +kernel), List.mem_of_getElem? (i := 1033) (by decide +kernel)⟩
theorem lw_p41 : lw_okq (⟨"SharedSenseModel", "checks", "([J)I"⟩, 25) := ⟨⟨by decide +kernel, by decide +kernel⟩, List.mem_of_getElem? (i := 810) (by decide +kernel), List.mem_of_getElem? (i := 1036) (by decide +kernel), List.mem_of_getElem? (i := 1037) (by decide +kernel)⟩
theorem lw_p42 : lw_okq (⟨"SharedSenseModel", "clash", "(I)Z"⟩, 25) := ⟨⟨by decide +kernel, by decide +kernel⟩, List.mem_of_getElem? (i := 810) (by decide +kernel), List.mem_of_getElem? (i := 1082) (by decide +kernel), List.mem_of_getElem? (i := 1083) (by decide +kernel)⟩
def lw_privs_3 : List (MethodName × Nat) := [(⟨"SharedSenseModel", "readsClause", "(I)V"⟩, 25), (⟨"SharedSenseModel", "goesOn", "()V"⟩, 25), (⟨"SharedSenseModel", "holding", "(I)V"⟩, 25), (⟨"SharedSenseModel", "beginning", "(I)V"⟩, 25), (⟨"SharedSenseModel", "readsStep", "(I)V"⟩, 25), (⟨"SharedSenseModel", "makes", "(I)Z"⟩, 25), (⟨"SharedSenseModel", "ending", "()I"⟩, 25), (⟨"SharedSenseModel", "isLine", "(I)Z"⟩, 25), (⟨"SharedSenseModel", "takes", "(I[J)Z"⟩, 25), (⟨"SharedSenseModel", "checks", "([J)I"⟩, 25), (⟨"SharedSenseModel", "clash", "(I)Z"⟩, 25)]
theorem lw_r3 : ∀ q ∈ lw_privs_3, lw_okq q := List.forall_mem_cons.mpr ⟨lw_p32, List.forall_mem_cons.mpr ⟨lw_p33, List.forall_mem_cons.mpr ⟨lw_p34, List.forall_mem_cons.mpr ⟨lw_p35, List.forall_mem_cons.mpr ⟨lw_p36, List.forall_mem_cons.mpr ⟨lw_p37, List.forall_mem_cons.mpr ⟨lw_p38, List.forall_mem_cons.mpr ⟨lw_p39, List.forall_mem_cons.mpr ⟨lw_p40, List.forall_mem_cons.mpr ⟨lw_p41, List.forall_mem_cons.mpr ⟨lw_p42, fun _ h => absurd h List.not_mem_nil⟩⟩⟩⟩⟩⟩⟩⟩⟩⟩⟩
def lw_privs : List (MethodName × Nat) := lw_privs_1 ++ (lw_privs_2 ++ (lw_privs_3))
def lw_tbl : List Cond := k2_sels lw_privs ++ tables_1
theorem lw_privs_ok : ∀ q ∈ lw_privs, lw_okq q := by
  show ∀ q ∈ lw_privs_1 ++ (lw_privs_2 ++ (lw_privs_3)), lw_okq q
  exact List.forall_mem_append.mpr ⟨lw_r1, List.forall_mem_append.mpr ⟨lw_r2, lw_r3⟩⟩
end
section
def RX0 : String := "SharedSense$Core"
def TX0 : u_T := fun k => match k with
  | 0 => ("SharedSense$Core", "holding", "[LSharedSense$WorldSet;", true)
  | 1 => ("SharedSense$Core", "open", "[LSharedSense$WorldSet;", true)
  | 2 => ("SharedSense$Core", "clauseCount", "I", false)
  | 3 => ("SharedSense$Core", "known", "Z", false)
  | 4 => ("SharedSense$Core", "best", "I", false)
  | _ => ("SharedSense$Core", "bestSize", "I", false)
def tyX0 : Nat → FieldType := fun k => match k with
  | 0 => .array (.object "SharedSense$WorldSet")
  | 1 => .array (.object "SharedSense$WorldSet")
  | 2 => .int
  | 3 => .boolean
  | 4 => .int
  | _ => .int
theorem nmX0 : ∀ a, a < 6 → ∀ b, b < 6 → a ≠ b → (TX0 a).2.1 ≠ (TX0 b).2.1 := by decide +kernel
theorem tyX0_ok : ∀ k, k < 6 → parseFieldDescriptor (TX0 k).2.2.1 = some (tyX0 k) := by decide +kernel
abbrev cX0_init : ByteArray := prog_2_method_1_code
def yX0_init : MethodName := ⟨RX0, "<init>", "()V"⟩
abbrev cX0_learn : ByteArray := prog_2_method_2_code
def yX0_learn : MethodName := ⟨RX0, "learn", "([LSharedSense$Line;I)V"⟩
abbrev cX0_leastSet : ByteArray := prog_2_method_3_code
def yX0_leastSet : MethodName := ⟨RX0, "leastSet", "()I"⟩
abbrev cX0_allClash : ByteArray := prog_2_method_4_code
def yX0_allClash : MethodName := ⟨RX0, "allClash", "()Z"⟩
abbrev cX0_choose : ByteArray := prog_2_method_5_code
def yX0_choose : MethodName := ⟨RX0, "choose", "(III)V"⟩
abbrev cX0_keep : ByteArray := prog_2_method_6_code
def yX0_keep : MethodName := ⟨RX0, "keep", "(II)V"⟩
def RX1 : String := "SharedSense$Even"
def TX1 : u_T := fun k => match k with
  | _ => ("", "", "", false)
def tyX1 : Nat → FieldType := fun k => match k with
  | _ => .int
theorem nmX1 : ∀ a, a < 0 → ∀ b, b < 0 → a ≠ b → (TX1 a).2.1 ≠ (TX1 b).2.1 := by decide +kernel
theorem tyX1_ok : ∀ k, k < 0 → parseFieldDescriptor (TX1 k).2.2.1 = some (tyX1 k) := by decide +kernel
abbrev cX1_init : ByteArray := prog_3_method_1_code
def yX1_init : MethodName := ⟨RX1, "<init>", "()V"⟩
abbrev cX1_work : ByteArray := prog_3_method_2_code
def yX1_work : MethodName := ⟨RX1, "work", "(LSharedSense$Line;LSharedSense$Trail;)I"⟩
def RX2 : String := "SharedSense$Left"
def TX2 : u_T := fun k => match k with
  | _ => ("", "", "", false)
def tyX2 : Nat → FieldType := fun k => match k with
  | _ => .int
theorem nmX2 : ∀ a, a < 0 → ∀ b, b < 0 → a ≠ b → (TX2 a).2.1 ≠ (TX2 b).2.1 := by decide +kernel
theorem tyX2_ok : ∀ k, k < 0 → parseFieldDescriptor (TX2 k).2.2.1 = some (tyX2 k) := by decide +kernel
abbrev cX2_init : ByteArray := prog_4_method_1_code
def yX2_init : MethodName := ⟨RX2, "<init>", "()V"⟩
abbrev cX2_work : ByteArray := prog_4_method_2_code
def yX2_work : MethodName := ⟨RX2, "work", "(LSharedSense$Line;LSharedSense$Trail;)I"⟩
def RX3 : String := "SharedSense$Line"
def TX3 : u_T := fun k => match k with
  | 0 => ("SharedSense$Line", "sayings", "[LSharedSense$WorldSet;", true)
  | 1 => ("SharedSense$Line", "plain", "I", false)
  | 2 => ("SharedSense$Line", "turned", "I", false)
  | 3 => ("SharedSense$Line", "owner", "I", false)
  | 4 => ("SharedSense$Line", "first", "I", false)
  | 5 => ("SharedSense$Line", "second", "I", false)
  | _ => ("SharedSense$Line", "letter", "I", false)
def tyX3 : Nat → FieldType := fun k => match k with
  | 0 => .array (.object "SharedSense$WorldSet")
  | 1 => .int
  | 2 => .int
  | 3 => .int
  | 4 => .int
  | 5 => .int
  | _ => .int
theorem nmX3 : ∀ a, a < 7 → ∀ b, b < 7 → a ≠ b → (TX3 a).2.1 ≠ (TX3 b).2.1 := by decide +kernel
theorem tyX3_ok : ∀ k, k < 7 → parseFieldDescriptor (TX3 k).2.2.1 = some (tyX3 k) := by decide +kernel
abbrev cX3_init : ByteArray := prog_5_method_1_code
def yX3_init : MethodName := ⟨RX3, "<init>", "()V"⟩
abbrev cX3_property : ByteArray := prog_5_method_2_code
def yX3_property : MethodName := ⟨RX3, "property", "(I)I"⟩
abbrev cX3_literals : ByteArray := prog_5_method_3_code
def yX3_literals : MethodName := ⟨RX3, "literals", "()I"⟩
abbrev cX3_letters : ByteArray := prog_5_method_4_code
def yX3_letters : MethodName := ⟨RX3, "letters", "()I"⟩
abbrev cX3_isSoIn : ByteArray := prog_5_method_5_code
def yX3_isSoIn : MethodName := ⟨RX3, "isSoIn", "(I)Z"⟩
abbrev cX3_sayingBy : ByteArray := prog_5_method_6_code
def yX3_sayingBy : MethodName := ⟨RX3, "sayingBy", "(I)LSharedSense$WorldSet;"⟩
abbrev cX3_gatherWorlds : ByteArray := prog_5_method_7_code
def yX3_gatherWorlds : MethodName := ⟨RX3, "gatherWorlds", "(LSharedSense$WorldSet;I)V"⟩
abbrev cX3_becomeClause : ByteArray := prog_5_method_8_code
def yX3_becomeClause : MethodName := ⟨RX3, "becomeClause", "(III)V"⟩
abbrev cX3_sayAsClause : ByteArray := prog_5_method_9_code
def yX3_sayAsClause : MethodName := ⟨RX3, "sayAsClause", "(I)V"⟩
abbrev cX3_becomeCut : ByteArray := prog_5_method_10_code
def yX3_becomeCut : MethodName := ⟨RX3, "becomeCut", "(LSharedSense$Line;LSharedSense$Line;I)Z"⟩
abbrev cX3_rememberCut : ByteArray := prog_5_method_11_code
def yX3_rememberCut : MethodName := ⟨RX3, "rememberCut", "(III)V"⟩
abbrev cX3_sayAsCut : ByteArray := prog_5_method_12_code
def yX3_sayAsCut : MethodName := ⟨RX3, "sayAsCut", "(LSharedSense$Line;LSharedSense$Line;I)V"⟩
abbrev cX3_joins : ByteArray := prog_5_method_13_code
def yX3_joins : MethodName := ⟨RX3, "joins", "(II)Z"⟩
def RX4 : String := "SharedSense$Reader"
def TX4 : u_T := fun k => match k with
  | 0 => ("SharedSense$Reader", "clauseSide", "[I", true)
  | 1 => ("SharedSense$Reader", "plainLetters", "[I", true)
  | 2 => ("SharedSense$Reader", "turnedLetters", "[I", true)
  | 3 => ("SharedSense$Reader", "clausesRead", "I", false)
  | 4 => ("SharedSense$Reader", "plainNow", "I", false)
  | 5 => ("SharedSense$Reader", "turnedNow", "I", false)
  | 6 => ("SharedSense$Reader", "firstLine", "[I", true)
  | 7 => ("SharedSense$Reader", "secondLine", "[I", true)
  | 8 => ("SharedSense$Reader", "cutLetter", "[I", true)
  | _ => ("SharedSense$Reader", "stepsRead", "I", false)
def tyX4 : Nat → FieldType := fun k => match k with
  | 0 => .array .int
  | 1 => .array .int
  | 2 => .array .int
  | 3 => .int
  | 4 => .int
  | 5 => .int
  | 6 => .array .int
  | 7 => .array .int
  | 8 => .array .int
  | _ => .int
theorem nmX4 : ∀ a, a < 10 → ∀ b, b < 10 → a ≠ b → (TX4 a).2.1 ≠ (TX4 b).2.1 := by decide +kernel
theorem tyX4_ok : ∀ k, k < 10 → parseFieldDescriptor (TX4 k).2.2.1 = some (tyX4 k) := by decide +kernel
abbrev cX4_init : ByteArray := prog_6_method_1_code
def yX4_init : MethodName := ⟨RX4, "<init>", "()V"⟩
abbrev cX4_at : ByteArray := prog_6_method_2_code
def yX4_at : MethodName := ⟨RX4, "at", "([II)I"⟩
abbrev cX4_clausesRead : ByteArray := prog_6_method_3_code
def yX4_clausesRead : MethodName := ⟨RX4, "clausesRead", "()I"⟩
abbrev cX4_sideOf : ByteArray := prog_6_method_4_code
def yX4_sideOf : MethodName := ⟨RX4, "sideOf", "(I)I"⟩
abbrev cX4_plainOf : ByteArray := prog_6_method_5_code
def yX4_plainOf : MethodName := ⟨RX4, "plainOf", "(I)I"⟩
abbrev cX4_turnedOf : ByteArray := prog_6_method_6_code
def yX4_turnedOf : MethodName := ⟨RX4, "turnedOf", "(I)I"⟩
abbrev cX4_stepsRead : ByteArray := prog_6_method_7_code
def yX4_stepsRead : MethodName := ⟨RX4, "stepsRead", "()I"⟩
abbrev cX4_firstOf : ByteArray := prog_6_method_8_code
def yX4_firstOf : MethodName := ⟨RX4, "firstOf", "(I)I"⟩
abbrev cX4_secondOf : ByteArray := prog_6_method_9_code
def yX4_secondOf : MethodName := ⟨RX4, "secondOf", "(I)I"⟩
abbrev cX4_letterOf : ByteArray := prog_6_method_10_code
def yX4_letterOf : MethodName := ⟨RX4, "letterOf", "(I)I"⟩
abbrev cX4_readClauses : ByteArray := prog_6_method_11_code
def yX4_readClauses : MethodName := ⟨RX4, "readClauses", "(LSharedSense$Text;)I"⟩
abbrev cX4_readClause : ByteArray := prog_6_method_12_code
def yX4_readClause : MethodName := ⟨RX4, "readClause", "(LSharedSense$Text;I)Z"⟩
abbrev cX4_readLiteral : ByteArray := prog_6_method_13_code
def yX4_readLiteral : MethodName := ⟨RX4, "readLiteral", "(LSharedSense$Text;)Z"⟩
abbrev cX4_readSteps : ByteArray := prog_6_method_14_code
def yX4_readSteps : MethodName := ⟨RX4, "readSteps", "(LSharedSense$Text;I)I"⟩
abbrev cX4_readStep : ByteArray := prog_6_method_15_code
def yX4_readStep : MethodName := ⟨RX4, "readStep", "(LSharedSense$Text;II)Z"⟩
abbrev cX4_passed : ByteArray := prog_6_method_16_code
def yX4_passed : MethodName := ⟨RX4, "passed", "(LSharedSense$Text;I)Z"⟩
def RX5 : String := "SharedSense$Right"
def TX5 : u_T := fun k => match k with
  | _ => ("", "", "", false)
def tyX5 : Nat → FieldType := fun k => match k with
  | _ => .int
theorem nmX5 : ∀ a, a < 0 → ∀ b, b < 0 → a ≠ b → (TX5 a).2.1 ≠ (TX5 b).2.1 := by decide +kernel
theorem tyX5_ok : ∀ k, k < 0 → parseFieldDescriptor (TX5 k).2.2.1 = some (tyX5 k) := by decide +kernel
abbrev cX5_init : ByteArray := prog_7_method_1_code
def yX5_init : MethodName := ⟨RX5, "<init>", "()V"⟩
abbrev cX5_work : ByteArray := prog_7_method_2_code
def yX5_work : MethodName := ⟨RX5, "work", "(LSharedSense$Line;LSharedSense$Trail;)I"⟩
def RX6 : String := "SharedSense$Rule"
def TX6 : u_T := fun k => match k with
  | _ => ("", "", "", false)
def tyX6 : Nat → FieldType := fun k => match k with
  | _ => .int
theorem nmX6 : ∀ a, a < 0 → ∀ b, b < 0 → a ≠ b → (TX6 a).2.1 ≠ (TX6 b).2.1 := by decide +kernel
theorem tyX6_ok : ∀ k, k < 0 → parseFieldDescriptor (TX6 k).2.2.1 = some (tyX6 k) := by decide +kernel
abbrev cX6_init : ByteArray := prog_8_method_1_code
def yX6_init : MethodName := ⟨RX6, "<init>", "()V"⟩
abbrev cX6_work : ByteArray := prog_8_method_2_code
def yX6_work : MethodName := ⟨RX6, "work", "(LSharedSense$Line;LSharedSense$Trail;)I"⟩
def RX7 : String := "SharedSense$Sides"
def TX7 : u_T := fun k => match k with
  | 0 => ("SharedSense$Sides", "one", "LSharedSense$WorldSet;", true)
  | 1 => ("SharedSense$Sides", "two", "LSharedSense$WorldSet;", true)
  | 2 => ("SharedSense$Sides", "strongest", "LSharedSense$WorldSet;", true)
  | 3 => ("SharedSense$Sides", "weakest", "LSharedSense$WorldSet;", true)
  | 4 => ("SharedSense$Sides", "scratch", "LSharedSense$WorldSet;", true)
  | 5 => ("SharedSense$Sides", "lettersOfOne", "I", false)
  | 6 => ("SharedSense$Sides", "lettersOfTwo", "I", false)
  | 7 => ("SharedSense$Sides", "fewestKnown", "Z", false)
  | _ => ("SharedSense$Sides", "fewestSet", "I", false)
def tyX7 : Nat → FieldType := fun k => match k with
  | 0 => .object "SharedSense$WorldSet"
  | 1 => .object "SharedSense$WorldSet"
  | 2 => .object "SharedSense$WorldSet"
  | 3 => .object "SharedSense$WorldSet"
  | 4 => .object "SharedSense$WorldSet"
  | 5 => .int
  | 6 => .int
  | 7 => .boolean
  | _ => .int
theorem nmX7 : ∀ a, a < 9 → ∀ b, b < 9 → a ≠ b → (TX7 a).2.1 ≠ (TX7 b).2.1 := by decide +kernel
theorem tyX7_ok : ∀ k, k < 9 → parseFieldDescriptor (TX7 k).2.2.1 = some (tyX7 k) := by decide +kernel
abbrev cX7_init : ByteArray := prog_9_method_1_code
def yX7_init : MethodName := ⟨RX7, "<init>", "()V"⟩
abbrev cX7_learn : ByteArray := prog_9_method_2_code
def yX7_learn : MethodName := ⟨RX7, "learn", "([LSharedSense$Line;I)V"⟩
abbrev cX7_sharedLetters : ByteArray := prog_9_method_3_code
def yX7_sharedLetters : MethodName := ⟨RX7, "sharedLetters", "()I"⟩
abbrev cX7_ownerOf : ByteArray := prog_9_method_4_code
def yX7_ownerOf : MethodName := ⟨RX7, "ownerOf", "(I)I"⟩
abbrev cX7_judge : ByteArray := prog_9_method_5_code
def yX7_judge : MethodName := ⟨RX7, "judge", "(LSharedSense$WorldSet;)I"⟩
abbrev cX7_freeChoices : ByteArray := prog_9_method_6_code
def yX7_freeChoices : MethodName := ⟨RX7, "freeChoices", "()I"⟩
abbrev cX7_fewestLetters : ByteArray := prog_9_method_7_code
def yX7_fewestLetters : MethodName := ⟨RX7, "fewestLetters", "()I"⟩
abbrev cX7_findFewest : ByteArray := prog_9_method_8_code
def yX7_findFewest : MethodName := ⟨RX7, "findFewest", "()I"⟩
abbrev cX7_tellsApart : ByteArray := prog_9_method_9_code
def yX7_tellsApart : MethodName := ⟨RX7, "tellsApart", "(I)Z"⟩
def RX8 : String := "SharedSense$Text"
def TX8 : u_T := fun k => match k with
  | 0 => ("SharedSense$Text", "bytes", "[B", true)
  | 1 => ("SharedSense$Text", "length", "I", false)
  | 2 => ("SharedSense$Text", "place", "I", false)
  | 3 => ("SharedSense$Text", "start", "I", false)
  | 4 => ("SharedSense$Text", "kind", "I", false)
  | _ => ("SharedSense$Text", "value", "I", false)
def tyX8 : Nat → FieldType := fun k => match k with
  | 0 => .array .byte
  | 1 => .int
  | 2 => .int
  | 3 => .int
  | 4 => .int
  | _ => .int
theorem nmX8 : ∀ a, a < 6 → ∀ b, b < 6 → a ≠ b → (TX8 a).2.1 ≠ (TX8 b).2.1 := by decide +kernel
theorem tyX8_ok : ∀ k, k < 6 → parseFieldDescriptor (TX8 k).2.2.1 = some (tyX8 k) := by decide +kernel
abbrev cX8_init : ByteArray := prog_10_method_1_code
def yX8_init : MethodName := ⟨RX8, "<init>", "()V"⟩
abbrev cX8_size : ByteArray := prog_10_method_2_code
def yX8_size : MethodName := ⟨RX8, "size", "()I"⟩
abbrev cX8_wipe : ByteArray := prog_10_method_3_code
def yX8_wipe : MethodName := ⟨RX8, "wipe", "()V"⟩
abbrev cX8_append : ByteArray := prog_10_method_4_code
def yX8_append : MethodName := ⟨RX8, "append", "(JI)Z"⟩
abbrev cX8_kind : ByteArray := prog_10_method_5_code
def yX8_kind : MethodName := ⟨RX8, "kind", "()I"⟩
abbrev cX8_value : ByteArray := prog_10_method_6_code
def yX8_value : MethodName := ⟨RX8, "value", "()I"⟩
abbrev cX8_start : ByteArray := prog_10_method_7_code
def yX8_start : MethodName := ⟨RX8, "start", "()I"⟩
abbrev cX8_readFirst : ByteArray := prog_10_method_8_code
def yX8_readFirst : MethodName := ⟨RX8, "readFirst", "()V"⟩
abbrev cX8_readNext : ByteArray := prog_10_method_9_code
def yX8_readNext : MethodName := ⟨RX8, "readNext", "()V"⟩
abbrev cX8_skipBlanks : ByteArray := prog_10_method_10_code
def yX8_skipBlanks : MethodName := ⟨RX8, "skipBlanks", "()V"⟩
abbrev cX8_readWord : ByteArray := prog_10_method_11_code
def yX8_readWord : MethodName := ⟨RX8, "readWord", "()V"⟩
abbrev cX8_readNumber : ByteArray := prog_10_method_12_code
def yX8_readNumber : MethodName := ⟨RX8, "readNumber", "()V"⟩
abbrev cX8_byteAt : ByteArray := prog_10_method_13_code
def yX8_byteAt : MethodName := ⟨RX8, "byteAt", "(I)I"⟩
abbrev cX8_isWordSign : ByteArray := prog_10_method_14_code
def yX8_isWordSign : MethodName := ⟨RX8, "isWordSign", "(I)Z"⟩
abbrev cX8_isDigit : ByteArray := prog_10_method_15_code
def yX8_isDigit : MethodName := ⟨RX8, "isDigit", "(I)Z"⟩
def RX9 : String := "SharedSense$Trail"
def TX9 : u_T := fun k => match k with
  | _ => ("SharedSense$Trail", "sum", "J", false)
def tyX9 : Nat → FieldType := fun k => match k with
  | _ => .long
theorem nmX9 : ∀ a, a < 1 → ∀ b, b < 1 → a ≠ b → (TX9 a).2.1 ≠ (TX9 b).2.1 := by decide +kernel
theorem tyX9_ok : ∀ k, k < 1 → parseFieldDescriptor (TX9 k).2.2.1 = some (tyX9 k) := by decide +kernel
abbrev cX9_init : ByteArray := prog_11_method_1_code
def yX9_init : MethodName := ⟨RX9, "<init>", "()V"⟩
abbrev cX9_mark : ByteArray := prog_11_method_2_code
def yX9_mark : MethodName := ⟨RX9, "mark", "(I)V"⟩
abbrev cX9_sum : ByteArray := prog_11_method_3_code
def yX9_sum : MethodName := ⟨RX9, "sum", "()J"⟩
def RX10 : String := "SharedSense$WorldSet"
def TX10 : u_T := fun k => match k with
  | _ => ("SharedSense$WorldSet", "parts", "[J", true)
def tyX10 : Nat → FieldType := fun k => match k with
  | _ => .array .long
theorem nmX10 : ∀ a, a < 1 → ∀ b, b < 1 → a ≠ b → (TX10 a).2.1 ≠ (TX10 b).2.1 := by decide +kernel
theorem tyX10_ok : ∀ k, k < 1 → parseFieldDescriptor (TX10 k).2.2.1 = some (tyX10 k) := by decide +kernel
abbrev cX10_init : ByteArray := prog_12_method_1_code
def yX10_init : MethodName := ⟨RX10, "<init>", "()V"⟩
abbrev cX10_partWhereSo : ByteArray := prog_12_method_2_code
def yX10_partWhereSo : MethodName := ⟨RX10, "partWhereSo", "(II)J"⟩
abbrev cX10_has : ByteArray := prog_12_method_3_code
def yX10_has : MethodName := ⟨RX10, "has", "(I)Z"⟩
abbrev cX10_put : ByteArray := prog_12_method_4_code
def yX10_put : MethodName := ⟨RX10, "put", "(IZ)V"⟩
abbrev cX10_part : ByteArray := prog_12_method_5_code
def yX10_part : MethodName := ⟨RX10, "part", "(I)J"⟩
abbrev cX10_size : ByteArray := prog_12_method_6_code
def yX10_size : MethodName := ⟨RX10, "size", "()I"⟩
abbrev cX10_sizeWith : ByteArray := prog_12_method_7_code
def yX10_sizeWith : MethodName := ⟨RX10, "sizeWith", "(LSharedSense$WorldSet;)I"⟩
abbrev cX10_isWithin : ByteArray := prog_12_method_8_code
def yX10_isWithin : MethodName := ⟨RX10, "isWithin", "(LSharedSense$WorldSet;)Z"⟩
abbrev cX10_leastWorld : ByteArray := prog_12_method_9_code
def yX10_leastWorld : MethodName := ⟨RX10, "leastWorld", "()I"⟩
abbrev cX10_wipe : ByteArray := prog_12_method_10_code
def yX10_wipe : MethodName := ⟨RX10, "wipe", "()V"⟩
abbrev cX10_turn : ByteArray := prog_12_method_11_code
def yX10_turn : MethodName := ⟨RX10, "turn", "()V"⟩
abbrev cX10_fill : ByteArray := prog_12_method_12_code
def yX10_fill : MethodName := ⟨RX10, "fill", "()V"⟩
abbrev cX10_become : ByteArray := prog_12_method_13_code
def yX10_become : MethodName := ⟨RX10, "become", "(LSharedSense$WorldSet;)V"⟩
abbrev cX10_join : ByteArray := prog_12_method_14_code
def yX10_join : MethodName := ⟨RX10, "join", "(LSharedSense$WorldSet;)V"⟩
abbrev cX10_meet : ByteArray := prog_12_method_15_code
def yX10_meet : MethodName := ⟨RX10, "meet", "(LSharedSense$WorldSet;)V"⟩
abbrev cX10_joinWhere : ByteArray := prog_12_method_16_code
def yX10_joinWhere : MethodName := ⟨RX10, "joinWhere", "(IZ)V"⟩
abbrev cX10_choose : ByteArray := prog_12_method_17_code
def yX10_choose : MethodName := ⟨RX10, "choose", "(ILSharedSense$WorldSet;LSharedSense$WorldSet;)V"⟩
abbrev cX10_partTurned : ByteArray := prog_12_method_18_code
def yX10_partTurned : MethodName := ⟨RX10, "partTurned", "(II)J"⟩
abbrev cX10_spread : ByteArray := prog_12_method_19_code
def yX10_spread : MethodName := ⟨RX10, "spread", "(I)V"⟩
abbrev cX10_spreadBut : ByteArray := prog_12_method_20_code
def yX10_spreadBut : MethodName := ⟨RX10, "spreadBut", "(I)V"⟩
abbrev cX10_hangsOn : ByteArray := prog_12_method_21_code
def yX10_hangsOn : MethodName := ⟨RX10, "hangsOn", "(I)Z"⟩
abbrev cX10_lettersLookedAt : ByteArray := prog_12_method_22_code
def yX10_lettersLookedAt : MethodName := ⟨RX10, "lettersLookedAt", "()I"⟩
def RX11 : String := "SharedSense"
def TX11 : u_T := fun k => match k with
  | 0 => ("SharedSense", "text", "LSharedSense$Text;", true)
  | 1 => ("SharedSense", "reader", "LSharedSense$Reader;", true)
  | 2 => ("SharedSense", "lines", "[LSharedSense$Line;", true)
  | 3 => ("SharedSense", "sides", "LSharedSense$Sides;", true)
  | 4 => ("SharedSense", "core", "LSharedSense$Core;", true)
  | 5 => ("SharedSense", "told", "LSharedSense$WorldSet;", true)
  | 6 => ("SharedSense", "trail", "LSharedSense$Trail;", true)
  | 7 => ("SharedSense", "plainRule", "LSharedSense$Rule;", true)
  | 8 => ("SharedSense", "leftRule", "LSharedSense$Rule;", true)
  | 9 => ("SharedSense", "rightRule", "LSharedSense$Rule;", true)
  | 10 => ("SharedSense", "evenRule", "LSharedSense$Rule;", true)
  | 11 => ("SharedSense", "clauseCount", "I", false)
  | 12 => ("SharedSense", "lineCount", "I", false)
  | 13 => ("SharedSense", "stepCount", "I", false)
  | 14 => ("SharedSense", "wrongStep", "I", false)
  | _ => ("SharedSense", "endLine", "I", false)
def tyX11 : Nat → FieldType := fun k => match k with
  | 0 => .object "SharedSense$Text"
  | 1 => .object "SharedSense$Reader"
  | 2 => .array (.object "SharedSense$Line")
  | 3 => .object "SharedSense$Sides"
  | 4 => .object "SharedSense$Core"
  | 5 => .object "SharedSense$WorldSet"
  | 6 => .object "SharedSense$Trail"
  | 7 => .object "SharedSense$Rule"
  | 8 => .object "SharedSense$Rule"
  | 9 => .object "SharedSense$Rule"
  | 10 => .object "SharedSense$Rule"
  | 11 => .int
  | 12 => .int
  | 13 => .int
  | 14 => .int
  | _ => .int
theorem nmX11 : ∀ a, a < 16 → ∀ b, b < 16 → a ≠ b → (TX11 a).2.1 ≠ (TX11 b).2.1 := by decide +kernel
theorem tyX11_ok : ∀ k, k < 16 → parseFieldDescriptor (TX11 k).2.2.1 = some (tyX11 k) := by decide +kernel
abbrev cX11_init : ByteArray := prog_1_method_1_code
def yX11_init : MethodName := ⟨RX11, "<init>", "()V"⟩
abbrev cX11_type : ByteArray := prog_1_method_2_code
def yX11_type : MethodName := ⟨RX11, "type", "(JI)I"⟩
abbrev cX11_clear : ByteArray := prog_1_method_3_code
def yX11_clear : MethodName := ⟨RX11, "clear", "()I"⟩
abbrev cX11_clauses : ByteArray := prog_1_method_4_code
def yX11_clauses : MethodName := ⟨RX11, "clauses", "()I"⟩
abbrev cX11_proof : ByteArray := prog_1_method_5_code
def yX11_proof : MethodName := ⟨RX11, "proof", "()I"⟩
abbrev cX11_wrong : ByteArray := prog_1_method_6_code
def yX11_wrong : MethodName := ⟨RX11, "wrong", "()I"⟩
abbrev cX11_end : ByteArray := prog_1_method_7_code
def yX11_end : MethodName := ⟨RX11, "end", "()I"⟩
abbrev cX11_line : ByteArray := prog_1_method_8_code
def yX11_line : MethodName := ⟨RX11, "line", "(II)I"⟩
abbrev cX11_side : ByteArray := prog_1_method_9_code
def yX11_side : MethodName := ⟨RX11, "side", "(I)I"⟩
abbrev cX11_holds : ByteArray := prog_1_method_10_code
def yX11_holds : MethodName := ⟨RX11, "holds", "(II)I"⟩
abbrev cX11_worlds : ByteArray := prog_1_method_11_code
def yX11_worlds : MethodName := ⟨RX11, "worlds", "(I)I"⟩
abbrev cX11_says : ByteArray := prog_1_method_12_code
def yX11_says : MethodName := ⟨RX11, "says", "(III)I"⟩
abbrev cX11_saying : ByteArray := prog_1_method_13_code
def yX11_saying : MethodName := ⟨RX11, "saying", "(II)J"⟩
abbrev cX11_between : ByteArray := prog_1_method_14_code
def yX11_between : MethodName := ⟨RX11, "between", "(I)I"⟩
abbrev cX11_looks : ByteArray := prog_1_method_15_code
def yX11_looks : MethodName := ⟨RX11, "looks", "(I)I"⟩
abbrev cX11_compare : ByteArray := prog_1_method_16_code
def yX11_compare : MethodName := ⟨RX11, "compare", "(II)I"⟩
abbrev cX11_bounds : ByteArray := prog_1_method_17_code
def yX11_bounds : MethodName := ⟨RX11, "bounds", "(I)I"⟩
abbrev cX11_fewest : ByteArray := prog_1_method_18_code
def yX11_fewest : MethodName := ⟨RX11, "fewest", "(I)I"⟩
abbrev cX11_tell : ByteArray := prog_1_method_19_code
def yX11_tell : MethodName := ⟨RX11, "tell", "(II)I"⟩
abbrev cX11_copy : ByteArray := prog_1_method_20_code
def yX11_copy : MethodName := ⟨RX11, "copy", "(III)I"⟩
abbrev cX11_check : ByteArray := prog_1_method_21_code
def yX11_check : MethodName := ⟨RX11, "check", "()I"⟩
abbrev cX11_used : ByteArray := prog_1_method_22_code
def yX11_used : MethodName := ⟨RX11, "used", "()I"⟩
abbrev cX11_needed : ByteArray := prog_1_method_23_code
def yX11_needed : MethodName := ⟨RX11, "needed", "(I)I"⟩
abbrev cX11_labour : ByteArray := prog_1_method_24_code
def yX11_labour : MethodName := ⟨RX11, "labour", "(II)I"⟩
abbrev cX11_count : ByteArray := prog_1_method_25_code
def yX11_count : MethodName := ⟨RX11, "count", "(I)I"⟩
abbrev cX11_trace : ByteArray := prog_1_method_26_code
def yX11_trace : MethodName := ⟨RX11, "trace", "()J"⟩
abbrev cX11_isWorld : ByteArray := prog_1_method_27_code
def yX11_isWorld : MethodName := ⟨RX11, "isWorld", "(I)Z"⟩
abbrev cX11_isWay : ByteArray := prog_1_method_28_code
def yX11_isWay : MethodName := ⟨RX11, "isWay", "(I)Z"⟩
abbrev cX11_sizeOrSet : ByteArray := prog_1_method_29_code
def yX11_sizeOrSet : MethodName := ⟨RX11, "sizeOrSet", "(II)I"⟩
abbrev cX11_lineAt : ByteArray := prog_1_method_30_code
def yX11_lineAt : MethodName := ⟨RX11, "lineAt", "(I)LSharedSense$Line;"⟩
abbrev cX11_setOf : ByteArray := prog_1_method_31_code
def yX11_setOf : MethodName := ⟨RX11, "setOf", "(I)LSharedSense$WorldSet;"⟩
abbrev cX11_ruleOf : ByteArray := prog_1_method_32_code
def yX11_ruleOf : MethodName := ⟨RX11, "ruleOf", "(I)LSharedSense$Rule;"⟩
abbrev cX11_takeClauses : ByteArray := prog_1_method_33_code
def yX11_takeClauses : MethodName := ⟨RX11, "takeClauses", "()V"⟩
abbrev cX11_forgetProof : ByteArray := prog_1_method_34_code
def yX11_forgetProof : MethodName := ⟨RX11, "forgetProof", "()V"⟩
abbrev cX11_takeSteps : ByteArray := prog_1_method_35_code
def yX11_takeSteps : MethodName := ⟨RX11, "takeSteps", "()V"⟩
abbrev cX11_makeLine : ByteArray := prog_1_method_36_code
def yX11_makeLine : MethodName := ⟨RX11, "makeLine", "(I)Z"⟩
abbrev cX11_firstEmptyLine : ByteArray := prog_1_method_37_code
def yX11_firstEmptyLine : MethodName := ⟨RX11, "firstEmptyLine", "()I"⟩
abbrev cX11_clausesUnder : ByteArray := prog_1_method_38_code
def yX11_clausesUnder : MethodName := ⟨RX11, "clausesUnder", "(I)I"⟩
abbrev cX11_bitOf : ByteArray := prog_1_method_39_code
def yX11_bitOf : MethodName := ⟨RX11, "bitOf", "(I)J"⟩
def RX12 : String := "SharedSenseModel"
def TX12 : u_T := fun k => match k with
  | 0 => ("SharedSenseModel", "thrown", "I", false)
  | 1 => ("SharedSenseModel", "trace", "J", false)
  | 2 => ("SharedSenseModel", "text", "[I", true)
  | 3 => ("SharedSenseModel", "typed", "I", false)
  | 4 => ("SharedSenseModel", "next", "I", false)
  | 5 => ("SharedSenseModel", "token", "I", false)
  | 6 => ("SharedSenseModel", "place", "I", false)
  | 7 => ("SharedSenseModel", "value", "I", false)
  | 8 => ("SharedSenseModel", "fault", "I", false)
  | 9 => ("SharedSenseModel", "clauses", "I", false)
  | 10 => ("SharedSenseModel", "made", "I", false)
  | 11 => ("SharedSenseModel", "steps", "I", false)
  | 12 => ("SharedSenseModel", "wrongStep", "I", false)
  | 13 => ("SharedSenseModel", "line", "[I", true)
  | 14 => ("SharedSenseModel", "draft", "[I", true)
  | 15 => ("SharedSenseModel", "step", "[I", true)
  | 16 => ("SharedSenseModel", "held", "[J", true)
  | 17 => ("SharedSenseModel", "said", "[J", true)
  | 18 => ("SharedSenseModel", "one", "[J", true)
  | 19 => ("SharedSenseModel", "two", "[J", true)
  | 20 => ("SharedSenseModel", "strong", "[J", true)
  | 21 => ("SharedSenseModel", "weak", "[J", true)
  | 22 => ("SharedSenseModel", "told", "[J", true)
  | 23 => ("SharedSenseModel", "spare", "[J", true)
  | _ => ("SharedSenseModel", "other", "[J", true)
def tyX12 : Nat → FieldType := fun k => match k with
  | 0 => .int
  | 1 => .long
  | 2 => .array .int
  | 3 => .int
  | 4 => .int
  | 5 => .int
  | 6 => .int
  | 7 => .int
  | 8 => .int
  | 9 => .int
  | 10 => .int
  | 11 => .int
  | 12 => .int
  | 13 => .array .int
  | 14 => .array .int
  | 15 => .array .int
  | 16 => .array .long
  | 17 => .array .long
  | 18 => .array .long
  | 19 => .array .long
  | 20 => .array .long
  | 21 => .array .long
  | 22 => .array .long
  | 23 => .array .long
  | _ => .array .long
theorem nmX12 : ∀ a, a < 25 → ∀ b, b < 25 → a ≠ b → (TX12 a).2.1 ≠ (TX12 b).2.1 := by decide +kernel
theorem tyX12_ok : ∀ k, k < 25 → parseFieldDescriptor (TX12 k).2.2.1 = some (tyX12 k) := by decide +kernel
abbrev cX12_init : ByteArray := prog_14_method_1_code
def yX12_init : MethodName := ⟨RX12, "<init>", "()V"⟩
abbrev cX12_in : ByteArray := prog_14_method_3_code
def yX12_in : MethodName := ⟨RX12, "in", "(III)Z"⟩
abbrev cX12_ones : ByteArray := prog_14_method_4_code
def yX12_ones : MethodName := ⟨RX12, "ones", "(I)I"⟩
abbrev cX12_has : ByteArray := prog_14_method_5_code
def yX12_has : MethodName := ⟨RX12, "has", "([JII)Z"⟩
abbrev cX12_type : ByteArray := prog_14_method_6_code
def yX12_type : MethodName := ⟨RX12, "type", "(JI)I"⟩
abbrev cX12_clear : ByteArray := prog_14_method_7_code
def yX12_clear : MethodName := ⟨RX12, "clear", "()I"⟩
abbrev cX12_byteAt : ByteArray := prog_14_method_8_code
def yX12_byteAt : MethodName := ⟨RX12, "byteAt", "(I)I"⟩
abbrev cX12_word : ByteArray := prog_14_method_9_code
def yX12_word : MethodName := ⟨RX12, "word", "(I)V"⟩
abbrev cX12_advances : ByteArray := prog_14_method_10_code
def yX12_advances : MethodName := ⟨RX12, "advances", "()V"⟩
abbrev cX12_isWell : ByteArray := prog_14_method_11_code
def yX12_isWell : MethodName := ⟨RX12, "isWell", "()Z"⟩
abbrev cX12_wants : ByteArray := prog_14_method_12_code
def yX12_wants : MethodName := ⟨RX12, "wants", "(Z)V"⟩
abbrev cX12_goesOn : ByteArray := prog_14_method_13_code
def yX12_goesOn : MethodName := ⟨RX12, "goesOn", "()V"⟩
abbrev cX12_begins : ByteArray := prog_14_method_14_code
def yX12_begins : MethodName := ⟨RX12, "begins", "()V"⟩
abbrev cX12_readsClause : ByteArray := prog_14_method_15_code
def yX12_readsClause : MethodName := ⟨RX12, "readsClause", "(I)V"⟩
abbrev cX12_clauses : ByteArray := prog_14_method_16_code
def yX12_clauses : MethodName := ⟨RX12, "clauses", "()I"⟩
abbrev cX12_isSo : ByteArray := prog_14_method_17_code
def yX12_isSo : MethodName := ⟨RX12, "isSo", "(III)Z"⟩
abbrev cX12_holding : ByteArray := prog_14_method_18_code
def yX12_holding : MethodName := ⟨RX12, "holding", "(I)V"⟩
abbrev cX12_lettersOf : ByteArray := prog_14_method_19_code
def yX12_lettersOf : MethodName := ⟨RX12, "lettersOf", "(I)I"⟩
abbrev cX12_shared : ByteArray := prog_14_method_20_code
def yX12_shared : MethodName := ⟨RX12, "shared", "()I"⟩
abbrev cX12_beginning : ByteArray := prog_14_method_21_code
def yX12_beginning : MethodName := ⟨RX12, "beginning", "(I)V"⟩
abbrev cX12_bounds : ByteArray := prog_14_method_22_code
def yX12_bounds : MethodName := ⟨RX12, "bounds", "()V"⟩
abbrev cX12_spreads : ByteArray := prog_14_method_23_code
def yX12_spreads : MethodName := ⟨RX12, "spreads", "([J[JI)V"⟩
abbrev cX12_readsStep : ByteArray := prog_14_method_24_code
def yX12_readsStep : MethodName := ⟨RX12, "readsStep", "(I)V"⟩
abbrev cX12_makes : ByteArray := prog_14_method_25_code
def yX12_makes : MethodName := ⟨RX12, "makes", "(I)Z"⟩
abbrev cX12_proof : ByteArray := prog_14_method_26_code
def yX12_proof : MethodName := ⟨RX12, "proof", "()I"⟩
abbrev cX12_wrong : ByteArray := prog_14_method_27_code
def yX12_wrong : MethodName := ⟨RX12, "wrong", "()I"⟩
abbrev cX12_ending : ByteArray := prog_14_method_28_code
def yX12_ending : MethodName := ⟨RX12, "ending", "()I"⟩
abbrev cX12_end : ByteArray := prog_14_method_29_code
def yX12_end : MethodName := ⟨RX12, "end", "()I"⟩
abbrev cX12_isLine : ByteArray := prog_14_method_30_code
def yX12_isLine : MethodName := ⟨RX12, "isLine", "(I)Z"⟩
abbrev cX12_line : ByteArray := prog_14_method_31_code
def yX12_line : MethodName := ⟨RX12, "line", "(II)I"⟩
abbrev cX12_side : ByteArray := prog_14_method_32_code
def yX12_side : MethodName := ⟨RX12, "side", "(I)I"⟩
abbrev cX12_holds : ByteArray := prog_14_method_33_code
def yX12_holds : MethodName := ⟨RX12, "holds", "(II)I"⟩
abbrev cX12_many : ByteArray := prog_14_method_34_code
def yX12_many : MethodName := ⟨RX12, "many", "([J)I"⟩
abbrev cX12_worlds : ByteArray := prog_14_method_35_code
def yX12_worlds : MethodName := ⟨RX12, "worlds", "(I)I"⟩
abbrev cX12_isWay : ByteArray := prog_14_method_36_code
def yX12_isWay : MethodName := ⟨RX12, "isWay", "(I)Z"⟩
abbrev cX12_says : ByteArray := prog_14_method_37_code
def yX12_says : MethodName := ⟨RX12, "says", "(III)I"⟩
abbrev cX12_saying : ByteArray := prog_14_method_38_code
def yX12_saying : MethodName := ⟨RX12, "saying", "(II)J"⟩
abbrev cX12_takes : ByteArray := prog_14_method_39_code
def yX12_takes : MethodName := ⟨RX12, "takes", "(I[J)Z"⟩
abbrev cX12_looksOf : ByteArray := prog_14_method_40_code
def yX12_looksOf : MethodName := ⟨RX12, "looksOf", "([J)I"⟩
abbrev cX12_checks : ByteArray := prog_14_method_41_code
def yX12_checks : MethodName := ⟨RX12, "checks", "([J)I"⟩
abbrev cX12_between : ByteArray := prog_14_method_42_code
def yX12_between : MethodName := ⟨RX12, "between", "(I)I"⟩
abbrev cX12_looks : ByteArray := prog_14_method_43_code
def yX12_looks : MethodName := ⟨RX12, "looks", "(I)I"⟩
abbrev cX12_compare : ByteArray := prog_14_method_44_code
def yX12_compare : MethodName := ⟨RX12, "compare", "(II)I"⟩
abbrev cX12_bounds_ : ByteArray := prog_14_method_45_code
def yX12_bounds_ : MethodName := ⟨RX12, "bounds", "(I)I"⟩
abbrev cX12_fewest : ByteArray := prog_14_method_46_code
def yX12_fewest : MethodName := ⟨RX12, "fewest", "(I)I"⟩
abbrev cX12_tell : ByteArray := prog_14_method_47_code
def yX12_tell : MethodName := ⟨RX12, "tell", "(II)I"⟩
abbrev cX12_copy : ByteArray := prog_14_method_48_code
def yX12_copy : MethodName := ⟨RX12, "copy", "(III)I"⟩
abbrev cX12_check : ByteArray := prog_14_method_49_code
def yX12_check : MethodName := ⟨RX12, "check", "()I"⟩
abbrev cX12_used : ByteArray := prog_14_method_50_code
def yX12_used : MethodName := ⟨RX12, "used", "()I"⟩
abbrev cX12_clash : ByteArray := prog_14_method_51_code
def yX12_clash : MethodName := ⟨RX12, "clash", "(I)Z"⟩
abbrev cX12_needed : ByteArray := prog_14_method_52_code
def yX12_needed : MethodName := ⟨RX12, "needed", "(I)I"⟩
abbrev cX12_labour : ByteArray := prog_14_method_53_code
def yX12_labour : MethodName := ⟨RX12, "labour", "(II)I"⟩
abbrev cX12_count : ByteArray := prog_14_method_54_code
def yX12_count : MethodName := ⟨RX12, "count", "(I)I"⟩
abbrev cX12_trace : ByteArray := prog_14_method_55_code
def yX12_trace : MethodName := ⟨RX12, "trace", "()J"⟩
def RJ6 : String := "java/lang/Integer"
def TJ6 : u_T := fun k => match k with
  | _ => ("", "", "", false)
def tyJ6 : Nat → FieldType := fun k => match k with
  | _ => .int
theorem nmJ6 : ∀ a, a < 0 → ∀ b, b < 0 → a ≠ b → (TJ6 a).2.1 ≠ (TJ6 b).2.1 := by decide +kernel
theorem tyJ6_ok : ∀ k, k < 0 → parseFieldDescriptor (TJ6 k).2.2.1 = some (tyJ6 k) := by decide +kernel
abbrev cJ6_bitCount_0f7a4 : ByteArray := prog_15_method_49_code
def yJ6_bitCount_0f7a4 : MethodName := ⟨RJ6, "bitCount", "(I)I"⟩
def RJ13 : String := "java/lang/Long"
def TJ13 : u_T := fun k => match k with
  | _ => ("", "", "", false)
def tyJ13 : Nat → FieldType := fun k => match k with
  | _ => .int
theorem nmJ13 : ∀ a, a < 0 → ∀ b, b < 0 → a ≠ b → (TJ13 a).2.1 ≠ (TJ13 b).2.1 := by decide +kernel
theorem tyJ13_ok : ∀ k, k < 0 → parseFieldDescriptor (TJ13 k).2.2.1 = some (tyJ13 k) := by decide +kernel
abbrev cJ13_bitCount_95d88 : ByteArray := prog_16_method_50_code
def yJ13_bitCount_95d88 : MethodName := ⟨RJ13, "bitCount", "(J)I"⟩
def RJ9 : String := "java/lang/Math"
def TJ9 : u_T := fun k => match k with
  | _ => ("", "", "", false)
def tyJ9 : Nat → FieldType := fun k => match k with
  | _ => .int
theorem nmJ9 : ∀ a, a < 0 → ∀ b, b < 0 → a ≠ b → (TJ9 a).2.1 ≠ (TJ9 b).2.1 := by decide +kernel
theorem tyJ9_ok : ∀ k, k < 0 → parseFieldDescriptor (TJ9 k).2.2.1 = some (tyJ9 k) := by decide +kernel
abbrev cJ9_min_7cf53 : ByteArray := prog_17_method_69_code
def yJ9_min_7cf53 : MethodName := ⟨RJ9, "min", "(II)I"⟩
abbrev dp_cl : List vw_C := [(RX0, TX0, 6), (RX1, TX1, 0), (RX2, TX2, 0), (RX3, TX3, 7), (RX4, TX4, 10), (RX5, TX5, 0), (RX6, TX6, 0), (RX7, TX7, 9), (RX8, TX8, 6), (RX9, TX9, 1), (RX10, TX10, 1), (RX11, TX11, 16), (RX12, TX12, 25)]
def dp_ty : Nat → Nat → FieldType := fun ci => match ci with
  | 0 => tyX0
  | 1 => tyX1
  | 2 => tyX2
  | 3 => tyX3
  | 4 => tyX4
  | 5 => tyX5
  | 6 => tyX6
  | 7 => tyX7
  | 8 => tyX8
  | 9 => tyX9
  | 10 => tyX10
  | 11 => tyX11
  | _ => tyX12
theorem dp_in_X0 : ∀ w ∈ u_ws RX0 TX0 6, w ∈ lw_tbl := by decide +kernel
theorem dp_in_X1 : ∀ w ∈ u_ws RX1 TX1 0, w ∈ lw_tbl := by decide +kernel
theorem dp_in_X2 : ∀ w ∈ u_ws RX2 TX2 0, w ∈ lw_tbl := by decide +kernel
theorem dp_in_X3 : ∀ w ∈ u_ws RX3 TX3 7, w ∈ lw_tbl := by decide +kernel
theorem dp_in_X4 : ∀ w ∈ u_ws RX4 TX4 10, w ∈ lw_tbl := by decide +kernel
theorem dp_in_X5 : ∀ w ∈ u_ws RX5 TX5 0, w ∈ lw_tbl := by decide +kernel
theorem dp_in_X6 : ∀ w ∈ u_ws RX6 TX6 0, w ∈ lw_tbl := by decide +kernel
theorem dp_in_X7 : ∀ w ∈ u_ws RX7 TX7 9, w ∈ lw_tbl := by decide +kernel
theorem dp_in_X8 : ∀ w ∈ u_ws RX8 TX8 6, w ∈ lw_tbl := by decide +kernel
theorem dp_in_X9 : ∀ w ∈ u_ws RX9 TX9 1, w ∈ lw_tbl := by decide +kernel
theorem dp_in_X10 : ∀ w ∈ u_ws RX10 TX10 1, w ∈ lw_tbl := by decide +kernel
theorem dp_in_X11 : ∀ w ∈ u_ws RX11 TX11 16, w ∈ lw_tbl := by decide +kernel
theorem dp_in_X12 : ∀ w ∈ u_ws RX12 TX12 25, w ∈ lw_tbl := by decide +kernel
theorem dp_in : ∀ (ci : Nat) (q : vw_C), dp_cl[ci]? = some q → ∀ w ∈ u_ws q.1 q.2.1 q.2.2, w ∈ lw_tbl := by
  intro ci q h
  match ci, h with
  | 0, h => cases h; exact dp_in_X0
  | 1, h => cases h; exact dp_in_X1
  | 2, h => cases h; exact dp_in_X2
  | 3, h => cases h; exact dp_in_X3
  | 4, h => cases h; exact dp_in_X4
  | 5, h => cases h; exact dp_in_X5
  | 6, h => cases h; exact dp_in_X6
  | 7, h => cases h; exact dp_in_X7
  | 8, h => cases h; exact dp_in_X8
  | 9, h => cases h; exact dp_in_X9
  | 10, h => cases h; exact dp_in_X10
  | 11, h => cases h; exact dp_in_X11
  | 12, h => cases h; exact dp_in_X12
  | k + 13, h => simp [dp_cl] at h
theorem dp_nm : ∀ (ci : Nat) (q : vw_C), dp_cl[ci]? = some q → ∀ a, a < q.2.2 → ∀ b, b < q.2.2 → a ≠ b → (q.2.1 a).2.1 ≠ (q.2.1 b).2.1 := by
  intro ci q h
  match ci, h with
  | 0, h => cases h; exact nmX0
  | 1, h => cases h; exact nmX1
  | 2, h => cases h; exact nmX2
  | 3, h => cases h; exact nmX3
  | 4, h => cases h; exact nmX4
  | 5, h => cases h; exact nmX5
  | 6, h => cases h; exact nmX6
  | 7, h => cases h; exact nmX7
  | 8, h => cases h; exact nmX8
  | 9, h => cases h; exact nmX9
  | 10, h => cases h; exact nmX10
  | 11, h => cases h; exact nmX11
  | 12, h => cases h; exact nmX12
  | k + 13, h => simp [dp_cl] at h
theorem dp_ty_ok : ∀ (ci : Nat) (q : vw_C), dp_cl[ci]? = some q → ∀ k, k < q.2.2 → parseFieldDescriptor (q.2.1 k).2.2.1 = some (dp_ty ci k) := by
  intro ci q h
  match ci, h with
  | 0, h => cases h; exact tyX0_ok
  | 1, h => cases h; exact tyX1_ok
  | 2, h => cases h; exact tyX2_ok
  | 3, h => cases h; exact tyX3_ok
  | 4, h => cases h; exact tyX4_ok
  | 5, h => cases h; exact tyX5_ok
  | 6, h => cases h; exact tyX6_ok
  | 7, h => cases h; exact tyX7_ok
  | 8, h => cases h; exact tyX8_ok
  | 9, h => cases h; exact tyX9_ok
  | 10, h => cases h; exact tyX10_ok
  | 11, h => cases h; exact tyX11_ok
  | 12, h => cases h; exact tyX12_ok
  | k + 13, h => simp [dp_cl] at h
end
section
abbrev ev_M : Type := MethodName × ByteArray × Nat × Option FieldType
abbrev ev_H : Type := Nat → va_E
abbrev ev_L : Type := List (Option Value)
abbrev ev_Q : Type := Nat → ev_H → List Value → Prop
abbrev ev_X : Type := Nat → Nat → Nat → ev_M → Nat → ev_H → Nat → ev_L → List Value → ev_Q → Prop
/-- locals: a store of one word, of two -/
def ev_kl (ls : ev_L) (i : Nat) : ev_L := match i with
  | 0 => ls
  | j + 1 => match ls[j]? with
    | some (some (.long _)) => ls.set j none
    | some (some (.double _)) => ls.set j none
    | _ => ls
def ev_s1 (ls : ev_L) (i : Nat) (v : Value) : ev_L := (ev_kl ls i).set i (some v)
def ev_s2 (ls : ev_L) (i : Nat) (v : Value) : ev_L := ((ev_kl ls i).set (i + 1) none).set i (some v)
def ev_2i (f : Int32 → Int32 → Value) (st : List Value) : Option (List Value) := match st with
  | .int y :: .int x :: r => some (f x y :: r)
  | _ => none
def ev_2l (f : Int64 → Int64 → Value) (st : List Value) : Option (List Value) := match st with
  | .long y :: .long x :: r => some (f x y :: r)
  | _ => none
def ev_li (f : Int64 → Int32 → Value) (st : List Value) : Option (List Value) := match st with
  | .int y :: .long x :: r => some (f x y :: r)
  | _ => none
def ev_1i (f : Int32 → Value) (st : List Value) : Option (List Value) := match st with
  | .int x :: r => some (f x :: r)
  | _ => none
def ev_1l (f : Int64 → Value) (st : List Value) : Option (List Value) := match st with
  | .long x :: r => some (f x :: r)
  | _ => none
def ev_ldi (ls : ev_L) (k : Nat) : Option Value := match ls[k]? with
  | some (some (.int x)) => some (.int x)
  | _ => none
def ev_ldl (ls : ev_L) (k : Nat) : Option Value := match ls[k]? with
  | some (some (.long x)) => some (.long x)
  | _ => none
def ev_lda (ls : ev_L) (k : Nat) : Option Value := match ls[k]? with
  | some (some (.ref x)) => some (.ref x)
  | some (some .null) => some .null
  | _ => none
def ev_sti (ls : ev_L) (k : Nat) (st : List Value) : Option (ev_L × List Value) := match st with
  | .int x :: r => if k < ls.length then some (ev_s1 ls k (.int x), r) else none
  | _ => none
def ev_stl (ls : ev_L) (k : Nat) (st : List Value) : Option (ev_L × List Value) := match st with
  | .long x :: r => if k + 1 < ls.length then some (ev_s2 ls k (.long x), r) else none
  | _ => none
def ev_sta (ls : ev_L) (k : Nat) (st : List Value) : Option (ev_L × List Value) := match st with
  | .ref x :: r => if k < ls.length then some (ev_s1 ls k (.ref x), r) else none
  | .null :: r => if k < ls.length then some (ev_s1 ls k .null, r) else none
  | _ => none
def ev_inc (ls : ev_L) (k : Nat) (n : Int) : Option ev_L := match ls[k]? with
  | some (some (.int x)) => if k < ls.length then some (ev_s1 ls k (.int (x + Int32.ofInt n))) else none
  | _ => none
def ev_dup (st : List Value) : Option (List Value) := match st with
  | v :: r => if v.category = 1 then some (v :: v :: r) else none
  | _ => none
def ev_pop (st : List Value) : Option (List Value) := match st with
  | v :: r => if v.category = 1 then some r else none
  | _ => none
def ev_dup2 (st : List Value) : Option (List Value) := match st with
  | v :: r => if v.category = 2 then some (v :: v :: r) else match r with
    | w :: r => if w.category = 2 then none else some (v :: w :: v :: w :: r)
    | _ => none
  | _ => none
def ev_pop2 (st : List Value) : Option (List Value) := match st with
  | v :: r => if v.category = 2 then some r else none
  | _ => none
def ev_div (st : List Value) : Option (List Value) := match st with
  | .int y :: .int x :: r => if y = 0 then none else some (.int (x / y) :: r)
  | _ => none
def ev_to (pc : Nat) (off : Int) : Option Nat := if 0 ≤ (pc : Int) + off then some ((pc : Int) + off).toNat else none
/-- the length of an instruction -/
def ev_ln (i : Instr) : Nat := match i with
  | .bipush _ => 2
  | .sipush _ => 3
  | .iload _ => 2
  | .lload _ => 2
  | .aload _ => 2
  | .istore _ => 2
  | .lstore _ => 2
  | .astore _ => 2
  | .iinc _ _ => 3
  | .goto _ => 3
  | _ => 1
/-- instructions that touch no cell -/
def ev_pu (i : Instr) (pc : Nat) (ls : ev_L) (st : List Value) : Option (Nat × ev_L × List Value) := match i with
  | .iconst k => some (pc + 1, ls, .int (Int32.ofInt k) :: st)
  | .bipush k => some (pc + 2, ls, .int (Int8.ofInt k).toInt32 :: st)
  | .sipush k => some (pc + 3, ls, .int (Int16.ofInt k).toInt32 :: st)
  | .lconst k => some (pc + 1, ls, .long (Int64.ofNat (k : Nat)) :: st)
  | .aconst_null => some (pc + 1, ls, .null :: st)
  | .iload_n k => (ev_ldi ls (k : Nat)).map (fun v => (pc + 1, ls, v :: st))
  | .iload k => (ev_ldi ls k).map (fun v => (pc + 2, ls, v :: st))
  | .lload_n k => (ev_ldl ls (k : Nat)).map (fun v => (pc + 1, ls, v :: st))
  | .lload k => (ev_ldl ls k).map (fun v => (pc + 2, ls, v :: st))
  | .aload_n k => (ev_lda ls (k : Nat)).map (fun v => (pc + 1, ls, v :: st))
  | .aload k => (ev_lda ls k).map (fun v => (pc + 2, ls, v :: st))
  | .istore_n k => (ev_sti ls (k : Nat) st).map (fun q => (pc + 1, q.1, q.2))
  | .istore k => (ev_sti ls k st).map (fun q => (pc + 2, q.1, q.2))
  | .lstore_n k => (ev_stl ls (k : Nat) st).map (fun q => (pc + 1, q.1, q.2))
  | .lstore k => (ev_stl ls k st).map (fun q => (pc + 2, q.1, q.2))
  | .astore_n k => (ev_sta ls (k : Nat) st).map (fun q => (pc + 1, q.1, q.2))
  | .astore k => (ev_sta ls k st).map (fun q => (pc + 2, q.1, q.2))
  | .iinc k n => (ev_inc ls k n).map (fun q => (pc + 3, q, st))
  | .iadd => (ev_2i (fun x y => .int (x + y)) st).map (fun q => (pc + 1, ls, q))
  | .isub => (ev_2i (fun x y => .int (x - y)) st).map (fun q => (pc + 1, ls, q))
  | .imul => (ev_2i (fun x y => .int (x * y)) st).map (fun q => (pc + 1, ls, q))
  | .iand => (ev_2i (fun x y => .int (x &&& y)) st).map (fun q => (pc + 1, ls, q))
  | .ior => (ev_2i (fun x y => .int (x ||| y)) st).map (fun q => (pc + 1, ls, q))
  | .ixor => (ev_2i (fun x y => .int (x ^^^ y)) st).map (fun q => (pc + 1, ls, q))
  | .ishl => (ev_2i (fun x y => .int (x <<< (y &&& 31))) st).map (fun q => (pc + 1, ls, q))
  | .ishr => (ev_2i (fun x y => .int (x >>> (y &&& 31))) st).map (fun q => (pc + 1, ls, q))
  | .iushr => (ev_2i (fun x y => .int (x.toUInt32 >>> (y.toUInt32 &&& Int32.toUInt32 31)).toInt32) st).map (fun q => (pc + 1, ls, q))
  | .idiv => (ev_div st).map (fun q => (pc + 1, ls, q))
  | .ladd => (ev_2l (fun x y => .long (x + y)) st).map (fun q => (pc + 1, ls, q))
  | .lsub => (ev_2l (fun x y => .long (x - y)) st).map (fun q => (pc + 1, ls, q))
  | .land => (ev_2l (fun x y => .long (x &&& y)) st).map (fun q => (pc + 1, ls, q))
  | .lor => (ev_2l (fun x y => .long (x ||| y)) st).map (fun q => (pc + 1, ls, q))
  | .lxor => (ev_2l (fun x y => .long (x ^^^ y)) st).map (fun q => (pc + 1, ls, q))
  | .lcmp => (ev_2l (fun x y => .int (lg_cmp x y)) st).map (fun q => (pc + 1, ls, q))
  | .lneg => (ev_1l (fun x => .long (-x)) st).map (fun q => (pc + 1, ls, q))
  | .lshl => (ev_li (fun x y => .long (x <<< (y.toInt64 &&& 63))) st).map (fun q => (pc + 1, ls, q))
  | .lshr => (ev_li (fun x y => .long (x >>> (y.toInt64 &&& 63))) st).map (fun q => (pc + 1, ls, q))
  | .lushr => (ev_li (fun x y => .long (x.toUInt64 >>> (y.toInt64.toUInt64 &&& Int64.toUInt64 63)).toInt64) st).map (fun q => (pc + 1, ls, q))
  | .i2l => (ev_1i (fun x => .long x.toInt64) st).map (fun q => (pc + 1, ls, q))
  | .i2b => (ev_1i (fun x => .int x.toInt8.toInt32) st).map (fun q => (pc + 1, ls, q))
  | .l2i => (ev_1l (fun x => .int x.toInt32) st).map (fun q => (pc + 1, ls, q))
  | .dup => (ev_dup st).map (fun q => (pc + 1, ls, q))
  | .pop => (ev_pop st).map (fun q => (pc + 1, ls, q))
  | .dup2 => (ev_dup2 st).map (fun q => (pc + 1, ls, q))
  | .pop2 => (ev_pop2 st).map (fun q => (pc + 1, ls, q))
  | .goto off => (ev_to pc off).map (fun q => (q, ls, st))
  | _ => none
/-- a fork: what it asks, what is left of the stack, how far it goes -/
def ev_br (i : Instr) (st : List Value) : Option (Prop × Prop × List Value × Int) := match i with
  | .ifCond cd off => match st with
    | .int x :: r => match cd with
      | .eq => some (x = 0, ¬ x = 0, r, off)
      | .ne => some (¬ x = 0, x = 0, r, off)
      | .lt => some (x < 0, ¬ x < 0, r, off)
      | .ge => some (0 ≤ x, ¬ 0 ≤ x, r, off)
      | .gt => some (0 < x, ¬ 0 < x, r, off)
      | .le => some (x ≤ 0, ¬ x ≤ 0, r, off)
    | _ => none
  | .if_icmp cd off => match st with
    | .int y :: .int x :: r => match cd with
      | .eq => some (x = y, ¬ x = y, r, off)
      | .ne => some (¬ x = y, x = y, r, off)
      | .lt => some (x < y, ¬ x < y, r, off)
      | .ge => some (y ≤ x, ¬ y ≤ x, r, off)
      | .gt => some (y < x, ¬ y < x, r, off)
      | .le => some (x ≤ y, ¬ x ≤ y, r, off)
    | _ => none
  | .ifnull off => match st with
    | .ref _ :: r => some (False, True, r, off)
    | .null :: r => some (True, False, r, off)
    | _ => none
  | .ifnonnull off => match st with
    | .ref _ :: r => some (True, False, r, off)
    | .null :: r => some (False, True, r, off)
    | _ => none
  | _ => none
end
section
def dp_tb : List Cond := lw_tbl.filter goodWord
def dp_isN (w : Cond) : Bool := match w with
  | .arrayOver (.object _) => true
  | .methodLinkNest _ _ _ _ => true
  | .fieldLinkNest _ _ _ _ _ _ => true
  | _ => false
def dp_nb : List Cond := lw_tbl.filter dp_isN
theorem dp_tbGood : ∀ w ∈ dp_tb, (w.onTables && w.keeps) = true ∨ ∃ ty, w = .arrayClass ty := fun _ h => good_of_word (List.mem_filter.mp h).2
theorem dp_warm {w : Cond} (hw : dp_isN w = true) {s U : State} (hW : s.WarmedH U.vm) (h : va_Nw w s) : va_Nw w U := by
  unfold dp_isN at hw
  split at hw
  · exact va_AO.moved hW.alike h
  · exact va_Nw.warmM hW h
  · exact va_Nw.warmF hW h
  · cases hw
theorem dp_vm {w : Cond} (hw : dp_isN w = true) {s U : State} (hv : s.vm = U.vm) (h : va_Nw w s) : va_Nw w U := by
  unfold dp_isN at hw
  split at hw
  · exact va_AO.moved (by rw [hv]; exact Vm.Alike.refl _) h
  · exact va_Nw.same rfl hv h
  · exact va_Nw.same rfl hv h
  · cases hw
def ev_am (b a0 a1 : Nat) (k : Nat) : Nat := match k with
  | 0 => a0
  | 1 => a1
  | k + 2 => b + k
def ev_v (am : Nat → Nat) (v : Value) : Value := match v with
  | .ref a => .ref (am a)
  | v => v
def ev_e (am : Nat → Nat) (dA : Nat → ClassId) (e : va_E) : va_E := match e with
  | .inl (t, n, .inr (.inr (.inr (.inr f)))) => .inl (dA t, n, .inr (.inr (.inr (.inr (fun j => (f j).map am)))))
  | .inl (t, n, .inl f) => .inl (dA t, n, .inl f)
  | .inl (t, n, .inr (.inl f)) => .inl (dA t, n, .inr (.inl f))
  | .inl (t, n, .inr (.inr (.inl f))) => .inl (dA t, n, .inr (.inr (.inl f)))
  | .inl (t, n, .inr (.inr (.inr (.inl f)))) => .inl (dA t, n, .inr (.inr (.inr (.inl f))))
  | .inr (ci, fs) => .inr (ci, fs.map (ev_v am))
theorem ev_am_lt {b a0 a1 : Nat} {k : Nat} (h : 2 ≤ k) : ev_am b a0 a1 k = b + (k - 2) := by
  match k, h with
  | k + 2, _ => simp [ev_am]
theorem ev_cat (am : Nat → Nat) (v : Value) : (ev_v am v).category = v.category := by cases v <;> rfl
def ev_A (b : Nat) : Nat → Prop := fun q => b ≤ q
def ev_so (j : Nat) : Int64 := match j with
  | 0 => -6148914691236517206
  | 1 => -3689348814741910324
  | 2 => -1085102592571150096
  | 3 => -71777214294589696
  | 4 => -281470681808896
  | _ => -4294967296
abbrev dp_tys (dA : Nat → ClassId) : List (ClassId × FieldType) := [(dA 0, .int), (dA 1, .long), (dA 2, .byte), (dA 3, .object RX10), (dA 4, .object RX3)]
def ev_CT (D : va_G) (dA : Nat → ClassId) (b a0 a1 : Nat) (xs : Nat → Int32) (L : Nat) (U : State) : Prop :=
  va_K D dp_cl (dp_tys dA) U ∧ va_X a0 L xs U U.heap ∧ va_T .long a1 6 (fun j => .long (ev_so j)) (ev_A b) U U.heap ∧ va_Z RX10 "SO" "[J" (.ref a1) (ev_A b) U U.heap ∧ (∀ w ∈ dp_nb, va_Nw w U) ∧ a0 < b ∧ b ≤ U.heap.size
def ev_WD (D : va_G) (dA : Nat → ClassId) (b a0 a1 : Nat) (sz : Nat) (h : ev_H) (H : Heap) : Prop :=
  H.size + 2 = b + sz ∧ 2 ≤ sz ∧ ∀ k, 2 ≤ k → k < sz → va_at D dp_cl (ev_am b a0 a1 k, ev_e (ev_am b a0 a1) dA (h k)) H
def ev_LV (am : Nat → Nat) (lsA : Array Slot) (n : Nat) (ls : ev_L) : Prop := lsA.size = n ∧ lv_wf lsA ∧ ls.length = n ∧ ∀ (j : Nat) (v : Value), ls[j]? = some (some v) → lsA[j]? = some (Slot.val (ev_v am v))
def ev_as (am : Nat → Nat) (ls : ev_L) : List (Nat × Value) := (List.range ls.length).filterMap (fun j => match ls[j]? with
  | some (some v) => some (j, ev_v am v)
  | _ => none)
theorem ev_as_mem {am : Nat → Nat} {ls : ev_L} {j : Nat} {w : Value} : (j, w) ∈ ev_as am ls ↔ ∃ v, ls[j]? = some (some v) ∧ w = ev_v am v := by
  constructor
  · intro h
    obtain ⟨i, -, hi⟩ := List.mem_filterMap.mp h
    split at hi
    · cases hi
      exact ⟨_, by assumption, rfl⟩
    · cases hi
  · rintro ⟨v, hv, rfl⟩
    refine List.mem_filterMap.mpr ⟨j, List.mem_range.mpr (List.getElem?_eq_some_iff.mp hv).1, ?_⟩
    rw [hv]
theorem ev_LV.has {am : Nat → Nat} {lsA : Array Slot} {n : Nat} {ls : ev_L} (h : ev_LV am lsA n ls) : lv_has lsA n (ev_as am ls) := by
  refine ⟨h.1, h.2.1, fun q hq => ?_⟩
  obtain ⟨j, w⟩ := q
  obtain ⟨v, hv, rfl⟩ := ev_as_mem.mp hq
  exact h.2.2.2 j v hv
theorem ev_kl_len (ls : ev_L) (i : Nat) : (ev_kl ls i).length = ls.length := by
  unfold ev_kl
  split
  · rfl
  · split <;> simp
theorem ev_kl_get {ls : ev_L} {i j : Nat} {w : Value} (h : (ev_kl ls i)[j]? = some (some w)) : ls[j]? = some (some w) ∧ ¬ (j + 1 = i ∧ w.category = 2) := by
  unfold ev_kl at h
  split at h
  · exact ⟨h, fun q => by omega⟩
  · rename_i k
    split at h
    · rename_i x hx
      by_cases hj : k = j
      · subst hj
        rw [List.getElem?_set_self (List.getElem?_eq_some_iff.mp hx).1] at h
        cases h
      · rw [List.getElem?_set_ne hj] at h
        exact ⟨h, fun q => hj (by omega)⟩
    · rename_i x hx
      by_cases hj : k = j
      · subst hj
        rw [List.getElem?_set_self (List.getElem?_eq_some_iff.mp hx).1] at h
        cases h
      · rw [List.getElem?_set_ne hj] at h
        exact ⟨h, fun q => hj (by omega)⟩
    · rename_i n1 n2
      refine ⟨h, fun q => ?_⟩
      obtain ⟨q1, q2⟩ := q
      have e : j = k := by omega
      subst e
      cases w with
      | long z => exact n1 z h
      | double z => exact n2 z h
      | _ => simp [Value.category] at q2
theorem ev_LV.s1 {am : Nat → Nat} {lsA : Array Slot} {n i : Nat} {ls : ev_L} {v : Value} (hn : ls.length = n) (h : lv_has lsA n ((i, ev_v am v) :: (ev_as am ls).filter (fun q => !(q.1 == i) && !(q.1 + 1 == i && q.2.category == 2)))) : ev_LV am lsA n (ev_s1 ls i v) := by
  refine ⟨h.1, h.2.1, by unfold ev_s1; rw [List.length_set, ev_kl_len, hn], fun j w hw => ?_⟩
  unfold ev_s1 at hw
  by_cases hj : i = j
  · subst hj
    have hl : i < (ev_kl ls i).length := by
      have := (List.getElem?_eq_some_iff.mp hw).1
      rwa [List.length_set] at this
    rw [List.getElem?_set_self hl] at hw
    cases hw
    exact h.2.2 (i, ev_v am v) List.mem_cons_self
  · rw [List.getElem?_set_ne hj] at hw
    obtain ⟨h1, h2⟩ := ev_kl_get hw
    refine h.2.2 (j, ev_v am w) (List.mem_cons_of_mem _ (List.mem_filter.mpr ⟨ev_as_mem.mpr ⟨w, h1, rfl⟩, ?_⟩))
    simp only [ev_cat]
    have hj' : j ≠ i := fun q => hj q.symm
    by_cases h3 : j + 1 = i
    · have h4 : w.category ≠ 2 := fun q => h2 ⟨h3, q⟩
      simp [hj', h4]
    · simp [hj', h3]
theorem ev_LV.s2 {am : Nat → Nat} {lsA : Array Slot} {n i : Nat} {ls : ev_L} {v : Value} (hn : ls.length = n) (h : lv_has lsA n ((i, ev_v am v) :: (ev_as am ls).filter (fun q => !(q.1 == i) && (!(q.1 == i + 1) && !(q.1 + 1 == i && q.2.category == 2))))) : ev_LV am lsA n (ev_s2 ls i v) := by
  refine ⟨h.1, h.2.1, by unfold ev_s2; rw [List.length_set, List.length_set, ev_kl_len, hn], fun j w hw => ?_⟩
  unfold ev_s2 at hw
  by_cases hj : i = j
  · subst hj
    have hl : i < ((ev_kl ls i).set (i + 1) none).length := by
      have := (List.getElem?_eq_some_iff.mp hw).1
      rwa [List.length_set] at this
    rw [List.getElem?_set_self hl] at hw
    cases hw
    exact h.2.2 (i, ev_v am v) List.mem_cons_self
  · rw [List.getElem?_set_ne hj] at hw
    by_cases hk : i + 1 = j
    · subst hk
      have hl : i + 1 < (ev_kl ls i).length := by
        have := (List.getElem?_eq_some_iff.mp hw).1
        rwa [List.length_set] at this
      rw [List.getElem?_set_self hl] at hw
      cases hw
    · rw [List.getElem?_set_ne hk] at hw
      obtain ⟨h1, h2⟩ := ev_kl_get hw
      refine h.2.2 (j, ev_v am w) (List.mem_cons_of_mem _ (List.mem_filter.mpr ⟨ev_as_mem.mpr ⟨w, h1, rfl⟩, ?_⟩))
      simp only [ev_cat]
      have hj' : j ≠ i := fun q => hj q.symm
      have hk' : j ≠ i + 1 := fun q => hk q.symm
      by_cases h3 : j + 1 = i
      · have h4 : w.category ≠ 2 := fun q => h2 ⟨h3, q⟩
        simp [hj', hk', h4]
      · simp [hj', hk', h3]
section EVP
variable {p : Program} {l : Launch} {e : Env} {R : Room} {s : State} {m : MethodId} {args : Array Value} {below : List Frame} {meth : Method} {c : Code} {H : Heap} {locs : List Loc} {cells slots : Nat} {Qf : State → Prop} {cc : ByteArray} {am : Nat → Nat}
set_option maxHeartbeats 4000000 in
theorem ev_pu_ok (hx : p.tables.exec = Jvm.exec) (hb : c.code = cc) {i : Instr} {pc pc' n : Nat} {ls ls' : ev_L} {st st' : List Value} {lsA : Array Slot} (h : ev_pu i pc ls st = some (pc', ls', st')) (hd : decode cc pc = .ok (i, ev_ln i)) (hl : ev_LV am lsA n ls)
    (kk : ∀ lsB, ev_LV am lsB n ls' → W p l e R s m args below meth c H locs cells slots Qf (F0 m pc' lsB (st'.map (ev_v am)))) : W p l e R s m args below meth c H locs cells slots Qf (F0 m pc lsA (st.map (ev_v am))) := by
  have get : ∀ {j : Nat} {v : Value}, ls[j]? = some (some v) → lsA[j]? = some (Slot.val (ev_v am v)) := fun q => hl.2.2.2 _ _ q
  unfold ev_pu at h
  split at h
  · cases h; exact lv_iconst hx hb hd rfl (kk _ hl)
  · cases h; exact lv_bipush hx hb hd rfl (kk _ hl)
  · cases h; exact lv_sipush hx hb hd rfl (kk _ hl)
  · cases h; exact lv_lconst hx hb hd rfl (kk _ hl)
  · cases h; exact lv_null hx hb hd (kk _ hl)
  all_goals first
    | (obtain ⟨v, hv, h⟩ := Option.map_eq_some_iff.mp h; unfold ev_ldi at hv; split at hv <;> cases hv; cases h; first | exact lv_iload_n hx hb hd rfl (get (by assumption)) (kk _ hl) | exact lv_iload hx hb hd (get (by assumption)) (kk _ hl))
    | (obtain ⟨v, hv, h⟩ := Option.map_eq_some_iff.mp h; unfold ev_ldl at hv; split at hv <;> cases hv; cases h; first | exact lv_lload_n hx hb hd rfl (get (by assumption)) (kk _ hl) | exact lv_lload hx hb hd (get (by assumption)) (kk _ hl))
    | (obtain ⟨v, hv, h⟩ := Option.map_eq_some_iff.mp h; unfold ev_lda at hv; split at hv <;> cases hv <;> cases h <;> first | exact lv_aload_n hx hb hd rfl (get (by assumption)) (kk _ hl) | exact lv_aload hx hb hd (get (by assumption)) (kk _ hl) | exact lv_aload_nN hx hb hd rfl (get (by assumption)) (kk _ hl) | exact lv_aloadN hx hb hd (get (by assumption)) (kk _ hl))
    | (obtain ⟨v, hv, h⟩ := Option.map_eq_some_iff.mp h; unfold ev_sti at hv; split at hv <;> first | (cases hv; done) | skip; split at hv <;> cases hv; cases h; first | exact lv_istore_n hx hb hd rfl hl.has (by rw [← hl.2.2.1]; assumption) rfl (fun lsB h9 => kk lsB (ev_LV.s1 hl.2.2.1 h9)) | exact lv_istore hx hb hd hl.has (by rw [← hl.2.2.1]; assumption) rfl (fun lsB h9 => kk lsB (ev_LV.s1 hl.2.2.1 h9)))
    | (obtain ⟨v, hv, h⟩ := Option.map_eq_some_iff.mp h; unfold ev_stl at hv; split at hv <;> first | (cases hv; done) | skip; split at hv <;> cases hv; cases h; first | exact lv_lstore_n hx hb hd rfl hl.has (by rw [← hl.2.2.1]; assumption) rfl (fun lsB h9 => kk lsB (ev_LV.s2 hl.2.2.1 h9)) | exact lv_lstore hx hb hd hl.has (by rw [← hl.2.2.1]; assumption) rfl (fun lsB h9 => kk lsB (ev_LV.s2 hl.2.2.1 h9)))
    | (obtain ⟨v, hv, h⟩ := Option.map_eq_some_iff.mp h; unfold ev_sta at hv; split at hv <;> first | (cases hv; done) | skip; all_goals (split at hv <;> cases hv); all_goals (cases h); all_goals first | exact lv_astore_n hx hb hd rfl hl.has (by rw [← hl.2.2.1]; assumption) rfl (fun lsB h9 => kk lsB (ev_LV.s1 hl.2.2.1 h9)) | exact lv_astore hx hb hd hl.has (by rw [← hl.2.2.1]; assumption) rfl (fun lsB h9 => kk lsB (ev_LV.s1 hl.2.2.1 h9)) | exact lv_astore_nN hx hb hd rfl hl.has (by rw [← hl.2.2.1]; assumption) rfl (fun lsB h9 => kk lsB (ev_LV.s1 hl.2.2.1 h9)) | exact lv_astoreN hx hb hd hl.has (by rw [← hl.2.2.1]; assumption) rfl (fun lsB h9 => kk lsB (ev_LV.s1 hl.2.2.1 h9)))
    | (obtain ⟨v, hv, h⟩ := Option.map_eq_some_iff.mp h; unfold ev_inc at hv; split at hv <;> first | (cases hv; done) | skip; rename_i x hg; split at hv <;> cases hv; cases h; obtain ⟨k9, hk9⟩ := List.getElem?_of_mem (ev_as_mem (am := am).mpr ⟨_, hg, rfl⟩); exact lv_iinc hx hb hd hl.has hk9 rfl (by rw [← hl.2.2.1]; assumption) rfl (fun lsB h9 => kk lsB (ev_LV.s1 hl.2.2.1 h9)))
    | (obtain ⟨v, hv, h⟩ := Option.map_eq_some_iff.mp h; unfold ev_2i at hv; split at hv <;> cases hv; cases h; first | exact lv_iadd hx hb hd (kk _ hl) | exact lv_isub hx hb hd (kk _ hl) | exact lv_imul hx hb hd (kk _ hl) | exact lv_iand hx hb hd (kk _ hl) | exact lv_ior hx hb hd (kk _ hl) | exact lv_ixor hx hb hd (kk _ hl) | exact lv_ishl hx hb hd (kk _ hl) | exact lv_ishr hx hb hd (kk _ hl) | exact lv_iushr hx hb hd rfl (kk _ hl))
    | (obtain ⟨v, hv, h⟩ := Option.map_eq_some_iff.mp h; unfold ev_2l at hv; split at hv <;> cases hv; cases h; first | exact lv_ladd hx hb hd (kk _ hl) | exact lv_lsub hx hb hd (kk _ hl) | exact lv_land hx hb hd (kk _ hl) | exact lv_lor hx hb hd (kk _ hl) | exact lv_lxor hx hb hd (kk _ hl) | exact W.lcmp hx hb hd (kk _ hl))
    | (obtain ⟨v, hv, h⟩ := Option.map_eq_some_iff.mp h; unfold ev_li at hv; split at hv <;> cases hv; cases h; first | exact lv_lshl hx hb hd rfl (kk _ hl) | exact lv_lshr hx hb hd rfl (kk _ hl) | exact lv_lushr hx hb hd rfl (kk _ hl))
    | (obtain ⟨v, hv, h⟩ := Option.map_eq_some_iff.mp h; unfold ev_1i at hv; split at hv <;> cases hv; cases h; first | exact lv_i2l hx hb hd rfl (kk _ hl) | exact lv_i2b hx hb hd rfl (kk _ hl))
    | (obtain ⟨v, hv, h⟩ := Option.map_eq_some_iff.mp h; unfold ev_1l at hv; split at hv <;> cases hv; cases h; first | exact lv_lneg hx hb hd (kk _ hl) | exact lv_l2i hx hb hd rfl (kk _ hl))
    | (obtain ⟨v, hv, h⟩ := Option.map_eq_some_iff.mp h; unfold ev_div at hv; split at hv <;> first | (cases hv; done) | skip; split at hv <;> cases hv; cases h; exact lv_idiv hx hb hd (by assumption) (kk _ hl))
    | (obtain ⟨v, hv, h⟩ := Option.map_eq_some_iff.mp h; unfold ev_dup at hv; split at hv <;> first | (cases hv; done) | skip; split at hv <;> cases hv; cases h; exact lv_dup hx hb hd (by rw [ev_cat]; assumption) (kk _ hl))
    | (obtain ⟨v, hv, h⟩ := Option.map_eq_some_iff.mp h; unfold ev_pop at hv; split at hv <;> first | (cases hv; done) | skip; split at hv <;> cases hv; cases h; exact lv_pop hx hb hd (by rw [ev_cat]; assumption) (kk _ hl))
    | (obtain ⟨v, hv, h⟩ := Option.map_eq_some_iff.mp h; unfold ev_pop2 at hv; split at hv <;> first | (cases hv; done) | skip; split at hv <;> cases hv; cases h; exact lv_pop2_2 hx hb hd (by rw [ev_cat]; assumption) (kk _ hl))
    | (obtain ⟨v, hv, h⟩ := Option.map_eq_some_iff.mp h; unfold ev_dup2 at hv; split at hv <;> first | (cases hv; done) | skip; split at hv; (cases hv; cases h; exact lv_dup2_2 hx hb hd (by rw [ev_cat]; assumption) (kk _ hl)); split at hv <;> first | (cases hv; done) | skip; split at hv <;> cases hv; cases h; exact lv_dup2_11 hx hb hd (by rw [ev_cat]; exact (lv_cat _).resolve_right (by assumption)) (by rw [ev_cat]; exact (lv_cat _).resolve_right (by assumption)) (kk _ hl))
    | (obtain ⟨v, hv, h⟩ := Option.map_eq_some_iff.mp h; unfold ev_to at hv; split at hv <;> cases hv; cases h; exact lv_goto hx hb hd (Int.toNat_of_nonneg (by assumption)).symm (kk _ hl))
    | (cases h; done)
    | skip
  · obtain ⟨v, hv, h9⟩ := Option.map_eq_some_iff.mp h
    clear h
    unfold ev_pop at hv
    split at hv
    · rename_i w r
      split at hv
      · rename_i hc
        cases hv
        cases h9
        exact lv_pop (va := ev_v am w) hx hb hd (by rw [ev_cat]; exact hc) (kk _ hl)
      · cases hv
    · cases hv
  · obtain ⟨v, hv, h9⟩ := Option.map_eq_some_iff.mp h
    clear h
    unfold ev_pop2 at hv
    split at hv
    · rename_i w r
      split at hv
      · rename_i hc
        cases hv
        cases h9
        exact lv_pop2_2 (va := ev_v am w) hx hb hd (by rw [ev_cat]; exact hc) (kk _ hl)
      · cases hv
    · cases hv
theorem ev_br_ok (hx : p.tables.exec = Jvm.exec) (hb : c.code = cc) {i : Instr} {pc tgt : Nat} {st r : List Value} {cd ce : Prop} {off : Int} {lsA : Array Slot} (h : ev_br i st = some (cd, ce, r, off)) (hd : decode cc pc = .ok (i, 3)) (ht : (pc : Int) + off = (tgt : Int))
    (kt : cd → W p l e R s m args below meth c H locs cells slots Qf (F0 m tgt lsA (r.map (ev_v am)))) (kf : ce → W p l e R s m args below meth c H locs cells slots Qf (F0 m (pc + 3) lsA (r.map (ev_v am)))) : W p l e R s m args below meth c H locs cells slots Qf (F0 m pc lsA (st.map (ev_v am))) := by
  unfold ev_br at h
  split at h
  · split at h <;> first | (cases h; done) | skip
    split at h <;> cases h <;> first | exact lv_if_eq hx hb hd ht kt kf | exact lv_if_lt hx hb hd ht kt kf | exact lv_if_ge hx hb hd ht kt kf | exact lv_if_gt hx hb hd ht kt kf | exact lv_if_le hx hb hd ht kt kf | exact lv_if_ne hx hb hd ht kt kf
  · split at h <;> first | (cases h; done) | skip
    split at h <;> cases h <;> first | exact lv_icmp_eq hx hb hd ht kt kf | exact lv_icmp_lt hx hb hd ht kt kf | exact lv_icmp_ge hx hb hd ht kt kf | exact lv_icmp_gt hx hb hd ht kt kf | exact lv_icmp_le hx hb hd ht kt kf | exact lv_icmp_ne hx hb hd ht kt kf
  · split at h <;> cases h
    · exact lv_ifnull hx hb hd (kf trivial)
    · exact lv_ifnullN hx hb hd ht (kt trivial)
  · split at h <;> cases h
    · exact lv_ifnonnull hx hb hd ht (kt trivial)
    · exact lv_ifnonnullN hx hb hd (kf trivial)
  · cases h
end EVP
end
section
def ev_fl (cls : String) (idx ci k : Nat) : Prop := ∃ q : vw_C, dp_cl[ci]? = some q ∧ k < q.2.2 ∧ (Cond.fieldLink cls idx (q.2.1 k).1 (q.2.1 k).2.1 (q.2.1 k).2.2.1 ∈ dp_tb ∨ ∃ host, Cond.fieldLinkNest cls idx (q.2.1 k).1 (q.2.1 k).2.1 (q.2.1 k).2.2.1 host ∈ dp_nb)
def ev_fp (y : MethodName) (idx ci k : Nat) (v : Value) : Prop := ∃ q : vw_C, dp_cl[ci]? = some q ∧ k < q.2.2 ∧ narrow (dp_ty ci k) v = v ∧ fits (dp_ty ci k) v = true ∧
  (((q.2.1 k).2.2.2 = false ∧ (Cond.fieldLink y.cls idx (q.2.1 k).1 (q.2.1 k).2.1 (q.2.1 k).2.2.1 ∈ dp_tb ∨ ∃ host, Cond.fieldLinkNest y.cls idx (q.2.1 k).1 (q.2.1 k).2.1 (q.2.1 k).2.2.1 host ∈ dp_nb)) ∨
   ((q.2.1 k).2.2.2 = true ∧ y.name = "<init>" ∧ (q.2.1 k).1 = y.cls ∧ Cond.fieldLink y.cls idx (q.2.1 k).1 (q.2.1 k).2.1 (q.2.1 k).2.2.1 ∈ dp_tb))
def ev_cs (st : List Value) : Nat := (st.map fun v => v.category).sum
/-- the kinds of new arrays of numbers: type, tag -/
def ev_at (t : ArrayType) : Option (Nat × vp_A) := match t with
  | .int => some (0, 0, .inl (fun _ => 0))
  | .long => some (1, 0, .inr (.inl (fun _ => 0)))
  | .byte => some (2, 0, .inl (fun _ => 0))
  | _ => none
/-- instructions that read or write cells, or link -/
def ev_hp (xs : Nat → Int32) (L d : Nat) (M : ev_M) (i : Instr) (kc ks sz : Nat) (h : ev_H) (st : List Value) (K : Nat → Nat → Nat → ev_H → Nat → List Value → Prop) : Prop := match i with
  | .getfield idx => ∃ a r ci fs k v, st = .ref a :: r ∧ 2 ≤ a ∧ a < sz ∧ h a = .inr (ci, fs) ∧ ev_fl M.1.cls idx ci k ∧ fs[k]? = some v ∧ K kc ks sz h 3 (v :: r)
  | .putfield idx => ∃ a r ci fs k v, st = v :: .ref a :: r ∧ 2 ≤ a ∧ a < sz ∧ h a = .inr (ci, fs) ∧ ev_fp M.1 idx ci k v ∧ k < fs.length ∧ K kc ks sz (va_up h a (.inr (ci, fs.set k v))) 3 r
  | .iaload => ∃ a r j, st = .int j :: .ref a :: r ∧ ((∃ n f, 2 ≤ a ∧ a < sz ∧ h a = .inl (0, n, .inl f) ∧ vp_in j n ∧ K kc ks sz h 1 (.int (f j.toNatClampNeg) :: r)) ∨ (a = 0 ∧ vp_in j L ∧ K kc ks sz h 1 (.int (xs j.toNatClampNeg) :: r)))
  | .laload => ∃ a r j, st = .int j :: .ref a :: r ∧ ((∃ n f, 2 ≤ a ∧ a < sz ∧ h a = .inl (1, n, .inr (.inl f)) ∧ vp_in j n ∧ K kc ks sz h 1 (.long (f j.toNatClampNeg) :: r)) ∨ (a = 1 ∧ vp_in j 6 ∧ K kc ks sz h 1 (.long (ev_so j.toNatClampNeg) :: r)))
  | .baload => ∃ a r j n f, st = .int j :: .ref a :: r ∧ 2 ≤ a ∧ a < sz ∧ h a = .inl (2, n, .inl f) ∧ vp_in j n ∧ K kc ks sz h 1 (.int (f j.toNatClampNeg) :: r)
  | .aaload => ∃ a r j t n f, st = .int j :: .ref a :: r ∧ 2 ≤ a ∧ a < sz ∧ h a = .inl (t, n, .inr (.inr (.inr (.inr f)))) ∧ (t = 3 ∨ t = 4) ∧ vp_in j n ∧ K kc ks sz h 1 (va_rf (f j.toNatClampNeg) :: r)
  | .iastore => ∃ a r j x n f, st = .int x :: .int j :: .ref a :: r ∧ 2 ≤ a ∧ a < sz ∧ h a = .inl (0, n, .inl f) ∧ vp_in j n ∧ K kc ks sz (va_up h a (.inl (0, n, .inl (upd f j.toNatClampNeg x)))) 1 r
  | .lastore => ∃ a r j x n f, st = .long x :: .int j :: .ref a :: r ∧ 2 ≤ a ∧ a < sz ∧ h a = .inl (1, n, .inr (.inl f)) ∧ vp_in j n ∧ K kc ks sz (va_up h a (.inl (1, n, .inr (.inl (vp_updL f j.toNatClampNeg x))))) 1 r
  | .bastore => ∃ a r j x n f, st = .int x :: .int j :: .ref a :: r ∧ 2 ≤ a ∧ a < sz ∧ h a = .inl (2, n, .inl f) ∧ vp_in j n ∧ K kc ks sz (va_up h a (.inl (2, n, .inl (upd f j.toNatClampNeg (vp_nar .byte x))))) 1 r
  | .aastore => ∃ a r j v t n f ci fs q, st = .ref v :: .int j :: .ref a :: r ∧ 2 ≤ a ∧ a < sz ∧ 2 ≤ v ∧ v < sz ∧ h a = .inl (t, n, .inr (.inr (.inr (.inr f)))) ∧ h v = .inr (ci, fs) ∧ dp_cl[ci]? = some q ∧ (t = 3 ∧ q.1 = RX10 ∨ t = 4 ∧ q.1 = RX3) ∧ vp_in j n ∧ K kc ks sz (va_up h a (.inl (t, n, .inr (.inr (.inr (.inr (va_up f j.toNatClampNeg (some v)))))))) 1 r
  | .arraylength => ∃ a r, st = .ref a :: r ∧ ((∃ t x, 2 ≤ a ∧ a < sz ∧ h a = .inl (t, x) ∧ t < 5 ∧ K kc ks sz h 1 (.int (Int32.ofNat x.1) :: r)) ∨ (a = 0 ∧ K kc ks sz h 1 (.int (Int32.ofNat L) :: r)) ∨ (a = 1 ∧ K kc ks sz h 1 (.int 6 :: r)))
  | .newarray ty => ∃ r n N t x kc' ks', st = .int n :: r ∧ ¬ n < 0 ∧ n.toNatClampNeg = N ∧ N ≤ 65536 ∧ ev_at ty = some (t, x) ∧ Cond.arrayClass (newarray.typeOf ty) ∈ dp_tb ∧ kc = kc' + 1 ∧ ks = ks' + N ∧ K kc' ks' (sz + 1) (va_up h sz (.inl (t, N, x.2))) 2 (.ref sz :: r)
  | .anewarray idx => ∃ r n N t C kc' ks', st = .int n :: r ∧ ¬ n < 0 ∧ n.toNatClampNeg = N ∧ N ≤ 65536 ∧ (t = 3 ∧ C = RX10 ∨ t = 4 ∧ C = RX3) ∧ Cond.classLink M.1.cls idx C ∈ dp_tb ∧ Cond.arrayOver (.object C) ∈ dp_nb ∧ kc = kc' + 1 ∧ ks = ks' + N ∧ K kc' ks' (sz + 1) (va_up h sz (.inl (t, N, .inr (.inr (.inr (.inr (fun _ => none))))))) 3 (.ref sz :: r)
  | .new idx => ∃ ci q fs kc' ks', dp_cl[ci]? = some q ∧ Cond.classLink M.1.cls idx q.1 ∈ dp_tb ∧ Cond.instantiable q.1 q.2.2 ∈ dp_tb ∧ Cond.initialized q.1 ∈ dp_tb ∧ fs = (List.range q.2.2).map (fun j => defaultValue (dp_ty ci j)) ∧ kc = kc' + 1 ∧ ks = ks' + q.2.2 ∧ K kc' ks' (sz + 1) (va_up h sz (.inr (ci, fs))) 3 (.ref sz :: st)
  | .getstatic idx => Cond.fieldLink M.1.cls idx RX10 "SO" "[J" ∈ dp_tb ∧ K kc ks sz h 3 (.ref 1 :: st)
  | .ldc idx => ∃ v, Cond.constant M.1.cls idx v ∈ dp_tb ∧ K kc ks sz h 2 (.int v :: st)
  | .ldc_w idx => ∃ v, Cond.constant M.1.cls idx v ∈ dp_tb ∧ K kc ks sz h 3 (.int v :: st)
  | .ldc2_w idx => ∃ v, Cond.constantLong M.1.cls idx v ∈ dp_tb ∧ K kc ks sz h 3 (.long v :: st)
  | .invokespecial idx => ∃ a r, st = .ref a :: r ∧ 0 < d ∧ ev_cs r ≤ 8 ∧ Cond.methodLink M.1.cls idx objectInit ∈ dp_tb ∧ Cond.instanceMethod objectInit ∈ dp_tb ∧ Cond.code objectInit ⟨#[0xb1]⟩ 1 none ∈ dp_tb ∧ K kc ks sz h 3 r
  | _ => False
end
section
theorem ev_P1 {D : va_G} {cl : List vw_C} {q : Nat × va_E} {H : Heap} (h : va_at D cl q H) : va_P D cl [q] H := by
  intro k x hk
  match k, hk with
  | 0, hk => cases hk; exact h
  | k + 1, hk => simp at hk
theorem ev_am_ne {b a0 a1 j k : Nat} (hj : 2 ≤ j) (hk : 2 ≤ k) (h : j ≠ k) : ev_am b a0 a1 j ≠ ev_am b a0 a1 k := by
  rw [ev_am_lt hj, ev_am_lt hk]
  omega
theorem ev_WD.set {D : va_G} {dA : Nat → ClassId} {b a0 a1 sz a : Nat} {h : ev_H} {H H1 : Heap} {x : va_E} (hW : ev_WD D dA b a0 a1 sz h H) (ha : 2 ≤ a) (he : va_at D dp_cl (ev_am b a0 a1 a, ev_e (ev_am b a0 a1) dA x) H1) (hz : H1.size = H.size) (oq : ∀ q : Nat, q ≠ ev_am b a0 a1 a → H1[q]? = H[q]?) : ev_WD D dA b a0 a1 sz (va_up h a x) H1 := by
  refine ⟨by rw [hz]; exact hW.1, hW.2.1, fun k h2 hk => ?_⟩
  by_cases hka : k = a
  · subst hka
    rw [va_up_self]
    exact he
  · rw [va_up_ne _ _ hka]
    exact (hW.2.2 k h2 hk).kept (oq _ (ev_am_ne h2 ha hka))
theorem ev_WD.am {D : va_G} {dA : Nat → ClassId} {b a0 a1 sz : Nat} {h : ev_H} {H : Heap} (hW : ev_WD D dA b a0 a1 sz h H) : ev_am b a0 a1 sz = H.size := by
  rw [ev_am_lt hW.2.1]
  have := hW.1
  have := hW.2.1
  omega
theorem ev_WD.push {D : va_G} {dA : Nat → ClassId} {b a0 a1 sz : Nat} {h : ev_H} {H H1 : Heap} {x : va_E} (hW : ev_WD D dA b a0 a1 sz h H) (he : va_at D dp_cl (H.size, ev_e (ev_am b a0 a1) dA x) H1) (hz : H1.size = H.size + 1) (oq : ∀ q : Nat, q < H.size → H1[q]? = H[q]?) : ev_WD D dA b a0 a1 (sz + 1) (va_up h sz x) H1 := by
  have hw := hW.1
  have hw2 := hW.2.1
  refine ⟨by omega, by omega, fun k h2 hk => ?_⟩
  by_cases hka : k = sz
  · subst hka
    rw [va_up_self, hW.am]
    exact he
  · rw [va_up_ne _ _ hka]
    refine (hW.2.2 k h2 (by omega)).kept (oq _ ?_)
    rw [ev_am_lt h2]
    omega
theorem ev_S.push {b : Nat} {H0 H H1 : Heap} {locs : List Loc} (hS : va_S (ev_A b) H0 H locs) (hz : H1.size = H.size + 1) (oq : ∀ q : Nat, q < H.size → H1[q]? = H[q]?) : va_S (ev_A b) H0 H1 locs :=
  ⟨Nat.le_trans hS.1 (by omega), fun x h1 h2 => (oq x (Nat.lt_of_lt_of_le h1 hS.1)).trans (hS.2.1 x h1 h2), hS.2.2⟩
theorem ev_narrow {ty : FieldType} {v : Value} (am : Nat → Nat) (h : narrow ty v = v) : narrow ty (ev_v am v) = ev_v am v := by
  cases v with
  | ref a => cases ty <;> simp_all [narrow, ev_v]
  | _ => exact h
theorem ev_fits {ty : FieldType} {v : Value} (am : Nat → Nat) (h : fits ty v = true) : fits ty (ev_v am v) = true := by
  cases v with
  | ref a => cases ty <;> simp_all [fits, ev_v]
  | _ => exact h
theorem ev_ob {am : Nat → Nat} {dA : Nat → ClassId} {ci : Nat} {fs : List Value} : ev_e am dA (.inr (ci, fs)) = .inr (ci, fs.map (ev_v am)) := rfl
section EVH
variable {p : Program} {l : Launch} {e : Env} {R : Room} {s : State} {m : MethodId} {args : Array Value} {below : List Frame} {meth : Method} {c : Code} {H : Heap} {locs : List Loc} {cells slots : Nat} {Qf : State → Prop}
variable {D : va_G} {dA : Nat → ClassId} {b a0 a1 : Nat} {xs : Nat → Int32} {L d : Nat} {M : ev_M} {kc ks sz : Nat} {h : ev_H} {pc len mc ms : Nat} {lsA : Array Slot} {st : List Value}
theorem ev_putf (hx : p.tables.exec = Jvm.exec) (hb : c.code = M.2.1) (hown : s.vm.findClass M.1.cls = some m.cls) (hts : ∀ w ∈ dp_tb, w.before args s = true) (hin : meth.name = M.1.name) (hC : ev_CT D dA b a0 a1 xs L s) (hS : va_S (ev_A b) s.heap H locs) (hW : ev_WD D dA b a0 a1 sz h H)
    {idx a ci k : Nat} {r fs : List Value} {v : Value} (ha : 2 ≤ a) (hs : a < sz) (hh : h a = .inr (ci, fs)) (hl : ev_fp M.1 idx ci k v) (hk : k < fs.length) (hd : decode M.2.1 pc = .ok (.putfield idx, 3))
    (kk : ∀ H' locs', va_S (ev_A b) s.heap H' locs' → ev_WD D dA b a0 a1 sz (va_up h a (.inr (ci, fs.set k v))) H' → W p l e R s m args below meth c H' locs' cells slots Qf (F0 m (pc + 3) lsA (r.map (ev_v (ev_am b a0 a1))))) :
    W p l e R s m args below meth c H locs cells slots Qf (F0 m pc lsA ((v :: .ref a :: r).map (ev_v (ev_am b a0 a1)))) := by
  obtain ⟨q, hq, hkq, hn, hf, hcase⟩ := hl
  have hK := hC.1
  have hin1 : ∀ w ∈ u_ws q.1 q.2.1 q.2.2, w ∈ lw_tbl := dp_in ci q hq
  have hin2 : ∀ w ∈ u_ws q.1 q.2.1 q.2.2, w ∈ dp_tb := fun w hw => by
    refine List.mem_filter.mpr ⟨hin1 w hw, ?_⟩
    obtain ⟨j, -, hj⟩ := List.mem_map.mp hw
    rw [← hj]
    unfold u_lay
    split <;> rfl
  have hap := va_apart (own := M.1.cls) hts hin2 (dp_ty ci) (dp_ty_ok ci q hq) (dp_nm ci q hq) hK hq
  have hat := hW.2.2 a ha hs
  rw [hh, ev_ob] at hat
  obtain ⟨r', h1, cell, q1, q2, q3, q4⟩ := hat
  have hr : r' = q := Option.some.inj (h1.symm.trans hq)
  subst hr
  obtain ⟨hSl, hfc, kC, hkC, hkind⟩ := hK.1 ci _ hq
  obtain ⟨cf, kf, fi, f, hi, hsl⟩ := hSl k hkq
  have hlay := hts _ (hin2 _ (u_in_lay hkq))
  unfold u_lay at hlay
  have hst := (u_facts hfc hkC (u_lays hts hin2 hkq) hi).1
  have hty := dp_ty_ok ci _ hq k hkq
  have fin : ∀ (H' : Heap), H'[ev_am b a0 a1 a]? = some (cell.setSlot f.slot (ev_v (ev_am b a0 a1) v)) → H'.size = H.size → (∀ q, q ≠ ev_am b a0 a1 a → H'[q]? = H[q]?) → W p l e R s m args below meth c H' (locs ++ [⟨ev_am b a0 a1 a, f.slot⟩]) cells slots Qf (F0 m (pc + 3) lsA (r.map (ev_v (ev_am b a0 a1)))) := by
    intro H' e1 e2 e3
    rw [hsl] at e1
    refine kk H' _ (hS.put e2 e3 (by show b ≤ _; rw [ev_am_lt ha]; omega)) (hW.set ha ?_ e2 e3)
    rw [ev_ob, List.map_set]
    exact ⟨_, hq, t_OB.to (V := updV (vp_V (fs.map (ev_v (ev_am b a0 a1)))) k (ev_v (ev_am b a0 a1) v)) ⟨_, e1, q2, q3, t_set q4 hap hkq _⟩ (fun j _ => vp_updV_set (by rw [List.length_map]; exact hk) _ j)⟩
  rcases hcase with ⟨hfin, hlink | ⟨host, hlink⟩⟩ | ⟨hfin, hnm, hdecl, hlink⟩
  · rw [if_neg (by rw [hfin]; decide)] at hlay
    have h6 := u_store hfc hkC hkind hlay hi hty (ev_narrow (ev_am b a0 a1) hn) (ev_fits (ev_am b a0 a1) hf)
    exact W.putK hx hb (f := f) ⟨hown, hts _ hlink, ⟨_, _, _, hi⟩, hst⟩ (by rw [q2]; exact h6) q1 q3 (by rw [hsl]; exact k2_hasslot (q4 k hkq)) rfl rfl hd fin
  · rw [if_neg (by rw [hfin]; decide)] at hlay
    have h6 := u_store hfc hkC hkind hlay hi hty (ev_narrow (ev_am b a0 a1) hn) (ev_fits (ev_am b a0 a1) hf)
    exact va_WputK hx hb (f := f) hown (va_Nw.use rfl (hC.2.2.2.2.1 _ hlink)) hi hst (by rw [q2]; exact h6) q1 q3 (by rw [hsl]; exact k2_hasslot (q4 k hkq)) rfl rfl hd fin
  · rw [if_pos hfin] at hlay
    have hcf : m.cls = cf := by
      obtain ⟨_, _, c', _, _, _, -, -, hf', -, -, -, hown2, -⟩ := Cond.laysFinal_spec hlay
      have e1 : c' = cf := by have := hi.symm.trans hf'; simp at this; exact this.1.symm
      rw [hdecl] at hown2
      rw [← e1]; exact Option.some.inj (hown.symm.trans hown2)
    have h6 := u_fits hfc hkC hkind (Or.inr hlay) hi hty (ev_narrow (ev_am b a0 a1) hn) (ev_fits (ev_am b a0 a1) hf)
    exact W.putFinK hx hb hown (hts _ hlink) hi hst hcf (hin.trans hnm) (by rw [q2]; exact h6) q1 q3 (by rw [hsl]; exact k2_hasslot (q4 k hkq)) rfl rfl hd fin
theorem ev_getf (hx : p.tables.exec = Jvm.exec) (hb : c.code = M.2.1) (hown : s.vm.findClass M.1.cls = some m.cls) (hts : ∀ w ∈ dp_tb, w.before args s = true) (hC : ev_CT D dA b a0 a1 xs L s) (hW : ev_WD D dA b a0 a1 sz h H)
    {idx a ci k : Nat} {r fs : List Value} {v : Value} (ha : 2 ≤ a) (hs : a < sz) (hh : h a = .inr (ci, fs)) (hl : ev_fl M.1.cls idx ci k) (hv : fs[k]? = some v) (hd : decode M.2.1 pc = .ok (.getfield idx, 3))
    (kk : W p l e R s m args below meth c H locs cells slots Qf (F0 m (pc + 3) lsA ((v :: r).map (ev_v (ev_am b a0 a1))))) :
    W p l e R s m args below meth c H locs cells slots Qf (F0 m pc lsA ((.ref a :: r).map (ev_v (ev_am b a0 a1)))) := by
  obtain ⟨q, hq, hkq, hcase⟩ := hl
  have hin2 : ∀ w ∈ u_ws q.1 q.2.1 q.2.2, w ∈ dp_tb := fun w hw => by
    refine List.mem_filter.mpr ⟨dp_in ci q hq w hw, ?_⟩
    obtain ⟨j, -, hj⟩ := List.mem_map.mp hw
    rw [← hj]
    unfold u_lay
    split <;> rfl
  have hat := hW.2.2 a ha hs
  rw [hh, ev_ob] at hat
  have hv2 : (fs.map (ev_v (ev_am b a0 a1)))[k]? = some (ev_v (ev_am b a0 a1) v) := by rw [List.getElem?_map, hv]; rfl
  rcases hcase with hlink | ⟨host, hlink⟩
  · exact va_get hx hb hts hin2 hown hC.1 (ev_P1 hat) 0 rfl hq k hkq (hts _ hlink) (fun _ h9 => h9) hv2 hd kk
  · exact va_getN hx hb hts hin2 hown hC.1 (ev_P1 hat) 0 rfl hq k hkq (va_Nw.use rfl (hC.2.2.2.2.1 _ hlink)) (fun _ h9 => h9) hv2 hd kk
end EVH
end
section
theorem ev_arr {am : Nat → Nat} {dA : Nat → ClassId} {t n : Nat} {f : Nat → Int32} : ev_e am dA (.inl (t, n, .inl f)) = .inl (dA t, n, .inl f) := rfl
theorem ev_arrL {am : Nat → Nat} {dA : Nat → ClassId} {t n : Nat} {f : Nat → Int64} : ev_e am dA (.inl (t, n, .inr (.inl f))) = .inl (dA t, n, .inr (.inl f)) := rfl
theorem ev_arrQ {am : Nat → Nat} {dA : Nat → ClassId} {t n : Nat} {f : Nat → Option Nat} : ev_e am dA (.inl (t, n, .inr (.inr (.inr (.inr f))))) = .inl (dA t, n, .inr (.inr (.inr (.inr (fun j => (f j).map am))))) := rfl
theorem ev_rf (am : Nat → Nat) (r : Option Nat) : ev_v am (va_rf r) = va_rf (r.map am) := by cases r <;> rfl
theorem ev_len {am : Nat → Nat} {dA : Nat → ClassId} {t : Nat} {x : vp_A} : ∃ y : vp_A, ev_e am dA (.inl (t, x)) = .inl (dA t, y) ∧ y.1 = x.1 := by
  obtain ⟨n, f | f | f | f | f⟩ := x
  · exact ⟨_, rfl, rfl⟩
  · exact ⟨_, rfl, rfl⟩
  · exact ⟨_, rfl, rfl⟩
  · exact ⟨_, rfl, rfl⟩
  · exact ⟨_, rfl, rfl⟩
section EVH
variable {p : Program} {l : Launch} {e : Env} {R : Room} {s : State} {m : MethodId} {args : Array Value} {below : List Frame} {meth : Method} {c : Code} {H : Heap} {locs : List Loc} {cells slots : Nat} {Qf : State → Prop}
variable {D : va_G} {dA : Nat → ClassId} {b a0 a1 : Nat} {xs : Nat → Int32} {L d : Nat} {M : ev_M} {kc ks sz : Nat} {h : ev_H} {pc len mc ms : Nat} {lsA : Array Slot} {st : List Value}
theorem ev_Sme {b : Nat} {H0 H : Heap} {locs : List Loc} (hS : va_S (ev_A b) H0 H locs) : va_S (ev_A b) H H locs := ⟨Nat.le_refl _, fun _ _ _ => rfl, hS.2.2⟩
theorem ev_XH (hC : ev_CT D dA b a0 a1 xs L s) (hS : va_S (ev_A b) s.heap H locs) : va_X a0 L xs s H ∧ a0 < H.size ∧ ¬ ev_A b a0 := by
  obtain ⟨-, hX, -, -, -, h1, h2⟩ := hC
  have hlt : a0 < s.heap.size := by omega
  exact ⟨hX.kept (hS.2.1 a0 hlt (Nat.not_le.mpr h1)), Nat.lt_of_lt_of_le hlt hS.1, Nat.not_le.mpr h1⟩
set_option maxHeartbeats 4000000 in
theorem ev_hp_ok (hx : p.tables.exec = Jvm.exec) (hb : c.code = M.2.1) (hml : lsA.size = c.maxLocals) (hown : s.vm.findClass M.1.cls = some m.cls) (hts : ∀ w ∈ dp_tb, w.before args s = true) (hin : meth.name = M.1.name) (hC : ev_CT D dA b a0 a1 xs L s) (hS : va_S (ev_A b) s.heap H locs) (hW : ev_WD D dA b a0 a1 sz h H)
    (hfr : d ≤ R.frames) (hlo : 60 * d ≤ R.locals) (hmc : mc ≤ R.cells) (hms : ms ≤ R.slots) (hc1 : cells + kc ≤ mc) (hc2 : slots + ks ≤ ms) {i : Instr} (hd : decode M.2.1 pc = .ok (i, len))
    (hh : ev_hp xs L d M i kc ks sz h st (fun kc' ks' sz' h' len' st' => len' = len ∧ ∀ (H' : Heap) (locs' : List Loc) (cells' slots' : Nat), va_S (ev_A b) s.heap H' locs' → ev_WD D dA b a0 a1 sz' h' H' → cells' + kc' ≤ mc → slots' + ks' ≤ ms → W p l e R s m args below meth c H' locs' cells' slots' Qf (F0 m (pc + len') lsA (st'.map (ev_v (ev_am b a0 a1)))))) :
    W p l e R s m args below meth c H locs cells slots Qf (F0 m pc lsA (st.map (ev_v (ev_am b a0 a1)))) := by
  have hK := hC.1
  unfold ev_hp at hh
  split at hh
  · obtain ⟨a, r, ci, fs, k, v, rfl, h1, h2, h3, h4, h5, rfl, kk⟩ := hh
    exact ev_getf hx hb hown hts hC hW h1 h2 h3 h4 h5 hd (kk H locs cells slots hS hW hc1 hc2)
  · obtain ⟨a, r, ci, fs, k, v, rfl, h1, h2, h3, h4, h5, rfl, kk⟩ := hh
    exact ev_putf hx hb hown hts hin hC hS hW h1 h2 h3 h4 h5 hd (fun H' locs' g1 g2 => kk H' locs' cells slots g1 g2 hc1 hc2)
  · obtain ⟨a, r, j, rfl, ⟨n, f, h1, h2, h3, h4, rfl, kk⟩ | ⟨rfl, h4, rfl, kk⟩⟩ := hh
    · have hat := hW.2.2 a h1 h2
      rw [h3, ev_arr] at hat
      exact va_iald hx hb hK (ev_P1 hat) 0 0 rfl rfl h4 hd (kk H locs cells slots hS hW hc1 hc2)
    · obtain ⟨g1, g2, g3⟩ := ev_XH hC hS
      exact va_sld hx hb g1 g2 g3 (ev_Sme hS) h4 hd (kk H locs cells slots hS hW hc1 hc2)
  · obtain ⟨a, r, j, rfl, ⟨n, f, h1, h2, h3, h4, rfl, kk⟩ | ⟨rfl, h4, rfl, kk⟩⟩ := hh
    · have hat := hW.2.2 a h1 h2
      rw [h3, ev_arrL] at hat
      exact va_lald hx hb hK (ev_P1 hat) 0 1 rfl rfl h4 hd (kk H locs cells slots hS hW hc1 hc2)
    · exact va_tl hx hb hC.2.2.1 hS h4 rfl hd (kk H locs cells slots hS hW hc1 hc2)
  · obtain ⟨a, r, j, n, f, rfl, h1, h2, h3, h4, rfl, kk⟩ := hh
    have hat := hW.2.2 a h1 h2
    rw [h3, ev_arr] at hat
    exact va_bald hx hb hK (ev_P1 hat) 0 2 rfl rfl h4 hd (kk H locs cells slots hS hW hc1 hc2)
  · obtain ⟨a, r, j, t, n, f, rfl, h1, h2, h3, ht, h4, rfl, kk⟩ := hh
    have hat := hW.2.2 a h1 h2
    rw [h3, ev_arrQ] at hat
    have kk2 := kk H locs cells slots hS hW hc1 hc2
    rw [List.map_cons, ev_rf] at kk2
    rcases ht with rfl | rfl
    · exact va_aldq hx hb hK (ev_P1 hat) 0 3 rfl rfl h4 hd kk2
    · exact va_aldq hx hb hK (ev_P1 hat) 0 4 rfl rfl h4 hd kk2
  · obtain ⟨a, r, j, x, n, f, rfl, h1, h2, h3, h4, rfl, kk⟩ := hh
    have hat := hW.2.2 a h1 h2
    rw [h3, ev_arr] at hat
    refine W.iast hx hb hat ((hK.2 0 _ rfl).1 n (fun j => .int (f j))) (fun q => by cases q) (by show ¬ (j < 0 ∨ (arrV _ _ _).slots.size ≤ _); rw [arrV_size]; exact h4) rfl rfl hd fun H1 e z oq => ?_
    refine kk H1 _ cells slots (hS.put z oq (by show b ≤ _; rw [ev_am_lt h1]; omega)) (hW.set h1 ?_ z oq) hc1 hc2
    rw [ev_arr]
    show H1[_]? = some (vp_cell _ _)
    rw [e]
    rw [vp_cell_i, vp_cell_i, arrV_store]
    congr 2
    funext q
    by_cases hq : q = j.toNatClampNeg
    · subst hq
      simp [updV, upd]
    · simp [updV, upd, hq]
  · obtain ⟨a, r, j, x, n, f, rfl, h1, h2, h3, h4, rfl, kk⟩ := hh
    have hat := hW.2.2 a h1 h2
    rw [h3, ev_arrL] at hat
    refine W.last hx hb hat ((hK.2 1 _ rfl).1 n (fun j => .long (f j))) (fun q => by cases q) (by show ¬ (j < 0 ∨ (arrV _ _ _).slots.size ≤ _); rw [arrV_size]; exact h4) rfl rfl hd fun H1 e z oq => ?_
    refine kk H1 _ cells slots (hS.put z oq (by show b ≤ _; rw [ev_am_lt h1]; omega)) (hW.set h1 ?_ z oq) hc1 hc2
    rw [ev_arrL]
    show H1[_]? = some (vp_cell _ _)
    rw [e]
    rw [vp_cell_l, vp_cell_l, arrV_store]
    congr 2
    funext q
    by_cases hq : q = j.toNatClampNeg
    · subst hq
      simp [updV, vp_updL]
    · simp [updV, vp_updL, hq]
  · obtain ⟨a, r, j, x, n, f, rfl, h1, h2, h3, h4, rfl, kk⟩ := hh
    have hat := hW.2.2 a h1 h2
    rw [h3, ev_arr] at hat
    refine W.bast hx hb hat ((hK.2 2 _ rfl).1 n (fun j => .int (f j))) (fun q => by cases q) (by show ¬ (j < 0 ∨ (arrV _ _ _).slots.size ≤ _); rw [arrV_size]; exact h4) rfl rfl hd fun H1 e z oq => ?_
    refine kk H1 _ cells slots (hS.put z oq (by show b ≤ _; rw [ev_am_lt h1]; omega)) (hW.set h1 ?_ z oq) hc1 hc2
    rw [ev_arr]
    show H1[_]? = some (vp_cell _ _)
    rw [e]
    rw [vp_cell_i, vp_cell_i, arrV_store]
    congr 2
    funext q
    by_cases hq : q = j.toNatClampNeg
    · subst hq
      simp [updV, upd, vp_nar_byte, narrow]
    · simp [updV, upd, hq]
  · obtain ⟨a, r, j, v, t, n, f, ci, fs, q, rfl, h1, h2, h3, h4, h5, h6, h7, ht, h8, rfl, kk⟩ := hh
    have hat := hW.2.2 a h1 h2
    rw [h5, ev_arrQ] at hat
    have hav := hW.2.2 v h3 h4
    rw [h6, ev_ob] at hav
    have hlt : j.toNatClampNeg < n := Nat.not_le.mp fun q => h8 (Or.inr q)
    have h0 : ¬ j < 0 := fun q => h8 (Or.inl q)
    obtain ⟨r', hr', cellV, g1, g2, g3, -⟩ := hav
    have hcls := (hK.1 ci q h7).2
    obtain ⟨kA, comp, k1, k2, k3⟩ : ∃ (kA : Class) (comp : ClassId), s.vm.classes[dA t]? = some kA ∧ kA.kind = .array comp (.object q.1) ∧ s.vm.findClass q.1 = some comp := by
      rcases ht with ⟨rfl, e9⟩ | ⟨rfl, e9⟩
      · obtain ⟨kA, comp, k1, k2, k3, -⟩ := (hK.2 3 _ rfl).2
        rw [e9]
        exact ⟨kA, comp, k1, k2, k3⟩
      · obtain ⟨kA, comp, k1, k2, k3, -⟩ := (hK.2 4 _ rfl).2
        rw [e9]
        exact ⟨kA, comp, k1, k2, k3⟩
    have hcomp : comp = D.1 ci := Option.some.inj (k3.symm.trans hcls.1)
    subst hcomp
    obtain ⟨kC, hkC, -⟩ := hcls.2
    refine W.aast hx hb hat (fun q h => by cases h) (fun h => by cases h) k1 k2 rfl hkC ⟨h0, by show _ < (arrV _ _ _).slots.size; rw [arrV_size]; exact hlt⟩ g1 (fun q h => by rw [g3] at h; cases h) (by rw [g2]; exact hkC) (by rw [g2]; exact va_assign hcls) rfl rfl hd fun H1 e z oq => ?_
    refine kk H1 _ cells slots (hS.put z oq (by show b ≤ _; rw [ev_am_lt h1]; omega)) (hW.set h1 ?_ z oq) hc1 hc2
    rw [ev_arrQ]
    show H1[_]? = some (vp_cell _ _)
    rw [e]
    rw [vp_cell_q, vp_cell_q, arrV_store]
    congr 2
    funext q
    by_cases hq : q = j.toNatClampNeg
    · subst hq
      simp [updV, va_up, va_rf]
    · simp [updV, va_up, hq]
  · obtain ⟨a, r, rfl, ⟨t, x, h1, h2, h3, h4, rfl, kk⟩ | ⟨rfl, rfl, kk⟩ | ⟨rfl, rfl, kk⟩⟩ := hh
    · have hat := hW.2.2 a h1 h2
      obtain ⟨y, hy, hyx⟩ := ev_len (am := ev_am b a0 a1) (dA := dA) (t := t) (x := x)
      rw [h3, hy] at hat
      have kk2 := kk H locs cells slots hS hW hc1 hc2
      match t, h4 with
      | 0, _ => exact va_alen hx hb hK (ev_P1 hat) 0 0 rfl rfl (by rw [hyx]) hd kk2
      | 1, _ => exact va_alen hx hb hK (ev_P1 hat) 0 1 rfl rfl (by rw [hyx]) hd kk2
      | 2, _ => exact va_alen hx hb hK (ev_P1 hat) 0 2 rfl rfl (by rw [hyx]) hd kk2
      | 3, _ => exact va_alen hx hb hK (ev_P1 hat) 0 3 rfl rfl (by rw [hyx]) hd kk2
      | 4, _ => exact va_alen hx hb hK (ev_P1 hat) 0 4 rfl rfl (by rw [hyx]) hd kk2
    · obtain ⟨g1, g2, g3⟩ := ev_XH hC hS
      exact va_slen hx hb g1 g2 g3 (ev_Sme hS) hd (kk H locs cells slots hS hW hc1 hc2)
    · exact va_tlen hx hb hC.2.2.1 hS rfl hd (kk H locs cells slots hS hW hc1 hc2)
  · rename_i ty
    obtain ⟨r, n, N, t, x, kc', ks', rfl, h1, h2, h3, h4, h5, rfl, rfl, rfl, kk⟩ := hh
    refine va_newaK hx hb (hts _ h5) rfl hd rfl h1 h2 ?_ (by omega) (by omega) rfl fun H1 cA e1 z1 o1 hAr hNm => ?_
    · have : componentBytes (newarray.typeOf ty) ≤ 8 := by
        unfold ev_at at h4
        split at h4 <;> first | (cases h4; done) | decide
      exact Nat.le_trans (Nat.mul_le_mul h3 this) (by decide)
    · have kk2 := kk H1 locs (cells + 1) (slots + N) (ev_S.push hS z1 o1) (hW.push ?_ z1 o1) (by omega) (by omega)
      · rw [List.map_cons, show ev_v (ev_am b a0 a1) (.ref sz) = .ref H.size from by rw [← hW.am]; rfl] at kk2
        exact kk2
      · unfold ev_at at h4
        split at h4
        · cases h4
          have e9 : cA = dA 0 := Option.some.inj (hNm.symm.trans (hK.2 0 _ rfl).2)
          subst e9
          exact e1
        · cases h4
          have e9 : cA = dA 1 := Option.some.inj (hNm.symm.trans (hK.2 1 _ rfl).2)
          subst e9
          exact e1
        · cases h4
          have e9 : cA = dA 2 := Option.some.inj (hNm.symm.trans (hK.2 2 _ rfl).2)
          subst e9
          exact e1
        · cases h4
  · obtain ⟨r, n, N, t, C, kc', ks', rfl, h1, h2, h3, h4, h5, h6, rfl, rfl, rfl, kk⟩ := hh
    subst h2
    refine W.anew hx hb hown (hts _ h5) (va_AO.use (hC.2.2.2.2.1 _ h6)) rfl hd rfl h1 (Nat.le_trans (Nat.mul_le_mul_right 4 h3) (by decide)) (by omega) (by omega) fun cA kA comp f1 f2 f3 f4 => ?_
    generalize hH1 : H.push ({ cls := cA, slots := Array.replicate n.toNatClampNeg .null, vm := .none } : Cell) = H1
    have z1 : H1.size = H.size + 1 := by rw [← hH1, Array.size_push]
    have e1 : H1[H.size]? = some (arrV cA n.toNatClampNeg (fun _ => .null)) := by rw [← hH1, Array.getElem?_push_size, ← arrV_new]
    have o1 : ∀ q : Nat, q < H.size → H1[q]? = H[q]? := fun q hq => by rw [← hH1, Array.getElem?_push, if_neg (Nat.ne_of_lt hq)]
    have kk2 := kk H1 locs (cells + 1) (slots + n.toNatClampNeg) (ev_S.push hS z1 o1) (hW.push ?_ z1 o1) (by omega) (by omega)
    · rw [List.map_cons, show ev_v (ev_am b a0 a1) (.ref sz) = .ref H.size from by rw [← hW.am]; rfl] at kk2
      exact kk2
    · rcases h4 with ⟨rfl, rfl⟩ | ⟨rfl, rfl⟩
      · obtain ⟨kA', comp', k1, k2, k3, k4⟩ := (hK.2 3 _ rfl).2
        have e9 : cA = dA 3 := Option.some.inj (f1.symm.trans k4)
        subst e9
        exact e1
      · obtain ⟨kA', comp', k1, k2, k3, k4⟩ := (hK.2 4 _ rfl).2
        have e9 : cA = dA 4 := Option.some.inj (f1.symm.trans k4)
        subst e9
        exact e1
  · obtain ⟨ci, q, fs, kc', ks', h1, h2, h3, h4, rfl, rfl, rfl, rfl, kk⟩ := hh
    have hKn := hK.1 ci _ h1
    have hin2 : ∀ w ∈ u_ws q.1 q.2.1 q.2.2, w ∈ dp_tb := fun w hw => by
      refine List.mem_filter.mpr ⟨dp_in ci q h1 w hw, ?_⟩
      obtain ⟨j, -, hj⟩ := List.mem_map.mp hw
      rw [← hj]
      unfold u_lay
      split <;> rfl
    refine W.newcK hx hb hown (hts _ h2) (hts _ h3) (hts _ h4) rfl hd (by omega) (by omega) hKn.2.1 rfl fun H1 kC hkC e1 z1 o1 => ?_
    have kk2 := kk H1 locs (cells + 1) (slots + q.2.2) (ev_S.push hS z1 o1) (hW.push ?_ z1 o1) (by omega) (by omega)
    · rw [List.map_cons, show ev_v (ev_am b a0 a1) (.ref sz) = .ref H.size from by rw [← hW.am]; rfl] at kk2
      exact kk2
    · rw [ev_ob]
      refine ⟨_, h1, (u_born (dp_ty ci) hts hin2 hKn hkC e1 (dp_ty_ok ci q h1)).to fun k hk => ?_⟩
      have hdv : ev_v (ev_am b a0 a1) (defaultValue (dp_ty ci k)) = defaultValue (dp_ty ci k) := by
        cases dp_ty ci k <;> rfl
      simp [vp_V, hk, hdv]
  · obtain ⟨h1, rfl, kk⟩ := hh
    exact va_gets hx hb hC.2.2.2.1 hS hown (hts _ h1) (fun _ h9 => h9) hd (kk H locs cells slots hS hW hc1 hc2)
  · obtain ⟨v, h1, rfl, kk⟩ := hh
    exact lv_ldc hx hb hown (hts _ h1) hd (kk H locs cells slots hS hW hc1 hc2)
  · obtain ⟨v, h1, rfl, kk⟩ := hh
    exact lv_ldcw hx hb hown (hts _ h1) hd (kk H locs cells slots hS hW hc1 hc2)
  · obtain ⟨v, h1, rfl, kk⟩ := hh
    exact lv_ldc2 hx hb hown (hts _ h1) hd (kk H locs cells slots hS hW hc1 hc2)
  · obtain ⟨a, r, rfl, h1, h2, h3, h4, h5, rfl, kk⟩ := hh
    refine W.objInit hx hb hown (hts _ h3) (hts _ h4) (hts _ h5) rfl hml rfl hd (by omega) ?_ ?_
    · have h9 : ((r.map (ev_v (ev_am b a0 a1))).map fun v => v.category) = r.map fun v => v.category := by
        rw [List.map_map]
        exact List.map_congr_left fun v _ => ev_cat _ v
      have h8 : 2 * (F0 m pc lsA ((Value.ref a :: r).map (ev_v (ev_am b a0 a1)))).monitorRoom + ((r.map (ev_v (ev_am b a0 a1))).map fun v => v.category).sum ≤ 8 := lv_room (by rw [h9]; exact h2)
      omega
    · exact kk H locs cells slots hS hW hc1 hc2
  · exact hh.elim
end EVH
end
section
def ev_sl : List Value → ev_L
  | [] => []
  | v :: vs => if v.category = 2 then some v :: none :: ev_sl vs else some v :: ev_sl vs
def ev_en (As : List Value) (n : Nat) : ev_L := ev_sl As ++ List.replicate (n - (ev_sl As).length) none
def ev_rt (ret : Option FieldType) (i : Instr) (r : List Value) : Prop :=
  (i = .ireturn ∧ ∃ v, r = [.int v] ∧ ∃ ty, ret = some ty ∧ narrow ty (.int v) = .int v) ∨ (i = .lreturn ∧ ∃ v, r = [.long v] ∧ ret = some .long) ∨
  (i = .areturn ∧ ∃ v, r = [v] ∧ (v = .null ∨ ∃ a, v = .ref a) ∧ ∃ n, ret = some (.object n)) ∨ (i = .return_ ∧ r = [] ∧ ret = none)
/-- a call's target: the callee, its arguments, what is left of the stack -/
def ev_ca (M : ev_M) (i : Instr) (sz : Nat) (h : ev_H) (st : List Value) (M' : ev_M) (As rest : List Value) : Prop :=
  (plainName M'.1.cls = true ∧ Cond.code M'.1 M'.2.1 M'.2.2.1 M'.2.2.2 ∈ dp_tb ∧ Cond.initialized M'.1.cls ∈ dp_tb ∧ M'.2.2.1 ≤ 40 ∧ (M'.1.cls ≠ "java/lang/invoke/MethodHandle" ∧ M'.1.cls ≠ "java/lang/invoke/VarHandle") ∧ (ev_sl As).length ≤ M'.2.2.1 ∧ ev_cs rest ≤ 8) ∧
  ((∃ idx, i = .invokestatic idx ∧ st = As.reverse ++ rest ∧ Cond.static M'.1 ∈ dp_tb ∧ (parseMethodDescriptor M'.1.desc).map (fun d => d.parameters.length) = some As.length ∧ (Cond.methodLink M.1.cls idx M'.1 ∈ dp_tb ∨ ∃ host, Cond.methodLinkNest M.1.cls idx M'.1 host ∈ dp_nb)) ∨
   (∃ idx a B q ci fs, i = .invokevirtual idx ∧ As = .ref a :: B ∧ st = B.reverse ++ .ref a :: rest ∧ 2 ≤ a ∧ a < sz ∧ h a = .inr (ci, fs) ∧ dp_cl[ci]? = some q ∧ (parseMethodDescriptor M'.1.desc).map (fun d => d.parameters.length) = some B.length ∧ Cond.instanceMethod M'.1 ∈ dp_tb ∧
     ((Cond.selects q.1 M'.1 M'.1 ∈ dp_tb ∧ M'.1.cls = q.1 ∧ (Cond.methodLink M.1.cls idx M'.1 ∈ dp_tb ∨ ∃ host, Cond.methodLinkNest M.1.cls idx M'.1 host ∈ dp_nb)) ∨
      (∃ (x : MethodName) (b0 : ByteArray) (m0 : Nat) (r0 : Option FieldType), (x.cls ≠ "java/lang/invoke/MethodHandle" ∧ x.cls ≠ "java/lang/invoke/VarHandle") ∧ (parseMethodDescriptor x.desc).map (fun d => d.parameters.length) = some B.length ∧ Cond.methodLink M.1.cls idx x ∈ dp_tb ∧ Cond.sameMethod x.cls x.cls x.name x.desc ∈ dp_tb ∧ Cond.instanceMethod x ∈ dp_tb ∧ Cond.selects q.1 x M'.1 ∈ dp_tb ∧ Cond.code x b0 m0 r0 ∈ dp_tb))) ∨
   (∃ idx a B, i = .invokespecial idx ∧ As = .ref a :: B ∧ st = B.reverse ++ .ref a :: rest ∧ M'.1.name = "<init>" ∧ M'.2.2.2 = none ∧ Cond.instanceMethod M'.1 ∈ dp_tb ∧ (parseMethodDescriptor M'.1.desc).map (fun d => d.parameters.length) = some B.length ∧ (Cond.methodLink M.1.cls idx M'.1 ∈ dp_tb ∨ ∃ host, Cond.methodLinkNest M.1.cls idx M'.1 host ∈ dp_nb)) ∨
   (∃ idx a B q ci fs, i = .invokespecial idx ∧ As = .ref a :: B ∧ st = B.reverse ++ .ref a :: rest ∧ 2 ≤ a ∧ a < sz ∧ h a = .inr (ci, fs) ∧ dp_cl[ci]? = some q ∧ (parseMethodDescriptor M'.1.desc).map (fun d => d.parameters.length) = some B.length ∧ M'.1.name ≠ "<init>" ∧ Cond.methodLink M.1.cls idx M'.1 ∈ dp_tb ∧ Cond.sameMethod M'.1.cls M'.1.cls M'.1.name M'.1.desc ∈ dp_tb ∧ Cond.superclass M.1.cls M'.1.cls ∈ dp_tb ∧ Cond.instanceMethod M'.1 ∈ dp_tb))
/-- one step, over what is known of what comes behind it -/
def ev_st (xs : Nat → Int32) (L : Nat) (X : ev_X) : ev_X := fun d kc ks M sz h pc ls st Q => ∃ i len, decode M.2.1 pc = .ok (i, len) ∧
  ((len = ev_ln i ∧ ∃ pc' ls' st', ev_pu i pc ls st = some (pc', ls', st') ∧ X d kc ks M sz h pc' ls' st' Q) ∨
   (len = 3 ∧ ∃ cd ce r off tgt, ev_br i st = some (cd, ce, r, off) ∧ (pc : Int) + off = (tgt : Nat) ∧ (cd → X d kc ks M sz h tgt ls r Q) ∧ (ce → X d kc ks M sz h (pc + 3) ls r Q)) ∨
   (∃ dflt lo hi offs x r off tgt, i = .tableswitch dflt lo hi offs ∧ st = .int x :: r ∧ ((x.toInt < lo ∨ hi < x.toInt) ∧ off = dflt ∨ ¬ x.toInt < lo ∧ ¬ hi < x.toInt ∧ offs[(x.toInt - lo).toNat]? = some off) ∧ (pc : Int) + off = (tgt : Nat) ∧ X d kc ks M sz h tgt ls r Q) ∨
   (ev_hp xs L d M i kc ks sz h st (fun kc' ks' sz' h' len' st' => len' = len ∧ X d kc' ks' M sz' h' (pc + len') ls st' Q)) ∨
   (len = 3 ∧ ∃ M' As rest d' kc' ks' kc2 ks2 Qm, d = d' + 1 ∧ kc = kc' + kc2 ∧ ks = ks' + ks2 ∧ ev_ca M i sz h st M' As rest ∧ X d' kc' ks' M' sz h 0 (ev_en As M'.2.2.1) [] Qm ∧ ∀ sz' h' r, Qm sz' h' r → X d kc2 ks2 M sz' h' (pc + 3) ls (r ++ rest) Q) ∨
   (len = 1 ∧ ev_rt M.2.2.2 i st ∧ Q sz h st))
/-- the least that is closed under the step: from here the method comes to its end, with Q -/
def EV (xs : Nat → Int32) (L : Nat) : ev_X := fun d kc ks M sz h pc ls st Q => ∀ X : ev_X, (∀ d kc ks M sz h pc ls st Q, ev_st xs L X d kc ks M sz h pc ls st Q → X d kc ks M sz h pc ls st Q) → X d kc ks M sz h pc ls st Q
theorem ev_hp_mono {xs : Nat → Int32} {L d : Nat} {M : ev_M} {i : Instr} {kc ks sz : Nat} {h : ev_H} {st : List Value} {K K' : Nat → Nat → Nat → ev_H → Nat → List Value → Prop} (hk : ∀ a b c d e f, K a b c d e f → K' a b c d e f) (hh : ev_hp xs L d M i kc ks sz h st K) : ev_hp xs L d M i kc ks sz h st K' := by
  unfold ev_hp at hh ⊢
  split at hh
  · obtain ⟨a, r, ci, fs, k, v, h1, h2, h3, h4, h5, h6, kk⟩ := hh
    exact ⟨a, r, ci, fs, k, v, h1, h2, h3, h4, h5, h6, hk _ _ _ _ _ _ kk⟩
  · obtain ⟨a, r, ci, fs, k, v, h1, h2, h3, h4, h5, h6, kk⟩ := hh
    exact ⟨a, r, ci, fs, k, v, h1, h2, h3, h4, h5, h6, hk _ _ _ _ _ _ kk⟩
  · obtain ⟨a, r, j, h0, ⟨n, f, h1, h2, h3, h4, kk⟩ | ⟨h1, h4, kk⟩⟩ := hh
    · exact ⟨a, r, j, h0, Or.inl ⟨n, f, h1, h2, h3, h4, hk _ _ _ _ _ _ kk⟩⟩
    · exact ⟨a, r, j, h0, Or.inr ⟨h1, h4, hk _ _ _ _ _ _ kk⟩⟩
  · obtain ⟨a, r, j, h0, ⟨n, f, h1, h2, h3, h4, kk⟩ | ⟨h1, h4, kk⟩⟩ := hh
    · exact ⟨a, r, j, h0, Or.inl ⟨n, f, h1, h2, h3, h4, hk _ _ _ _ _ _ kk⟩⟩
    · exact ⟨a, r, j, h0, Or.inr ⟨h1, h4, hk _ _ _ _ _ _ kk⟩⟩
  · obtain ⟨a, r, j, n, f, h0, h1, h2, h3, h4, kk⟩ := hh
    exact ⟨a, r, j, n, f, h0, h1, h2, h3, h4, hk _ _ _ _ _ _ kk⟩
  · obtain ⟨a, r, j, t, n, f, h0, h1, h2, h3, h4, h5, kk⟩ := hh
    exact ⟨a, r, j, t, n, f, h0, h1, h2, h3, h4, h5, hk _ _ _ _ _ _ kk⟩
  · obtain ⟨a, r, j, x, n, f, h0, h1, h2, h3, h4, kk⟩ := hh
    exact ⟨a, r, j, x, n, f, h0, h1, h2, h3, h4, hk _ _ _ _ _ _ kk⟩
  · obtain ⟨a, r, j, x, n, f, h0, h1, h2, h3, h4, kk⟩ := hh
    exact ⟨a, r, j, x, n, f, h0, h1, h2, h3, h4, hk _ _ _ _ _ _ kk⟩
  · obtain ⟨a, r, j, x, n, f, h0, h1, h2, h3, h4, kk⟩ := hh
    exact ⟨a, r, j, x, n, f, h0, h1, h2, h3, h4, hk _ _ _ _ _ _ kk⟩
  · obtain ⟨a, r, j, v, t, n, f, ci, fs, q, h0, h1, h2, h3, h4, h5, h6, h7, h8, h9, kk⟩ := hh
    exact ⟨a, r, j, v, t, n, f, ci, fs, q, h0, h1, h2, h3, h4, h5, h6, h7, h8, h9, hk _ _ _ _ _ _ kk⟩
  · obtain ⟨a, r, h0, ⟨t, x, h1, h2, h3, h4, kk⟩ | ⟨h1, kk⟩ | ⟨h1, kk⟩⟩ := hh
    · exact ⟨a, r, h0, Or.inl ⟨t, x, h1, h2, h3, h4, hk _ _ _ _ _ _ kk⟩⟩
    · exact ⟨a, r, h0, Or.inr (Or.inl ⟨h1, hk _ _ _ _ _ _ kk⟩)⟩
    · exact ⟨a, r, h0, Or.inr (Or.inr ⟨h1, hk _ _ _ _ _ _ kk⟩)⟩
  · obtain ⟨r, n, N, t, x, kc', ks', h0, h1, h2, h3, h4, h5, h6, h7, kk⟩ := hh
    exact ⟨r, n, N, t, x, kc', ks', h0, h1, h2, h3, h4, h5, h6, h7, hk _ _ _ _ _ _ kk⟩
  · obtain ⟨r, n, N, t, C, kc', ks', h0, h1, h2, h3, h4, h5, h6, h7, h8, kk⟩ := hh
    exact ⟨r, n, N, t, C, kc', ks', h0, h1, h2, h3, h4, h5, h6, h7, h8, hk _ _ _ _ _ _ kk⟩
  · obtain ⟨ci, q, fs, kc', ks', h1, h2, h3, h4, h5, h6, h7, kk⟩ := hh
    exact ⟨ci, q, fs, kc', ks', h1, h2, h3, h4, h5, h6, h7, hk _ _ _ _ _ _ kk⟩
  · exact ⟨hh.1, hk _ _ _ _ _ _ hh.2⟩
  · obtain ⟨v, h1, kk⟩ := hh
    exact ⟨v, h1, hk _ _ _ _ _ _ kk⟩
  · obtain ⟨v, h1, kk⟩ := hh
    exact ⟨v, h1, hk _ _ _ _ _ _ kk⟩
  · obtain ⟨v, h1, kk⟩ := hh
    exact ⟨v, h1, hk _ _ _ _ _ _ kk⟩
  · obtain ⟨a, r, h0, h1, h2, h3, h4, h5, kk⟩ := hh
    exact ⟨a, r, h0, h1, h2, h3, h4, h5, hk _ _ _ _ _ _ kk⟩
  · exact hh.elim
theorem ev_st_mono {xs : Nat → Int32} {L : Nat} {X Y : ev_X} (hX : ∀ d kc ks M sz h pc ls st Q, X d kc ks M sz h pc ls st Q → Y d kc ks M sz h pc ls st Q) {d kc ks : Nat} {M : ev_M} {sz : Nat} {h : ev_H} {pc : Nat} {ls : ev_L} {st : List Value} {Q : ev_Q} (hh : ev_st xs L X d kc ks M sz h pc ls st Q) : ev_st xs L Y d kc ks M sz h pc ls st Q := by
  obtain ⟨i, len, hd, hc⟩ := hh
  refine ⟨i, len, hd, ?_⟩
  rcases hc with ⟨h0, pc', ls', st', h1, h2⟩ | ⟨h0, cd, ce, r, off, tgt, h1, h2, h3, h4⟩ | ⟨dflt, lo, hi, offs, x, r, off, tgt, h1, h2, h3, h4, h5⟩ | h1 | ⟨h0, M', As, rest, d', kc', ks', kc2, ks2, Qm, h1, h2, h3, h4, h5, h6⟩ | h1
  · exact Or.inl ⟨h0, pc', ls', st', h1, hX _ _ _ _ _ _ _ _ _ _ h2⟩
  · exact Or.inr (Or.inl ⟨h0, cd, ce, r, off, tgt, h1, h2, fun q => hX _ _ _ _ _ _ _ _ _ _ (h3 q), fun q => hX _ _ _ _ _ _ _ _ _ _ (h4 q)⟩)
  · exact Or.inr (Or.inr (Or.inl ⟨dflt, lo, hi, offs, x, r, off, tgt, h1, h2, h3, h4, hX _ _ _ _ _ _ _ _ _ _ h5⟩))
  · exact Or.inr (Or.inr (Or.inr (Or.inl (ev_hp_mono (fun _ _ _ _ _ _ q => ⟨q.1, hX _ _ _ _ _ _ _ _ _ _ q.2⟩) h1))))
  · exact Or.inr (Or.inr (Or.inr (Or.inr (Or.inl ⟨h0, M', As, rest, d', kc', ks', kc2, ks2, Qm, h1, h2, h3, h4, hX _ _ _ _ _ _ _ _ _ _ h5, fun a b c q => hX _ _ _ _ _ _ _ _ _ _ (h6 a b c q)⟩))))
  · exact Or.inr (Or.inr (Or.inr (Or.inr (Or.inr h1))))
theorem EV.in {xs : Nat → Int32} {L d kc ks : Nat} {M : ev_M} {sz : Nat} {h : ev_H} {pc : Nat} {ls : ev_L} {st : List Value} {Q : ev_Q} (hh : ev_st xs L (EV xs L) d kc ks M sz h pc ls st Q) : EV xs L d kc ks M sz h pc ls st Q :=
  fun X hX => hX _ _ _ _ _ _ _ _ _ _ (ev_st_mono (fun _ _ _ _ _ _ _ _ _ _ q => q X hX) hh)
theorem EV.post {xs : Nat → Int32} {L d kc ks : Nat} {M : ev_M} {sz : Nat} {h : ev_H} {pc : Nat} {ls : ev_L} {st : List Value} {Q Q' : ev_Q} (hq : ∀ a b c, Q a b c → Q' a b c) (hh : EV xs L d kc ks M sz h pc ls st Q) : EV xs L d kc ks M sz h pc ls st Q' := by
  refine hh (fun d kc ks M sz h pc ls st Q => ∀ Q' : ev_Q, (∀ a b c, Q a b c → Q' a b c) → EV xs L d kc ks M sz h pc ls st Q') ?_ Q' hq
  intro d kc ks M sz h pc ls st Q hs Q' hq
  obtain ⟨i, len, hd, hc⟩ := hs
  refine EV.in ⟨i, len, hd, ?_⟩
  rcases hc with ⟨h0, pc', ls', st', h1, h2⟩ | ⟨h0, cd, ce, r, off, tgt, h1, h2, h3, h4⟩ | ⟨dflt, lo, hi, offs, x, r, off, tgt, h1, h2, h3, h4, h5⟩ | h1 | ⟨h0, M', As, rest, d', kc', ks', kc2, ks2, Qm, h1, h2, h3, h4, h5, h6⟩ | h1
  · exact Or.inl ⟨h0, pc', ls', st', h1, h2 Q' hq⟩
  · exact Or.inr (Or.inl ⟨h0, cd, ce, r, off, tgt, h1, h2, fun q => h3 q Q' hq, fun q => h4 q Q' hq⟩)
  · exact Or.inr (Or.inr (Or.inl ⟨dflt, lo, hi, offs, x, r, off, tgt, h1, h2, h3, h4, h5 Q' hq⟩))
  · exact Or.inr (Or.inr (Or.inr (Or.inl (ev_hp_mono (fun _ _ _ _ _ _ q => ⟨q.1, q.2 Q' hq⟩) h1))))
  · exact Or.inr (Or.inr (Or.inr (Or.inr (Or.inl ⟨h0, M', As, rest, d', kc', ks', kc2, ks2, Qm, h1, h2, h3, h4, h5 Qm (fun _ _ _ q => q), fun a b c q => h6 a b c q Q' hq⟩))))
  · exact Or.inr (Or.inr (Or.inr (Or.inr (Or.inr ⟨h1.1, h1.2.1, hq _ _ _ h1.2.2⟩))))
end
section
def ev_W (l : Launch) (D : va_G) (dA : Nat → ClassId) (b a0 a1 : Nat) (xs : Nat → Int32) (L : Nat) : ev_X := fun d kc ks M sz h pc ls st Q =>
  ∀ (p : Program) (e : Env) (R : Room) (s : State) (m : MethodId) (args : Array Value) (below : List Frame) (meth : Method) (c : Code) (H : Heap) (locs : List Loc) (cells slots mc ms : Nat) (lsA : Array Slot) (Qf : State → Prop),
    p.tables.exec = Jvm.exec → c.code = M.2.1 → c.maxLocals = M.2.2.1 → s.vm.findClass M.1.cls = some m.cls → (∀ w ∈ dp_tb, w.before args s = true) → meth.name = M.1.name → ev_CT D dA b a0 a1 xs L s →
    va_S (ev_A b) s.heap H locs → ev_WD D dA b a0 a1 sz h H → ev_LV (ev_am b a0 a1) lsA M.2.2.1 ls → d ≤ R.frames → 60 * d ≤ R.locals → cells + kc ≤ mc → slots + ks ≤ ms → mc ≤ R.cells → ms ≤ R.slots →
    (∀ (pc : Nat) (lsB : Array Slot) (H : Heap) (locs : List Loc) (sz : Nat) (h : ev_H) (r : List Value) (i : Instr), Q sz h r → ev_WD D dA b a0 a1 sz h H → va_S (ev_A b) s.heap H locs → decode M.2.1 pc = .ok (i, 1) → ev_rt M.2.2.2 i r → W p l e R s m args below meth c H locs mc ms Qf (F0 m pc lsB (r.map (ev_v (ev_am b a0 a1))))) →
    W p l e R s m args below meth c H locs cells slots Qf (F0 m pc lsA (st.map (ev_v (ev_am b a0 a1))))
theorem ev_CT.moved {D : va_G} {dA : Nat → ClassId} {b a0 a1 : Nat} {xs : Nat → Int32} {L : Nat} {s U : State} {H : Heap} {locs : List Loc} (h : ev_CT D dA b a0 a1 xs L s) (hS : va_S (ev_A b) s.heap H locs) (hU : U.heap = H) (hW : s.WarmedH U.vm) : ev_CT D dA b a0 a1 xs L U := by
  obtain ⟨h1, h2, h3, h4, h5, h6, h7⟩ := h
  have hlt : a0 < s.heap.size := by omega
  refine ⟨va_K.moved hW.alike h1, ?_, ?_, ?_, fun w hw => dp_warm (List.mem_filter.mp hw).2 hW (h5 w hw), h6, by rw [hU]; exact Nat.le_trans h7 hS.1⟩
  · rw [hU]
    exact (h2.kept (hS.2.1 a0 hlt (Nat.not_le.mpr h6))).moved hW.alike
  · rw [hU]
    exact (h3.kept (fun a g1 g2 => hS.2.1 a g1 g2)).moved hW.alike
  · rw [hU]
    exact (h4.kept (fun a g1 g2 => hS.2.1 a g1 g2)).moved hW.alike
theorem ev_CT.vm {D : va_G} {dA : Nat → ClassId} {b a0 a1 : Nat} {xs : Nat → Int32} {L : Nat} {s U : State} (h : ev_CT D dA b a0 a1 xs L s) (hU : U.heap = s.heap) (hv : s.vm = U.vm) : ev_CT D dA b a0 a1 xs L U := by
  have hal : s.vm.Alike U.vm := by rw [hv]; exact Vm.Alike.refl _
  obtain ⟨h1, h2, h3, h4, h5, h6, h7⟩ := h
  refine ⟨va_K.moved hal h1, ?_, ?_, ?_, fun w hw => dp_vm (List.mem_filter.mp hw).2 hv (h5 w hw), h6, by rw [hU]; exact h7⟩
  · rw [hU]; exact h2.moved hal
  · rw [hU]; exact h3.moved hal
  · rw [hU]; exact h4.moved hal
theorem ev_sl_lg (am : Nat → Nat) : ∀ As : List Value, (lg_sl (As.map (ev_v am))).length = (ev_sl As).length
  | [] => rfl
  | v :: vs => by
    have ih := ev_sl_lg am vs
    unfold lg_sl at ih ⊢
    rw [List.map_cons, List.flatMap_cons, List.length_append, ih, ev_cat]
    show _ = (if v.category = 2 then some v :: none :: ev_sl vs else some v :: ev_sl vs).length
    by_cases hc : v.category = 2
    · rw [if_pos hc, if_pos hc]
      simp only [List.length_cons, List.length_nil]
      omega
    · rw [if_neg hc, if_neg hc]
      simp only [List.length_cons, List.length_nil]
      omega
theorem ev_sl_at (am : Nat → Nat) : ∀ (As : List Value) (i j : Nat) (w : Value), (ev_sl As)[j]? = some (some w) → (i + j, ev_v am w) ∈ lv_args i (As.map (ev_v am))
  | [], i, j, w, h => by simp [ev_sl] at h
  | v :: vs, i, j, w, h => by
    rw [List.map_cons]
    unfold lv_args
    rw [ev_cat]
    unfold ev_sl at h
    by_cases hc : v.category = 2
    · rw [if_pos hc] at h ⊢
      match j, h with
      | 0, h =>
        cases h
        exact List.mem_cons_self
      | 1, h => cases h
      | j + 2, h =>
        have := ev_sl_at am vs (i + 2) j w h
        exact List.mem_cons_of_mem _ (by rw [show i + (j + 2) = i + 2 + j by omega]; exact this)
    · rw [if_neg hc] at h ⊢
      match j, h with
      | 0, h =>
        cases h
        exact List.mem_cons_self
      | j + 1, h =>
        have := ev_sl_at am vs (i + 1) j w h
        exact List.mem_cons_of_mem _ (by rw [show i + (j + 1) = i + 1 + j by omega]; exact this)
theorem ev_LV.entry (am : Nat → Nat) (As : List Value) (n : Nat) (h : (ev_sl As).length ≤ n) : ev_LV am ((lg_sl (As.map (ev_v am)) ++ List.replicate (n - (lg_sl (As.map (ev_v am))).length) Slot.unset).toArray) n (ev_en As n) := by
  have hl := lv_entry (As.map (ev_v am)) (n := n) (by rw [ev_sl_lg]; exact h)
  refine ⟨hl.1, hl.2.1, ?_, fun j w hw => ?_⟩
  · unfold ev_en
    rw [List.length_append, List.length_replicate]
    omega
  · unfold ev_en at hw
    by_cases hj : j < (ev_sl As).length
    · rw [List.getElem?_append_left hj] at hw
      have := ev_sl_at am As 0 j w hw
      rw [Nat.zero_add] at this
      exact hl.2.2 (j, ev_v am w) this
    · rw [List.getElem?_append_right (by omega), List.getElem?_replicate] at hw
      split at hw <;> cases hw
/-- what a callee leaves -/
def ev_Qc (D : va_G) (dA : Nat → ClassId) (b a0 a1 : Nat) (Q : ev_Q) : Array Value → State → Outcome → State → Prop := fun _ st oc t => ∃ (sz : Nat) (h : ev_H) (r : List Value), oc = .returned (r.map (ev_v (ev_am b a0 a1))).head? ∧ r.length ≤ 1 ∧ Q sz h r ∧ ev_WD D dA b a0 a1 sz h t.heap ∧ va_F (ev_A b) st t
abbrev ev_Pc (D : va_G) (dA : Nat → ClassId) (b a0 a1 : Nat) (xs : Nat → Int32) (L sz : Nat) (h : ev_H) (As : List Value) : Array Value → State → Prop := va_Pc (As.map (ev_v (ev_am b a0 a1))) (fun U => ev_CT D dA b a0 a1 xs L U ∧ ev_WD D dA b a0 a1 sz h U.heap)
abbrev ev_rm (d kc ks : Nat) : Room := { frames := d, cells := kc, slots := ks, locals := 60 * d }
abbrev ev_ws (M : ev_M) : List Cond := Cond.code M.1 M.2.1 M.2.2.1 M.2.2.2 :: dp_tb
theorem ev_met {l : Launch} {D : va_G} {dA : Nat → ClassId} {b a0 a1 : Nat} {xs : Nat → Int32} {L d kc ks : Nat} {M : ev_M} {sz : Nat} {h : ev_H} {As : List Value} {Q : ev_Q} (hy : plainName M.1.cls = true) (hlen : (ev_sl As).length ≤ M.2.2.1) (hE : ev_W l D dA b a0 a1 xs L d kc ks M sz h 0 (ev_en As M.2.2.1) [] Q) :
    Met l M.1 (ev_ws M) (ev_rm d kc ks) (ev_Pc D dA b a0 a1 xs L sz h As) (ev_Qc D dA b a0 a1 Q) kc ks (ev_A b) := by
  refine Met.ofW (cc := M.2.1) (maxL := M.2.2.1) (ret := M.2.2.2) hy rfl ?_
  intro p e s m args below meth c s₁ B hml hv
  obtain ⟨rfl, hC, hWD⟩ := hv
  have hx := B.exec
  have hb := B.bytes
  have hr := B.returns
  have hts := atoms_spec (ws := ev_ws M) B.pre
  have hown : s.vm.findClass M.1.cls = some m.cls := findClass_of_methodNamed B.named
  have hlocks := B.notSynchronized
  have hin : meth.name = M.1.name := (name_of_methodNamed B.named B.method).1
  rw [lg_entry_eq]
  refine hE p e _ s m _ below meth c s.heap [] 0 0 kc ks _ _ hx hb hml hown (fun w hw => hts w (List.mem_cons_of_mem _ hw)) hin hC va_S.rf hWD (ev_LV.entry _ As _ hlen) (Nat.le_refl _) (Nat.le_refl _) (by omega) (by omega) (Nat.le_refl _) (Nat.le_refl _) ?_
  intro pc lsB H locs sz' h' r i hq hW' hS hd hrt
  rcases hrt with ⟨rfl, v, rfl, ty, h1, h2⟩ | ⟨rfl, v, rfl, h1⟩ | ⟨rfl, v, rfl, h1, n, h2⟩ | ⟨rfl, rfl, h1⟩
  · exact W.zret hx hb (hr.trans h1) h2 (fun t ht hW => ⟨sz', h', [.int v], rfl, Nat.le_refl _, hq, by rw [ht]; exact hW', hS.F ht⟩) hS.2.2 hd
  · exact W.lret hx hb (hr.trans h1) (fun t ht hW => ⟨sz', h', [.long v], rfl, Nat.le_refl _, hq, by rw [ht]; exact hW', hS.F ht⟩) hS.2.2 hd
  · refine W.aret (v := ev_v (ev_am b a0 a1) v) hx hb (hr.trans h2) (Or.inl ⟨_, rfl⟩) ?_ (fun t ht hW => ⟨sz', h', [v], rfl, Nat.le_refl _, hq, by rw [ht]; exact hW', hS.F ht⟩) hS.2.2 hd
    rcases h1 with rfl | ⟨a, rfl⟩
    · exact Or.inl rfl
    · exact Or.inr ⟨_, rfl⟩
  · exact W.vret hx hb (hr.trans h1) (fun t ht hW => ⟨sz', h', [], rfl, Nat.zero_le _, hq, by rw [ht]; exact hW', hS.F ht⟩) hS.2.2 hd
end
section
section EVC
variable {p : Program} {l : Launch} {e : Env} {R : Room} {s : State} {m : MethodId} {args : Array Value} {below : List Frame} {meth : Method} {c : Code} {H : Heap} {locs : List Loc} {cells slots : Nat} {Qf : State → Prop}
variable {D : va_G} {dA : Nat → ClassId} {b a0 a1 : Nat} {xs : Nat → Int32} {L d : Nat} {M : ev_M} {kc ks sz : Nat} {h : ev_H} {pc len mc ms : Nat} {lsA : Array Slot} {st : List Value}
theorem ev_callG {Qm : ev_Q} {st0 rest : List Value} {av : Array Value} (hr : va_Run p l e R s m args below meth c H locs cells slots kc ks (F0 m pc lsA st0) rest (ev_Qc D dA b a0 a1 Qm av) (ev_A b)) (hS : va_S (ev_A b) s.heap H locs)
    (kk : ∀ (sz' : Nat) (h' : ev_H) (r : List Value) (H1 : Heap) (locs1 : List Loc), Qm sz' h' r → ev_WD D dA b a0 a1 sz' h' H1 → va_S (ev_A b) s.heap H1 locs1 → W p l e R s m args below meth c H1 locs1 (cells + kc) (slots + ks) Qf (F0 m (pc + 3) lsA (r.map (ev_v (ev_am b a0 a1)) ++ rest))) :
    W p l e R s m args below meth c H locs cells slots Qf (F0 m pc lsA st0) := by
  intro T hT X
  obtain ⟨v, st₀, t, T', L', h0, X', hL, e1, e2, ⟨sz', h', r, hv, hlen, hq, hWD, hz, hk⟩, hst⟩ := hr T hT X
  rw [h0] at hz hk
  have hvr : v.toList = r.map (ev_v (ev_am b a0 a1)) := by
    have hv := Outcome.returned.inj hv
    subst hv
    match r, hlen with
    | [], _ => rfl
    | [x], _ => rfl
  obtain ⟨t2, g1, g2⟩ := kk sz' h' r T'.heap (locs ++ L') hq (by rw [e1]; exact hWD) ⟨Nat.le_trans hS.1 (by rw [e1]; exact hz), fun q h1 h2 => by rw [e1, hk q (Nat.lt_of_lt_of_le h1 hS.1) h2]; exact hS.2.1 q h1 h2, fun q hq => by
      rcases List.mem_append.mp hq with h | h
      · exact hS.2.2 q h
      · exact hL q h⟩ T' rfl X'
  refine ⟨t2, hst t2 ?_, g2⟩
  rw [hvr]
  exact g1
theorem ev_good (hcode : Cond.code M.1 M.2.1 M.2.2.1 M.2.2.2 ∈ dp_tb) : GoodIn dp_tb (ev_ws M) := by
  intro w hw
  rcases List.mem_cons.mp hw with rfl | hw
  · exact ⟨hcode, dp_tbGood _ hcode⟩
  · exact ⟨hw, dp_tbGood _ hw⟩
theorem ev_blind {As : List Value} : FrameBlind (ev_Pc D dA b a0 a1 xs L sz h As) := fun a U g mk q => ⟨q.1, q.2.1.vm rfl rfl, q.2.2⟩
theorem ev_catsum (am : Nat → Nat) (r : List Value) : ((r.map (ev_v am)).map fun v => v.category).sum = ev_cs r := by
  unfold ev_cs
  rw [List.map_map]
  congr 1
  exact List.map_congr_left fun v _ => ev_cat _ v
set_option maxHeartbeats 4000000 in
theorem ev_call_ok (hx : p.tables.exec = Jvm.exec) (hb : c.code = M.2.1) (hml : c.maxLocals = M.2.2.1) (hsz : lsA.size = M.2.2.1) (hown : s.vm.findClass M.1.cls = some m.cls) (hts : ∀ w ∈ dp_tb, w.before args s = true) (hC : ev_CT D dA b a0 a1 xs L s) (hS : va_S (ev_A b) s.heap H locs) (hW : ev_WD D dA b a0 a1 sz h H)
    (hfr : d + 1 ≤ R.frames) (hlo : 60 * (d + 1) ≤ R.locals) (hc1 : cells + kc ≤ R.cells) (hc2 : slots + ks ≤ R.slots) {i : Instr} (hd : decode M.2.1 pc = .ok (i, 3)) {M' : ev_M} {As rest : List Value} {Qm : ev_Q} (hca : ev_ca M i sz h st M' As rest)
    (hE : ev_W l D dA b a0 a1 xs L d kc ks M' sz h 0 (ev_en As M'.2.2.1) [] Qm)
    (kk : ∀ (sz' : Nat) (h' : ev_H) (r : List Value) (H1 : Heap) (locs1 : List Loc), Qm sz' h' r → ev_WD D dA b a0 a1 sz' h' H1 → va_S (ev_A b) s.heap H1 locs1 → W p l e R s m args below meth c H1 locs1 (cells + kc) (slots + ks) Qf (F0 m (pc + 3) lsA ((r ++ rest).map (ev_v (ev_am b a0 a1))))) :
    W p l e R s m args below meth c H locs cells slots Qf (F0 m pc lsA (st.map (ev_v (ev_am b a0 a1)))) := by
  obtain ⟨⟨hpl, hcode, hini, hmx, hmh, hlen, hcs⟩, hk⟩ := hca
  have hMet := ev_met hpl hlen hE
  have hG := ev_good hcode
  have hR : (ev_rm d kc ks).frames + 1 ≤ R.frames ∧ 8 + (M'.2.2.1 + 11) + (ev_rm d kc ks).locals ≤ R.locals := ⟨hfr, by show 8 + (M'.2.2.1 + 11) + 60 * d ≤ R.locals; omega⟩
  have S : CallFix p m c M.2.1 M.2.2.1 s args dp_tb M.1.cls := ⟨hx, hb, hml, hown, hts⟩
  have hroom : 2 * (F0 m pc lsA (st.map (ev_v (ev_am b a0 a1)))).monitorRoom + ((rest.map (ev_v (ev_am b a0 a1))).map fun v => v.category).sum ≤ 8 := lv_room (by rw [ev_catsum]; exact hcs)
  have hPre : ∀ U : State, U.heap = H → s.WarmedH U.vm → ev_Pc D dA b a0 a1 xs L sz h As (As.map (ev_v (ev_am b a0 a1))).toArray U := fun U hU hWm => ⟨rfl, hC.moved hS hU hWm, by rw [hU]; exact hW⟩
  have kk2 : ∀ (sz' : Nat) (h' : ev_H) (r : List Value) (H1 : Heap) (locs1 : List Loc), Qm sz' h' r → ev_WD D dA b a0 a1 sz' h' H1 → va_S (ev_A b) s.heap H1 locs1 → W p l e R s m args below meth c H1 locs1 (cells + kc) (slots + ks) Qf (F0 m (pc + 3) lsA (r.map (ev_v (ev_am b a0 a1)) ++ rest.map (ev_v (ev_am b a0 a1)))) := fun sz' h' r H1 locs1 g1 g2 g3 => by
    have := kk sz' h' r H1 locs1 g1 g2 g3
    rwa [List.map_append] at this
  rcases hk with ⟨idx, rfl, rfl, h1, h2, hlk⟩ | ⟨idx, a, B, q, ci, fs, rfl, rfl, rfl, g1, g2, g3, g4, h2, h1, hsel⟩ | ⟨idx, a, B, rfl, rfl, rfl, h1, h2, h3, h4, hlk⟩ | ⟨idx, a, B, q, ci, fs, rfl, rfl, rfl, g1, g2, g3, g4, h2, h3, h4, h5, h6, h7⟩
  · have hstk : (F0 m pc lsA ((As.reverse ++ rest).map (ev_v (ev_am b a0 a1)))).stack = (As.map (ev_v (ev_am b a0 a1))).reverse ++ rest.map (ev_v (ev_am b a0 a1)) := by
      show (As.reverse ++ rest).map _ = _
      rw [List.map_append, List.map_reverse]
    rcases hlk with hlk | ⟨host, hlk⟩
    · have cw := callB_of (R := R) (mc := kc) (ms := ks) (rm := ev_rm d kc ks) As.length hts hG rfl rfl rfl (hts _ hini) (hts _ hlk) ⟨hmh.1, hmh.2, h2⟩ hR
      exact ev_callG (va_runS S hMet ⟨cw, hts _ h1⟩ ⟨ev_blind, hPre⟩ rfl (by rw [List.length_map]) hsz hstk hroom hd ⟨hc1, hc2⟩) hS kk2
    · have cw := va_cnB (R := R) (mc := kc) (ms := ks) (rm := ev_rm d kc ks) As.length hts hG rfl rfl rfl (hC.2.2.2.2.1 _ hlk) (hts _ hini) ⟨hmh.1, hmh.2, h2⟩ hR
      exact ev_callG (va_runSN S hMet ⟨cw, hts _ h1, trivial⟩ ⟨ev_blind, hPre⟩ rfl (by rw [List.length_map]) hsz hstk hroom hd ⟨hc1, hc2⟩) hS kk2
  · have hstk : (F0 m pc lsA ((B.reverse ++ Value.ref a :: rest).map (ev_v (ev_am b a0 a1)))).stack = (B.map (ev_v (ev_am b a0 a1))).reverse ++ Value.ref (ev_am b a0 a1 a) :: rest.map (ev_v (ev_am b a0 a1)) := by
      show (B.reverse ++ Value.ref a :: rest).map _ = _
      rw [List.map_append, List.map_reverse]
      rfl
    have hat := hW.2.2 a g1 g2
    rw [g3, ev_ob] at hat
    have hrec := va_recv hC.1 (ev_P1 hat) (q0 := 0) g4 rfl
    rcases hsel with ⟨hs1, hs2, hlk | ⟨host, hlk⟩⟩ | ⟨x, b0, m0, r0, hm0, hp0, hl1, hl2, hl3, hl4, hl5⟩
    · have cw := callB_of (R := R) (mc := kc) (ms := ks) (rm := ev_rm d kc ks) B.length hts hG rfl rfl rfl (hts _ hini) (hts _ hlk) ⟨hmh.1, hmh.2, h2⟩ hR
      exact ev_callG (va_runV (C := q.1) S hMet ⟨cw, hts _ h1, hts _ hs1⟩ ⟨ev_blind, hrec, hPre⟩ rfl (by rw [List.length_map]) hsz hstk hroom hd ⟨hc1, hc2⟩) hS kk2
    · have cw := va_cnB (R := R) (mc := kc) (ms := ks) (rm := ev_rm d kc ks) B.length hts hG rfl rfl rfl (hC.2.2.2.2.1 _ hlk) (hts _ hini) ⟨hmh.1, hmh.2, h2⟩ hR
      exact ev_callG (va_runVN (C := q.1) S hMet ⟨cw, hts _ h1, hts _ hs1⟩ ⟨ev_blind, hrec, hPre⟩ rfl (by rw [List.length_map]) hsz hstk hroom hd ⟨hc1, hc2⟩) hS kk2
    · have hGU : GoodIn dp_tb (va_wsO M.1.cls idx q.1 x.cls x M'.1 (ev_ws M')) := by
        intro w hw
        unfold va_wsO at hw
        rcases List.mem_append.mp hw with hw | hw
        · have hm : w ∈ dp_tb := by
            simp only [List.mem_cons, List.not_mem_nil, or_false] at hw
            rcases hw with rfl | rfl | rfl | rfl | rfl | rfl
            · exact hl1
            · exact hl2
            · exact hl3
            · exact hl4
            · exact h1
            · exact hini
          exact ⟨hm, dp_tbGood _ hm⟩
        · exact hG w hw
      have cw := va_cwO (R := R) (mc := kc) (ms := ks) (rm := ev_rm d kc ks) B.length hts hGU rfl rfl rfl hl5 ⟨hm0.1, hm0.2, hp0⟩ hR
      exact ev_callG (va_runU S hMet cw ⟨ev_blind, hrec, hPre⟩ rfl (by rw [List.length_map]) hsz hstk hroom hd ⟨hc1, hc2⟩) hS kk2
  · have hstk : (F0 m pc lsA ((B.reverse ++ Value.ref a :: rest).map (ev_v (ev_am b a0 a1)))).stack = (B.map (ev_v (ev_am b a0 a1))).reverse ++ Value.ref (ev_am b a0 a1 a) :: rest.map (ev_v (ev_am b a0 a1)) := by
      show (B.reverse ++ Value.ref a :: rest).map _ = _
      rw [List.map_append, List.map_reverse]
      rfl
    obtain ⟨y', cc', mL', rt'⟩ := M'
    have h2 : rt' = none := h2
    subst h2
    rcases hlk with hlk | ⟨host, hlk⟩
    · have cw := callB_of (R := R) (mc := kc) (ms := ks) (rm := ev_rm d kc ks) B.length hts hG rfl rfl rfl (hts _ hini) (hts _ hlk) ⟨hmh.1, hmh.2, h4⟩ hR
      exact ev_callG (va_runI S hMet ⟨cw, h1, hts _ h3⟩ ⟨ev_blind, hPre⟩ rfl (by rw [List.length_map]) hsz hstk hroom hd ⟨hc1, hc2⟩) hS kk2
    · have cw := va_cnB (R := R) (mc := kc) (ms := ks) (rm := ev_rm d kc ks) B.length hts hG rfl rfl rfl (hC.2.2.2.2.1 _ hlk) (hts _ hini) ⟨hmh.1, hmh.2, h4⟩ hR
      exact ev_callG (va_runIN S hMet ⟨cw, h1, hts _ h3⟩ ⟨ev_blind, hPre⟩ rfl (by rw [List.length_map]) hsz hstk hroom hd ⟨hc1, hc2⟩) hS kk2
  · have hstk : (F0 m pc lsA ((B.reverse ++ Value.ref a :: rest).map (ev_v (ev_am b a0 a1)))).stack = (B.map (ev_v (ev_am b a0 a1))).reverse ++ Value.ref (ev_am b a0 a1 a) :: rest.map (ev_v (ev_am b a0 a1)) := by
      show (B.reverse ++ Value.ref a :: rest).map _ = _
      rw [List.map_append, List.map_reverse]
      rfl
    have hat := hW.2.2 a g1 g2
    rw [g3, ev_ob] at hat
    have hrec := va_recv hC.1 (ev_P1 hat) (q0 := 0) g4 rfl
    have hGU : GoodIn dp_tb (va_wsSU M.1.cls idx M'.1 (ev_ws M')) := by
      intro w hw
      unfold va_wsSU at hw
      rcases List.mem_append.mp hw with hw | hw
      · have hm : w ∈ dp_tb := by
          simp only [List.mem_cons, List.not_mem_nil, or_false] at hw
          rcases hw with rfl | rfl | rfl | rfl | rfl
          · exact h4
          · exact h5
          · exact h6
          · exact h7
          · exact hini
        exact ⟨hm, dp_tbGood _ hm⟩
      · exact hG w hw
    have cw := va_cwSU (R := R) (mc := kc) (ms := ks) (rm := ev_rm d kc ks) B.length hts hGU rfl rfl rfl ⟨h3, h2⟩ hR
    exact ev_callG (va_runSU (C := q.1) (hC.1.1 ci _ g4).2 S hMet cw ⟨ev_blind, hrec, hPre⟩ rfl (by rw [List.length_map]) hsz hstk hroom hd ⟨hc1, hc2⟩) hS kk2
end EVC
/-- what EV says holds of the machine -/
theorem ev_sound {l : Launch} {D : va_G} {dA : Nat → ClassId} {b a0 a1 : Nat} {xs : Nat → Int32} {L d kc ks : Nat} {M : ev_M} {sz : Nat} {h : ev_H} {pc : Nat} {ls : ev_L} {st : List Value} {Q : ev_Q} (hh : EV xs L d kc ks M sz h pc ls st Q) : ev_W l D dA b a0 a1 xs L d kc ks M sz h pc ls st Q := by
  refine hh (ev_W l D dA b a0 a1 xs L) ?_
  intro d kc ks M sz h pc ls st Q hs
  intro p e R s m args below meth c H locs cells slots mc ms lsA Qf hx hb hml hown hts hin hC hS hW hl hfr hlo hc1 hc2 hmc hms hend
  obtain ⟨i, len, hd, hc⟩ := hs
  rcases hc with ⟨rfl, pc', ls', st', h1, h2⟩ | ⟨rfl, cd, ce, r, off, tgt, h1, h2, h3, h4⟩ | ⟨dflt, lo, hi, offs, x, r, off, tgt, rfl, rfl, h3, h4, h5⟩ | h1 | ⟨rfl, M', As, rest, d', kc', ks', kc2, ks2, Qm, rfl, rfl, rfl, h4, h5, h6⟩ | ⟨rfl, h1, h2⟩
  · exact ev_pu_ok hx hb h1 hd hl (fun lsB hlB => h2 p e R s m args below meth c H locs cells slots mc ms lsB Qf hx hb hml hown hts hin hC hS hW hlB hfr hlo hc1 hc2 hmc hms hend)
  · exact ev_br_ok hx hb h1 hd h2 (fun q => h3 q p e R s m args below meth c H locs cells slots mc ms lsA Qf hx hb hml hown hts hin hC hS hW hl hfr hlo hc1 hc2 hmc hms hend) (fun q => h4 q p e R s m args below meth c H locs cells slots mc ms lsA Qf hx hb hml hown hts hin hC hS hW hl hfr hlo hc1 hc2 hmc hms hend)
  · have k5 := h5 p e R s m args below meth c H locs cells slots mc ms lsA Qf hx hb hml hown hts hin hC hS hW hl hfr hlo hc1 hc2 hmc hms hend
    rcases h3 with ⟨h3, rfl⟩ | ⟨h3, h6, h7⟩
    · exact lv_tableOut hx hb hd h3 h4 k5
    · exact lv_tableIn hx hb hd h3 h6 h7 h4 k5
  · refine ev_hp_ok hx hb (hl.1.trans hml.symm) hown hts hin hC hS hW hfr hlo hmc hms hc1 hc2 hd (ev_hp_mono (fun kc' ks' sz' h' len' st' q => ⟨q.1, ?_⟩) h1)
    intro H' locs' cells' slots' g1 g2 g3 g4
    exact q.2 p e R s m args below meth c H' locs' cells' slots' mc ms lsA Qf hx hb hml hown hts hin hC g1 g2 hl hfr hlo g3 g4 hmc hms hend
  · refine ev_call_ok (kc := kc') (ks := ks') hx hb hml hl.1 hown hts hC hS hW hfr hlo (by omega) (by omega) hd h4 h5 ?_
    intro sz' h' r H1 locs1 g1 g2 g3
    exact h6 sz' h' r g1 p e R s m args below meth c H1 locs1 _ _ mc ms lsA Qf hx hb hml hown hts hin hC g3 g2 hl hfr hlo (by omega) (by omega) hmc hms hend
  · exact W.widen (by omega) (by omega) (hend pc lsA H locs sz h st i h2 hW hS hd h1)
end
section
/-! THE CLAIM OUT OF ONE WALK OF THE LAW'S BODY. Your part is whole_start (and what it stands on); all else here is the same for every law, but numbers. -/
def R_law : String := "SharedSenseLaw"
def lw_P (b : Addr) (xs : List Int32) (args : Array Value) (s : State) : Prop := args = #[.ref b] ∧ s.IntsAt b xs ∧ xs.length ≤ 2048 ∧ (Jvm.Cond.and given_1 narrow_1).before args s = true
def lw_Q (_ : Array Value) (s : State) (o : Outcome) (t : State) : Prop := o = .returned (some (.int 1)) ∧ Framed s o t [] 600000 7302250
def lw_Z (below : List Frame) (a : Array Value) (s : State) : State → Prop := fun t => ∃ o, t.status = .running ∧ Ended t below o ∧ lw_Q a s o t
/-- the law's own end, with 1 on the stack, nothing written that was there before, its room as the claim has it -/
theorem lw_ret {p : Program} {l : Launch} {e : Env} {s : State} {m : MethodId} {below : List Frame} {meth : Method} {c : Code} {b : Nat} (hx : p.tables.exec = Jvm.exec) (hb : c.code = code) (hr : meth.sig.returnType = ret) (hlocks : meth.locks = false) {pc : Nat} {H : Heap} {ls : Array Slot} (hdg : decode code pc = .ok (.ireturn, 1)) : W p l e room_1 s m #[Value.ref b] below meth c H [] 600000 7302250 (lw_Z below #[Value.ref b] s) (F0 m pc ls [.int 1]) := by
  intro T hT X
  obtain ⟨fs, hret, hrun, hended, hW, hframe⟩ := X.leave (v := some (.int 1)) (hlocks := hlocks) (fun h => by rw [hr] at h; cases h)
  have hmeth' : T.vm.method? m = some meth := X.method'
  refine ⟨T.setFrames fs, ?_, .returned (some (.int 1)), hrun, hended, rfl, ⟨_, rfl⟩, hW, hframe⟩
  jvm_step X.here [X.here.top, hx, hb, hdg, hmeth', hr, ret, narrow_b1]
  (try refine ⟨rfl, ?_⟩); (try refine ⟨rfl, ?_⟩)
  first | (intro acts; rw [hret _ acts rfl rfl rfl]) | rw [hret _ _ rfl rfl rfl]
  exact Steps.refl _
/-- what holds at the law's entry: the machine, the code, the tables' words (any of lw_tbl by 'hts w (by decide +kernel)'), the script of L ints xs at the cell b, what the Statement gives of the start (any of its parts by flat_of_before) -/
def lw_At (p : Program) (s : State) (m : MethodId) (meth : Method) (c : Code) (b L : Nat) (xs : Nat → Int32) : Prop :=
  p.tables.exec = Jvm.exec ∧ c.code = code ∧ meth.sig.returnType = ret ∧ c.maxLocals = 4 ∧ s.vm.findClass R_law = some m.cls ∧ (∀ w ∈ lw_tbl, w.before #[Value.ref b] s = true) ∧ va_X b L xs s s.heap ∧ b < s.heap.size ∧ meth.locks = false ∧ (Jvm.Cond.and given_1 narrow_1).before #[Value.ref b] s = true
theorem dp_of {w : Cond} (hw : dp_isN w = true) {A : Array Value} {s : State} (h : w.before A s = true) : va_Nw w s := by
  unfold dp_isN at hw
  split at hw
  · exact va_AO.of h
  · exact va_Nw.of rfl h
  · exact va_Nw.of rfl h
  · cases hw
abbrev M_law : ev_M := (x, code, 4, ret)
theorem ev_dA {s : State} {args : Array Value} (hts : ∀ w ∈ lw_tbl, w.before args s = true) : ∃ dA : Nat → ClassId, ∀ (k : Nat) (q : ClassId × FieldType), (dp_tys dA)[k]? = some q → ArrOfT s q.1 q.2 ∧ va_RA s q.1 q.2 := by
  have prim : ∀ ty : FieldType, (Cond.arrayClass ty) ∈ lw_tbl → (∀ C, ty ≠ .object C) → ∃ cA : ClassId, ArrOfT s cA ty ∧ va_RA s cA ty := by
    intro ty hm hno
    obtain ⟨c, k, comp, h1, h2, h3⟩ := Cond.arrayClass_spec (hts _ hm)
    refine ⟨c, fun n z => ⟨fun k h => (by cases h), k, h2, comp, h3⟩, ?_⟩
    cases ty with
    | object C => exact absurd rfl (hno C)
    | _ => exact h1
  have obj : ∀ C : String, (Cond.arrayOver (.object C)) ∈ lw_tbl → ∃ cA : ClassId, ArrOfT s cA (.object C) ∧ va_RA s cA (.object C) := by
    intro C hm
    obtain ⟨comp, c, k, h1, h2, h3, h4, h5⟩ := Cond.arrayOver_spec (hts _ hm)
    exact ⟨c, fun n z => ⟨fun k h => (by cases h), k, h3, comp, h4⟩, k, comp, h3, h4, h1, h5⟩
  obtain ⟨c0, g0⟩ := prim .int (by decide +kernel) (fun C h => by cases h)
  obtain ⟨c1, g1⟩ := prim .long (by decide +kernel) (fun C h => by cases h)
  obtain ⟨c2, g2⟩ := prim .byte (by decide +kernel) (fun C h => by cases h)
  obtain ⟨c3, g3⟩ := obj RX10 (by decide +kernel)
  obtain ⟨c4, g4⟩ := obj RX3 (by decide +kernel)
  refine ⟨fun k => match k with | 0 => c0 | 1 => c1 | 2 => c2 | 3 => c3 | _ => c4, ?_⟩
  intro k q hq
  match k, hq with
  | 0, hq => cases hq; exact g0
  | 1, hq => cases hq; exact g1
  | 2, hq => cases hq; exact g2
  | 3, hq => cases hq; exact g3
  | 4, hq => cases hq; exact g4
  | k + 5, hq => simp [dp_tys] at hq
theorem ev_D {s : State} {args : Array Value} (hts : ∀ w ∈ lw_tbl, w.before args s = true) : ∃ D : va_G, ∀ (c : Nat) (q : vw_C), dp_cl[c]? = some q → u_Kn s q.1 q.2.1 q.2.2 (D.1 c) (D.2 c) := by
  have one : ∀ (c : Nat), ∃ z : ClassId × (Nat → Nat), ∀ q : vw_C, dp_cl[c]? = some q → u_Kn s q.1 q.2.1 q.2.2 z.1 z.2 := by
    intro c
    cases hq : dp_cl[c]? with
    | none => exact ⟨(0, fun _ => 0), fun q h => by cases h⟩
    | some q =>
      have hi : Cond.instantiable q.1 q.2.2 ∈ lw_tbl := by
        match c, hq with
        | 0, hq => cases hq; decide +kernel
        | 1, hq => cases hq; decide +kernel
        | 2, hq => cases hq; decide +kernel
        | 3, hq => cases hq; decide +kernel
        | 4, hq => cases hq; decide +kernel
        | 5, hq => cases hq; decide +kernel
        | 6, hq => cases hq; decide +kernel
        | 7, hq => cases hq; decide +kernel
        | 8, hq => cases hq; decide +kernel
        | 9, hq => cases hq; decide +kernel
        | 10, hq => cases hq; decide +kernel
        | 11, hq => cases hq; decide +kernel
        | 12, hq => cases hq; decide +kernel
        | c + 13, hq => simp [dp_cl] at hq
      obtain ⟨cC, iS, h⟩ := u_known (n := q.2.2) hts (dp_in c q hq) (hts _ hi)
      exact ⟨(cC, iS), fun q' h' => by cases h'; exact h⟩
  refine ⟨(fun c => (Classical.choose (one c)).1, fun c => (Classical.choose (one c)).2), fun c q hq => Classical.choose_spec (one c) q hq⟩
/-- the claim out of EV of the law's body -/
theorem ev_whole {p : Program} {e : Env} {s : State} {m : MethodId} {below : List Frame} {meth : Method} {c : Code} (l : Launch) {b L : Nat} {xs : Nat → Int32} (C0 : lw_At p s m meth c b L xs) (hn : meth.name = x.name) {d : Nat} (hd : d ≤ 1000) {h0 : ev_H} (hE : EV xs L d 600000 7302250 M_law 2 h0 0 (ev_en [.ref 0] 4) [] (fun _ _ r => r = [.int 1])) : W p l e room_1 s m #[Value.ref b] below meth c s.heap [] 0 0 (lw_Z below #[Value.ref b] s) (entryFrame m ([Value.ref b] : List Value).toArray 4) := by
  obtain ⟨hx, hb, hr, hml, hown, hts, hX, hbl, hlocks, hgv⟩ := id C0
  obtain ⟨D, hD⟩ := ev_D hts
  obtain ⟨dA, hdA⟩ := ev_dA hts
  have hs := flat_of_before _ hgv
  have hA : ∀ a : Nat, a < s.heap.size → ¬ ev_A s.heap.size a := fun a h => Nat.not_le.mpr h
  obtain ⟨a1, ht1, hT⟩ := va_Tof (ty := .long) (N := 6) (f := fun j => .long (ev_so j)) (A := ev_A s.heap.size) (tm := .static RX10 "SO" "[J") (by decide) (hs _ (by decide +kernel)) (va_eqt (hs (Cond.eq (.length (.static RX10 "SO" "[J")) (.int 6)) (by decide +kernel))) (fun j hj => by
    match j, hj with
    | 0, _ => exact va_eqtl (hs _ (by decide +kernel))
    | 1, _ => exact va_eqtl (hs _ (by decide +kernel))
    | 2, _ => exact va_eqtl (hs _ (by decide +kernel))
    | 3, _ => exact va_eqtl (hs _ (by decide +kernel))
    | 4, _ => exact va_eqtl (hs _ (by decide +kernel))
    | 5, _ => exact va_eqtl (hs _ (by decide +kernel))) hA
  have hZ := va_Zof (A := ev_A s.heap.size) (hts (Cond.laysStatic RX10 "SO" "[J") (by decide +kernel)) (hts (Cond.initialized RX10) (by decide +kernel)) ht1 hA
  have hC : ev_CT D dA s.heap.size b a1 xs L s := ⟨⟨hD, hdA⟩, hX, hT, hZ, fun w hw => dp_of (List.mem_filter.mp hw).2 (hts w (List.mem_filter.mp hw).1), hbl, Nat.le_refl _⟩
  have hWD : ev_WD D dA s.heap.size b a1 2 h0 s.heap := ⟨rfl, Nat.le_refl _, fun k h1 h2 => by omega⟩
  have hl := ev_LV.entry (ev_am s.heap.size b a1) [.ref 0] 4 (by decide)
  rw [lg_entry_eq]
  refine ev_sound (D := D) (dA := dA) (b := s.heap.size) (a0 := b) (a1 := a1) hE p e room_1 s m #[Value.ref b] below meth c s.heap [] 0 0 600000 7302250 _ _ hx hb hml hown (fun w hw => hts w (List.mem_filter.mp hw).1) hn hC va_S.rf hWD hl (Nat.le_trans hd (by decide)) (Nat.le_trans (Nat.mul_le_mul_left 60 hd) (by decide)) (by decide) (by decide) (Nat.le_refl _) (Nat.le_refl _) ?_
  intro pc lsB H locs sz h r i hq hW' hS hdg hrt
  subst hq
  rcases hrt with ⟨rfl, v, h1, ty, h2, h3⟩ | ⟨rfl, v, h1, h2⟩ | ⟨rfl, v, h1, h2, h3⟩ | ⟨rfl, h1, h2⟩
  · cases h1
    exact va_forget hS.2.2 (lw_ret hx hb hr hlocks hdg)
  · cases h1
  · cases h1
    rcases h2 with h2 | ⟨a, h2⟩ <;> cases h2
  · cases h1
end
