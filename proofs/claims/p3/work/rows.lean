section
-- ===== PART A: goes FIRST, ahead of the names: the tables' words, and 'selects' of the private methods out of them =====
/-- a private method of a class that the tables say can be made, by its rows of tables_1 -/
def lw_okq (q : MethodName × Nat) : Prop := (q.1.cls ≠ "java/lang/invoke/MethodHandle" ∧ q.1.cls ≠ "java/lang/invoke/VarHandle") ∧ Cond.instantiable q.1.cls q.2 ∈ tables_1 ∧ Cond.privateMethod q.1 ∈ tables_1 ∧ Cond.instanceMethod q.1 ∈ tables_1
theorem lw_p0 : lw_okq (⟨"SharedSense$Text", "skipBlanks", "()V"⟩, 6) := ⟨⟨by decide +kernel, by decide +kernel⟩, List.mem_of_getElem? (i := 26) (by decide +kernel), List.mem_of_getElem? (i := 339) (by decide +kernel), List.mem_of_getElem? (i := 340) (by decide +kernel)⟩
theorem lw_p1 : lw_okq (⟨"SharedSense$Text", "byteAt", "(I)I"⟩, 6) := ⟨⟨by decide +kernel, by decide +kernel⟩, List.mem_of_getElem? (i := 26) (by decide +kernel), List.mem_of_getElem? (i := 343) (by decide +kernel), List.mem_of_getElem? (i := 344) (by decide +kernel)⟩
theorem lw_p2 : lw_okq (⟨"SharedSense$Text", "readWord", "()V"⟩, 6) := ⟨⟨by decide +kernel, by decide +kernel⟩, List.mem_of_getElem? (i := 26) (by decide +kernel), List.mem_of_getElem? (i := 350) (by decide +kernel), List.mem_of_getElem? (i := 351) (by decide +kernel)⟩
theorem lw_p3 : lw_okq (⟨"SharedSense$Text", "readNumber", "()V"⟩, 6) := ⟨⟨by decide +kernel, by decide +kernel⟩, List.mem_of_getElem? (i := 26) (by decide +kernel), List.mem_of_getElem? (i := 360) (by decide +kernel), List.mem_of_getElem? (i := 361) (by decide +kernel)⟩
theorem lw_p4 : lw_okq (⟨"SharedSense$Reader", "readClause", "(LSharedSense$Text;I)Z"⟩, 10) := ⟨⟨by decide +kernel, by decide +kernel⟩, List.mem_of_getElem? (i := 52) (by decide +kernel), List.mem_of_getElem? (i := 371) (by decide +kernel), List.mem_of_getElem? (i := 372) (by decide +kernel)⟩
theorem lw_p5 : lw_okq (⟨"SharedSense$Reader", "readLiteral", "(LSharedSense$Text;)Z"⟩, 10) := ⟨⟨by decide +kernel, by decide +kernel⟩, List.mem_of_getElem? (i := 52) (by decide +kernel), List.mem_of_getElem? (i := 380) (by decide +kernel), List.mem_of_getElem? (i := 381) (by decide +kernel)⟩
theorem lw_p6 : lw_okq (⟨"SharedSense", "takeClauses", "()V"⟩, 16) := ⟨⟨by decide +kernel, by decide +kernel⟩, List.mem_of_getElem? (i := 18) (by decide +kernel), List.mem_of_getElem? (i := 391) (by decide +kernel), List.mem_of_getElem? (i := 392) (by decide +kernel)⟩
theorem lw_p7 : lw_okq (⟨"SharedSense$WorldSet", "partTurned", "(II)J"⟩, 1) := ⟨⟨by decide +kernel, by decide +kernel⟩, List.mem_of_getElem? (i := 98) (by decide +kernel), List.mem_of_getElem? (i := 461) (by decide +kernel), List.mem_of_getElem? (i := 462) (by decide +kernel)⟩
theorem lw_p8 : lw_okq (⟨"SharedSense", "forgetProof", "()V"⟩, 16) := ⟨⟨by decide +kernel, by decide +kernel⟩, List.mem_of_getElem? (i := 18) (by decide +kernel), List.mem_of_getElem? (i := 481) (by decide +kernel), List.mem_of_getElem? (i := 482) (by decide +kernel)⟩
theorem lw_p9 : lw_okq (⟨"SharedSense", "firstEmptyLine", "()I"⟩, 16) := ⟨⟨by decide +kernel, by decide +kernel⟩, List.mem_of_getElem? (i := 18) (by decide +kernel), List.mem_of_getElem? (i := 485) (by decide +kernel), List.mem_of_getElem? (i := 486) (by decide +kernel)⟩
theorem lw_p10 : lw_okq (⟨"SharedSense$Reader", "readStep", "(LSharedSense$Text;II)Z"⟩, 10) := ⟨⟨by decide +kernel, by decide +kernel⟩, List.mem_of_getElem? (i := 52) (by decide +kernel), List.mem_of_getElem? (i := 507) (by decide +kernel), List.mem_of_getElem? (i := 508) (by decide +kernel)⟩
theorem lw_p11 : lw_okq (⟨"SharedSense", "takeSteps", "()V"⟩, 16) := ⟨⟨by decide +kernel, by decide +kernel⟩, List.mem_of_getElem? (i := 18) (by decide +kernel), List.mem_of_getElem? (i := 511) (by decide +kernel), List.mem_of_getElem? (i := 512) (by decide +kernel)⟩
theorem lw_p12 : lw_okq (⟨"SharedSense", "makeLine", "(I)Z"⟩, 16) := ⟨⟨by decide +kernel, by decide +kernel⟩, List.mem_of_getElem? (i := 18) (by decide +kernel), List.mem_of_getElem? (i := 519) (by decide +kernel), List.mem_of_getElem? (i := 520) (by decide +kernel)⟩
theorem lw_p13 : lw_okq (⟨"SharedSense", "lineAt", "(I)LSharedSense$Line;"⟩, 16) := ⟨⟨by decide +kernel, by decide +kernel⟩, List.mem_of_getElem? (i := 18) (by decide +kernel), List.mem_of_getElem? (i := 535) (by decide +kernel), List.mem_of_getElem? (i := 536) (by decide +kernel)⟩
theorem lw_p14 : lw_okq (⟨"SharedSense$WorldSet", "hangsOn", "(I)Z"⟩, 1) := ⟨⟨by decide +kernel, by decide +kernel⟩, List.mem_of_getElem? (i := 98) (by decide +kernel), List.mem_of_getElem? (i := 653) (by decide +kernel), List.mem_of_getElem? (i := 654) (by decide +kernel)⟩
theorem lw_p15 : lw_okq (⟨"SharedSense", "setOf", "(I)LSharedSense$WorldSet;"⟩, 16) := ⟨⟨by decide +kernel, by decide +kernel⟩, List.mem_of_getElem? (i := 18) (by decide +kernel), List.mem_of_getElem? (i := 668) (by decide +kernel), List.mem_of_getElem? (i := 669) (by decide +kernel)⟩
def lw_privs_1 : List (MethodName × Nat) := [(⟨"SharedSense$Text", "skipBlanks", "()V"⟩, 6), (⟨"SharedSense$Text", "byteAt", "(I)I"⟩, 6), (⟨"SharedSense$Text", "readWord", "()V"⟩, 6), (⟨"SharedSense$Text", "readNumber", "()V"⟩, 6), (⟨"SharedSense$Reader", "readClause", "(LSharedSense$Text;I)Z"⟩, 10), (⟨"SharedSense$Reader", "readLiteral", "(LSharedSense$Text;)Z"⟩, 10), (⟨"SharedSense", "takeClauses", "()V"⟩, 16), (⟨"SharedSense$WorldSet", "partTurned", "(II)J"⟩, 1), (⟨"SharedSense", "forgetProof", "()V"⟩, 16), (⟨"SharedSense", "firstEmptyLine", "()I"⟩, 16), (⟨"SharedSense$Reader", "readStep", "(LSharedSense$Text;II)Z"⟩, 10), (⟨"SharedSense", "takeSteps", "()V"⟩, 16), (⟨"SharedSense", "makeLine", "(I)Z"⟩, 16), (⟨"SharedSense", "lineAt", "(I)LSharedSense$Line;"⟩, 16), (⟨"SharedSense$WorldSet", "hangsOn", "(I)Z"⟩, 1), (⟨"SharedSense", "setOf", "(I)LSharedSense$WorldSet;"⟩, 16)]
theorem lw_r1 : ∀ q ∈ lw_privs_1, lw_okq q := List.forall_mem_cons.mpr ⟨lw_p0, List.forall_mem_cons.mpr ⟨lw_p1, List.forall_mem_cons.mpr ⟨lw_p2, List.forall_mem_cons.mpr ⟨lw_p3, List.forall_mem_cons.mpr ⟨lw_p4, List.forall_mem_cons.mpr ⟨lw_p5, List.forall_mem_cons.mpr ⟨lw_p6, List.forall_mem_cons.mpr ⟨lw_p7, List.forall_mem_cons.mpr ⟨lw_p8, List.forall_mem_cons.mpr ⟨lw_p9, List.forall_mem_cons.mpr ⟨lw_p10, List.forall_mem_cons.mpr ⟨lw_p11, List.forall_mem_cons.mpr ⟨lw_p12, List.forall_mem_cons.mpr ⟨lw_p13, List.forall_mem_cons.mpr ⟨lw_p14, List.forall_mem_cons.mpr ⟨lw_p15, fun _ h => absurd h List.not_mem_nil⟩⟩⟩⟩⟩⟩⟩⟩⟩⟩⟩⟩⟩⟩⟩⟩
theorem lw_p16 : lw_okq (⟨"SharedSense$Sides", "findFewest", "()I"⟩, 9) := ⟨⟨by decide +kernel, by decide +kernel⟩, List.mem_of_getElem? (i := 92) (by decide +kernel), List.mem_of_getElem? (i := 696) (by decide +kernel), List.mem_of_getElem? (i := 697) (by decide +kernel)⟩
theorem lw_p17 : lw_okq (⟨"SharedSense$Sides", "tellsApart", "(I)Z"⟩, 9) := ⟨⟨by decide +kernel, by decide +kernel⟩, List.mem_of_getElem? (i := 92) (by decide +kernel), List.mem_of_getElem? (i := 700) (by decide +kernel), List.mem_of_getElem? (i := 701) (by decide +kernel)⟩
theorem lw_p18 : lw_okq (⟨"SharedSense", "clausesUnder", "(I)I"⟩, 16) := ⟨⟨by decide +kernel, by decide +kernel⟩, List.mem_of_getElem? (i := 18) (by decide +kernel), List.mem_of_getElem? (i := 728) (by decide +kernel), List.mem_of_getElem? (i := 729) (by decide +kernel)⟩
theorem lw_p19 : lw_okq (⟨"SharedSense$Core", "allClash", "()Z"⟩, 6) := ⟨⟨by decide +kernel, by decide +kernel⟩, List.mem_of_getElem? (i := 154) (by decide +kernel), List.mem_of_getElem? (i := 743) (by decide +kernel), List.mem_of_getElem? (i := 744) (by decide +kernel)⟩
theorem lw_p20 : lw_okq (⟨"SharedSense$Core", "choose", "(III)V"⟩, 6) := ⟨⟨by decide +kernel, by decide +kernel⟩, List.mem_of_getElem? (i := 154) (by decide +kernel), List.mem_of_getElem? (i := 753) (by decide +kernel), List.mem_of_getElem? (i := 754) (by decide +kernel)⟩
theorem lw_p21 : lw_okq (⟨"SharedSense$Core", "keep", "(II)V"⟩, 6) := ⟨⟨by decide +kernel, by decide +kernel⟩, List.mem_of_getElem? (i := 154) (by decide +kernel), List.mem_of_getElem? (i := 757) (by decide +kernel), List.mem_of_getElem? (i := 758) (by decide +kernel)⟩
theorem lw_p22 : lw_okq (⟨"SharedSense", "ruleOf", "(I)LSharedSense$Rule;"⟩, 16) := ⟨⟨by decide +kernel, by decide +kernel⟩, List.mem_of_getElem? (i := 18) (by decide +kernel), List.mem_of_getElem? (i := 767) (by decide +kernel), List.mem_of_getElem? (i := 768) (by decide +kernel)⟩
theorem lw_p23 : lw_okq (⟨"SharedSenseModel", "bounds", "()V"⟩, 25) := ⟨⟨by decide +kernel, by decide +kernel⟩, List.mem_of_getElem? (i := 810) (by decide +kernel), List.mem_of_getElem? (i := 816) (by decide +kernel), List.mem_of_getElem? (i := 817) (by decide +kernel)⟩
theorem lw_p24 : lw_okq (⟨"SharedSenseModel", "shared", "()I"⟩, 25) := ⟨⟨by decide +kernel, by decide +kernel⟩, List.mem_of_getElem? (i := 810) (by decide +kernel), List.mem_of_getElem? (i := 820) (by decide +kernel), List.mem_of_getElem? (i := 821) (by decide +kernel)⟩
theorem lw_p25 : lw_okq (⟨"SharedSenseModel", "lettersOf", "(I)I"⟩, 25) := ⟨⟨by decide +kernel, by decide +kernel⟩, List.mem_of_getElem? (i := 810) (by decide +kernel), List.mem_of_getElem? (i := 824) (by decide +kernel), List.mem_of_getElem? (i := 825) (by decide +kernel)⟩
theorem lw_p26 : lw_okq (⟨"SharedSenseModel", "begins", "()V"⟩, 25) := ⟨⟨by decide +kernel, by decide +kernel⟩, List.mem_of_getElem? (i := 810) (by decide +kernel), List.mem_of_getElem? (i := 927) (by decide +kernel), List.mem_of_getElem? (i := 928) (by decide +kernel)⟩
theorem lw_p27 : lw_okq (⟨"SharedSenseModel", "advances", "()V"⟩, 25) := ⟨⟨by decide +kernel, by decide +kernel⟩, List.mem_of_getElem? (i := 810) (by decide +kernel), List.mem_of_getElem? (i := 931) (by decide +kernel), List.mem_of_getElem? (i := 932) (by decide +kernel)⟩
theorem lw_p28 : lw_okq (⟨"SharedSenseModel", "byteAt", "(I)I"⟩, 25) := ⟨⟨by decide +kernel, by decide +kernel⟩, List.mem_of_getElem? (i := 810) (by decide +kernel), List.mem_of_getElem? (i := 935) (by decide +kernel), List.mem_of_getElem? (i := 936) (by decide +kernel)⟩
theorem lw_p29 : lw_okq (⟨"SharedSenseModel", "word", "(I)V"⟩, 25) := ⟨⟨by decide +kernel, by decide +kernel⟩, List.mem_of_getElem? (i := 810) (by decide +kernel), List.mem_of_getElem? (i := 939) (by decide +kernel), List.mem_of_getElem? (i := 940) (by decide +kernel)⟩
theorem lw_p30 : lw_okq (⟨"SharedSenseModel", "isWell", "()Z"⟩, 25) := ⟨⟨by decide +kernel, by decide +kernel⟩, List.mem_of_getElem? (i := 810) (by decide +kernel), List.mem_of_getElem? (i := 943) (by decide +kernel), List.mem_of_getElem? (i := 944) (by decide +kernel)⟩
theorem lw_p31 : lw_okq (⟨"SharedSenseModel", "wants", "(Z)V"⟩, 25) := ⟨⟨by decide +kernel, by decide +kernel⟩, List.mem_of_getElem? (i := 810) (by decide +kernel), List.mem_of_getElem? (i := 947) (by decide +kernel), List.mem_of_getElem? (i := 948) (by decide +kernel)⟩
def lw_privs_2 : List (MethodName × Nat) := [(⟨"SharedSense$Sides", "findFewest", "()I"⟩, 9), (⟨"SharedSense$Sides", "tellsApart", "(I)Z"⟩, 9), (⟨"SharedSense", "clausesUnder", "(I)I"⟩, 16), (⟨"SharedSense$Core", "allClash", "()Z"⟩, 6), (⟨"SharedSense$Core", "choose", "(III)V"⟩, 6), (⟨"SharedSense$Core", "keep", "(II)V"⟩, 6), (⟨"SharedSense", "ruleOf", "(I)LSharedSense$Rule;"⟩, 16), (⟨"SharedSenseModel", "bounds", "()V"⟩, 25), (⟨"SharedSenseModel", "shared", "()I"⟩, 25), (⟨"SharedSenseModel", "lettersOf", "(I)I"⟩, 25), (⟨"SharedSenseModel", "begins", "()V"⟩, 25), (⟨"SharedSenseModel", "advances", "()V"⟩, 25), (⟨"SharedSenseModel", "byteAt", "(I)I"⟩, 25), (⟨"SharedSenseModel", "word", "(I)V"⟩, 25), (⟨"SharedSenseModel", "isWell", "()Z"⟩, 25), (⟨"SharedSenseModel", "wants", "(Z)V"⟩, 25)]
theorem lw_r2 : ∀ q ∈ lw_privs_2, lw_okq q := List.forall_mem_cons.mpr ⟨lw_p16, List.forall_mem_cons.mpr ⟨lw_p17, List.forall_mem_cons.mpr ⟨lw_p18, List.forall_mem_cons.mpr ⟨lw_p19, List.forall_mem_cons.mpr ⟨lw_p20, List.forall_mem_cons.mpr ⟨lw_p21, List.forall_mem_cons.mpr ⟨lw_p22, List.forall_mem_cons.mpr ⟨lw_p23, List.forall_mem_cons.mpr ⟨lw_p24, List.forall_mem_cons.mpr ⟨lw_p25, List.forall_mem_cons.mpr ⟨lw_p26, List.forall_mem_cons.mpr ⟨lw_p27, List.forall_mem_cons.mpr ⟨lw_p28, List.forall_mem_cons.mpr ⟨lw_p29, List.forall_mem_cons.mpr ⟨lw_p30, List.forall_mem_cons.mpr ⟨lw_p31, fun _ h => absurd h List.not_mem_nil⟩⟩⟩⟩⟩⟩⟩⟩⟩⟩⟩⟩⟩⟩⟩⟩
theorem lw_p32 : lw_okq (⟨"SharedSenseModel", "readsClause", "(I)V"⟩, 25) := ⟨⟨by decide +kernel, by decide +kernel⟩, List.mem_of_getElem? (i := 810) (by decide +kernel), List.mem_of_getElem? (i := 951) (by decide +kernel), List.mem_of_getElem? (i := 952) (by decide +kernel)⟩
theorem lw_p33 : lw_okq (⟨"SharedSenseModel", "goesOn", "()V"⟩, 25) := ⟨⟨by decide +kernel, by decide +kernel⟩, List.mem_of_getElem? (i := 810) (by decide +kernel), List.mem_of_getElem? (i := 955) (by decide +kernel), List.mem_of_getElem? (i := 956) (by decide +kernel)⟩
theorem lw_p34 : lw_okq (⟨"SharedSenseModel", "holding", "(I)V"⟩, 25) := ⟨⟨by decide +kernel, by decide +kernel⟩, List.mem_of_getElem? (i := 810) (by decide +kernel), List.mem_of_getElem? (i := 959) (by decide +kernel), List.mem_of_getElem? (i := 960) (by decide +kernel)⟩
theorem lw_p35 : lw_okq (⟨"SharedSenseModel", "beginning", "(I)V"⟩, 25) := ⟨⟨by decide +kernel, by decide +kernel⟩, List.mem_of_getElem? (i := 810) (by decide +kernel), List.mem_of_getElem? (i := 966) (by decide +kernel), List.mem_of_getElem? (i := 967) (by decide +kernel)⟩
theorem lw_p36 : lw_okq (⟨"SharedSenseModel", "readsStep", "(I)V"⟩, 25) := ⟨⟨by decide +kernel, by decide +kernel⟩, List.mem_of_getElem? (i := 810) (by decide +kernel), List.mem_of_getElem? (i := 974) (by decide +kernel), List.mem_of_getElem? (i := 975) (by decide +kernel)⟩
theorem lw_p37 : lw_okq (⟨"SharedSenseModel", "makes", "(I)Z"⟩, 25) := ⟨⟨by decide +kernel, by decide +kernel⟩, List.mem_of_getElem? (i := 810) (by decide +kernel), List.mem_of_getElem? (i := 978) (by decide +kernel), List.mem_of_getElem? (i := 979) (by decide +kernel)⟩
theorem lw_p38 : lw_okq (⟨"SharedSenseModel", "ending", "()I"⟩, 25) := ⟨⟨by decide +kernel, by decide +kernel⟩, List.mem_of_getElem? (i := 810) (by decide +kernel), List.mem_of_getElem? (i := 990) (by decide +kernel), List.mem_of_getElem? (i := 991) (by decide +kernel)⟩
theorem lw_p39 : lw_okq (⟨"SharedSenseModel", "isLine", "(I)Z"⟩, 25) := ⟨⟨by decide +kernel, by decide +kernel⟩, List.mem_of_getElem? (i := 810) (by decide +kernel), List.mem_of_getElem? (i := 998) (by decide +kernel), List.mem_of_getElem? (i := 999) (by decide +kernel)⟩
theorem lw_p40 : lw_okq (⟨"SharedSenseModel", "takes", "(I[J)Z"⟩, 25) := ⟨⟨by decide +kernel, by decide +kernel⟩, List.mem_of_getElem? (i := 810) (by decide +kernel), List.mem_of_getElem? (i := 1032) (by decide +kernel), List.mem_of_getElem? (i := 1033) (by decide +kernel)⟩
theorem lw_p41 : lw_okq (⟨"SharedSenseModel", "checks", "([J)I"⟩, 25) := ⟨⟨by decide +kernel, by decide +kernel⟩, List.mem_of_getElem? (i := 810) (by decide +kernel), List.mem_of_getElem? (i := 1036) (by decide +kernel), List.mem_of_getElem? (i := 1037) (by decide +kernel)⟩
theorem lw_p42 : lw_okq (⟨"SharedSenseModel", "clash", "(I)Z"⟩, 25) := ⟨⟨by decide +kernel, by decide +kernel⟩, List.mem_of_getElem? (i := 810) (by decide +kernel), List.mem_of_getElem? (i := 1082) (by decide +kernel), List.mem_of_getElem? (i := 1083) (by decide +kernel)⟩
def lw_privs_3 : List (MethodName × Nat) := [(⟨"SharedSenseModel", "readsClause", "(I)V"⟩, 25), (⟨"SharedSenseModel", "goesOn", "()V"⟩, 25), (⟨"SharedSenseModel", "holding", "(I)V"⟩, 25), (⟨"SharedSenseModel", "beginning", "(I)V"⟩, 25), (⟨"SharedSenseModel", "readsStep", "(I)V"⟩, 25), (⟨"SharedSenseModel", "makes", "(I)Z"⟩, 25), (⟨"SharedSenseModel", "ending", "()I"⟩, 25), (⟨"SharedSenseModel", "isLine", "(I)Z"⟩, 25), (⟨"SharedSenseModel", "takes", "(I[J)Z"⟩, 25), (⟨"SharedSenseModel", "checks", "([J)I"⟩, 25), (⟨"SharedSenseModel", "clash", "(I)Z"⟩, 25)]
theorem lw_r3 : ∀ q ∈ lw_privs_3, lw_okq q := List.forall_mem_cons.mpr ⟨lw_p32, List.forall_mem_cons.mpr ⟨lw_p33, List.forall_mem_cons.mpr ⟨lw_p34, List.forall_mem_cons.mpr ⟨lw_p35, List.forall_mem_cons.mpr ⟨lw_p36, List.forall_mem_cons.mpr ⟨lw_p37, List.forall_mem_cons.mpr ⟨lw_p38, List.forall_mem_cons.mpr ⟨lw_p39, List.forall_mem_cons.mpr ⟨lw_p40, List.forall_mem_cons.mpr ⟨lw_p41, List.forall_mem_cons.mpr ⟨lw_p42, fun _ h => absurd h List.not_mem_nil⟩⟩⟩⟩⟩⟩⟩⟩⟩⟩⟩
def lw_privs : List (MethodName × Nat) := lw_privs_1 ++ (lw_privs_2 ++ (lw_privs_3))
def lw_tbl : List Cond := k2_sels lw_privs ++ tables_1
theorem lw_privs_ok : ∀ q ∈ lw_privs, lw_okq q := by
  show ∀ q ∈ lw_privs_1 ++ (lw_privs_2 ++ (lw_privs_3)), lw_okq q
  exact List.forall_mem_append.mpr ⟨lw_r1, List.forall_mem_append.mpr ⟨lw_r2, lw_r3⟩⟩
end
section
def RX0 : String := "SharedSense$Core"
def TX0 : u_T := fun k => match k with
  | 0 => ("SharedSense$Core", "holding", "[LSharedSense$WorldSet;", true)
  | 1 => ("SharedSense$Core", "open", "[LSharedSense$WorldSet;", true)
  | 2 => ("SharedSense$Core", "clauseCount", "I", false)
  | 3 => ("SharedSense$Core", "known", "Z", false)
  | 4 => ("SharedSense$Core", "best", "I", false)
  | _ => ("SharedSense$Core", "bestSize", "I", false)
def tyX0 : Nat → FieldType := fun k => match k with
  | 0 => .array (.object "SharedSense$WorldSet")
  | 1 => .array (.object "SharedSense$WorldSet")
  | 2 => .int
  | 3 => .boolean
  | 4 => .int
  | _ => .int
theorem nmX0 : ∀ a, a < 6 → ∀ b, b < 6 → a ≠ b → (TX0 a).2.1 ≠ (TX0 b).2.1 := by decide +kernel
theorem tyX0_ok : ∀ k, k < 6 → parseFieldDescriptor (TX0 k).2.2.1 = some (tyX0 k) := by decide +kernel
abbrev cX0_init : ByteArray := prog_2_method_1_code
def yX0_init : MethodName := ⟨RX0, "<init>", "()V"⟩
abbrev cX0_learn : ByteArray := prog_2_method_2_code
def yX0_learn : MethodName := ⟨RX0, "learn", "([LSharedSense$Line;I)V"⟩
abbrev cX0_leastSet : ByteArray := prog_2_method_3_code
def yX0_leastSet : MethodName := ⟨RX0, "leastSet", "()I"⟩
abbrev cX0_allClash : ByteArray := prog_2_method_4_code
def yX0_allClash : MethodName := ⟨RX0, "allClash", "()Z"⟩
abbrev cX0_choose : ByteArray := prog_2_method_5_code
def yX0_choose : MethodName := ⟨RX0, "choose", "(III)V"⟩
abbrev cX0_keep : ByteArray := prog_2_method_6_code
def yX0_keep : MethodName := ⟨RX0, "keep", "(II)V"⟩
def RX1 : String := "SharedSense$Even"
def TX1 : u_T := fun k => match k with
  | _ => ("", "", "", false)
def tyX1 : Nat → FieldType := fun k => match k with
  | _ => .int
theorem nmX1 : ∀ a, a < 0 → ∀ b, b < 0 → a ≠ b → (TX1 a).2.1 ≠ (TX1 b).2.1 := by decide +kernel
theorem tyX1_ok : ∀ k, k < 0 → parseFieldDescriptor (TX1 k).2.2.1 = some (tyX1 k) := by decide +kernel
abbrev cX1_init : ByteArray := prog_3_method_1_code
def yX1_init : MethodName := ⟨RX1, "<init>", "()V"⟩
abbrev cX1_work : ByteArray := prog_3_method_2_code
def yX1_work : MethodName := ⟨RX1, "work", "(LSharedSense$Line;LSharedSense$Trail;)I"⟩
def RX2 : String := "SharedSense$Left"
def TX2 : u_T := fun k => match k with
  | _ => ("", "", "", false)
def tyX2 : Nat → FieldType := fun k => match k with
  | _ => .int
theorem nmX2 : ∀ a, a < 0 → ∀ b, b < 0 → a ≠ b → (TX2 a).2.1 ≠ (TX2 b).2.1 := by decide +kernel
theorem tyX2_ok : ∀ k, k < 0 → parseFieldDescriptor (TX2 k).2.2.1 = some (tyX2 k) := by decide +kernel
abbrev cX2_init : ByteArray := prog_4_method_1_code
def yX2_init : MethodName := ⟨RX2, "<init>", "()V"⟩
abbrev cX2_work : ByteArray := prog_4_method_2_code
def yX2_work : MethodName := ⟨RX2, "work", "(LSharedSense$Line;LSharedSense$Trail;)I"⟩
def RX3 : String := "SharedSense$Line"
def TX3 : u_T := fun k => match k with
  | 0 => ("SharedSense$Line", "sayings", "[LSharedSense$WorldSet;", true)
  | 1 => ("SharedSense$Line", "plain", "I", false)
  | 2 => ("SharedSense$Line", "turned", "I", false)
  | 3 => ("SharedSense$Line", "owner", "I", false)
  | 4 => ("SharedSense$Line", "first", "I", false)
  | 5 => ("SharedSense$Line", "second", "I", false)
  | _ => ("SharedSense$Line", "letter", "I", false)
def tyX3 : Nat → FieldType := fun k => match k with
  | 0 => .array (.object "SharedSense$WorldSet")
  | 1 => .int
  | 2 => .int
  | 3 => .int
  | 4 => .int
  | 5 => .int
  | _ => .int
theorem nmX3 : ∀ a, a < 7 → ∀ b, b < 7 → a ≠ b → (TX3 a).2.1 ≠ (TX3 b).2.1 := by decide +kernel
theorem tyX3_ok : ∀ k, k < 7 → parseFieldDescriptor (TX3 k).2.2.1 = some (tyX3 k) := by decide +kernel
abbrev cX3_init : ByteArray := prog_5_method_1_code
def yX3_init : MethodName := ⟨RX3, "<init>", "()V"⟩
abbrev cX3_property : ByteArray := prog_5_method_2_code
def yX3_property : MethodName := ⟨RX3, "property", "(I)I"⟩
abbrev cX3_literals : ByteArray := prog_5_method_3_code
def yX3_literals : MethodName := ⟨RX3, "literals", "()I"⟩
abbrev cX3_letters : ByteArray := prog_5_method_4_code
def yX3_letters : MethodName := ⟨RX3, "letters", "()I"⟩
abbrev cX3_isSoIn : ByteArray := prog_5_method_5_code
def yX3_isSoIn : MethodName := ⟨RX3, "isSoIn", "(I)Z"⟩
abbrev cX3_sayingBy : ByteArray := prog_5_method_6_code
def yX3_sayingBy : MethodName := ⟨RX3, "sayingBy", "(I)LSharedSense$WorldSet;"⟩
abbrev cX3_gatherWorlds : ByteArray := prog_5_method_7_code
def yX3_gatherWorlds : MethodName := ⟨RX3, "gatherWorlds", "(LSharedSense$WorldSet;I)V"⟩
abbrev cX3_becomeClause : ByteArray := prog_5_method_8_code
def yX3_becomeClause : MethodName := ⟨RX3, "becomeClause", "(III)V"⟩
abbrev cX3_sayAsClause : ByteArray := prog_5_method_9_code
def yX3_sayAsClause : MethodName := ⟨RX3, "sayAsClause", "(I)V"⟩
abbrev cX3_becomeCut : ByteArray := prog_5_method_10_code
def yX3_becomeCut : MethodName := ⟨RX3, "becomeCut", "(LSharedSense$Line;LSharedSense$Line;I)Z"⟩
abbrev cX3_rememberCut : ByteArray := prog_5_method_11_code
def yX3_rememberCut : MethodName := ⟨RX3, "rememberCut", "(III)V"⟩
abbrev cX3_sayAsCut : ByteArray := prog_5_method_12_code
def yX3_sayAsCut : MethodName := ⟨RX3, "sayAsCut", "(LSharedSense$Line;LSharedSense$Line;I)V"⟩
abbrev cX3_joins : ByteArray := prog_5_method_13_code
def yX3_joins : MethodName := ⟨RX3, "joins", "(II)Z"⟩
def RX4 : String := "SharedSense$Reader"
def TX4 : u_T := fun k => match k with
  | 0 => ("SharedSense$Reader", "clauseSide", "[I", true)
  | 1 => ("SharedSense$Reader", "plainLetters", "[I", true)
  | 2 => ("SharedSense$Reader", "turnedLetters", "[I", true)
  | 3 => ("SharedSense$Reader", "clausesRead", "I", false)
  | 4 => ("SharedSense$Reader", "plainNow", "I", false)
  | 5 => ("SharedSense$Reader", "turnedNow", "I", false)
  | 6 => ("SharedSense$Reader", "firstLine", "[I", true)
  | 7 => ("SharedSense$Reader", "secondLine", "[I", true)
  | 8 => ("SharedSense$Reader", "cutLetter", "[I", true)
  | _ => ("SharedSense$Reader", "stepsRead", "I", false)
def tyX4 : Nat → FieldType := fun k => match k with
  | 0 => .array .int
  | 1 => .array .int
  | 2 => .array .int
  | 3 => .int
  | 4 => .int
  | 5 => .int
  | 6 => .array .int
  | 7 => .array .int
  | 8 => .array .int
  | _ => .int
theorem nmX4 : ∀ a, a < 10 → ∀ b, b < 10 → a ≠ b → (TX4 a).2.1 ≠ (TX4 b).2.1 := by decide +kernel
theorem tyX4_ok : ∀ k, k < 10 → parseFieldDescriptor (TX4 k).2.2.1 = some (tyX4 k) := by decide +kernel
abbrev cX4_init : ByteArray := prog_6_method_1_code
def yX4_init : MethodName := ⟨RX4, "<init>", "()V"⟩
abbrev cX4_at : ByteArray := prog_6_method_2_code
def yX4_at : MethodName := ⟨RX4, "at", "([II)I"⟩
abbrev cX4_clausesRead : ByteArray := prog_6_method_3_code
def yX4_clausesRead : MethodName := ⟨RX4, "clausesRead", "()I"⟩
abbrev cX4_sideOf : ByteArray := prog_6_method_4_code
def yX4_sideOf : MethodName := ⟨RX4, "sideOf", "(I)I"⟩
abbrev cX4_plainOf : ByteArray := prog_6_method_5_code
def yX4_plainOf : MethodName := ⟨RX4, "plainOf", "(I)I"⟩
abbrev cX4_turnedOf : ByteArray := prog_6_method_6_code
def yX4_turnedOf : MethodName := ⟨RX4, "turnedOf", "(I)I"⟩
abbrev cX4_stepsRead : ByteArray := prog_6_method_7_code
def yX4_stepsRead : MethodName := ⟨RX4, "stepsRead", "()I"⟩
abbrev cX4_firstOf : ByteArray := prog_6_method_8_code
def yX4_firstOf : MethodName := ⟨RX4, "firstOf", "(I)I"⟩
abbrev cX4_secondOf : ByteArray := prog_6_method_9_code
def yX4_secondOf : MethodName := ⟨RX4, "secondOf", "(I)I"⟩
abbrev cX4_letterOf : ByteArray := prog_6_method_10_code
def yX4_letterOf : MethodName := ⟨RX4, "letterOf", "(I)I"⟩
abbrev cX4_readClauses : ByteArray := prog_6_method_11_code
def yX4_readClauses : MethodName := ⟨RX4, "readClauses", "(LSharedSense$Text;)I"⟩
abbrev cX4_readClause : ByteArray := prog_6_method_12_code
def yX4_readClause : MethodName := ⟨RX4, "readClause", "(LSharedSense$Text;I)Z"⟩
abbrev cX4_readLiteral : ByteArray := prog_6_method_13_code
def yX4_readLiteral : MethodName := ⟨RX4, "readLiteral", "(LSharedSense$Text;)Z"⟩
abbrev cX4_readSteps : ByteArray := prog_6_method_14_code
def yX4_readSteps : MethodName := ⟨RX4, "readSteps", "(LSharedSense$Text;I)I"⟩
abbrev cX4_readStep : ByteArray := prog_6_method_15_code
def yX4_readStep : MethodName := ⟨RX4, "readStep", "(LSharedSense$Text;II)Z"⟩
abbrev cX4_passed : ByteArray := prog_6_method_16_code
def yX4_passed : MethodName := ⟨RX4, "passed", "(LSharedSense$Text;I)Z"⟩
def RX5 : String := "SharedSense$Right"
def TX5 : u_T := fun k => match k with
  | _ => ("", "", "", false)
def tyX5 : Nat → FieldType := fun k => match k with
  | _ => .int
theorem nmX5 : ∀ a, a < 0 → ∀ b, b < 0 → a ≠ b → (TX5 a).2.1 ≠ (TX5 b).2.1 := by decide +kernel
theorem tyX5_ok : ∀ k, k < 0 → parseFieldDescriptor (TX5 k).2.2.1 = some (tyX5 k) := by decide +kernel
abbrev cX5_init : ByteArray := prog_7_method_1_code
def yX5_init : MethodName := ⟨RX5, "<init>", "()V"⟩
abbrev cX5_work : ByteArray := prog_7_method_2_code
def yX5_work : MethodName := ⟨RX5, "work", "(LSharedSense$Line;LSharedSense$Trail;)I"⟩
def RX6 : String := "SharedSense$Rule"
def TX6 : u_T := fun k => match k with
  | _ => ("", "", "", false)
def tyX6 : Nat → FieldType := fun k => match k with
  | _ => .int
theorem nmX6 : ∀ a, a < 0 → ∀ b, b < 0 → a ≠ b → (TX6 a).2.1 ≠ (TX6 b).2.1 := by decide +kernel
theorem tyX6_ok : ∀ k, k < 0 → parseFieldDescriptor (TX6 k).2.2.1 = some (tyX6 k) := by decide +kernel
abbrev cX6_init : ByteArray := prog_8_method_1_code
def yX6_init : MethodName := ⟨RX6, "<init>", "()V"⟩
abbrev cX6_work : ByteArray := prog_8_method_2_code
def yX6_work : MethodName := ⟨RX6, "work", "(LSharedSense$Line;LSharedSense$Trail;)I"⟩
def RX7 : String := "SharedSense$Sides"
def TX7 : u_T := fun k => match k with
  | 0 => ("SharedSense$Sides", "one", "LSharedSense$WorldSet;", true)
  | 1 => ("SharedSense$Sides", "two", "LSharedSense$WorldSet;", true)
  | 2 => ("SharedSense$Sides", "strongest", "LSharedSense$WorldSet;", true)
  | 3 => ("SharedSense$Sides", "weakest", "LSharedSense$WorldSet;", true)
  | 4 => ("SharedSense$Sides", "scratch", "LSharedSense$WorldSet;", true)
  | 5 => ("SharedSense$Sides", "lettersOfOne", "I", false)
  | 6 => ("SharedSense$Sides", "lettersOfTwo", "I", false)
  | 7 => ("SharedSense$Sides", "fewestKnown", "Z", false)
  | _ => ("SharedSense$Sides", "fewestSet", "I", false)
def tyX7 : Nat → FieldType := fun k => match k with
  | 0 => .object "SharedSense$WorldSet"
  | 1 => .object "SharedSense$WorldSet"
  | 2 => .object "SharedSense$WorldSet"
  | 3 => .object "SharedSense$WorldSet"
  | 4 => .object "SharedSense$WorldSet"
  | 5 => .int
  | 6 => .int
  | 7 => .boolean
  | _ => .int
theorem nmX7 : ∀ a, a < 9 → ∀ b, b < 9 → a ≠ b → (TX7 a).2.1 ≠ (TX7 b).2.1 := by decide +kernel
theorem tyX7_ok : ∀ k, k < 9 → parseFieldDescriptor (TX7 k).2.2.1 = some (tyX7 k) := by decide +kernel
abbrev cX7_init : ByteArray := prog_9_method_1_code
def yX7_init : MethodName := ⟨RX7, "<init>", "()V"⟩
abbrev cX7_learn : ByteArray := prog_9_method_2_code
def yX7_learn : MethodName := ⟨RX7, "learn", "([LSharedSense$Line;I)V"⟩
abbrev cX7_sharedLetters : ByteArray := prog_9_method_3_code
def yX7_sharedLetters : MethodName := ⟨RX7, "sharedLetters", "()I"⟩
abbrev cX7_ownerOf : ByteArray := prog_9_method_4_code
def yX7_ownerOf : MethodName := ⟨RX7, "ownerOf", "(I)I"⟩
abbrev cX7_judge : ByteArray := prog_9_method_5_code
def yX7_judge : MethodName := ⟨RX7, "judge", "(LSharedSense$WorldSet;)I"⟩
abbrev cX7_freeChoices : ByteArray := prog_9_method_6_code
def yX7_freeChoices : MethodName := ⟨RX7, "freeChoices", "()I"⟩
abbrev cX7_fewestLetters : ByteArray := prog_9_method_7_code
def yX7_fewestLetters : MethodName := ⟨RX7, "fewestLetters", "()I"⟩
abbrev cX7_findFewest : ByteArray := prog_9_method_8_code
def yX7_findFewest : MethodName := ⟨RX7, "findFewest", "()I"⟩
abbrev cX7_tellsApart : ByteArray := prog_9_method_9_code
def yX7_tellsApart : MethodName := ⟨RX7, "tellsApart", "(I)Z"⟩
def RX8 : String := "SharedSense$Text"
def TX8 : u_T := fun k => match k with
  | 0 => ("SharedSense$Text", "bytes", "[B", true)
  | 1 => ("SharedSense$Text", "length", "I", false)
  | 2 => ("SharedSense$Text", "place", "I", false)
  | 3 => ("SharedSense$Text", "start", "I", false)
  | 4 => ("SharedSense$Text", "kind", "I", false)
  | _ => ("SharedSense$Text", "value", "I", false)
def tyX8 : Nat → FieldType := fun k => match k with
  | 0 => .array .byte
  | 1 => .int
  | 2 => .int
  | 3 => .int
  | 4 => .int
  | _ => .int
theorem nmX8 : ∀ a, a < 6 → ∀ b, b < 6 → a ≠ b → (TX8 a).2.1 ≠ (TX8 b).2.1 := by decide +kernel
theorem tyX8_ok : ∀ k, k < 6 → parseFieldDescriptor (TX8 k).2.2.1 = some (tyX8 k) := by decide +kernel
abbrev cX8_init : ByteArray := prog_10_method_1_code
def yX8_init : MethodName := ⟨RX8, "<init>", "()V"⟩
abbrev cX8_size : ByteArray := prog_10_method_2_code
def yX8_size : MethodName := ⟨RX8, "size", "()I"⟩
abbrev cX8_wipe : ByteArray := prog_10_method_3_code
def yX8_wipe : MethodName := ⟨RX8, "wipe", "()V"⟩
abbrev cX8_append : ByteArray := prog_10_method_4_code
def yX8_append : MethodName := ⟨RX8, "append", "(JI)Z"⟩
abbrev cX8_kind : ByteArray := prog_10_method_5_code
def yX8_kind : MethodName := ⟨RX8, "kind", "()I"⟩
abbrev cX8_value : ByteArray := prog_10_method_6_code
def yX8_value : MethodName := ⟨RX8, "value", "()I"⟩
abbrev cX8_start : ByteArray := prog_10_method_7_code
def yX8_start : MethodName := ⟨RX8, "start", "()I"⟩
abbrev cX8_readFirst : ByteArray := prog_10_method_8_code
def yX8_readFirst : MethodName := ⟨RX8, "readFirst", "()V"⟩
abbrev cX8_readNext : ByteArray := prog_10_method_9_code
def yX8_readNext : MethodName := ⟨RX8, "readNext", "()V"⟩
abbrev cX8_skipBlanks : ByteArray := prog_10_method_10_code
def yX8_skipBlanks : MethodName := ⟨RX8, "skipBlanks", "()V"⟩
abbrev cX8_readWord : ByteArray := prog_10_method_11_code
def yX8_readWord : MethodName := ⟨RX8, "readWord", "()V"⟩
abbrev cX8_readNumber : ByteArray := prog_10_method_12_code
def yX8_readNumber : MethodName := ⟨RX8, "readNumber", "()V"⟩
abbrev cX8_byteAt : ByteArray := prog_10_method_13_code
def yX8_byteAt : MethodName := ⟨RX8, "byteAt", "(I)I"⟩
abbrev cX8_isWordSign : ByteArray := prog_10_method_14_code
def yX8_isWordSign : MethodName := ⟨RX8, "isWordSign", "(I)Z"⟩
abbrev cX8_isDigit : ByteArray := prog_10_method_15_code
def yX8_isDigit : MethodName := ⟨RX8, "isDigit", "(I)Z"⟩
def RX9 : String := "SharedSense$Trail"
def TX9 : u_T := fun k => match k with
  | _ => ("SharedSense$Trail", "sum", "J", false)
def tyX9 : Nat → FieldType := fun k => match k with
  | _ => .long
theorem nmX9 : ∀ a, a < 1 → ∀ b, b < 1 → a ≠ b → (TX9 a).2.1 ≠ (TX9 b).2.1 := by decide +kernel
theorem tyX9_ok : ∀ k, k < 1 → parseFieldDescriptor (TX9 k).2.2.1 = some (tyX9 k) := by decide +kernel
abbrev cX9_init : ByteArray := prog_11_method_1_code
def yX9_init : MethodName := ⟨RX9, "<init>", "()V"⟩
abbrev cX9_mark : ByteArray := prog_11_method_2_code
def yX9_mark : MethodName := ⟨RX9, "mark", "(I)V"⟩
abbrev cX9_sum : ByteArray := prog_11_method_3_code
def yX9_sum : MethodName := ⟨RX9, "sum", "()J"⟩
def RX10 : String := "SharedSense$WorldSet"
def TX10 : u_T := fun k => match k with
  | _ => ("SharedSense$WorldSet", "parts", "[J", true)
def tyX10 : Nat → FieldType := fun k => match k with
  | _ => .array .long
theorem nmX10 : ∀ a, a < 1 → ∀ b, b < 1 → a ≠ b → (TX10 a).2.1 ≠ (TX10 b).2.1 := by decide +kernel
theorem tyX10_ok : ∀ k, k < 1 → parseFieldDescriptor (TX10 k).2.2.1 = some (tyX10 k) := by decide +kernel
abbrev cX10_init : ByteArray := prog_12_method_1_code
def yX10_init : MethodName := ⟨RX10, "<init>", "()V"⟩
abbrev cX10_partWhereSo : ByteArray := prog_12_method_2_code
def yX10_partWhereSo : MethodName := ⟨RX10, "partWhereSo", "(II)J"⟩
abbrev cX10_has : ByteArray := prog_12_method_3_code
def yX10_has : MethodName := ⟨RX10, "has", "(I)Z"⟩
abbrev cX10_put : ByteArray := prog_12_method_4_code
def yX10_put : MethodName := ⟨RX10, "put", "(IZ)V"⟩
abbrev cX10_part : ByteArray := prog_12_method_5_code
def yX10_part : MethodName := ⟨RX10, "part", "(I)J"⟩
abbrev cX10_size : ByteArray := prog_12_method_6_code
def yX10_size : MethodName := ⟨RX10, "size", "()I"⟩
abbrev cX10_sizeWith : ByteArray := prog_12_method_7_code
def yX10_sizeWith : MethodName := ⟨RX10, "sizeWith", "(LSharedSense$WorldSet;)I"⟩
abbrev cX10_isWithin : ByteArray := prog_12_method_8_code
def yX10_isWithin : MethodName := ⟨RX10, "isWithin", "(LSharedSense$WorldSet;)Z"⟩
abbrev cX10_leastWorld : ByteArray := prog_12_method_9_code
def yX10_leastWorld : MethodName := ⟨RX10, "leastWorld", "()I"⟩
abbrev cX10_wipe : ByteArray := prog_12_method_10_code
def yX10_wipe : MethodName := ⟨RX10, "wipe", "()V"⟩
abbrev cX10_turn : ByteArray := prog_12_method_11_code
def yX10_turn : MethodName := ⟨RX10, "turn", "()V"⟩
abbrev cX10_fill : ByteArray := prog_12_method_12_code
def yX10_fill : MethodName := ⟨RX10, "fill", "()V"⟩
abbrev cX10_become : ByteArray := prog_12_method_13_code
def yX10_become : MethodName := ⟨RX10, "become", "(LSharedSense$WorldSet;)V"⟩
abbrev cX10_join : ByteArray := prog_12_method_14_code
def yX10_join : MethodName := ⟨RX10, "join", "(LSharedSense$WorldSet;)V"⟩
abbrev cX10_meet : ByteArray := prog_12_method_15_code
def yX10_meet : MethodName := ⟨RX10, "meet", "(LSharedSense$WorldSet;)V"⟩
abbrev cX10_joinWhere : ByteArray := prog_12_method_16_code
def yX10_joinWhere : MethodName := ⟨RX10, "joinWhere", "(IZ)V"⟩
abbrev cX10_choose : ByteArray := prog_12_method_17_code
def yX10_choose : MethodName := ⟨RX10, "choose", "(ILSharedSense$WorldSet;LSharedSense$WorldSet;)V"⟩
abbrev cX10_partTurned : ByteArray := prog_12_method_18_code
def yX10_partTurned : MethodName := ⟨RX10, "partTurned", "(II)J"⟩
abbrev cX10_spread : ByteArray := prog_12_method_19_code
def yX10_spread : MethodName := ⟨RX10, "spread", "(I)V"⟩
abbrev cX10_spreadBut : ByteArray := prog_12_method_20_code
def yX10_spreadBut : MethodName := ⟨RX10, "spreadBut", "(I)V"⟩
abbrev cX10_hangsOn : ByteArray := prog_12_method_21_code
def yX10_hangsOn : MethodName := ⟨RX10, "hangsOn", "(I)Z"⟩
abbrev cX10_lettersLookedAt : ByteArray := prog_12_method_22_code
def yX10_lettersLookedAt : MethodName := ⟨RX10, "lettersLookedAt", "()I"⟩
def RX11 : String := "SharedSense"
def TX11 : u_T := fun k => match k with
  | 0 => ("SharedSense", "text", "LSharedSense$Text;", true)
  | 1 => ("SharedSense", "reader", "LSharedSense$Reader;", true)
  | 2 => ("SharedSense", "lines", "[LSharedSense$Line;", true)
  | 3 => ("SharedSense", "sides", "LSharedSense$Sides;", true)
  | 4 => ("SharedSense", "core", "LSharedSense$Core;", true)
  | 5 => ("SharedSense", "told", "LSharedSense$WorldSet;", true)
  | 6 => ("SharedSense", "trail", "LSharedSense$Trail;", true)
  | 7 => ("SharedSense", "plainRule", "LSharedSense$Rule;", true)
  | 8 => ("SharedSense", "leftRule", "LSharedSense$Rule;", true)
  | 9 => ("SharedSense", "rightRule", "LSharedSense$Rule;", true)
  | 10 => ("SharedSense", "evenRule", "LSharedSense$Rule;", true)
  | 11 => ("SharedSense", "clauseCount", "I", false)
  | 12 => ("SharedSense", "lineCount", "I", false)
  | 13 => ("SharedSense", "stepCount", "I", false)
  | 14 => ("SharedSense", "wrongStep", "I", false)
  | _ => ("SharedSense", "endLine", "I", false)
def tyX11 : Nat → FieldType := fun k => match k with
  | 0 => .object "SharedSense$Text"
  | 1 => .object "SharedSense$Reader"
  | 2 => .array (.object "SharedSense$Line")
  | 3 => .object "SharedSense$Sides"
  | 4 => .object "SharedSense$Core"
  | 5 => .object "SharedSense$WorldSet"
  | 6 => .object "SharedSense$Trail"
  | 7 => .object "SharedSense$Rule"
  | 8 => .object "SharedSense$Rule"
  | 9 => .object "SharedSense$Rule"
  | 10 => .object "SharedSense$Rule"
  | 11 => .int
  | 12 => .int
  | 13 => .int
  | 14 => .int
  | _ => .int
theorem nmX11 : ∀ a, a < 16 → ∀ b, b < 16 → a ≠ b → (TX11 a).2.1 ≠ (TX11 b).2.1 := by decide +kernel
theorem tyX11_ok : ∀ k, k < 16 → parseFieldDescriptor (TX11 k).2.2.1 = some (tyX11 k) := by decide +kernel
abbrev cX11_init : ByteArray := prog_1_method_1_code
def yX11_init : MethodName := ⟨RX11, "<init>", "()V"⟩
abbrev cX11_type : ByteArray := prog_1_method_2_code
def yX11_type : MethodName := ⟨RX11, "type", "(JI)I"⟩
abbrev cX11_clear : ByteArray := prog_1_method_3_code
def yX11_clear : MethodName := ⟨RX11, "clear", "()I"⟩
abbrev cX11_clauses : ByteArray := prog_1_method_4_code
def yX11_clauses : MethodName := ⟨RX11, "clauses", "()I"⟩
abbrev cX11_proof : ByteArray := prog_1_method_5_code
def yX11_proof : MethodName := ⟨RX11, "proof", "()I"⟩
abbrev cX11_wrong : ByteArray := prog_1_method_6_code
def yX11_wrong : MethodName := ⟨RX11, "wrong", "()I"⟩
abbrev cX11_end : ByteArray := prog_1_method_7_code
def yX11_end : MethodName := ⟨RX11, "end", "()I"⟩
abbrev cX11_line : ByteArray := prog_1_method_8_code
def yX11_line : MethodName := ⟨RX11, "line", "(II)I"⟩
abbrev cX11_side : ByteArray := prog_1_method_9_code
def yX11_side : MethodName := ⟨RX11, "side", "(I)I"⟩
abbrev cX11_holds : ByteArray := prog_1_method_10_code
def yX11_holds : MethodName := ⟨RX11, "holds", "(II)I"⟩
abbrev cX11_worlds : ByteArray := prog_1_method_11_code
def yX11_worlds : MethodName := ⟨RX11, "worlds", "(I)I"⟩
abbrev cX11_says : ByteArray := prog_1_method_12_code
def yX11_says : MethodName := ⟨RX11, "says", "(III)I"⟩
abbrev cX11_saying : ByteArray := prog_1_method_13_code
def yX11_saying : MethodName := ⟨RX11, "saying", "(II)J"⟩
abbrev cX11_between : ByteArray := prog_1_method_14_code
def yX11_between : MethodName := ⟨RX11, "between", "(I)I"⟩
abbrev cX11_looks : ByteArray := prog_1_method_15_code
def yX11_looks : MethodName := ⟨RX11, "looks", "(I)I"⟩
abbrev cX11_compare : ByteArray := prog_1_method_16_code
def yX11_compare : MethodName := ⟨RX11, "compare", "(II)I"⟩
abbrev cX11_bounds : ByteArray := prog_1_method_17_code
def yX11_bounds : MethodName := ⟨RX11, "bounds", "(I)I"⟩
abbrev cX11_fewest : ByteArray := prog_1_method_18_code
def yX11_fewest : MethodName := ⟨RX11, "fewest", "(I)I"⟩
abbrev cX11_tell : ByteArray := prog_1_method_19_code
def yX11_tell : MethodName := ⟨RX11, "tell", "(II)I"⟩
abbrev cX11_copy : ByteArray := prog_1_method_20_code
def yX11_copy : MethodName := ⟨RX11, "copy", "(III)I"⟩
abbrev cX11_check : ByteArray := prog_1_method_21_code
def yX11_check : MethodName := ⟨RX11, "check", "()I"⟩
abbrev cX11_used : ByteArray := prog_1_method_22_code
def yX11_used : MethodName := ⟨RX11, "used", "()I"⟩
abbrev cX11_needed : ByteArray := prog_1_method_23_code
def yX11_needed : MethodName := ⟨RX11, "needed", "(I)I"⟩
abbrev cX11_labour : ByteArray := prog_1_method_24_code
def yX11_labour : MethodName := ⟨RX11, "labour", "(II)I"⟩
abbrev cX11_count : ByteArray := prog_1_method_25_code
def yX11_count : MethodName := ⟨RX11, "count", "(I)I"⟩
abbrev cX11_trace : ByteArray := prog_1_method_26_code
def yX11_trace : MethodName := ⟨RX11, "trace", "()J"⟩
abbrev cX11_isWorld : ByteArray := prog_1_method_27_code
def yX11_isWorld : MethodName := ⟨RX11, "isWorld", "(I)Z"⟩
abbrev cX11_isWay : ByteArray := prog_1_method_28_code
def yX11_isWay : MethodName := ⟨RX11, "isWay", "(I)Z"⟩
abbrev cX11_sizeOrSet : ByteArray := prog_1_method_29_code
def yX11_sizeOrSet : MethodName := ⟨RX11, "sizeOrSet", "(II)I"⟩
abbrev cX11_lineAt : ByteArray := prog_1_method_30_code
def yX11_lineAt : MethodName := ⟨RX11, "lineAt", "(I)LSharedSense$Line;"⟩
abbrev cX11_setOf : ByteArray := prog_1_method_31_code
def yX11_setOf : MethodName := ⟨RX11, "setOf", "(I)LSharedSense$WorldSet;"⟩
abbrev cX11_ruleOf : ByteArray := prog_1_method_32_code
def yX11_ruleOf : MethodName := ⟨RX11, "ruleOf", "(I)LSharedSense$Rule;"⟩
abbrev cX11_takeClauses : ByteArray := prog_1_method_33_code
def yX11_takeClauses : MethodName := ⟨RX11, "takeClauses", "()V"⟩
abbrev cX11_forgetProof : ByteArray := prog_1_method_34_code
def yX11_forgetProof : MethodName := ⟨RX11, "forgetProof", "()V"⟩
abbrev cX11_takeSteps : ByteArray := prog_1_method_35_code
def yX11_takeSteps : MethodName := ⟨RX11, "takeSteps", "()V"⟩
abbrev cX11_makeLine : ByteArray := prog_1_method_36_code
def yX11_makeLine : MethodName := ⟨RX11, "makeLine", "(I)Z"⟩
abbrev cX11_firstEmptyLine : ByteArray := prog_1_method_37_code
def yX11_firstEmptyLine : MethodName := ⟨RX11, "firstEmptyLine", "()I"⟩
abbrev cX11_clausesUnder : ByteArray := prog_1_method_38_code
def yX11_clausesUnder : MethodName := ⟨RX11, "clausesUnder", "(I)I"⟩
abbrev cX11_bitOf : ByteArray := prog_1_method_39_code
def yX11_bitOf : MethodName := ⟨RX11, "bitOf", "(I)J"⟩
def RX12 : String := "SharedSenseModel"
def TX12 : u_T := fun k => match k with
  | 0 => ("SharedSenseModel", "thrown", "I", false)
  | 1 => ("SharedSenseModel", "trace", "J", false)
  | 2 => ("SharedSenseModel", "text", "[I", true)
  | 3 => ("SharedSenseModel", "typed", "I", false)
  | 4 => ("SharedSenseModel", "next", "I", false)
  | 5 => ("SharedSenseModel", "token", "I", false)
  | 6 => ("SharedSenseModel", "place", "I", false)
  | 7 => ("SharedSenseModel", "value", "I", false)
  | 8 => ("SharedSenseModel", "fault", "I", false)
  | 9 => ("SharedSenseModel", "clauses", "I", false)
  | 10 => ("SharedSenseModel", "made", "I", false)
  | 11 => ("SharedSenseModel", "steps", "I", false)
  | 12 => ("SharedSenseModel", "wrongStep", "I", false)
  | 13 => ("SharedSenseModel", "line", "[I", true)
  | 14 => ("SharedSenseModel", "draft", "[I", true)
  | 15 => ("SharedSenseModel", "step", "[I", true)
  | 16 => ("SharedSenseModel", "held", "[J", true)
  | 17 => ("SharedSenseModel", "said", "[J", true)
  | 18 => ("SharedSenseModel", "one", "[J", true)
  | 19 => ("SharedSenseModel", "two", "[J", true)
  | 20 => ("SharedSenseModel", "strong", "[J", true)
  | 21 => ("SharedSenseModel", "weak", "[J", true)
  | 22 => ("SharedSenseModel", "told", "[J", true)
  | 23 => ("SharedSenseModel", "spare", "[J", true)
  | _ => ("SharedSenseModel", "other", "[J", true)
def tyX12 : Nat → FieldType := fun k => match k with
  | 0 => .int
  | 1 => .long
  | 2 => .array .int
  | 3 => .int
  | 4 => .int
  | 5 => .int
  | 6 => .int
  | 7 => .int
  | 8 => .int
  | 9 => .int
  | 10 => .int
  | 11 => .int
  | 12 => .int
  | 13 => .array .int
  | 14 => .array .int
  | 15 => .array .int
  | 16 => .array .long
  | 17 => .array .long
  | 18 => .array .long
  | 19 => .array .long
  | 20 => .array .long
  | 21 => .array .long
  | 22 => .array .long
  | 23 => .array .long
  | _ => .array .long
theorem nmX12 : ∀ a, a < 25 → ∀ b, b < 25 → a ≠ b → (TX12 a).2.1 ≠ (TX12 b).2.1 := by decide +kernel
theorem tyX12_ok : ∀ k, k < 25 → parseFieldDescriptor (TX12 k).2.2.1 = some (tyX12 k) := by decide +kernel
abbrev cX12_init : ByteArray := prog_14_method_1_code
def yX12_init : MethodName := ⟨RX12, "<init>", "()V"⟩
abbrev cX12_in : ByteArray := prog_14_method_3_code
def yX12_in : MethodName := ⟨RX12, "in", "(III)Z"⟩
abbrev cX12_ones : ByteArray := prog_14_method_4_code
def yX12_ones : MethodName := ⟨RX12, "ones", "(I)I"⟩
abbrev cX12_has : ByteArray := prog_14_method_5_code
def yX12_has : MethodName := ⟨RX12, "has", "([JII)Z"⟩
abbrev cX12_type : ByteArray := prog_14_method_6_code
def yX12_type : MethodName := ⟨RX12, "type", "(JI)I"⟩
abbrev cX12_clear : ByteArray := prog_14_method_7_code
def yX12_clear : MethodName := ⟨RX12, "clear", "()I"⟩
abbrev cX12_byteAt : ByteArray := prog_14_method_8_code
def yX12_byteAt : MethodName := ⟨RX12, "byteAt", "(I)I"⟩
abbrev cX12_word : ByteArray := prog_14_method_9_code
def yX12_word : MethodName := ⟨RX12, "word", "(I)V"⟩
abbrev cX12_advances : ByteArray := prog_14_method_10_code
def yX12_advances : MethodName := ⟨RX12, "advances", "()V"⟩
abbrev cX12_isWell : ByteArray := prog_14_method_11_code
def yX12_isWell : MethodName := ⟨RX12, "isWell", "()Z"⟩
abbrev cX12_wants : ByteArray := prog_14_method_12_code
def yX12_wants : MethodName := ⟨RX12, "wants", "(Z)V"⟩
abbrev cX12_goesOn : ByteArray := prog_14_method_13_code
def yX12_goesOn : MethodName := ⟨RX12, "goesOn", "()V"⟩
abbrev cX12_begins : ByteArray := prog_14_method_14_code
def yX12_begins : MethodName := ⟨RX12, "begins", "()V"⟩
abbrev cX12_readsClause : ByteArray := prog_14_method_15_code
def yX12_readsClause : MethodName := ⟨RX12, "readsClause", "(I)V"⟩
abbrev cX12_clauses : ByteArray := prog_14_method_16_code
def yX12_clauses : MethodName := ⟨RX12, "clauses", "()I"⟩
abbrev cX12_isSo : ByteArray := prog_14_method_17_code
def yX12_isSo : MethodName := ⟨RX12, "isSo", "(III)Z"⟩
abbrev cX12_holding : ByteArray := prog_14_method_18_code
def yX12_holding : MethodName := ⟨RX12, "holding", "(I)V"⟩
abbrev cX12_lettersOf : ByteArray := prog_14_method_19_code
def yX12_lettersOf : MethodName := ⟨RX12, "lettersOf", "(I)I"⟩
abbrev cX12_shared : ByteArray := prog_14_method_20_code
def yX12_shared : MethodName := ⟨RX12, "shared", "()I"⟩
abbrev cX12_beginning : ByteArray := prog_14_method_21_code
def yX12_beginning : MethodName := ⟨RX12, "beginning", "(I)V"⟩
abbrev cX12_bounds : ByteArray := prog_14_method_22_code
def yX12_bounds : MethodName := ⟨RX12, "bounds", "()V"⟩
abbrev cX12_spreads : ByteArray := prog_14_method_23_code
def yX12_spreads : MethodName := ⟨RX12, "spreads", "([J[JI)V"⟩
abbrev cX12_readsStep : ByteArray := prog_14_method_24_code
def yX12_readsStep : MethodName := ⟨RX12, "readsStep", "(I)V"⟩
abbrev cX12_makes : ByteArray := prog_14_method_25_code
def yX12_makes : MethodName := ⟨RX12, "makes", "(I)Z"⟩
abbrev cX12_proof : ByteArray := prog_14_method_26_code
def yX12_proof : MethodName := ⟨RX12, "proof", "()I"⟩
abbrev cX12_wrong : ByteArray := prog_14_method_27_code
def yX12_wrong : MethodName := ⟨RX12, "wrong", "()I"⟩
abbrev cX12_ending : ByteArray := prog_14_method_28_code
def yX12_ending : MethodName := ⟨RX12, "ending", "()I"⟩
abbrev cX12_end : ByteArray := prog_14_method_29_code
def yX12_end : MethodName := ⟨RX12, "end", "()I"⟩
abbrev cX12_isLine : ByteArray := prog_14_method_30_code
def yX12_isLine : MethodName := ⟨RX12, "isLine", "(I)Z"⟩
abbrev cX12_line : ByteArray := prog_14_method_31_code
def yX12_line : MethodName := ⟨RX12, "line", "(II)I"⟩
abbrev cX12_side : ByteArray := prog_14_method_32_code
def yX12_side : MethodName := ⟨RX12, "side", "(I)I"⟩
abbrev cX12_holds : ByteArray := prog_14_method_33_code
def yX12_holds : MethodName := ⟨RX12, "holds", "(II)I"⟩
abbrev cX12_many : ByteArray := prog_14_method_34_code
def yX12_many : MethodName := ⟨RX12, "many", "([J)I"⟩
abbrev cX12_worlds : ByteArray := prog_14_method_35_code
def yX12_worlds : MethodName := ⟨RX12, "worlds", "(I)I"⟩
abbrev cX12_isWay : ByteArray := prog_14_method_36_code
def yX12_isWay : MethodName := ⟨RX12, "isWay", "(I)Z"⟩
abbrev cX12_says : ByteArray := prog_14_method_37_code
def yX12_says : MethodName := ⟨RX12, "says", "(III)I"⟩
abbrev cX12_saying : ByteArray := prog_14_method_38_code
def yX12_saying : MethodName := ⟨RX12, "saying", "(II)J"⟩
abbrev cX12_takes : ByteArray := prog_14_method_39_code
def yX12_takes : MethodName := ⟨RX12, "takes", "(I[J)Z"⟩
abbrev cX12_looksOf : ByteArray := prog_14_method_40_code
def yX12_looksOf : MethodName := ⟨RX12, "looksOf", "([J)I"⟩
abbrev cX12_checks : ByteArray := prog_14_method_41_code
def yX12_checks : MethodName := ⟨RX12, "checks", "([J)I"⟩
abbrev cX12_between : ByteArray := prog_14_method_42_code
def yX12_between : MethodName := ⟨RX12, "between", "(I)I"⟩
abbrev cX12_looks : ByteArray := prog_14_method_43_code
def yX12_looks : MethodName := ⟨RX12, "looks", "(I)I"⟩
abbrev cX12_compare : ByteArray := prog_14_method_44_code
def yX12_compare : MethodName := ⟨RX12, "compare", "(II)I"⟩
abbrev cX12_bounds_ : ByteArray := prog_14_method_45_code
def yX12_bounds_ : MethodName := ⟨RX12, "bounds", "(I)I"⟩
abbrev cX12_fewest : ByteArray := prog_14_method_46_code
def yX12_fewest : MethodName := ⟨RX12, "fewest", "(I)I"⟩
abbrev cX12_tell : ByteArray := prog_14_method_47_code
def yX12_tell : MethodName := ⟨RX12, "tell", "(II)I"⟩
abbrev cX12_copy : ByteArray := prog_14_method_48_code
def yX12_copy : MethodName := ⟨RX12, "copy", "(III)I"⟩
abbrev cX12_check : ByteArray := prog_14_method_49_code
def yX12_check : MethodName := ⟨RX12, "check", "()I"⟩
abbrev cX12_used : ByteArray := prog_14_method_50_code
def yX12_used : MethodName := ⟨RX12, "used", "()I"⟩
abbrev cX12_clash : ByteArray := prog_14_method_51_code
def yX12_clash : MethodName := ⟨RX12, "clash", "(I)Z"⟩
abbrev cX12_needed : ByteArray := prog_14_method_52_code
def yX12_needed : MethodName := ⟨RX12, "needed", "(I)I"⟩
abbrev cX12_labour : ByteArray := prog_14_method_53_code
def yX12_labour : MethodName := ⟨RX12, "labour", "(II)I"⟩
abbrev cX12_count : ByteArray := prog_14_method_54_code
def yX12_count : MethodName := ⟨RX12, "count", "(I)I"⟩
abbrev cX12_trace : ByteArray := prog_14_method_55_code
def yX12_trace : MethodName := ⟨RX12, "trace", "()J"⟩
def RJ6 : String := "java/lang/Integer"
def TJ6 : u_T := fun k => match k with
  | _ => ("", "", "", false)
def tyJ6 : Nat → FieldType := fun k => match k with
  | _ => .int
theorem nmJ6 : ∀ a, a < 0 → ∀ b, b < 0 → a ≠ b → (TJ6 a).2.1 ≠ (TJ6 b).2.1 := by decide +kernel
theorem tyJ6_ok : ∀ k, k < 0 → parseFieldDescriptor (TJ6 k).2.2.1 = some (tyJ6 k) := by decide +kernel
abbrev cJ6_bitCount_0f7a4 : ByteArray := prog_15_method_49_code
def yJ6_bitCount_0f7a4 : MethodName := ⟨RJ6, "bitCount", "(I)I"⟩
def RJ13 : String := "java/lang/Long"
def TJ13 : u_T := fun k => match k with
  | _ => ("", "", "", false)
def tyJ13 : Nat → FieldType := fun k => match k with
  | _ => .int
theorem nmJ13 : ∀ a, a < 0 → ∀ b, b < 0 → a ≠ b → (TJ13 a).2.1 ≠ (TJ13 b).2.1 := by decide +kernel
theorem tyJ13_ok : ∀ k, k < 0 → parseFieldDescriptor (TJ13 k).2.2.1 = some (tyJ13 k) := by decide +kernel
abbrev cJ13_bitCount_95d88 : ByteArray := prog_16_method_50_code
def yJ13_bitCount_95d88 : MethodName := ⟨RJ13, "bitCount", "(J)I"⟩
def RJ9 : String := "java/lang/Math"
def TJ9 : u_T := fun k => match k with
  | _ => ("", "", "", false)
def tyJ9 : Nat → FieldType := fun k => match k with
  | _ => .int
theorem nmJ9 : ∀ a, a < 0 → ∀ b, b < 0 → a ≠ b → (TJ9 a).2.1 ≠ (TJ9 b).2.1 := by decide +kernel
theorem tyJ9_ok : ∀ k, k < 0 → parseFieldDescriptor (TJ9 k).2.2.1 = some (tyJ9 k) := by decide +kernel
abbrev cJ9_min_7cf53 : ByteArray := prog_17_method_69_code
def yJ9_min_7cf53 : MethodName := ⟨RJ9, "min", "(II)I"⟩
abbrev dp_cl : List vw_C := [(RX0, TX0, 6), (RX1, TX1, 0), (RX2, TX2, 0), (RX3, TX3, 7), (RX4, TX4, 10), (RX5, TX5, 0), (RX6, TX6, 0), (RX7, TX7, 9), (RX8, TX8, 6), (RX9, TX9, 1), (RX10, TX10, 1), (RX11, TX11, 16), (RX12, TX12, 25)]
def dp_ty : Nat → Nat → FieldType := fun ci => match ci with
  | 0 => tyX0
  | 1 => tyX1
  | 2 => tyX2
  | 3 => tyX3
  | 4 => tyX4
  | 5 => tyX5
  | 6 => tyX6
  | 7 => tyX7
  | 8 => tyX8
  | 9 => tyX9
  | 10 => tyX10
  | 11 => tyX11
  | _ => tyX12
theorem dp_in_X0 : ∀ w ∈ u_ws RX0 TX0 6, w ∈ lw_tbl := by decide +kernel
theorem dp_in_X1 : ∀ w ∈ u_ws RX1 TX1 0, w ∈ lw_tbl := by decide +kernel
theorem dp_in_X2 : ∀ w ∈ u_ws RX2 TX2 0, w ∈ lw_tbl := by decide +kernel
theorem dp_in_X3 : ∀ w ∈ u_ws RX3 TX3 7, w ∈ lw_tbl := by decide +kernel
theorem dp_in_X4 : ∀ w ∈ u_ws RX4 TX4 10, w ∈ lw_tbl := by decide +kernel
theorem dp_in_X5 : ∀ w ∈ u_ws RX5 TX5 0, w ∈ lw_tbl := by decide +kernel
theorem dp_in_X6 : ∀ w ∈ u_ws RX6 TX6 0, w ∈ lw_tbl := by decide +kernel
theorem dp_in_X7 : ∀ w ∈ u_ws RX7 TX7 9, w ∈ lw_tbl := by decide +kernel
theorem dp_in_X8 : ∀ w ∈ u_ws RX8 TX8 6, w ∈ lw_tbl := by decide +kernel
theorem dp_in_X9 : ∀ w ∈ u_ws RX9 TX9 1, w ∈ lw_tbl := by decide +kernel
theorem dp_in_X10 : ∀ w ∈ u_ws RX10 TX10 1, w ∈ lw_tbl := by decide +kernel
theorem dp_in_X11 : ∀ w ∈ u_ws RX11 TX11 16, w ∈ lw_tbl := by decide +kernel
theorem dp_in_X12 : ∀ w ∈ u_ws RX12 TX12 25, w ∈ lw_tbl := by decide +kernel
theorem dp_in : ∀ (ci : Nat) (q : vw_C), dp_cl[ci]? = some q → ∀ w ∈ u_ws q.1 q.2.1 q.2.2, w ∈ lw_tbl := by
  intro ci q h
  match ci, h with
  | 0, h => cases h; exact dp_in_X0
  | 1, h => cases h; exact dp_in_X1
  | 2, h => cases h; exact dp_in_X2
  | 3, h => cases h; exact dp_in_X3
  | 4, h => cases h; exact dp_in_X4
  | 5, h => cases h; exact dp_in_X5
  | 6, h => cases h; exact dp_in_X6
  | 7, h => cases h; exact dp_in_X7
  | 8, h => cases h; exact dp_in_X8
  | 9, h => cases h; exact dp_in_X9
  | 10, h => cases h; exact dp_in_X10
  | 11, h => cases h; exact dp_in_X11
  | 12, h => cases h; exact dp_in_X12
  | k + 13, h => simp [dp_cl] at h
theorem dp_nm : ∀ (ci : Nat) (q : vw_C), dp_cl[ci]? = some q → ∀ a, a < q.2.2 → ∀ b, b < q.2.2 → a ≠ b → (q.2.1 a).2.1 ≠ (q.2.1 b).2.1 := by
  intro ci q h
  match ci, h with
  | 0, h => cases h; exact nmX0
  | 1, h => cases h; exact nmX1
  | 2, h => cases h; exact nmX2
  | 3, h => cases h; exact nmX3
  | 4, h => cases h; exact nmX4
  | 5, h => cases h; exact nmX5
  | 6, h => cases h; exact nmX6
  | 7, h => cases h; exact nmX7
  | 8, h => cases h; exact nmX8
  | 9, h => cases h; exact nmX9
  | 10, h => cases h; exact nmX10
  | 11, h => cases h; exact nmX11
  | 12, h => cases h; exact nmX12
  | k + 13, h => simp [dp_cl] at h
theorem dp_ty_ok : ∀ (ci : Nat) (q : vw_C), dp_cl[ci]? = some q → ∀ k, k < q.2.2 → parseFieldDescriptor (q.2.1 k).2.2.1 = some (dp_ty ci k) := by
  intro ci q h
  match ci, h with
  | 0, h => cases h; exact tyX0_ok
  | 1, h => cases h; exact tyX1_ok
  | 2, h => cases h; exact tyX2_ok
  | 3, h => cases h; exact tyX3_ok
  | 4, h => cases h; exact tyX4_ok
  | 5, h => cases h; exact tyX5_ok
  | 6, h => cases h; exact tyX6_ok
  | 7, h => cases h; exact tyX7_ok
  | 8, h => cases h; exact tyX8_ok
  | 9, h => cases h; exact tyX9_ok
  | 10, h => cases h; exact tyX10_ok
  | 11, h => cases h; exact tyX11_ok
  | 12, h => cases h; exact tyX12_ok
  | k + 13, h => simp [dp_cl] at h
end
section
abbrev ev_M : Type := MethodName × ByteArray × Nat × Option FieldType
abbrev ev_H : Type := Nat → va_E
abbrev ev_L : Type := List (Option Value)
abbrev ev_Q : Type := Nat → ev_H → List Value → Prop
abbrev ev_X : Type := Nat → Nat → Nat → ev_M → Nat → ev_H → Nat → ev_L → List Value → ev_Q → Prop
/-- locals: a store of one word, of two -/
def ev_kl (ls : ev_L) (i : Nat) : ev_L := match i with
  | 0 => ls
  | j + 1 => match ls[j]? with
    | some (some (.long _)) => ls.set j none
    | some (some (.double _)) => ls.set j none
    | _ => ls
def ev_s1 (ls : ev_L) (i : Nat) (v : Value) : ev_L := (ev_kl ls i).set i (some v)
def ev_s2 (ls : ev_L) (i : Nat) (v : Value) : ev_L := ((ev_kl ls i).set (i + 1) none).set i (some v)
def ev_2i (f : Int32 → Int32 → Value) (st : List Value) : Option (List Value) := match st with
  | .int y :: .int x :: r => some (f x y :: r)
  | _ => none
def ev_2l (f : Int64 → Int64 → Value) (st : List Value) : Option (List Value) := match st with
  | .long y :: .long x :: r => some (f x y :: r)
  | _ => none
def ev_li (f : Int64 → Int32 → Value) (st : List Value) : Option (List Value) := match st with
  | .int y :: .long x :: r => some (f x y :: r)
  | _ => none
def ev_1i (f : Int32 → Value) (st : List Value) : Option (List Value) := match st with
  | .int x :: r => some (f x :: r)
  | _ => none
def ev_1l (f : Int64 → Value) (st : List Value) : Option (List Value) := match st with
  | .long x :: r => some (f x :: r)
  | _ => none
def ev_ldi (ls : ev_L) (k : Nat) : Option Value := match ls[k]? with
  | some (some (.int x)) => some (.int x)
  | _ => none
def ev_ldl (ls : ev_L) (k : Nat) : Option Value := match ls[k]? with
  | some (some (.long x)) => some (.long x)
  | _ => none
def ev_lda (ls : ev_L) (k : Nat) : Option Value := match ls[k]? with
  | some (some (.ref x)) => some (.ref x)
  | some (some .null) => some .null
  | _ => none
def ev_sti (ls : ev_L) (k : Nat) (st : List Value) : Option (ev_L × List Value) := match st with
  | .int x :: r => if k < ls.length then some (ev_s1 ls k (.int x), r) else none
  | _ => none
def ev_stl (ls : ev_L) (k : Nat) (st : List Value) : Option (ev_L × List Value) := match st with
  | .long x :: r => if k + 1 < ls.length then some (ev_s2 ls k (.long x), r) else none
  | _ => none
def ev_sta (ls : ev_L) (k : Nat) (st : List Value) : Option (ev_L × List Value) := match st with
  | .ref x :: r => if k < ls.length then some (ev_s1 ls k (.ref x), r) else none
  | .null :: r => if k < ls.length then some (ev_s1 ls k .null, r) else none
  | _ => none
def ev_inc (ls : ev_L) (k : Nat) (n : Int) : Option ev_L := match ls[k]? with
  | some (some (.int x)) => if k < ls.length then some (ev_s1 ls k (.int (x + Int32.ofInt n))) else none
  | _ => none
def ev_dup (st : List Value) : Option (List Value) := match st with
  | v :: r => if v.category = 1 then some (v :: v :: r) else none
  | _ => none
def ev_pop (st : List Value) : Option (List Value) := match st with
  | v :: r => if v.category = 1 then some r else none
  | _ => none
def ev_dup2 (st : List Value) : Option (List Value) := match st with
  | v :: r => if v.category = 2 then some (v :: v :: r) else match r with
    | w :: r => if w.category = 2 then none else some (v :: w :: v :: w :: r)
    | _ => none
  | _ => none
def ev_pop2 (st : List Value) : Option (List Value) := match st with
  | v :: r => if v.category = 2 then some r else none
  | _ => none
def ev_div (st : List Value) : Option (List Value) := match st with
  | .int y :: .int x :: r => if y = 0 then none else some (.int (x / y) :: r)
  | _ => none
def ev_to (pc : Nat) (off : Int) : Option Nat := if 0 ≤ (pc : Int) + off then some ((pc : Int) + off).toNat else none
/-- the length of an instruction -/
def ev_ln (i : Instr) : Nat := match i with
  | .bipush _ => 2
  | .sipush _ => 3
  | .iload _ => 2
  | .lload _ => 2
  | .aload _ => 2
  | .istore _ => 2
  | .lstore _ => 2
  | .astore _ => 2
  | .iinc _ _ => 3
  | .goto _ => 3
  | _ => 1
/-- instructions that touch no cell -/
def ev_pu (i : Instr) (pc : Nat) (ls : ev_L) (st : List Value) : Option (Nat × ev_L × List Value) := match i with
  | .iconst k => some (pc + 1, ls, .int (Int32.ofInt k) :: st)
  | .bipush k => some (pc + 2, ls, .int (Int8.ofInt k).toInt32 :: st)
  | .sipush k => some (pc + 3, ls, .int (Int16.ofInt k).toInt32 :: st)
  | .lconst k => some (pc + 1, ls, .long (Int64.ofNat (k : Nat)) :: st)
  | .aconst_null => some (pc + 1, ls, .null :: st)
  | .iload_n k => (ev_ldi ls (k : Nat)).map (fun v => (pc + 1, ls, v :: st))
  | .iload k => (ev_ldi ls k).map (fun v => (pc + 2, ls, v :: st))
  | .lload_n k => (ev_ldl ls (k : Nat)).map (fun v => (pc + 1, ls, v :: st))
  | .lload k => (ev_ldl ls k).map (fun v => (pc + 2, ls, v :: st))
  | .aload_n k => (ev_lda ls (k : Nat)).map (fun v => (pc + 1, ls, v :: st))
  | .aload k => (ev_lda ls k).map (fun v => (pc + 2, ls, v :: st))
  | .istore_n k => (ev_sti ls (k : Nat) st).map (fun q => (pc + 1, q.1, q.2))
  | .istore k => (ev_sti ls k st).map (fun q => (pc + 2, q.1, q.2))
  | .lstore_n k => (ev_stl ls (k : Nat) st).map (fun q => (pc + 1, q.1, q.2))
  | .lstore k => (ev_stl ls k st).map (fun q => (pc + 2, q.1, q.2))
  | .astore_n k => (ev_sta ls (k : Nat) st).map (fun q => (pc + 1, q.1, q.2))
  | .astore k => (ev_sta ls k st).map (fun q => (pc + 2, q.1, q.2))
  | .iinc k n => (ev_inc ls k n).map (fun q => (pc + 3, q, st))
  | .iadd => (ev_2i (fun x y => .int (x + y)) st).map (fun q => (pc + 1, ls, q))
  | .isub => (ev_2i (fun x y => .int (x - y)) st).map (fun q => (pc + 1, ls, q))
  | .imul => (ev_2i (fun x y => .int (x * y)) st).map (fun q => (pc + 1, ls, q))
  | .iand => (ev_2i (fun x y => .int (x &&& y)) st).map (fun q => (pc + 1, ls, q))
  | .ior => (ev_2i (fun x y => .int (x ||| y)) st).map (fun q => (pc + 1, ls, q))
  | .ixor => (ev_2i (fun x y => .int (x ^^^ y)) st).map (fun q => (pc + 1, ls, q))
  | .ishl => (ev_2i (fun x y => .int (x <<< (y &&& 31))) st).map (fun q => (pc + 1, ls, q))
  | .ishr => (ev_2i (fun x y => .int (x >>> (y &&& 31))) st).map (fun q => (pc + 1, ls, q))
  | .iushr => (ev_2i (fun x y => .int (x.toUInt32 >>> (y.toUInt32 &&& Int32.toUInt32 31)).toInt32) st).map (fun q => (pc + 1, ls, q))
  | .idiv => (ev_div st).map (fun q => (pc + 1, ls, q))
  | .ladd => (ev_2l (fun x y => .long (x + y)) st).map (fun q => (pc + 1, ls, q))
  | .lsub => (ev_2l (fun x y => .long (x - y)) st).map (fun q => (pc + 1, ls, q))
  | .land => (ev_2l (fun x y => .long (x &&& y)) st).map (fun q => (pc + 1, ls, q))
  | .lor => (ev_2l (fun x y => .long (x ||| y)) st).map (fun q => (pc + 1, ls, q))
  | .lxor => (ev_2l (fun x y => .long (x ^^^ y)) st).map (fun q => (pc + 1, ls, q))
  | .lcmp => (ev_2l (fun x y => .int (lg_cmp x y)) st).map (fun q => (pc + 1, ls, q))
  | .lneg => (ev_1l (fun x => .long (-x)) st).map (fun q => (pc + 1, ls, q))
  | .lshl => (ev_li (fun x y => .long (x <<< (y.toInt64 &&& 63))) st).map (fun q => (pc + 1, ls, q))
  | .lshr => (ev_li (fun x y => .long (x >>> (y.toInt64 &&& 63))) st).map (fun q => (pc + 1, ls, q))
  | .lushr => (ev_li (fun x y => .long (x.toUInt64 >>> (y.toInt64.toUInt64 &&& Int64.toUInt64 63)).toInt64) st).map (fun q => (pc + 1, ls, q))
  | .i2l => (ev_1i (fun x => .long x.toInt64) st).map (fun q => (pc + 1, ls, q))
  | .i2b => (ev_1i (fun x => .int x.toInt8.toInt32) st).map (fun q => (pc + 1, ls, q))
  | .l2i => (ev_1l (fun x => .int x.toInt32) st).map (fun q => (pc + 1, ls, q))
  | .dup => (ev_dup st).map (fun q => (pc + 1, ls, q))
  | .pop => (ev_pop st).map (fun q => (pc + 1, ls, q))
  | .dup2 => (ev_dup2 st).map (fun q => (pc + 1, ls, q))
  | .pop2 => (ev_pop2 st).map (fun q => (pc + 1, ls, q))
  | .goto off => (ev_to pc off).map (fun q => (q, ls, st))
  | _ => none
/-- a fork: what it asks, what is left of the stack, how far it goes -/
def ev_br (i : Instr) (st : List Value) : Option (Prop × Prop × List Value × Int) := match i with
  | .ifCond cd off => match st with
    | .int x :: r => match cd with
      | .eq => some (x = 0, ¬ x = 0, r, off)
      | .ne => some (¬ x = 0, x = 0, r, off)
      | .lt => some (x < 0, ¬ x < 0, r, off)
      | .ge => some (0 ≤ x, ¬ 0 ≤ x, r, off)
      | .gt => some (0 < x, ¬ 0 < x, r, off)
      | .le => some (x ≤ 0, ¬ x ≤ 0, r, off)
    | _ => none
  | .if_icmp cd off => match st with
    | .int y :: .int x :: r => match cd with
      | .eq => some (x = y, ¬ x = y, r, off)
      | .ne => some (¬ x = y, x = y, r, off)
      | .lt => some (x < y, ¬ x < y, r, off)
      | .ge => some (y ≤ x, ¬ y ≤ x, r, off)
      | .gt => some (y < x, ¬ y < x, r, off)
      | .le => some (x ≤ y, ¬ x ≤ y, r, off)
    | _ => none
  | .ifnull off => match st with
    | .ref _ :: r => some (False, True, r, off)
    | .null :: r => some (True, False, r, off)
    | _ => none
  | .ifnonnull off => match st with
    | .ref _ :: r => some (True, False, r, off)
    | .null :: r => some (False, True, r, off)
    | _ => none
  | _ => none
end
section
def dp_tb : List Cond := lw_tbl.filter goodWord
def dp_isN (w : Cond) : Bool := match w with
  | .arrayOver (.object _) => true
  | .methodLinkNest _ _ _ _ => true
  | .fieldLinkNest _ _ _ _ _ _ => true
  | _ => false
def dp_nb : List Cond := lw_tbl.filter dp_isN
theorem dp_tbGood : ∀ w ∈ dp_tb, (w.onTables && w.keeps) = true ∨ ∃ ty, w = .arrayClass ty := fun _ h => good_of_word (List.mem_filter.mp h).2
theorem dp_warm {w : Cond} (hw : dp_isN w = true) {s U : State} (hW : s.WarmedH U.vm) (h : va_Nw w s) : va_Nw w U := by
  unfold dp_isN at hw
  split at hw
  · exact va_AO.moved hW.alike h
  · exact va_Nw.warmM hW h
  · exact va_Nw.warmF hW h
  · cases hw
theorem dp_vm {w : Cond} (hw : dp_isN w = true) {s U : State} (hv : s.vm = U.vm) (h : va_Nw w s) : va_Nw w U := by
  unfold dp_isN at hw
  split at hw
  · exact va_AO.moved (by rw [hv]; exact Vm.Alike.refl _) h
  · exact va_Nw.same rfl hv h
  · exact va_Nw.same rfl hv h
  · cases hw
def ev_am (b a0 a1 : Nat) (k : Nat) : Nat := match k with
  | 0 => a0
  | 1 => a1
  | k + 2 => b + k
def ev_v (am : Nat → Nat) (v : Value) : Value := match v with
  | .ref a => .ref (am a)
  | v => v
def ev_e (am : Nat → Nat) (dA : Nat → ClassId) (e : va_E) : va_E := match e with
  | .inl (t, n, .inr (.inr (.inr (.inr f)))) => .inl (dA t, n, .inr (.inr (.inr (.inr (fun j => (f j).map am)))))
  | .inl (t, n, .inl f) => .inl (dA t, n, .inl f)
  | .inl (t, n, .inr (.inl f)) => .inl (dA t, n, .inr (.inl f))
  | .inl (t, n, .inr (.inr (.inl f))) => .inl (dA t, n, .inr (.inr (.inl f)))
  | .inl (t, n, .inr (.inr (.inr (.inl f)))) => .inl (dA t, n, .inr (.inr (.inr (.inl f))))
  | .inr (ci, fs) => .inr (ci, fs.map (ev_v am))
theorem ev_am_lt {b a0 a1 : Nat} {k : Nat} (h : 2 ≤ k) : ev_am b a0 a1 k = b + (k - 2) := by
  match k, h with
  | k + 2, _ => simp [ev_am]
theorem ev_cat (am : Nat → Nat) (v : Value) : (ev_v am v).category = v.category := by cases v <;> rfl
def ev_A (b : Nat) : Nat → Prop := fun q => b ≤ q
def ev_so (j : Nat) : Int64 := match j with
  | 0 => -6148914691236517206
  | 1 => -3689348814741910324
  | 2 => -1085102592571150096
  | 3 => -71777214294589696
  | 4 => -281470681808896
  | _ => -4294967296
abbrev dp_tys (dA : Nat → ClassId) : List (ClassId × FieldType) := [(dA 0, .int), (dA 1, .long), (dA 2, .byte), (dA 3, .object RX10), (dA 4, .object RX3)]
def ev_CT (D : va_G) (dA : Nat → ClassId) (b a0 a1 : Nat) (xs : Nat → Int32) (L : Nat) (U : State) : Prop :=
  va_K D dp_cl (dp_tys dA) U ∧ va_X a0 L xs U U.heap ∧ va_T .long a1 6 (fun j => .long (ev_so j)) (ev_A b) U U.heap ∧ va_Z RX10 "SO" "[J" (.ref a1) (ev_A b) U U.heap ∧ (∀ w ∈ dp_nb, va_Nw w U) ∧ a0 < b ∧ b ≤ U.heap.size
def ev_WD (D : va_G) (dA : Nat → ClassId) (b a0 a1 : Nat) (sz : Nat) (h : ev_H) (H : Heap) : Prop :=
  H.size + 2 = b + sz ∧ 2 ≤ sz ∧ ∀ k, 2 ≤ k → k < sz → va_at D dp_cl (ev_am b a0 a1 k, ev_e (ev_am b a0 a1) dA (h k)) H
def ev_LV (am : Nat → Nat) (lsA : Array Slot) (n : Nat) (ls : ev_L) : Prop := lsA.size = n ∧ lv_wf lsA ∧ ls.length = n ∧ ∀ (j : Nat) (v : Value), ls[j]? = some (some v) → lsA[j]? = some (Slot.val (ev_v am v))
def ev_as (am : Nat → Nat) (ls : ev_L) : List (Nat × Value) := (List.range ls.length).filterMap (fun j => match ls[j]? with
  | some (some v) => some (j, ev_v am v)
  | _ => none)
theorem ev_as_mem {am : Nat → Nat} {ls : ev_L} {j : Nat} {w : Value} : (j, w) ∈ ev_as am ls ↔ ∃ v, ls[j]? = some (some v) ∧ w = ev_v am v := by
  constructor
  · intro h
    obtain ⟨i, -, hi⟩ := List.mem_filterMap.mp h
    split at hi
    · cases hi
      exact ⟨_, by assumption, rfl⟩
    · cases hi
  · rintro ⟨v, hv, rfl⟩
    refine List.mem_filterMap.mpr ⟨j, List.mem_range.mpr (List.getElem?_eq_some_iff.mp hv).1, ?_⟩
    rw [hv]
theorem ev_LV.has {am : Nat → Nat} {lsA : Array Slot} {n : Nat} {ls : ev_L} (h : ev_LV am lsA n ls) : lv_has lsA n (ev_as am ls) := by
  refine ⟨h.1, h.2.1, fun q hq => ?_⟩
  obtain ⟨j, w⟩ := q
  obtain ⟨v, hv, rfl⟩ := ev_as_mem.mp hq
  exact h.2.2.2 j v hv
theorem ev_kl_len (ls : ev_L) (i : Nat) : (ev_kl ls i).length = ls.length := by
  unfold ev_kl
  split
  · rfl
  · split <;> simp
theorem ev_kl_get {ls : ev_L} {i j : Nat} {w : Value} (h : (ev_kl ls i)[j]? = some (some w)) : ls[j]? = some (some w) ∧ ¬ (j + 1 = i ∧ w.category = 2) := by
  unfold ev_kl at h
  split at h
  · exact ⟨h, fun q => by omega⟩
  · rename_i k
    split at h
    · rename_i x hx
      by_cases hj : k = j
      · subst hj
        rw [List.getElem?_set_self (List.getElem?_eq_some_iff.mp hx).1] at h
        cases h
      · rw [List.getElem?_set_ne hj] at h
        exact ⟨h, fun q => hj (by omega)⟩
    · rename_i x hx
      by_cases hj : k = j
      · subst hj
        rw [List.getElem?_set_self (List.getElem?_eq_some_iff.mp hx).1] at h
        cases h
      · rw [List.getElem?_set_ne hj] at h
        exact ⟨h, fun q => hj (by omega)⟩
    · rename_i n1 n2
      refine ⟨h, fun q => ?_⟩
      obtain ⟨q1, q2⟩ := q
      have e : j = k := by omega
      subst e
      cases w with
      | long z => exact n1 z h
      | double z => exact n2 z h
      | _ => simp [Value.category] at q2
theorem ev_LV.s1 {am : Nat → Nat} {lsA : Array Slot} {n i : Nat} {ls : ev_L} {v : Value} (hn : ls.length = n) (h : lv_has lsA n ((i, ev_v am v) :: (ev_as am ls).filter (fun q => !(q.1 == i) && !(q.1 + 1 == i && q.2.category == 2)))) : ev_LV am lsA n (ev_s1 ls i v) := by
  refine ⟨h.1, h.2.1, by unfold ev_s1; rw [List.length_set, ev_kl_len, hn], fun j w hw => ?_⟩
  unfold ev_s1 at hw
  by_cases hj : i = j
  · subst hj
    have hl : i < (ev_kl ls i).length := by
      have := (List.getElem?_eq_some_iff.mp hw).1
      rwa [List.length_set] at this
    rw [List.getElem?_set_self hl] at hw
    cases hw
    exact h.2.2 (i, ev_v am v) List.mem_cons_self
  · rw [List.getElem?_set_ne hj] at hw
    obtain ⟨h1, h2⟩ := ev_kl_get hw
    refine h.2.2 (j, ev_v am w) (List.mem_cons_of_mem _ (List.mem_filter.mpr ⟨ev_as_mem.mpr ⟨w, h1, rfl⟩, ?_⟩))
    simp only [ev_cat]
    have hj' : j ≠ i := fun q => hj q.symm
    by_cases h3 : j + 1 = i
    · have h4 : w.category ≠ 2 := fun q => h2 ⟨h3, q⟩
      simp [hj', h4]
    · simp [hj', h3]
theorem ev_LV.s2 {am : Nat → Nat} {lsA : Array Slot} {n i : Nat} {ls : ev_L} {v : Value} (hn : ls.length = n) (h : lv_has lsA n ((i, ev_v am v) :: (ev_as am ls).filter (fun q => !(q.1 == i) && (!(q.1 == i + 1) && !(q.1 + 1 == i && q.2.category == 2))))) : ev_LV am lsA n (ev_s2 ls i v) := by
  refine ⟨h.1, h.2.1, by unfold ev_s2; rw [List.length_set, List.length_set, ev_kl_len, hn], fun j w hw => ?_⟩
  unfold ev_s2 at hw
  by_cases hj : i = j
  · subst hj
    have hl : i < ((ev_kl ls i).set (i + 1) none).length := by
      have := (List.getElem?_eq_some_iff.mp hw).1
      rwa [List.length_set] at this
    rw [List.getElem?_set_self hl] at hw
    cases hw
    exact h.2.2 (i, ev_v am v) List.mem_cons_self
  · rw [List.getElem?_set_ne hj] at hw
    by_cases hk : i + 1 = j
    · subst hk
      have hl : i + 1 < (ev_kl ls i).length := by
        have := (List.getElem?_eq_some_iff.mp hw).1
        rwa [List.length_set] at this
      rw [List.getElem?_set_self hl] at hw
      cases hw
    · rw [List.getElem?_set_ne hk] at hw
      obtain ⟨h1, h2⟩ := ev_kl_get hw
      refine h.2.2 (j, ev_v am w) (List.mem_cons_of_mem _ (List.mem_filter.mpr ⟨ev_as_mem.mpr ⟨w, h1, rfl⟩, ?_⟩))
      simp only [ev_cat]
      have hj' : j ≠ i := fun q => hj q.symm
      have hk' : j ≠ i + 1 := fun q => hk q.symm
      by_cases h3 : j + 1 = i
      · have h4 : w.category ≠ 2 := fun q => h2 ⟨h3, q⟩
        simp [hj', hk', h4]
      · simp [hj', hk', h3]
section EVP
variable {p : Program} {l : Launch} {e : Env} {R : Room} {s : State} {m : MethodId} {args : Array Value} {below : List Frame} {meth : Method} {c : Code} {H : Heap} {locs : List Loc} {cells slots : Nat} {Qf : State → Prop} {cc : ByteArray} {am : Nat → Nat}
set_option maxHeartbeats 4000000 in
theorem ev_pu_ok (hx : p.tables.exec = Jvm.exec) (hb : c.code = cc) {i : Instr} {pc pc' n : Nat} {ls ls' : ev_L} {st st' : List Value} {lsA : Array Slot} (h : ev_pu i pc ls st = some (pc', ls', st')) (hd : decode cc pc = .ok (i, ev_ln i)) (hl : ev_LV am lsA n ls)
    (kk : ∀ lsB, ev_LV am lsB n ls' → W p l e R s m args below meth c H locs cells slots Qf (F0 m pc' lsB (st'.map (ev_v am)))) : W p l e R s m args below meth c H locs cells slots Qf (F0 m pc lsA (st.map (ev_v am))) := by
  have get : ∀ {j : Nat} {v : Value}, ls[j]? = some (some v) → lsA[j]? = some (Slot.val (ev_v am v)) := fun q => hl.2.2.2 _ _ q
  unfold ev_pu at h
  split at h
  · cases h; exact lv_iconst hx hb hd rfl (kk _ hl)
  · cases h; exact lv_bipush hx hb hd rfl (kk _ hl)
  · cases h; exact lv_sipush hx hb hd rfl (kk _ hl)
  · cases h; exact lv_lconst hx hb hd rfl (kk _ hl)
  · cases h; exact lv_null hx hb hd (kk _ hl)
  all_goals first
    | (obtain ⟨v, hv, h⟩ := Option.map_eq_some_iff.mp h; unfold ev_ldi at hv; split at hv <;> cases hv; cases h; first | exact lv_iload_n hx hb hd rfl (get (by assumption)) (kk _ hl) | exact lv_iload hx hb hd (get (by assumption)) (kk _ hl))
    | (obtain ⟨v, hv, h⟩ := Option.map_eq_some_iff.mp h; unfold ev_ldl at hv; split at hv <;> cases hv; cases h; first | exact lv_lload_n hx hb hd rfl (get (by assumption)) (kk _ hl) | exact lv_lload hx hb hd (get (by assumption)) (kk _ hl))
    | (obtain ⟨v, hv, h⟩ := Option.map_eq_some_iff.mp h; unfold ev_lda at hv; split at hv <;> cases hv <;> cases h <;> first | exact lv_aload_n hx hb hd rfl (get (by assumption)) (kk _ hl) | exact lv_aload hx hb hd (get (by assumption)) (kk _ hl) | exact lv_aload_nN hx hb hd rfl (get (by assumption)) (kk _ hl) | exact lv_aloadN hx hb hd (get (by assumption)) (kk _ hl))
    | (obtain ⟨v, hv, h⟩ := Option.map_eq_some_iff.mp h; unfold ev_sti at hv; split at hv <;> first | (cases hv; done) | skip; split at hv <;> cases hv; cases h; first | exact lv_istore_n hx hb hd rfl hl.has (by rw [← hl.2.2.1]; assumption) rfl (fun lsB h9 => kk lsB (ev_LV.s1 hl.2.2.1 h9)) | exact lv_istore hx hb hd hl.has (by rw [← hl.2.2.1]; assumption) rfl (fun lsB h9 => kk lsB (ev_LV.s1 hl.2.2.1 h9)))
    | (obtain ⟨v, hv, h⟩ := Option.map_eq_some_iff.mp h; unfold ev_stl at hv; split at hv <;> first | (cases hv; done) | skip; split at hv <;> cases hv; cases h; first | exact lv_lstore_n hx hb hd rfl hl.has (by rw [← hl.2.2.1]; assumption) rfl (fun lsB h9 => kk lsB (ev_LV.s2 hl.2.2.1 h9)) | exact lv_lstore hx hb hd hl.has (by rw [← hl.2.2.1]; assumption) rfl (fun lsB h9 => kk lsB (ev_LV.s2 hl.2.2.1 h9)))
    | (obtain ⟨v, hv, h⟩ := Option.map_eq_some_iff.mp h; unfold ev_sta at hv; split at hv <;> first | (cases hv; done) | skip; all_goals (split at hv <;> cases hv); all_goals (cases h); all_goals first | exact lv_astore_n hx hb hd rfl hl.has (by rw [← hl.2.2.1]; assumption) rfl (fun lsB h9 => kk lsB (ev_LV.s1 hl.2.2.1 h9)) | exact lv_astore hx hb hd hl.has (by rw [← hl.2.2.1]; assumption) rfl (fun lsB h9 => kk lsB (ev_LV.s1 hl.2.2.1 h9)) | exact lv_astore_nN hx hb hd rfl hl.has (by rw [← hl.2.2.1]; assumption) rfl (fun lsB h9 => kk lsB (ev_LV.s1 hl.2.2.1 h9)) | exact lv_astoreN hx hb hd hl.has (by rw [← hl.2.2.1]; assumption) rfl (fun lsB h9 => kk lsB (ev_LV.s1 hl.2.2.1 h9)))
    | (obtain ⟨v, hv, h⟩ := Option.map_eq_some_iff.mp h; unfold ev_inc at hv; split at hv <;> first | (cases hv; done) | skip; rename_i x hg; split at hv <;> cases hv; cases h; obtain ⟨k9, hk9⟩ := List.getElem?_of_mem (ev_as_mem (am := am).mpr ⟨_, hg, rfl⟩); exact lv_iinc hx hb hd hl.has hk9 rfl (by rw [← hl.2.2.1]; assumption) rfl (fun lsB h9 => kk lsB (ev_LV.s1 hl.2.2.1 h9)))
    | (obtain ⟨v, hv, h⟩ := Option.map_eq_some_iff.mp h; unfold ev_2i at hv; split at hv <;> cases hv; cases h; first | exact lv_iadd hx hb hd (kk _ hl) | exact lv_isub hx hb hd (kk _ hl) | exact lv_imul hx hb hd (kk _ hl) | exact lv_iand hx hb hd (kk _ hl) | exact lv_ior hx hb hd (kk _ hl) | exact lv_ixor hx hb hd (kk _ hl) | exact lv_ishl hx hb hd (kk _ hl) | exact lv_ishr hx hb hd (kk _ hl) | exact lv_iushr hx hb hd rfl (kk _ hl))
    | (obtain ⟨v, hv, h⟩ := Option.map_eq_some_iff.mp h; unfold ev_2l at hv; split at hv <;> cases hv; cases h; first | exact lv_ladd hx hb hd (kk _ hl) | exact lv_lsub hx hb hd (kk _ hl) | exact lv_land hx hb hd (kk _ hl) | exact lv_lor hx hb hd (kk _ hl) | exact lv_lxor hx hb hd (kk _ hl) | exact W.lcmp hx hb hd (kk _ hl))
    | (obtain ⟨v, hv, h⟩ := Option.map_eq_some_iff.mp h; unfold ev_li at hv; split at hv <;> cases hv; cases h; first | exact lv_lshl hx hb hd rfl (kk _ hl) | exact lv_lshr hx hb hd rfl (kk _ hl) | exact lv_lushr hx hb hd rfl (kk _ hl))
    | (obtain ⟨v, hv, h⟩ := Option.map_eq_some_iff.mp h; unfold ev_1i at hv; split at hv <;> cases hv; cases h; first | exact lv_i2l hx hb hd rfl (kk _ hl) | exact lv_i2b hx hb hd rfl (kk _ hl))
    | (obtain ⟨v, hv, h⟩ := Option.map_eq_some_iff.mp h; unfold ev_1l at hv; split at hv <;> cases hv; cases h; first | exact lv_lneg hx hb hd (kk _ hl) | exact lv_l2i hx hb hd rfl (kk _ hl))
    | (obtain ⟨v, hv, h⟩ := Option.map_eq_some_iff.mp h; unfold ev_div at hv; split at hv <;> first | (cases hv; done) | skip; split at hv <;> cases hv; cases h; exact lv_idiv hx hb hd (by assumption) (kk _ hl))
    | (obtain ⟨v, hv, h⟩ := Option.map_eq_some_iff.mp h; unfold ev_dup at hv; split at hv <;> first | (cases hv; done) | skip; split at hv <;> cases hv; cases h; exact lv_dup hx hb hd (by rw [ev_cat]; assumption) (kk _ hl))
    | (obtain ⟨v, hv, h⟩ := Option.map_eq_some_iff.mp h; unfold ev_pop at hv; split at hv <;> first | (cases hv; done) | skip; split at hv <;> cases hv; cases h; exact lv_pop hx hb hd (by rw [ev_cat]; assumption) (kk _ hl))
    | (obtain ⟨v, hv, h⟩ := Option.map_eq_some_iff.mp h; unfold ev_pop2 at hv; split at hv <;> first | (cases hv; done) | skip; split at hv <;> cases hv; cases h; exact lv_pop2_2 hx hb hd (by rw [ev_cat]; assumption) (kk _ hl))
    | (obtain ⟨v, hv, h⟩ := Option.map_eq_some_iff.mp h; unfold ev_dup2 at hv; split at hv <;> first | (cases hv; done) | skip; split at hv; (cases hv; cases h; exact lv_dup2_2 hx hb hd (by rw [ev_cat]; assumption) (kk _ hl)); split at hv <;> first | (cases hv; done) | skip; split at hv <;> cases hv; cases h; exact lv_dup2_11 hx hb hd (by rw [ev_cat]; exact (lv_cat _).resolve_right (by assumption)) (by rw [ev_cat]; exact (lv_cat _).resolve_right (by assumption)) (kk _ hl))
    | (obtain ⟨v, hv, h⟩ := Option.map_eq_some_iff.mp h; unfold ev_to at hv; split at hv <;> cases hv; cases h; exact lv_goto hx hb hd (Int.toNat_of_nonneg (by assumption)).symm (kk _ hl))
    | (cases h; done)
    | skip
  · obtain ⟨v, hv, h9⟩ := Option.map_eq_some_iff.mp h
    clear h
    unfold ev_pop at hv
    split at hv
    · rename_i w r
      split at hv
      · rename_i hc
        cases hv
        cases h9
        exact lv_pop (va := ev_v am w) hx hb hd (by rw [ev_cat]; exact hc) (kk _ hl)
      · cases hv
    · cases hv
  · obtain ⟨v, hv, h9⟩ := Option.map_eq_some_iff.mp h
    clear h
    unfold ev_pop2 at hv
    split at hv
    · rename_i w r
      split at hv
      · rename_i hc
        cases hv
        cases h9
        exact lv_pop2_2 (va := ev_v am w) hx hb hd (by rw [ev_cat]; exact hc) (kk _ hl)
      · cases hv
    · cases hv
theorem ev_br_ok (hx : p.tables.exec = Jvm.exec) (hb : c.code = cc) {i : Instr} {pc tgt : Nat} {st r : List Value} {cd ce : Prop} {off : Int} {lsA : Array Slot} (h : ev_br i st = some (cd, ce, r, off)) (hd : decode cc pc = .ok (i, 3)) (ht : (pc : Int) + off = (tgt : Int))
    (kt : cd → W p l e R s m args below meth c H locs cells slots Qf (F0 m tgt lsA (r.map (ev_v am)))) (kf : ce → W p l e R s m args below meth c H locs cells slots Qf (F0 m (pc + 3) lsA (r.map (ev_v am)))) : W p l e R s m args below meth c H locs cells slots Qf (F0 m pc lsA (st.map (ev_v am))) := by
  unfold ev_br at h
  split at h
  · split at h <;> first | (cases h; done) | skip
    split at h <;> cases h <;> first | exact lv_if_eq hx hb hd ht kt kf | exact lv_if_lt hx hb hd ht kt kf | exact lv_if_ge hx hb hd ht kt kf | exact lv_if_gt hx hb hd ht kt kf | exact lv_if_le hx hb hd ht kt kf | exact lv_if_ne hx hb hd ht kt kf
  · split at h <;> first | (cases h; done) | skip
    split at h <;> cases h <;> first | exact lv_icmp_eq hx hb hd ht kt kf | exact lv_icmp_lt hx hb hd ht kt kf | exact lv_icmp_ge hx hb hd ht kt kf | exact lv_icmp_gt hx hb hd ht kt kf | exact lv_icmp_le hx hb hd ht kt kf | exact lv_icmp_ne hx hb hd ht kt kf
  · split at h <;> cases h
    · exact lv_ifnull hx hb hd (kf trivial)
    · exact lv_ifnullN hx hb hd ht (kt trivial)
  · split at h <;> cases h
    · exact lv_ifnonnull hx hb hd ht (kt trivial)
    · exact lv_ifnonnullN hx hb hd (kf trivial)
  · cases h
end EVP
end
section
def ev_fl (cls : String) (idx ci k : Nat) : Prop := ∃ q : vw_C, dp_cl[ci]? = some q ∧ k < q.2.2 ∧ (Cond.fieldLink cls idx (q.2.1 k).1 (q.2.1 k).2.1 (q.2.1 k).2.2.1 ∈ dp_tb ∨ ∃ host, Cond.fieldLinkNest cls idx (q.2.1 k).1 (q.2.1 k).2.1 (q.2.1 k).2.2.1 host ∈ dp_nb)
def ev_fp (ks : Nat) (y : MethodName) (idx ci k : Nat) (v : Value) : Prop := ∃ q : vw_C, dp_cl[ci]? = some q ∧ k < q.2.2 ∧ narrow (dp_ty ci k) v = v ∧ fits (dp_ty ci k) v = true ∧
  (((q.2.1 k).2.2.2 = false ∧ (Cond.fieldLink y.cls idx (q.2.1 k).1 (q.2.1 k).2.1 (q.2.1 k).2.2.1 ∈ dp_tb ∨ ∃ host, Cond.fieldLinkNest y.cls idx (q.2.1 k).1 (q.2.1 k).2.1 (q.2.1 k).2.2.1 host ∈ dp_nb)) ∨
   ((q.2.1 k).2.2.2 = true ∧ 0 < ks ∧ y.name = "<init>" ∧ (q.2.1 k).1 = y.cls ∧ Cond.fieldLink y.cls idx (q.2.1 k).1 (q.2.1 k).2.1 (q.2.1 k).2.2.1 ∈ dp_tb))
def ev_cs (st : List Value) : Nat := (st.map fun v => v.category).sum
/-- the kinds of new arrays of numbers: type, tag -/
def ev_at (t : ArrayType) : Option (Nat × vp_A) := match t with
  | .int => some (0, 0, .inl (fun _ => 0))
  | .long => some (1, 0, .inr (.inl (fun _ => 0)))
  | .byte => some (2, 0, .inl (fun _ => 0))
  | _ => none
/-- instructions that read or write cells, or link -/
def ev_hp (xs : Nat → Int32) (L d : Nat) (M : ev_M) (i : Instr) (kc ks sz : Nat) (h : ev_H) (st : List Value) (K : Nat → Nat → Nat → ev_H → Nat → List Value → Prop) : Prop := match i with
  | .getfield idx => ∃ a r ci fs k v, st = .ref a :: r ∧ 2 ≤ a ∧ a < sz ∧ h a = .inr (ci, fs) ∧ ev_fl M.1.cls idx ci k ∧ fs[k]? = some v ∧ K kc ks sz h 3 (v :: r)
  | .putfield idx => ∃ a r ci fs k v, st = v :: .ref a :: r ∧ 2 ≤ a ∧ a < sz ∧ h a = .inr (ci, fs) ∧ ev_fp ks M.1 idx ci k v ∧ k < fs.length ∧ K kc ks sz (va_up h a (.inr (ci, fs.set k v))) 3 r
  | .iaload => ∃ a r j, st = .int j :: .ref a :: r ∧ ((∃ n f, 2 ≤ a ∧ a < sz ∧ h a = .inl (0, n, .inl f) ∧ vp_in j n ∧ K kc ks sz h 1 (.int (f j.toNatClampNeg) :: r)) ∨ (a = 0 ∧ vp_in j L ∧ K kc ks sz h 1 (.int (xs j.toNatClampNeg) :: r)))
  | .laload => ∃ a r j, st = .int j :: .ref a :: r ∧ ((∃ n f, 2 ≤ a ∧ a < sz ∧ h a = .inl (1, n, .inr (.inl f)) ∧ vp_in j n ∧ K kc ks sz h 1 (.long (f j.toNatClampNeg) :: r)) ∨ (a = 1 ∧ vp_in j 6 ∧ K kc ks sz h 1 (.long (ev_so j.toNatClampNeg) :: r)))
  | .baload => ∃ a r j n f, st = .int j :: .ref a :: r ∧ 2 ≤ a ∧ a < sz ∧ h a = .inl (2, n, .inl f) ∧ vp_in j n ∧ K kc ks sz h 1 (.int (f j.toNatClampNeg) :: r)
  | .aaload => ∃ a r j t n f, st = .int j :: .ref a :: r ∧ 2 ≤ a ∧ a < sz ∧ h a = .inl (t, n, .inr (.inr (.inr (.inr f)))) ∧ (t = 3 ∨ t = 4) ∧ vp_in j n ∧ K kc ks sz h 1 (va_rf (f j.toNatClampNeg) :: r)
  | .iastore => ∃ a r j x n f, st = .int x :: .int j :: .ref a :: r ∧ 2 ≤ a ∧ a < sz ∧ h a = .inl (0, n, .inl f) ∧ vp_in j n ∧ K kc ks sz (va_up h a (.inl (0, n, .inl (upd f j.toNatClampNeg x)))) 1 r
  | .lastore => ∃ a r j x n f, st = .long x :: .int j :: .ref a :: r ∧ 2 ≤ a ∧ a < sz ∧ h a = .inl (1, n, .inr (.inl f)) ∧ vp_in j n ∧ K kc ks sz (va_up h a (.inl (1, n, .inr (.inl (vp_updL f j.toNatClampNeg x))))) 1 r
  | .bastore => ∃ a r j x n f, st = .int x :: .int j :: .ref a :: r ∧ 2 ≤ a ∧ a < sz ∧ h a = .inl (2, n, .inl f) ∧ vp_in j n ∧ K kc ks sz (va_up h a (.inl (2, n, .inl (upd f j.toNatClampNeg (vp_nar .byte x))))) 1 r
  | .aastore => ∃ a r j v t n f ci fs q, st = .ref v :: .int j :: .ref a :: r ∧ 2 ≤ a ∧ a < sz ∧ 2 ≤ v ∧ v < sz ∧ h a = .inl (t, n, .inr (.inr (.inr (.inr f)))) ∧ h v = .inr (ci, fs) ∧ dp_cl[ci]? = some q ∧ (t = 3 ∧ q.1 = RX10 ∨ t = 4 ∧ q.1 = RX3) ∧ 0 < ks ∧ vp_in j n ∧ K kc ks sz (va_up h a (.inl (t, n, .inr (.inr (.inr (.inr (va_up f j.toNatClampNeg (some v)))))))) 1 r
  | .arraylength => ∃ a r, st = .ref a :: r ∧ ((∃ t x, 2 ≤ a ∧ a < sz ∧ h a = .inl (t, x) ∧ t < 5 ∧ K kc ks sz h 1 (.int (Int32.ofNat x.1) :: r)) ∨ (a = 0 ∧ K kc ks sz h 1 (.int (Int32.ofNat L) :: r)) ∨ (a = 1 ∧ K kc ks sz h 1 (.int 6 :: r)))
  | .newarray ty => ∃ r n N t x kc' ks', st = .int n :: r ∧ ¬ n < 0 ∧ n.toNatClampNeg = N ∧ N ≤ 65536 ∧ ev_at ty = some (t, x) ∧ Cond.arrayClass (newarray.typeOf ty) ∈ dp_tb ∧ kc = kc' + 1 ∧ ks = ks' + N ∧ K kc' ks' (sz + 1) (va_up h sz (.inl (t, N, x.2))) 2 (.ref sz :: r)
  | .anewarray idx => ∃ r n N t C kc' ks', st = .int n :: r ∧ ¬ n < 0 ∧ n.toNatClampNeg = N ∧ N ≤ 65536 ∧ (t = 3 ∧ C = RX10 ∨ t = 4 ∧ C = RX3) ∧ Cond.classLink M.1.cls idx C ∈ dp_tb ∧ Cond.arrayOver (.object C) ∈ dp_nb ∧ kc = kc' + 1 ∧ ks = ks' + N ∧ K kc' ks' (sz + 1) (va_up h sz (.inl (t, N, .inr (.inr (.inr (.inr (fun _ => none))))))) 3 (.ref sz :: r)
  | .new idx => ∃ ci q fs kc' ks', dp_cl[ci]? = some q ∧ Cond.classLink M.1.cls idx q.1 ∈ dp_tb ∧ Cond.instantiable q.1 q.2.2 ∈ dp_tb ∧ Cond.initialized q.1 ∈ dp_tb ∧ fs = (List.range q.2.2).map (fun j => defaultValue (dp_ty ci j)) ∧ kc = kc' + 1 ∧ ks = ks' + q.2.2 ∧ K kc' ks' (sz + 1) (va_up h sz (.inr (ci, fs))) 3 (.ref sz :: st)
  | .getstatic idx => Cond.fieldLink M.1.cls idx RX10 "SO" "[J" ∈ dp_tb ∧ K kc ks sz h 3 (.ref 1 :: st)
  | .ldc idx => ∃ v, Cond.constant M.1.cls idx v ∈ dp_tb ∧ K kc ks sz h 2 (.int v :: st)
  | .ldc_w idx => ∃ v, Cond.constant M.1.cls idx v ∈ dp_tb ∧ K kc ks sz h 3 (.int v :: st)
  | .ldc2_w idx => ∃ v, Cond.constantLong M.1.cls idx v ∈ dp_tb ∧ K kc ks sz h 3 (.long v :: st)
  | .invokespecial idx => ∃ a r, st = .ref a :: r ∧ 0 < d ∧ ev_cs r ≤ 8 ∧ Cond.methodLink M.1.cls idx objectInit ∈ dp_tb ∧ Cond.instanceMethod objectInit ∈ dp_tb ∧ Cond.code objectInit ⟨#[0xb1]⟩ 1 none ∈ dp_tb ∧ K kc ks sz h 3 r
  | .invokestatic idx => ∃ x y r, st = .int y :: .int x :: r ∧ 0 < d ∧ ev_cs r ≤ 8 ∧ Cond.methodLink M.1.cls idx Lib.Math.min.name ∈ dp_tb ∧ Cond.static Lib.Math.min.name ∈ dp_tb ∧ Cond.initialized "java/lang/Math" ∈ dp_tb ∧ Cond.code Lib.Math.min.name Lib.Math.min.code 2 (some .int) ∈ dp_tb ∧ K kc ks sz h 3 (.int (if y < x then y else x) :: r)
  | _ => False
end
section
theorem ev_P1 {D : va_G} {cl : List vw_C} {q : Nat × va_E} {H : Heap} (h : va_at D cl q H) : va_P D cl [q] H := by
  intro k x hk
  match k, hk with
  | 0, hk => cases hk; exact h
  | k + 1, hk => simp at hk
theorem ev_am_ne {b a0 a1 j k : Nat} (hj : 2 ≤ j) (hk : 2 ≤ k) (h : j ≠ k) : ev_am b a0 a1 j ≠ ev_am b a0 a1 k := by
  rw [ev_am_lt hj, ev_am_lt hk]
  omega
theorem ev_WD.set {D : va_G} {dA : Nat → ClassId} {b a0 a1 sz a : Nat} {h : ev_H} {H H1 : Heap} {x : va_E} (hW : ev_WD D dA b a0 a1 sz h H) (ha : 2 ≤ a) (he : va_at D dp_cl (ev_am b a0 a1 a, ev_e (ev_am b a0 a1) dA x) H1) (hz : H1.size = H.size) (oq : ∀ q : Nat, q ≠ ev_am b a0 a1 a → H1[q]? = H[q]?) : ev_WD D dA b a0 a1 sz (va_up h a x) H1 := by
  refine ⟨by rw [hz]; exact hW.1, hW.2.1, fun k h2 hk => ?_⟩
  by_cases hka : k = a
  · subst hka
    rw [va_up_self]
    exact he
  · rw [va_up_ne _ _ hka]
    exact (hW.2.2 k h2 hk).kept (oq _ (ev_am_ne h2 ha hka))
theorem ev_WD.am {D : va_G} {dA : Nat → ClassId} {b a0 a1 sz : Nat} {h : ev_H} {H : Heap} (hW : ev_WD D dA b a0 a1 sz h H) : ev_am b a0 a1 sz = H.size := by
  rw [ev_am_lt hW.2.1]
  have := hW.1
  have := hW.2.1
  omega
theorem ev_WD.push {D : va_G} {dA : Nat → ClassId} {b a0 a1 sz : Nat} {h : ev_H} {H H1 : Heap} {x : va_E} (hW : ev_WD D dA b a0 a1 sz h H) (he : va_at D dp_cl (H.size, ev_e (ev_am b a0 a1) dA x) H1) (hz : H1.size = H.size + 1) (oq : ∀ q : Nat, q < H.size → H1[q]? = H[q]?) : ev_WD D dA b a0 a1 (sz + 1) (va_up h sz x) H1 := by
  have hw := hW.1
  have hw2 := hW.2.1
  refine ⟨by omega, by omega, fun k h2 hk => ?_⟩
  by_cases hka : k = sz
  · subst hka
    rw [va_up_self, hW.am]
    exact he
  · rw [va_up_ne _ _ hka]
    refine (hW.2.2 k h2 (by omega)).kept (oq _ ?_)
    rw [ev_am_lt h2]
    omega
theorem ev_S.push {b : Nat} {H0 H H1 : Heap} {locs : List Loc} (hS : va_S (ev_A b) H0 H locs) (hz : H1.size = H.size + 1) (oq : ∀ q : Nat, q < H.size → H1[q]? = H[q]?) : va_S (ev_A b) H0 H1 locs :=
  ⟨Nat.le_trans hS.1 (by omega), fun x h1 h2 => (oq x (Nat.lt_of_lt_of_le h1 hS.1)).trans (hS.2.1 x h1 h2), hS.2.2⟩
theorem ev_narrow {ty : FieldType} {v : Value} (am : Nat → Nat) (h : narrow ty v = v) : narrow ty (ev_v am v) = ev_v am v := by
  cases v with
  | ref a => cases ty <;> simp_all [narrow, ev_v]
  | _ => exact h
theorem ev_fits {ty : FieldType} {v : Value} (am : Nat → Nat) (h : fits ty v = true) : fits ty (ev_v am v) = true := by
  cases v with
  | ref a => cases ty <;> simp_all [fits, ev_v]
  | _ => exact h
theorem ev_ob {am : Nat → Nat} {dA : Nat → ClassId} {ci : Nat} {fs : List Value} : ev_e am dA (.inr (ci, fs)) = .inr (ci, fs.map (ev_v am)) := rfl
section EVH
variable {p : Program} {l : Launch} {e : Env} {R : Room} {s : State} {m : MethodId} {args : Array Value} {below : List Frame} {meth : Method} {c : Code} {H : Heap} {locs : List Loc} {cells slots : Nat} {Qf : State → Prop}
variable {D : va_G} {dA : Nat → ClassId} {b a0 a1 : Nat} {xs : Nat → Int32} {L d : Nat} {M : ev_M} {kc ks sz : Nat} {h : ev_H} {pc len mc ms : Nat} {lsA : Array Slot} {st : List Value}
theorem ev_putf (hx : p.tables.exec = Jvm.exec) (hb : c.code = M.2.1) (hown : s.vm.findClass M.1.cls = some m.cls) (hts : ∀ w ∈ dp_tb, w.before args s = true) (hin : meth.name = M.1.name) (hC : ev_CT D dA b a0 a1 xs L s) (hS : va_S (ev_A b) s.heap H locs) (hW : ev_WD D dA b a0 a1 sz h H)
    {idx a ci k : Nat} {r fs : List Value} {v : Value} (ha : 2 ≤ a) (hs : a < sz) (hh : h a = .inr (ci, fs)) (hl : ev_fp ks M.1 idx ci k v) (hk : k < fs.length) (hd : decode M.2.1 pc = .ok (.putfield idx, 3))
    (kk : ∀ H' locs', va_S (ev_A b) s.heap H' locs' → ev_WD D dA b a0 a1 sz (va_up h a (.inr (ci, fs.set k v))) H' → W p l e R s m args below meth c H' locs' cells slots Qf (F0 m (pc + 3) lsA (r.map (ev_v (ev_am b a0 a1))))) :
    W p l e R s m args below meth c H locs cells slots Qf (F0 m pc lsA ((v :: .ref a :: r).map (ev_v (ev_am b a0 a1)))) := by
  obtain ⟨q, hq, hkq, hn, hf, hcase⟩ := hl
  have hK := hC.1
  have hin1 : ∀ w ∈ u_ws q.1 q.2.1 q.2.2, w ∈ lw_tbl := dp_in ci q hq
  have hin2 : ∀ w ∈ u_ws q.1 q.2.1 q.2.2, w ∈ dp_tb := fun w hw => by
    refine List.mem_filter.mpr ⟨hin1 w hw, ?_⟩
    obtain ⟨j, -, hj⟩ := List.mem_map.mp hw
    rw [← hj]
    unfold u_lay
    split <;> rfl
  have hap := va_apart (own := M.1.cls) hts hin2 (dp_ty ci) (dp_ty_ok ci q hq) (dp_nm ci q hq) hK hq
  have hat := hW.2.2 a ha hs
  rw [hh, ev_ob] at hat
  obtain ⟨r', h1, cell, q1, q2, q3, q4⟩ := hat
  have hr : r' = q := Option.some.inj (h1.symm.trans hq)
  subst hr
  obtain ⟨hSl, hfc, kC, hkC, hkind⟩ := hK.1 ci _ hq
  obtain ⟨cf, kf, fi, f, hi, hsl⟩ := hSl k hkq
  have hlay := hts _ (hin2 _ (u_in_lay hkq))
  unfold u_lay at hlay
  have hst := (u_facts hfc hkC (u_lays hts hin2 hkq) hi).1
  have hty := dp_ty_ok ci _ hq k hkq
  have fin : ∀ (H' : Heap), H'[ev_am b a0 a1 a]? = some (cell.setSlot f.slot (ev_v (ev_am b a0 a1) v)) → H'.size = H.size → (∀ q, q ≠ ev_am b a0 a1 a → H'[q]? = H[q]?) → W p l e R s m args below meth c H' (locs ++ [⟨ev_am b a0 a1 a, f.slot⟩]) cells slots Qf (F0 m (pc + 3) lsA (r.map (ev_v (ev_am b a0 a1)))) := by
    intro H' e1 e2 e3
    rw [hsl] at e1
    refine kk H' _ (hS.put e2 e3 (by show b ≤ _; rw [ev_am_lt ha]; omega)) (hW.set ha ?_ e2 e3)
    rw [ev_ob, List.map_set]
    exact ⟨_, hq, t_OB.to (V := updV (vp_V (fs.map (ev_v (ev_am b a0 a1)))) k (ev_v (ev_am b a0 a1) v)) ⟨_, e1, q2, q3, t_set q4 hap hkq _⟩ (fun j _ => vp_updV_set (by rw [List.length_map]; exact hk) _ j)⟩
  rcases hcase with ⟨hfin, hlink | ⟨host, hlink⟩⟩ | ⟨hfin, -, hnm, hdecl, hlink⟩
  · rw [if_neg (by rw [hfin]; decide)] at hlay
    have h6 := u_store hfc hkC hkind hlay hi hty (ev_narrow (ev_am b a0 a1) hn) (ev_fits (ev_am b a0 a1) hf)
    exact W.putK hx hb (f := f) ⟨hown, hts _ hlink, ⟨_, _, _, hi⟩, hst⟩ (by rw [q2]; exact h6) q1 q3 (by rw [hsl]; exact k2_hasslot (q4 k hkq)) rfl rfl hd fin
  · rw [if_neg (by rw [hfin]; decide)] at hlay
    have h6 := u_store hfc hkC hkind hlay hi hty (ev_narrow (ev_am b a0 a1) hn) (ev_fits (ev_am b a0 a1) hf)
    exact va_WputK hx hb (f := f) hown (va_Nw.use rfl (hC.2.2.2.2.1 _ hlink)) hi hst (by rw [q2]; exact h6) q1 q3 (by rw [hsl]; exact k2_hasslot (q4 k hkq)) rfl rfl hd fin
  · rw [if_pos hfin] at hlay
    have hcf : m.cls = cf := by
      obtain ⟨_, _, c', _, _, _, -, -, hf', -, -, -, hown2, -⟩ := Cond.laysFinal_spec hlay
      have e1 : c' = cf := by have := hi.symm.trans hf'; simp at this; exact this.1.symm
      rw [hdecl] at hown2
      rw [← e1]; exact Option.some.inj (hown.symm.trans hown2)
    have h6 := u_fits hfc hkC hkind (Or.inr hlay) hi hty (ev_narrow (ev_am b a0 a1) hn) (ev_fits (ev_am b a0 a1) hf)
    exact W.putFinK hx hb hown (hts _ hlink) hi hst hcf (hin.trans hnm) (by rw [q2]; exact h6) q1 q3 (by rw [hsl]; exact k2_hasslot (q4 k hkq)) rfl rfl hd fin
theorem ev_getf (hx : p.tables.exec = Jvm.exec) (hb : c.code = M.2.1) (hown : s.vm.findClass M.1.cls = some m.cls) (hts : ∀ w ∈ dp_tb, w.before args s = true) (hC : ev_CT D dA b a0 a1 xs L s) (hW : ev_WD D dA b a0 a1 sz h H)
    {idx a ci k : Nat} {r fs : List Value} {v : Value} (ha : 2 ≤ a) (hs : a < sz) (hh : h a = .inr (ci, fs)) (hl : ev_fl M.1.cls idx ci k) (hv : fs[k]? = some v) (hd : decode M.2.1 pc = .ok (.getfield idx, 3))
    (kk : W p l e R s m args below meth c H locs cells slots Qf (F0 m (pc + 3) lsA ((v :: r).map (ev_v (ev_am b a0 a1))))) :
    W p l e R s m args below meth c H locs cells slots Qf (F0 m pc lsA ((.ref a :: r).map (ev_v (ev_am b a0 a1)))) := by
  obtain ⟨q, hq, hkq, hcase⟩ := hl
  have hin2 : ∀ w ∈ u_ws q.1 q.2.1 q.2.2, w ∈ dp_tb := fun w hw => by
    refine List.mem_filter.mpr ⟨dp_in ci q hq w hw, ?_⟩
    obtain ⟨j, -, hj⟩ := List.mem_map.mp hw
    rw [← hj]
    unfold u_lay
    split <;> rfl
  have hat := hW.2.2 a ha hs
  rw [hh, ev_ob] at hat
  have hv2 : (fs.map (ev_v (ev_am b a0 a1)))[k]? = some (ev_v (ev_am b a0 a1) v) := by rw [List.getElem?_map, hv]; rfl
  rcases hcase with hlink | ⟨host, hlink⟩
  · exact va_get hx hb hts hin2 hown hC.1 (ev_P1 hat) 0 rfl hq k hkq (hts _ hlink) (fun _ h9 => h9) hv2 hd kk
  · exact va_getN hx hb hts hin2 hown hC.1 (ev_P1 hat) 0 rfl hq k hkq (va_Nw.use rfl (hC.2.2.2.2.1 _ hlink)) (fun _ h9 => h9) hv2 hd kk
end EVH
end
section
theorem ev_arr {am : Nat → Nat} {dA : Nat → ClassId} {t n : Nat} {f : Nat → Int32} : ev_e am dA (.inl (t, n, .inl f)) = .inl (dA t, n, .inl f) := rfl
theorem ev_arrL {am : Nat → Nat} {dA : Nat → ClassId} {t n : Nat} {f : Nat → Int64} : ev_e am dA (.inl (t, n, .inr (.inl f))) = .inl (dA t, n, .inr (.inl f)) := rfl
theorem ev_arrQ {am : Nat → Nat} {dA : Nat → ClassId} {t n : Nat} {f : Nat → Option Nat} : ev_e am dA (.inl (t, n, .inr (.inr (.inr (.inr f))))) = .inl (dA t, n, .inr (.inr (.inr (.inr (fun j => (f j).map am))))) := rfl
theorem ev_rf (am : Nat → Nat) (r : Option Nat) : ev_v am (va_rf r) = va_rf (r.map am) := by cases r <;> rfl
theorem ev_len {am : Nat → Nat} {dA : Nat → ClassId} {t : Nat} {x : vp_A} : ∃ y : vp_A, ev_e am dA (.inl (t, x)) = .inl (dA t, y) ∧ y.1 = x.1 := by
  obtain ⟨n, f | f | f | f | f⟩ := x
  · exact ⟨_, rfl, rfl⟩
  · exact ⟨_, rfl, rfl⟩
  · exact ⟨_, rfl, rfl⟩
  · exact ⟨_, rfl, rfl⟩
  · exact ⟨_, rfl, rfl⟩
section EVH
variable {p : Program} {l : Launch} {e : Env} {R : Room} {s : State} {m : MethodId} {args : Array Value} {below : List Frame} {meth : Method} {c : Code} {H : Heap} {locs : List Loc} {cells slots : Nat} {Qf : State → Prop}
variable {D : va_G} {dA : Nat → ClassId} {b a0 a1 : Nat} {xs : Nat → Int32} {L d : Nat} {M : ev_M} {kc ks sz : Nat} {h : ev_H} {pc len mc ms : Nat} {lsA : Array Slot} {st : List Value}
theorem ev_Sme {b : Nat} {H0 H : Heap} {locs : List Loc} (hS : va_S (ev_A b) H0 H locs) : va_S (ev_A b) H H locs := ⟨Nat.le_refl _, fun _ _ _ => rfl, hS.2.2⟩
theorem ev_XH (hC : ev_CT D dA b a0 a1 xs L s) (hS : va_S (ev_A b) s.heap H locs) : va_X a0 L xs s H ∧ a0 < H.size ∧ ¬ ev_A b a0 := by
  obtain ⟨-, hX, -, -, -, h1, h2⟩ := hC
  have hlt : a0 < s.heap.size := by omega
  exact ⟨hX.kept (hS.2.1 a0 hlt (Nat.not_le.mpr h1)), Nat.lt_of_lt_of_le hlt hS.1, Nat.not_le.mpr h1⟩
set_option maxHeartbeats 4000000 in
theorem ev_hp_ok (hx : p.tables.exec = Jvm.exec) (hb : c.code = M.2.1) (hml : lsA.size = c.maxLocals) (hown : s.vm.findClass M.1.cls = some m.cls) (hts : ∀ w ∈ dp_tb, w.before args s = true) (hin : meth.name = M.1.name) (hC : ev_CT D dA b a0 a1 xs L s) (hS : va_S (ev_A b) s.heap H locs) (hW : ev_WD D dA b a0 a1 sz h H)
    (hfr : d ≤ R.frames) (hlo : 60 * d ≤ R.locals) (hmc : mc ≤ R.cells) (hms : ms ≤ R.slots) (hc1 : cells + kc ≤ mc) (hc2 : slots + ks ≤ ms) {i : Instr} (hd : decode M.2.1 pc = .ok (i, len))
    (hh : ev_hp xs L d M i kc ks sz h st (fun kc' ks' sz' h' len' st' => len' = len ∧ ∀ (H' : Heap) (locs' : List Loc) (cells' slots' : Nat), va_S (ev_A b) s.heap H' locs' → ev_WD D dA b a0 a1 sz' h' H' → cells' + kc' ≤ mc → slots' + ks' ≤ ms → W p l e R s m args below meth c H' locs' cells' slots' Qf (F0 m (pc + len') lsA (st'.map (ev_v (ev_am b a0 a1)))))) :
    W p l e R s m args below meth c H locs cells slots Qf (F0 m pc lsA (st.map (ev_v (ev_am b a0 a1)))) := by
  have hK := hC.1
  unfold ev_hp at hh
  split at hh
  · obtain ⟨a, r, ci, fs, k, v, rfl, h1, h2, h3, h4, h5, rfl, kk⟩ := hh
    exact ev_getf hx hb hown hts hC hW h1 h2 h3 h4 h5 hd (kk H locs cells slots hS hW hc1 hc2)
  · obtain ⟨a, r, ci, fs, k, v, rfl, h1, h2, h3, h4, h5, rfl, kk⟩ := hh
    exact ev_putf hx hb hown hts hin hC hS hW h1 h2 h3 h4 h5 hd (fun H' locs' g1 g2 => kk H' locs' cells slots g1 g2 hc1 hc2)
  · obtain ⟨a, r, j, rfl, ⟨n, f, h1, h2, h3, h4, rfl, kk⟩ | ⟨rfl, h4, rfl, kk⟩⟩ := hh
    · have hat := hW.2.2 a h1 h2
      rw [h3, ev_arr] at hat
      exact va_iald hx hb hK (ev_P1 hat) 0 0 rfl rfl h4 hd (kk H locs cells slots hS hW hc1 hc2)
    · obtain ⟨g1, g2, g3⟩ := ev_XH hC hS
      exact va_sld hx hb g1 g2 g3 (ev_Sme hS) h4 hd (kk H locs cells slots hS hW hc1 hc2)
  · obtain ⟨a, r, j, rfl, ⟨n, f, h1, h2, h3, h4, rfl, kk⟩ | ⟨rfl, h4, rfl, kk⟩⟩ := hh
    · have hat := hW.2.2 a h1 h2
      rw [h3, ev_arrL] at hat
      exact va_lald hx hb hK (ev_P1 hat) 0 1 rfl rfl h4 hd (kk H locs cells slots hS hW hc1 hc2)
    · exact va_tl hx hb hC.2.2.1 hS h4 rfl hd (kk H locs cells slots hS hW hc1 hc2)
  · obtain ⟨a, r, j, n, f, rfl, h1, h2, h3, h4, rfl, kk⟩ := hh
    have hat := hW.2.2 a h1 h2
    rw [h3, ev_arr] at hat
    exact va_bald hx hb hK (ev_P1 hat) 0 2 rfl rfl h4 hd (kk H locs cells slots hS hW hc1 hc2)
  · obtain ⟨a, r, j, t, n, f, rfl, h1, h2, h3, ht, h4, rfl, kk⟩ := hh
    have hat := hW.2.2 a h1 h2
    rw [h3, ev_arrQ] at hat
    have kk2 := kk H locs cells slots hS hW hc1 hc2
    rw [List.map_cons, ev_rf] at kk2
    rcases ht with rfl | rfl
    · exact va_aldq hx hb hK (ev_P1 hat) 0 3 rfl rfl h4 hd kk2
    · exact va_aldq hx hb hK (ev_P1 hat) 0 4 rfl rfl h4 hd kk2
  · obtain ⟨a, r, j, x, n, f, rfl, h1, h2, h3, h4, rfl, kk⟩ := hh
    have hat := hW.2.2 a h1 h2
    rw [h3, ev_arr] at hat
    refine W.iast hx hb hat ((hK.2 0 _ rfl).1 n (fun j => .int (f j))) (fun q => by cases q) (by show ¬ (j < 0 ∨ (arrV _ _ _).slots.size ≤ _); rw [arrV_size]; exact h4) rfl rfl hd fun H1 e z oq => ?_
    refine kk H1 _ cells slots (hS.put z oq (by show b ≤ _; rw [ev_am_lt h1]; omega)) (hW.set h1 ?_ z oq) hc1 hc2
    rw [ev_arr]
    show H1[_]? = some (vp_cell _ _)
    rw [e]
    rw [vp_cell_i, vp_cell_i, arrV_store]
    congr 2
    funext q
    by_cases hq : q = j.toNatClampNeg
    · subst hq
      simp [updV, upd]
    · simp [updV, upd, hq]
  · obtain ⟨a, r, j, x, n, f, rfl, h1, h2, h3, h4, rfl, kk⟩ := hh
    have hat := hW.2.2 a h1 h2
    rw [h3, ev_arrL] at hat
    refine W.last hx hb hat ((hK.2 1 _ rfl).1 n (fun j => .long (f j))) (fun q => by cases q) (by show ¬ (j < 0 ∨ (arrV _ _ _).slots.size ≤ _); rw [arrV_size]; exact h4) rfl rfl hd fun H1 e z oq => ?_
    refine kk H1 _ cells slots (hS.put z oq (by show b ≤ _; rw [ev_am_lt h1]; omega)) (hW.set h1 ?_ z oq) hc1 hc2
    rw [ev_arrL]
    show H1[_]? = some (vp_cell _ _)
    rw [e]
    rw [vp_cell_l, vp_cell_l, arrV_store]
    congr 2
    funext q
    by_cases hq : q = j.toNatClampNeg
    · subst hq
      simp [updV, vp_updL]
    · simp [updV, vp_updL, hq]
  · obtain ⟨a, r, j, x, n, f, rfl, h1, h2, h3, h4, rfl, kk⟩ := hh
    have hat := hW.2.2 a h1 h2
    rw [h3, ev_arr] at hat
    refine W.bast hx hb hat ((hK.2 2 _ rfl).1 n (fun j => .int (f j))) (fun q => by cases q) (by show ¬ (j < 0 ∨ (arrV _ _ _).slots.size ≤ _); rw [arrV_size]; exact h4) rfl rfl hd fun H1 e z oq => ?_
    refine kk H1 _ cells slots (hS.put z oq (by show b ≤ _; rw [ev_am_lt h1]; omega)) (hW.set h1 ?_ z oq) hc1 hc2
    rw [ev_arr]
    show H1[_]? = some (vp_cell _ _)
    rw [e]
    rw [vp_cell_i, vp_cell_i, arrV_store]
    congr 2
    funext q
    by_cases hq : q = j.toNatClampNeg
    · subst hq
      simp [updV, upd, vp_nar_byte, narrow]
    · simp [updV, upd, hq]
  · obtain ⟨a, r, j, v, t, n, f, ci, fs, q, rfl, h1, h2, h3, h4, h5, h6, h7, ht, -, h8, rfl, kk⟩ := hh
    have hat := hW.2.2 a h1 h2
    rw [h5, ev_arrQ] at hat
    have hav := hW.2.2 v h3 h4
    rw [h6, ev_ob] at hav
    have hlt : j.toNatClampNeg < n := Nat.not_le.mp fun q => h8 (Or.inr q)
    have h0 : ¬ j < 0 := fun q => h8 (Or.inl q)
    obtain ⟨r', hr', cellV, g1, g2, g3, -⟩ := hav
    have hcls := (hK.1 ci q h7).2
    obtain ⟨kA, comp, k1, k2, k3⟩ : ∃ (kA : Class) (comp : ClassId), s.vm.classes[dA t]? = some kA ∧ kA.kind = .array comp (.object q.1) ∧ s.vm.findClass q.1 = some comp := by
      rcases ht with ⟨rfl, e9⟩ | ⟨rfl, e9⟩
      · obtain ⟨kA, comp, k1, k2, k3, -⟩ := (hK.2 3 _ rfl).2
        rw [e9]
        exact ⟨kA, comp, k1, k2, k3⟩
      · obtain ⟨kA, comp, k1, k2, k3, -⟩ := (hK.2 4 _ rfl).2
        rw [e9]
        exact ⟨kA, comp, k1, k2, k3⟩
    have hcomp : comp = D.1 ci := Option.some.inj (k3.symm.trans hcls.1)
    subst hcomp
    obtain ⟨kC, hkC, -⟩ := hcls.2
    refine W.aast hx hb hat (fun q h => by cases h) (fun h => by cases h) k1 k2 rfl hkC ⟨h0, by show _ < (arrV _ _ _).slots.size; rw [arrV_size]; exact hlt⟩ g1 (fun q h => by rw [g3] at h; cases h) (by rw [g2]; exact hkC) (by rw [g2]; exact va_assign hcls) rfl rfl hd fun H1 e z oq => ?_
    refine kk H1 _ cells slots (hS.put z oq (by show b ≤ _; rw [ev_am_lt h1]; omega)) (hW.set h1 ?_ z oq) hc1 hc2
    rw [ev_arrQ]
    show H1[_]? = some (vp_cell _ _)
    rw [e]
    rw [vp_cell_q, vp_cell_q, arrV_store]
    congr 2
    funext q
    by_cases hq : q = j.toNatClampNeg
    · subst hq
      simp [updV, va_up, va_rf]
    · simp [updV, va_up, hq]
  · obtain ⟨a, r, rfl, ⟨t, x, h1, h2, h3, h4, rfl, kk⟩ | ⟨rfl, rfl, kk⟩ | ⟨rfl, rfl, kk⟩⟩ := hh
    · have hat := hW.2.2 a h1 h2
      obtain ⟨y, hy, hyx⟩ := ev_len (am := ev_am b a0 a1) (dA := dA) (t := t) (x := x)
      rw [h3, hy] at hat
      have kk2 := kk H locs cells slots hS hW hc1 hc2
      match t, h4 with
      | 0, _ => exact va_alen hx hb hK (ev_P1 hat) 0 0 rfl rfl (by rw [hyx]) hd kk2
      | 1, _ => exact va_alen hx hb hK (ev_P1 hat) 0 1 rfl rfl (by rw [hyx]) hd kk2
      | 2, _ => exact va_alen hx hb hK (ev_P1 hat) 0 2 rfl rfl (by rw [hyx]) hd kk2
      | 3, _ => exact va_alen hx hb hK (ev_P1 hat) 0 3 rfl rfl (by rw [hyx]) hd kk2
      | 4, _ => exact va_alen hx hb hK (ev_P1 hat) 0 4 rfl rfl (by rw [hyx]) hd kk2
    · obtain ⟨g1, g2, g3⟩ := ev_XH hC hS
      exact va_slen hx hb g1 g2 g3 (ev_Sme hS) hd (kk H locs cells slots hS hW hc1 hc2)
    · exact va_tlen hx hb hC.2.2.1 hS rfl hd (kk H locs cells slots hS hW hc1 hc2)
  · rename_i ty
    obtain ⟨r, n, N, t, x, kc', ks', rfl, h1, h2, h3, h4, h5, rfl, rfl, rfl, kk⟩ := hh
    refine va_newaK hx hb (hts _ h5) rfl hd rfl h1 h2 ?_ (by omega) (by omega) rfl fun H1 cA e1 z1 o1 hAr hNm => ?_
    · have : componentBytes (newarray.typeOf ty) ≤ 8 := by
        unfold ev_at at h4
        split at h4 <;> first | (cases h4; done) | decide
      exact Nat.le_trans (Nat.mul_le_mul h3 this) (by decide)
    · have kk2 := kk H1 locs (cells + 1) (slots + N) (ev_S.push hS z1 o1) (hW.push ?_ z1 o1) (by omega) (by omega)
      · rw [List.map_cons, show ev_v (ev_am b a0 a1) (.ref sz) = .ref H.size from by rw [← hW.am]; rfl] at kk2
        exact kk2
      · unfold ev_at at h4
        split at h4
        · cases h4
          have e9 : cA = dA 0 := Option.some.inj (hNm.symm.trans (hK.2 0 _ rfl).2)
          subst e9
          exact e1
        · cases h4
          have e9 : cA = dA 1 := Option.some.inj (hNm.symm.trans (hK.2 1 _ rfl).2)
          subst e9
          exact e1
        · cases h4
          have e9 : cA = dA 2 := Option.some.inj (hNm.symm.trans (hK.2 2 _ rfl).2)
          subst e9
          exact e1
        · cases h4
  · obtain ⟨r, n, N, t, C, kc', ks', rfl, h1, h2, h3, h4, h5, h6, rfl, rfl, rfl, kk⟩ := hh
    subst h2
    refine W.anew hx hb hown (hts _ h5) (va_AO.use (hC.2.2.2.2.1 _ h6)) rfl hd rfl h1 (Nat.le_trans (Nat.mul_le_mul_right 4 h3) (by decide)) (by omega) (by omega) fun cA kA comp f1 f2 f3 f4 => ?_
    generalize hH1 : H.push ({ cls := cA, slots := Array.replicate n.toNatClampNeg .null, vm := .none } : Cell) = H1
    have z1 : H1.size = H.size + 1 := by rw [← hH1, Array.size_push]
    have e1 : H1[H.size]? = some (arrV cA n.toNatClampNeg (fun _ => .null)) := by rw [← hH1, Array.getElem?_push_size, ← arrV_new]
    have o1 : ∀ q : Nat, q < H.size → H1[q]? = H[q]? := fun q hq => by rw [← hH1, Array.getElem?_push, if_neg (Nat.ne_of_lt hq)]
    have kk2 := kk H1 locs (cells + 1) (slots + n.toNatClampNeg) (ev_S.push hS z1 o1) (hW.push ?_ z1 o1) (by omega) (by omega)
    · rw [List.map_cons, show ev_v (ev_am b a0 a1) (.ref sz) = .ref H.size from by rw [← hW.am]; rfl] at kk2
      exact kk2
    · rcases h4 with ⟨rfl, rfl⟩ | ⟨rfl, rfl⟩
      · obtain ⟨kA', comp', k1, k2, k3, k4⟩ := (hK.2 3 _ rfl).2
        have e9 : cA = dA 3 := Option.some.inj (f1.symm.trans k4)
        subst e9
        exact e1
      · obtain ⟨kA', comp', k1, k2, k3, k4⟩ := (hK.2 4 _ rfl).2
        have e9 : cA = dA 4 := Option.some.inj (f1.symm.trans k4)
        subst e9
        exact e1
  · obtain ⟨ci, q, fs, kc', ks', h1, h2, h3, h4, rfl, rfl, rfl, rfl, kk⟩ := hh
    have hKn := hK.1 ci _ h1
    have hin2 : ∀ w ∈ u_ws q.1 q.2.1 q.2.2, w ∈ dp_tb := fun w hw => by
      refine List.mem_filter.mpr ⟨dp_in ci q h1 w hw, ?_⟩
      obtain ⟨j, -, hj⟩ := List.mem_map.mp hw
      rw [← hj]
      unfold u_lay
      split <;> rfl
    refine W.newcK hx hb hown (hts _ h2) (hts _ h3) (hts _ h4) rfl hd (by omega) (by omega) hKn.2.1 rfl fun H1 kC hkC e1 z1 o1 => ?_
    have kk2 := kk H1 locs (cells + 1) (slots + q.2.2) (ev_S.push hS z1 o1) (hW.push ?_ z1 o1) (by omega) (by omega)
    · rw [List.map_cons, show ev_v (ev_am b a0 a1) (.ref sz) = .ref H.size from by rw [← hW.am]; rfl] at kk2
      exact kk2
    · rw [ev_ob]
      refine ⟨_, h1, (u_born (dp_ty ci) hts hin2 hKn hkC e1 (dp_ty_ok ci q h1)).to fun k hk => ?_⟩
      have hdv : ev_v (ev_am b a0 a1) (defaultValue (dp_ty ci k)) = defaultValue (dp_ty ci k) := by
        cases dp_ty ci k <;> rfl
      simp [vp_V, hk, hdv]
  · obtain ⟨h1, rfl, kk⟩ := hh
    exact va_gets hx hb hC.2.2.2.1 hS hown (hts _ h1) (fun _ h9 => h9) hd (kk H locs cells slots hS hW hc1 hc2)
  · obtain ⟨v, h1, rfl, kk⟩ := hh
    exact lv_ldc hx hb hown (hts _ h1) hd (kk H locs cells slots hS hW hc1 hc2)
  · obtain ⟨v, h1, rfl, kk⟩ := hh
    exact lv_ldcw hx hb hown (hts _ h1) hd (kk H locs cells slots hS hW hc1 hc2)
  · obtain ⟨v, h1, rfl, kk⟩ := hh
    exact lv_ldc2 hx hb hown (hts _ h1) hd (kk H locs cells slots hS hW hc1 hc2)
  · obtain ⟨a, r, rfl, h1, h2, h3, h4, h5, rfl, kk⟩ := hh
    refine W.objInit hx hb hown (hts _ h3) (hts _ h4) (hts _ h5) rfl hml rfl hd (by omega) ?_ ?_
    · have h9 : ((r.map (ev_v (ev_am b a0 a1))).map fun v => v.category) = r.map fun v => v.category := by
        rw [List.map_map]
        exact List.map_congr_left fun v _ => ev_cat _ v
      have h8 : 2 * (F0 m pc lsA ((Value.ref a :: r).map (ev_v (ev_am b a0 a1)))).monitorRoom + ((r.map (ev_v (ev_am b a0 a1))).map fun v => v.category).sum ≤ 8 := lv_room (by rw [h9]; exact h2)
      omega
    · exact kk H locs cells slots hS hW hc1 hc2
  · obtain ⟨x, y, r, rfl, h1, h2, h3, h4, h5, h6, rfl, kk⟩ := hh
    refine va_mmin hx hb hml.symm hown (hts _ h3) (hts _ h4) (hts _ h5) (hts _ h6) (by omega) ?_ (by omega) (by omega) hd (kk H locs cells slots hS hW hc1 hc2)
    have h9 : ((r.map (ev_v (ev_am b a0 a1))).map fun v => v.category) = r.map fun v => v.category := by
      rw [List.map_map]
      exact List.map_congr_left fun v _ => ev_cat _ v
    rw [h9]
    have h8 : (r.map fun v => v.category).sum ≤ 8 := h2
    omega
  · exact hh.elim
end EVH
end
section
def ev_sl : List Value → ev_L
  | [] => []
  | v :: vs => if v.category = 2 then some v :: none :: ev_sl vs else some v :: ev_sl vs
def ev_en (As : List Value) (n : Nat) : ev_L := ev_sl As ++ List.replicate (n - (ev_sl As).length) none
def ev_rt (ret : Option FieldType) (i : Instr) (r : List Value) : Prop :=
  (i = .ireturn ∧ ∃ v, r = [.int v] ∧ ∃ ty, ret = some ty ∧ narrow ty (.int v) = .int v) ∨ (i = .lreturn ∧ ∃ v, r = [.long v] ∧ ret = some .long) ∨
  (i = .areturn ∧ ∃ v, r = [v] ∧ (v = .null ∨ ∃ a, v = .ref a) ∧ ∃ n, ret = some (.object n)) ∨ (i = .return_ ∧ r = [] ∧ ret = none)
/-- a call's target: the callee, its arguments, what is left of the stack -/
def ev_ca (M : ev_M) (i : Instr) (sz : Nat) (h : ev_H) (st : List Value) (M' : ev_M) (As rest : List Value) : Prop :=
  (plainName M'.1.cls = true ∧ Cond.code M'.1 M'.2.1 M'.2.2.1 M'.2.2.2 ∈ dp_tb ∧ Cond.initialized M'.1.cls ∈ dp_tb ∧ M'.2.2.1 ≤ 40 ∧ (M'.1.cls ≠ "java/lang/invoke/MethodHandle" ∧ M'.1.cls ≠ "java/lang/invoke/VarHandle") ∧ (ev_sl As).length ≤ M'.2.2.1 ∧ ev_cs rest ≤ 8) ∧
  ((∃ idx, i = .invokestatic idx ∧ st = As.reverse ++ rest ∧ Cond.static M'.1 ∈ dp_tb ∧ (parseMethodDescriptor M'.1.desc).map (fun d => d.parameters.length) = some As.length ∧ (Cond.methodLink M.1.cls idx M'.1 ∈ dp_tb ∨ ∃ host, Cond.methodLinkNest M.1.cls idx M'.1 host ∈ dp_nb)) ∨
   (∃ idx a B q ci fs, i = .invokevirtual idx ∧ As = .ref a :: B ∧ st = B.reverse ++ .ref a :: rest ∧ 2 ≤ a ∧ a < sz ∧ h a = .inr (ci, fs) ∧ dp_cl[ci]? = some q ∧ (parseMethodDescriptor M'.1.desc).map (fun d => d.parameters.length) = some B.length ∧ Cond.instanceMethod M'.1 ∈ dp_tb ∧
     ((Cond.selects q.1 M'.1 M'.1 ∈ dp_tb ∧ M'.1.cls = q.1 ∧ (Cond.methodLink M.1.cls idx M'.1 ∈ dp_tb ∨ ∃ host, Cond.methodLinkNest M.1.cls idx M'.1 host ∈ dp_nb)) ∨
      (∃ (x : MethodName) (b0 : ByteArray) (m0 : Nat) (r0 : Option FieldType), (x.cls ≠ "java/lang/invoke/MethodHandle" ∧ x.cls ≠ "java/lang/invoke/VarHandle") ∧ (parseMethodDescriptor x.desc).map (fun d => d.parameters.length) = some B.length ∧ Cond.methodLink M.1.cls idx x ∈ dp_tb ∧ Cond.sameMethod x.cls x.cls x.name x.desc ∈ dp_tb ∧ Cond.instanceMethod x ∈ dp_tb ∧ Cond.selects q.1 x M'.1 ∈ dp_tb ∧ Cond.code x b0 m0 r0 ∈ dp_tb))) ∨
   (∃ idx a B, i = .invokespecial idx ∧ As = .ref a :: B ∧ st = B.reverse ++ .ref a :: rest ∧ M'.1.name = "<init>" ∧ M'.2.2.2 = none ∧ Cond.instanceMethod M'.1 ∈ dp_tb ∧ (parseMethodDescriptor M'.1.desc).map (fun d => d.parameters.length) = some B.length ∧ (Cond.methodLink M.1.cls idx M'.1 ∈ dp_tb ∨ ∃ host, Cond.methodLinkNest M.1.cls idx M'.1 host ∈ dp_nb)) ∨
   (∃ idx a B q ci fs, i = .invokespecial idx ∧ As = .ref a :: B ∧ st = B.reverse ++ .ref a :: rest ∧ 2 ≤ a ∧ a < sz ∧ h a = .inr (ci, fs) ∧ dp_cl[ci]? = some q ∧ (parseMethodDescriptor M'.1.desc).map (fun d => d.parameters.length) = some B.length ∧ M'.1.name ≠ "<init>" ∧ Cond.methodLink M.1.cls idx M'.1 ∈ dp_tb ∧ Cond.sameMethod M'.1.cls M'.1.cls M'.1.name M'.1.desc ∈ dp_tb ∧ Cond.superclass M.1.cls M'.1.cls ∈ dp_tb ∧ Cond.instanceMethod M'.1 ∈ dp_tb))
/-- one step, over what is known of what comes behind it -/
def ev_st (xs : Nat → Int32) (L : Nat) (X : ev_X) : ev_X := fun d kc ks M sz h pc ls st Q => ∃ i len, decode M.2.1 pc = .ok (i, len) ∧
  ((len = ev_ln i ∧ ∃ pc' ls' st', ev_pu i pc ls st = some (pc', ls', st') ∧ X d kc ks M sz h pc' ls' st' Q) ∨
   (len = 3 ∧ ∃ cd ce r off tgt, ev_br i st = some (cd, ce, r, off) ∧ (pc : Int) + off = (tgt : Nat) ∧ (cd → X d kc ks M sz h tgt ls r Q) ∧ (ce → X d kc ks M sz h (pc + 3) ls r Q)) ∨
   (∃ dflt lo hi offs x r off tgt, i = .tableswitch dflt lo hi offs ∧ st = .int x :: r ∧ ((x.toInt < lo ∨ hi < x.toInt) ∧ off = dflt ∨ ¬ x.toInt < lo ∧ ¬ hi < x.toInt ∧ offs[(x.toInt - lo).toNat]? = some off) ∧ (pc : Int) + off = (tgt : Nat) ∧ X d kc ks M sz h tgt ls r Q) ∨
   (ev_hp xs L d M i kc ks sz h st (fun kc' ks' sz' h' len' st' => len' = len ∧ X d kc' ks' M sz' h' (pc + len') ls st' Q)) ∨
   (len = 3 ∧ ∃ M' As rest d' kc' ks' kc2 ks2 Qm, d = d' + 1 ∧ kc = kc' + kc2 ∧ ks = ks' + ks2 ∧ ev_ca M i sz h st M' As rest ∧ X d' kc' ks' M' sz h 0 (ev_en As M'.2.2.1) [] Qm ∧ ∀ sz' h' r, Qm sz' h' r → X d kc2 ks2 M sz' h' (pc + 3) ls (r ++ rest) Q) ∨
   (len = 1 ∧ ev_rt M.2.2.2 i st ∧ Q sz h st))
/-- the least that is closed under the step: from here the method comes to its end, with Q -/
def EV (xs : Nat → Int32) (L : Nat) : ev_X := fun d kc ks M sz h pc ls st Q => ∀ X : ev_X, (∀ d kc ks M sz h pc ls st Q, ev_st xs L X d kc ks M sz h pc ls st Q → X d kc ks M sz h pc ls st Q) → X d kc ks M sz h pc ls st Q
theorem ev_hp_mono {xs : Nat → Int32} {L d : Nat} {M : ev_M} {i : Instr} {kc ks sz : Nat} {h : ev_H} {st : List Value} {K K' : Nat → Nat → Nat → ev_H → Nat → List Value → Prop} (hk : ∀ a b c d e f, K a b c d e f → K' a b c d e f) (hh : ev_hp xs L d M i kc ks sz h st K) : ev_hp xs L d M i kc ks sz h st K' := by
  unfold ev_hp at hh ⊢
  split at hh
  · obtain ⟨a, r, ci, fs, k, v, h1, h2, h3, h4, h5, h6, kk⟩ := hh
    exact ⟨a, r, ci, fs, k, v, h1, h2, h3, h4, h5, h6, hk _ _ _ _ _ _ kk⟩
  · obtain ⟨a, r, ci, fs, k, v, h1, h2, h3, h4, h5, h6, kk⟩ := hh
    exact ⟨a, r, ci, fs, k, v, h1, h2, h3, h4, h5, h6, hk _ _ _ _ _ _ kk⟩
  · obtain ⟨a, r, j, h0, ⟨n, f, h1, h2, h3, h4, kk⟩ | ⟨h1, h4, kk⟩⟩ := hh
    · exact ⟨a, r, j, h0, Or.inl ⟨n, f, h1, h2, h3, h4, hk _ _ _ _ _ _ kk⟩⟩
    · exact ⟨a, r, j, h0, Or.inr ⟨h1, h4, hk _ _ _ _ _ _ kk⟩⟩
  · obtain ⟨a, r, j, h0, ⟨n, f, h1, h2, h3, h4, kk⟩ | ⟨h1, h4, kk⟩⟩ := hh
    · exact ⟨a, r, j, h0, Or.inl ⟨n, f, h1, h2, h3, h4, hk _ _ _ _ _ _ kk⟩⟩
    · exact ⟨a, r, j, h0, Or.inr ⟨h1, h4, hk _ _ _ _ _ _ kk⟩⟩
  · obtain ⟨a, r, j, n, f, h0, h1, h2, h3, h4, kk⟩ := hh
    exact ⟨a, r, j, n, f, h0, h1, h2, h3, h4, hk _ _ _ _ _ _ kk⟩
  · obtain ⟨a, r, j, t, n, f, h0, h1, h2, h3, h4, h5, kk⟩ := hh
    exact ⟨a, r, j, t, n, f, h0, h1, h2, h3, h4, h5, hk _ _ _ _ _ _ kk⟩
  · obtain ⟨a, r, j, x, n, f, h0, h1, h2, h3, h4, kk⟩ := hh
    exact ⟨a, r, j, x, n, f, h0, h1, h2, h3, h4, hk _ _ _ _ _ _ kk⟩
  · obtain ⟨a, r, j, x, n, f, h0, h1, h2, h3, h4, kk⟩ := hh
    exact ⟨a, r, j, x, n, f, h0, h1, h2, h3, h4, hk _ _ _ _ _ _ kk⟩
  · obtain ⟨a, r, j, x, n, f, h0, h1, h2, h3, h4, kk⟩ := hh
    exact ⟨a, r, j, x, n, f, h0, h1, h2, h3, h4, hk _ _ _ _ _ _ kk⟩
  · obtain ⟨a, r, j, v, t, n, f, ci, fs, q, h0, h1, h2, h3, h4, h5, h6, h7, h8, h9, h10, kk⟩ := hh
    exact ⟨a, r, j, v, t, n, f, ci, fs, q, h0, h1, h2, h3, h4, h5, h6, h7, h8, h9, h10, hk _ _ _ _ _ _ kk⟩
  · obtain ⟨a, r, h0, ⟨t, x, h1, h2, h3, h4, kk⟩ | ⟨h1, kk⟩ | ⟨h1, kk⟩⟩ := hh
    · exact ⟨a, r, h0, Or.inl ⟨t, x, h1, h2, h3, h4, hk _ _ _ _ _ _ kk⟩⟩
    · exact ⟨a, r, h0, Or.inr (Or.inl ⟨h1, hk _ _ _ _ _ _ kk⟩)⟩
    · exact ⟨a, r, h0, Or.inr (Or.inr ⟨h1, hk _ _ _ _ _ _ kk⟩)⟩
  · obtain ⟨r, n, N, t, x, kc', ks', h0, h1, h2, h3, h4, h5, h6, h7, kk⟩ := hh
    exact ⟨r, n, N, t, x, kc', ks', h0, h1, h2, h3, h4, h5, h6, h7, hk _ _ _ _ _ _ kk⟩
  · obtain ⟨r, n, N, t, C, kc', ks', h0, h1, h2, h3, h4, h5, h6, h7, h8, kk⟩ := hh
    exact ⟨r, n, N, t, C, kc', ks', h0, h1, h2, h3, h4, h5, h6, h7, h8, hk _ _ _ _ _ _ kk⟩
  · obtain ⟨ci, q, fs, kc', ks', h1, h2, h3, h4, h5, h6, h7, kk⟩ := hh
    exact ⟨ci, q, fs, kc', ks', h1, h2, h3, h4, h5, h6, h7, hk _ _ _ _ _ _ kk⟩
  · exact ⟨hh.1, hk _ _ _ _ _ _ hh.2⟩
  · obtain ⟨v, h1, kk⟩ := hh
    exact ⟨v, h1, hk _ _ _ _ _ _ kk⟩
  · obtain ⟨v, h1, kk⟩ := hh
    exact ⟨v, h1, hk _ _ _ _ _ _ kk⟩
  · obtain ⟨v, h1, kk⟩ := hh
    exact ⟨v, h1, hk _ _ _ _ _ _ kk⟩
  · obtain ⟨a, r, h0, h1, h2, h3, h4, h5, kk⟩ := hh
    exact ⟨a, r, h0, h1, h2, h3, h4, h5, hk _ _ _ _ _ _ kk⟩
  · obtain ⟨x, y, r, h0, h1, h2, h3, h4, h5, h6, kk⟩ := hh
    exact ⟨x, y, r, h0, h1, h2, h3, h4, h5, h6, hk _ _ _ _ _ _ kk⟩
  · exact hh.elim
theorem ev_st_mono {xs : Nat → Int32} {L : Nat} {X Y : ev_X} (hX : ∀ d kc ks M sz h pc ls st Q, X d kc ks M sz h pc ls st Q → Y d kc ks M sz h pc ls st Q) {d kc ks : Nat} {M : ev_M} {sz : Nat} {h : ev_H} {pc : Nat} {ls : ev_L} {st : List Value} {Q : ev_Q} (hh : ev_st xs L X d kc ks M sz h pc ls st Q) : ev_st xs L Y d kc ks M sz h pc ls st Q := by
  obtain ⟨i, len, hd, hc⟩ := hh
  refine ⟨i, len, hd, ?_⟩
  rcases hc with ⟨h0, pc', ls', st', h1, h2⟩ | ⟨h0, cd, ce, r, off, tgt, h1, h2, h3, h4⟩ | ⟨dflt, lo, hi, offs, x, r, off, tgt, h1, h2, h3, h4, h5⟩ | h1 | ⟨h0, M', As, rest, d', kc', ks', kc2, ks2, Qm, h1, h2, h3, h4, h5, h6⟩ | h1
  · exact Or.inl ⟨h0, pc', ls', st', h1, hX _ _ _ _ _ _ _ _ _ _ h2⟩
  · exact Or.inr (Or.inl ⟨h0, cd, ce, r, off, tgt, h1, h2, fun q => hX _ _ _ _ _ _ _ _ _ _ (h3 q), fun q => hX _ _ _ _ _ _ _ _ _ _ (h4 q)⟩)
  · exact Or.inr (Or.inr (Or.inl ⟨dflt, lo, hi, offs, x, r, off, tgt, h1, h2, h3, h4, hX _ _ _ _ _ _ _ _ _ _ h5⟩))
  · exact Or.inr (Or.inr (Or.inr (Or.inl (ev_hp_mono (fun _ _ _ _ _ _ q => ⟨q.1, hX _ _ _ _ _ _ _ _ _ _ q.2⟩) h1))))
  · exact Or.inr (Or.inr (Or.inr (Or.inr (Or.inl ⟨h0, M', As, rest, d', kc', ks', kc2, ks2, Qm, h1, h2, h3, h4, hX _ _ _ _ _ _ _ _ _ _ h5, fun a b c q => hX _ _ _ _ _ _ _ _ _ _ (h6 a b c q)⟩))))
  · exact Or.inr (Or.inr (Or.inr (Or.inr (Or.inr h1))))
theorem EV.in {xs : Nat → Int32} {L d kc ks : Nat} {M : ev_M} {sz : Nat} {h : ev_H} {pc : Nat} {ls : ev_L} {st : List Value} {Q : ev_Q} (hh : ev_st xs L (EV xs L) d kc ks M sz h pc ls st Q) : EV xs L d kc ks M sz h pc ls st Q :=
  fun X hX => hX _ _ _ _ _ _ _ _ _ _ (ev_st_mono (fun _ _ _ _ _ _ _ _ _ _ q => q X hX) hh)
theorem EV.post {xs : Nat → Int32} {L d kc ks : Nat} {M : ev_M} {sz : Nat} {h : ev_H} {pc : Nat} {ls : ev_L} {st : List Value} {Q Q' : ev_Q} (hq : ∀ a b c, Q a b c → Q' a b c) (hh : EV xs L d kc ks M sz h pc ls st Q) : EV xs L d kc ks M sz h pc ls st Q' := by
  refine hh (fun d kc ks M sz h pc ls st Q => ∀ Q' : ev_Q, (∀ a b c, Q a b c → Q' a b c) → EV xs L d kc ks M sz h pc ls st Q') ?_ Q' hq
  intro d kc ks M sz h pc ls st Q hs Q' hq
  obtain ⟨i, len, hd, hc⟩ := hs
  refine EV.in ⟨i, len, hd, ?_⟩
  rcases hc with ⟨h0, pc', ls', st', h1, h2⟩ | ⟨h0, cd, ce, r, off, tgt, h1, h2, h3, h4⟩ | ⟨dflt, lo, hi, offs, x, r, off, tgt, h1, h2, h3, h4, h5⟩ | h1 | ⟨h0, M', As, rest, d', kc', ks', kc2, ks2, Qm, h1, h2, h3, h4, h5, h6⟩ | h1
  · exact Or.inl ⟨h0, pc', ls', st', h1, h2 Q' hq⟩
  · exact Or.inr (Or.inl ⟨h0, cd, ce, r, off, tgt, h1, h2, fun q => h3 q Q' hq, fun q => h4 q Q' hq⟩)
  · exact Or.inr (Or.inr (Or.inl ⟨dflt, lo, hi, offs, x, r, off, tgt, h1, h2, h3, h4, h5 Q' hq⟩))
  · exact Or.inr (Or.inr (Or.inr (Or.inl (ev_hp_mono (fun _ _ _ _ _ _ q => ⟨q.1, q.2 Q' hq⟩) h1))))
  · exact Or.inr (Or.inr (Or.inr (Or.inr (Or.inl ⟨h0, M', As, rest, d', kc', ks', kc2, ks2, Qm, h1, h2, h3, h4, h5 Qm (fun _ _ _ q => q), fun a b c q => h6 a b c q Q' hq⟩))))
  · exact Or.inr (Or.inr (Or.inr (Or.inr (Or.inr ⟨h1.1, h1.2.1, hq _ _ _ h1.2.2⟩))))
end
section
def ev_W (l : Launch) (D : va_G) (dA : Nat → ClassId) (b a0 a1 : Nat) (xs : Nat → Int32) (L : Nat) : ev_X := fun d kc ks M sz h pc ls st Q =>
  ∀ (p : Program) (e : Env) (R : Room) (s : State) (m : MethodId) (args : Array Value) (below : List Frame) (meth : Method) (c : Code) (H : Heap) (locs : List Loc) (cells slots mc ms : Nat) (lsA : Array Slot) (Qf : State → Prop),
    p.tables.exec = Jvm.exec → c.code = M.2.1 → c.maxLocals = M.2.2.1 → s.vm.findClass M.1.cls = some m.cls → (∀ w ∈ dp_tb, w.before args s = true) → meth.name = M.1.name → ev_CT D dA b a0 a1 xs L s →
    va_S (ev_A b) s.heap H locs → ev_WD D dA b a0 a1 sz h H → ev_LV (ev_am b a0 a1) lsA M.2.2.1 ls → d ≤ R.frames → 60 * d ≤ R.locals → cells + kc ≤ mc → slots + ks ≤ ms → mc ≤ R.cells → ms ≤ R.slots →
    (∀ (pc : Nat) (lsB : Array Slot) (H : Heap) (locs : List Loc) (sz : Nat) (h : ev_H) (r : List Value) (i : Instr), Q sz h r → ev_WD D dA b a0 a1 sz h H → va_S (ev_A b) s.heap H locs → decode M.2.1 pc = .ok (i, 1) → ev_rt M.2.2.2 i r → W p l e R s m args below meth c H locs mc ms Qf (F0 m pc lsB (r.map (ev_v (ev_am b a0 a1))))) →
    W p l e R s m args below meth c H locs cells slots Qf (F0 m pc lsA (st.map (ev_v (ev_am b a0 a1))))
theorem ev_CT.moved {D : va_G} {dA : Nat → ClassId} {b a0 a1 : Nat} {xs : Nat → Int32} {L : Nat} {s U : State} {H : Heap} {locs : List Loc} (h : ev_CT D dA b a0 a1 xs L s) (hS : va_S (ev_A b) s.heap H locs) (hU : U.heap = H) (hW : s.WarmedH U.vm) : ev_CT D dA b a0 a1 xs L U := by
  obtain ⟨h1, h2, h3, h4, h5, h6, h7⟩ := h
  have hlt : a0 < s.heap.size := by omega
  refine ⟨va_K.moved hW.alike h1, ?_, ?_, ?_, fun w hw => dp_warm (List.mem_filter.mp hw).2 hW (h5 w hw), h6, by rw [hU]; exact Nat.le_trans h7 hS.1⟩
  · rw [hU]
    exact (h2.kept (hS.2.1 a0 hlt (Nat.not_le.mpr h6))).moved hW.alike
  · rw [hU]
    exact (h3.kept (fun a g1 g2 => hS.2.1 a g1 g2)).moved hW.alike
  · rw [hU]
    exact (h4.kept (fun a g1 g2 => hS.2.1 a g1 g2)).moved hW.alike
theorem ev_CT.vm {D : va_G} {dA : Nat → ClassId} {b a0 a1 : Nat} {xs : Nat → Int32} {L : Nat} {s U : State} (h : ev_CT D dA b a0 a1 xs L s) (hU : U.heap = s.heap) (hv : s.vm = U.vm) : ev_CT D dA b a0 a1 xs L U := by
  have hal : s.vm.Alike U.vm := by rw [hv]; exact Vm.Alike.refl _
  obtain ⟨h1, h2, h3, h4, h5, h6, h7⟩ := h
  refine ⟨va_K.moved hal h1, ?_, ?_, ?_, fun w hw => dp_vm (List.mem_filter.mp hw).2 hv (h5 w hw), h6, by rw [hU]; exact h7⟩
  · rw [hU]; exact h2.moved hal
  · rw [hU]; exact h3.moved hal
  · rw [hU]; exact h4.moved hal
theorem ev_sl_lg (am : Nat → Nat) : ∀ As : List Value, (lg_sl (As.map (ev_v am))).length = (ev_sl As).length
  | [] => rfl
  | v :: vs => by
    have ih := ev_sl_lg am vs
    unfold lg_sl at ih ⊢
    rw [List.map_cons, List.flatMap_cons, List.length_append, ih, ev_cat]
    show _ = (if v.category = 2 then some v :: none :: ev_sl vs else some v :: ev_sl vs).length
    by_cases hc : v.category = 2
    · rw [if_pos hc, if_pos hc]
      simp only [List.length_cons, List.length_nil]
      omega
    · rw [if_neg hc, if_neg hc]
      simp only [List.length_cons, List.length_nil]
      omega
theorem ev_sl_at (am : Nat → Nat) : ∀ (As : List Value) (i j : Nat) (w : Value), (ev_sl As)[j]? = some (some w) → (i + j, ev_v am w) ∈ lv_args i (As.map (ev_v am))
  | [], i, j, w, h => by simp [ev_sl] at h
  | v :: vs, i, j, w, h => by
    rw [List.map_cons]
    unfold lv_args
    rw [ev_cat]
    unfold ev_sl at h
    by_cases hc : v.category = 2
    · rw [if_pos hc] at h ⊢
      match j, h with
      | 0, h =>
        cases h
        exact List.mem_cons_self
      | 1, h => cases h
      | j + 2, h =>
        have := ev_sl_at am vs (i + 2) j w h
        exact List.mem_cons_of_mem _ (by rw [show i + (j + 2) = i + 2 + j by omega]; exact this)
    · rw [if_neg hc] at h ⊢
      match j, h with
      | 0, h =>
        cases h
        exact List.mem_cons_self
      | j + 1, h =>
        have := ev_sl_at am vs (i + 1) j w h
        exact List.mem_cons_of_mem _ (by rw [show i + (j + 1) = i + 1 + j by omega]; exact this)
theorem ev_LV.entry (am : Nat → Nat) (As : List Value) (n : Nat) (h : (ev_sl As).length ≤ n) : ev_LV am ((lg_sl (As.map (ev_v am)) ++ List.replicate (n - (lg_sl (As.map (ev_v am))).length) Slot.unset).toArray) n (ev_en As n) := by
  have hl := lv_entry (As.map (ev_v am)) (n := n) (by rw [ev_sl_lg]; exact h)
  refine ⟨hl.1, hl.2.1, ?_, fun j w hw => ?_⟩
  · unfold ev_en
    rw [List.length_append, List.length_replicate]
    omega
  · unfold ev_en at hw
    by_cases hj : j < (ev_sl As).length
    · rw [List.getElem?_append_left hj] at hw
      have := ev_sl_at am As 0 j w hw
      rw [Nat.zero_add] at this
      exact hl.2.2 (j, ev_v am w) this
    · rw [List.getElem?_append_right (by omega), List.getElem?_replicate] at hw
      split at hw <;> cases hw
/-- what a callee leaves -/
def ev_Qc (D : va_G) (dA : Nat → ClassId) (b a0 a1 : Nat) (Q : ev_Q) : Array Value → State → Outcome → State → Prop := fun _ st oc t => ∃ (sz : Nat) (h : ev_H) (r : List Value), oc = .returned (r.map (ev_v (ev_am b a0 a1))).head? ∧ r.length ≤ 1 ∧ Q sz h r ∧ ev_WD D dA b a0 a1 sz h t.heap ∧ va_F (ev_A b) st t
abbrev ev_Pc (D : va_G) (dA : Nat → ClassId) (b a0 a1 : Nat) (xs : Nat → Int32) (L sz : Nat) (h : ev_H) (As : List Value) : Array Value → State → Prop := va_Pc (As.map (ev_v (ev_am b a0 a1))) (fun U => ev_CT D dA b a0 a1 xs L U ∧ ev_WD D dA b a0 a1 sz h U.heap)
abbrev ev_rm (d kc ks : Nat) : Room := { frames := d, cells := kc, slots := ks, locals := 60 * d }
abbrev ev_ws (M : ev_M) : List Cond := Cond.code M.1 M.2.1 M.2.2.1 M.2.2.2 :: dp_tb
theorem ev_met {l : Launch} {D : va_G} {dA : Nat → ClassId} {b a0 a1 : Nat} {xs : Nat → Int32} {L d kc ks : Nat} {M : ev_M} {sz : Nat} {h : ev_H} {As : List Value} {Q : ev_Q} (hy : plainName M.1.cls = true) (hlen : (ev_sl As).length ≤ M.2.2.1) (hE : ev_W l D dA b a0 a1 xs L d kc ks M sz h 0 (ev_en As M.2.2.1) [] Q) :
    Met l M.1 (ev_ws M) (ev_rm d kc ks) (ev_Pc D dA b a0 a1 xs L sz h As) (ev_Qc D dA b a0 a1 Q) kc ks (ev_A b) := by
  refine Met.ofW (cc := M.2.1) (maxL := M.2.2.1) (ret := M.2.2.2) hy rfl ?_
  intro p e s m args below meth c s₁ B hml hv
  obtain ⟨rfl, hC, hWD⟩ := hv
  have hx := B.exec
  have hb := B.bytes
  have hr := B.returns
  have hts := atoms_spec (ws := ev_ws M) B.pre
  have hown : s.vm.findClass M.1.cls = some m.cls := findClass_of_methodNamed B.named
  have hlocks := B.notSynchronized
  have hin : meth.name = M.1.name := (name_of_methodNamed B.named B.method).1
  rw [lg_entry_eq]
  refine hE p e _ s m _ below meth c s.heap [] 0 0 kc ks _ _ hx hb hml hown (fun w hw => hts w (List.mem_cons_of_mem _ hw)) hin hC va_S.rf hWD (ev_LV.entry _ As _ hlen) (Nat.le_refl _) (Nat.le_refl _) (by omega) (by omega) (Nat.le_refl _) (Nat.le_refl _) ?_
  intro pc lsB H locs sz' h' r i hq hW' hS hd hrt
  rcases hrt with ⟨rfl, v, rfl, ty, h1, h2⟩ | ⟨rfl, v, rfl, h1⟩ | ⟨rfl, v, rfl, h1, n, h2⟩ | ⟨rfl, rfl, h1⟩
  · exact W.zret hx hb (hr.trans h1) h2 (fun t ht hW => ⟨sz', h', [.int v], rfl, Nat.le_refl _, hq, by rw [ht]; exact hW', hS.F ht⟩) hS.2.2 hd
  · exact W.lret hx hb (hr.trans h1) (fun t ht hW => ⟨sz', h', [.long v], rfl, Nat.le_refl _, hq, by rw [ht]; exact hW', hS.F ht⟩) hS.2.2 hd
  · refine W.aret (v := ev_v (ev_am b a0 a1) v) hx hb (hr.trans h2) (Or.inl ⟨_, rfl⟩) ?_ (fun t ht hW => ⟨sz', h', [v], rfl, Nat.le_refl _, hq, by rw [ht]; exact hW', hS.F ht⟩) hS.2.2 hd
    rcases h1 with rfl | ⟨a, rfl⟩
    · exact Or.inl rfl
    · exact Or.inr ⟨_, rfl⟩
  · exact W.vret hx hb (hr.trans h1) (fun t ht hW => ⟨sz', h', [], rfl, Nat.zero_le _, hq, by rw [ht]; exact hW', hS.F ht⟩) hS.2.2 hd
end
section
section EVC
variable {p : Program} {l : Launch} {e : Env} {R : Room} {s : State} {m : MethodId} {args : Array Value} {below : List Frame} {meth : Method} {c : Code} {H : Heap} {locs : List Loc} {cells slots : Nat} {Qf : State → Prop}
variable {D : va_G} {dA : Nat → ClassId} {b a0 a1 : Nat} {xs : Nat → Int32} {L d : Nat} {M : ev_M} {kc ks sz : Nat} {h : ev_H} {pc len mc ms : Nat} {lsA : Array Slot} {st : List Value}
theorem ev_callG {Qm : ev_Q} {st0 rest : List Value} {av : Array Value} (hr : va_Run p l e R s m args below meth c H locs cells slots kc ks (F0 m pc lsA st0) rest (ev_Qc D dA b a0 a1 Qm av) (ev_A b)) (hS : va_S (ev_A b) s.heap H locs)
    (kk : ∀ (sz' : Nat) (h' : ev_H) (r : List Value) (H1 : Heap) (locs1 : List Loc), Qm sz' h' r → ev_WD D dA b a0 a1 sz' h' H1 → va_S (ev_A b) s.heap H1 locs1 → W p l e R s m args below meth c H1 locs1 (cells + kc) (slots + ks) Qf (F0 m (pc + 3) lsA (r.map (ev_v (ev_am b a0 a1)) ++ rest))) :
    W p l e R s m args below meth c H locs cells slots Qf (F0 m pc lsA st0) := by
  intro T hT X
  obtain ⟨v, st₀, t, T', L', h0, X', hL, e1, e2, ⟨sz', h', r, hv, hlen, hq, hWD, hz, hk⟩, hst⟩ := hr T hT X
  rw [h0] at hz hk
  have hvr : v.toList = r.map (ev_v (ev_am b a0 a1)) := by
    have hv := Outcome.returned.inj hv
    subst hv
    match r, hlen with
    | [], _ => rfl
    | [x], _ => rfl
  obtain ⟨t2, g1, g2⟩ := kk sz' h' r T'.heap (locs ++ L') hq (by rw [e1]; exact hWD) ⟨Nat.le_trans hS.1 (by rw [e1]; exact hz), fun q h1 h2 => by rw [e1, hk q (Nat.lt_of_lt_of_le h1 hS.1) h2]; exact hS.2.1 q h1 h2, fun q hq => by
      rcases List.mem_append.mp hq with h | h
      · exact hS.2.2 q h
      · exact hL q h⟩ T' rfl X'
  refine ⟨t2, hst t2 ?_, g2⟩
  rw [hvr]
  exact g1
theorem ev_good (hcode : Cond.code M.1 M.2.1 M.2.2.1 M.2.2.2 ∈ dp_tb) : GoodIn dp_tb (ev_ws M) := by
  intro w hw
  rcases List.mem_cons.mp hw with rfl | hw
  · exact ⟨hcode, dp_tbGood _ hcode⟩
  · exact ⟨hw, dp_tbGood _ hw⟩
theorem ev_blind {As : List Value} : FrameBlind (ev_Pc D dA b a0 a1 xs L sz h As) := fun a U g mk q => ⟨q.1, q.2.1.vm rfl rfl, q.2.2⟩
theorem ev_catsum (am : Nat → Nat) (r : List Value) : ((r.map (ev_v am)).map fun v => v.category).sum = ev_cs r := by
  unfold ev_cs
  rw [List.map_map]
  congr 1
  exact List.map_congr_left fun v _ => ev_cat _ v
set_option maxHeartbeats 4000000 in
theorem ev_call_ok (hx : p.tables.exec = Jvm.exec) (hb : c.code = M.2.1) (hml : c.maxLocals = M.2.2.1) (hsz : lsA.size = M.2.2.1) (hown : s.vm.findClass M.1.cls = some m.cls) (hts : ∀ w ∈ dp_tb, w.before args s = true) (hC : ev_CT D dA b a0 a1 xs L s) (hS : va_S (ev_A b) s.heap H locs) (hW : ev_WD D dA b a0 a1 sz h H)
    (hfr : d + 1 ≤ R.frames) (hlo : 60 * (d + 1) ≤ R.locals) (hc1 : cells + kc ≤ R.cells) (hc2 : slots + ks ≤ R.slots) {i : Instr} (hd : decode M.2.1 pc = .ok (i, 3)) {M' : ev_M} {As rest : List Value} {Qm : ev_Q} (hca : ev_ca M i sz h st M' As rest)
    (hE : ev_W l D dA b a0 a1 xs L d kc ks M' sz h 0 (ev_en As M'.2.2.1) [] Qm)
    (kk : ∀ (sz' : Nat) (h' : ev_H) (r : List Value) (H1 : Heap) (locs1 : List Loc), Qm sz' h' r → ev_WD D dA b a0 a1 sz' h' H1 → va_S (ev_A b) s.heap H1 locs1 → W p l e R s m args below meth c H1 locs1 (cells + kc) (slots + ks) Qf (F0 m (pc + 3) lsA ((r ++ rest).map (ev_v (ev_am b a0 a1))))) :
    W p l e R s m args below meth c H locs cells slots Qf (F0 m pc lsA (st.map (ev_v (ev_am b a0 a1)))) := by
  obtain ⟨⟨hpl, hcode, hini, hmx, hmh, hlen, hcs⟩, hk⟩ := hca
  have hMet := ev_met hpl hlen hE
  have hG := ev_good hcode
  have hR : (ev_rm d kc ks).frames + 1 ≤ R.frames ∧ 8 + (M'.2.2.1 + 11) + (ev_rm d kc ks).locals ≤ R.locals := ⟨hfr, by show 8 + (M'.2.2.1 + 11) + 60 * d ≤ R.locals; omega⟩
  have S : CallFix p m c M.2.1 M.2.2.1 s args dp_tb M.1.cls := ⟨hx, hb, hml, hown, hts⟩
  have hroom : 2 * (F0 m pc lsA (st.map (ev_v (ev_am b a0 a1)))).monitorRoom + ((rest.map (ev_v (ev_am b a0 a1))).map fun v => v.category).sum ≤ 8 := lv_room (by rw [ev_catsum]; exact hcs)
  have hPre : ∀ U : State, U.heap = H → s.WarmedH U.vm → ev_Pc D dA b a0 a1 xs L sz h As (As.map (ev_v (ev_am b a0 a1))).toArray U := fun U hU hWm => ⟨rfl, hC.moved hS hU hWm, by rw [hU]; exact hW⟩
  have kk2 : ∀ (sz' : Nat) (h' : ev_H) (r : List Value) (H1 : Heap) (locs1 : List Loc), Qm sz' h' r → ev_WD D dA b a0 a1 sz' h' H1 → va_S (ev_A b) s.heap H1 locs1 → W p l e R s m args below meth c H1 locs1 (cells + kc) (slots + ks) Qf (F0 m (pc + 3) lsA (r.map (ev_v (ev_am b a0 a1)) ++ rest.map (ev_v (ev_am b a0 a1)))) := fun sz' h' r H1 locs1 g1 g2 g3 => by
    have := kk sz' h' r H1 locs1 g1 g2 g3
    rwa [List.map_append] at this
  rcases hk with ⟨idx, rfl, rfl, h1, h2, hlk⟩ | ⟨idx, a, B, q, ci, fs, rfl, rfl, rfl, g1, g2, g3, g4, h2, h1, hsel⟩ | ⟨idx, a, B, rfl, rfl, rfl, h1, h2, h3, h4, hlk⟩ | ⟨idx, a, B, q, ci, fs, rfl, rfl, rfl, g1, g2, g3, g4, h2, h3, h4, h5, h6, h7⟩
  · have hstk : (F0 m pc lsA ((As.reverse ++ rest).map (ev_v (ev_am b a0 a1)))).stack = (As.map (ev_v (ev_am b a0 a1))).reverse ++ rest.map (ev_v (ev_am b a0 a1)) := by
      show (As.reverse ++ rest).map _ = _
      rw [List.map_append, List.map_reverse]
    rcases hlk with hlk | ⟨host, hlk⟩
    · have cw := callB_of (R := R) (mc := kc) (ms := ks) (rm := ev_rm d kc ks) As.length hts hG rfl rfl rfl (hts _ hini) (hts _ hlk) ⟨hmh.1, hmh.2, h2⟩ hR
      exact ev_callG (va_runS S hMet ⟨cw, hts _ h1⟩ ⟨ev_blind, hPre⟩ rfl (by rw [List.length_map]) hsz hstk hroom hd ⟨hc1, hc2⟩) hS kk2
    · have cw := va_cnB (R := R) (mc := kc) (ms := ks) (rm := ev_rm d kc ks) As.length hts hG rfl rfl rfl (hC.2.2.2.2.1 _ hlk) (hts _ hini) ⟨hmh.1, hmh.2, h2⟩ hR
      exact ev_callG (va_runSN S hMet ⟨cw, hts _ h1, trivial⟩ ⟨ev_blind, hPre⟩ rfl (by rw [List.length_map]) hsz hstk hroom hd ⟨hc1, hc2⟩) hS kk2
  · have hstk : (F0 m pc lsA ((B.reverse ++ Value.ref a :: rest).map (ev_v (ev_am b a0 a1)))).stack = (B.map (ev_v (ev_am b a0 a1))).reverse ++ Value.ref (ev_am b a0 a1 a) :: rest.map (ev_v (ev_am b a0 a1)) := by
      show (B.reverse ++ Value.ref a :: rest).map _ = _
      rw [List.map_append, List.map_reverse]
      rfl
    have hat := hW.2.2 a g1 g2
    rw [g3, ev_ob] at hat
    have hrec := va_recv hC.1 (ev_P1 hat) (q0 := 0) g4 rfl
    rcases hsel with ⟨hs1, hs2, hlk | ⟨host, hlk⟩⟩ | ⟨x, b0, m0, r0, hm0, hp0, hl1, hl2, hl3, hl4, hl5⟩
    · have cw := callB_of (R := R) (mc := kc) (ms := ks) (rm := ev_rm d kc ks) B.length hts hG rfl rfl rfl (hts _ hini) (hts _ hlk) ⟨hmh.1, hmh.2, h2⟩ hR
      exact ev_callG (va_runV (C := q.1) S hMet ⟨cw, hts _ h1, hts _ hs1⟩ ⟨ev_blind, hrec, hPre⟩ rfl (by rw [List.length_map]) hsz hstk hroom hd ⟨hc1, hc2⟩) hS kk2
    · have cw := va_cnB (R := R) (mc := kc) (ms := ks) (rm := ev_rm d kc ks) B.length hts hG rfl rfl rfl (hC.2.2.2.2.1 _ hlk) (hts _ hini) ⟨hmh.1, hmh.2, h2⟩ hR
      exact ev_callG (va_runVN (C := q.1) S hMet ⟨cw, hts _ h1, hts _ hs1⟩ ⟨ev_blind, hrec, hPre⟩ rfl (by rw [List.length_map]) hsz hstk hroom hd ⟨hc1, hc2⟩) hS kk2
    · have hGU : GoodIn dp_tb (va_wsO M.1.cls idx q.1 x.cls x M'.1 (ev_ws M')) := by
        intro w hw
        unfold va_wsO at hw
        rcases List.mem_append.mp hw with hw | hw
        · have hm : w ∈ dp_tb := by
            simp only [List.mem_cons, List.not_mem_nil, or_false] at hw
            rcases hw with rfl | rfl | rfl | rfl | rfl | rfl
            · exact hl1
            · exact hl2
            · exact hl3
            · exact hl4
            · exact h1
            · exact hini
          exact ⟨hm, dp_tbGood _ hm⟩
        · exact hG w hw
      have cw := va_cwO (R := R) (mc := kc) (ms := ks) (rm := ev_rm d kc ks) B.length hts hGU rfl rfl rfl hl5 ⟨hm0.1, hm0.2, hp0⟩ hR
      exact ev_callG (va_runU S hMet cw ⟨ev_blind, hrec, hPre⟩ rfl (by rw [List.length_map]) hsz hstk hroom hd ⟨hc1, hc2⟩) hS kk2
  · have hstk : (F0 m pc lsA ((B.reverse ++ Value.ref a :: rest).map (ev_v (ev_am b a0 a1)))).stack = (B.map (ev_v (ev_am b a0 a1))).reverse ++ Value.ref (ev_am b a0 a1 a) :: rest.map (ev_v (ev_am b a0 a1)) := by
      show (B.reverse ++ Value.ref a :: rest).map _ = _
      rw [List.map_append, List.map_reverse]
      rfl
    obtain ⟨y', cc', mL', rt'⟩ := M'
    have h2 : rt' = none := h2
    subst h2
    rcases hlk with hlk | ⟨host, hlk⟩
    · have cw := callB_of (R := R) (mc := kc) (ms := ks) (rm := ev_rm d kc ks) B.length hts hG rfl rfl rfl (hts _ hini) (hts _ hlk) ⟨hmh.1, hmh.2, h4⟩ hR
      exact ev_callG (va_runI S hMet ⟨cw, h1, hts _ h3⟩ ⟨ev_blind, hPre⟩ rfl (by rw [List.length_map]) hsz hstk hroom hd ⟨hc1, hc2⟩) hS kk2
    · have cw := va_cnB (R := R) (mc := kc) (ms := ks) (rm := ev_rm d kc ks) B.length hts hG rfl rfl rfl (hC.2.2.2.2.1 _ hlk) (hts _ hini) ⟨hmh.1, hmh.2, h4⟩ hR
      exact ev_callG (va_runIN S hMet ⟨cw, h1, hts _ h3⟩ ⟨ev_blind, hPre⟩ rfl (by rw [List.length_map]) hsz hstk hroom hd ⟨hc1, hc2⟩) hS kk2
  · have hstk : (F0 m pc lsA ((B.reverse ++ Value.ref a :: rest).map (ev_v (ev_am b a0 a1)))).stack = (B.map (ev_v (ev_am b a0 a1))).reverse ++ Value.ref (ev_am b a0 a1 a) :: rest.map (ev_v (ev_am b a0 a1)) := by
      show (B.reverse ++ Value.ref a :: rest).map _ = _
      rw [List.map_append, List.map_reverse]
      rfl
    have hat := hW.2.2 a g1 g2
    rw [g3, ev_ob] at hat
    have hrec := va_recv hC.1 (ev_P1 hat) (q0 := 0) g4 rfl
    have hGU : GoodIn dp_tb (va_wsSU M.1.cls idx M'.1 (ev_ws M')) := by
      intro w hw
      unfold va_wsSU at hw
      rcases List.mem_append.mp hw with hw | hw
      · have hm : w ∈ dp_tb := by
          simp only [List.mem_cons, List.not_mem_nil, or_false] at hw
          rcases hw with rfl | rfl | rfl | rfl | rfl
          · exact h4
          · exact h5
          · exact h6
          · exact h7
          · exact hini
        exact ⟨hm, dp_tbGood _ hm⟩
      · exact hG w hw
    have cw := va_cwSU (R := R) (mc := kc) (ms := ks) (rm := ev_rm d kc ks) B.length hts hGU rfl rfl rfl ⟨h3, h2⟩ hR
    exact ev_callG (va_runSU (C := q.1) (hC.1.1 ci _ g4).2 S hMet cw ⟨ev_blind, hrec, hPre⟩ rfl (by rw [List.length_map]) hsz hstk hroom hd ⟨hc1, hc2⟩) hS kk2
end EVC
/-- what EV says holds of the machine -/
theorem ev_sound {l : Launch} {D : va_G} {dA : Nat → ClassId} {b a0 a1 : Nat} {xs : Nat → Int32} {L d kc ks : Nat} {M : ev_M} {sz : Nat} {h : ev_H} {pc : Nat} {ls : ev_L} {st : List Value} {Q : ev_Q} (hh : EV xs L d kc ks M sz h pc ls st Q) : ev_W l D dA b a0 a1 xs L d kc ks M sz h pc ls st Q := by
  refine hh (ev_W l D dA b a0 a1 xs L) ?_
  intro d kc ks M sz h pc ls st Q hs
  intro p e R s m args below meth c H locs cells slots mc ms lsA Qf hx hb hml hown hts hin hC hS hW hl hfr hlo hc1 hc2 hmc hms hend
  obtain ⟨i, len, hd, hc⟩ := hs
  rcases hc with ⟨rfl, pc', ls', st', h1, h2⟩ | ⟨rfl, cd, ce, r, off, tgt, h1, h2, h3, h4⟩ | ⟨dflt, lo, hi, offs, x, r, off, tgt, rfl, rfl, h3, h4, h5⟩ | h1 | ⟨rfl, M', As, rest, d', kc', ks', kc2, ks2, Qm, rfl, rfl, rfl, h4, h5, h6⟩ | ⟨rfl, h1, h2⟩
  · exact ev_pu_ok hx hb h1 hd hl (fun lsB hlB => h2 p e R s m args below meth c H locs cells slots mc ms lsB Qf hx hb hml hown hts hin hC hS hW hlB hfr hlo hc1 hc2 hmc hms hend)
  · exact ev_br_ok hx hb h1 hd h2 (fun q => h3 q p e R s m args below meth c H locs cells slots mc ms lsA Qf hx hb hml hown hts hin hC hS hW hl hfr hlo hc1 hc2 hmc hms hend) (fun q => h4 q p e R s m args below meth c H locs cells slots mc ms lsA Qf hx hb hml hown hts hin hC hS hW hl hfr hlo hc1 hc2 hmc hms hend)
  · have k5 := h5 p e R s m args below meth c H locs cells slots mc ms lsA Qf hx hb hml hown hts hin hC hS hW hl hfr hlo hc1 hc2 hmc hms hend
    rcases h3 with ⟨h3, rfl⟩ | ⟨h3, h6, h7⟩
    · exact lv_tableOut hx hb hd h3 h4 k5
    · exact lv_tableIn hx hb hd h3 h6 h7 h4 k5
  · refine ev_hp_ok hx hb (hl.1.trans hml.symm) hown hts hin hC hS hW hfr hlo hmc hms hc1 hc2 hd (ev_hp_mono (fun kc' ks' sz' h' len' st' q => ⟨q.1, ?_⟩) h1)
    intro H' locs' cells' slots' g1 g2 g3 g4
    exact q.2 p e R s m args below meth c H' locs' cells' slots' mc ms lsA Qf hx hb hml hown hts hin hC g1 g2 hl hfr hlo g3 g4 hmc hms hend
  · refine ev_call_ok (kc := kc') (ks := ks') hx hb hml hl.1 hown hts hC hS hW hfr hlo (by omega) (by omega) hd h4 h5 ?_
    intro sz' h' r H1 locs1 g1 g2 g3
    exact h6 sz' h' r g1 p e R s m args below meth c H1 locs1 _ _ mc ms lsA Qf hx hb hml hown hts hin hC g3 g2 hl hfr hlo (by omega) (by omega) hmc hms hend
  · exact W.widen (by omega) (by omega) (hend pc lsA H locs sz h st i h2 hW hS hd h1)
end
section
/-! THE CLAIM OUT OF ONE WALK OF THE LAW'S BODY. Your part is whole_start (and what it stands on); all else here is the same for every law, but numbers. -/
def R_law : String := "SharedSenseLaw"
def lw_P (b : Addr) (xs : List Int32) (args : Array Value) (s : State) : Prop := args = #[.ref b] ∧ s.IntsAt b xs ∧ xs.length ≤ 2048 ∧ (Jvm.Cond.and given_1 narrow_1).before args s = true
def lw_Q (_ : Array Value) (s : State) (o : Outcome) (t : State) : Prop := o = .returned (some (.int 1)) ∧ Framed s o t [] 600000 7302250
def lw_Z (below : List Frame) (a : Array Value) (s : State) : State → Prop := fun t => ∃ o, t.status = .running ∧ Ended t below o ∧ lw_Q a s o t
/-- the law's own end, with 1 on the stack, nothing written that was there before, its room as the claim has it -/
theorem lw_ret {p : Program} {l : Launch} {e : Env} {s : State} {m : MethodId} {below : List Frame} {meth : Method} {c : Code} {b : Nat} (hx : p.tables.exec = Jvm.exec) (hb : c.code = code) (hr : meth.sig.returnType = ret) (hlocks : meth.locks = false) {pc : Nat} {H : Heap} {ls : Array Slot} (hdg : decode code pc = .ok (.ireturn, 1)) : W p l e room_1 s m #[Value.ref b] below meth c H [] 600000 7302250 (lw_Z below #[Value.ref b] s) (F0 m pc ls [.int 1]) := by
  intro T hT X
  obtain ⟨fs, hret, hrun, hended, hW, hframe⟩ := X.leave (v := some (.int 1)) (hlocks := hlocks) (fun h => by rw [hr] at h; cases h)
  have hmeth' : T.vm.method? m = some meth := X.method'
  refine ⟨T.setFrames fs, ?_, .returned (some (.int 1)), hrun, hended, rfl, ⟨_, rfl⟩, hW, hframe⟩
  jvm_step X.here [X.here.top, hx, hb, hdg, hmeth', hr, ret, narrow_b1]
  (try refine ⟨rfl, ?_⟩); (try refine ⟨rfl, ?_⟩)
  first | (intro acts; rw [hret _ acts rfl rfl rfl]) | rw [hret _ _ rfl rfl rfl]
  exact Steps.refl _
/-- what holds at the law's entry: the machine, the code, the tables' words (any of lw_tbl by 'hts w (by decide +kernel)'), the script of L ints xs at the cell b, what the Statement gives of the start (any of its parts by flat_of_before) -/
def lw_At (p : Program) (s : State) (m : MethodId) (meth : Method) (c : Code) (b L : Nat) (xs : Nat → Int32) : Prop :=
  p.tables.exec = Jvm.exec ∧ c.code = code ∧ meth.sig.returnType = ret ∧ c.maxLocals = 4 ∧ s.vm.findClass R_law = some m.cls ∧ (∀ w ∈ lw_tbl, w.before #[Value.ref b] s = true) ∧ va_X b L xs s s.heap ∧ b < s.heap.size ∧ meth.locks = false ∧ (Jvm.Cond.and given_1 narrow_1).before #[Value.ref b] s = true
theorem dp_of {w : Cond} (hw : dp_isN w = true) {A : Array Value} {s : State} (h : w.before A s = true) : va_Nw w s := by
  unfold dp_isN at hw
  split at hw
  · exact va_AO.of h
  · exact va_Nw.of rfl h
  · exact va_Nw.of rfl h
  · cases hw
abbrev M_law : ev_M := (x, code, 4, ret)
theorem ev_dA {s : State} {args : Array Value} (hts : ∀ w ∈ lw_tbl, w.before args s = true) : ∃ dA : Nat → ClassId, ∀ (k : Nat) (q : ClassId × FieldType), (dp_tys dA)[k]? = some q → ArrOfT s q.1 q.2 ∧ va_RA s q.1 q.2 := by
  have prim : ∀ ty : FieldType, (Cond.arrayClass ty) ∈ lw_tbl → (∀ C, ty ≠ .object C) → ∃ cA : ClassId, ArrOfT s cA ty ∧ va_RA s cA ty := by
    intro ty hm hno
    obtain ⟨c, k, comp, h1, h2, h3⟩ := Cond.arrayClass_spec (hts _ hm)
    refine ⟨c, fun n z => ⟨fun k h => (by cases h), k, h2, comp, h3⟩, ?_⟩
    cases ty with
    | object C => exact absurd rfl (hno C)
    | _ => exact h1
  have obj : ∀ C : String, (Cond.arrayOver (.object C)) ∈ lw_tbl → ∃ cA : ClassId, ArrOfT s cA (.object C) ∧ va_RA s cA (.object C) := by
    intro C hm
    obtain ⟨comp, c, k, h1, h2, h3, h4, h5⟩ := Cond.arrayOver_spec (hts _ hm)
    exact ⟨c, fun n z => ⟨fun k h => (by cases h), k, h3, comp, h4⟩, k, comp, h3, h4, h1, h5⟩
  obtain ⟨c0, g0⟩ := prim .int (by decide +kernel) (fun C h => by cases h)
  obtain ⟨c1, g1⟩ := prim .long (by decide +kernel) (fun C h => by cases h)
  obtain ⟨c2, g2⟩ := prim .byte (by decide +kernel) (fun C h => by cases h)
  obtain ⟨c3, g3⟩ := obj RX10 (by decide +kernel)
  obtain ⟨c4, g4⟩ := obj RX3 (by decide +kernel)
  refine ⟨fun k => match k with | 0 => c0 | 1 => c1 | 2 => c2 | 3 => c3 | _ => c4, ?_⟩
  intro k q hq
  match k, hq with
  | 0, hq => cases hq; exact g0
  | 1, hq => cases hq; exact g1
  | 2, hq => cases hq; exact g2
  | 3, hq => cases hq; exact g3
  | 4, hq => cases hq; exact g4
  | k + 5, hq => simp [dp_tys] at hq
theorem ev_D {s : State} {args : Array Value} (hts : ∀ w ∈ lw_tbl, w.before args s = true) : ∃ D : va_G, ∀ (c : Nat) (q : vw_C), dp_cl[c]? = some q → u_Kn s q.1 q.2.1 q.2.2 (D.1 c) (D.2 c) := by
  have one : ∀ (c : Nat), ∃ z : ClassId × (Nat → Nat), ∀ q : vw_C, dp_cl[c]? = some q → u_Kn s q.1 q.2.1 q.2.2 z.1 z.2 := by
    intro c
    cases hq : dp_cl[c]? with
    | none => exact ⟨(0, fun _ => 0), fun q h => by cases h⟩
    | some q =>
      have hi : Cond.instantiable q.1 q.2.2 ∈ lw_tbl := by
        match c, hq with
        | 0, hq => cases hq; decide +kernel
        | 1, hq => cases hq; decide +kernel
        | 2, hq => cases hq; decide +kernel
        | 3, hq => cases hq; decide +kernel
        | 4, hq => cases hq; decide +kernel
        | 5, hq => cases hq; decide +kernel
        | 6, hq => cases hq; decide +kernel
        | 7, hq => cases hq; decide +kernel
        | 8, hq => cases hq; decide +kernel
        | 9, hq => cases hq; decide +kernel
        | 10, hq => cases hq; decide +kernel
        | 11, hq => cases hq; decide +kernel
        | 12, hq => cases hq; decide +kernel
        | c + 13, hq => simp [dp_cl] at hq
      obtain ⟨cC, iS, h⟩ := u_known (n := q.2.2) hts (dp_in c q hq) (hts _ hi)
      exact ⟨(cC, iS), fun q' h' => by cases h'; exact h⟩
  refine ⟨(fun c => (Classical.choose (one c)).1, fun c => (Classical.choose (one c)).2), fun c q hq => Classical.choose_spec (one c) q hq⟩
/-- the claim out of EV of the law's body -/
theorem ev_whole {p : Program} {e : Env} {s : State} {m : MethodId} {below : List Frame} {meth : Method} {c : Code} (l : Launch) {b L : Nat} {xs : Nat → Int32} (C0 : lw_At p s m meth c b L xs) (hn : meth.name = x.name) {d : Nat} (hd : d ≤ 1000) {h0 : ev_H} (hE : EV xs L d 600000 7302250 M_law 2 h0 0 (ev_en [.ref 0] 4) [] (fun _ _ r => r = [.int 1])) : W p l e room_1 s m #[Value.ref b] below meth c s.heap [] 0 0 (lw_Z below #[Value.ref b] s) (entryFrame m ([Value.ref b] : List Value).toArray 4) := by
  obtain ⟨hx, hb, hr, hml, hown, hts, hX, hbl, hlocks, hgv⟩ := id C0
  obtain ⟨D, hD⟩ := ev_D hts
  obtain ⟨dA, hdA⟩ := ev_dA hts
  have hs := flat_of_before _ hgv
  have hA : ∀ a : Nat, a < s.heap.size → ¬ ev_A s.heap.size a := fun a h => Nat.not_le.mpr h
  obtain ⟨a1, ht1, hT⟩ := va_Tof (ty := .long) (N := 6) (f := fun j => .long (ev_so j)) (A := ev_A s.heap.size) (tm := .static RX10 "SO" "[J") (by decide) (hs _ (by decide +kernel)) (va_eqt (hs (Cond.eq (.length (.static RX10 "SO" "[J")) (.int 6)) (by decide +kernel))) (fun j hj => by
    match j, hj with
    | 0, _ => exact va_eqtl (hs _ (by decide +kernel))
    | 1, _ => exact va_eqtl (hs _ (by decide +kernel))
    | 2, _ => exact va_eqtl (hs _ (by decide +kernel))
    | 3, _ => exact va_eqtl (hs _ (by decide +kernel))
    | 4, _ => exact va_eqtl (hs _ (by decide +kernel))
    | 5, _ => exact va_eqtl (hs _ (by decide +kernel))) hA
  have hZ := va_Zof (A := ev_A s.heap.size) (hts (Cond.laysStatic RX10 "SO" "[J") (by decide +kernel)) (hts (Cond.initialized RX10) (by decide +kernel)) ht1 hA
  have hC : ev_CT D dA s.heap.size b a1 xs L s := ⟨⟨hD, hdA⟩, hX, hT, hZ, fun w hw => dp_of (List.mem_filter.mp hw).2 (hts w (List.mem_filter.mp hw).1), hbl, Nat.le_refl _⟩
  have hWD : ev_WD D dA s.heap.size b a1 2 h0 s.heap := ⟨rfl, Nat.le_refl _, fun k h1 h2 => by omega⟩
  have hl := ev_LV.entry (ev_am s.heap.size b a1) [.ref 0] 4 (by decide)
  rw [lg_entry_eq]
  refine ev_sound (D := D) (dA := dA) (b := s.heap.size) (a0 := b) (a1 := a1) hE p e room_1 s m #[Value.ref b] below meth c s.heap [] 0 0 600000 7302250 _ _ hx hb hml hown (fun w hw => hts w (List.mem_filter.mp hw).1) hn hC va_S.rf hWD hl (Nat.le_trans hd (by decide)) (Nat.le_trans (Nat.mul_le_mul_left 60 hd) (by decide)) (by decide) (by decide) (Nat.le_refl _) (Nat.le_refl _) ?_
  intro pc lsB H locs sz h r i hq hW' hS hdg hrt
  subst hq
  rcases hrt with ⟨rfl, v, h1, ty, h2, h3⟩ | ⟨rfl, v, h1, h2⟩ | ⟨rfl, v, h1, h2, h3⟩ | ⟨rfl, h1, h2⟩
  · cases h1
    exact va_forget hS.2.2 (lw_ret hx hb hr hlocks hdg)
  · cases h1
  · cases h1
    rcases h2 with h2 | ⟨a, h2⟩ <;> cases h2
  · cases h1
end
section
section RR
variable {xs : Nat → Int32} {L d kc ks : Nat} {M : ev_M} {sz : Nat} {h : ev_H} {pc : Nat} {ls : ev_L} {st : List Value} {Q : ev_Q}
theorem r_pu {i : Instr} {len pc' : Nat} {ls' : ev_L} {st' : List Value} (hd : decode M.2.1 pc = .ok (i, len)) (hl : len = ev_ln i) (hp : ev_pu i pc ls st = some (pc', ls', st')) (k : EV xs L d kc ks M sz h pc' ls' st' Q) : EV xs L d kc ks M sz h pc ls st Q := EV.in ⟨i, len, hd, Or.inl ⟨hl, pc', ls', st', hp, k⟩⟩
theorem r_iconst {pc' : Nat} {n : Int} {v : Int32} (hp : pc + 1 = pc') (hd : decode M.2.1 pc = .ok (.iconst n, 1)) (hv : Int32.ofInt n = v) (k : EV xs L d kc ks M sz h pc' ls (.int v :: st) Q) : EV xs L d kc ks M sz h pc ls st Q := by
  subst hp
  exact r_pu hd rfl (by rw [← hv]; rfl) k
theorem r_bipush {pc' : Nat} {n : Int} {v : Int32} (hp : pc + 2 = pc') (hd : decode M.2.1 pc = .ok (.bipush n, 2)) (hv : (Int8.ofInt n).toInt32 = v) (k : EV xs L d kc ks M sz h pc' ls (.int v :: st) Q) : EV xs L d kc ks M sz h pc ls st Q := by
  subst hp
  exact r_pu hd rfl (by rw [← hv]; rfl) k
theorem r_sipush {pc' : Nat} {n : Int} {v : Int32} (hp : pc + 3 = pc') (hd : decode M.2.1 pc = .ok (.sipush n, 3)) (hv : (Int16.ofInt n).toInt32 = v) (k : EV xs L d kc ks M sz h pc' ls (.int v :: st) Q) : EV xs L d kc ks M sz h pc ls st Q := by
  subst hp
  exact r_pu hd rfl (by rw [← hv]; rfl) k
theorem r_lconst {pc' : Nat} {n : Fin 2} {v : Int64} (hp : pc + 1 = pc') (hd : decode M.2.1 pc = .ok (.lconst n, 1)) (hv : Int64.ofNat (n : Nat) = v) (k : EV xs L d kc ks M sz h pc' ls (.long v :: st) Q) : EV xs L d kc ks M sz h pc ls st Q := by
  subst hp
  exact r_pu hd rfl (by rw [← hv]; rfl) k
theorem r_null {pc' : Nat}  (hp : pc + 1 = pc') (hd : decode M.2.1 pc = .ok (.aconst_null, 1))  (k : EV xs L d kc ks M sz h pc' ls (.null :: st) Q) : EV xs L d kc ks M sz h pc ls st Q := by
  subst hp
  exact r_pu hd rfl (rfl) k
theorem r_iload_n {pc' : Nat} {n : Fin 4} {x : Int32} (hp : pc + 1 = pc') (hd : decode M.2.1 pc = .ok (.iload_n n, 1)) (hl : ls[(n : Nat)]? = some (some (.int x))) (k : EV xs L d kc ks M sz h pc' ls (.int x :: st) Q) : EV xs L d kc ks M sz h pc ls st Q := by
  subst hp
  exact r_pu hd rfl (by simp only [ev_pu, ev_ldi, hl, Option.map_some]) k
theorem r_iload {pc' : Nat} {n : Nat} {x : Int32} (hp : pc + 2 = pc') (hd : decode M.2.1 pc = .ok (.iload n, 2)) (hl : ls[(n : Nat)]? = some (some (.int x))) (k : EV xs L d kc ks M sz h pc' ls (.int x :: st) Q) : EV xs L d kc ks M sz h pc ls st Q := by
  subst hp
  exact r_pu hd rfl (by simp only [ev_pu, ev_ldi, hl, Option.map_some]) k
theorem r_lload_n {pc' : Nat} {n : Fin 4} {x : Int64} (hp : pc + 1 = pc') (hd : decode M.2.1 pc = .ok (.lload_n n, 1)) (hl : ls[(n : Nat)]? = some (some (.long x))) (k : EV xs L d kc ks M sz h pc' ls (.long x :: st) Q) : EV xs L d kc ks M sz h pc ls st Q := by
  subst hp
  exact r_pu hd rfl (by simp only [ev_pu, ev_ldl, hl, Option.map_some]) k
theorem r_lload {pc' : Nat} {n : Nat} {x : Int64} (hp : pc + 2 = pc') (hd : decode M.2.1 pc = .ok (.lload n, 2)) (hl : ls[(n : Nat)]? = some (some (.long x))) (k : EV xs L d kc ks M sz h pc' ls (.long x :: st) Q) : EV xs L d kc ks M sz h pc ls st Q := by
  subst hp
  exact r_pu hd rfl (by simp only [ev_pu, ev_ldl, hl, Option.map_some]) k
theorem r_aload_n {pc' : Nat} {n : Fin 4} {x : Nat} (hp : pc + 1 = pc') (hd : decode M.2.1 pc = .ok (.aload_n n, 1)) (hl : ls[(n : Nat)]? = some (some (.ref x))) (k : EV xs L d kc ks M sz h pc' ls (.ref x :: st) Q) : EV xs L d kc ks M sz h pc ls st Q := by
  subst hp
  exact r_pu hd rfl (by simp only [ev_pu, ev_lda, hl, Option.map_some]) k
theorem r_aload {pc' : Nat} {n : Nat} {x : Nat} (hp : pc + 2 = pc') (hd : decode M.2.1 pc = .ok (.aload n, 2)) (hl : ls[(n : Nat)]? = some (some (.ref x))) (k : EV xs L d kc ks M sz h pc' ls (.ref x :: st) Q) : EV xs L d kc ks M sz h pc ls st Q := by
  subst hp
  exact r_pu hd rfl (by simp only [ev_pu, ev_lda, hl, Option.map_some]) k
theorem r_aload_nN {pc' : Nat} {n : Fin 4} (hp : pc + 1 = pc') (hd : decode M.2.1 pc = .ok (.aload_n n, 1)) (hl : ls[(n : Nat)]? = some (some .null)) (k : EV xs L d kc ks M sz h pc' ls (.null :: st) Q) : EV xs L d kc ks M sz h pc ls st Q := by
  subst hp
  exact r_pu hd rfl (by simp only [ev_pu, ev_lda, hl, Option.map_some]) k
theorem r_aloadN {pc' : Nat} {n : Nat} (hp : pc + 2 = pc') (hd : decode M.2.1 pc = .ok (.aload n, 2)) (hl : ls[(n : Nat)]? = some (some .null)) (k : EV xs L d kc ks M sz h pc' ls (.null :: st) Q) : EV xs L d kc ks M sz h pc ls st Q := by
  subst hp
  exact r_pu hd rfl (by simp only [ev_pu, ev_lda, hl, Option.map_some]) k
theorem r_istore_n {pc' : Nat} {n : Fin 4} {x : Int32} {ls' : ev_L} (hp : pc + 1 = pc') (hd : decode M.2.1 pc = .ok (.istore_n n, 1)) (hn : (n : Nat) < ls.length) (hl : ev_s1 ls (n : Nat) (.int x) = ls') (k : EV xs L d kc ks M sz h pc' ls' st Q) : EV xs L d kc ks M sz h pc ls (.int x :: st) Q := by
  subst hp
  exact r_pu hd rfl (by simp only [ev_pu, ev_sti, hn, if_true, hl, Option.map_some]) k
theorem r_istore {pc' : Nat} {n : Nat} {x : Int32} {ls' : ev_L} (hp : pc + 2 = pc') (hd : decode M.2.1 pc = .ok (.istore n, 2)) (hn : (n : Nat) < ls.length) (hl : ev_s1 ls (n : Nat) (.int x) = ls') (k : EV xs L d kc ks M sz h pc' ls' st Q) : EV xs L d kc ks M sz h pc ls (.int x :: st) Q := by
  subst hp
  exact r_pu hd rfl (by simp only [ev_pu, ev_sti, hn, if_true, hl, Option.map_some]) k
theorem r_lstore_n {pc' : Nat} {n : Fin 4} {x : Int64} {ls' : ev_L} (hp : pc + 1 = pc') (hd : decode M.2.1 pc = .ok (.lstore_n n, 1)) (hn : (n : Nat) + 1 < ls.length) (hl : ev_s2 ls (n : Nat) (.long x) = ls') (k : EV xs L d kc ks M sz h pc' ls' st Q) : EV xs L d kc ks M sz h pc ls (.long x :: st) Q := by
  subst hp
  exact r_pu hd rfl (by simp only [ev_pu, ev_stl, hn, if_true, hl, Option.map_some]) k
theorem r_lstore {pc' : Nat} {n : Nat} {x : Int64} {ls' : ev_L} (hp : pc + 2 = pc') (hd : decode M.2.1 pc = .ok (.lstore n, 2)) (hn : (n : Nat) + 1 < ls.length) (hl : ev_s2 ls (n : Nat) (.long x) = ls') (k : EV xs L d kc ks M sz h pc' ls' st Q) : EV xs L d kc ks M sz h pc ls (.long x :: st) Q := by
  subst hp
  exact r_pu hd rfl (by simp only [ev_pu, ev_stl, hn, if_true, hl, Option.map_some]) k
theorem r_astore_n {pc' : Nat} {n : Fin 4} {x : Nat} {ls' : ev_L} (hp : pc + 1 = pc') (hd : decode M.2.1 pc = .ok (.astore_n n, 1)) (hn : (n : Nat) < ls.length) (hl : ev_s1 ls (n : Nat) (.ref x) = ls') (k : EV xs L d kc ks M sz h pc' ls' st Q) : EV xs L d kc ks M sz h pc ls (.ref x :: st) Q := by
  subst hp
  exact r_pu hd rfl (by simp only [ev_pu, ev_sta, hn, if_true, hl, Option.map_some]) k
theorem r_astore {pc' : Nat} {n : Nat} {x : Nat} {ls' : ev_L} (hp : pc + 2 = pc') (hd : decode M.2.1 pc = .ok (.astore n, 2)) (hn : (n : Nat) < ls.length) (hl : ev_s1 ls (n : Nat) (.ref x) = ls') (k : EV xs L d kc ks M sz h pc' ls' st Q) : EV xs L d kc ks M sz h pc ls (.ref x :: st) Q := by
  subst hp
  exact r_pu hd rfl (by simp only [ev_pu, ev_sta, hn, if_true, hl, Option.map_some]) k
theorem r_astore_nN {pc' : Nat} {n : Fin 4} {ls' : ev_L} (hp : pc + 1 = pc') (hd : decode M.2.1 pc = .ok (.astore_n n, 1)) (hn : (n : Nat) < ls.length) (hl : ev_s1 ls (n : Nat) .null = ls') (k : EV xs L d kc ks M sz h pc' ls' st Q) : EV xs L d kc ks M sz h pc ls (.null :: st) Q := by
  subst hp
  exact r_pu hd rfl (by simp only [ev_pu, ev_sta, hn, if_true, hl, Option.map_some]) k
theorem r_astoreN {pc' : Nat} {n : Nat} {ls' : ev_L} (hp : pc + 2 = pc') (hd : decode M.2.1 pc = .ok (.astore n, 2)) (hn : (n : Nat) < ls.length) (hl : ev_s1 ls (n : Nat) .null = ls') (k : EV xs L d kc ks M sz h pc' ls' st Q) : EV xs L d kc ks M sz h pc ls (.null :: st) Q := by
  subst hp
  exact r_pu hd rfl (by simp only [ev_pu, ev_sta, hn, if_true, hl, Option.map_some]) k
theorem r_iinc {pc' : Nat} {n : Nat} {w : Int} {x y : Int32} {ls' : ev_L} (hp : pc + 3 = pc') (hd : decode M.2.1 pc = .ok (.iinc n w, 3)) (hx : ls[n]? = some (some (.int x))) (hy : x + Int32.ofInt w = y) (hn : n < ls.length) (hl : ev_s1 ls n (.int y) = ls') (k : EV xs L d kc ks M sz h pc' ls' st Q) : EV xs L d kc ks M sz h pc ls st Q := by
  subst hp
  exact r_pu hd rfl (by simp only [ev_pu, ev_inc, hx, hn, if_true, hy, hl, Option.map_some]) k
theorem r_iadd {pc' : Nat} {x y : Int32} (hp : pc + 1 = pc') (hd : decode M.2.1 pc = .ok (.iadd, 1))  (k : EV xs L d kc ks M sz h pc' ls (.int (x + y) :: st) Q) : EV xs L d kc ks M sz h pc ls (.int y :: .int x :: st) Q := by
  subst hp
  exact r_pu hd rfl (rfl) k
theorem r_isub {pc' : Nat} {x y : Int32} (hp : pc + 1 = pc') (hd : decode M.2.1 pc = .ok (.isub, 1))  (k : EV xs L d kc ks M sz h pc' ls (.int (x - y) :: st) Q) : EV xs L d kc ks M sz h pc ls (.int y :: .int x :: st) Q := by
  subst hp
  exact r_pu hd rfl (rfl) k
theorem r_imul {pc' : Nat} {x y : Int32} (hp : pc + 1 = pc') (hd : decode M.2.1 pc = .ok (.imul, 1))  (k : EV xs L d kc ks M sz h pc' ls (.int (x * y) :: st) Q) : EV xs L d kc ks M sz h pc ls (.int y :: .int x :: st) Q := by
  subst hp
  exact r_pu hd rfl (rfl) k
theorem r_iand {pc' : Nat} {x y : Int32} (hp : pc + 1 = pc') (hd : decode M.2.1 pc = .ok (.iand, 1))  (k : EV xs L d kc ks M sz h pc' ls (.int (x &&& y) :: st) Q) : EV xs L d kc ks M sz h pc ls (.int y :: .int x :: st) Q := by
  subst hp
  exact r_pu hd rfl (rfl) k
theorem r_ior {pc' : Nat} {x y : Int32} (hp : pc + 1 = pc') (hd : decode M.2.1 pc = .ok (.ior, 1))  (k : EV xs L d kc ks M sz h pc' ls (.int (x ||| y) :: st) Q) : EV xs L d kc ks M sz h pc ls (.int y :: .int x :: st) Q := by
  subst hp
  exact r_pu hd rfl (rfl) k
theorem r_ixor {pc' : Nat} {x y : Int32} (hp : pc + 1 = pc') (hd : decode M.2.1 pc = .ok (.ixor, 1))  (k : EV xs L d kc ks M sz h pc' ls (.int (x ^^^ y) :: st) Q) : EV xs L d kc ks M sz h pc ls (.int y :: .int x :: st) Q := by
  subst hp
  exact r_pu hd rfl (rfl) k
theorem r_ishl {pc' : Nat} {x y : Int32} (hp : pc + 1 = pc') (hd : decode M.2.1 pc = .ok (.ishl, 1))  (k : EV xs L d kc ks M sz h pc' ls (.int (x <<< (y &&& 31)) :: st) Q) : EV xs L d kc ks M sz h pc ls (.int y :: .int x :: st) Q := by
  subst hp
  exact r_pu hd rfl (rfl) k
theorem r_ishr {pc' : Nat} {x y : Int32} (hp : pc + 1 = pc') (hd : decode M.2.1 pc = .ok (.ishr, 1))  (k : EV xs L d kc ks M sz h pc' ls (.int (x >>> (y &&& 31)) :: st) Q) : EV xs L d kc ks M sz h pc ls (.int y :: .int x :: st) Q := by
  subst hp
  exact r_pu hd rfl (rfl) k
theorem r_iushr {pc' : Nat} {x y : Int32} (hp : pc + 1 = pc') (hd : decode M.2.1 pc = .ok (.iushr, 1))  (k : EV xs L d kc ks M sz h pc' ls (.int ((x.toUInt32 >>> (y.toUInt32 &&& Int32.toUInt32 31)).toInt32) :: st) Q) : EV xs L d kc ks M sz h pc ls (.int y :: .int x :: st) Q := by
  subst hp
  exact r_pu hd rfl (rfl) k
theorem r_idiv {pc' : Nat} {x y : Int32} (hp : pc + 1 = pc') (hd : decode M.2.1 pc = .ok (.idiv, 1)) (hy : ¬ y = 0) (k : EV xs L d kc ks M sz h pc' ls (.int (x / y) :: st) Q) : EV xs L d kc ks M sz h pc ls (.int y :: .int x :: st) Q := by
  subst hp
  exact r_pu hd rfl (by simp only [ev_pu, ev_div, hy, if_false, Option.map_some]) k
theorem r_ladd {pc' : Nat} {x y : Int64} (hp : pc + 1 = pc') (hd : decode M.2.1 pc = .ok (.ladd, 1))  (k : EV xs L d kc ks M sz h pc' ls (.long (x + y) :: st) Q) : EV xs L d kc ks M sz h pc ls (.long y :: .long x :: st) Q := by
  subst hp
  exact r_pu hd rfl (rfl) k
theorem r_lsub {pc' : Nat} {x y : Int64} (hp : pc + 1 = pc') (hd : decode M.2.1 pc = .ok (.lsub, 1))  (k : EV xs L d kc ks M sz h pc' ls (.long (x - y) :: st) Q) : EV xs L d kc ks M sz h pc ls (.long y :: .long x :: st) Q := by
  subst hp
  exact r_pu hd rfl (rfl) k
theorem r_land {pc' : Nat} {x y : Int64} (hp : pc + 1 = pc') (hd : decode M.2.1 pc = .ok (.land, 1))  (k : EV xs L d kc ks M sz h pc' ls (.long (x &&& y) :: st) Q) : EV xs L d kc ks M sz h pc ls (.long y :: .long x :: st) Q := by
  subst hp
  exact r_pu hd rfl (rfl) k
theorem r_lor {pc' : Nat} {x y : Int64} (hp : pc + 1 = pc') (hd : decode M.2.1 pc = .ok (.lor, 1))  (k : EV xs L d kc ks M sz h pc' ls (.long (x ||| y) :: st) Q) : EV xs L d kc ks M sz h pc ls (.long y :: .long x :: st) Q := by
  subst hp
  exact r_pu hd rfl (rfl) k
theorem r_lxor {pc' : Nat} {x y : Int64} (hp : pc + 1 = pc') (hd : decode M.2.1 pc = .ok (.lxor, 1))  (k : EV xs L d kc ks M sz h pc' ls (.long (x ^^^ y) :: st) Q) : EV xs L d kc ks M sz h pc ls (.long y :: .long x :: st) Q := by
  subst hp
  exact r_pu hd rfl (rfl) k
theorem r_lcmp {pc' : Nat} {x y : Int64} (hp : pc + 1 = pc') (hd : decode M.2.1 pc = .ok (.lcmp, 1))  (k : EV xs L d kc ks M sz h pc' ls (.int (lg_cmp x y) :: st) Q) : EV xs L d kc ks M sz h pc ls (.long y :: .long x :: st) Q := by
  subst hp
  exact r_pu hd rfl (rfl) k
theorem r_lneg {pc' : Nat} {x : Int64} (hp : pc + 1 = pc') (hd : decode M.2.1 pc = .ok (.lneg, 1))  (k : EV xs L d kc ks M sz h pc' ls (.long (-x) :: st) Q) : EV xs L d kc ks M sz h pc ls (.long x :: st) Q := by
  subst hp
  exact r_pu hd rfl (rfl) k
theorem r_lshl {pc' : Nat} {x : Int64} {y : Int32} (hp : pc + 1 = pc') (hd : decode M.2.1 pc = .ok (.lshl, 1))  (k : EV xs L d kc ks M sz h pc' ls (.long (x <<< (y.toInt64 &&& 63)) :: st) Q) : EV xs L d kc ks M sz h pc ls (.int y :: .long x :: st) Q := by
  subst hp
  exact r_pu hd rfl (rfl) k
theorem r_lshr {pc' : Nat} {x : Int64} {y : Int32} (hp : pc + 1 = pc') (hd : decode M.2.1 pc = .ok (.lshr, 1))  (k : EV xs L d kc ks M sz h pc' ls (.long (x >>> (y.toInt64 &&& 63)) :: st) Q) : EV xs L d kc ks M sz h pc ls (.int y :: .long x :: st) Q := by
  subst hp
  exact r_pu hd rfl (rfl) k
theorem r_lushr {pc' : Nat} {x : Int64} {y : Int32} (hp : pc + 1 = pc') (hd : decode M.2.1 pc = .ok (.lushr, 1))  (k : EV xs L d kc ks M sz h pc' ls (.long ((x.toUInt64 >>> (y.toInt64.toUInt64 &&& Int64.toUInt64 63)).toInt64) :: st) Q) : EV xs L d kc ks M sz h pc ls (.int y :: .long x :: st) Q := by
  subst hp
  exact r_pu hd rfl (rfl) k
theorem r_i2l {pc' : Nat} {x : Int32} (hp : pc + 1 = pc') (hd : decode M.2.1 pc = .ok (.i2l, 1))  (k : EV xs L d kc ks M sz h pc' ls (.long x.toInt64 :: st) Q) : EV xs L d kc ks M sz h pc ls (.int x :: st) Q := by
  subst hp
  exact r_pu hd rfl (rfl) k
theorem r_i2b {pc' : Nat} {x : Int32} (hp : pc + 1 = pc') (hd : decode M.2.1 pc = .ok (.i2b, 1))  (k : EV xs L d kc ks M sz h pc' ls (.int x.toInt8.toInt32 :: st) Q) : EV xs L d kc ks M sz h pc ls (.int x :: st) Q := by
  subst hp
  exact r_pu hd rfl (rfl) k
theorem r_l2i {pc' : Nat} {x : Int64} (hp : pc + 1 = pc') (hd : decode M.2.1 pc = .ok (.l2i, 1))  (k : EV xs L d kc ks M sz h pc' ls (.int x.toInt32 :: st) Q) : EV xs L d kc ks M sz h pc ls (.long x :: st) Q := by
  subst hp
  exact r_pu hd rfl (rfl) k
theorem r_dup {pc' : Nat} {v : Value} (hp : pc + 1 = pc') (hd : decode M.2.1 pc = .ok (.dup, 1)) (hv : v.category = 1) (k : EV xs L d kc ks M sz h pc' ls (v :: v :: st) Q) : EV xs L d kc ks M sz h pc ls (v :: st) Q := by
  subst hp
  exact r_pu hd rfl (by simp only [ev_pu, ev_dup, hv, if_true, Option.map_some]) k
theorem r_pop {pc' : Nat} {v : Value} (hp : pc + 1 = pc') (hd : decode M.2.1 pc = .ok (.pop, 1)) (hv : v.category = 1) (k : EV xs L d kc ks M sz h pc' ls st Q) : EV xs L d kc ks M sz h pc ls (v :: st) Q := by
  subst hp
  exact r_pu hd rfl (by simp only [ev_pu, ev_pop, hv, if_true, Option.map_some]) k
theorem r_pop2 {pc' : Nat} {v : Value} (hp : pc + 1 = pc') (hd : decode M.2.1 pc = .ok (.pop2, 1)) (hv : v.category = 2) (k : EV xs L d kc ks M sz h pc' ls st Q) : EV xs L d kc ks M sz h pc ls (v :: st) Q := by
  subst hp
  exact r_pu hd rfl (by simp only [ev_pu, ev_pop2, hv, if_true, Option.map_some]) k
theorem r_dup2 {pc' : Nat} {v w : Value} (hp : pc + 1 = pc') (hd : decode M.2.1 pc = .ok (.dup2, 1)) (hv : ¬ v.category = 2) (hw : ¬ w.category = 2) (k : EV xs L d kc ks M sz h pc' ls (v :: w :: v :: w :: st) Q) : EV xs L d kc ks M sz h pc ls (v :: w :: st) Q := by
  subst hp
  exact r_pu hd rfl (by simp only [ev_pu, ev_dup2, hv, hw, if_false, Option.map_some]) k
theorem r_goto {pc' : Nat} {off : Int} (hp : (pc : Int) + off = (pc' : Nat)) (hd : decode M.2.1 pc = .ok (.goto off, 3)) (k : EV xs L d kc ks M sz h pc' ls st Q) : EV xs L d kc ks M sz h pc ls st Q := by
  refine r_pu hd rfl ?_ k
  have h0 : 0 ≤ (pc : Int) + off := by omega
  show (ev_to pc off).map _ = _
  unfold ev_to
  rw [if_pos h0, hp, Int.toNat_natCast]
  rfl
theorem r_br {i : Instr} {cd ce : Prop} {r : List Value} {off : Int} {tgt pc' : Nat} (hp : pc + 3 = pc') (ht : (pc : Int) + off = (tgt : Nat)) (hd : decode M.2.1 pc = .ok (i, 3)) (hb : ev_br i st = some (cd, ce, r, off)) (kt : cd → EV xs L d kc ks M sz h tgt ls r Q) (kf : ce → EV xs L d kc ks M sz h pc' ls r Q) : EV xs L d kc ks M sz h pc ls st Q := by
  subst hp
  exact EV.in ⟨i, 3, hd, Or.inr (Or.inl ⟨rfl, cd, ce, r, off, tgt, hb, ht, kt, kf⟩)⟩
theorem r_if_eq {x : Int32} {off : Int} {tgt pc' : Nat} (hp : pc + 3 = pc') (ht : (pc : Int) + off = (tgt : Nat)) (hd : decode M.2.1 pc = .ok (.ifCond .eq off, 3)) (kt : x = 0 → EV xs L d kc ks M sz h tgt ls st Q) (kf : ¬ x = 0 → EV xs L d kc ks M sz h pc' ls st Q) : EV xs L d kc ks M sz h pc ls (.int x :: st) Q := r_br hp ht hd rfl kt kf
theorem r_icmp_eq {x y : Int32} {off : Int} {tgt pc' : Nat} (hp : pc + 3 = pc') (ht : (pc : Int) + off = (tgt : Nat)) (hd : decode M.2.1 pc = .ok (.if_icmp .eq off, 3)) (kt : x = y → EV xs L d kc ks M sz h tgt ls st Q) (kf : ¬ x = y → EV xs L d kc ks M sz h pc' ls st Q) : EV xs L d kc ks M sz h pc ls (.int y :: .int x :: st) Q := r_br hp ht hd rfl kt kf
theorem r_if_ne {x : Int32} {off : Int} {tgt pc' : Nat} (hp : pc + 3 = pc') (ht : (pc : Int) + off = (tgt : Nat)) (hd : decode M.2.1 pc = .ok (.ifCond .ne off, 3)) (kt : ¬ x = 0 → EV xs L d kc ks M sz h tgt ls st Q) (kf : x = 0 → EV xs L d kc ks M sz h pc' ls st Q) : EV xs L d kc ks M sz h pc ls (.int x :: st) Q := r_br hp ht hd rfl kt kf
theorem r_icmp_ne {x y : Int32} {off : Int} {tgt pc' : Nat} (hp : pc + 3 = pc') (ht : (pc : Int) + off = (tgt : Nat)) (hd : decode M.2.1 pc = .ok (.if_icmp .ne off, 3)) (kt : ¬ x = y → EV xs L d kc ks M sz h tgt ls st Q) (kf : x = y → EV xs L d kc ks M sz h pc' ls st Q) : EV xs L d kc ks M sz h pc ls (.int y :: .int x :: st) Q := r_br hp ht hd rfl kt kf
theorem r_if_lt {x : Int32} {off : Int} {tgt pc' : Nat} (hp : pc + 3 = pc') (ht : (pc : Int) + off = (tgt : Nat)) (hd : decode M.2.1 pc = .ok (.ifCond .lt off, 3)) (kt : x < 0 → EV xs L d kc ks M sz h tgt ls st Q) (kf : ¬ x < 0 → EV xs L d kc ks M sz h pc' ls st Q) : EV xs L d kc ks M sz h pc ls (.int x :: st) Q := r_br hp ht hd rfl kt kf
theorem r_icmp_lt {x y : Int32} {off : Int} {tgt pc' : Nat} (hp : pc + 3 = pc') (ht : (pc : Int) + off = (tgt : Nat)) (hd : decode M.2.1 pc = .ok (.if_icmp .lt off, 3)) (kt : x < y → EV xs L d kc ks M sz h tgt ls st Q) (kf : ¬ x < y → EV xs L d kc ks M sz h pc' ls st Q) : EV xs L d kc ks M sz h pc ls (.int y :: .int x :: st) Q := r_br hp ht hd rfl kt kf
theorem r_if_ge {x : Int32} {off : Int} {tgt pc' : Nat} (hp : pc + 3 = pc') (ht : (pc : Int) + off = (tgt : Nat)) (hd : decode M.2.1 pc = .ok (.ifCond .ge off, 3)) (kt : 0 ≤ x → EV xs L d kc ks M sz h tgt ls st Q) (kf : ¬ 0 ≤ x → EV xs L d kc ks M sz h pc' ls st Q) : EV xs L d kc ks M sz h pc ls (.int x :: st) Q := r_br hp ht hd rfl kt kf
theorem r_icmp_ge {x y : Int32} {off : Int} {tgt pc' : Nat} (hp : pc + 3 = pc') (ht : (pc : Int) + off = (tgt : Nat)) (hd : decode M.2.1 pc = .ok (.if_icmp .ge off, 3)) (kt : y ≤ x → EV xs L d kc ks M sz h tgt ls st Q) (kf : ¬ y ≤ x → EV xs L d kc ks M sz h pc' ls st Q) : EV xs L d kc ks M sz h pc ls (.int y :: .int x :: st) Q := r_br hp ht hd rfl kt kf
theorem r_if_gt {x : Int32} {off : Int} {tgt pc' : Nat} (hp : pc + 3 = pc') (ht : (pc : Int) + off = (tgt : Nat)) (hd : decode M.2.1 pc = .ok (.ifCond .gt off, 3)) (kt : 0 < x → EV xs L d kc ks M sz h tgt ls st Q) (kf : ¬ 0 < x → EV xs L d kc ks M sz h pc' ls st Q) : EV xs L d kc ks M sz h pc ls (.int x :: st) Q := r_br hp ht hd rfl kt kf
theorem r_icmp_gt {x y : Int32} {off : Int} {tgt pc' : Nat} (hp : pc + 3 = pc') (ht : (pc : Int) + off = (tgt : Nat)) (hd : decode M.2.1 pc = .ok (.if_icmp .gt off, 3)) (kt : y < x → EV xs L d kc ks M sz h tgt ls st Q) (kf : ¬ y < x → EV xs L d kc ks M sz h pc' ls st Q) : EV xs L d kc ks M sz h pc ls (.int y :: .int x :: st) Q := r_br hp ht hd rfl kt kf
theorem r_if_le {x : Int32} {off : Int} {tgt pc' : Nat} (hp : pc + 3 = pc') (ht : (pc : Int) + off = (tgt : Nat)) (hd : decode M.2.1 pc = .ok (.ifCond .le off, 3)) (kt : x ≤ 0 → EV xs L d kc ks M sz h tgt ls st Q) (kf : ¬ x ≤ 0 → EV xs L d kc ks M sz h pc' ls st Q) : EV xs L d kc ks M sz h pc ls (.int x :: st) Q := r_br hp ht hd rfl kt kf
theorem r_icmp_le {x y : Int32} {off : Int} {tgt pc' : Nat} (hp : pc + 3 = pc') (ht : (pc : Int) + off = (tgt : Nat)) (hd : decode M.2.1 pc = .ok (.if_icmp .le off, 3)) (kt : x ≤ y → EV xs L d kc ks M sz h tgt ls st Q) (kf : ¬ x ≤ y → EV xs L d kc ks M sz h pc' ls st Q) : EV xs L d kc ks M sz h pc ls (.int y :: .int x :: st) Q := r_br hp ht hd rfl kt kf
theorem r_ifnull {a : Nat} {off : Int} {pc' : Nat} (hp : pc + 3 = pc') (ht : 0 ≤ (pc : Int) + off) (hd : decode M.2.1 pc = .ok (.ifnull off, 3)) (k : EV xs L d kc ks M sz h pc' ls st Q) : EV xs L d kc ks M sz h pc ls (.ref a :: st) Q := r_br (tgt := ((pc : Int) + off).toNat) hp (Int.toNat_of_nonneg ht).symm hd rfl (fun q => q.elim) (fun _ => k)
theorem r_ifnullN {off : Int} {tgt : Nat} (ht : (pc : Int) + off = (tgt : Nat)) (hd : decode M.2.1 pc = .ok (.ifnull off, 3)) (k : EV xs L d kc ks M sz h tgt ls st Q) : EV xs L d kc ks M sz h pc ls (.null :: st) Q := EV.in ⟨_, 3, hd, Or.inr (Or.inl ⟨rfl, True, False, st, off, tgt, rfl, ht, fun _ => k, fun q => q.elim⟩)⟩
theorem r_ifnonnull {a : Nat} {off : Int} {tgt : Nat} (ht : (pc : Int) + off = (tgt : Nat)) (hd : decode M.2.1 pc = .ok (.ifnonnull off, 3)) (k : EV xs L d kc ks M sz h tgt ls st Q) : EV xs L d kc ks M sz h pc ls (.ref a :: st) Q := EV.in ⟨_, 3, hd, Or.inr (Or.inl ⟨rfl, True, False, st, off, tgt, rfl, ht, fun _ => k, fun q => q.elim⟩)⟩
theorem r_ifnonnullN {off : Int} {pc' : Nat} (hp : pc + 3 = pc') (ht : 0 ≤ (pc : Int) + off) (hd : decode M.2.1 pc = .ok (.ifnonnull off, 3)) (k : EV xs L d kc ks M sz h pc' ls st Q) : EV xs L d kc ks M sz h pc ls (.null :: st) Q := r_br (tgt := ((pc : Int) + off).toNat) hp (Int.toNat_of_nonneg ht).symm hd rfl (fun q => q.elim) (fun _ => k)
theorem r_swO {dflt lo hi : Int} {offs : Array Int} {len tgt : Nat} {x : Int32} (hd : decode M.2.1 pc = .ok (.tableswitch dflt lo hi offs, len)) (ht : (pc : Int) + dflt = (tgt : Nat)) (hx : x.toInt < lo ∨ hi < x.toInt) (k : EV xs L d kc ks M sz h tgt ls st Q) : EV xs L d kc ks M sz h pc ls (.int x :: st) Q := EV.in ⟨_, len, hd, Or.inr (Or.inr (Or.inl ⟨dflt, lo, hi, offs, x, st, dflt, tgt, rfl, rfl, Or.inl ⟨hx, rfl⟩, ht, k⟩))⟩
theorem r_swI {dflt lo hi off : Int} {offs : Array Int} {len tgt : Nat} {x : Int32} (hd : decode M.2.1 pc = .ok (.tableswitch dflt lo hi offs, len)) (ht : (pc : Int) + off = (tgt : Nat)) (h1 : ¬ x.toInt < lo) (h2 : ¬ hi < x.toInt) (ho : offs[(x.toInt - lo).toNat]? = some off) (k : EV xs L d kc ks M sz h tgt ls st Q) : EV xs L d kc ks M sz h pc ls (.int x :: st) Q := EV.in ⟨_, len, hd, Or.inr (Or.inr (Or.inl ⟨dflt, lo, hi, offs, x, st, off, tgt, rfl, rfl, Or.inr ⟨h1, h2, ho⟩, ht, k⟩))⟩
theorem r_topi {x : Int32} (k : ∀ y : Int32, y = x → EV xs L d kc ks M sz h pc ls (.int y :: st) Q) : EV xs L d kc ks M sz h pc ls (.int x :: st) Q := k x rfl
theorem r_topl {x : Int64} (k : ∀ y : Int64, y = x → EV xs L d kc ks M sz h pc ls (.long y :: st) Q) : EV xs L d kc ks M sz h pc ls (.long x :: st) Q := k x rfl
theorem r_get {pc' : Nat} {idx a ci : Nat} {fs : List Value} {v : Value} (hp : pc + 3 = pc') (hd : decode M.2.1 pc = .ok (.getfield idx, 3)) (ha : 2 ≤ a) (hs : a < sz) (hh : h a = .inr (ci, fs)) (f : Nat) (hf : ev_fl M.1.cls idx ci f) (hv : fs[f]? = some v) (k : EV xs L d kc ks M sz h pc' ls (v :: st) Q) : EV xs L d kc ks M sz h pc ls (.ref a :: st) Q := by
  subst hp
  exact EV.in ⟨_, 3, hd, Or.inr (Or.inr (Or.inr (Or.inl ⟨a, st, ci, fs, f, v, rfl, ha, hs, hh, hf, hv, rfl, k⟩)))⟩
theorem r_put {pc' : Nat} {idx a ci : Nat} {fs fs' : List Value} {v : Value} (hp : pc + 3 = pc') (hd : decode M.2.1 pc = .ok (.putfield idx, 3)) (ha : 2 ≤ a) (hs : a < sz) (hh : h a = .inr (ci, fs)) (f : Nat) (hf : ev_fp ks M.1 idx ci f v) (hl : f < fs.length) (he : fs.set f v = fs') (k : EV xs L d kc ks M sz (va_up h a (.inr (ci, fs'))) pc' ls st Q) : EV xs L d kc ks M sz h pc ls (v :: .ref a :: st) Q := by
  subst hp
  exact EV.in ⟨_, 3, hd, Or.inr (Or.inr (Or.inr (Or.inl (by rw [← he] at k; exact ⟨a, st, ci, fs, f, v, rfl, ha, hs, hh, hf, hl, rfl, k⟩))))⟩
theorem r_iald {pc' : Nat} {jn : Nat} {a n : Nat} {j : Int32} {f : Nat → Int32} (hp : pc + 1 = pc') (hd : decode M.2.1 pc = .ok (.iaload, 1)) (ha : 2 ≤ a) (hs : a < sz) (hh : h a = .inl (0, n, .inl f)) (hj : vp_in j n) (hjn : j.toNatClampNeg = jn) (k : EV xs L d kc ks M sz h pc' ls (.int (f jn) :: st) Q) : EV xs L d kc ks M sz h pc ls (.int j :: .ref a :: st) Q := by
  subst hp
  exact EV.in ⟨_, 1, hd, Or.inr (Or.inr (Or.inr (Or.inl (by subst hjn; exact ⟨a, st, j, rfl, Or.inl ⟨n, f, ha, hs, hh, hj, rfl, k⟩⟩))))⟩
theorem r_sld {pc' : Nat} {jn : Nat} {j : Int32} (hp : pc + 1 = pc') (hd : decode M.2.1 pc = .ok (.iaload, 1)) (hj : vp_in j L) (hjn : j.toNatClampNeg = jn) (k : EV xs L d kc ks M sz h pc' ls (.int (xs jn) :: st) Q) : EV xs L d kc ks M sz h pc ls (.int j :: .ref 0 :: st) Q := by
  subst hp
  exact EV.in ⟨_, 1, hd, Or.inr (Or.inr (Or.inr (Or.inl (by subst hjn; exact ⟨0, st, j, rfl, Or.inr ⟨rfl, hj, rfl, k⟩⟩))))⟩
theorem r_lald {pc' : Nat} {jn : Nat} {a n : Nat} {j : Int32} {f : Nat → Int64} (hp : pc + 1 = pc') (hd : decode M.2.1 pc = .ok (.laload, 1)) (ha : 2 ≤ a) (hs : a < sz) (hh : h a = .inl (1, n, .inr (.inl f))) (hj : vp_in j n) (hjn : j.toNatClampNeg = jn) (k : EV xs L d kc ks M sz h pc' ls (.long (f jn) :: st) Q) : EV xs L d kc ks M sz h pc ls (.int j :: .ref a :: st) Q := by
  subst hp
  exact EV.in ⟨_, 1, hd, Or.inr (Or.inr (Or.inr (Or.inl (by subst hjn; exact ⟨a, st, j, rfl, Or.inl ⟨n, f, ha, hs, hh, hj, rfl, k⟩⟩))))⟩
theorem r_sold {pc' : Nat} {jn : Nat} {j : Int32} (hp : pc + 1 = pc') (hd : decode M.2.1 pc = .ok (.laload, 1)) (hj : vp_in j 6) (hjn : j.toNatClampNeg = jn) (k : EV xs L d kc ks M sz h pc' ls (.long (ev_so jn) :: st) Q) : EV xs L d kc ks M sz h pc ls (.int j :: .ref 1 :: st) Q := by
  subst hp
  exact EV.in ⟨_, 1, hd, Or.inr (Or.inr (Or.inr (Or.inl (by subst hjn; exact ⟨1, st, j, rfl, Or.inr ⟨rfl, hj, rfl, k⟩⟩))))⟩
theorem r_bald {pc' : Nat} {jn : Nat} {a n : Nat} {j : Int32} {f : Nat → Int32} (hp : pc + 1 = pc') (hd : decode M.2.1 pc = .ok (.baload, 1)) (ha : 2 ≤ a) (hs : a < sz) (hh : h a = .inl (2, n, .inl f)) (hj : vp_in j n) (hjn : j.toNatClampNeg = jn) (k : EV xs L d kc ks M sz h pc' ls (.int (f jn) :: st) Q) : EV xs L d kc ks M sz h pc ls (.int j :: .ref a :: st) Q := by
  subst hp
  exact EV.in ⟨_, 1, hd, Or.inr (Or.inr (Or.inr (Or.inl (by subst hjn; exact ⟨a, st, j, n, f, rfl, ha, hs, hh, hj, rfl, k⟩))))⟩
theorem r_aald {pc' : Nat} {jn : Nat} {a n t : Nat} {j : Int32} {f : Nat → Option Nat} {v : Value} (hp : pc + 1 = pc') (hd : decode M.2.1 pc = .ok (.aaload, 1)) (ha : 2 ≤ a) (hs : a < sz) (hh : h a = .inl (t, n, .inr (.inr (.inr (.inr f))))) (ht : t = 3 ∨ t = 4) (hj : vp_in j n) (hjn : j.toNatClampNeg = jn) (hv : va_rf (f jn) = v) (k : EV xs L d kc ks M sz h pc' ls (v :: st) Q) : EV xs L d kc ks M sz h pc ls (.int j :: .ref a :: st) Q := by
  subst hp
  exact EV.in ⟨_, 1, hd, Or.inr (Or.inr (Or.inr (Or.inl (by subst hjn; exact ⟨a, st, j, t, n, f, rfl, ha, hs, hh, ht, hj, rfl, by rw [hv]; exact k⟩))))⟩
theorem r_iast {pc' : Nat} {jn : Nat} {a n : Nat} {j x : Int32} {f : Nat → Int32} (hp : pc + 1 = pc') (hd : decode M.2.1 pc = .ok (.iastore, 1)) (ha : 2 ≤ a) (hs : a < sz) (hh : h a = .inl (0, n, .inl f)) (hj : vp_in j n) (hjn : j.toNatClampNeg = jn) (k : EV xs L d kc ks M sz (va_up h a (.inl (0, n, .inl (upd f jn x)))) pc' ls st Q) : EV xs L d kc ks M sz h pc ls (.int x :: .int j :: .ref a :: st) Q := by
  subst hp
  exact EV.in ⟨_, 1, hd, Or.inr (Or.inr (Or.inr (Or.inl (by subst hjn; exact ⟨a, st, j, x, n, f, rfl, ha, hs, hh, hj, rfl, k⟩))))⟩
theorem r_last {pc' : Nat} {jn : Nat} {a n : Nat} {j : Int32} {x : Int64} {f : Nat → Int64} (hp : pc + 1 = pc') (hd : decode M.2.1 pc = .ok (.lastore, 1)) (ha : 2 ≤ a) (hs : a < sz) (hh : h a = .inl (1, n, .inr (.inl f))) (hj : vp_in j n) (hjn : j.toNatClampNeg = jn) (k : EV xs L d kc ks M sz (va_up h a (.inl (1, n, .inr (.inl (vp_updL f jn x))))) pc' ls st Q) : EV xs L d kc ks M sz h pc ls (.long x :: .int j :: .ref a :: st) Q := by
  subst hp
  exact EV.in ⟨_, 1, hd, Or.inr (Or.inr (Or.inr (Or.inl (by subst hjn; exact ⟨a, st, j, x, n, f, rfl, ha, hs, hh, hj, rfl, k⟩))))⟩
theorem r_bast {pc' : Nat} {jn : Nat} {a n : Nat} {j x : Int32} {f : Nat → Int32} (hp : pc + 1 = pc') (hd : decode M.2.1 pc = .ok (.bastore, 1)) (ha : 2 ≤ a) (hs : a < sz) (hh : h a = .inl (2, n, .inl f)) (hj : vp_in j n) (hjn : j.toNatClampNeg = jn) (k : EV xs L d kc ks M sz (va_up h a (.inl (2, n, .inl (upd f jn (vp_nar .byte x))))) pc' ls st Q) : EV xs L d kc ks M sz h pc ls (.int x :: .int j :: .ref a :: st) Q := by
  subst hp
  exact EV.in ⟨_, 1, hd, Or.inr (Or.inr (Or.inr (Or.inl (by subst hjn; exact ⟨a, st, j, x, n, f, rfl, ha, hs, hh, hj, rfl, k⟩))))⟩
theorem r_aast {pc' : Nat} {jn : Nat} {a n t v ci : Nat} {j : Int32} {f : Nat → Option Nat} {fs : List Value} {q : vw_C} (hp : pc + 1 = pc') (hd : decode M.2.1 pc = .ok (.aastore, 1)) (ha : 2 ≤ a) (hs : a < sz) (hv : 2 ≤ v) (hvs : v < sz) (hh : h a = .inl (t, n, .inr (.inr (.inr (.inr f))))) (hw : h v = .inr (ci, fs)) (hq : dp_cl[ci]? = some q) (ht : t = 3 ∧ q.1 = RX10 ∨ t = 4 ∧ q.1 = RX3) (hk : 0 < ks) (hj : vp_in j n) (hjn : j.toNatClampNeg = jn) (k : EV xs L d kc ks M sz (va_up h a (.inl (t, n, .inr (.inr (.inr (.inr (va_up f jn (some v)))))))) pc' ls st Q) : EV xs L d kc ks M sz h pc ls (.ref v :: .int j :: .ref a :: st) Q := by
  subst hp
  exact EV.in ⟨_, 1, hd, Or.inr (Or.inr (Or.inr (Or.inl (by subst hjn; exact ⟨a, st, j, v, t, n, f, ci, fs, q, rfl, ha, hs, hv, hvs, hh, hw, hq, ht, hk, hj, rfl, k⟩))))⟩
theorem r_alen {pc' : Nat} {a t : Nat} {x : vp_A} {v : Int32} (hp : pc + 1 = pc') (hd : decode M.2.1 pc = .ok (.arraylength, 1)) (ha : 2 ≤ a) (hs : a < sz) (hh : h a = .inl (t, x)) (ht : t < 5) (hv : Int32.ofNat x.1 = v) (k : EV xs L d kc ks M sz h pc' ls (.int v :: st) Q) : EV xs L d kc ks M sz h pc ls (.ref a :: st) Q := by
  subst hp
  exact EV.in ⟨_, 1, hd, Or.inr (Or.inr (Or.inr (Or.inl ⟨a, st, rfl, Or.inl ⟨t, x, ha, hs, hh, ht, rfl, by rw [hv]; exact k⟩⟩)))⟩
theorem r_slen {pc' : Nat}  (hp : pc + 1 = pc') (hd : decode M.2.1 pc = .ok (.arraylength, 1))  (k : EV xs L d kc ks M sz h pc' ls (.int (Int32.ofNat L) :: st) Q) : EV xs L d kc ks M sz h pc ls (.ref 0 :: st) Q := by
  subst hp
  exact EV.in ⟨_, 1, hd, Or.inr (Or.inr (Or.inr (Or.inl ⟨0, st, rfl, Or.inr (Or.inl ⟨rfl, rfl, k⟩)⟩)))⟩
theorem r_solen {pc' : Nat}  (hp : pc + 1 = pc') (hd : decode M.2.1 pc = .ok (.arraylength, 1))  (k : EV xs L d kc ks M sz h pc' ls (.int 6 :: st) Q) : EV xs L d kc ks M sz h pc ls (.ref 1 :: st) Q := by
  subst hp
  exact EV.in ⟨_, 1, hd, Or.inr (Or.inr (Or.inr (Or.inl ⟨1, st, rfl, Or.inr (Or.inr ⟨rfl, rfl, k⟩)⟩)))⟩
theorem r_newa {pc' : Nat} {ty : ArrayType} {n : Int32} {N t : Nat} {x : vp_A} (hp : pc + 2 = pc') (hd : decode M.2.1 pc = .ok (.newarray ty, 2)) (hn : ¬ n < 0) (hN : n.toNatClampNeg = N) (hb : N ≤ 65536) (ht : ev_at ty = some (t, x)) (hc : Cond.arrayClass (newarray.typeOf ty) ∈ dp_tb) (k : EV xs L d kc ks M (sz + 1) (va_up h sz (.inl (t, N, x.2))) pc' ls (.ref sz :: st) Q) : EV xs L d (kc + 1) (ks + N) M sz h pc ls (.int n :: st) Q := by
  subst hp
  exact EV.in ⟨_, 2, hd, Or.inr (Or.inr (Or.inr (Or.inl ⟨st, n, N, t, x, kc, ks, rfl, hn, hN, hb, ht, hc, rfl, rfl, rfl, k⟩)))⟩
theorem r_anew {pc' : Nat} {idx : Nat} {n : Int32} {N t : Nat} {C : String} (hp : pc + 3 = pc') (hd : decode M.2.1 pc = .ok (.anewarray idx, 3)) (hn : ¬ n < 0) (hN : n.toNatClampNeg = N) (hb : N ≤ 65536) (ht : t = 3 ∧ C = RX10 ∨ t = 4 ∧ C = RX3) (hc : Cond.classLink M.1.cls idx C ∈ dp_tb) (ho : Cond.arrayOver (.object C) ∈ dp_nb) (k : EV xs L d kc ks M (sz + 1) (va_up h sz (.inl (t, N, .inr (.inr (.inr (.inr (fun _ => none))))))) pc' ls (.ref sz :: st) Q) : EV xs L d (kc + 1) (ks + N) M sz h pc ls (.int n :: st) Q := by
  subst hp
  exact EV.in ⟨_, 3, hd, Or.inr (Or.inr (Or.inr (Or.inl ⟨st, n, N, t, C, kc, ks, rfl, hn, hN, hb, ht, hc, ho, rfl, rfl, rfl, k⟩)))⟩
theorem r_new {pc' : Nat} {idx N : Nat} (ci : Nat) {q : vw_C} {fs : List Value} (hp : pc + 3 = pc') (hd : decode M.2.1 pc = .ok (.new idx, 3)) (hq : dp_cl[ci]? = some q) (hN : q.2.2 = N) (h1 : Cond.classLink M.1.cls idx q.1 ∈ dp_tb) (h2 : Cond.instantiable q.1 q.2.2 ∈ dp_tb) (h3 : Cond.initialized q.1 ∈ dp_tb) (hf : (List.range q.2.2).map (fun j => defaultValue (dp_ty ci j)) = fs) (k : EV xs L d kc ks M (sz + 1) (va_up h sz (.inr (ci, fs))) pc' ls (.ref sz :: st) Q) : EV xs L d (kc + 1) (ks + N) M sz h pc ls st Q := by
  subst hp
  exact EV.in ⟨_, 3, hd, Or.inr (Or.inr (Or.inr (Or.inl ⟨ci, q, fs, kc, ks, hq, h1, h2, h3, hf.symm, rfl, by rw [hN], rfl, k⟩)))⟩
theorem r_gets {pc' : Nat} {idx : Nat} (hp : pc + 3 = pc') (hd : decode M.2.1 pc = .ok (.getstatic idx, 3)) (hl : Cond.fieldLink M.1.cls idx RX10 "SO" "[J" ∈ dp_tb) (k : EV xs L d kc ks M sz h pc' ls (.ref 1 :: st) Q) : EV xs L d kc ks M sz h pc ls st Q := by
  subst hp
  exact EV.in ⟨_, 3, hd, Or.inr (Or.inr (Or.inr (Or.inl ⟨hl, rfl, k⟩)))⟩
theorem r_ldc {pc' : Nat} {idx : Nat} {v : Int32} (hp : pc + 2 = pc') (hd : decode M.2.1 pc = .ok (.ldc idx, 2)) (hl : Cond.constant M.1.cls idx v ∈ dp_tb) (k : EV xs L d kc ks M sz h pc' ls (.int v :: st) Q) : EV xs L d kc ks M sz h pc ls st Q := by
  subst hp
  exact EV.in ⟨_, 2, hd, Or.inr (Or.inr (Or.inr (Or.inl ⟨v, hl, rfl, k⟩)))⟩
theorem r_ldcw {pc' : Nat} {idx : Nat} {v : Int32} (hp : pc + 3 = pc') (hd : decode M.2.1 pc = .ok (.ldc_w idx, 3)) (hl : Cond.constant M.1.cls idx v ∈ dp_tb) (k : EV xs L d kc ks M sz h pc' ls (.int v :: st) Q) : EV xs L d kc ks M sz h pc ls st Q := by
  subst hp
  exact EV.in ⟨_, 3, hd, Or.inr (Or.inr (Or.inr (Or.inl ⟨v, hl, rfl, k⟩)))⟩
theorem r_ldc2 {pc' : Nat} {idx : Nat} {v : Int64} (hp : pc + 3 = pc') (hd : decode M.2.1 pc = .ok (.ldc2_w idx, 3)) (hl : Cond.constantLong M.1.cls idx v ∈ dp_tb) (k : EV xs L d kc ks M sz h pc' ls (.long v :: st) Q) : EV xs L d kc ks M sz h pc ls st Q := by
  subst hp
  exact EV.in ⟨_, 3, hd, Or.inr (Or.inr (Or.inr (Or.inl ⟨v, hl, rfl, k⟩)))⟩
theorem r_oinit {pc' : Nat} {idx a : Nat} (hp : pc + 3 = pc') (hd : decode M.2.1 pc = .ok (.invokespecial idx, 3)) (h0 : 0 < d) (hc : ev_cs st ≤ 8) (hl : Cond.methodLink M.1.cls idx objectInit ∈ dp_tb) (h1 : Cond.instanceMethod objectInit ∈ dp_tb) (h2 : Cond.code objectInit ⟨#[0xb1]⟩ 1 none ∈ dp_tb) (k : EV xs L d kc ks M sz h pc' ls st Q) : EV xs L d kc ks M sz h pc ls (.ref a :: st) Q := by
  subst hp
  exact EV.in ⟨_, 3, hd, Or.inr (Or.inr (Or.inr (Or.inl ⟨a, st, rfl, h0, hc, hl, h1, h2, rfl, k⟩)))⟩
theorem r_min {pc' : Nat} {idx : Nat} {x y : Int32} (hp : pc + 3 = pc') (hd : decode M.2.1 pc = .ok (.invokestatic idx, 3)) (h0 : 0 < d) (hc : ev_cs st ≤ 8) (hl : Cond.methodLink M.1.cls idx Lib.Math.min.name ∈ dp_tb) (h1 : Cond.static Lib.Math.min.name ∈ dp_tb) (h2 : Cond.initialized "java/lang/Math" ∈ dp_tb) (h3 : Cond.code Lib.Math.min.name Lib.Math.min.code 2 (some .int) ∈ dp_tb) (k : EV xs L d kc ks M sz h pc' ls (.int (if y < x then y else x) :: st) Q) : EV xs L d kc ks M sz h pc ls (.int y :: .int x :: st) Q := by
  subst hp
  exact EV.in ⟨_, 3, hd, Or.inr (Or.inr (Or.inr (Or.inl ⟨x, y, st, rfl, h0, hc, hl, h1, h2, h3, rfl, k⟩)))⟩
theorem r_call {i : Instr} {pc' d' kc' ks' kc2 ks2 : Nat} {M' : ev_M} {As rest : List Value} {Qm : ev_Q} (hp : pc + 3 = pc') (hd : decode M.2.1 pc = .ok (i, 3)) (hc : ev_ca M i sz h st M' As rest) (h1 : kc = kc' + kc2) (h2 : ks = ks' + ks2) (hE : EV xs L d' kc' ks' M' sz h 0 (ev_en As M'.2.2.1) [] Qm) (k : ∀ sz' h' r, Qm sz' h' r → EV xs L (d' + 1) kc2 ks2 M sz' h' pc' ls (r ++ rest) Q) : EV xs L (d' + 1) kc ks M sz h pc ls st Q := by
  subst hp
  exact EV.in ⟨i, 3, hd, Or.inr (Or.inr (Or.inr (Or.inr (Or.inl ⟨rfl, M', As, rest, d', kc', ks', kc2, ks2, Qm, rfl, h1, h2, hc, hE, k⟩))))⟩
theorem r_ret {i : Instr} (hd : decode M.2.1 pc = .ok (i, 1)) (hr : ev_rt M.2.2.2 i st) (hq : Q sz h st) : EV xs L d kc ks M sz h pc ls st Q := EV.in ⟨i, 1, hd, Or.inr (Or.inr (Or.inr (Or.inr (Or.inr ⟨rfl, hr, hq⟩))))⟩
end RR
end
section
theorem dp_m (i : Nat) {w : Cond} (h : tables_1[i]? = some w) (hg : goodWord w = true) : w ∈ dp_tb := List.mem_filter.mpr ⟨List.mem_append_right _ (List.mem_of_getElem? h), hg⟩
theorem dp_n (i : Nat) {w : Cond} (h : tables_1[i]? = some w) (hg : dp_isN w = true) : w ∈ dp_nb := List.mem_filter.mpr ⟨List.mem_append_right _ (List.mem_of_getElem? h), hg⟩
theorem dp_s (i : Nat) {w : Cond} (h : (k2_sels lw_privs)[i]? = some w) (hg : goodWord w = true) : w ∈ dp_tb := List.mem_filter.mpr ⟨List.mem_append_left _ (List.mem_of_getElem? h), hg⟩
abbrev M_X11_init : ev_M := (yX11_init, cX11_init, 2, none)
abbrev M_X8_init : ev_M := (yX8_init, cX8_init, 1, none)
abbrev M_X4_init : ev_M := (yX4_init, cX4_init, 1, none)
abbrev M_X7_init : ev_M := (yX7_init, cX7_init, 1, none)
abbrev M_X10_init : ev_M := (yX10_init, cX10_init, 1, none)
abbrev M_X10_fill : ev_M := (yX10_fill, cX10_fill, 1, none)
abbrev M_X10_wipe : ev_M := (yX10_wipe, cX10_wipe, 2, none)
abbrev M_X10_turn : ev_M := (yX10_turn, cX10_turn, 2, none)
abbrev M_X0_init : ev_M := (yX0_init, cX0_init, 2, none)
abbrev M_X9_init : ev_M := (yX9_init, cX9_init, 1, none)
abbrev M_X6_init : ev_M := (yX6_init, cX6_init, 1, none)
abbrev M_X2_init : ev_M := (yX2_init, cX2_init, 1, none)
abbrev M_X5_init : ev_M := (yX5_init, cX5_init, 1, none)
abbrev M_X1_init : ev_M := (yX1_init, cX1_init, 1, none)
abbrev M_X3_init : ev_M := (yX3_init, cX3_init, 2, none)
abbrev M_X11_type : ev_M := (yX11_type, cX11_type, 4, (some .int))
abbrev M_X8_append : ev_M := (yX8_append, cX8_append, 5, (some .boolean))
abbrev M_X8_size : ev_M := (yX8_size, cX8_size, 1, (some .int))
abbrev M_X11_clear : ev_M := (yX11_clear, cX11_clear, 2, (some .int))
abbrev M_X8_wipe : ev_M := (yX8_wipe, cX8_wipe, 1, none)
abbrev M_X11_clauses : ev_M := (yX11_clauses, cX11_clauses, 2, (some .int))
abbrev M_X4_readClauses : ev_M := (yX4_readClauses, cX4_readClauses, 3, (some .int))
abbrev M_X8_readFirst : ev_M := (yX8_readFirst, cX8_readFirst, 1, none)
abbrev M_X8_readNext : ev_M := (yX8_readNext, cX8_readNext, 2, none)
abbrev M_X8_skipBlanks : ev_M := (yX8_skipBlanks, cX8_skipBlanks, 1, none)
abbrev M_X8_byteAt : ev_M := (yX8_byteAt, cX8_byteAt, 2, (some .int))
abbrev M_X8_isWordSign : ev_M := (yX8_isWordSign, cX8_isWordSign, 1, (some .boolean))
abbrev M_X8_readWord : ev_M := (yX8_readWord, cX8_readWord, 3, none)
abbrev M_X8_isDigit : ev_M := (yX8_isDigit, cX8_isDigit, 1, (some .boolean))
abbrev M_X8_readNumber : ev_M := (yX8_readNumber, cX8_readNumber, 2, none)
abbrev M_J9_min_7cf53 : ev_M := (yJ9_min_7cf53, cJ9_min_7cf53, 2, (some .int))
abbrev M_X8_kind : ev_M := (yX8_kind, cX8_kind, 1, (some .int))
abbrev M_X4_readClause : ev_M := (yX4_readClause, cX4_readClause, 4, (some .boolean))
abbrev M_X8_value : ev_M := (yX8_value, cX8_value, 1, (some .int))
abbrev M_X4_readLiteral : ev_M := (yX4_readLiteral, cX4_readLiteral, 4, (some .boolean))
abbrev M_X4_passed : ev_M := (yX4_passed, cX4_passed, 2, (some .boolean))
abbrev M_X8_start : ev_M := (yX8_start, cX8_start, 1, (some .int))
abbrev M_X11_takeClauses : ev_M := (yX11_takeClauses, cX11_takeClauses, 2, none)
abbrev M_X4_clausesRead : ev_M := (yX4_clausesRead, cX4_clausesRead, 1, (some .int))
abbrev M_X4_sideOf : ev_M := (yX4_sideOf, cX4_sideOf, 2, (some .int))
abbrev M_X4_at : ev_M := (yX4_at, cX4_at, 2, (some .int))
abbrev M_X4_plainOf : ev_M := (yX4_plainOf, cX4_plainOf, 2, (some .int))
abbrev M_X4_turnedOf : ev_M := (yX4_turnedOf, cX4_turnedOf, 2, (some .int))
abbrev M_X3_becomeClause : ev_M := (yX3_becomeClause, cX3_becomeClause, 4, none)
abbrev M_X7_learn : ev_M := (yX7_learn, cX7_learn, 4, none)
abbrev M_X3_gatherWorlds : ev_M := (yX3_gatherWorlds, cX3_gatherWorlds, 5, none)
abbrev M_X10_joinWhere : ev_M := (yX10_joinWhere, cX10_joinWhere, 6, none)
abbrev M_X10_partWhereSo : ev_M := (yX10_partWhereSo, cX10_partWhereSo, 2, (some .long))
abbrev M_X10_meet : ev_M := (yX10_meet, cX10_meet, 3, none)
abbrev M_X3_letters : ev_M := (yX3_letters, cX3_letters, 1, (some .int))
abbrev M_X10_become : ev_M := (yX10_become, cX10_become, 3, none)
abbrev M_X7_sharedLetters : ev_M := (yX7_sharedLetters, cX7_sharedLetters, 1, (some .int))
abbrev M_X10_spreadBut : ev_M := (yX10_spreadBut, cX10_spreadBut, 3, none)
abbrev M_X10_spread : ev_M := (yX10_spread, cX10_spread, 3, none)
abbrev M_X10_partTurned : ev_M := (yX10_partTurned, cX10_partTurned, 4, (some .long))
abbrev M_X0_learn : ev_M := (yX0_learn, cX0_learn, 4, none)
abbrev M_X3_sayAsClause : ev_M := (yX3_sayAsClause, cX3_sayAsClause, 2, none)
abbrev M_X11_forgetProof : ev_M := (yX11_forgetProof, cX11_forgetProof, 1, none)
abbrev M_X11_firstEmptyLine : ev_M := (yX11_firstEmptyLine, cX11_firstEmptyLine, 2, (some .int))
abbrev M_X3_literals : ev_M := (yX3_literals, cX3_literals, 1, (some .int))
abbrev M_J6_bitCount_0f7a4 : ev_M := (yJ6_bitCount_0f7a4, cJ6_bitCount_0f7a4, 1, (some .int))
abbrev M_X11_proof : ev_M := (yX11_proof, cX11_proof, 2, (some .int))
abbrev M_X4_readSteps : ev_M := (yX4_readSteps, cX4_readSteps, 4, (some .int))
abbrev M_X4_readStep : ev_M := (yX4_readStep, cX4_readStep, 4, (some .boolean))
abbrev M_X11_takeSteps : ev_M := (yX11_takeSteps, cX11_takeSteps, 2, none)
abbrev M_X4_stepsRead : ev_M := (yX4_stepsRead, cX4_stepsRead, 1, (some .int))
abbrev M_X11_makeLine : ev_M := (yX11_makeLine, cX11_makeLine, 8, (some .boolean))
abbrev M_X4_firstOf : ev_M := (yX4_firstOf, cX4_firstOf, 2, (some .int))
abbrev M_X4_secondOf : ev_M := (yX4_secondOf, cX4_secondOf, 2, (some .int))
abbrev M_X4_letterOf : ev_M := (yX4_letterOf, cX4_letterOf, 2, (some .int))
abbrev M_X11_lineAt : ev_M := (yX11_lineAt, cX11_lineAt, 2, (some (.object "SharedSense$Line")))
abbrev M_X3_becomeCut : ev_M := (yX3_becomeCut, cX3_becomeCut, 7, (some .boolean))
abbrev M_X3_rememberCut : ev_M := (yX3_rememberCut, cX3_rememberCut, 4, none)
abbrev M_X7_ownerOf : ev_M := (yX7_ownerOf, cX7_ownerOf, 4, (some .int))
abbrev M_X3_sayAsCut : ev_M := (yX3_sayAsCut, cX3_sayAsCut, 7, none)
abbrev M_X10_choose : ev_M := (yX10_choose, cX10_choose, 7, none)
abbrev M_X3_joins : ev_M := (yX3_joins, cX3_joins, 2, (some .boolean))
abbrev M_X10_join : ev_M := (yX10_join, cX10_join, 3, none)
abbrev M_X11_wrong : ev_M := (yX11_wrong, cX11_wrong, 1, (some .int))
abbrev M_X11_end : ev_M := (yX11_end, cX11_end, 1, (some .int))
abbrev M_X11_line : ev_M := (yX11_line, cX11_line, 4, (some .int))
abbrev M_X3_property : ev_M := (yX3_property, cX3_property, 2, (some .int))
abbrev M_X11_side : ev_M := (yX11_side, cX11_side, 2, (some .int))
abbrev M_X11_holds : ev_M := (yX11_holds, cX11_holds, 4, (some .int))
abbrev M_X11_isWorld : ev_M := (yX11_isWorld, cX11_isWorld, 1, (some .boolean))
abbrev M_X3_isSoIn : ev_M := (yX3_isSoIn, cX3_isSoIn, 2, (some .boolean))
abbrev M_X11_worlds : ev_M := (yX11_worlds, cX11_worlds, 2, (some .int))
abbrev M_X10_size : ev_M := (yX10_size, cX10_size, 3, (some .int))
abbrev M_J13_bitCount_95d88 : ev_M := (yJ13_bitCount_95d88, cJ13_bitCount_95d88, 2, (some .int))
abbrev M_X10_sizeWith : ev_M := (yX10_sizeWith, cX10_sizeWith, 4, (some .int))
abbrev M_X11_says : ev_M := (yX11_says, cX11_says, 5, (some .int))
abbrev M_X11_isWay : ev_M := (yX11_isWay, cX11_isWay, 1, (some .boolean))
abbrev M_X3_sayingBy : ev_M := (yX3_sayingBy, cX3_sayingBy, 2, (some (.object "SharedSense$WorldSet")))
abbrev M_X10_has : ev_M := (yX10_has, cX10_has, 2, (some .boolean))
abbrev M_X11_saying : ev_M := (yX11_saying, cX11_saying, 4, (some .long))
abbrev M_X10_part : ev_M := (yX10_part, cX10_part, 2, (some .long))
abbrev M_X11_between : ev_M := (yX11_between, cX11_between, 3, (some .int))
abbrev M_X7_judge : ev_M := (yX7_judge, cX7_judge, 2, (some .int))
abbrev M_X10_lettersLookedAt : ev_M := (yX10_lettersLookedAt, cX10_lettersLookedAt, 3, (some .int))
abbrev M_X10_hangsOn : ev_M := (yX10_hangsOn, cX10_hangsOn, 3, (some .boolean))
abbrev M_X10_isWithin : ev_M := (yX10_isWithin, cX10_isWithin, 2, (some .boolean))
abbrev M_X11_looks : ev_M := (yX11_looks, cX11_looks, 3, (some .int))
abbrev M_X11_setOf : ev_M := (yX11_setOf, cX11_setOf, 3, (some (.object "SharedSense$WorldSet")))
abbrev M_X11_compare : ev_M := (yX11_compare, cX11_compare, 7, (some .int))
abbrev M_X11_bounds : ev_M := (yX11_bounds, cX11_bounds, 2, (some .int))
abbrev M_X7_freeChoices : ev_M := (yX7_freeChoices, cX7_freeChoices, 2, (some .int))
abbrev M_X11_fewest : ev_M := (yX11_fewest, cX11_fewest, 2, (some .int))
abbrev M_X7_fewestLetters : ev_M := (yX7_fewestLetters, cX7_fewestLetters, 1, (some .int))
abbrev M_X7_findFewest : ev_M := (yX7_findFewest, cX7_findFewest, 5, (some .int))
abbrev M_X7_tellsApart : ev_M := (yX7_tellsApart, cX7_tellsApart, 2, (some .boolean))
abbrev M_X11_sizeOrSet : ev_M := (yX11_sizeOrSet, cX11_sizeOrSet, 2, (some .int))
abbrev M_X11_tell : ev_M := (yX11_tell, cX11_tell, 4, (some .int))
abbrev M_X10_put : ev_M := (yX10_put, cX10_put, 5, none)
abbrev M_X11_copy : ev_M := (yX11_copy, cX11_copy, 7, (some .int))
abbrev M_X11_check : ev_M := (yX11_check, cX11_check, 1, (some .int))
abbrev M_X11_used : ev_M := (yX11_used, cX11_used, 1, (some .int))
abbrev M_X11_clausesUnder : ev_M := (yX11_clausesUnder, cX11_clausesUnder, 5, (some .int))
abbrev M_X11_bitOf : ev_M := (yX11_bitOf, cX11_bitOf, 1, (some .long))
abbrev M_X11_needed : ev_M := (yX11_needed, cX11_needed, 2, (some .int))
abbrev M_X0_leastSet : ev_M := (yX0_leastSet, cX0_leastSet, 1, (some .int))
abbrev M_X0_allClash : ev_M := (yX0_allClash, cX0_allClash, 2, (some .boolean))
abbrev M_X10_leastWorld : ev_M := (yX10_leastWorld, cX10_leastWorld, 4, (some .int))
abbrev M_X0_choose : ev_M := (yX0_choose, cX0_choose, 8, none)
abbrev M_X0_keep : ev_M := (yX0_keep, cX0_keep, 3, none)
abbrev M_X11_labour : ev_M := (yX11_labour, cX11_labour, 5, (some .int))
abbrev M_X11_ruleOf : ev_M := (yX11_ruleOf, cX11_ruleOf, 2, (some (.object "SharedSense$Rule")))
abbrev M_X1_work : ev_M := (yX1_work, cX1_work, 3, (some .int))
abbrev M_X9_mark : ev_M := (yX9_mark, cX9_mark, 2, none)
abbrev M_X2_work : ev_M := (yX2_work, cX2_work, 3, (some .int))
abbrev M_X5_work : ev_M := (yX5_work, cX5_work, 3, (some .int))
abbrev M_X6_work : ev_M := (yX6_work, cX6_work, 3, (some .int))
abbrev M_X11_count : ev_M := (yX11_count, cX11_count, 2, (some .int))
abbrev M_X11_trace : ev_M := (yX11_trace, cX11_trace, 1, (some .long))
abbrev M_X9_sum : ev_M := (yX9_sum, cX9_sum, 1, (some .long))
abbrev M_X12_init : ev_M := (yX12_init, cX12_init, 1, none)
abbrev M_X12_bounds : ev_M := (yX12_bounds, cX12_bounds, 4, none)
abbrev M_X12_shared : ev_M := (yX12_shared, cX12_shared, 1, (some .int))
abbrev M_X12_lettersOf : ev_M := (yX12_lettersOf, cX12_lettersOf, 4, (some .int))
abbrev M_X12_spreads : ev_M := (yX12_spreads, cX12_spreads, 15, none)
abbrev M_X12_has : ev_M := (yX12_has, cX12_has, 3, (some .boolean))
abbrev M_X12_type : ev_M := (yX12_type, cX12_type, 5, (some .int))
abbrev M_X12_in : ev_M := (yX12_in, cX12_in, 3, (some .boolean))
abbrev M_X12_clear : ev_M := (yX12_clear, cX12_clear, 2, (some .int))
abbrev M_X12_clauses : ev_M := (yX12_clauses, cX12_clauses, 3, (some .int))
abbrev M_X12_begins : ev_M := (yX12_begins, cX12_begins, 1, none)
abbrev M_X12_advances : ev_M := (yX12_advances, cX12_advances, 2, none)
abbrev M_X12_byteAt : ev_M := (yX12_byteAt, cX12_byteAt, 2, (some .int))
abbrev M_X12_word : ev_M := (yX12_word, cX12_word, 5, none)
abbrev M_X12_isWell : ev_M := (yX12_isWell, cX12_isWell, 1, (some .boolean))
abbrev M_X12_wants : ev_M := (yX12_wants, cX12_wants, 2, none)
abbrev M_X12_readsClause : ev_M := (yX12_readsClause, cX12_readsClause, 3, none)
abbrev M_X12_goesOn : ev_M := (yX12_goesOn, cX12_goesOn, 1, none)
abbrev M_X12_holding : ev_M := (yX12_holding, cX12_holding, 3, none)
abbrev M_X12_isSo : ev_M := (yX12_isSo, cX12_isSo, 3, (some .boolean))
abbrev M_X12_beginning : ev_M := (yX12_beginning, cX12_beginning, 10, none)
abbrev M_X12_proof : ev_M := (yX12_proof, cX12_proof, 3, (some .int))
abbrev M_X12_readsStep : ev_M := (yX12_readsStep, cX12_readsStep, 3, none)
abbrev M_X12_makes : ev_M := (yX12_makes, cX12_makes, 22, (some .boolean))
abbrev M_X12_wrong : ev_M := (yX12_wrong, cX12_wrong, 1, (some .int))
abbrev M_X12_end : ev_M := (yX12_end, cX12_end, 1, (some .int))
abbrev M_X12_ending : ev_M := (yX12_ending, cX12_ending, 2, (some .int))
abbrev M_X12_line : ev_M := (yX12_line, cX12_line, 3, (some .int))
abbrev M_X12_isLine : ev_M := (yX12_isLine, cX12_isLine, 2, (some .boolean))
abbrev M_X12_side : ev_M := (yX12_side, cX12_side, 2, (some .int))
abbrev M_X12_holds : ev_M := (yX12_holds, cX12_holds, 3, (some .int))
abbrev M_X12_worlds : ev_M := (yX12_worlds, cX12_worlds, 3, (some .int))
abbrev M_X12_many : ev_M := (yX12_many, cX12_many, 3, (some .int))
abbrev M_X12_says : ev_M := (yX12_says, cX12_says, 4, (some .int))
abbrev M_X12_isWay : ev_M := (yX12_isWay, cX12_isWay, 1, (some .boolean))
abbrev M_X12_saying : ev_M := (yX12_saying, cX12_saying, 4, (some .long))
abbrev M_X12_between : ev_M := (yX12_between, cX12_between, 2, (some .int))
abbrev M_X12_takes : ev_M := (yX12_takes, cX12_takes, 5, (some .boolean))
abbrev M_X12_checks : ev_M := (yX12_checks, cX12_checks, 4, (some .int))
abbrev M_X12_looksOf : ev_M := (yX12_looksOf, cX12_looksOf, 4, (some .int))
abbrev M_X12_looks : ev_M := (yX12_looks, cX12_looks, 2, (some .int))
abbrev M_X12_compare : ev_M := (yX12_compare, cX12_compare, 6, (some .int))
abbrev M_X12_bounds_ : ev_M := (yX12_bounds_, cX12_bounds_, 3, (some .int))
abbrev M_X12_ones : ev_M := (yX12_ones, cX12_ones, 3, (some .int))
abbrev M_X12_fewest : ev_M := (yX12_fewest, cX12_fewest, 7, (some .int))
abbrev M_X12_tell : ev_M := (yX12_tell, cX12_tell, 6, (some .int))
abbrev M_X12_copy : ev_M := (yX12_copy, cX12_copy, 8, (some .int))
abbrev M_X12_check : ev_M := (yX12_check, cX12_check, 1, (some .int))
abbrev M_X12_used : ev_M := (yX12_used, cX12_used, 5, (some .int))
abbrev M_X12_needed : ev_M := (yX12_needed, cX12_needed, 4, (some .int))
abbrev M_X12_clash : ev_M := (yX12_clash, cX12_clash, 7, (some .boolean))
abbrev M_X12_labour : ev_M := (yX12_labour, cX12_labour, 5, (some .int))
abbrev M_X12_count : ev_M := (yX12_count, cX12_count, 2, (some .int))
abbrev M_X12_trace : ev_M := (yX12_trace, cX12_trace, 1, (some .long))
theorem cm_X11_init : plainName M_X11_init.1.cls = true ∧ Cond.code M_X11_init.1 M_X11_init.2.1 M_X11_init.2.2.1 M_X11_init.2.2.2 ∈ dp_tb ∧ Cond.initialized M_X11_init.1.cls ∈ dp_tb ∧ M_X11_init.2.2.1 ≤ 40 ∧ (M_X11_init.1.cls ≠ "java/lang/invoke/MethodHandle" ∧ M_X11_init.1.cls ≠ "java/lang/invoke/VarHandle") := ⟨by decide +kernel, (dp_m 21 (by decide +kernel) rfl), (dp_m 1 (by decide +kernel) rfl), by decide, by decide +kernel, by decide +kernel⟩
theorem cm_X8_init : plainName M_X8_init.1.cls = true ∧ Cond.code M_X8_init.1 M_X8_init.2.1 M_X8_init.2.2.1 M_X8_init.2.2.2 ∈ dp_tb ∧ Cond.initialized M_X8_init.1.cls ∈ dp_tb ∧ M_X8_init.2.2.1 ≤ 40 ∧ (M_X8_init.1.cls ≠ "java/lang/invoke/MethodHandle" ∧ M_X8_init.1.cls ≠ "java/lang/invoke/VarHandle") := ⟨by decide +kernel, (dp_m 29 (by decide +kernel) rfl), (dp_m 2 (by decide +kernel) rfl), by decide, by decide +kernel, by decide +kernel⟩
theorem cm_X4_init : plainName M_X4_init.1.cls = true ∧ Cond.code M_X4_init.1 M_X4_init.2.1 M_X4_init.2.2.1 M_X4_init.2.2.2 ∈ dp_tb ∧ Cond.initialized M_X4_init.1.cls ∈ dp_tb ∧ M_X4_init.2.2.1 ≤ 40 ∧ (M_X4_init.1.cls ≠ "java/lang/invoke/MethodHandle" ∧ M_X4_init.1.cls ≠ "java/lang/invoke/VarHandle") := ⟨by decide +kernel, (dp_m 55 (by decide +kernel) rfl), (dp_m 3 (by decide +kernel) rfl), by decide, by decide +kernel, by decide +kernel⟩
theorem cm_X7_init : plainName M_X7_init.1.cls = true ∧ Cond.code M_X7_init.1 M_X7_init.2.1 M_X7_init.2.2.1 M_X7_init.2.2.2 ∈ dp_tb ∧ Cond.initialized M_X7_init.1.cls ∈ dp_tb ∧ M_X7_init.2.2.1 ≤ 40 ∧ (M_X7_init.1.cls ≠ "java/lang/invoke/MethodHandle" ∧ M_X7_init.1.cls ≠ "java/lang/invoke/VarHandle") := ⟨by decide +kernel, (dp_m 95 (by decide +kernel) rfl), (dp_m 4 (by decide +kernel) rfl), by decide, by decide +kernel, by decide +kernel⟩
theorem cm_X10_init : plainName M_X10_init.1.cls = true ∧ Cond.code M_X10_init.1 M_X10_init.2.1 M_X10_init.2.2.1 M_X10_init.2.2.2 ∈ dp_tb ∧ Cond.initialized M_X10_init.1.cls ∈ dp_tb ∧ M_X10_init.2.2.1 ≤ 40 ∧ (M_X10_init.1.cls ≠ "java/lang/invoke/MethodHandle" ∧ M_X10_init.1.cls ≠ "java/lang/invoke/VarHandle") := ⟨by decide +kernel, (dp_m 101 (by decide +kernel) rfl), (dp_m 5 (by decide +kernel) rfl), by decide, by decide +kernel, by decide +kernel⟩
theorem cm_X10_fill : plainName M_X10_fill.1.cls = true ∧ Cond.code M_X10_fill.1 M_X10_fill.2.1 M_X10_fill.2.2.1 M_X10_fill.2.2.2 ∈ dp_tb ∧ Cond.initialized M_X10_fill.1.cls ∈ dp_tb ∧ M_X10_fill.2.2.1 ≤ 40 ∧ (M_X10_fill.1.cls ≠ "java/lang/invoke/MethodHandle" ∧ M_X10_fill.1.cls ≠ "java/lang/invoke/VarHandle") := ⟨by decide +kernel, (dp_m 111 (by decide +kernel) rfl), (dp_m 5 (by decide +kernel) rfl), by decide, by decide +kernel, by decide +kernel⟩
theorem cm_X10_wipe : plainName M_X10_wipe.1.cls = true ∧ Cond.code M_X10_wipe.1 M_X10_wipe.2.1 M_X10_wipe.2.2.1 M_X10_wipe.2.2.2 ∈ dp_tb ∧ Cond.initialized M_X10_wipe.1.cls ∈ dp_tb ∧ M_X10_wipe.2.2.1 ≤ 40 ∧ (M_X10_wipe.1.cls ≠ "java/lang/invoke/MethodHandle" ∧ M_X10_wipe.1.cls ≠ "java/lang/invoke/VarHandle") := ⟨by decide +kernel, (dp_m 115 (by decide +kernel) rfl), (dp_m 5 (by decide +kernel) rfl), by decide, by decide +kernel, by decide +kernel⟩
theorem cm_X10_turn : plainName M_X10_turn.1.cls = true ∧ Cond.code M_X10_turn.1 M_X10_turn.2.1 M_X10_turn.2.2.1 M_X10_turn.2.2.2 ∈ dp_tb ∧ Cond.initialized M_X10_turn.1.cls ∈ dp_tb ∧ M_X10_turn.2.2.1 ≤ 40 ∧ (M_X10_turn.1.cls ≠ "java/lang/invoke/MethodHandle" ∧ M_X10_turn.1.cls ≠ "java/lang/invoke/VarHandle") := ⟨by decide +kernel, (dp_m 119 (by decide +kernel) rfl), (dp_m 5 (by decide +kernel) rfl), by decide, by decide +kernel, by decide +kernel⟩
theorem cm_X0_init : plainName M_X0_init.1.cls = true ∧ Cond.code M_X0_init.1 M_X0_init.2.1 M_X0_init.2.2.1 M_X0_init.2.2.2 ∈ dp_tb ∧ Cond.initialized M_X0_init.1.cls ∈ dp_tb ∧ M_X0_init.2.2.1 ≤ 40 ∧ (M_X0_init.1.cls ≠ "java/lang/invoke/MethodHandle" ∧ M_X0_init.1.cls ≠ "java/lang/invoke/VarHandle") := ⟨by decide +kernel, (dp_m 157 (by decide +kernel) rfl), (dp_m 6 (by decide +kernel) rfl), by decide, by decide +kernel, by decide +kernel⟩
theorem cm_X9_init : plainName M_X9_init.1.cls = true ∧ Cond.code M_X9_init.1 M_X9_init.2.1 M_X9_init.2.2.1 M_X9_init.2.2.2 ∈ dp_tb ∧ Cond.initialized M_X9_init.1.cls ∈ dp_tb ∧ M_X9_init.2.2.1 ≤ 40 ∧ (M_X9_init.1.cls ≠ "java/lang/invoke/MethodHandle" ∧ M_X9_init.1.cls ≠ "java/lang/invoke/VarHandle") := ⟨by decide +kernel, (dp_m 187 (by decide +kernel) rfl), (dp_m 7 (by decide +kernel) rfl), by decide, by decide +kernel, by decide +kernel⟩
theorem cm_X6_init : plainName M_X6_init.1.cls = true ∧ Cond.code M_X6_init.1 M_X6_init.2.1 M_X6_init.2.2.1 M_X6_init.2.2.2 ∈ dp_tb ∧ Cond.initialized M_X6_init.1.cls ∈ dp_tb ∧ M_X6_init.2.2.1 ≤ 40 ∧ (M_X6_init.1.cls ≠ "java/lang/invoke/MethodHandle" ∧ M_X6_init.1.cls ≠ "java/lang/invoke/VarHandle") := ⟨by decide +kernel, (dp_m 197 (by decide +kernel) rfl), (dp_m 8 (by decide +kernel) rfl), by decide, by decide +kernel, by decide +kernel⟩
theorem cm_X2_init : plainName M_X2_init.1.cls = true ∧ Cond.code M_X2_init.1 M_X2_init.2.1 M_X2_init.2.2.1 M_X2_init.2.2.2 ∈ dp_tb ∧ Cond.initialized M_X2_init.1.cls ∈ dp_tb ∧ M_X2_init.2.2.1 ≤ 40 ∧ (M_X2_init.1.cls ≠ "java/lang/invoke/MethodHandle" ∧ M_X2_init.1.cls ≠ "java/lang/invoke/VarHandle") := ⟨by decide +kernel, (dp_m 204 (by decide +kernel) rfl), (dp_m 9 (by decide +kernel) rfl), by decide, by decide +kernel, by decide +kernel⟩
theorem cm_X5_init : plainName M_X5_init.1.cls = true ∧ Cond.code M_X5_init.1 M_X5_init.2.1 M_X5_init.2.2.1 M_X5_init.2.2.2 ∈ dp_tb ∧ Cond.initialized M_X5_init.1.cls ∈ dp_tb ∧ M_X5_init.2.2.1 ≤ 40 ∧ (M_X5_init.1.cls ≠ "java/lang/invoke/MethodHandle" ∧ M_X5_init.1.cls ≠ "java/lang/invoke/VarHandle") := ⟨by decide +kernel, (dp_m 211 (by decide +kernel) rfl), (dp_m 10 (by decide +kernel) rfl), by decide, by decide +kernel, by decide +kernel⟩
theorem cm_X1_init : plainName M_X1_init.1.cls = true ∧ Cond.code M_X1_init.1 M_X1_init.2.1 M_X1_init.2.2.1 M_X1_init.2.2.2 ∈ dp_tb ∧ Cond.initialized M_X1_init.1.cls ∈ dp_tb ∧ M_X1_init.2.2.1 ≤ 40 ∧ (M_X1_init.1.cls ≠ "java/lang/invoke/MethodHandle" ∧ M_X1_init.1.cls ≠ "java/lang/invoke/VarHandle") := ⟨by decide +kernel, (dp_m 218 (by decide +kernel) rfl), (dp_m 11 (by decide +kernel) rfl), by decide, by decide +kernel, by decide +kernel⟩
theorem cm_X3_init : plainName M_X3_init.1.cls = true ∧ Cond.code M_X3_init.1 M_X3_init.2.1 M_X3_init.2.2.1 M_X3_init.2.2.2 ∈ dp_tb ∧ Cond.initialized M_X3_init.1.cls ∈ dp_tb ∧ M_X3_init.2.2.1 ≤ 40 ∧ (M_X3_init.1.cls ≠ "java/lang/invoke/MethodHandle" ∧ M_X3_init.1.cls ≠ "java/lang/invoke/VarHandle") := ⟨by decide +kernel, (dp_m 224 (by decide +kernel) rfl), (dp_m 12 (by decide +kernel) rfl), by decide, by decide +kernel, by decide +kernel⟩
theorem cm_X11_type : plainName M_X11_type.1.cls = true ∧ Cond.code M_X11_type.1 M_X11_type.2.1 M_X11_type.2.2.1 M_X11_type.2.2.2 ∈ dp_tb ∧ Cond.initialized M_X11_type.1.cls ∈ dp_tb ∧ M_X11_type.2.2.1 ≤ 40 ∧ (M_X11_type.1.cls ≠ "java/lang/invoke/MethodHandle" ∧ M_X11_type.1.cls ≠ "java/lang/invoke/VarHandle") := ⟨by decide +kernel, (dp_m 305 (by decide +kernel) rfl), (dp_m 1 (by decide +kernel) rfl), by decide, by decide +kernel, by decide +kernel⟩
theorem cm_X8_append : plainName M_X8_append.1.cls = true ∧ Cond.code M_X8_append.1 M_X8_append.2.1 M_X8_append.2.2.1 M_X8_append.2.2.2 ∈ dp_tb ∧ Cond.initialized M_X8_append.1.cls ∈ dp_tb ∧ M_X8_append.2.2.1 ≤ 40 ∧ (M_X8_append.1.cls ≠ "java/lang/invoke/MethodHandle" ∧ M_X8_append.1.cls ≠ "java/lang/invoke/VarHandle") := ⟨by decide +kernel, (dp_m 309 (by decide +kernel) rfl), (dp_m 2 (by decide +kernel) rfl), by decide, by decide +kernel, by decide +kernel⟩
theorem cm_X8_size : plainName M_X8_size.1.cls = true ∧ Cond.code M_X8_size.1 M_X8_size.2.1 M_X8_size.2.2.1 M_X8_size.2.2.2 ∈ dp_tb ∧ Cond.initialized M_X8_size.1.cls ∈ dp_tb ∧ M_X8_size.2.2.1 ≤ 40 ∧ (M_X8_size.1.cls ≠ "java/lang/invoke/MethodHandle" ∧ M_X8_size.1.cls ≠ "java/lang/invoke/VarHandle") := ⟨by decide +kernel, (dp_m 313 (by decide +kernel) rfl), (dp_m 2 (by decide +kernel) rfl), by decide, by decide +kernel, by decide +kernel⟩
theorem cm_X11_clear : plainName M_X11_clear.1.cls = true ∧ Cond.code M_X11_clear.1 M_X11_clear.2.1 M_X11_clear.2.2.1 M_X11_clear.2.2.2 ∈ dp_tb ∧ Cond.initialized M_X11_clear.1.cls ∈ dp_tb ∧ M_X11_clear.2.2.1 ≤ 40 ∧ (M_X11_clear.1.cls ≠ "java/lang/invoke/MethodHandle" ∧ M_X11_clear.1.cls ≠ "java/lang/invoke/VarHandle") := ⟨by decide +kernel, (dp_m 317 (by decide +kernel) rfl), (dp_m 1 (by decide +kernel) rfl), by decide, by decide +kernel, by decide +kernel⟩
theorem cm_X8_wipe : plainName M_X8_wipe.1.cls = true ∧ Cond.code M_X8_wipe.1 M_X8_wipe.2.1 M_X8_wipe.2.2.1 M_X8_wipe.2.2.2 ∈ dp_tb ∧ Cond.initialized M_X8_wipe.1.cls ∈ dp_tb ∧ M_X8_wipe.2.2.1 ≤ 40 ∧ (M_X8_wipe.1.cls ≠ "java/lang/invoke/MethodHandle" ∧ M_X8_wipe.1.cls ≠ "java/lang/invoke/VarHandle") := ⟨by decide +kernel, (dp_m 321 (by decide +kernel) rfl), (dp_m 2 (by decide +kernel) rfl), by decide, by decide +kernel, by decide +kernel⟩
theorem cm_X11_clauses : plainName M_X11_clauses.1.cls = true ∧ Cond.code M_X11_clauses.1 M_X11_clauses.2.1 M_X11_clauses.2.2.1 M_X11_clauses.2.2.2 ∈ dp_tb ∧ Cond.initialized M_X11_clauses.1.cls ∈ dp_tb ∧ M_X11_clauses.2.2.1 ≤ 40 ∧ (M_X11_clauses.1.cls ≠ "java/lang/invoke/MethodHandle" ∧ M_X11_clauses.1.cls ≠ "java/lang/invoke/VarHandle") := ⟨by decide +kernel, (dp_m 325 (by decide +kernel) rfl), (dp_m 1 (by decide +kernel) rfl), by decide, by decide +kernel, by decide +kernel⟩
theorem cm_X4_readClauses : plainName M_X4_readClauses.1.cls = true ∧ Cond.code M_X4_readClauses.1 M_X4_readClauses.2.1 M_X4_readClauses.2.2.1 M_X4_readClauses.2.2.2 ∈ dp_tb ∧ Cond.initialized M_X4_readClauses.1.cls ∈ dp_tb ∧ M_X4_readClauses.2.2.1 ≤ 40 ∧ (M_X4_readClauses.1.cls ≠ "java/lang/invoke/MethodHandle" ∧ M_X4_readClauses.1.cls ≠ "java/lang/invoke/VarHandle") := ⟨by decide +kernel, (dp_m 329 (by decide +kernel) rfl), (dp_m 3 (by decide +kernel) rfl), by decide, by decide +kernel, by decide +kernel⟩
theorem cm_X8_readFirst : plainName M_X8_readFirst.1.cls = true ∧ Cond.code M_X8_readFirst.1 M_X8_readFirst.2.1 M_X8_readFirst.2.2.1 M_X8_readFirst.2.2.2 ∈ dp_tb ∧ Cond.initialized M_X8_readFirst.1.cls ∈ dp_tb ∧ M_X8_readFirst.2.2.1 ≤ 40 ∧ (M_X8_readFirst.1.cls ≠ "java/lang/invoke/MethodHandle" ∧ M_X8_readFirst.1.cls ≠ "java/lang/invoke/VarHandle") := ⟨by decide +kernel, (dp_m 333 (by decide +kernel) rfl), (dp_m 2 (by decide +kernel) rfl), by decide, by decide +kernel, by decide +kernel⟩
theorem cm_X8_readNext : plainName M_X8_readNext.1.cls = true ∧ Cond.code M_X8_readNext.1 M_X8_readNext.2.1 M_X8_readNext.2.2.1 M_X8_readNext.2.2.2 ∈ dp_tb ∧ Cond.initialized M_X8_readNext.1.cls ∈ dp_tb ∧ M_X8_readNext.2.2.1 ≤ 40 ∧ (M_X8_readNext.1.cls ≠ "java/lang/invoke/MethodHandle" ∧ M_X8_readNext.1.cls ≠ "java/lang/invoke/VarHandle") := ⟨by decide +kernel, (dp_m 337 (by decide +kernel) rfl), (dp_m 2 (by decide +kernel) rfl), by decide, by decide +kernel, by decide +kernel⟩
theorem cm_X8_skipBlanks : plainName M_X8_skipBlanks.1.cls = true ∧ Cond.code M_X8_skipBlanks.1 M_X8_skipBlanks.2.1 M_X8_skipBlanks.2.2.1 M_X8_skipBlanks.2.2.2 ∈ dp_tb ∧ Cond.initialized M_X8_skipBlanks.1.cls ∈ dp_tb ∧ M_X8_skipBlanks.2.2.1 ≤ 40 ∧ (M_X8_skipBlanks.1.cls ≠ "java/lang/invoke/MethodHandle" ∧ M_X8_skipBlanks.1.cls ≠ "java/lang/invoke/VarHandle") := ⟨by decide +kernel, (dp_m 341 (by decide +kernel) rfl), (dp_m 2 (by decide +kernel) rfl), by decide, by decide +kernel, by decide +kernel⟩
theorem cm_X8_byteAt : plainName M_X8_byteAt.1.cls = true ∧ Cond.code M_X8_byteAt.1 M_X8_byteAt.2.1 M_X8_byteAt.2.2.1 M_X8_byteAt.2.2.2 ∈ dp_tb ∧ Cond.initialized M_X8_byteAt.1.cls ∈ dp_tb ∧ M_X8_byteAt.2.2.1 ≤ 40 ∧ (M_X8_byteAt.1.cls ≠ "java/lang/invoke/MethodHandle" ∧ M_X8_byteAt.1.cls ≠ "java/lang/invoke/VarHandle") := ⟨by decide +kernel, (dp_m 345 (by decide +kernel) rfl), (dp_m 2 (by decide +kernel) rfl), by decide, by decide +kernel, by decide +kernel⟩
theorem cm_X8_isWordSign : plainName M_X8_isWordSign.1.cls = true ∧ Cond.code M_X8_isWordSign.1 M_X8_isWordSign.2.1 M_X8_isWordSign.2.2.1 M_X8_isWordSign.2.2.2 ∈ dp_tb ∧ Cond.initialized M_X8_isWordSign.1.cls ∈ dp_tb ∧ M_X8_isWordSign.2.2.1 ≤ 40 ∧ (M_X8_isWordSign.1.cls ≠ "java/lang/invoke/MethodHandle" ∧ M_X8_isWordSign.1.cls ≠ "java/lang/invoke/VarHandle") := ⟨by decide +kernel, (dp_m 348 (by decide +kernel) rfl), (dp_m 2 (by decide +kernel) rfl), by decide, by decide +kernel, by decide +kernel⟩
theorem cm_X8_readWord : plainName M_X8_readWord.1.cls = true ∧ Cond.code M_X8_readWord.1 M_X8_readWord.2.1 M_X8_readWord.2.2.1 M_X8_readWord.2.2.2 ∈ dp_tb ∧ Cond.initialized M_X8_readWord.1.cls ∈ dp_tb ∧ M_X8_readWord.2.2.1 ≤ 40 ∧ (M_X8_readWord.1.cls ≠ "java/lang/invoke/MethodHandle" ∧ M_X8_readWord.1.cls ≠ "java/lang/invoke/VarHandle") := ⟨by decide +kernel, (dp_m 352 (by decide +kernel) rfl), (dp_m 2 (by decide +kernel) rfl), by decide, by decide +kernel, by decide +kernel⟩
theorem cm_X8_isDigit : plainName M_X8_isDigit.1.cls = true ∧ Cond.code M_X8_isDigit.1 M_X8_isDigit.2.1 M_X8_isDigit.2.2.1 M_X8_isDigit.2.2.2 ∈ dp_tb ∧ Cond.initialized M_X8_isDigit.1.cls ∈ dp_tb ∧ M_X8_isDigit.2.2.1 ≤ 40 ∧ (M_X8_isDigit.1.cls ≠ "java/lang/invoke/MethodHandle" ∧ M_X8_isDigit.1.cls ≠ "java/lang/invoke/VarHandle") := ⟨by decide +kernel, (dp_m 358 (by decide +kernel) rfl), (dp_m 2 (by decide +kernel) rfl), by decide, by decide +kernel, by decide +kernel⟩
theorem cm_X8_readNumber : plainName M_X8_readNumber.1.cls = true ∧ Cond.code M_X8_readNumber.1 M_X8_readNumber.2.1 M_X8_readNumber.2.2.1 M_X8_readNumber.2.2.2 ∈ dp_tb ∧ Cond.initialized M_X8_readNumber.1.cls ∈ dp_tb ∧ M_X8_readNumber.2.2.1 ≤ 40 ∧ (M_X8_readNumber.1.cls ≠ "java/lang/invoke/MethodHandle" ∧ M_X8_readNumber.1.cls ≠ "java/lang/invoke/VarHandle") := ⟨by decide +kernel, (dp_m 362 (by decide +kernel) rfl), (dp_m 2 (by decide +kernel) rfl), by decide, by decide +kernel, by decide +kernel⟩
theorem cm_X8_kind : plainName M_X8_kind.1.cls = true ∧ Cond.code M_X8_kind.1 M_X8_kind.2.1 M_X8_kind.2.2.1 M_X8_kind.2.2.2 ∈ dp_tb ∧ Cond.initialized M_X8_kind.1.cls ∈ dp_tb ∧ M_X8_kind.2.2.1 ≤ 40 ∧ (M_X8_kind.1.cls ≠ "java/lang/invoke/MethodHandle" ∧ M_X8_kind.1.cls ≠ "java/lang/invoke/VarHandle") := ⟨by decide +kernel, (dp_m 369 (by decide +kernel) rfl), (dp_m 2 (by decide +kernel) rfl), by decide, by decide +kernel, by decide +kernel⟩
theorem cm_X4_readClause : plainName M_X4_readClause.1.cls = true ∧ Cond.code M_X4_readClause.1 M_X4_readClause.2.1 M_X4_readClause.2.2.1 M_X4_readClause.2.2.2 ∈ dp_tb ∧ Cond.initialized M_X4_readClause.1.cls ∈ dp_tb ∧ M_X4_readClause.2.2.1 ≤ 40 ∧ (M_X4_readClause.1.cls ≠ "java/lang/invoke/MethodHandle" ∧ M_X4_readClause.1.cls ≠ "java/lang/invoke/VarHandle") := ⟨by decide +kernel, (dp_m 373 (by decide +kernel) rfl), (dp_m 3 (by decide +kernel) rfl), by decide, by decide +kernel, by decide +kernel⟩
theorem cm_X8_value : plainName M_X8_value.1.cls = true ∧ Cond.code M_X8_value.1 M_X8_value.2.1 M_X8_value.2.2.1 M_X8_value.2.2.2 ∈ dp_tb ∧ Cond.initialized M_X8_value.1.cls ∈ dp_tb ∧ M_X8_value.2.2.1 ≤ 40 ∧ (M_X8_value.1.cls ≠ "java/lang/invoke/MethodHandle" ∧ M_X8_value.1.cls ≠ "java/lang/invoke/VarHandle") := ⟨by decide +kernel, (dp_m 377 (by decide +kernel) rfl), (dp_m 2 (by decide +kernel) rfl), by decide, by decide +kernel, by decide +kernel⟩
theorem cm_X4_readLiteral : plainName M_X4_readLiteral.1.cls = true ∧ Cond.code M_X4_readLiteral.1 M_X4_readLiteral.2.1 M_X4_readLiteral.2.2.1 M_X4_readLiteral.2.2.2 ∈ dp_tb ∧ Cond.initialized M_X4_readLiteral.1.cls ∈ dp_tb ∧ M_X4_readLiteral.2.2.1 ≤ 40 ∧ (M_X4_readLiteral.1.cls ≠ "java/lang/invoke/MethodHandle" ∧ M_X4_readLiteral.1.cls ≠ "java/lang/invoke/VarHandle") := ⟨by decide +kernel, (dp_m 382 (by decide +kernel) rfl), (dp_m 3 (by decide +kernel) rfl), by decide, by decide +kernel, by decide +kernel⟩
theorem cm_X4_passed : plainName M_X4_passed.1.cls = true ∧ Cond.code M_X4_passed.1 M_X4_passed.2.1 M_X4_passed.2.2.1 M_X4_passed.2.2.2 ∈ dp_tb ∧ Cond.initialized M_X4_passed.1.cls ∈ dp_tb ∧ M_X4_passed.2.2.1 ≤ 40 ∧ (M_X4_passed.1.cls ≠ "java/lang/invoke/MethodHandle" ∧ M_X4_passed.1.cls ≠ "java/lang/invoke/VarHandle") := ⟨by decide +kernel, (dp_m 385 (by decide +kernel) rfl), (dp_m 3 (by decide +kernel) rfl), by decide, by decide +kernel, by decide +kernel⟩
theorem cm_X8_start : plainName M_X8_start.1.cls = true ∧ Cond.code M_X8_start.1 M_X8_start.2.1 M_X8_start.2.2.1 M_X8_start.2.2.2 ∈ dp_tb ∧ Cond.initialized M_X8_start.1.cls ∈ dp_tb ∧ M_X8_start.2.2.1 ≤ 40 ∧ (M_X8_start.1.cls ≠ "java/lang/invoke/MethodHandle" ∧ M_X8_start.1.cls ≠ "java/lang/invoke/VarHandle") := ⟨by decide +kernel, (dp_m 389 (by decide +kernel) rfl), (dp_m 2 (by decide +kernel) rfl), by decide, by decide +kernel, by decide +kernel⟩
theorem cm_X11_takeClauses : plainName M_X11_takeClauses.1.cls = true ∧ Cond.code M_X11_takeClauses.1 M_X11_takeClauses.2.1 M_X11_takeClauses.2.2.1 M_X11_takeClauses.2.2.2 ∈ dp_tb ∧ Cond.initialized M_X11_takeClauses.1.cls ∈ dp_tb ∧ M_X11_takeClauses.2.2.1 ≤ 40 ∧ (M_X11_takeClauses.1.cls ≠ "java/lang/invoke/MethodHandle" ∧ M_X11_takeClauses.1.cls ≠ "java/lang/invoke/VarHandle") := ⟨by decide +kernel, (dp_m 393 (by decide +kernel) rfl), (dp_m 1 (by decide +kernel) rfl), by decide, by decide +kernel, by decide +kernel⟩
theorem cm_X4_clausesRead : plainName M_X4_clausesRead.1.cls = true ∧ Cond.code M_X4_clausesRead.1 M_X4_clausesRead.2.1 M_X4_clausesRead.2.2.1 M_X4_clausesRead.2.2.2 ∈ dp_tb ∧ Cond.initialized M_X4_clausesRead.1.cls ∈ dp_tb ∧ M_X4_clausesRead.2.2.1 ≤ 40 ∧ (M_X4_clausesRead.1.cls ≠ "java/lang/invoke/MethodHandle" ∧ M_X4_clausesRead.1.cls ≠ "java/lang/invoke/VarHandle") := ⟨by decide +kernel, (dp_m 397 (by decide +kernel) rfl), (dp_m 3 (by decide +kernel) rfl), by decide, by decide +kernel, by decide +kernel⟩
theorem cm_X4_sideOf : plainName M_X4_sideOf.1.cls = true ∧ Cond.code M_X4_sideOf.1 M_X4_sideOf.2.1 M_X4_sideOf.2.2.1 M_X4_sideOf.2.2.2 ∈ dp_tb ∧ Cond.initialized M_X4_sideOf.1.cls ∈ dp_tb ∧ M_X4_sideOf.2.2.1 ≤ 40 ∧ (M_X4_sideOf.1.cls ≠ "java/lang/invoke/MethodHandle" ∧ M_X4_sideOf.1.cls ≠ "java/lang/invoke/VarHandle") := ⟨by decide +kernel, (dp_m 402 (by decide +kernel) rfl), (dp_m 3 (by decide +kernel) rfl), by decide, by decide +kernel, by decide +kernel⟩
theorem cm_X4_at : plainName M_X4_at.1.cls = true ∧ Cond.code M_X4_at.1 M_X4_at.2.1 M_X4_at.2.2.1 M_X4_at.2.2.2 ∈ dp_tb ∧ Cond.initialized M_X4_at.1.cls ∈ dp_tb ∧ M_X4_at.2.2.1 ≤ 40 ∧ (M_X4_at.1.cls ≠ "java/lang/invoke/MethodHandle" ∧ M_X4_at.1.cls ≠ "java/lang/invoke/VarHandle") := ⟨by decide +kernel, (dp_m 405 (by decide +kernel) rfl), (dp_m 3 (by decide +kernel) rfl), by decide, by decide +kernel, by decide +kernel⟩
theorem cm_X4_plainOf : plainName M_X4_plainOf.1.cls = true ∧ Cond.code M_X4_plainOf.1 M_X4_plainOf.2.1 M_X4_plainOf.2.2.1 M_X4_plainOf.2.2.2 ∈ dp_tb ∧ Cond.initialized M_X4_plainOf.1.cls ∈ dp_tb ∧ M_X4_plainOf.2.2.1 ≤ 40 ∧ (M_X4_plainOf.1.cls ≠ "java/lang/invoke/MethodHandle" ∧ M_X4_plainOf.1.cls ≠ "java/lang/invoke/VarHandle") := ⟨by decide +kernel, (dp_m 409 (by decide +kernel) rfl), (dp_m 3 (by decide +kernel) rfl), by decide, by decide +kernel, by decide +kernel⟩
theorem cm_X4_turnedOf : plainName M_X4_turnedOf.1.cls = true ∧ Cond.code M_X4_turnedOf.1 M_X4_turnedOf.2.1 M_X4_turnedOf.2.2.1 M_X4_turnedOf.2.2.2 ∈ dp_tb ∧ Cond.initialized M_X4_turnedOf.1.cls ∈ dp_tb ∧ M_X4_turnedOf.2.2.1 ≤ 40 ∧ (M_X4_turnedOf.1.cls ≠ "java/lang/invoke/MethodHandle" ∧ M_X4_turnedOf.1.cls ≠ "java/lang/invoke/VarHandle") := ⟨by decide +kernel, (dp_m 413 (by decide +kernel) rfl), (dp_m 3 (by decide +kernel) rfl), by decide, by decide +kernel, by decide +kernel⟩
theorem cm_X3_becomeClause : plainName M_X3_becomeClause.1.cls = true ∧ Cond.code M_X3_becomeClause.1 M_X3_becomeClause.2.1 M_X3_becomeClause.2.2.1 M_X3_becomeClause.2.2.2 ∈ dp_tb ∧ Cond.initialized M_X3_becomeClause.1.cls ∈ dp_tb ∧ M_X3_becomeClause.2.2.1 ≤ 40 ∧ (M_X3_becomeClause.1.cls ≠ "java/lang/invoke/MethodHandle" ∧ M_X3_becomeClause.1.cls ≠ "java/lang/invoke/VarHandle") := ⟨by decide +kernel, (dp_m 417 (by decide +kernel) rfl), (dp_m 12 (by decide +kernel) rfl), by decide, by decide +kernel, by decide +kernel⟩
theorem cm_X7_learn : plainName M_X7_learn.1.cls = true ∧ Cond.code M_X7_learn.1 M_X7_learn.2.1 M_X7_learn.2.2.1 M_X7_learn.2.2.2 ∈ dp_tb ∧ Cond.initialized M_X7_learn.1.cls ∈ dp_tb ∧ M_X7_learn.2.2.1 ≤ 40 ∧ (M_X7_learn.1.cls ≠ "java/lang/invoke/MethodHandle" ∧ M_X7_learn.1.cls ≠ "java/lang/invoke/VarHandle") := ⟨by decide +kernel, (dp_m 421 (by decide +kernel) rfl), (dp_m 4 (by decide +kernel) rfl), by decide, by decide +kernel, by decide +kernel⟩
theorem cm_X3_gatherWorlds : plainName M_X3_gatherWorlds.1.cls = true ∧ Cond.code M_X3_gatherWorlds.1 M_X3_gatherWorlds.2.1 M_X3_gatherWorlds.2.2.1 M_X3_gatherWorlds.2.2.2 ∈ dp_tb ∧ Cond.initialized M_X3_gatherWorlds.1.cls ∈ dp_tb ∧ M_X3_gatherWorlds.2.2.1 ≤ 40 ∧ (M_X3_gatherWorlds.1.cls ≠ "java/lang/invoke/MethodHandle" ∧ M_X3_gatherWorlds.1.cls ≠ "java/lang/invoke/VarHandle") := ⟨by decide +kernel, (dp_m 425 (by decide +kernel) rfl), (dp_m 12 (by decide +kernel) rfl), by decide, by decide +kernel, by decide +kernel⟩
theorem cm_X10_joinWhere : plainName M_X10_joinWhere.1.cls = true ∧ Cond.code M_X10_joinWhere.1 M_X10_joinWhere.2.1 M_X10_joinWhere.2.2.1 M_X10_joinWhere.2.2.2 ∈ dp_tb ∧ Cond.initialized M_X10_joinWhere.1.cls ∈ dp_tb ∧ M_X10_joinWhere.2.2.1 ≤ 40 ∧ (M_X10_joinWhere.1.cls ≠ "java/lang/invoke/MethodHandle" ∧ M_X10_joinWhere.1.cls ≠ "java/lang/invoke/VarHandle") := ⟨by decide +kernel, (dp_m 430 (by decide +kernel) rfl), (dp_m 5 (by decide +kernel) rfl), by decide, by decide +kernel, by decide +kernel⟩
theorem cm_X10_partWhereSo : plainName M_X10_partWhereSo.1.cls = true ∧ Cond.code M_X10_partWhereSo.1 M_X10_partWhereSo.2.1 M_X10_partWhereSo.2.2.1 M_X10_partWhereSo.2.2.2 ∈ dp_tb ∧ Cond.initialized M_X10_partWhereSo.1.cls ∈ dp_tb ∧ M_X10_partWhereSo.2.2.1 ≤ 40 ∧ (M_X10_partWhereSo.1.cls ≠ "java/lang/invoke/MethodHandle" ∧ M_X10_partWhereSo.1.cls ≠ "java/lang/invoke/VarHandle") := ⟨by decide +kernel, (dp_m 433 (by decide +kernel) rfl), (dp_m 5 (by decide +kernel) rfl), by decide, by decide +kernel, by decide +kernel⟩
theorem cm_X10_meet : plainName M_X10_meet.1.cls = true ∧ Cond.code M_X10_meet.1 M_X10_meet.2.1 M_X10_meet.2.2.1 M_X10_meet.2.2.2 ∈ dp_tb ∧ Cond.initialized M_X10_meet.1.cls ∈ dp_tb ∧ M_X10_meet.2.2.1 ≤ 40 ∧ (M_X10_meet.1.cls ≠ "java/lang/invoke/MethodHandle" ∧ M_X10_meet.1.cls ≠ "java/lang/invoke/VarHandle") := ⟨by decide +kernel, (dp_m 439 (by decide +kernel) rfl), (dp_m 5 (by decide +kernel) rfl), by decide, by decide +kernel, by decide +kernel⟩
theorem cm_X3_letters : plainName M_X3_letters.1.cls = true ∧ Cond.code M_X3_letters.1 M_X3_letters.2.1 M_X3_letters.2.2.1 M_X3_letters.2.2.2 ∈ dp_tb ∧ Cond.initialized M_X3_letters.1.cls ∈ dp_tb ∧ M_X3_letters.2.2.1 ≤ 40 ∧ (M_X3_letters.1.cls ≠ "java/lang/invoke/MethodHandle" ∧ M_X3_letters.1.cls ≠ "java/lang/invoke/VarHandle") := ⟨by decide +kernel, (dp_m 443 (by decide +kernel) rfl), (dp_m 12 (by decide +kernel) rfl), by decide, by decide +kernel, by decide +kernel⟩
theorem cm_X10_become : plainName M_X10_become.1.cls = true ∧ Cond.code M_X10_become.1 M_X10_become.2.1 M_X10_become.2.2.1 M_X10_become.2.2.2 ∈ dp_tb ∧ Cond.initialized M_X10_become.1.cls ∈ dp_tb ∧ M_X10_become.2.2.1 ≤ 40 ∧ (M_X10_become.1.cls ≠ "java/lang/invoke/MethodHandle" ∧ M_X10_become.1.cls ≠ "java/lang/invoke/VarHandle") := ⟨by decide +kernel, (dp_m 447 (by decide +kernel) rfl), (dp_m 5 (by decide +kernel) rfl), by decide, by decide +kernel, by decide +kernel⟩
theorem cm_X7_sharedLetters : plainName M_X7_sharedLetters.1.cls = true ∧ Cond.code M_X7_sharedLetters.1 M_X7_sharedLetters.2.1 M_X7_sharedLetters.2.2.1 M_X7_sharedLetters.2.2.2 ∈ dp_tb ∧ Cond.initialized M_X7_sharedLetters.1.cls ∈ dp_tb ∧ M_X7_sharedLetters.2.2.1 ≤ 40 ∧ (M_X7_sharedLetters.1.cls ≠ "java/lang/invoke/MethodHandle" ∧ M_X7_sharedLetters.1.cls ≠ "java/lang/invoke/VarHandle") := ⟨by decide +kernel, (dp_m 451 (by decide +kernel) rfl), (dp_m 4 (by decide +kernel) rfl), by decide, by decide +kernel, by decide +kernel⟩
theorem cm_X10_spreadBut : plainName M_X10_spreadBut.1.cls = true ∧ Cond.code M_X10_spreadBut.1 M_X10_spreadBut.2.1 M_X10_spreadBut.2.2.1 M_X10_spreadBut.2.2.2 ∈ dp_tb ∧ Cond.initialized M_X10_spreadBut.1.cls ∈ dp_tb ∧ M_X10_spreadBut.2.2.1 ≤ 40 ∧ (M_X10_spreadBut.1.cls ≠ "java/lang/invoke/MethodHandle" ∧ M_X10_spreadBut.1.cls ≠ "java/lang/invoke/VarHandle") := ⟨by decide +kernel, (dp_m 455 (by decide +kernel) rfl), (dp_m 5 (by decide +kernel) rfl), by decide, by decide +kernel, by decide +kernel⟩
theorem cm_X10_spread : plainName M_X10_spread.1.cls = true ∧ Cond.code M_X10_spread.1 M_X10_spread.2.1 M_X10_spread.2.2.1 M_X10_spread.2.2.2 ∈ dp_tb ∧ Cond.initialized M_X10_spread.1.cls ∈ dp_tb ∧ M_X10_spread.2.2.1 ≤ 40 ∧ (M_X10_spread.1.cls ≠ "java/lang/invoke/MethodHandle" ∧ M_X10_spread.1.cls ≠ "java/lang/invoke/VarHandle") := ⟨by decide +kernel, (dp_m 459 (by decide +kernel) rfl), (dp_m 5 (by decide +kernel) rfl), by decide, by decide +kernel, by decide +kernel⟩
theorem cm_X10_partTurned : plainName M_X10_partTurned.1.cls = true ∧ Cond.code M_X10_partTurned.1 M_X10_partTurned.2.1 M_X10_partTurned.2.2.1 M_X10_partTurned.2.2.2 ∈ dp_tb ∧ Cond.initialized M_X10_partTurned.1.cls ∈ dp_tb ∧ M_X10_partTurned.2.2.1 ≤ 40 ∧ (M_X10_partTurned.1.cls ≠ "java/lang/invoke/MethodHandle" ∧ M_X10_partTurned.1.cls ≠ "java/lang/invoke/VarHandle") := ⟨by decide +kernel, (dp_m 463 (by decide +kernel) rfl), (dp_m 5 (by decide +kernel) rfl), by decide, by decide +kernel, by decide +kernel⟩
theorem cm_X0_learn : plainName M_X0_learn.1.cls = true ∧ Cond.code M_X0_learn.1 M_X0_learn.2.1 M_X0_learn.2.2.1 M_X0_learn.2.2.2 ∈ dp_tb ∧ Cond.initialized M_X0_learn.1.cls ∈ dp_tb ∧ M_X0_learn.2.2.1 ≤ 40 ∧ (M_X0_learn.1.cls ≠ "java/lang/invoke/MethodHandle" ∧ M_X0_learn.1.cls ≠ "java/lang/invoke/VarHandle") := ⟨by decide +kernel, (dp_m 468 (by decide +kernel) rfl), (dp_m 6 (by decide +kernel) rfl), by decide, by decide +kernel, by decide +kernel⟩
theorem cm_X3_sayAsClause : plainName M_X3_sayAsClause.1.cls = true ∧ Cond.code M_X3_sayAsClause.1 M_X3_sayAsClause.2.1 M_X3_sayAsClause.2.2.1 M_X3_sayAsClause.2.2.2 ∈ dp_tb ∧ Cond.initialized M_X3_sayAsClause.1.cls ∈ dp_tb ∧ M_X3_sayAsClause.2.2.1 ≤ 40 ∧ (M_X3_sayAsClause.1.cls ≠ "java/lang/invoke/MethodHandle" ∧ M_X3_sayAsClause.1.cls ≠ "java/lang/invoke/VarHandle") := ⟨by decide +kernel, (dp_m 475 (by decide +kernel) rfl), (dp_m 12 (by decide +kernel) rfl), by decide, by decide +kernel, by decide +kernel⟩
theorem cm_X11_forgetProof : plainName M_X11_forgetProof.1.cls = true ∧ Cond.code M_X11_forgetProof.1 M_X11_forgetProof.2.1 M_X11_forgetProof.2.2.1 M_X11_forgetProof.2.2.2 ∈ dp_tb ∧ Cond.initialized M_X11_forgetProof.1.cls ∈ dp_tb ∧ M_X11_forgetProof.2.2.1 ≤ 40 ∧ (M_X11_forgetProof.1.cls ≠ "java/lang/invoke/MethodHandle" ∧ M_X11_forgetProof.1.cls ≠ "java/lang/invoke/VarHandle") := ⟨by decide +kernel, (dp_m 483 (by decide +kernel) rfl), (dp_m 1 (by decide +kernel) rfl), by decide, by decide +kernel, by decide +kernel⟩
theorem cm_X11_firstEmptyLine : plainName M_X11_firstEmptyLine.1.cls = true ∧ Cond.code M_X11_firstEmptyLine.1 M_X11_firstEmptyLine.2.1 M_X11_firstEmptyLine.2.2.1 M_X11_firstEmptyLine.2.2.2 ∈ dp_tb ∧ Cond.initialized M_X11_firstEmptyLine.1.cls ∈ dp_tb ∧ M_X11_firstEmptyLine.2.2.1 ≤ 40 ∧ (M_X11_firstEmptyLine.1.cls ≠ "java/lang/invoke/MethodHandle" ∧ M_X11_firstEmptyLine.1.cls ≠ "java/lang/invoke/VarHandle") := ⟨by decide +kernel, (dp_m 487 (by decide +kernel) rfl), (dp_m 1 (by decide +kernel) rfl), by decide, by decide +kernel, by decide +kernel⟩
theorem cm_X3_literals : plainName M_X3_literals.1.cls = true ∧ Cond.code M_X3_literals.1 M_X3_literals.2.1 M_X3_literals.2.2.1 M_X3_literals.2.2.2 ∈ dp_tb ∧ Cond.initialized M_X3_literals.1.cls ∈ dp_tb ∧ M_X3_literals.2.2.1 ≤ 40 ∧ (M_X3_literals.1.cls ≠ "java/lang/invoke/MethodHandle" ∧ M_X3_literals.1.cls ≠ "java/lang/invoke/VarHandle") := ⟨by decide +kernel, (dp_m 491 (by decide +kernel) rfl), (dp_m 12 (by decide +kernel) rfl), by decide, by decide +kernel, by decide +kernel⟩
theorem cm_J6_bitCount_0f7a4 : plainName M_J6_bitCount_0f7a4.1.cls = true ∧ Cond.code M_J6_bitCount_0f7a4.1 M_J6_bitCount_0f7a4.2.1 M_J6_bitCount_0f7a4.2.2.1 M_J6_bitCount_0f7a4.2.2.2 ∈ dp_tb ∧ Cond.initialized M_J6_bitCount_0f7a4.1.cls ∈ dp_tb ∧ M_J6_bitCount_0f7a4.2.2.1 ≤ 40 ∧ (M_J6_bitCount_0f7a4.1.cls ≠ "java/lang/invoke/MethodHandle" ∧ M_J6_bitCount_0f7a4.1.cls ≠ "java/lang/invoke/VarHandle") := ⟨by decide +kernel, (dp_m 494 (by decide +kernel) rfl), (dp_m 15 (by decide +kernel) rfl), by decide, by decide +kernel, by decide +kernel⟩
theorem cm_X11_proof : plainName M_X11_proof.1.cls = true ∧ Cond.code M_X11_proof.1 M_X11_proof.2.1 M_X11_proof.2.2.1 M_X11_proof.2.2.2 ∈ dp_tb ∧ Cond.initialized M_X11_proof.1.cls ∈ dp_tb ∧ M_X11_proof.2.2.1 ≤ 40 ∧ (M_X11_proof.1.cls ≠ "java/lang/invoke/MethodHandle" ∧ M_X11_proof.1.cls ≠ "java/lang/invoke/VarHandle") := ⟨by decide +kernel, (dp_m 501 (by decide +kernel) rfl), (dp_m 1 (by decide +kernel) rfl), by decide, by decide +kernel, by decide +kernel⟩
theorem cm_X4_readSteps : plainName M_X4_readSteps.1.cls = true ∧ Cond.code M_X4_readSteps.1 M_X4_readSteps.2.1 M_X4_readSteps.2.2.1 M_X4_readSteps.2.2.2 ∈ dp_tb ∧ Cond.initialized M_X4_readSteps.1.cls ∈ dp_tb ∧ M_X4_readSteps.2.2.1 ≤ 40 ∧ (M_X4_readSteps.1.cls ≠ "java/lang/invoke/MethodHandle" ∧ M_X4_readSteps.1.cls ≠ "java/lang/invoke/VarHandle") := ⟨by decide +kernel, (dp_m 505 (by decide +kernel) rfl), (dp_m 3 (by decide +kernel) rfl), by decide, by decide +kernel, by decide +kernel⟩
theorem cm_X4_readStep : plainName M_X4_readStep.1.cls = true ∧ Cond.code M_X4_readStep.1 M_X4_readStep.2.1 M_X4_readStep.2.2.1 M_X4_readStep.2.2.2 ∈ dp_tb ∧ Cond.initialized M_X4_readStep.1.cls ∈ dp_tb ∧ M_X4_readStep.2.2.1 ≤ 40 ∧ (M_X4_readStep.1.cls ≠ "java/lang/invoke/MethodHandle" ∧ M_X4_readStep.1.cls ≠ "java/lang/invoke/VarHandle") := ⟨by decide +kernel, (dp_m 509 (by decide +kernel) rfl), (dp_m 3 (by decide +kernel) rfl), by decide, by decide +kernel, by decide +kernel⟩
theorem cm_X11_takeSteps : plainName M_X11_takeSteps.1.cls = true ∧ Cond.code M_X11_takeSteps.1 M_X11_takeSteps.2.1 M_X11_takeSteps.2.2.1 M_X11_takeSteps.2.2.2 ∈ dp_tb ∧ Cond.initialized M_X11_takeSteps.1.cls ∈ dp_tb ∧ M_X11_takeSteps.2.2.1 ≤ 40 ∧ (M_X11_takeSteps.1.cls ≠ "java/lang/invoke/MethodHandle" ∧ M_X11_takeSteps.1.cls ≠ "java/lang/invoke/VarHandle") := ⟨by decide +kernel, (dp_m 513 (by decide +kernel) rfl), (dp_m 1 (by decide +kernel) rfl), by decide, by decide +kernel, by decide +kernel⟩
theorem cm_X4_stepsRead : plainName M_X4_stepsRead.1.cls = true ∧ Cond.code M_X4_stepsRead.1 M_X4_stepsRead.2.1 M_X4_stepsRead.2.2.1 M_X4_stepsRead.2.2.2 ∈ dp_tb ∧ Cond.initialized M_X4_stepsRead.1.cls ∈ dp_tb ∧ M_X4_stepsRead.2.2.1 ≤ 40 ∧ (M_X4_stepsRead.1.cls ≠ "java/lang/invoke/MethodHandle" ∧ M_X4_stepsRead.1.cls ≠ "java/lang/invoke/VarHandle") := ⟨by decide +kernel, (dp_m 517 (by decide +kernel) rfl), (dp_m 3 (by decide +kernel) rfl), by decide, by decide +kernel, by decide +kernel⟩
theorem cm_X11_makeLine : plainName M_X11_makeLine.1.cls = true ∧ Cond.code M_X11_makeLine.1 M_X11_makeLine.2.1 M_X11_makeLine.2.2.1 M_X11_makeLine.2.2.2 ∈ dp_tb ∧ Cond.initialized M_X11_makeLine.1.cls ∈ dp_tb ∧ M_X11_makeLine.2.2.1 ≤ 40 ∧ (M_X11_makeLine.1.cls ≠ "java/lang/invoke/MethodHandle" ∧ M_X11_makeLine.1.cls ≠ "java/lang/invoke/VarHandle") := ⟨by decide +kernel, (dp_m 521 (by decide +kernel) rfl), (dp_m 1 (by decide +kernel) rfl), by decide, by decide +kernel, by decide +kernel⟩
theorem cm_X4_firstOf : plainName M_X4_firstOf.1.cls = true ∧ Cond.code M_X4_firstOf.1 M_X4_firstOf.2.1 M_X4_firstOf.2.2.1 M_X4_firstOf.2.2.2 ∈ dp_tb ∧ Cond.initialized M_X4_firstOf.1.cls ∈ dp_tb ∧ M_X4_firstOf.2.2.1 ≤ 40 ∧ (M_X4_firstOf.1.cls ≠ "java/lang/invoke/MethodHandle" ∧ M_X4_firstOf.1.cls ≠ "java/lang/invoke/VarHandle") := ⟨by decide +kernel, (dp_m 525 (by decide +kernel) rfl), (dp_m 3 (by decide +kernel) rfl), by decide, by decide +kernel, by decide +kernel⟩
theorem cm_X4_secondOf : plainName M_X4_secondOf.1.cls = true ∧ Cond.code M_X4_secondOf.1 M_X4_secondOf.2.1 M_X4_secondOf.2.2.1 M_X4_secondOf.2.2.2 ∈ dp_tb ∧ Cond.initialized M_X4_secondOf.1.cls ∈ dp_tb ∧ M_X4_secondOf.2.2.1 ≤ 40 ∧ (M_X4_secondOf.1.cls ≠ "java/lang/invoke/MethodHandle" ∧ M_X4_secondOf.1.cls ≠ "java/lang/invoke/VarHandle") := ⟨by decide +kernel, (dp_m 529 (by decide +kernel) rfl), (dp_m 3 (by decide +kernel) rfl), by decide, by decide +kernel, by decide +kernel⟩
theorem cm_X4_letterOf : plainName M_X4_letterOf.1.cls = true ∧ Cond.code M_X4_letterOf.1 M_X4_letterOf.2.1 M_X4_letterOf.2.2.1 M_X4_letterOf.2.2.2 ∈ dp_tb ∧ Cond.initialized M_X4_letterOf.1.cls ∈ dp_tb ∧ M_X4_letterOf.2.2.1 ≤ 40 ∧ (M_X4_letterOf.1.cls ≠ "java/lang/invoke/MethodHandle" ∧ M_X4_letterOf.1.cls ≠ "java/lang/invoke/VarHandle") := ⟨by decide +kernel, (dp_m 533 (by decide +kernel) rfl), (dp_m 3 (by decide +kernel) rfl), by decide, by decide +kernel, by decide +kernel⟩
theorem cm_X11_lineAt : plainName M_X11_lineAt.1.cls = true ∧ Cond.code M_X11_lineAt.1 M_X11_lineAt.2.1 M_X11_lineAt.2.2.1 M_X11_lineAt.2.2.2 ∈ dp_tb ∧ Cond.initialized M_X11_lineAt.1.cls ∈ dp_tb ∧ M_X11_lineAt.2.2.1 ≤ 40 ∧ (M_X11_lineAt.1.cls ≠ "java/lang/invoke/MethodHandle" ∧ M_X11_lineAt.1.cls ≠ "java/lang/invoke/VarHandle") := ⟨by decide +kernel, (dp_m 537 (by decide +kernel) rfl), (dp_m 1 (by decide +kernel) rfl), by decide, by decide +kernel, by decide +kernel⟩
theorem cm_X3_becomeCut : plainName M_X3_becomeCut.1.cls = true ∧ Cond.code M_X3_becomeCut.1 M_X3_becomeCut.2.1 M_X3_becomeCut.2.2.1 M_X3_becomeCut.2.2.2 ∈ dp_tb ∧ Cond.initialized M_X3_becomeCut.1.cls ∈ dp_tb ∧ M_X3_becomeCut.2.2.1 ≤ 40 ∧ (M_X3_becomeCut.1.cls ≠ "java/lang/invoke/MethodHandle" ∧ M_X3_becomeCut.1.cls ≠ "java/lang/invoke/VarHandle") := ⟨by decide +kernel, (dp_m 541 (by decide +kernel) rfl), (dp_m 12 (by decide +kernel) rfl), by decide, by decide +kernel, by decide +kernel⟩
theorem cm_X3_rememberCut : plainName M_X3_rememberCut.1.cls = true ∧ Cond.code M_X3_rememberCut.1 M_X3_rememberCut.2.1 M_X3_rememberCut.2.2.1 M_X3_rememberCut.2.2.2 ∈ dp_tb ∧ Cond.initialized M_X3_rememberCut.1.cls ∈ dp_tb ∧ M_X3_rememberCut.2.2.1 ≤ 40 ∧ (M_X3_rememberCut.1.cls ≠ "java/lang/invoke/MethodHandle" ∧ M_X3_rememberCut.1.cls ≠ "java/lang/invoke/VarHandle") := ⟨by decide +kernel, (dp_m 545 (by decide +kernel) rfl), (dp_m 12 (by decide +kernel) rfl), by decide, by decide +kernel, by decide +kernel⟩
theorem cm_X7_ownerOf : plainName M_X7_ownerOf.1.cls = true ∧ Cond.code M_X7_ownerOf.1 M_X7_ownerOf.2.1 M_X7_ownerOf.2.2.1 M_X7_ownerOf.2.2.2 ∈ dp_tb ∧ Cond.initialized M_X7_ownerOf.1.cls ∈ dp_tb ∧ M_X7_ownerOf.2.2.1 ≤ 40 ∧ (M_X7_ownerOf.1.cls ≠ "java/lang/invoke/MethodHandle" ∧ M_X7_ownerOf.1.cls ≠ "java/lang/invoke/VarHandle") := ⟨by decide +kernel, (dp_m 549 (by decide +kernel) rfl), (dp_m 4 (by decide +kernel) rfl), by decide, by decide +kernel, by decide +kernel⟩
theorem cm_X3_sayAsCut : plainName M_X3_sayAsCut.1.cls = true ∧ Cond.code M_X3_sayAsCut.1 M_X3_sayAsCut.2.1 M_X3_sayAsCut.2.2.1 M_X3_sayAsCut.2.2.2 ∈ dp_tb ∧ Cond.initialized M_X3_sayAsCut.1.cls ∈ dp_tb ∧ M_X3_sayAsCut.2.2.1 ≤ 40 ∧ (M_X3_sayAsCut.1.cls ≠ "java/lang/invoke/MethodHandle" ∧ M_X3_sayAsCut.1.cls ≠ "java/lang/invoke/VarHandle") := ⟨by decide +kernel, (dp_m 553 (by decide +kernel) rfl), (dp_m 12 (by decide +kernel) rfl), by decide, by decide +kernel, by decide +kernel⟩
theorem cm_X10_choose : plainName M_X10_choose.1.cls = true ∧ Cond.code M_X10_choose.1 M_X10_choose.2.1 M_X10_choose.2.2.1 M_X10_choose.2.2.2 ∈ dp_tb ∧ Cond.initialized M_X10_choose.1.cls ∈ dp_tb ∧ M_X10_choose.2.2.1 ≤ 40 ∧ (M_X10_choose.1.cls ≠ "java/lang/invoke/MethodHandle" ∧ M_X10_choose.1.cls ≠ "java/lang/invoke/VarHandle") := ⟨by decide +kernel, (dp_m 557 (by decide +kernel) rfl), (dp_m 5 (by decide +kernel) rfl), by decide, by decide +kernel, by decide +kernel⟩
theorem cm_X3_joins : plainName M_X3_joins.1.cls = true ∧ Cond.code M_X3_joins.1 M_X3_joins.2.1 M_X3_joins.2.2.1 M_X3_joins.2.2.2 ∈ dp_tb ∧ Cond.initialized M_X3_joins.1.cls ∈ dp_tb ∧ M_X3_joins.2.2.1 ≤ 40 ∧ (M_X3_joins.1.cls ≠ "java/lang/invoke/MethodHandle" ∧ M_X3_joins.1.cls ≠ "java/lang/invoke/VarHandle") := ⟨by decide +kernel, (dp_m 561 (by decide +kernel) rfl), (dp_m 12 (by decide +kernel) rfl), by decide, by decide +kernel, by decide +kernel⟩
theorem cm_X10_join : plainName M_X10_join.1.cls = true ∧ Cond.code M_X10_join.1 M_X10_join.2.1 M_X10_join.2.2.1 M_X10_join.2.2.2 ∈ dp_tb ∧ Cond.initialized M_X10_join.1.cls ∈ dp_tb ∧ M_X10_join.2.2.1 ≤ 40 ∧ (M_X10_join.1.cls ≠ "java/lang/invoke/MethodHandle" ∧ M_X10_join.1.cls ≠ "java/lang/invoke/VarHandle") := ⟨by decide +kernel, (dp_m 565 (by decide +kernel) rfl), (dp_m 5 (by decide +kernel) rfl), by decide, by decide +kernel, by decide +kernel⟩
theorem cm_X11_wrong : plainName M_X11_wrong.1.cls = true ∧ Cond.code M_X11_wrong.1 M_X11_wrong.2.1 M_X11_wrong.2.2.1 M_X11_wrong.2.2.2 ∈ dp_tb ∧ Cond.initialized M_X11_wrong.1.cls ∈ dp_tb ∧ M_X11_wrong.2.2.1 ≤ 40 ∧ (M_X11_wrong.1.cls ≠ "java/lang/invoke/MethodHandle" ∧ M_X11_wrong.1.cls ≠ "java/lang/invoke/VarHandle") := ⟨by decide +kernel, (dp_m 570 (by decide +kernel) rfl), (dp_m 1 (by decide +kernel) rfl), by decide, by decide +kernel, by decide +kernel⟩
theorem cm_X11_end : plainName M_X11_end.1.cls = true ∧ Cond.code M_X11_end.1 M_X11_end.2.1 M_X11_end.2.2.1 M_X11_end.2.2.2 ∈ dp_tb ∧ Cond.initialized M_X11_end.1.cls ∈ dp_tb ∧ M_X11_end.2.2.1 ≤ 40 ∧ (M_X11_end.1.cls ≠ "java/lang/invoke/MethodHandle" ∧ M_X11_end.1.cls ≠ "java/lang/invoke/VarHandle") := ⟨by decide +kernel, (dp_m 574 (by decide +kernel) rfl), (dp_m 1 (by decide +kernel) rfl), by decide, by decide +kernel, by decide +kernel⟩
theorem cm_X11_line : plainName M_X11_line.1.cls = true ∧ Cond.code M_X11_line.1 M_X11_line.2.1 M_X11_line.2.2.1 M_X11_line.2.2.2 ∈ dp_tb ∧ Cond.initialized M_X11_line.1.cls ∈ dp_tb ∧ M_X11_line.2.2.1 ≤ 40 ∧ (M_X11_line.1.cls ≠ "java/lang/invoke/MethodHandle" ∧ M_X11_line.1.cls ≠ "java/lang/invoke/VarHandle") := ⟨by decide +kernel, (dp_m 578 (by decide +kernel) rfl), (dp_m 1 (by decide +kernel) rfl), by decide, by decide +kernel, by decide +kernel⟩
theorem cm_X3_property : plainName M_X3_property.1.cls = true ∧ Cond.code M_X3_property.1 M_X3_property.2.1 M_X3_property.2.2.1 M_X3_property.2.2.2 ∈ dp_tb ∧ Cond.initialized M_X3_property.1.cls ∈ dp_tb ∧ M_X3_property.2.2.1 ≤ 40 ∧ (M_X3_property.1.cls ≠ "java/lang/invoke/MethodHandle" ∧ M_X3_property.1.cls ≠ "java/lang/invoke/VarHandle") := ⟨by decide +kernel, (dp_m 582 (by decide +kernel) rfl), (dp_m 12 (by decide +kernel) rfl), by decide, by decide +kernel, by decide +kernel⟩
theorem cm_X11_side : plainName M_X11_side.1.cls = true ∧ Cond.code M_X11_side.1 M_X11_side.2.1 M_X11_side.2.2.1 M_X11_side.2.2.2 ∈ dp_tb ∧ Cond.initialized M_X11_side.1.cls ∈ dp_tb ∧ M_X11_side.2.2.1 ≤ 40 ∧ (M_X11_side.1.cls ≠ "java/lang/invoke/MethodHandle" ∧ M_X11_side.1.cls ≠ "java/lang/invoke/VarHandle") := ⟨by decide +kernel, (dp_m 586 (by decide +kernel) rfl), (dp_m 1 (by decide +kernel) rfl), by decide, by decide +kernel, by decide +kernel⟩
theorem cm_X11_holds : plainName M_X11_holds.1.cls = true ∧ Cond.code M_X11_holds.1 M_X11_holds.2.1 M_X11_holds.2.2.1 M_X11_holds.2.2.2 ∈ dp_tb ∧ Cond.initialized M_X11_holds.1.cls ∈ dp_tb ∧ M_X11_holds.2.2.1 ≤ 40 ∧ (M_X11_holds.1.cls ≠ "java/lang/invoke/MethodHandle" ∧ M_X11_holds.1.cls ≠ "java/lang/invoke/VarHandle") := ⟨by decide +kernel, (dp_m 590 (by decide +kernel) rfl), (dp_m 1 (by decide +kernel) rfl), by decide, by decide +kernel, by decide +kernel⟩
theorem cm_X11_isWorld : plainName M_X11_isWorld.1.cls = true ∧ Cond.code M_X11_isWorld.1 M_X11_isWorld.2.1 M_X11_isWorld.2.2.1 M_X11_isWorld.2.2.2 ∈ dp_tb ∧ Cond.initialized M_X11_isWorld.1.cls ∈ dp_tb ∧ M_X11_isWorld.2.2.1 ≤ 40 ∧ (M_X11_isWorld.1.cls ≠ "java/lang/invoke/MethodHandle" ∧ M_X11_isWorld.1.cls ≠ "java/lang/invoke/VarHandle") := ⟨by decide +kernel, (dp_m 593 (by decide +kernel) rfl), (dp_m 1 (by decide +kernel) rfl), by decide, by decide +kernel, by decide +kernel⟩
theorem cm_X3_isSoIn : plainName M_X3_isSoIn.1.cls = true ∧ Cond.code M_X3_isSoIn.1 M_X3_isSoIn.2.1 M_X3_isSoIn.2.2.1 M_X3_isSoIn.2.2.2 ∈ dp_tb ∧ Cond.initialized M_X3_isSoIn.1.cls ∈ dp_tb ∧ M_X3_isSoIn.2.2.1 ≤ 40 ∧ (M_X3_isSoIn.1.cls ≠ "java/lang/invoke/MethodHandle" ∧ M_X3_isSoIn.1.cls ≠ "java/lang/invoke/VarHandle") := ⟨by decide +kernel, (dp_m 597 (by decide +kernel) rfl), (dp_m 12 (by decide +kernel) rfl), by decide, by decide +kernel, by decide +kernel⟩
theorem cm_X11_worlds : plainName M_X11_worlds.1.cls = true ∧ Cond.code M_X11_worlds.1 M_X11_worlds.2.1 M_X11_worlds.2.2.1 M_X11_worlds.2.2.2 ∈ dp_tb ∧ Cond.initialized M_X11_worlds.1.cls ∈ dp_tb ∧ M_X11_worlds.2.2.1 ≤ 40 ∧ (M_X11_worlds.1.cls ≠ "java/lang/invoke/MethodHandle" ∧ M_X11_worlds.1.cls ≠ "java/lang/invoke/VarHandle") := ⟨by decide +kernel, (dp_m 601 (by decide +kernel) rfl), (dp_m 1 (by decide +kernel) rfl), by decide, by decide +kernel, by decide +kernel⟩
theorem cm_X10_size : plainName M_X10_size.1.cls = true ∧ Cond.code M_X10_size.1 M_X10_size.2.1 M_X10_size.2.2.1 M_X10_size.2.2.2 ∈ dp_tb ∧ Cond.initialized M_X10_size.1.cls ∈ dp_tb ∧ M_X10_size.2.2.1 ≤ 40 ∧ (M_X10_size.1.cls ≠ "java/lang/invoke/MethodHandle" ∧ M_X10_size.1.cls ≠ "java/lang/invoke/VarHandle") := ⟨by decide +kernel, (dp_m 605 (by decide +kernel) rfl), (dp_m 5 (by decide +kernel) rfl), by decide, by decide +kernel, by decide +kernel⟩
theorem cm_J13_bitCount_95d88 : plainName M_J13_bitCount_95d88.1.cls = true ∧ Cond.code M_J13_bitCount_95d88.1 M_J13_bitCount_95d88.2.1 M_J13_bitCount_95d88.2.2.1 M_J13_bitCount_95d88.2.2.2 ∈ dp_tb ∧ Cond.initialized M_J13_bitCount_95d88.1.cls ∈ dp_tb ∧ M_J13_bitCount_95d88.2.2.1 ≤ 40 ∧ (M_J13_bitCount_95d88.1.cls ≠ "java/lang/invoke/MethodHandle" ∧ M_J13_bitCount_95d88.1.cls ≠ "java/lang/invoke/VarHandle") := ⟨by decide +kernel, (dp_m 608 (by decide +kernel) rfl), (dp_m 16 (by decide +kernel) rfl), by decide, by decide +kernel, by decide +kernel⟩
theorem cm_X10_sizeWith : plainName M_X10_sizeWith.1.cls = true ∧ Cond.code M_X10_sizeWith.1 M_X10_sizeWith.2.1 M_X10_sizeWith.2.2.1 M_X10_sizeWith.2.2.2 ∈ dp_tb ∧ Cond.initialized M_X10_sizeWith.1.cls ∈ dp_tb ∧ M_X10_sizeWith.2.2.1 ≤ 40 ∧ (M_X10_sizeWith.1.cls ≠ "java/lang/invoke/MethodHandle" ∧ M_X10_sizeWith.1.cls ≠ "java/lang/invoke/VarHandle") := ⟨by decide +kernel, (dp_m 615 (by decide +kernel) rfl), (dp_m 5 (by decide +kernel) rfl), by decide, by decide +kernel, by decide +kernel⟩
theorem cm_X11_says : plainName M_X11_says.1.cls = true ∧ Cond.code M_X11_says.1 M_X11_says.2.1 M_X11_says.2.2.1 M_X11_says.2.2.2 ∈ dp_tb ∧ Cond.initialized M_X11_says.1.cls ∈ dp_tb ∧ M_X11_says.2.2.1 ≤ 40 ∧ (M_X11_says.1.cls ≠ "java/lang/invoke/MethodHandle" ∧ M_X11_says.1.cls ≠ "java/lang/invoke/VarHandle") := ⟨by decide +kernel, (dp_m 619 (by decide +kernel) rfl), (dp_m 1 (by decide +kernel) rfl), by decide, by decide +kernel, by decide +kernel⟩
theorem cm_X11_isWay : plainName M_X11_isWay.1.cls = true ∧ Cond.code M_X11_isWay.1 M_X11_isWay.2.1 M_X11_isWay.2.2.1 M_X11_isWay.2.2.2 ∈ dp_tb ∧ Cond.initialized M_X11_isWay.1.cls ∈ dp_tb ∧ M_X11_isWay.2.2.1 ≤ 40 ∧ (M_X11_isWay.1.cls ≠ "java/lang/invoke/MethodHandle" ∧ M_X11_isWay.1.cls ≠ "java/lang/invoke/VarHandle") := ⟨by decide +kernel, (dp_m 622 (by decide +kernel) rfl), (dp_m 1 (by decide +kernel) rfl), by decide, by decide +kernel, by decide +kernel⟩
theorem cm_X3_sayingBy : plainName M_X3_sayingBy.1.cls = true ∧ Cond.code M_X3_sayingBy.1 M_X3_sayingBy.2.1 M_X3_sayingBy.2.2.1 M_X3_sayingBy.2.2.2 ∈ dp_tb ∧ Cond.initialized M_X3_sayingBy.1.cls ∈ dp_tb ∧ M_X3_sayingBy.2.2.1 ≤ 40 ∧ (M_X3_sayingBy.1.cls ≠ "java/lang/invoke/MethodHandle" ∧ M_X3_sayingBy.1.cls ≠ "java/lang/invoke/VarHandle") := ⟨by decide +kernel, (dp_m 626 (by decide +kernel) rfl), (dp_m 12 (by decide +kernel) rfl), by decide, by decide +kernel, by decide +kernel⟩
theorem cm_X10_has : plainName M_X10_has.1.cls = true ∧ Cond.code M_X10_has.1 M_X10_has.2.1 M_X10_has.2.2.1 M_X10_has.2.2.2 ∈ dp_tb ∧ Cond.initialized M_X10_has.1.cls ∈ dp_tb ∧ M_X10_has.2.2.1 ≤ 40 ∧ (M_X10_has.1.cls ≠ "java/lang/invoke/MethodHandle" ∧ M_X10_has.1.cls ≠ "java/lang/invoke/VarHandle") := ⟨by decide +kernel, (dp_m 630 (by decide +kernel) rfl), (dp_m 5 (by decide +kernel) rfl), by decide, by decide +kernel, by decide +kernel⟩
theorem cm_X11_saying : plainName M_X11_saying.1.cls = true ∧ Cond.code M_X11_saying.1 M_X11_saying.2.1 M_X11_saying.2.2.1 M_X11_saying.2.2.2 ∈ dp_tb ∧ Cond.initialized M_X11_saying.1.cls ∈ dp_tb ∧ M_X11_saying.2.2.1 ≤ 40 ∧ (M_X11_saying.1.cls ≠ "java/lang/invoke/MethodHandle" ∧ M_X11_saying.1.cls ≠ "java/lang/invoke/VarHandle") := ⟨by decide +kernel, (dp_m 635 (by decide +kernel) rfl), (dp_m 1 (by decide +kernel) rfl), by decide, by decide +kernel, by decide +kernel⟩
end
section
theorem cm_X10_part : plainName M_X10_part.1.cls = true ∧ Cond.code M_X10_part.1 M_X10_part.2.1 M_X10_part.2.2.1 M_X10_part.2.2.2 ∈ dp_tb ∧ Cond.initialized M_X10_part.1.cls ∈ dp_tb ∧ M_X10_part.2.2.1 ≤ 40 ∧ (M_X10_part.1.cls ≠ "java/lang/invoke/MethodHandle" ∧ M_X10_part.1.cls ≠ "java/lang/invoke/VarHandle") := ⟨by decide +kernel, (dp_m 639 (by decide +kernel) rfl), (dp_m 5 (by decide +kernel) rfl), by decide, by decide +kernel, by decide +kernel⟩
theorem cm_X11_between : plainName M_X11_between.1.cls = true ∧ Cond.code M_X11_between.1 M_X11_between.2.1 M_X11_between.2.2.1 M_X11_between.2.2.2 ∈ dp_tb ∧ Cond.initialized M_X11_between.1.cls ∈ dp_tb ∧ M_X11_between.2.2.1 ≤ 40 ∧ (M_X11_between.1.cls ≠ "java/lang/invoke/MethodHandle" ∧ M_X11_between.1.cls ≠ "java/lang/invoke/VarHandle") := ⟨by decide +kernel, (dp_m 643 (by decide +kernel) rfl), (dp_m 1 (by decide +kernel) rfl), by decide, by decide +kernel, by decide +kernel⟩
theorem cm_X7_judge : plainName M_X7_judge.1.cls = true ∧ Cond.code M_X7_judge.1 M_X7_judge.2.1 M_X7_judge.2.2.1 M_X7_judge.2.2.2 ∈ dp_tb ∧ Cond.initialized M_X7_judge.1.cls ∈ dp_tb ∧ M_X7_judge.2.2.1 ≤ 40 ∧ (M_X7_judge.1.cls ≠ "java/lang/invoke/MethodHandle" ∧ M_X7_judge.1.cls ≠ "java/lang/invoke/VarHandle") := ⟨by decide +kernel, (dp_m 647 (by decide +kernel) rfl), (dp_m 4 (by decide +kernel) rfl), by decide, by decide +kernel, by decide +kernel⟩
theorem cm_X10_lettersLookedAt : plainName M_X10_lettersLookedAt.1.cls = true ∧ Cond.code M_X10_lettersLookedAt.1 M_X10_lettersLookedAt.2.1 M_X10_lettersLookedAt.2.2.1 M_X10_lettersLookedAt.2.2.2 ∈ dp_tb ∧ Cond.initialized M_X10_lettersLookedAt.1.cls ∈ dp_tb ∧ M_X10_lettersLookedAt.2.2.1 ≤ 40 ∧ (M_X10_lettersLookedAt.1.cls ≠ "java/lang/invoke/MethodHandle" ∧ M_X10_lettersLookedAt.1.cls ≠ "java/lang/invoke/VarHandle") := ⟨by decide +kernel, (dp_m 651 (by decide +kernel) rfl), (dp_m 5 (by decide +kernel) rfl), by decide, by decide +kernel, by decide +kernel⟩
theorem cm_X10_hangsOn : plainName M_X10_hangsOn.1.cls = true ∧ Cond.code M_X10_hangsOn.1 M_X10_hangsOn.2.1 M_X10_hangsOn.2.2.1 M_X10_hangsOn.2.2.2 ∈ dp_tb ∧ Cond.initialized M_X10_hangsOn.1.cls ∈ dp_tb ∧ M_X10_hangsOn.2.2.1 ≤ 40 ∧ (M_X10_hangsOn.1.cls ≠ "java/lang/invoke/MethodHandle" ∧ M_X10_hangsOn.1.cls ≠ "java/lang/invoke/VarHandle") := ⟨by decide +kernel, (dp_m 655 (by decide +kernel) rfl), (dp_m 5 (by decide +kernel) rfl), by decide, by decide +kernel, by decide +kernel⟩
theorem cm_X10_isWithin : plainName M_X10_isWithin.1.cls = true ∧ Cond.code M_X10_isWithin.1 M_X10_isWithin.2.1 M_X10_isWithin.2.2.1 M_X10_isWithin.2.2.2 ∈ dp_tb ∧ Cond.initialized M_X10_isWithin.1.cls ∈ dp_tb ∧ M_X10_isWithin.2.2.1 ≤ 40 ∧ (M_X10_isWithin.1.cls ≠ "java/lang/invoke/MethodHandle" ∧ M_X10_isWithin.1.cls ≠ "java/lang/invoke/VarHandle") := ⟨by decide +kernel, (dp_m 659 (by decide +kernel) rfl), (dp_m 5 (by decide +kernel) rfl), by decide, by decide +kernel, by decide +kernel⟩
theorem cm_X11_looks : plainName M_X11_looks.1.cls = true ∧ Cond.code M_X11_looks.1 M_X11_looks.2.1 M_X11_looks.2.2.1 M_X11_looks.2.2.2 ∈ dp_tb ∧ Cond.initialized M_X11_looks.1.cls ∈ dp_tb ∧ M_X11_looks.2.2.1 ≤ 40 ∧ (M_X11_looks.1.cls ≠ "java/lang/invoke/MethodHandle" ∧ M_X11_looks.1.cls ≠ "java/lang/invoke/VarHandle") := ⟨by decide +kernel, (dp_m 666 (by decide +kernel) rfl), (dp_m 1 (by decide +kernel) rfl), by decide, by decide +kernel, by decide +kernel⟩
theorem cm_X11_setOf : plainName M_X11_setOf.1.cls = true ∧ Cond.code M_X11_setOf.1 M_X11_setOf.2.1 M_X11_setOf.2.2.1 M_X11_setOf.2.2.2 ∈ dp_tb ∧ Cond.initialized M_X11_setOf.1.cls ∈ dp_tb ∧ M_X11_setOf.2.2.1 ≤ 40 ∧ (M_X11_setOf.1.cls ≠ "java/lang/invoke/MethodHandle" ∧ M_X11_setOf.1.cls ≠ "java/lang/invoke/VarHandle") := ⟨by decide +kernel, (dp_m 670 (by decide +kernel) rfl), (dp_m 1 (by decide +kernel) rfl), by decide, by decide +kernel, by decide +kernel⟩
theorem cm_X11_compare : plainName M_X11_compare.1.cls = true ∧ Cond.code M_X11_compare.1 M_X11_compare.2.1 M_X11_compare.2.2.1 M_X11_compare.2.2.2 ∈ dp_tb ∧ Cond.initialized M_X11_compare.1.cls ∈ dp_tb ∧ M_X11_compare.2.2.1 ≤ 40 ∧ (M_X11_compare.1.cls ≠ "java/lang/invoke/MethodHandle" ∧ M_X11_compare.1.cls ≠ "java/lang/invoke/VarHandle") := ⟨by decide +kernel, (dp_m 675 (by decide +kernel) rfl), (dp_m 1 (by decide +kernel) rfl), by decide, by decide +kernel, by decide +kernel⟩
theorem cm_X11_bounds : plainName M_X11_bounds.1.cls = true ∧ Cond.code M_X11_bounds.1 M_X11_bounds.2.1 M_X11_bounds.2.2.1 M_X11_bounds.2.2.2 ∈ dp_tb ∧ Cond.initialized M_X11_bounds.1.cls ∈ dp_tb ∧ M_X11_bounds.2.2.1 ≤ 40 ∧ (M_X11_bounds.1.cls ≠ "java/lang/invoke/MethodHandle" ∧ M_X11_bounds.1.cls ≠ "java/lang/invoke/VarHandle") := ⟨by decide +kernel, (dp_m 680 (by decide +kernel) rfl), (dp_m 1 (by decide +kernel) rfl), by decide, by decide +kernel, by decide +kernel⟩
theorem cm_X7_freeChoices : plainName M_X7_freeChoices.1.cls = true ∧ Cond.code M_X7_freeChoices.1 M_X7_freeChoices.2.1 M_X7_freeChoices.2.2.1 M_X7_freeChoices.2.2.2 ∈ dp_tb ∧ Cond.initialized M_X7_freeChoices.1.cls ∈ dp_tb ∧ M_X7_freeChoices.2.2.1 ≤ 40 ∧ (M_X7_freeChoices.1.cls ≠ "java/lang/invoke/MethodHandle" ∧ M_X7_freeChoices.1.cls ≠ "java/lang/invoke/VarHandle") := ⟨by decide +kernel, (dp_m 684 (by decide +kernel) rfl), (dp_m 4 (by decide +kernel) rfl), by decide, by decide +kernel, by decide +kernel⟩
theorem cm_X11_fewest : plainName M_X11_fewest.1.cls = true ∧ Cond.code M_X11_fewest.1 M_X11_fewest.2.1 M_X11_fewest.2.2.1 M_X11_fewest.2.2.2 ∈ dp_tb ∧ Cond.initialized M_X11_fewest.1.cls ∈ dp_tb ∧ M_X11_fewest.2.2.1 ≤ 40 ∧ (M_X11_fewest.1.cls ≠ "java/lang/invoke/MethodHandle" ∧ M_X11_fewest.1.cls ≠ "java/lang/invoke/VarHandle") := ⟨by decide +kernel, (dp_m 690 (by decide +kernel) rfl), (dp_m 1 (by decide +kernel) rfl), by decide, by decide +kernel, by decide +kernel⟩
theorem cm_X7_fewestLetters : plainName M_X7_fewestLetters.1.cls = true ∧ Cond.code M_X7_fewestLetters.1 M_X7_fewestLetters.2.1 M_X7_fewestLetters.2.2.1 M_X7_fewestLetters.2.2.2 ∈ dp_tb ∧ Cond.initialized M_X7_fewestLetters.1.cls ∈ dp_tb ∧ M_X7_fewestLetters.2.2.1 ≤ 40 ∧ (M_X7_fewestLetters.1.cls ≠ "java/lang/invoke/MethodHandle" ∧ M_X7_fewestLetters.1.cls ≠ "java/lang/invoke/VarHandle") := ⟨by decide +kernel, (dp_m 694 (by decide +kernel) rfl), (dp_m 4 (by decide +kernel) rfl), by decide, by decide +kernel, by decide +kernel⟩
theorem cm_X7_findFewest : plainName M_X7_findFewest.1.cls = true ∧ Cond.code M_X7_findFewest.1 M_X7_findFewest.2.1 M_X7_findFewest.2.2.1 M_X7_findFewest.2.2.2 ∈ dp_tb ∧ Cond.initialized M_X7_findFewest.1.cls ∈ dp_tb ∧ M_X7_findFewest.2.2.1 ≤ 40 ∧ (M_X7_findFewest.1.cls ≠ "java/lang/invoke/MethodHandle" ∧ M_X7_findFewest.1.cls ≠ "java/lang/invoke/VarHandle") := ⟨by decide +kernel, (dp_m 698 (by decide +kernel) rfl), (dp_m 4 (by decide +kernel) rfl), by decide, by decide +kernel, by decide +kernel⟩
theorem cm_X7_tellsApart : plainName M_X7_tellsApart.1.cls = true ∧ Cond.code M_X7_tellsApart.1 M_X7_tellsApart.2.1 M_X7_tellsApart.2.2.1 M_X7_tellsApart.2.2.2 ∈ dp_tb ∧ Cond.initialized M_X7_tellsApart.1.cls ∈ dp_tb ∧ M_X7_tellsApart.2.2.1 ≤ 40 ∧ (M_X7_tellsApart.1.cls ≠ "java/lang/invoke/MethodHandle" ∧ M_X7_tellsApart.1.cls ≠ "java/lang/invoke/VarHandle") := ⟨by decide +kernel, (dp_m 702 (by decide +kernel) rfl), (dp_m 4 (by decide +kernel) rfl), by decide, by decide +kernel, by decide +kernel⟩
theorem cm_X11_sizeOrSet : plainName M_X11_sizeOrSet.1.cls = true ∧ Cond.code M_X11_sizeOrSet.1 M_X11_sizeOrSet.2.1 M_X11_sizeOrSet.2.2.1 M_X11_sizeOrSet.2.2.2 ∈ dp_tb ∧ Cond.initialized M_X11_sizeOrSet.1.cls ∈ dp_tb ∧ M_X11_sizeOrSet.2.2.1 ≤ 40 ∧ (M_X11_sizeOrSet.1.cls ≠ "java/lang/invoke/MethodHandle" ∧ M_X11_sizeOrSet.1.cls ≠ "java/lang/invoke/VarHandle") := ⟨by decide +kernel, (dp_m 705 (by decide +kernel) rfl), (dp_m 1 (by decide +kernel) rfl), by decide, by decide +kernel, by decide +kernel⟩
theorem cm_X11_tell : plainName M_X11_tell.1.cls = true ∧ Cond.code M_X11_tell.1 M_X11_tell.2.1 M_X11_tell.2.2.1 M_X11_tell.2.2.2 ∈ dp_tb ∧ Cond.initialized M_X11_tell.1.cls ∈ dp_tb ∧ M_X11_tell.2.2.1 ≤ 40 ∧ (M_X11_tell.1.cls ≠ "java/lang/invoke/MethodHandle" ∧ M_X11_tell.1.cls ≠ "java/lang/invoke/VarHandle") := ⟨by decide +kernel, (dp_m 710 (by decide +kernel) rfl), (dp_m 1 (by decide +kernel) rfl), by decide, by decide +kernel, by decide +kernel⟩
theorem cm_X10_put : plainName M_X10_put.1.cls = true ∧ Cond.code M_X10_put.1 M_X10_put.2.1 M_X10_put.2.2.1 M_X10_put.2.2.2 ∈ dp_tb ∧ Cond.initialized M_X10_put.1.cls ∈ dp_tb ∧ M_X10_put.2.2.1 ≤ 40 ∧ (M_X10_put.1.cls ≠ "java/lang/invoke/MethodHandle" ∧ M_X10_put.1.cls ≠ "java/lang/invoke/VarHandle") := ⟨by decide +kernel, (dp_m 714 (by decide +kernel) rfl), (dp_m 5 (by decide +kernel) rfl), by decide, by decide +kernel, by decide +kernel⟩
theorem cm_X11_copy : plainName M_X11_copy.1.cls = true ∧ Cond.code M_X11_copy.1 M_X11_copy.2.1 M_X11_copy.2.2.1 M_X11_copy.2.2.2 ∈ dp_tb ∧ Cond.initialized M_X11_copy.1.cls ∈ dp_tb ∧ M_X11_copy.2.2.1 ≤ 40 ∧ (M_X11_copy.1.cls ≠ "java/lang/invoke/MethodHandle" ∧ M_X11_copy.1.cls ≠ "java/lang/invoke/VarHandle") := ⟨by decide +kernel, (dp_m 718 (by decide +kernel) rfl), (dp_m 1 (by decide +kernel) rfl), by decide, by decide +kernel, by decide +kernel⟩
theorem cm_X11_check : plainName M_X11_check.1.cls = true ∧ Cond.code M_X11_check.1 M_X11_check.2.1 M_X11_check.2.2.1 M_X11_check.2.2.2 ∈ dp_tb ∧ Cond.initialized M_X11_check.1.cls ∈ dp_tb ∧ M_X11_check.2.2.1 ≤ 40 ∧ (M_X11_check.1.cls ≠ "java/lang/invoke/MethodHandle" ∧ M_X11_check.1.cls ≠ "java/lang/invoke/VarHandle") := ⟨by decide +kernel, (dp_m 722 (by decide +kernel) rfl), (dp_m 1 (by decide +kernel) rfl), by decide, by decide +kernel, by decide +kernel⟩
theorem cm_X11_used : plainName M_X11_used.1.cls = true ∧ Cond.code M_X11_used.1 M_X11_used.2.1 M_X11_used.2.2.1 M_X11_used.2.2.2 ∈ dp_tb ∧ Cond.initialized M_X11_used.1.cls ∈ dp_tb ∧ M_X11_used.2.2.1 ≤ 40 ∧ (M_X11_used.1.cls ≠ "java/lang/invoke/MethodHandle" ∧ M_X11_used.1.cls ≠ "java/lang/invoke/VarHandle") := ⟨by decide +kernel, (dp_m 726 (by decide +kernel) rfl), (dp_m 1 (by decide +kernel) rfl), by decide, by decide +kernel, by decide +kernel⟩
theorem cm_X11_clausesUnder : plainName M_X11_clausesUnder.1.cls = true ∧ Cond.code M_X11_clausesUnder.1 M_X11_clausesUnder.2.1 M_X11_clausesUnder.2.2.1 M_X11_clausesUnder.2.2.2 ∈ dp_tb ∧ Cond.initialized M_X11_clausesUnder.1.cls ∈ dp_tb ∧ M_X11_clausesUnder.2.2.1 ≤ 40 ∧ (M_X11_clausesUnder.1.cls ≠ "java/lang/invoke/MethodHandle" ∧ M_X11_clausesUnder.1.cls ≠ "java/lang/invoke/VarHandle") := ⟨by decide +kernel, (dp_m 730 (by decide +kernel) rfl), (dp_m 1 (by decide +kernel) rfl), by decide, by decide +kernel, by decide +kernel⟩
theorem cm_X11_bitOf : plainName M_X11_bitOf.1.cls = true ∧ Cond.code M_X11_bitOf.1 M_X11_bitOf.2.1 M_X11_bitOf.2.2.1 M_X11_bitOf.2.2.2 ∈ dp_tb ∧ Cond.initialized M_X11_bitOf.1.cls ∈ dp_tb ∧ M_X11_bitOf.2.2.1 ≤ 40 ∧ (M_X11_bitOf.1.cls ≠ "java/lang/invoke/MethodHandle" ∧ M_X11_bitOf.1.cls ≠ "java/lang/invoke/VarHandle") := ⟨by decide +kernel, (dp_m 733 (by decide +kernel) rfl), (dp_m 1 (by decide +kernel) rfl), by decide, by decide +kernel, by decide +kernel⟩
theorem cm_X11_needed : plainName M_X11_needed.1.cls = true ∧ Cond.code M_X11_needed.1 M_X11_needed.2.1 M_X11_needed.2.2.1 M_X11_needed.2.2.2 ∈ dp_tb ∧ Cond.initialized M_X11_needed.1.cls ∈ dp_tb ∧ M_X11_needed.2.2.1 ≤ 40 ∧ (M_X11_needed.1.cls ≠ "java/lang/invoke/MethodHandle" ∧ M_X11_needed.1.cls ≠ "java/lang/invoke/VarHandle") := ⟨by decide +kernel, (dp_m 737 (by decide +kernel) rfl), (dp_m 1 (by decide +kernel) rfl), by decide, by decide +kernel, by decide +kernel⟩
theorem cm_X0_leastSet : plainName M_X0_leastSet.1.cls = true ∧ Cond.code M_X0_leastSet.1 M_X0_leastSet.2.1 M_X0_leastSet.2.2.1 M_X0_leastSet.2.2.2 ∈ dp_tb ∧ Cond.initialized M_X0_leastSet.1.cls ∈ dp_tb ∧ M_X0_leastSet.2.2.1 ≤ 40 ∧ (M_X0_leastSet.1.cls ≠ "java/lang/invoke/MethodHandle" ∧ M_X0_leastSet.1.cls ≠ "java/lang/invoke/VarHandle") := ⟨by decide +kernel, (dp_m 741 (by decide +kernel) rfl), (dp_m 6 (by decide +kernel) rfl), by decide, by decide +kernel, by decide +kernel⟩
theorem cm_X0_allClash : plainName M_X0_allClash.1.cls = true ∧ Cond.code M_X0_allClash.1 M_X0_allClash.2.1 M_X0_allClash.2.2.1 M_X0_allClash.2.2.2 ∈ dp_tb ∧ Cond.initialized M_X0_allClash.1.cls ∈ dp_tb ∧ M_X0_allClash.2.2.1 ≤ 40 ∧ (M_X0_allClash.1.cls ≠ "java/lang/invoke/MethodHandle" ∧ M_X0_allClash.1.cls ≠ "java/lang/invoke/VarHandle") := ⟨by decide +kernel, (dp_m 745 (by decide +kernel) rfl), (dp_m 6 (by decide +kernel) rfl), by decide, by decide +kernel, by decide +kernel⟩
theorem cm_X10_leastWorld : plainName M_X10_leastWorld.1.cls = true ∧ Cond.code M_X10_leastWorld.1 M_X10_leastWorld.2.1 M_X10_leastWorld.2.2.1 M_X10_leastWorld.2.2.2 ∈ dp_tb ∧ Cond.initialized M_X10_leastWorld.1.cls ∈ dp_tb ∧ M_X10_leastWorld.2.2.1 ≤ 40 ∧ (M_X10_leastWorld.1.cls ≠ "java/lang/invoke/MethodHandle" ∧ M_X10_leastWorld.1.cls ≠ "java/lang/invoke/VarHandle") := ⟨by decide +kernel, (dp_m 751 (by decide +kernel) rfl), (dp_m 5 (by decide +kernel) rfl), by decide, by decide +kernel, by decide +kernel⟩
theorem cm_X0_choose : plainName M_X0_choose.1.cls = true ∧ Cond.code M_X0_choose.1 M_X0_choose.2.1 M_X0_choose.2.2.1 M_X0_choose.2.2.2 ∈ dp_tb ∧ Cond.initialized M_X0_choose.1.cls ∈ dp_tb ∧ M_X0_choose.2.2.1 ≤ 40 ∧ (M_X0_choose.1.cls ≠ "java/lang/invoke/MethodHandle" ∧ M_X0_choose.1.cls ≠ "java/lang/invoke/VarHandle") := ⟨by decide +kernel, (dp_m 755 (by decide +kernel) rfl), (dp_m 6 (by decide +kernel) rfl), by decide, by decide +kernel, by decide +kernel⟩
theorem cm_X0_keep : plainName M_X0_keep.1.cls = true ∧ Cond.code M_X0_keep.1 M_X0_keep.2.1 M_X0_keep.2.2.1 M_X0_keep.2.2.2 ∈ dp_tb ∧ Cond.initialized M_X0_keep.1.cls ∈ dp_tb ∧ M_X0_keep.2.2.1 ≤ 40 ∧ (M_X0_keep.1.cls ≠ "java/lang/invoke/MethodHandle" ∧ M_X0_keep.1.cls ≠ "java/lang/invoke/VarHandle") := ⟨by decide +kernel, (dp_m 759 (by decide +kernel) rfl), (dp_m 6 (by decide +kernel) rfl), by decide, by decide +kernel, by decide +kernel⟩
theorem cm_X11_labour : plainName M_X11_labour.1.cls = true ∧ Cond.code M_X11_labour.1 M_X11_labour.2.1 M_X11_labour.2.2.1 M_X11_labour.2.2.2 ∈ dp_tb ∧ Cond.initialized M_X11_labour.1.cls ∈ dp_tb ∧ M_X11_labour.2.2.1 ≤ 40 ∧ (M_X11_labour.1.cls ≠ "java/lang/invoke/MethodHandle" ∧ M_X11_labour.1.cls ≠ "java/lang/invoke/VarHandle") := ⟨by decide +kernel, (dp_m 765 (by decide +kernel) rfl), (dp_m 1 (by decide +kernel) rfl), by decide, by decide +kernel, by decide +kernel⟩
theorem cm_X11_ruleOf : plainName M_X11_ruleOf.1.cls = true ∧ Cond.code M_X11_ruleOf.1 M_X11_ruleOf.2.1 M_X11_ruleOf.2.2.1 M_X11_ruleOf.2.2.2 ∈ dp_tb ∧ Cond.initialized M_X11_ruleOf.1.cls ∈ dp_tb ∧ M_X11_ruleOf.2.2.1 ≤ 40 ∧ (M_X11_ruleOf.1.cls ≠ "java/lang/invoke/MethodHandle" ∧ M_X11_ruleOf.1.cls ≠ "java/lang/invoke/VarHandle") := ⟨by decide +kernel, (dp_m 769 (by decide +kernel) rfl), (dp_m 1 (by decide +kernel) rfl), by decide, by decide +kernel, by decide +kernel⟩
theorem cm_X1_work : plainName M_X1_work.1.cls = true ∧ Cond.code M_X1_work.1 M_X1_work.2.1 M_X1_work.2.2.1 M_X1_work.2.2.2 ∈ dp_tb ∧ Cond.initialized M_X1_work.1.cls ∈ dp_tb ∧ M_X1_work.2.2.1 ≤ 40 ∧ (M_X1_work.1.cls ≠ "java/lang/invoke/MethodHandle" ∧ M_X1_work.1.cls ≠ "java/lang/invoke/VarHandle") := ⟨by decide +kernel, (dp_m 776 (by decide +kernel) rfl), (dp_m 11 (by decide +kernel) rfl), by decide, by decide +kernel, by decide +kernel⟩
theorem cm_X9_mark : plainName M_X9_mark.1.cls = true ∧ Cond.code M_X9_mark.1 M_X9_mark.2.1 M_X9_mark.2.2.1 M_X9_mark.2.2.2 ∈ dp_tb ∧ Cond.initialized M_X9_mark.1.cls ∈ dp_tb ∧ M_X9_mark.2.2.1 ≤ 40 ∧ (M_X9_mark.1.cls ≠ "java/lang/invoke/MethodHandle" ∧ M_X9_mark.1.cls ≠ "java/lang/invoke/VarHandle") := ⟨by decide +kernel, (dp_m 780 (by decide +kernel) rfl), (dp_m 7 (by decide +kernel) rfl), by decide, by decide +kernel, by decide +kernel⟩
theorem cm_X2_work : plainName M_X2_work.1.cls = true ∧ Cond.code M_X2_work.1 M_X2_work.2.1 M_X2_work.2.2.1 M_X2_work.2.2.2 ∈ dp_tb ∧ Cond.initialized M_X2_work.1.cls ∈ dp_tb ∧ M_X2_work.2.2.1 ≤ 40 ∧ (M_X2_work.1.cls ≠ "java/lang/invoke/MethodHandle" ∧ M_X2_work.1.cls ≠ "java/lang/invoke/VarHandle") := ⟨by decide +kernel, (dp_m 783 (by decide +kernel) rfl), (dp_m 9 (by decide +kernel) rfl), by decide, by decide +kernel, by decide +kernel⟩
theorem cm_X5_work : plainName M_X5_work.1.cls = true ∧ Cond.code M_X5_work.1 M_X5_work.2.1 M_X5_work.2.2.1 M_X5_work.2.2.2 ∈ dp_tb ∧ Cond.initialized M_X5_work.1.cls ∈ dp_tb ∧ M_X5_work.2.2.1 ≤ 40 ∧ (M_X5_work.1.cls ≠ "java/lang/invoke/MethodHandle" ∧ M_X5_work.1.cls ≠ "java/lang/invoke/VarHandle") := ⟨by decide +kernel, (dp_m 791 (by decide +kernel) rfl), (dp_m 10 (by decide +kernel) rfl), by decide, by decide +kernel, by decide +kernel⟩
theorem cm_X6_work : plainName M_X6_work.1.cls = true ∧ Cond.code M_X6_work.1 M_X6_work.2.1 M_X6_work.2.2.1 M_X6_work.2.2.2 ∈ dp_tb ∧ Cond.initialized M_X6_work.1.cls ∈ dp_tb ∧ M_X6_work.2.2.1 ≤ 40 ∧ (M_X6_work.1.cls ≠ "java/lang/invoke/MethodHandle" ∧ M_X6_work.1.cls ≠ "java/lang/invoke/VarHandle") := ⟨by decide +kernel, (dp_m 794 (by decide +kernel) rfl), (dp_m 8 (by decide +kernel) rfl), by decide, by decide +kernel, by decide +kernel⟩
theorem cm_X11_count : plainName M_X11_count.1.cls = true ∧ Cond.code M_X11_count.1 M_X11_count.2.1 M_X11_count.2.2.1 M_X11_count.2.2.2 ∈ dp_tb ∧ Cond.initialized M_X11_count.1.cls ∈ dp_tb ∧ M_X11_count.2.2.1 ≤ 40 ∧ (M_X11_count.1.cls ≠ "java/lang/invoke/MethodHandle" ∧ M_X11_count.1.cls ≠ "java/lang/invoke/VarHandle") := ⟨by decide +kernel, (dp_m 800 (by decide +kernel) rfl), (dp_m 1 (by decide +kernel) rfl), by decide, by decide +kernel, by decide +kernel⟩
theorem cm_X11_trace : plainName M_X11_trace.1.cls = true ∧ Cond.code M_X11_trace.1 M_X11_trace.2.1 M_X11_trace.2.2.1 M_X11_trace.2.2.2 ∈ dp_tb ∧ Cond.initialized M_X11_trace.1.cls ∈ dp_tb ∧ M_X11_trace.2.2.1 ≤ 40 ∧ (M_X11_trace.1.cls ≠ "java/lang/invoke/MethodHandle" ∧ M_X11_trace.1.cls ≠ "java/lang/invoke/VarHandle") := ⟨by decide +kernel, (dp_m 804 (by decide +kernel) rfl), (dp_m 1 (by decide +kernel) rfl), by decide, by decide +kernel, by decide +kernel⟩
theorem cm_X9_sum : plainName M_X9_sum.1.cls = true ∧ Cond.code M_X9_sum.1 M_X9_sum.2.1 M_X9_sum.2.2.1 M_X9_sum.2.2.2 ∈ dp_tb ∧ Cond.initialized M_X9_sum.1.cls ∈ dp_tb ∧ M_X9_sum.2.2.1 ≤ 40 ∧ (M_X9_sum.1.cls ≠ "java/lang/invoke/MethodHandle" ∧ M_X9_sum.1.cls ≠ "java/lang/invoke/VarHandle") := ⟨by decide +kernel, (dp_m 808 (by decide +kernel) rfl), (dp_m 7 (by decide +kernel) rfl), by decide, by decide +kernel, by decide +kernel⟩
theorem cm_X12_init : plainName M_X12_init.1.cls = true ∧ Cond.code M_X12_init.1 M_X12_init.2.1 M_X12_init.2.2.1 M_X12_init.2.2.2 ∈ dp_tb ∧ Cond.initialized M_X12_init.1.cls ∈ dp_tb ∧ M_X12_init.2.2.1 ≤ 40 ∧ (M_X12_init.1.cls ≠ "java/lang/invoke/MethodHandle" ∧ M_X12_init.1.cls ≠ "java/lang/invoke/VarHandle") := ⟨by decide +kernel, (dp_m 813 (by decide +kernel) rfl), (dp_m 13 (by decide +kernel) rfl), by decide, by decide +kernel, by decide +kernel⟩
theorem cm_X12_bounds : plainName M_X12_bounds.1.cls = true ∧ Cond.code M_X12_bounds.1 M_X12_bounds.2.1 M_X12_bounds.2.2.1 M_X12_bounds.2.2.2 ∈ dp_tb ∧ Cond.initialized M_X12_bounds.1.cls ∈ dp_tb ∧ M_X12_bounds.2.2.1 ≤ 40 ∧ (M_X12_bounds.1.cls ≠ "java/lang/invoke/MethodHandle" ∧ M_X12_bounds.1.cls ≠ "java/lang/invoke/VarHandle") := ⟨by decide +kernel, (dp_m 818 (by decide +kernel) rfl), (dp_m 13 (by decide +kernel) rfl), by decide, by decide +kernel, by decide +kernel⟩
theorem cm_X12_shared : plainName M_X12_shared.1.cls = true ∧ Cond.code M_X12_shared.1 M_X12_shared.2.1 M_X12_shared.2.2.1 M_X12_shared.2.2.2 ∈ dp_tb ∧ Cond.initialized M_X12_shared.1.cls ∈ dp_tb ∧ M_X12_shared.2.2.1 ≤ 40 ∧ (M_X12_shared.1.cls ≠ "java/lang/invoke/MethodHandle" ∧ M_X12_shared.1.cls ≠ "java/lang/invoke/VarHandle") := ⟨by decide +kernel, (dp_m 822 (by decide +kernel) rfl), (dp_m 13 (by decide +kernel) rfl), by decide, by decide +kernel, by decide +kernel⟩
theorem cm_X12_lettersOf : plainName M_X12_lettersOf.1.cls = true ∧ Cond.code M_X12_lettersOf.1 M_X12_lettersOf.2.1 M_X12_lettersOf.2.2.1 M_X12_lettersOf.2.2.2 ∈ dp_tb ∧ Cond.initialized M_X12_lettersOf.1.cls ∈ dp_tb ∧ M_X12_lettersOf.2.2.1 ≤ 40 ∧ (M_X12_lettersOf.1.cls ≠ "java/lang/invoke/MethodHandle" ∧ M_X12_lettersOf.1.cls ≠ "java/lang/invoke/VarHandle") := ⟨by decide +kernel, (dp_m 826 (by decide +kernel) rfl), (dp_m 13 (by decide +kernel) rfl), by decide, by decide +kernel, by decide +kernel⟩
theorem cm_X12_spreads : plainName M_X12_spreads.1.cls = true ∧ Cond.code M_X12_spreads.1 M_X12_spreads.2.1 M_X12_spreads.2.2.1 M_X12_spreads.2.2.2 ∈ dp_tb ∧ Cond.initialized M_X12_spreads.1.cls ∈ dp_tb ∧ M_X12_spreads.2.2.1 ≤ 40 ∧ (M_X12_spreads.1.cls ≠ "java/lang/invoke/MethodHandle" ∧ M_X12_spreads.1.cls ≠ "java/lang/invoke/VarHandle") := ⟨by decide +kernel, (dp_m 830 (by decide +kernel) rfl), (dp_m 13 (by decide +kernel) rfl), by decide, by decide +kernel, by decide +kernel⟩
theorem cm_X12_has : plainName M_X12_has.1.cls = true ∧ Cond.code M_X12_has.1 M_X12_has.2.1 M_X12_has.2.2.1 M_X12_has.2.2.2 ∈ dp_tb ∧ Cond.initialized M_X12_has.1.cls ∈ dp_tb ∧ M_X12_has.2.2.1 ≤ 40 ∧ (M_X12_has.1.cls ≠ "java/lang/invoke/MethodHandle" ∧ M_X12_has.1.cls ≠ "java/lang/invoke/VarHandle") := ⟨by decide +kernel, (dp_m 833 (by decide +kernel) rfl), (dp_m 13 (by decide +kernel) rfl), by decide, by decide +kernel, by decide +kernel⟩
theorem cm_X12_type : plainName M_X12_type.1.cls = true ∧ Cond.code M_X12_type.1 M_X12_type.2.1 M_X12_type.2.2.1 M_X12_type.2.2.2 ∈ dp_tb ∧ Cond.initialized M_X12_type.1.cls ∈ dp_tb ∧ M_X12_type.2.2.1 ≤ 40 ∧ (M_X12_type.1.cls ≠ "java/lang/invoke/MethodHandle" ∧ M_X12_type.1.cls ≠ "java/lang/invoke/VarHandle") := ⟨by decide +kernel, (dp_m 913 (by decide +kernel) rfl), (dp_m 13 (by decide +kernel) rfl), by decide, by decide +kernel, by decide +kernel⟩
theorem cm_X12_in : plainName M_X12_in.1.cls = true ∧ Cond.code M_X12_in.1 M_X12_in.2.1 M_X12_in.2.2.1 M_X12_in.2.2.2 ∈ dp_tb ∧ Cond.initialized M_X12_in.1.cls ∈ dp_tb ∧ M_X12_in.2.2.1 ≤ 40 ∧ (M_X12_in.1.cls ≠ "java/lang/invoke/MethodHandle" ∧ M_X12_in.1.cls ≠ "java/lang/invoke/VarHandle") := ⟨by decide +kernel, (dp_m 916 (by decide +kernel) rfl), (dp_m 13 (by decide +kernel) rfl), by decide, by decide +kernel, by decide +kernel⟩
theorem cm_X12_clear : plainName M_X12_clear.1.cls = true ∧ Cond.code M_X12_clear.1 M_X12_clear.2.1 M_X12_clear.2.2.1 M_X12_clear.2.2.2 ∈ dp_tb ∧ Cond.initialized M_X12_clear.1.cls ∈ dp_tb ∧ M_X12_clear.2.2.1 ≤ 40 ∧ (M_X12_clear.1.cls ≠ "java/lang/invoke/MethodHandle" ∧ M_X12_clear.1.cls ≠ "java/lang/invoke/VarHandle") := ⟨by decide +kernel, (dp_m 921 (by decide +kernel) rfl), (dp_m 13 (by decide +kernel) rfl), by decide, by decide +kernel, by decide +kernel⟩
theorem cm_X12_clauses : plainName M_X12_clauses.1.cls = true ∧ Cond.code M_X12_clauses.1 M_X12_clauses.2.1 M_X12_clauses.2.2.1 M_X12_clauses.2.2.2 ∈ dp_tb ∧ Cond.initialized M_X12_clauses.1.cls ∈ dp_tb ∧ M_X12_clauses.2.2.1 ≤ 40 ∧ (M_X12_clauses.1.cls ≠ "java/lang/invoke/MethodHandle" ∧ M_X12_clauses.1.cls ≠ "java/lang/invoke/VarHandle") := ⟨by decide +kernel, (dp_m 925 (by decide +kernel) rfl), (dp_m 13 (by decide +kernel) rfl), by decide, by decide +kernel, by decide +kernel⟩
theorem cm_X12_begins : plainName M_X12_begins.1.cls = true ∧ Cond.code M_X12_begins.1 M_X12_begins.2.1 M_X12_begins.2.2.1 M_X12_begins.2.2.2 ∈ dp_tb ∧ Cond.initialized M_X12_begins.1.cls ∈ dp_tb ∧ M_X12_begins.2.2.1 ≤ 40 ∧ (M_X12_begins.1.cls ≠ "java/lang/invoke/MethodHandle" ∧ M_X12_begins.1.cls ≠ "java/lang/invoke/VarHandle") := ⟨by decide +kernel, (dp_m 929 (by decide +kernel) rfl), (dp_m 13 (by decide +kernel) rfl), by decide, by decide +kernel, by decide +kernel⟩
theorem cm_X12_advances : plainName M_X12_advances.1.cls = true ∧ Cond.code M_X12_advances.1 M_X12_advances.2.1 M_X12_advances.2.2.1 M_X12_advances.2.2.2 ∈ dp_tb ∧ Cond.initialized M_X12_advances.1.cls ∈ dp_tb ∧ M_X12_advances.2.2.1 ≤ 40 ∧ (M_X12_advances.1.cls ≠ "java/lang/invoke/MethodHandle" ∧ M_X12_advances.1.cls ≠ "java/lang/invoke/VarHandle") := ⟨by decide +kernel, (dp_m 933 (by decide +kernel) rfl), (dp_m 13 (by decide +kernel) rfl), by decide, by decide +kernel, by decide +kernel⟩
theorem cm_X12_byteAt : plainName M_X12_byteAt.1.cls = true ∧ Cond.code M_X12_byteAt.1 M_X12_byteAt.2.1 M_X12_byteAt.2.2.1 M_X12_byteAt.2.2.2 ∈ dp_tb ∧ Cond.initialized M_X12_byteAt.1.cls ∈ dp_tb ∧ M_X12_byteAt.2.2.1 ≤ 40 ∧ (M_X12_byteAt.1.cls ≠ "java/lang/invoke/MethodHandle" ∧ M_X12_byteAt.1.cls ≠ "java/lang/invoke/VarHandle") := ⟨by decide +kernel, (dp_m 937 (by decide +kernel) rfl), (dp_m 13 (by decide +kernel) rfl), by decide, by decide +kernel, by decide +kernel⟩
theorem cm_X12_word : plainName M_X12_word.1.cls = true ∧ Cond.code M_X12_word.1 M_X12_word.2.1 M_X12_word.2.2.1 M_X12_word.2.2.2 ∈ dp_tb ∧ Cond.initialized M_X12_word.1.cls ∈ dp_tb ∧ M_X12_word.2.2.1 ≤ 40 ∧ (M_X12_word.1.cls ≠ "java/lang/invoke/MethodHandle" ∧ M_X12_word.1.cls ≠ "java/lang/invoke/VarHandle") := ⟨by decide +kernel, (dp_m 941 (by decide +kernel) rfl), (dp_m 13 (by decide +kernel) rfl), by decide, by decide +kernel, by decide +kernel⟩
theorem cm_X12_isWell : plainName M_X12_isWell.1.cls = true ∧ Cond.code M_X12_isWell.1 M_X12_isWell.2.1 M_X12_isWell.2.2.1 M_X12_isWell.2.2.2 ∈ dp_tb ∧ Cond.initialized M_X12_isWell.1.cls ∈ dp_tb ∧ M_X12_isWell.2.2.1 ≤ 40 ∧ (M_X12_isWell.1.cls ≠ "java/lang/invoke/MethodHandle" ∧ M_X12_isWell.1.cls ≠ "java/lang/invoke/VarHandle") := ⟨by decide +kernel, (dp_m 945 (by decide +kernel) rfl), (dp_m 13 (by decide +kernel) rfl), by decide, by decide +kernel, by decide +kernel⟩
theorem cm_X12_wants : plainName M_X12_wants.1.cls = true ∧ Cond.code M_X12_wants.1 M_X12_wants.2.1 M_X12_wants.2.2.1 M_X12_wants.2.2.2 ∈ dp_tb ∧ Cond.initialized M_X12_wants.1.cls ∈ dp_tb ∧ M_X12_wants.2.2.1 ≤ 40 ∧ (M_X12_wants.1.cls ≠ "java/lang/invoke/MethodHandle" ∧ M_X12_wants.1.cls ≠ "java/lang/invoke/VarHandle") := ⟨by decide +kernel, (dp_m 949 (by decide +kernel) rfl), (dp_m 13 (by decide +kernel) rfl), by decide, by decide +kernel, by decide +kernel⟩
theorem cm_X12_readsClause : plainName M_X12_readsClause.1.cls = true ∧ Cond.code M_X12_readsClause.1 M_X12_readsClause.2.1 M_X12_readsClause.2.2.1 M_X12_readsClause.2.2.2 ∈ dp_tb ∧ Cond.initialized M_X12_readsClause.1.cls ∈ dp_tb ∧ M_X12_readsClause.2.2.1 ≤ 40 ∧ (M_X12_readsClause.1.cls ≠ "java/lang/invoke/MethodHandle" ∧ M_X12_readsClause.1.cls ≠ "java/lang/invoke/VarHandle") := ⟨by decide +kernel, (dp_m 953 (by decide +kernel) rfl), (dp_m 13 (by decide +kernel) rfl), by decide, by decide +kernel, by decide +kernel⟩
theorem cm_X12_goesOn : plainName M_X12_goesOn.1.cls = true ∧ Cond.code M_X12_goesOn.1 M_X12_goesOn.2.1 M_X12_goesOn.2.2.1 M_X12_goesOn.2.2.2 ∈ dp_tb ∧ Cond.initialized M_X12_goesOn.1.cls ∈ dp_tb ∧ M_X12_goesOn.2.2.1 ≤ 40 ∧ (M_X12_goesOn.1.cls ≠ "java/lang/invoke/MethodHandle" ∧ M_X12_goesOn.1.cls ≠ "java/lang/invoke/VarHandle") := ⟨by decide +kernel, (dp_m 957 (by decide +kernel) rfl), (dp_m 13 (by decide +kernel) rfl), by decide, by decide +kernel, by decide +kernel⟩
theorem cm_X12_holding : plainName M_X12_holding.1.cls = true ∧ Cond.code M_X12_holding.1 M_X12_holding.2.1 M_X12_holding.2.2.1 M_X12_holding.2.2.2 ∈ dp_tb ∧ Cond.initialized M_X12_holding.1.cls ∈ dp_tb ∧ M_X12_holding.2.2.1 ≤ 40 ∧ (M_X12_holding.1.cls ≠ "java/lang/invoke/MethodHandle" ∧ M_X12_holding.1.cls ≠ "java/lang/invoke/VarHandle") := ⟨by decide +kernel, (dp_m 961 (by decide +kernel) rfl), (dp_m 13 (by decide +kernel) rfl), by decide, by decide +kernel, by decide +kernel⟩
theorem cm_X12_isSo : plainName M_X12_isSo.1.cls = true ∧ Cond.code M_X12_isSo.1 M_X12_isSo.2.1 M_X12_isSo.2.2.1 M_X12_isSo.2.2.2 ∈ dp_tb ∧ Cond.initialized M_X12_isSo.1.cls ∈ dp_tb ∧ M_X12_isSo.2.2.1 ≤ 40 ∧ (M_X12_isSo.1.cls ≠ "java/lang/invoke/MethodHandle" ∧ M_X12_isSo.1.cls ≠ "java/lang/invoke/VarHandle") := ⟨by decide +kernel, (dp_m 964 (by decide +kernel) rfl), (dp_m 13 (by decide +kernel) rfl), by decide, by decide +kernel, by decide +kernel⟩
theorem cm_X12_beginning : plainName M_X12_beginning.1.cls = true ∧ Cond.code M_X12_beginning.1 M_X12_beginning.2.1 M_X12_beginning.2.2.1 M_X12_beginning.2.2.2 ∈ dp_tb ∧ Cond.initialized M_X12_beginning.1.cls ∈ dp_tb ∧ M_X12_beginning.2.2.1 ≤ 40 ∧ (M_X12_beginning.1.cls ≠ "java/lang/invoke/MethodHandle" ∧ M_X12_beginning.1.cls ≠ "java/lang/invoke/VarHandle") := ⟨by decide +kernel, (dp_m 968 (by decide +kernel) rfl), (dp_m 13 (by decide +kernel) rfl), by decide, by decide +kernel, by decide +kernel⟩
theorem cm_X12_proof : plainName M_X12_proof.1.cls = true ∧ Cond.code M_X12_proof.1 M_X12_proof.2.1 M_X12_proof.2.2.1 M_X12_proof.2.2.2 ∈ dp_tb ∧ Cond.initialized M_X12_proof.1.cls ∈ dp_tb ∧ M_X12_proof.2.2.1 ≤ 40 ∧ (M_X12_proof.1.cls ≠ "java/lang/invoke/MethodHandle" ∧ M_X12_proof.1.cls ≠ "java/lang/invoke/VarHandle") := ⟨by decide +kernel, (dp_m 972 (by decide +kernel) rfl), (dp_m 13 (by decide +kernel) rfl), by decide, by decide +kernel, by decide +kernel⟩
theorem cm_X12_readsStep : plainName M_X12_readsStep.1.cls = true ∧ Cond.code M_X12_readsStep.1 M_X12_readsStep.2.1 M_X12_readsStep.2.2.1 M_X12_readsStep.2.2.2 ∈ dp_tb ∧ Cond.initialized M_X12_readsStep.1.cls ∈ dp_tb ∧ M_X12_readsStep.2.2.1 ≤ 40 ∧ (M_X12_readsStep.1.cls ≠ "java/lang/invoke/MethodHandle" ∧ M_X12_readsStep.1.cls ≠ "java/lang/invoke/VarHandle") := ⟨by decide +kernel, (dp_m 976 (by decide +kernel) rfl), (dp_m 13 (by decide +kernel) rfl), by decide, by decide +kernel, by decide +kernel⟩
theorem cm_X12_makes : plainName M_X12_makes.1.cls = true ∧ Cond.code M_X12_makes.1 M_X12_makes.2.1 M_X12_makes.2.2.1 M_X12_makes.2.2.2 ∈ dp_tb ∧ Cond.initialized M_X12_makes.1.cls ∈ dp_tb ∧ M_X12_makes.2.2.1 ≤ 40 ∧ (M_X12_makes.1.cls ≠ "java/lang/invoke/MethodHandle" ∧ M_X12_makes.1.cls ≠ "java/lang/invoke/VarHandle") := ⟨by decide +kernel, (dp_m 980 (by decide +kernel) rfl), (dp_m 13 (by decide +kernel) rfl), by decide, by decide +kernel, by decide +kernel⟩
theorem cm_X12_wrong : plainName M_X12_wrong.1.cls = true ∧ Cond.code M_X12_wrong.1 M_X12_wrong.2.1 M_X12_wrong.2.2.1 M_X12_wrong.2.2.2 ∈ dp_tb ∧ Cond.initialized M_X12_wrong.1.cls ∈ dp_tb ∧ M_X12_wrong.2.2.1 ≤ 40 ∧ (M_X12_wrong.1.cls ≠ "java/lang/invoke/MethodHandle" ∧ M_X12_wrong.1.cls ≠ "java/lang/invoke/VarHandle") := ⟨by decide +kernel, (dp_m 984 (by decide +kernel) rfl), (dp_m 13 (by decide +kernel) rfl), by decide, by decide +kernel, by decide +kernel⟩
theorem cm_X12_end : plainName M_X12_end.1.cls = true ∧ Cond.code M_X12_end.1 M_X12_end.2.1 M_X12_end.2.2.1 M_X12_end.2.2.2 ∈ dp_tb ∧ Cond.initialized M_X12_end.1.cls ∈ dp_tb ∧ M_X12_end.2.2.1 ≤ 40 ∧ (M_X12_end.1.cls ≠ "java/lang/invoke/MethodHandle" ∧ M_X12_end.1.cls ≠ "java/lang/invoke/VarHandle") := ⟨by decide +kernel, (dp_m 988 (by decide +kernel) rfl), (dp_m 13 (by decide +kernel) rfl), by decide, by decide +kernel, by decide +kernel⟩
theorem cm_X12_ending : plainName M_X12_ending.1.cls = true ∧ Cond.code M_X12_ending.1 M_X12_ending.2.1 M_X12_ending.2.2.1 M_X12_ending.2.2.2 ∈ dp_tb ∧ Cond.initialized M_X12_ending.1.cls ∈ dp_tb ∧ M_X12_ending.2.2.1 ≤ 40 ∧ (M_X12_ending.1.cls ≠ "java/lang/invoke/MethodHandle" ∧ M_X12_ending.1.cls ≠ "java/lang/invoke/VarHandle") := ⟨by decide +kernel, (dp_m 992 (by decide +kernel) rfl), (dp_m 13 (by decide +kernel) rfl), by decide, by decide +kernel, by decide +kernel⟩
theorem cm_X12_line : plainName M_X12_line.1.cls = true ∧ Cond.code M_X12_line.1 M_X12_line.2.1 M_X12_line.2.2.1 M_X12_line.2.2.2 ∈ dp_tb ∧ Cond.initialized M_X12_line.1.cls ∈ dp_tb ∧ M_X12_line.2.2.1 ≤ 40 ∧ (M_X12_line.1.cls ≠ "java/lang/invoke/MethodHandle" ∧ M_X12_line.1.cls ≠ "java/lang/invoke/VarHandle") := ⟨by decide +kernel, (dp_m 996 (by decide +kernel) rfl), (dp_m 13 (by decide +kernel) rfl), by decide, by decide +kernel, by decide +kernel⟩
theorem cm_X12_isLine : plainName M_X12_isLine.1.cls = true ∧ Cond.code M_X12_isLine.1 M_X12_isLine.2.1 M_X12_isLine.2.2.1 M_X12_isLine.2.2.2 ∈ dp_tb ∧ Cond.initialized M_X12_isLine.1.cls ∈ dp_tb ∧ M_X12_isLine.2.2.1 ≤ 40 ∧ (M_X12_isLine.1.cls ≠ "java/lang/invoke/MethodHandle" ∧ M_X12_isLine.1.cls ≠ "java/lang/invoke/VarHandle") := ⟨by decide +kernel, (dp_m 1000 (by decide +kernel) rfl), (dp_m 13 (by decide +kernel) rfl), by decide, by decide +kernel, by decide +kernel⟩
theorem cm_X12_side : plainName M_X12_side.1.cls = true ∧ Cond.code M_X12_side.1 M_X12_side.2.1 M_X12_side.2.2.1 M_X12_side.2.2.2 ∈ dp_tb ∧ Cond.initialized M_X12_side.1.cls ∈ dp_tb ∧ M_X12_side.2.2.1 ≤ 40 ∧ (M_X12_side.1.cls ≠ "java/lang/invoke/MethodHandle" ∧ M_X12_side.1.cls ≠ "java/lang/invoke/VarHandle") := ⟨by decide +kernel, (dp_m 1004 (by decide +kernel) rfl), (dp_m 13 (by decide +kernel) rfl), by decide, by decide +kernel, by decide +kernel⟩
theorem cm_X12_holds : plainName M_X12_holds.1.cls = true ∧ Cond.code M_X12_holds.1 M_X12_holds.2.1 M_X12_holds.2.2.1 M_X12_holds.2.2.2 ∈ dp_tb ∧ Cond.initialized M_X12_holds.1.cls ∈ dp_tb ∧ M_X12_holds.2.2.1 ≤ 40 ∧ (M_X12_holds.1.cls ≠ "java/lang/invoke/MethodHandle" ∧ M_X12_holds.1.cls ≠ "java/lang/invoke/VarHandle") := ⟨by decide +kernel, (dp_m 1008 (by decide +kernel) rfl), (dp_m 13 (by decide +kernel) rfl), by decide, by decide +kernel, by decide +kernel⟩
theorem cm_X12_worlds : plainName M_X12_worlds.1.cls = true ∧ Cond.code M_X12_worlds.1 M_X12_worlds.2.1 M_X12_worlds.2.2.1 M_X12_worlds.2.2.2 ∈ dp_tb ∧ Cond.initialized M_X12_worlds.1.cls ∈ dp_tb ∧ M_X12_worlds.2.2.1 ≤ 40 ∧ (M_X12_worlds.1.cls ≠ "java/lang/invoke/MethodHandle" ∧ M_X12_worlds.1.cls ≠ "java/lang/invoke/VarHandle") := ⟨by decide +kernel, (dp_m 1012 (by decide +kernel) rfl), (dp_m 13 (by decide +kernel) rfl), by decide, by decide +kernel, by decide +kernel⟩
theorem cm_X12_many : plainName M_X12_many.1.cls = true ∧ Cond.code M_X12_many.1 M_X12_many.2.1 M_X12_many.2.2.1 M_X12_many.2.2.2 ∈ dp_tb ∧ Cond.initialized M_X12_many.1.cls ∈ dp_tb ∧ M_X12_many.2.2.1 ≤ 40 ∧ (M_X12_many.1.cls ≠ "java/lang/invoke/MethodHandle" ∧ M_X12_many.1.cls ≠ "java/lang/invoke/VarHandle") := ⟨by decide +kernel, (dp_m 1015 (by decide +kernel) rfl), (dp_m 13 (by decide +kernel) rfl), by decide, by decide +kernel, by decide +kernel⟩
theorem cm_X12_says : plainName M_X12_says.1.cls = true ∧ Cond.code M_X12_says.1 M_X12_says.2.1 M_X12_says.2.2.1 M_X12_says.2.2.2 ∈ dp_tb ∧ Cond.initialized M_X12_says.1.cls ∈ dp_tb ∧ M_X12_says.2.2.1 ≤ 40 ∧ (M_X12_says.1.cls ≠ "java/lang/invoke/MethodHandle" ∧ M_X12_says.1.cls ≠ "java/lang/invoke/VarHandle") := ⟨by decide +kernel, (dp_m 1019 (by decide +kernel) rfl), (dp_m 13 (by decide +kernel) rfl), by decide, by decide +kernel, by decide +kernel⟩
theorem cm_X12_isWay : plainName M_X12_isWay.1.cls = true ∧ Cond.code M_X12_isWay.1 M_X12_isWay.2.1 M_X12_isWay.2.2.1 M_X12_isWay.2.2.2 ∈ dp_tb ∧ Cond.initialized M_X12_isWay.1.cls ∈ dp_tb ∧ M_X12_isWay.2.2.1 ≤ 40 ∧ (M_X12_isWay.1.cls ≠ "java/lang/invoke/MethodHandle" ∧ M_X12_isWay.1.cls ≠ "java/lang/invoke/VarHandle") := ⟨by decide +kernel, (dp_m 1022 (by decide +kernel) rfl), (dp_m 13 (by decide +kernel) rfl), by decide, by decide +kernel, by decide +kernel⟩
theorem cm_X12_saying : plainName M_X12_saying.1.cls = true ∧ Cond.code M_X12_saying.1 M_X12_saying.2.1 M_X12_saying.2.2.1 M_X12_saying.2.2.2 ∈ dp_tb ∧ Cond.initialized M_X12_saying.1.cls ∈ dp_tb ∧ M_X12_saying.2.2.1 ≤ 40 ∧ (M_X12_saying.1.cls ≠ "java/lang/invoke/MethodHandle" ∧ M_X12_saying.1.cls ≠ "java/lang/invoke/VarHandle") := ⟨by decide +kernel, (dp_m 1026 (by decide +kernel) rfl), (dp_m 13 (by decide +kernel) rfl), by decide, by decide +kernel, by decide +kernel⟩
theorem cm_X12_between : plainName M_X12_between.1.cls = true ∧ Cond.code M_X12_between.1 M_X12_between.2.1 M_X12_between.2.2.1 M_X12_between.2.2.2 ∈ dp_tb ∧ Cond.initialized M_X12_between.1.cls ∈ dp_tb ∧ M_X12_between.2.2.1 ≤ 40 ∧ (M_X12_between.1.cls ≠ "java/lang/invoke/MethodHandle" ∧ M_X12_between.1.cls ≠ "java/lang/invoke/VarHandle") := ⟨by decide +kernel, (dp_m 1030 (by decide +kernel) rfl), (dp_m 13 (by decide +kernel) rfl), by decide, by decide +kernel, by decide +kernel⟩
theorem cm_X12_takes : plainName M_X12_takes.1.cls = true ∧ Cond.code M_X12_takes.1 M_X12_takes.2.1 M_X12_takes.2.2.1 M_X12_takes.2.2.2 ∈ dp_tb ∧ Cond.initialized M_X12_takes.1.cls ∈ dp_tb ∧ M_X12_takes.2.2.1 ≤ 40 ∧ (M_X12_takes.1.cls ≠ "java/lang/invoke/MethodHandle" ∧ M_X12_takes.1.cls ≠ "java/lang/invoke/VarHandle") := ⟨by decide +kernel, (dp_m 1034 (by decide +kernel) rfl), (dp_m 13 (by decide +kernel) rfl), by decide, by decide +kernel, by decide +kernel⟩
theorem cm_X12_checks : plainName M_X12_checks.1.cls = true ∧ Cond.code M_X12_checks.1 M_X12_checks.2.1 M_X12_checks.2.2.1 M_X12_checks.2.2.2 ∈ dp_tb ∧ Cond.initialized M_X12_checks.1.cls ∈ dp_tb ∧ M_X12_checks.2.2.1 ≤ 40 ∧ (M_X12_checks.1.cls ≠ "java/lang/invoke/MethodHandle" ∧ M_X12_checks.1.cls ≠ "java/lang/invoke/VarHandle") := ⟨by decide +kernel, (dp_m 1038 (by decide +kernel) rfl), (dp_m 13 (by decide +kernel) rfl), by decide, by decide +kernel, by decide +kernel⟩
theorem cm_X12_looksOf : plainName M_X12_looksOf.1.cls = true ∧ Cond.code M_X12_looksOf.1 M_X12_looksOf.2.1 M_X12_looksOf.2.2.1 M_X12_looksOf.2.2.2 ∈ dp_tb ∧ Cond.initialized M_X12_looksOf.1.cls ∈ dp_tb ∧ M_X12_looksOf.2.2.1 ≤ 40 ∧ (M_X12_looksOf.1.cls ≠ "java/lang/invoke/MethodHandle" ∧ M_X12_looksOf.1.cls ≠ "java/lang/invoke/VarHandle") := ⟨by decide +kernel, (dp_m 1041 (by decide +kernel) rfl), (dp_m 13 (by decide +kernel) rfl), by decide, by decide +kernel, by decide +kernel⟩
theorem cm_X12_looks : plainName M_X12_looks.1.cls = true ∧ Cond.code M_X12_looks.1 M_X12_looks.2.1 M_X12_looks.2.2.1 M_X12_looks.2.2.2 ∈ dp_tb ∧ Cond.initialized M_X12_looks.1.cls ∈ dp_tb ∧ M_X12_looks.2.2.1 ≤ 40 ∧ (M_X12_looks.1.cls ≠ "java/lang/invoke/MethodHandle" ∧ M_X12_looks.1.cls ≠ "java/lang/invoke/VarHandle") := ⟨by decide +kernel, (dp_m 1045 (by decide +kernel) rfl), (dp_m 13 (by decide +kernel) rfl), by decide, by decide +kernel, by decide +kernel⟩
theorem cm_X12_compare : plainName M_X12_compare.1.cls = true ∧ Cond.code M_X12_compare.1 M_X12_compare.2.1 M_X12_compare.2.2.1 M_X12_compare.2.2.2 ∈ dp_tb ∧ Cond.initialized M_X12_compare.1.cls ∈ dp_tb ∧ M_X12_compare.2.2.1 ≤ 40 ∧ (M_X12_compare.1.cls ≠ "java/lang/invoke/MethodHandle" ∧ M_X12_compare.1.cls ≠ "java/lang/invoke/VarHandle") := ⟨by decide +kernel, (dp_m 1049 (by decide +kernel) rfl), (dp_m 13 (by decide +kernel) rfl), by decide, by decide +kernel, by decide +kernel⟩
theorem cm_X12_bounds_ : plainName M_X12_bounds_.1.cls = true ∧ Cond.code M_X12_bounds_.1 M_X12_bounds_.2.1 M_X12_bounds_.2.2.1 M_X12_bounds_.2.2.2 ∈ dp_tb ∧ Cond.initialized M_X12_bounds_.1.cls ∈ dp_tb ∧ M_X12_bounds_.2.2.1 ≤ 40 ∧ (M_X12_bounds_.1.cls ≠ "java/lang/invoke/MethodHandle" ∧ M_X12_bounds_.1.cls ≠ "java/lang/invoke/VarHandle") := ⟨by decide +kernel, (dp_m 1053 (by decide +kernel) rfl), (dp_m 13 (by decide +kernel) rfl), by decide, by decide +kernel, by decide +kernel⟩
theorem cm_X12_ones : plainName M_X12_ones.1.cls = true ∧ Cond.code M_X12_ones.1 M_X12_ones.2.1 M_X12_ones.2.2.1 M_X12_ones.2.2.2 ∈ dp_tb ∧ Cond.initialized M_X12_ones.1.cls ∈ dp_tb ∧ M_X12_ones.2.2.1 ≤ 40 ∧ (M_X12_ones.1.cls ≠ "java/lang/invoke/MethodHandle" ∧ M_X12_ones.1.cls ≠ "java/lang/invoke/VarHandle") := ⟨by decide +kernel, (dp_m 1056 (by decide +kernel) rfl), (dp_m 13 (by decide +kernel) rfl), by decide, by decide +kernel, by decide +kernel⟩
theorem cm_X12_fewest : plainName M_X12_fewest.1.cls = true ∧ Cond.code M_X12_fewest.1 M_X12_fewest.2.1 M_X12_fewest.2.2.1 M_X12_fewest.2.2.2 ∈ dp_tb ∧ Cond.initialized M_X12_fewest.1.cls ∈ dp_tb ∧ M_X12_fewest.2.2.1 ≤ 40 ∧ (M_X12_fewest.1.cls ≠ "java/lang/invoke/MethodHandle" ∧ M_X12_fewest.1.cls ≠ "java/lang/invoke/VarHandle") := ⟨by decide +kernel, (dp_m 1060 (by decide +kernel) rfl), (dp_m 13 (by decide +kernel) rfl), by decide, by decide +kernel, by decide +kernel⟩
theorem cm_X12_tell : plainName M_X12_tell.1.cls = true ∧ Cond.code M_X12_tell.1 M_X12_tell.2.1 M_X12_tell.2.2.1 M_X12_tell.2.2.2 ∈ dp_tb ∧ Cond.initialized M_X12_tell.1.cls ∈ dp_tb ∧ M_X12_tell.2.2.1 ≤ 40 ∧ (M_X12_tell.1.cls ≠ "java/lang/invoke/MethodHandle" ∧ M_X12_tell.1.cls ≠ "java/lang/invoke/VarHandle") := ⟨by decide +kernel, (dp_m 1064 (by decide +kernel) rfl), (dp_m 13 (by decide +kernel) rfl), by decide, by decide +kernel, by decide +kernel⟩
theorem cm_X12_copy : plainName M_X12_copy.1.cls = true ∧ Cond.code M_X12_copy.1 M_X12_copy.2.1 M_X12_copy.2.2.1 M_X12_copy.2.2.2 ∈ dp_tb ∧ Cond.initialized M_X12_copy.1.cls ∈ dp_tb ∧ M_X12_copy.2.2.1 ≤ 40 ∧ (M_X12_copy.1.cls ≠ "java/lang/invoke/MethodHandle" ∧ M_X12_copy.1.cls ≠ "java/lang/invoke/VarHandle") := ⟨by decide +kernel, (dp_m 1068 (by decide +kernel) rfl), (dp_m 13 (by decide +kernel) rfl), by decide, by decide +kernel, by decide +kernel⟩
theorem cm_X12_check : plainName M_X12_check.1.cls = true ∧ Cond.code M_X12_check.1 M_X12_check.2.1 M_X12_check.2.2.1 M_X12_check.2.2.2 ∈ dp_tb ∧ Cond.initialized M_X12_check.1.cls ∈ dp_tb ∧ M_X12_check.2.2.1 ≤ 40 ∧ (M_X12_check.1.cls ≠ "java/lang/invoke/MethodHandle" ∧ M_X12_check.1.cls ≠ "java/lang/invoke/VarHandle") := ⟨by decide +kernel, (dp_m 1072 (by decide +kernel) rfl), (dp_m 13 (by decide +kernel) rfl), by decide, by decide +kernel, by decide +kernel⟩
theorem cm_X12_used : plainName M_X12_used.1.cls = true ∧ Cond.code M_X12_used.1 M_X12_used.2.1 M_X12_used.2.2.1 M_X12_used.2.2.2 ∈ dp_tb ∧ Cond.initialized M_X12_used.1.cls ∈ dp_tb ∧ M_X12_used.2.2.1 ≤ 40 ∧ (M_X12_used.1.cls ≠ "java/lang/invoke/MethodHandle" ∧ M_X12_used.1.cls ≠ "java/lang/invoke/VarHandle") := ⟨by decide +kernel, (dp_m 1076 (by decide +kernel) rfl), (dp_m 13 (by decide +kernel) rfl), by decide, by decide +kernel, by decide +kernel⟩
theorem cm_X12_needed : plainName M_X12_needed.1.cls = true ∧ Cond.code M_X12_needed.1 M_X12_needed.2.1 M_X12_needed.2.2.1 M_X12_needed.2.2.2 ∈ dp_tb ∧ Cond.initialized M_X12_needed.1.cls ∈ dp_tb ∧ M_X12_needed.2.2.1 ≤ 40 ∧ (M_X12_needed.1.cls ≠ "java/lang/invoke/MethodHandle" ∧ M_X12_needed.1.cls ≠ "java/lang/invoke/VarHandle") := ⟨by decide +kernel, (dp_m 1080 (by decide +kernel) rfl), (dp_m 13 (by decide +kernel) rfl), by decide, by decide +kernel, by decide +kernel⟩
theorem cm_X12_clash : plainName M_X12_clash.1.cls = true ∧ Cond.code M_X12_clash.1 M_X12_clash.2.1 M_X12_clash.2.2.1 M_X12_clash.2.2.2 ∈ dp_tb ∧ Cond.initialized M_X12_clash.1.cls ∈ dp_tb ∧ M_X12_clash.2.2.1 ≤ 40 ∧ (M_X12_clash.1.cls ≠ "java/lang/invoke/MethodHandle" ∧ M_X12_clash.1.cls ≠ "java/lang/invoke/VarHandle") := ⟨by decide +kernel, (dp_m 1084 (by decide +kernel) rfl), (dp_m 13 (by decide +kernel) rfl), by decide, by decide +kernel, by decide +kernel⟩
theorem cm_X12_labour : plainName M_X12_labour.1.cls = true ∧ Cond.code M_X12_labour.1 M_X12_labour.2.1 M_X12_labour.2.2.1 M_X12_labour.2.2.2 ∈ dp_tb ∧ Cond.initialized M_X12_labour.1.cls ∈ dp_tb ∧ M_X12_labour.2.2.1 ≤ 40 ∧ (M_X12_labour.1.cls ≠ "java/lang/invoke/MethodHandle" ∧ M_X12_labour.1.cls ≠ "java/lang/invoke/VarHandle") := ⟨by decide +kernel, (dp_m 1088 (by decide +kernel) rfl), (dp_m 13 (by decide +kernel) rfl), by decide, by decide +kernel, by decide +kernel⟩
theorem cm_X12_count : plainName M_X12_count.1.cls = true ∧ Cond.code M_X12_count.1 M_X12_count.2.1 M_X12_count.2.2.1 M_X12_count.2.2.2 ∈ dp_tb ∧ Cond.initialized M_X12_count.1.cls ∈ dp_tb ∧ M_X12_count.2.2.1 ≤ 40 ∧ (M_X12_count.1.cls ≠ "java/lang/invoke/MethodHandle" ∧ M_X12_count.1.cls ≠ "java/lang/invoke/VarHandle") := ⟨by decide +kernel, (dp_m 1095 (by decide +kernel) rfl), (dp_m 13 (by decide +kernel) rfl), by decide, by decide +kernel, by decide +kernel⟩
theorem cm_X12_trace : plainName M_X12_trace.1.cls = true ∧ Cond.code M_X12_trace.1 M_X12_trace.2.1 M_X12_trace.2.2.1 M_X12_trace.2.2.2 ∈ dp_tb ∧ Cond.initialized M_X12_trace.1.cls ∈ dp_tb ∧ M_X12_trace.2.2.1 ≤ 40 ∧ (M_X12_trace.1.cls ≠ "java/lang/invoke/MethodHandle" ∧ M_X12_trace.1.cls ≠ "java/lang/invoke/VarHandle") := ⟨by decide +kernel, (dp_m 1099 (by decide +kernel) rfl), (dp_m 13 (by decide +kernel) rfl), by decide, by decide +kernel, by decide +kernel⟩
theorem fl_X8_9 : ev_fl RX8 9 8 0 := ⟨_, rfl, by decide, Or.inl (dp_m 31 (by decide +kernel) rfl)⟩
theorem fl_X8_15 : ev_fl RX8 15 8 1 := ⟨_, rfl, by decide, Or.inl (dp_m 32 (by decide +kernel) rfl)⟩
theorem fl_X8_28 : ev_fl RX8 28 8 2 := ⟨_, rfl, by decide, Or.inl (dp_m 33 (by decide +kernel) rfl)⟩
theorem fl_X8_25 : ev_fl RX8 25 8 3 := ⟨_, rfl, by decide, Or.inl (dp_m 34 (by decide +kernel) rfl)⟩
theorem fl_X8_19 : ev_fl RX8 19 8 4 := ⟨_, rfl, by decide, Or.inl (dp_m 35 (by decide +kernel) rfl)⟩
theorem fl_X8_22 : ev_fl RX8 22 8 5 := ⟨_, rfl, by decide, Or.inl (dp_m 36 (by decide +kernel) rfl)⟩
theorem fl_X4_9 : ev_fl RX4 9 4 0 := ⟨_, rfl, by decide, Or.inl (dp_m 57 (by decide +kernel) rfl)⟩
theorem fl_X4_15 : ev_fl RX4 15 4 1 := ⟨_, rfl, by decide, Or.inl (dp_m 58 (by decide +kernel) rfl)⟩
theorem fl_X4_18 : ev_fl RX4 18 4 2 := ⟨_, rfl, by decide, Or.inl (dp_m 59 (by decide +kernel) rfl)⟩
theorem fl_X4_30 : ev_fl RX4 30 4 3 := ⟨_, rfl, by decide, Or.inl (dp_m 60 (by decide +kernel) rfl)⟩
theorem fl_X4_60 : ev_fl RX4 60 4 4 := ⟨_, rfl, by decide, Or.inl (dp_m 61 (by decide +kernel) rfl)⟩
theorem fl_X4_63 : ev_fl RX4 63 4 5 := ⟨_, rfl, by decide, Or.inl (dp_m 62 (by decide +kernel) rfl)⟩
theorem fl_X4_21 : ev_fl RX4 21 4 6 := ⟨_, rfl, by decide, Or.inl (dp_m 63 (by decide +kernel) rfl)⟩
theorem fl_X4_24 : ev_fl RX4 24 4 7 := ⟨_, rfl, by decide, Or.inl (dp_m 64 (by decide +kernel) rfl)⟩
theorem fl_X4_27 : ev_fl RX4 27 4 8 := ⟨_, rfl, by decide, Or.inl (dp_m 65 (by decide +kernel) rfl)⟩
theorem fl_X4_38 : ev_fl RX4 38 4 9 := ⟨_, rfl, by decide, Or.inl (dp_m 66 (by decide +kernel) rfl)⟩
theorem fl_X10_9 : ev_fl RX10 9 10 0 := ⟨_, rfl, by decide, Or.inl (dp_m 103 (by decide +kernel) rfl)⟩
theorem fl_X7_12 : ev_fl RX7 12 7 0 := ⟨_, rfl, by decide, Or.inl (dp_m 121 (by decide +kernel) rfl)⟩
theorem fl_X11_139 : ev_fl RX11 139 7 0 := ⟨_, rfl, by decide, Or.inl (dp_m 122 (by decide +kernel) rfl)⟩
theorem fl_X7_18 : ev_fl RX7 18 7 1 := ⟨_, rfl, by decide, Or.inl (dp_m 123 (by decide +kernel) rfl)⟩
theorem fl_X11_143 : ev_fl RX11 143 7 1 := ⟨_, rfl, by decide, Or.inl (dp_m 124 (by decide +kernel) rfl)⟩
theorem fl_X7_21 : ev_fl RX7 21 7 2 := ⟨_, rfl, by decide, Or.inl (dp_m 125 (by decide +kernel) rfl)⟩
theorem fl_X11_177 : ev_fl RX11 177 7 2 := ⟨_, rfl, by decide, Or.inl (dp_m 126 (by decide +kernel) rfl)⟩
theorem fl_X7_24 : ev_fl RX7 24 7 3 := ⟨_, rfl, by decide, Or.inl (dp_m 127 (by decide +kernel) rfl)⟩
theorem fl_X11_180 : ev_fl RX11 180 7 3 := ⟨_, rfl, by decide, Or.inl (dp_m 128 (by decide +kernel) rfl)⟩
theorem fl_X7_27 : ev_fl RX7 27 7 4 := ⟨_, rfl, by decide, Or.inl (dp_m 129 (by decide +kernel) rfl)⟩
theorem fl_X7_33 : ev_fl RX7 33 7 5 := ⟨_, rfl, by decide, Or.inl (dp_m 130 (by decide +kernel) rfl)⟩
theorem fl_X7_37 : ev_fl RX7 37 7 6 := ⟨_, rfl, by decide, Or.inl (dp_m 131 (by decide +kernel) rfl)⟩
theorem fl_X7_70 : ev_fl RX7 70 7 7 := ⟨_, rfl, by decide, Or.inl (dp_m 132 (by decide +kernel) rfl)⟩
theorem fl_X7_97 : ev_fl RX7 97 7 8 := ⟨_, rfl, by decide, Or.inl (dp_m 133 (by decide +kernel) rfl)⟩
theorem fl_X0_11 : ev_fl RX0 11 0 0 := ⟨_, rfl, by decide, Or.inl (dp_m 162 (by decide +kernel) rfl)⟩
theorem fl_X0_17 : ev_fl RX0 17 0 1 := ⟨_, rfl, by decide, Or.inl (dp_m 163 (by decide +kernel) rfl)⟩
theorem fl_X0_27 : ev_fl RX0 27 0 2 := ⟨_, rfl, by decide, Or.inl (dp_m 164 (by decide +kernel) rfl)⟩
theorem fl_X0_37 : ev_fl RX0 37 0 3 := ⟨_, rfl, by decide, Or.inl (dp_m 165 (by decide +kernel) rfl)⟩
theorem fl_X0_41 : ev_fl RX0 41 0 4 := ⟨_, rfl, by decide, Or.inl (dp_m 166 (by decide +kernel) rfl)⟩
theorem fl_X0_44 : ev_fl RX0 44 0 5 := ⟨_, rfl, by decide, Or.inl (dp_m 167 (by decide +kernel) rfl)⟩
theorem fl_X9_7 : ev_fl RX9 7 9 0 := ⟨_, rfl, by decide, Or.inl (dp_m 189 (by decide +kernel) rfl)⟩
theorem fl_X3_11 : ev_fl RX3 11 3 0 := ⟨_, rfl, by decide, Or.inl (dp_m 228 (by decide +kernel) rfl)⟩
theorem fl_X3_28 : ev_fl RX3 28 3 1 := ⟨_, rfl, by decide, Or.inl (dp_m 229 (by decide +kernel) rfl)⟩
theorem fl_X3_31 : ev_fl RX3 31 3 2 := ⟨_, rfl, by decide, Or.inl (dp_m 230 (by decide +kernel) rfl)⟩
theorem fl_X3_34 : ev_fl RX3 34 3 3 := ⟨_, rfl, by decide, Or.inl (dp_m 231 (by decide +kernel) rfl)⟩
theorem fl_X7_46 : ev_fl RX7 46 3 3 := ⟨_, rfl, by decide, Or.inl (dp_m 232 (by decide +kernel) rfl)⟩
theorem fl_X3_17 : ev_fl RX3 17 3 4 := ⟨_, rfl, by decide, Or.inl (dp_m 233 (by decide +kernel) rfl)⟩
theorem fl_X11_295 : ev_fl RX11 295 3 4 := ⟨_, rfl, by decide, Or.inl (dp_m 234 (by decide +kernel) rfl)⟩
theorem fl_X3_21 : ev_fl RX3 21 3 5 := ⟨_, rfl, by decide, Or.inl (dp_m 235 (by decide +kernel) rfl)⟩
theorem fl_X11_298 : ev_fl RX11 298 3 5 := ⟨_, rfl, by decide, Or.inl (dp_m 236 (by decide +kernel) rfl)⟩
theorem fl_X3_24 : ev_fl RX3 24 3 6 := ⟨_, rfl, by decide, Or.inl (dp_m 237 (by decide +kernel) rfl)⟩
theorem fl_X11_12 : ev_fl RX11 12 11 0 := ⟨_, rfl, by decide, Or.inl (dp_m 253 (by decide +kernel) rfl)⟩
theorem fl_X11_19 : ev_fl RX11 19 11 1 := ⟨_, rfl, by decide, Or.inl (dp_m 254 (by decide +kernel) rfl)⟩
theorem fl_X11_25 : ev_fl RX11 25 11 2 := ⟨_, rfl, by decide, Or.inl (dp_m 255 (by decide +kernel) rfl)⟩
theorem fl_X11_32 : ev_fl RX11 32 11 3 := ⟨_, rfl, by decide, Or.inl (dp_m 256 (by decide +kernel) rfl)⟩
theorem fl_X11_39 : ev_fl RX11 39 11 4 := ⟨_, rfl, by decide, Or.inl (dp_m 257 (by decide +kernel) rfl)⟩
theorem fl_X11_46 : ev_fl RX11 46 11 5 := ⟨_, rfl, by decide, Or.inl (dp_m 258 (by decide +kernel) rfl)⟩
theorem fl_X11_53 : ev_fl RX11 53 11 6 := ⟨_, rfl, by decide, Or.inl (dp_m 259 (by decide +kernel) rfl)⟩
theorem fl_X11_60 : ev_fl RX11 60 11 7 := ⟨_, rfl, by decide, Or.inl (dp_m 260 (by decide +kernel) rfl)⟩
theorem fl_X11_67 : ev_fl RX11 67 11 8 := ⟨_, rfl, by decide, Or.inl (dp_m 261 (by decide +kernel) rfl)⟩
theorem fl_X11_73 : ev_fl RX11 73 11 9 := ⟨_, rfl, by decide, Or.inl (dp_m 262 (by decide +kernel) rfl)⟩
theorem fl_X11_79 : ev_fl RX11 79 11 10 := ⟨_, rfl, by decide, Or.inl (dp_m 263 (by decide +kernel) rfl)⟩
theorem fl_X11_108 : ev_fl RX11 108 11 11 := ⟨_, rfl, by decide, Or.inl (dp_m 264 (by decide +kernel) rfl)⟩
theorem fl_X11_118 : ev_fl RX11 118 11 12 := ⟨_, rfl, by decide, Or.inl (dp_m 265 (by decide +kernel) rfl)⟩
theorem fl_X11_211 : ev_fl RX11 211 11 13 := ⟨_, rfl, by decide, Or.inl (dp_m 266 (by decide +kernel) rfl)⟩
theorem fl_X11_82 : ev_fl RX11 82 11 14 := ⟨_, rfl, by decide, Or.inl (dp_m 267 (by decide +kernel) rfl)⟩
theorem fl_X11_86 : ev_fl RX11 86 11 15 := ⟨_, rfl, by decide, Or.inl (dp_m 268 (by decide +kernel) rfl)⟩
theorem fs_X10_15 : Cond.fieldLink RX10 15 RX10 "SO" "[J" ∈ dp_tb := (dp_m 434 (by decide +kernel) rfl)
theorem fl_X12_57 : ev_fl RX12 57 12 0 := ⟨_, rfl, by decide, Or.inl (dp_m 834 (by decide +kernel) rfl)⟩
theorem fl_X12_183 : ev_fl RX12 183 12 1 := ⟨_, rfl, by decide, Or.inl (dp_m 835 (by decide +kernel) rfl)⟩
theorem fl_X12_7 : ev_fl RX12 7 12 2 := ⟨_, rfl, by decide, Or.inl (dp_m 836 (by decide +kernel) rfl)⟩
theorem fl_X12_64 : ev_fl RX12 64 12 3 := ⟨_, rfl, by decide, Or.inl (dp_m 837 (by decide +kernel) rfl)⟩
theorem fl_X12_82 : ev_fl RX12 82 12 4 := ⟨_, rfl, by decide, Or.inl (dp_m 838 (by decide +kernel) rfl)⟩
theorem fl_X12_76 : ev_fl RX12 76 12 5 := ⟨_, rfl, by decide, Or.inl (dp_m 839 (by decide +kernel) rfl)⟩
theorem fl_X12_69 : ev_fl RX12 69 12 6 := ⟨_, rfl, by decide, Or.inl (dp_m 840 (by decide +kernel) rfl)⟩
theorem fl_X12_79 : ev_fl RX12 79 12 7 := ⟨_, rfl, by decide, Or.inl (dp_m 841 (by decide +kernel) rfl)⟩
theorem fl_X12_89 : ev_fl RX12 89 12 8 := ⟨_, rfl, by decide, Or.inl (dp_m 842 (by decide +kernel) rfl)⟩
theorem fl_X12_112 : ev_fl RX12 112 12 9 := ⟨_, rfl, by decide, Or.inl (dp_m 843 (by decide +kernel) rfl)⟩
theorem fl_X12_115 : ev_fl RX12 115 12 10 := ⟨_, rfl, by decide, Or.inl (dp_m 844 (by decide +kernel) rfl)⟩
theorem fl_X12_118 : ev_fl RX12 118 12 11 := ⟨_, rfl, by decide, Or.inl (dp_m 845 (by decide +kernel) rfl)⟩
theorem fl_X12_13 : ev_fl RX12 13 12 12 := ⟨_, rfl, by decide, Or.inl (dp_m 846 (by decide +kernel) rfl)⟩
theorem fl_X12_17 : ev_fl RX12 17 12 13 := ⟨_, rfl, by decide, Or.inl (dp_m 847 (by decide +kernel) rfl)⟩
theorem fl_X12_20 : ev_fl RX12 20 12 14 := ⟨_, rfl, by decide, Or.inl (dp_m 848 (by decide +kernel) rfl)⟩
theorem fl_X12_23 : ev_fl RX12 23 12 15 := ⟨_, rfl, by decide, Or.inl (dp_m 849 (by decide +kernel) rfl)⟩
theorem fl_X12_26 : ev_fl RX12 26 12 16 := ⟨_, rfl, by decide, Or.inl (dp_m 850 (by decide +kernel) rfl)⟩
theorem fl_X12_30 : ev_fl RX12 30 12 17 := ⟨_, rfl, by decide, Or.inl (dp_m 851 (by decide +kernel) rfl)⟩
theorem fl_X12_33 : ev_fl RX12 33 12 18 := ⟨_, rfl, by decide, Or.inl (dp_m 852 (by decide +kernel) rfl)⟩
theorem fl_X12_36 : ev_fl RX12 36 12 19 := ⟨_, rfl, by decide, Or.inl (dp_m 853 (by decide +kernel) rfl)⟩
theorem fl_X12_39 : ev_fl RX12 39 12 20 := ⟨_, rfl, by decide, Or.inl (dp_m 854 (by decide +kernel) rfl)⟩
theorem fl_X12_42 : ev_fl RX12 42 12 21 := ⟨_, rfl, by decide, Or.inl (dp_m 855 (by decide +kernel) rfl)⟩
theorem fl_X12_45 : ev_fl RX12 45 12 22 := ⟨_, rfl, by decide, Or.inl (dp_m 856 (by decide +kernel) rfl)⟩
theorem fl_X12_48 : ev_fl RX12 48 12 23 := ⟨_, rfl, by decide, Or.inl (dp_m 857 (by decide +kernel) rfl)⟩
theorem fl_X12_51 : ev_fl RX12 51 12 24 := ⟨_, rfl, by decide, Or.inl (dp_m 858 (by decide +kernel) rfl)⟩
theorem lc_X8_54 : Cond.constant RX8 54 (7302757) ∈ dp_tb := (dp_m 353 (by decide +kernel) rfl)
theorem lc_X8_55 : Cond.constant RX8 55 (7632751) ∈ dp_tb := (dp_m 354 (by decide +kernel) rfl)
theorem lc_X8_56 : Cond.constant RX8 56 (6518132) ∈ dp_tb := (dp_m 355 (by decide +kernel) rfl)
theorem lc_J6_265 : Cond.constant RJ6 265 (1431655765) ∈ dp_tb := (dp_m 495 (by decide +kernel) rfl)
theorem lc_J6_266 : Cond.constant RJ6 266 (858993459) ∈ dp_tb := (dp_m 496 (by decide +kernel) rfl)
theorem lc_J6_267 : Cond.constant RJ6 267 (252645135) ∈ dp_tb := (dp_m 497 (by decide +kernel) rfl)
theorem lc_X10_18 : Cond.constantLong RX10 18 (-1) ∈ dp_tb := (dp_m 120 (by decide +kernel) rfl)
theorem lc_J13_314 : Cond.constantLong RJ13 314 (6148914691236517205) ∈ dp_tb := (dp_m 609 (by decide +kernel) rfl)
theorem lc_J13_316 : Cond.constantLong RJ13 316 (3689348814741910323) ∈ dp_tb := (dp_m 610 (by decide +kernel) rfl)
theorem lc_J13_318 : Cond.constantLong RJ13 318 (1085102592571150095) ∈ dp_tb := (dp_m 611 (by decide +kernel) rfl)
theorem lc_X12_137 : Cond.constantLong RX12 137 (-1) ∈ dp_tb := (dp_m 827 (by decide +kernel) rfl)
theorem lc_X12_67 : Cond.constantLong RX12 67 (255) ∈ dp_tb := (dp_m 917 (by decide +kernel) rfl)
theorem lc_X12_187 : Cond.constantLong RX12 187 (11) ∈ dp_tb := (dp_m 1089 (by decide +kernel) rfl)
theorem lc_X12_189 : Cond.constantLong RX12 189 (101) ∈ dp_tb := (dp_m 1090 (by decide +kernel) rfl)
theorem lc_X12_191 : Cond.constantLong RX12 191 (1011) ∈ dp_tb := (dp_m 1091 (by decide +kernel) rfl)
theorem lc_L_13 : Cond.constantLong R_law 13 (4294967295) ∈ dp_tb := (dp_m 1100 (by decide +kernel) rfl)
theorem mm_st : Cond.static Lib.Math.min.name ∈ dp_tb := dp_m 364 (by decide +kernel) rfl
theorem mm_in : Cond.initialized "java/lang/Math" ∈ dp_tb := dp_m 14 (by decide +kernel) rfl
theorem mm_co : Cond.code Lib.Math.min.name Lib.Math.min.code 2 (some .int) ∈ dp_tb := dp_m 365 (by decide +kernel) rfl
theorem mm_X8_57 : Cond.methodLink RX8 57 Lib.Math.min.name ∈ dp_tb := dp_m 363 (by decide +kernel) rfl
theorem mm_X11_229 : Cond.methodLink RX11 229 Lib.Math.min.name ∈ dp_tb := dp_m 398 (by decide +kernel) rfl
theorem mm_X0_21 : Cond.methodLink RX0 21 Lib.Math.min.name ∈ dp_tb := dp_m 469 (by decide +kernel) rfl
end
section
theorem ci_X11_init : M_X11_init.1.name = "<init>" ∧ M_X11_init.2.2.2 = none ∧ Cond.instanceMethod M_X11_init.1 ∈ dp_tb ∧ (parseMethodDescriptor M_X11_init.1.desc).map (fun d => d.parameters.length) = some 0 := ⟨rfl, rfl, (dp_m 20 (by decide +kernel) rfl), by decide +kernel⟩
theorem ci_X8_init : M_X8_init.1.name = "<init>" ∧ M_X8_init.2.2.2 = none ∧ Cond.instanceMethod M_X8_init.1 ∈ dp_tb ∧ (parseMethodDescriptor M_X8_init.1.desc).map (fun d => d.parameters.length) = some 0 := ⟨rfl, rfl, (dp_m 28 (by decide +kernel) rfl), by decide +kernel⟩
theorem ci_X4_init : M_X4_init.1.name = "<init>" ∧ M_X4_init.2.2.2 = none ∧ Cond.instanceMethod M_X4_init.1 ∈ dp_tb ∧ (parseMethodDescriptor M_X4_init.1.desc).map (fun d => d.parameters.length) = some 0 := ⟨rfl, rfl, (dp_m 54 (by decide +kernel) rfl), by decide +kernel⟩
theorem ci_X7_init : M_X7_init.1.name = "<init>" ∧ M_X7_init.2.2.2 = none ∧ Cond.instanceMethod M_X7_init.1 ∈ dp_tb ∧ (parseMethodDescriptor M_X7_init.1.desc).map (fun d => d.parameters.length) = some 0 := ⟨rfl, rfl, (dp_m 94 (by decide +kernel) rfl), by decide +kernel⟩
theorem ci_X10_init : M_X10_init.1.name = "<init>" ∧ M_X10_init.2.2.2 = none ∧ Cond.instanceMethod M_X10_init.1 ∈ dp_tb ∧ (parseMethodDescriptor M_X10_init.1.desc).map (fun d => d.parameters.length) = some 0 := ⟨rfl, rfl, (dp_m 100 (by decide +kernel) rfl), by decide +kernel⟩
theorem cv_X10_fill : (parseMethodDescriptor M_X10_fill.1.desc).map (fun d => d.parameters.length) = some 0 ∧ Cond.instanceMethod M_X10_fill.1 ∈ dp_tb := ⟨by decide +kernel, (dp_m 109 (by decide +kernel) rfl)⟩
theorem cv_X10_wipe : (parseMethodDescriptor M_X10_wipe.1.desc).map (fun d => d.parameters.length) = some 0 ∧ Cond.instanceMethod M_X10_wipe.1 ∈ dp_tb := ⟨by decide +kernel, (dp_m 113 (by decide +kernel) rfl)⟩
theorem cv_X10_turn : (parseMethodDescriptor M_X10_turn.1.desc).map (fun d => d.parameters.length) = some 0 ∧ Cond.instanceMethod M_X10_turn.1 ∈ dp_tb := ⟨by decide +kernel, (dp_m 117 (by decide +kernel) rfl)⟩
theorem ci_X0_init : M_X0_init.1.name = "<init>" ∧ M_X0_init.2.2.2 = none ∧ Cond.instanceMethod M_X0_init.1 ∈ dp_tb ∧ (parseMethodDescriptor M_X0_init.1.desc).map (fun d => d.parameters.length) = some 0 := ⟨rfl, rfl, (dp_m 156 (by decide +kernel) rfl), by decide +kernel⟩
theorem ci_X9_init : M_X9_init.1.name = "<init>" ∧ M_X9_init.2.2.2 = none ∧ Cond.instanceMethod M_X9_init.1 ∈ dp_tb ∧ (parseMethodDescriptor M_X9_init.1.desc).map (fun d => d.parameters.length) = some 0 := ⟨rfl, rfl, (dp_m 186 (by decide +kernel) rfl), by decide +kernel⟩
theorem ci_X6_init : M_X6_init.1.name = "<init>" ∧ M_X6_init.2.2.2 = none ∧ Cond.instanceMethod M_X6_init.1 ∈ dp_tb ∧ (parseMethodDescriptor M_X6_init.1.desc).map (fun d => d.parameters.length) = some 0 := ⟨rfl, rfl, (dp_m 196 (by decide +kernel) rfl), by decide +kernel⟩
theorem ci_X2_init : M_X2_init.1.name = "<init>" ∧ M_X2_init.2.2.2 = none ∧ Cond.instanceMethod M_X2_init.1 ∈ dp_tb ∧ (parseMethodDescriptor M_X2_init.1.desc).map (fun d => d.parameters.length) = some 0 := ⟨rfl, rfl, (dp_m 203 (by decide +kernel) rfl), by decide +kernel⟩
theorem ci_X5_init : M_X5_init.1.name = "<init>" ∧ M_X5_init.2.2.2 = none ∧ Cond.instanceMethod M_X5_init.1 ∈ dp_tb ∧ (parseMethodDescriptor M_X5_init.1.desc).map (fun d => d.parameters.length) = some 0 := ⟨rfl, rfl, (dp_m 210 (by decide +kernel) rfl), by decide +kernel⟩
theorem ci_X1_init : M_X1_init.1.name = "<init>" ∧ M_X1_init.2.2.2 = none ∧ Cond.instanceMethod M_X1_init.1 ∈ dp_tb ∧ (parseMethodDescriptor M_X1_init.1.desc).map (fun d => d.parameters.length) = some 0 := ⟨rfl, rfl, (dp_m 217 (by decide +kernel) rfl), by decide +kernel⟩
theorem ci_X3_init : M_X3_init.1.name = "<init>" ∧ M_X3_init.2.2.2 = none ∧ Cond.instanceMethod M_X3_init.1 ∈ dp_tb ∧ (parseMethodDescriptor M_X3_init.1.desc).map (fun d => d.parameters.length) = some 0 := ⟨rfl, rfl, (dp_m 223 (by decide +kernel) rfl), by decide +kernel⟩
theorem cv_X11_type : (parseMethodDescriptor M_X11_type.1.desc).map (fun d => d.parameters.length) = some 2 ∧ Cond.instanceMethod M_X11_type.1 ∈ dp_tb := ⟨by decide +kernel, (dp_m 303 (by decide +kernel) rfl)⟩
theorem cv_X8_append : (parseMethodDescriptor M_X8_append.1.desc).map (fun d => d.parameters.length) = some 2 ∧ Cond.instanceMethod M_X8_append.1 ∈ dp_tb := ⟨by decide +kernel, (dp_m 307 (by decide +kernel) rfl)⟩
theorem cv_X8_size : (parseMethodDescriptor M_X8_size.1.desc).map (fun d => d.parameters.length) = some 0 ∧ Cond.instanceMethod M_X8_size.1 ∈ dp_tb := ⟨by decide +kernel, (dp_m 311 (by decide +kernel) rfl)⟩
theorem cv_X11_clear : (parseMethodDescriptor M_X11_clear.1.desc).map (fun d => d.parameters.length) = some 0 ∧ Cond.instanceMethod M_X11_clear.1 ∈ dp_tb := ⟨by decide +kernel, (dp_m 315 (by decide +kernel) rfl)⟩
theorem cv_X8_wipe : (parseMethodDescriptor M_X8_wipe.1.desc).map (fun d => d.parameters.length) = some 0 ∧ Cond.instanceMethod M_X8_wipe.1 ∈ dp_tb := ⟨by decide +kernel, (dp_m 319 (by decide +kernel) rfl)⟩
theorem cv_X11_clauses : (parseMethodDescriptor M_X11_clauses.1.desc).map (fun d => d.parameters.length) = some 0 ∧ Cond.instanceMethod M_X11_clauses.1 ∈ dp_tb := ⟨by decide +kernel, (dp_m 323 (by decide +kernel) rfl)⟩
theorem cv_X4_readClauses : (parseMethodDescriptor M_X4_readClauses.1.desc).map (fun d => d.parameters.length) = some 1 ∧ Cond.instanceMethod M_X4_readClauses.1 ∈ dp_tb := ⟨by decide +kernel, (dp_m 327 (by decide +kernel) rfl)⟩
theorem cv_X8_readFirst : (parseMethodDescriptor M_X8_readFirst.1.desc).map (fun d => d.parameters.length) = some 0 ∧ Cond.instanceMethod M_X8_readFirst.1 ∈ dp_tb := ⟨by decide +kernel, (dp_m 331 (by decide +kernel) rfl)⟩
theorem cv_X8_readNext : (parseMethodDescriptor M_X8_readNext.1.desc).map (fun d => d.parameters.length) = some 0 ∧ Cond.instanceMethod M_X8_readNext.1 ∈ dp_tb := ⟨by decide +kernel, (dp_m 335 (by decide +kernel) rfl)⟩
theorem cv_X8_skipBlanks : (parseMethodDescriptor M_X8_skipBlanks.1.desc).map (fun d => d.parameters.length) = some 0 ∧ Cond.instanceMethod M_X8_skipBlanks.1 ∈ dp_tb := ⟨by decide +kernel, (dp_m 340 (by decide +kernel) rfl)⟩
theorem cv_X8_byteAt : (parseMethodDescriptor M_X8_byteAt.1.desc).map (fun d => d.parameters.length) = some 1 ∧ Cond.instanceMethod M_X8_byteAt.1 ∈ dp_tb := ⟨by decide +kernel, (dp_m 344 (by decide +kernel) rfl)⟩
theorem cs_X8_isWordSign : Cond.static M_X8_isWordSign.1 ∈ dp_tb ∧ (parseMethodDescriptor M_X8_isWordSign.1.desc).map (fun d => d.parameters.length) = some 1 := ⟨(dp_m 347 (by decide +kernel) rfl), by decide +kernel⟩
theorem cv_X8_readWord : (parseMethodDescriptor M_X8_readWord.1.desc).map (fun d => d.parameters.length) = some 0 ∧ Cond.instanceMethod M_X8_readWord.1 ∈ dp_tb := ⟨by decide +kernel, (dp_m 351 (by decide +kernel) rfl)⟩
theorem cs_X8_isDigit : Cond.static M_X8_isDigit.1 ∈ dp_tb ∧ (parseMethodDescriptor M_X8_isDigit.1.desc).map (fun d => d.parameters.length) = some 1 := ⟨(dp_m 357 (by decide +kernel) rfl), by decide +kernel⟩
theorem cv_X8_readNumber : (parseMethodDescriptor M_X8_readNumber.1.desc).map (fun d => d.parameters.length) = some 0 ∧ Cond.instanceMethod M_X8_readNumber.1 ∈ dp_tb := ⟨by decide +kernel, (dp_m 361 (by decide +kernel) rfl)⟩
theorem cv_X8_kind : (parseMethodDescriptor M_X8_kind.1.desc).map (fun d => d.parameters.length) = some 0 ∧ Cond.instanceMethod M_X8_kind.1 ∈ dp_tb := ⟨by decide +kernel, (dp_m 367 (by decide +kernel) rfl)⟩
theorem cv_X4_readClause : (parseMethodDescriptor M_X4_readClause.1.desc).map (fun d => d.parameters.length) = some 2 ∧ Cond.instanceMethod M_X4_readClause.1 ∈ dp_tb := ⟨by decide +kernel, (dp_m 372 (by decide +kernel) rfl)⟩
theorem cv_X8_value : (parseMethodDescriptor M_X8_value.1.desc).map (fun d => d.parameters.length) = some 0 ∧ Cond.instanceMethod M_X8_value.1 ∈ dp_tb := ⟨by decide +kernel, (dp_m 375 (by decide +kernel) rfl)⟩
theorem cv_X4_readLiteral : (parseMethodDescriptor M_X4_readLiteral.1.desc).map (fun d => d.parameters.length) = some 1 ∧ Cond.instanceMethod M_X4_readLiteral.1 ∈ dp_tb := ⟨by decide +kernel, (dp_m 381 (by decide +kernel) rfl)⟩
theorem cs_X4_passed : Cond.static M_X4_passed.1 ∈ dp_tb ∧ (parseMethodDescriptor M_X4_passed.1.desc).map (fun d => d.parameters.length) = some 2 := ⟨(dp_m 384 (by decide +kernel) rfl), by decide +kernel⟩
theorem cv_X8_start : (parseMethodDescriptor M_X8_start.1.desc).map (fun d => d.parameters.length) = some 0 ∧ Cond.instanceMethod M_X8_start.1 ∈ dp_tb := ⟨by decide +kernel, (dp_m 387 (by decide +kernel) rfl)⟩
theorem cv_X11_takeClauses : (parseMethodDescriptor M_X11_takeClauses.1.desc).map (fun d => d.parameters.length) = some 0 ∧ Cond.instanceMethod M_X11_takeClauses.1 ∈ dp_tb := ⟨by decide +kernel, (dp_m 392 (by decide +kernel) rfl)⟩
theorem cv_X4_clausesRead : (parseMethodDescriptor M_X4_clausesRead.1.desc).map (fun d => d.parameters.length) = some 0 ∧ Cond.instanceMethod M_X4_clausesRead.1 ∈ dp_tb := ⟨by decide +kernel, (dp_m 395 (by decide +kernel) rfl)⟩
theorem cv_X4_sideOf : (parseMethodDescriptor M_X4_sideOf.1.desc).map (fun d => d.parameters.length) = some 1 ∧ Cond.instanceMethod M_X4_sideOf.1 ∈ dp_tb := ⟨by decide +kernel, (dp_m 400 (by decide +kernel) rfl)⟩
theorem cs_X4_at : Cond.static M_X4_at.1 ∈ dp_tb ∧ (parseMethodDescriptor M_X4_at.1.desc).map (fun d => d.parameters.length) = some 2 := ⟨(dp_m 404 (by decide +kernel) rfl), by decide +kernel⟩
theorem cv_X4_plainOf : (parseMethodDescriptor M_X4_plainOf.1.desc).map (fun d => d.parameters.length) = some 1 ∧ Cond.instanceMethod M_X4_plainOf.1 ∈ dp_tb := ⟨by decide +kernel, (dp_m 407 (by decide +kernel) rfl)⟩
theorem cv_X4_turnedOf : (parseMethodDescriptor M_X4_turnedOf.1.desc).map (fun d => d.parameters.length) = some 1 ∧ Cond.instanceMethod M_X4_turnedOf.1 ∈ dp_tb := ⟨by decide +kernel, (dp_m 411 (by decide +kernel) rfl)⟩
theorem cv_X3_becomeClause : (parseMethodDescriptor M_X3_becomeClause.1.desc).map (fun d => d.parameters.length) = some 3 ∧ Cond.instanceMethod M_X3_becomeClause.1 ∈ dp_tb := ⟨by decide +kernel, (dp_m 415 (by decide +kernel) rfl)⟩
theorem cv_X7_learn : (parseMethodDescriptor M_X7_learn.1.desc).map (fun d => d.parameters.length) = some 2 ∧ Cond.instanceMethod M_X7_learn.1 ∈ dp_tb := ⟨by decide +kernel, (dp_m 419 (by decide +kernel) rfl)⟩
theorem cv_X3_gatherWorlds : (parseMethodDescriptor M_X3_gatherWorlds.1.desc).map (fun d => d.parameters.length) = some 2 ∧ Cond.instanceMethod M_X3_gatherWorlds.1 ∈ dp_tb := ⟨by decide +kernel, (dp_m 423 (by decide +kernel) rfl)⟩
theorem cv_X10_joinWhere : (parseMethodDescriptor M_X10_joinWhere.1.desc).map (fun d => d.parameters.length) = some 2 ∧ Cond.instanceMethod M_X10_joinWhere.1 ∈ dp_tb := ⟨by decide +kernel, (dp_m 428 (by decide +kernel) rfl)⟩
theorem cs_X10_partWhereSo : Cond.static M_X10_partWhereSo.1 ∈ dp_tb ∧ (parseMethodDescriptor M_X10_partWhereSo.1.desc).map (fun d => d.parameters.length) = some 2 := ⟨(dp_m 432 (by decide +kernel) rfl), by decide +kernel⟩
theorem cv_X10_meet : (parseMethodDescriptor M_X10_meet.1.desc).map (fun d => d.parameters.length) = some 1 ∧ Cond.instanceMethod M_X10_meet.1 ∈ dp_tb := ⟨by decide +kernel, (dp_m 437 (by decide +kernel) rfl)⟩
theorem cv_X3_letters : (parseMethodDescriptor M_X3_letters.1.desc).map (fun d => d.parameters.length) = some 0 ∧ Cond.instanceMethod M_X3_letters.1 ∈ dp_tb := ⟨by decide +kernel, (dp_m 441 (by decide +kernel) rfl)⟩
theorem cv_X10_become : (parseMethodDescriptor M_X10_become.1.desc).map (fun d => d.parameters.length) = some 1 ∧ Cond.instanceMethod M_X10_become.1 ∈ dp_tb := ⟨by decide +kernel, (dp_m 445 (by decide +kernel) rfl)⟩
theorem cv_X7_sharedLetters : (parseMethodDescriptor M_X7_sharedLetters.1.desc).map (fun d => d.parameters.length) = some 0 ∧ Cond.instanceMethod M_X7_sharedLetters.1 ∈ dp_tb := ⟨by decide +kernel, (dp_m 449 (by decide +kernel) rfl)⟩
theorem cv_X10_spreadBut : (parseMethodDescriptor M_X10_spreadBut.1.desc).map (fun d => d.parameters.length) = some 1 ∧ Cond.instanceMethod M_X10_spreadBut.1 ∈ dp_tb := ⟨by decide +kernel, (dp_m 453 (by decide +kernel) rfl)⟩
theorem cv_X10_spread : (parseMethodDescriptor M_X10_spread.1.desc).map (fun d => d.parameters.length) = some 1 ∧ Cond.instanceMethod M_X10_spread.1 ∈ dp_tb := ⟨by decide +kernel, (dp_m 457 (by decide +kernel) rfl)⟩
theorem cv_X10_partTurned : (parseMethodDescriptor M_X10_partTurned.1.desc).map (fun d => d.parameters.length) = some 2 ∧ Cond.instanceMethod M_X10_partTurned.1 ∈ dp_tb := ⟨by decide +kernel, (dp_m 462 (by decide +kernel) rfl)⟩
theorem cv_X0_learn : (parseMethodDescriptor M_X0_learn.1.desc).map (fun d => d.parameters.length) = some 2 ∧ Cond.instanceMethod M_X0_learn.1 ∈ dp_tb := ⟨by decide +kernel, (dp_m 466 (by decide +kernel) rfl)⟩
theorem cv_X3_sayAsClause : (parseMethodDescriptor M_X3_sayAsClause.1.desc).map (fun d => d.parameters.length) = some 1 ∧ Cond.instanceMethod M_X3_sayAsClause.1 ∈ dp_tb := ⟨by decide +kernel, (dp_m 473 (by decide +kernel) rfl)⟩
theorem cv_X11_forgetProof : (parseMethodDescriptor M_X11_forgetProof.1.desc).map (fun d => d.parameters.length) = some 0 ∧ Cond.instanceMethod M_X11_forgetProof.1 ∈ dp_tb := ⟨by decide +kernel, (dp_m 482 (by decide +kernel) rfl)⟩
theorem cv_X11_firstEmptyLine : (parseMethodDescriptor M_X11_firstEmptyLine.1.desc).map (fun d => d.parameters.length) = some 0 ∧ Cond.instanceMethod M_X11_firstEmptyLine.1 ∈ dp_tb := ⟨by decide +kernel, (dp_m 486 (by decide +kernel) rfl)⟩
theorem cv_X3_literals : (parseMethodDescriptor M_X3_literals.1.desc).map (fun d => d.parameters.length) = some 0 ∧ Cond.instanceMethod M_X3_literals.1 ∈ dp_tb := ⟨by decide +kernel, (dp_m 489 (by decide +kernel) rfl)⟩
theorem cs_J6_bitCount_0f7a4 : Cond.static M_J6_bitCount_0f7a4.1 ∈ dp_tb ∧ (parseMethodDescriptor M_J6_bitCount_0f7a4.1.desc).map (fun d => d.parameters.length) = some 1 := ⟨(dp_m 493 (by decide +kernel) rfl), by decide +kernel⟩
theorem cv_X11_proof : (parseMethodDescriptor M_X11_proof.1.desc).map (fun d => d.parameters.length) = some 0 ∧ Cond.instanceMethod M_X11_proof.1 ∈ dp_tb := ⟨by decide +kernel, (dp_m 499 (by decide +kernel) rfl)⟩
theorem cv_X4_readSteps : (parseMethodDescriptor M_X4_readSteps.1.desc).map (fun d => d.parameters.length) = some 2 ∧ Cond.instanceMethod M_X4_readSteps.1 ∈ dp_tb := ⟨by decide +kernel, (dp_m 503 (by decide +kernel) rfl)⟩
theorem cv_X4_readStep : (parseMethodDescriptor M_X4_readStep.1.desc).map (fun d => d.parameters.length) = some 3 ∧ Cond.instanceMethod M_X4_readStep.1 ∈ dp_tb := ⟨by decide +kernel, (dp_m 508 (by decide +kernel) rfl)⟩
theorem cv_X11_takeSteps : (parseMethodDescriptor M_X11_takeSteps.1.desc).map (fun d => d.parameters.length) = some 0 ∧ Cond.instanceMethod M_X11_takeSteps.1 ∈ dp_tb := ⟨by decide +kernel, (dp_m 512 (by decide +kernel) rfl)⟩
theorem cv_X4_stepsRead : (parseMethodDescriptor M_X4_stepsRead.1.desc).map (fun d => d.parameters.length) = some 0 ∧ Cond.instanceMethod M_X4_stepsRead.1 ∈ dp_tb := ⟨by decide +kernel, (dp_m 515 (by decide +kernel) rfl)⟩
theorem cv_X11_makeLine : (parseMethodDescriptor M_X11_makeLine.1.desc).map (fun d => d.parameters.length) = some 1 ∧ Cond.instanceMethod M_X11_makeLine.1 ∈ dp_tb := ⟨by decide +kernel, (dp_m 520 (by decide +kernel) rfl)⟩
theorem cv_X4_firstOf : (parseMethodDescriptor M_X4_firstOf.1.desc).map (fun d => d.parameters.length) = some 1 ∧ Cond.instanceMethod M_X4_firstOf.1 ∈ dp_tb := ⟨by decide +kernel, (dp_m 523 (by decide +kernel) rfl)⟩
theorem cv_X4_secondOf : (parseMethodDescriptor M_X4_secondOf.1.desc).map (fun d => d.parameters.length) = some 1 ∧ Cond.instanceMethod M_X4_secondOf.1 ∈ dp_tb := ⟨by decide +kernel, (dp_m 527 (by decide +kernel) rfl)⟩
theorem cv_X4_letterOf : (parseMethodDescriptor M_X4_letterOf.1.desc).map (fun d => d.parameters.length) = some 1 ∧ Cond.instanceMethod M_X4_letterOf.1 ∈ dp_tb := ⟨by decide +kernel, (dp_m 531 (by decide +kernel) rfl)⟩
theorem cv_X11_lineAt : (parseMethodDescriptor M_X11_lineAt.1.desc).map (fun d => d.parameters.length) = some 1 ∧ Cond.instanceMethod M_X11_lineAt.1 ∈ dp_tb := ⟨by decide +kernel, (dp_m 536 (by decide +kernel) rfl)⟩
theorem cv_X3_becomeCut : (parseMethodDescriptor M_X3_becomeCut.1.desc).map (fun d => d.parameters.length) = some 3 ∧ Cond.instanceMethod M_X3_becomeCut.1 ∈ dp_tb := ⟨by decide +kernel, (dp_m 539 (by decide +kernel) rfl)⟩
theorem cv_X3_rememberCut : (parseMethodDescriptor M_X3_rememberCut.1.desc).map (fun d => d.parameters.length) = some 3 ∧ Cond.instanceMethod M_X3_rememberCut.1 ∈ dp_tb := ⟨by decide +kernel, (dp_m 543 (by decide +kernel) rfl)⟩
theorem cv_X7_ownerOf : (parseMethodDescriptor M_X7_ownerOf.1.desc).map (fun d => d.parameters.length) = some 1 ∧ Cond.instanceMethod M_X7_ownerOf.1 ∈ dp_tb := ⟨by decide +kernel, (dp_m 547 (by decide +kernel) rfl)⟩
theorem cv_X3_sayAsCut : (parseMethodDescriptor M_X3_sayAsCut.1.desc).map (fun d => d.parameters.length) = some 3 ∧ Cond.instanceMethod M_X3_sayAsCut.1 ∈ dp_tb := ⟨by decide +kernel, (dp_m 551 (by decide +kernel) rfl)⟩
theorem cv_X10_choose : (parseMethodDescriptor M_X10_choose.1.desc).map (fun d => d.parameters.length) = some 3 ∧ Cond.instanceMethod M_X10_choose.1 ∈ dp_tb := ⟨by decide +kernel, (dp_m 555 (by decide +kernel) rfl)⟩
theorem cs_X3_joins : Cond.static M_X3_joins.1 ∈ dp_tb ∧ (parseMethodDescriptor M_X3_joins.1.desc).map (fun d => d.parameters.length) = some 2 := ⟨(dp_m 560 (by decide +kernel) rfl), by decide +kernel⟩
theorem cv_X10_join : (parseMethodDescriptor M_X10_join.1.desc).map (fun d => d.parameters.length) = some 1 ∧ Cond.instanceMethod M_X10_join.1 ∈ dp_tb := ⟨by decide +kernel, (dp_m 563 (by decide +kernel) rfl)⟩
theorem cv_X11_wrong : (parseMethodDescriptor M_X11_wrong.1.desc).map (fun d => d.parameters.length) = some 0 ∧ Cond.instanceMethod M_X11_wrong.1 ∈ dp_tb := ⟨by decide +kernel, (dp_m 568 (by decide +kernel) rfl)⟩
theorem cv_X11_end : (parseMethodDescriptor M_X11_end.1.desc).map (fun d => d.parameters.length) = some 0 ∧ Cond.instanceMethod M_X11_end.1 ∈ dp_tb := ⟨by decide +kernel, (dp_m 572 (by decide +kernel) rfl)⟩
theorem cv_X11_line : (parseMethodDescriptor M_X11_line.1.desc).map (fun d => d.parameters.length) = some 2 ∧ Cond.instanceMethod M_X11_line.1 ∈ dp_tb := ⟨by decide +kernel, (dp_m 576 (by decide +kernel) rfl)⟩
theorem cv_X3_property : (parseMethodDescriptor M_X3_property.1.desc).map (fun d => d.parameters.length) = some 1 ∧ Cond.instanceMethod M_X3_property.1 ∈ dp_tb := ⟨by decide +kernel, (dp_m 580 (by decide +kernel) rfl)⟩
theorem cv_X11_side : (parseMethodDescriptor M_X11_side.1.desc).map (fun d => d.parameters.length) = some 1 ∧ Cond.instanceMethod M_X11_side.1 ∈ dp_tb := ⟨by decide +kernel, (dp_m 584 (by decide +kernel) rfl)⟩
theorem cv_X11_holds : (parseMethodDescriptor M_X11_holds.1.desc).map (fun d => d.parameters.length) = some 2 ∧ Cond.instanceMethod M_X11_holds.1 ∈ dp_tb := ⟨by decide +kernel, (dp_m 588 (by decide +kernel) rfl)⟩
theorem cs_X11_isWorld : Cond.static M_X11_isWorld.1 ∈ dp_tb ∧ (parseMethodDescriptor M_X11_isWorld.1.desc).map (fun d => d.parameters.length) = some 1 := ⟨(dp_m 592 (by decide +kernel) rfl), by decide +kernel⟩
theorem cv_X3_isSoIn : (parseMethodDescriptor M_X3_isSoIn.1.desc).map (fun d => d.parameters.length) = some 1 ∧ Cond.instanceMethod M_X3_isSoIn.1 ∈ dp_tb := ⟨by decide +kernel, (dp_m 595 (by decide +kernel) rfl)⟩
theorem cv_X11_worlds : (parseMethodDescriptor M_X11_worlds.1.desc).map (fun d => d.parameters.length) = some 1 ∧ Cond.instanceMethod M_X11_worlds.1 ∈ dp_tb := ⟨by decide +kernel, (dp_m 599 (by decide +kernel) rfl)⟩
theorem cv_X10_size : (parseMethodDescriptor M_X10_size.1.desc).map (fun d => d.parameters.length) = some 0 ∧ Cond.instanceMethod M_X10_size.1 ∈ dp_tb := ⟨by decide +kernel, (dp_m 603 (by decide +kernel) rfl)⟩
theorem cs_J13_bitCount_95d88 : Cond.static M_J13_bitCount_95d88.1 ∈ dp_tb ∧ (parseMethodDescriptor M_J13_bitCount_95d88.1.desc).map (fun d => d.parameters.length) = some 1 := ⟨(dp_m 607 (by decide +kernel) rfl), by decide +kernel⟩
theorem cv_X10_sizeWith : (parseMethodDescriptor M_X10_sizeWith.1.desc).map (fun d => d.parameters.length) = some 1 ∧ Cond.instanceMethod M_X10_sizeWith.1 ∈ dp_tb := ⟨by decide +kernel, (dp_m 613 (by decide +kernel) rfl)⟩
theorem cv_X11_says : (parseMethodDescriptor M_X11_says.1.desc).map (fun d => d.parameters.length) = some 3 ∧ Cond.instanceMethod M_X11_says.1 ∈ dp_tb := ⟨by decide +kernel, (dp_m 617 (by decide +kernel) rfl)⟩
theorem cs_X11_isWay : Cond.static M_X11_isWay.1 ∈ dp_tb ∧ (parseMethodDescriptor M_X11_isWay.1.desc).map (fun d => d.parameters.length) = some 1 := ⟨(dp_m 621 (by decide +kernel) rfl), by decide +kernel⟩
theorem cv_X3_sayingBy : (parseMethodDescriptor M_X3_sayingBy.1.desc).map (fun d => d.parameters.length) = some 1 ∧ Cond.instanceMethod M_X3_sayingBy.1 ∈ dp_tb := ⟨by decide +kernel, (dp_m 624 (by decide +kernel) rfl)⟩
theorem cv_X10_has : (parseMethodDescriptor M_X10_has.1.desc).map (fun d => d.parameters.length) = some 1 ∧ Cond.instanceMethod M_X10_has.1 ∈ dp_tb := ⟨by decide +kernel, (dp_m 628 (by decide +kernel) rfl)⟩
theorem cv_X11_saying : (parseMethodDescriptor M_X11_saying.1.desc).map (fun d => d.parameters.length) = some 2 ∧ Cond.instanceMethod M_X11_saying.1 ∈ dp_tb := ⟨by decide +kernel, (dp_m 633 (by decide +kernel) rfl)⟩
theorem cv_X10_part : (parseMethodDescriptor M_X10_part.1.desc).map (fun d => d.parameters.length) = some 1 ∧ Cond.instanceMethod M_X10_part.1 ∈ dp_tb := ⟨by decide +kernel, (dp_m 637 (by decide +kernel) rfl)⟩
theorem cv_X11_between : (parseMethodDescriptor M_X11_between.1.desc).map (fun d => d.parameters.length) = some 1 ∧ Cond.instanceMethod M_X11_between.1 ∈ dp_tb := ⟨by decide +kernel, (dp_m 641 (by decide +kernel) rfl)⟩
theorem cv_X7_judge : (parseMethodDescriptor M_X7_judge.1.desc).map (fun d => d.parameters.length) = some 1 ∧ Cond.instanceMethod M_X7_judge.1 ∈ dp_tb := ⟨by decide +kernel, (dp_m 645 (by decide +kernel) rfl)⟩
theorem cv_X10_lettersLookedAt : (parseMethodDescriptor M_X10_lettersLookedAt.1.desc).map (fun d => d.parameters.length) = some 0 ∧ Cond.instanceMethod M_X10_lettersLookedAt.1 ∈ dp_tb := ⟨by decide +kernel, (dp_m 649 (by decide +kernel) rfl)⟩
theorem cv_X10_hangsOn : (parseMethodDescriptor M_X10_hangsOn.1.desc).map (fun d => d.parameters.length) = some 1 ∧ Cond.instanceMethod M_X10_hangsOn.1 ∈ dp_tb := ⟨by decide +kernel, (dp_m 654 (by decide +kernel) rfl)⟩
theorem cv_X10_isWithin : (parseMethodDescriptor M_X10_isWithin.1.desc).map (fun d => d.parameters.length) = some 1 ∧ Cond.instanceMethod M_X10_isWithin.1 ∈ dp_tb := ⟨by decide +kernel, (dp_m 657 (by decide +kernel) rfl)⟩
theorem cv_X11_looks : (parseMethodDescriptor M_X11_looks.1.desc).map (fun d => d.parameters.length) = some 1 ∧ Cond.instanceMethod M_X11_looks.1 ∈ dp_tb := ⟨by decide +kernel, (dp_m 664 (by decide +kernel) rfl)⟩
theorem cv_X11_setOf : (parseMethodDescriptor M_X11_setOf.1.desc).map (fun d => d.parameters.length) = some 1 ∧ Cond.instanceMethod M_X11_setOf.1 ∈ dp_tb := ⟨by decide +kernel, (dp_m 669 (by decide +kernel) rfl)⟩
theorem cv_X11_compare : (parseMethodDescriptor M_X11_compare.1.desc).map (fun d => d.parameters.length) = some 2 ∧ Cond.instanceMethod M_X11_compare.1 ∈ dp_tb := ⟨by decide +kernel, (dp_m 673 (by decide +kernel) rfl)⟩
theorem cv_X11_bounds : (parseMethodDescriptor M_X11_bounds.1.desc).map (fun d => d.parameters.length) = some 1 ∧ Cond.instanceMethod M_X11_bounds.1 ∈ dp_tb := ⟨by decide +kernel, (dp_m 678 (by decide +kernel) rfl)⟩
theorem cv_X7_freeChoices : (parseMethodDescriptor M_X7_freeChoices.1.desc).map (fun d => d.parameters.length) = some 0 ∧ Cond.instanceMethod M_X7_freeChoices.1 ∈ dp_tb := ⟨by decide +kernel, (dp_m 682 (by decide +kernel) rfl)⟩
theorem cv_X11_fewest : (parseMethodDescriptor M_X11_fewest.1.desc).map (fun d => d.parameters.length) = some 1 ∧ Cond.instanceMethod M_X11_fewest.1 ∈ dp_tb := ⟨by decide +kernel, (dp_m 688 (by decide +kernel) rfl)⟩
theorem cv_X7_fewestLetters : (parseMethodDescriptor M_X7_fewestLetters.1.desc).map (fun d => d.parameters.length) = some 0 ∧ Cond.instanceMethod M_X7_fewestLetters.1 ∈ dp_tb := ⟨by decide +kernel, (dp_m 692 (by decide +kernel) rfl)⟩
theorem cv_X7_findFewest : (parseMethodDescriptor M_X7_findFewest.1.desc).map (fun d => d.parameters.length) = some 0 ∧ Cond.instanceMethod M_X7_findFewest.1 ∈ dp_tb := ⟨by decide +kernel, (dp_m 697 (by decide +kernel) rfl)⟩
theorem cv_X7_tellsApart : (parseMethodDescriptor M_X7_tellsApart.1.desc).map (fun d => d.parameters.length) = some 1 ∧ Cond.instanceMethod M_X7_tellsApart.1 ∈ dp_tb := ⟨by decide +kernel, (dp_m 701 (by decide +kernel) rfl)⟩
theorem cs_X11_sizeOrSet : Cond.static M_X11_sizeOrSet.1 ∈ dp_tb ∧ (parseMethodDescriptor M_X11_sizeOrSet.1.desc).map (fun d => d.parameters.length) = some 2 := ⟨(dp_m 704 (by decide +kernel) rfl), by decide +kernel⟩
theorem cv_X11_tell : (parseMethodDescriptor M_X11_tell.1.desc).map (fun d => d.parameters.length) = some 2 ∧ Cond.instanceMethod M_X11_tell.1 ∈ dp_tb := ⟨by decide +kernel, (dp_m 708 (by decide +kernel) rfl)⟩
theorem cv_X10_put : (parseMethodDescriptor M_X10_put.1.desc).map (fun d => d.parameters.length) = some 2 ∧ Cond.instanceMethod M_X10_put.1 ∈ dp_tb := ⟨by decide +kernel, (dp_m 712 (by decide +kernel) rfl)⟩
theorem cv_X11_copy : (parseMethodDescriptor M_X11_copy.1.desc).map (fun d => d.parameters.length) = some 3 ∧ Cond.instanceMethod M_X11_copy.1 ∈ dp_tb := ⟨by decide +kernel, (dp_m 716 (by decide +kernel) rfl)⟩
theorem cv_X11_check : (parseMethodDescriptor M_X11_check.1.desc).map (fun d => d.parameters.length) = some 0 ∧ Cond.instanceMethod M_X11_check.1 ∈ dp_tb := ⟨by decide +kernel, (dp_m 720 (by decide +kernel) rfl)⟩
theorem cv_X11_used : (parseMethodDescriptor M_X11_used.1.desc).map (fun d => d.parameters.length) = some 0 ∧ Cond.instanceMethod M_X11_used.1 ∈ dp_tb := ⟨by decide +kernel, (dp_m 724 (by decide +kernel) rfl)⟩
theorem cv_X11_clausesUnder : (parseMethodDescriptor M_X11_clausesUnder.1.desc).map (fun d => d.parameters.length) = some 1 ∧ Cond.instanceMethod M_X11_clausesUnder.1 ∈ dp_tb := ⟨by decide +kernel, (dp_m 729 (by decide +kernel) rfl)⟩
theorem cs_X11_bitOf : Cond.static M_X11_bitOf.1 ∈ dp_tb ∧ (parseMethodDescriptor M_X11_bitOf.1.desc).map (fun d => d.parameters.length) = some 1 := ⟨(dp_m 732 (by decide +kernel) rfl), by decide +kernel⟩
theorem cv_X11_needed : (parseMethodDescriptor M_X11_needed.1.desc).map (fun d => d.parameters.length) = some 1 ∧ Cond.instanceMethod M_X11_needed.1 ∈ dp_tb := ⟨by decide +kernel, (dp_m 735 (by decide +kernel) rfl)⟩
theorem cv_X0_leastSet : (parseMethodDescriptor M_X0_leastSet.1.desc).map (fun d => d.parameters.length) = some 0 ∧ Cond.instanceMethod M_X0_leastSet.1 ∈ dp_tb := ⟨by decide +kernel, (dp_m 739 (by decide +kernel) rfl)⟩
theorem cv_X0_allClash : (parseMethodDescriptor M_X0_allClash.1.desc).map (fun d => d.parameters.length) = some 0 ∧ Cond.instanceMethod M_X0_allClash.1 ∈ dp_tb := ⟨by decide +kernel, (dp_m 744 (by decide +kernel) rfl)⟩
theorem cv_X10_leastWorld : (parseMethodDescriptor M_X10_leastWorld.1.desc).map (fun d => d.parameters.length) = some 0 ∧ Cond.instanceMethod M_X10_leastWorld.1 ∈ dp_tb := ⟨by decide +kernel, (dp_m 749 (by decide +kernel) rfl)⟩
theorem cv_X0_choose : (parseMethodDescriptor M_X0_choose.1.desc).map (fun d => d.parameters.length) = some 3 ∧ Cond.instanceMethod M_X0_choose.1 ∈ dp_tb := ⟨by decide +kernel, (dp_m 754 (by decide +kernel) rfl)⟩
theorem cv_X0_keep : (parseMethodDescriptor M_X0_keep.1.desc).map (fun d => d.parameters.length) = some 2 ∧ Cond.instanceMethod M_X0_keep.1 ∈ dp_tb := ⟨by decide +kernel, (dp_m 758 (by decide +kernel) rfl)⟩
theorem cv_X11_labour : (parseMethodDescriptor M_X11_labour.1.desc).map (fun d => d.parameters.length) = some 2 ∧ Cond.instanceMethod M_X11_labour.1 ∈ dp_tb := ⟨by decide +kernel, (dp_m 763 (by decide +kernel) rfl)⟩
theorem cv_X11_ruleOf : (parseMethodDescriptor M_X11_ruleOf.1.desc).map (fun d => d.parameters.length) = some 1 ∧ Cond.instanceMethod M_X11_ruleOf.1 ∈ dp_tb := ⟨by decide +kernel, (dp_m 768 (by decide +kernel) rfl)⟩
theorem cv_X1_work : (parseMethodDescriptor M_X1_work.1.desc).map (fun d => d.parameters.length) = some 2 ∧ Cond.instanceMethod M_X1_work.1 ∈ dp_tb := ⟨by decide +kernel, (dp_m 775 (by decide +kernel) rfl)⟩
theorem cv_X9_mark : (parseMethodDescriptor M_X9_mark.1.desc).map (fun d => d.parameters.length) = some 1 ∧ Cond.instanceMethod M_X9_mark.1 ∈ dp_tb := ⟨by decide +kernel, (dp_m 778 (by decide +kernel) rfl)⟩
theorem cv_X2_work : (parseMethodDescriptor M_X2_work.1.desc).map (fun d => d.parameters.length) = some 2 ∧ Cond.instanceMethod M_X2_work.1 ∈ dp_tb := ⟨by decide +kernel, (dp_m 782 (by decide +kernel) rfl)⟩
theorem cv_X5_work : (parseMethodDescriptor M_X5_work.1.desc).map (fun d => d.parameters.length) = some 2 ∧ Cond.instanceMethod M_X5_work.1 ∈ dp_tb := ⟨by decide +kernel, (dp_m 790 (by decide +kernel) rfl)⟩
theorem cv_X6_work : (parseMethodDescriptor M_X6_work.1.desc).map (fun d => d.parameters.length) = some 2 ∧ Cond.instanceMethod M_X6_work.1 ∈ dp_tb := ⟨by decide +kernel, (dp_m 771 (by decide +kernel) rfl)⟩
theorem cv_X11_count : (parseMethodDescriptor M_X11_count.1.desc).map (fun d => d.parameters.length) = some 1 ∧ Cond.instanceMethod M_X11_count.1 ∈ dp_tb := ⟨by decide +kernel, (dp_m 798 (by decide +kernel) rfl)⟩
theorem cv_X11_trace : (parseMethodDescriptor M_X11_trace.1.desc).map (fun d => d.parameters.length) = some 0 ∧ Cond.instanceMethod M_X11_trace.1 ∈ dp_tb := ⟨by decide +kernel, (dp_m 802 (by decide +kernel) rfl)⟩
theorem cv_X9_sum : (parseMethodDescriptor M_X9_sum.1.desc).map (fun d => d.parameters.length) = some 0 ∧ Cond.instanceMethod M_X9_sum.1 ∈ dp_tb := ⟨by decide +kernel, (dp_m 806 (by decide +kernel) rfl)⟩
theorem ci_X12_init : M_X12_init.1.name = "<init>" ∧ M_X12_init.2.2.2 = none ∧ Cond.instanceMethod M_X12_init.1 ∈ dp_tb ∧ (parseMethodDescriptor M_X12_init.1.desc).map (fun d => d.parameters.length) = some 0 := ⟨rfl, rfl, (dp_m 812 (by decide +kernel) rfl), by decide +kernel⟩
theorem cv_X12_bounds : (parseMethodDescriptor M_X12_bounds.1.desc).map (fun d => d.parameters.length) = some 0 ∧ Cond.instanceMethod M_X12_bounds.1 ∈ dp_tb := ⟨by decide +kernel, (dp_m 817 (by decide +kernel) rfl)⟩
theorem cv_X12_shared : (parseMethodDescriptor M_X12_shared.1.desc).map (fun d => d.parameters.length) = some 0 ∧ Cond.instanceMethod M_X12_shared.1 ∈ dp_tb := ⟨by decide +kernel, (dp_m 821 (by decide +kernel) rfl)⟩
theorem cv_X12_lettersOf : (parseMethodDescriptor M_X12_lettersOf.1.desc).map (fun d => d.parameters.length) = some 1 ∧ Cond.instanceMethod M_X12_lettersOf.1 ∈ dp_tb := ⟨by decide +kernel, (dp_m 825 (by decide +kernel) rfl)⟩
theorem cs_X12_spreads : Cond.static M_X12_spreads.1 ∈ dp_tb ∧ (parseMethodDescriptor M_X12_spreads.1.desc).map (fun d => d.parameters.length) = some 3 := ⟨(dp_m 829 (by decide +kernel) rfl), by decide +kernel⟩
theorem cs_X12_has : Cond.static M_X12_has.1 ∈ dp_tb ∧ (parseMethodDescriptor M_X12_has.1.desc).map (fun d => d.parameters.length) = some 3 := ⟨(dp_m 832 (by decide +kernel) rfl), by decide +kernel⟩
theorem cv_X12_type : (parseMethodDescriptor M_X12_type.1.desc).map (fun d => d.parameters.length) = some 2 ∧ Cond.instanceMethod M_X12_type.1 ∈ dp_tb := ⟨by decide +kernel, (dp_m 911 (by decide +kernel) rfl)⟩
theorem cs_X12_in : Cond.static M_X12_in.1 ∈ dp_tb ∧ (parseMethodDescriptor M_X12_in.1.desc).map (fun d => d.parameters.length) = some 3 := ⟨(dp_m 915 (by decide +kernel) rfl), by decide +kernel⟩
theorem cv_X12_clear : (parseMethodDescriptor M_X12_clear.1.desc).map (fun d => d.parameters.length) = some 0 ∧ Cond.instanceMethod M_X12_clear.1 ∈ dp_tb := ⟨by decide +kernel, (dp_m 919 (by decide +kernel) rfl)⟩
theorem cv_X12_clauses : (parseMethodDescriptor M_X12_clauses.1.desc).map (fun d => d.parameters.length) = some 0 ∧ Cond.instanceMethod M_X12_clauses.1 ∈ dp_tb := ⟨by decide +kernel, (dp_m 923 (by decide +kernel) rfl)⟩
theorem cv_X12_begins : (parseMethodDescriptor M_X12_begins.1.desc).map (fun d => d.parameters.length) = some 0 ∧ Cond.instanceMethod M_X12_begins.1 ∈ dp_tb := ⟨by decide +kernel, (dp_m 928 (by decide +kernel) rfl)⟩
theorem cv_X12_advances : (parseMethodDescriptor M_X12_advances.1.desc).map (fun d => d.parameters.length) = some 0 ∧ Cond.instanceMethod M_X12_advances.1 ∈ dp_tb := ⟨by decide +kernel, (dp_m 932 (by decide +kernel) rfl)⟩
theorem cv_X12_byteAt : (parseMethodDescriptor M_X12_byteAt.1.desc).map (fun d => d.parameters.length) = some 1 ∧ Cond.instanceMethod M_X12_byteAt.1 ∈ dp_tb := ⟨by decide +kernel, (dp_m 936 (by decide +kernel) rfl)⟩
theorem cv_X12_word : (parseMethodDescriptor M_X12_word.1.desc).map (fun d => d.parameters.length) = some 1 ∧ Cond.instanceMethod M_X12_word.1 ∈ dp_tb := ⟨by decide +kernel, (dp_m 940 (by decide +kernel) rfl)⟩
theorem cv_X12_isWell : (parseMethodDescriptor M_X12_isWell.1.desc).map (fun d => d.parameters.length) = some 0 ∧ Cond.instanceMethod M_X12_isWell.1 ∈ dp_tb := ⟨by decide +kernel, (dp_m 944 (by decide +kernel) rfl)⟩
theorem cv_X12_wants : (parseMethodDescriptor M_X12_wants.1.desc).map (fun d => d.parameters.length) = some 1 ∧ Cond.instanceMethod M_X12_wants.1 ∈ dp_tb := ⟨by decide +kernel, (dp_m 948 (by decide +kernel) rfl)⟩
theorem cv_X12_readsClause : (parseMethodDescriptor M_X12_readsClause.1.desc).map (fun d => d.parameters.length) = some 1 ∧ Cond.instanceMethod M_X12_readsClause.1 ∈ dp_tb := ⟨by decide +kernel, (dp_m 952 (by decide +kernel) rfl)⟩
theorem cv_X12_goesOn : (parseMethodDescriptor M_X12_goesOn.1.desc).map (fun d => d.parameters.length) = some 0 ∧ Cond.instanceMethod M_X12_goesOn.1 ∈ dp_tb := ⟨by decide +kernel, (dp_m 956 (by decide +kernel) rfl)⟩
theorem cv_X12_holding : (parseMethodDescriptor M_X12_holding.1.desc).map (fun d => d.parameters.length) = some 1 ∧ Cond.instanceMethod M_X12_holding.1 ∈ dp_tb := ⟨by decide +kernel, (dp_m 960 (by decide +kernel) rfl)⟩
theorem cs_X12_isSo : Cond.static M_X12_isSo.1 ∈ dp_tb ∧ (parseMethodDescriptor M_X12_isSo.1.desc).map (fun d => d.parameters.length) = some 3 := ⟨(dp_m 963 (by decide +kernel) rfl), by decide +kernel⟩
theorem cv_X12_beginning : (parseMethodDescriptor M_X12_beginning.1.desc).map (fun d => d.parameters.length) = some 1 ∧ Cond.instanceMethod M_X12_beginning.1 ∈ dp_tb := ⟨by decide +kernel, (dp_m 967 (by decide +kernel) rfl)⟩
theorem cv_X12_proof : (parseMethodDescriptor M_X12_proof.1.desc).map (fun d => d.parameters.length) = some 0 ∧ Cond.instanceMethod M_X12_proof.1 ∈ dp_tb := ⟨by decide +kernel, (dp_m 970 (by decide +kernel) rfl)⟩
theorem cv_X12_readsStep : (parseMethodDescriptor M_X12_readsStep.1.desc).map (fun d => d.parameters.length) = some 1 ∧ Cond.instanceMethod M_X12_readsStep.1 ∈ dp_tb := ⟨by decide +kernel, (dp_m 975 (by decide +kernel) rfl)⟩
theorem cv_X12_makes : (parseMethodDescriptor M_X12_makes.1.desc).map (fun d => d.parameters.length) = some 1 ∧ Cond.instanceMethod M_X12_makes.1 ∈ dp_tb := ⟨by decide +kernel, (dp_m 979 (by decide +kernel) rfl)⟩
theorem cv_X12_wrong : (parseMethodDescriptor M_X12_wrong.1.desc).map (fun d => d.parameters.length) = some 0 ∧ Cond.instanceMethod M_X12_wrong.1 ∈ dp_tb := ⟨by decide +kernel, (dp_m 982 (by decide +kernel) rfl)⟩
theorem cv_X12_end : (parseMethodDescriptor M_X12_end.1.desc).map (fun d => d.parameters.length) = some 0 ∧ Cond.instanceMethod M_X12_end.1 ∈ dp_tb := ⟨by decide +kernel, (dp_m 986 (by decide +kernel) rfl)⟩
theorem cv_X12_ending : (parseMethodDescriptor M_X12_ending.1.desc).map (fun d => d.parameters.length) = some 0 ∧ Cond.instanceMethod M_X12_ending.1 ∈ dp_tb := ⟨by decide +kernel, (dp_m 991 (by decide +kernel) rfl)⟩
theorem cv_X12_line : (parseMethodDescriptor M_X12_line.1.desc).map (fun d => d.parameters.length) = some 2 ∧ Cond.instanceMethod M_X12_line.1 ∈ dp_tb := ⟨by decide +kernel, (dp_m 994 (by decide +kernel) rfl)⟩
theorem cv_X12_isLine : (parseMethodDescriptor M_X12_isLine.1.desc).map (fun d => d.parameters.length) = some 1 ∧ Cond.instanceMethod M_X12_isLine.1 ∈ dp_tb := ⟨by decide +kernel, (dp_m 999 (by decide +kernel) rfl)⟩
theorem cv_X12_side : (parseMethodDescriptor M_X12_side.1.desc).map (fun d => d.parameters.length) = some 1 ∧ Cond.instanceMethod M_X12_side.1 ∈ dp_tb := ⟨by decide +kernel, (dp_m 1002 (by decide +kernel) rfl)⟩
theorem cv_X12_holds : (parseMethodDescriptor M_X12_holds.1.desc).map (fun d => d.parameters.length) = some 2 ∧ Cond.instanceMethod M_X12_holds.1 ∈ dp_tb := ⟨by decide +kernel, (dp_m 1006 (by decide +kernel) rfl)⟩
theorem cv_X12_worlds : (parseMethodDescriptor M_X12_worlds.1.desc).map (fun d => d.parameters.length) = some 1 ∧ Cond.instanceMethod M_X12_worlds.1 ∈ dp_tb := ⟨by decide +kernel, (dp_m 1010 (by decide +kernel) rfl)⟩
theorem cs_X12_many : Cond.static M_X12_many.1 ∈ dp_tb ∧ (parseMethodDescriptor M_X12_many.1.desc).map (fun d => d.parameters.length) = some 1 := ⟨(dp_m 1014 (by decide +kernel) rfl), by decide +kernel⟩
theorem cv_X12_says : (parseMethodDescriptor M_X12_says.1.desc).map (fun d => d.parameters.length) = some 3 ∧ Cond.instanceMethod M_X12_says.1 ∈ dp_tb := ⟨by decide +kernel, (dp_m 1017 (by decide +kernel) rfl)⟩
theorem cs_X12_isWay : Cond.static M_X12_isWay.1 ∈ dp_tb ∧ (parseMethodDescriptor M_X12_isWay.1.desc).map (fun d => d.parameters.length) = some 1 := ⟨(dp_m 1021 (by decide +kernel) rfl), by decide +kernel⟩
theorem cv_X12_saying : (parseMethodDescriptor M_X12_saying.1.desc).map (fun d => d.parameters.length) = some 2 ∧ Cond.instanceMethod M_X12_saying.1 ∈ dp_tb := ⟨by decide +kernel, (dp_m 1024 (by decide +kernel) rfl)⟩
theorem cv_X12_between : (parseMethodDescriptor M_X12_between.1.desc).map (fun d => d.parameters.length) = some 1 ∧ Cond.instanceMethod M_X12_between.1 ∈ dp_tb := ⟨by decide +kernel, (dp_m 1028 (by decide +kernel) rfl)⟩
theorem cv_X12_takes : (parseMethodDescriptor M_X12_takes.1.desc).map (fun d => d.parameters.length) = some 2 ∧ Cond.instanceMethod M_X12_takes.1 ∈ dp_tb := ⟨by decide +kernel, (dp_m 1033 (by decide +kernel) rfl)⟩
theorem cv_X12_checks : (parseMethodDescriptor M_X12_checks.1.desc).map (fun d => d.parameters.length) = some 1 ∧ Cond.instanceMethod M_X12_checks.1 ∈ dp_tb := ⟨by decide +kernel, (dp_m 1037 (by decide +kernel) rfl)⟩
theorem cs_X12_looksOf : Cond.static M_X12_looksOf.1 ∈ dp_tb ∧ (parseMethodDescriptor M_X12_looksOf.1.desc).map (fun d => d.parameters.length) = some 1 := ⟨(dp_m 1040 (by decide +kernel) rfl), by decide +kernel⟩
theorem cv_X12_looks : (parseMethodDescriptor M_X12_looks.1.desc).map (fun d => d.parameters.length) = some 1 ∧ Cond.instanceMethod M_X12_looks.1 ∈ dp_tb := ⟨by decide +kernel, (dp_m 1043 (by decide +kernel) rfl)⟩
theorem cv_X12_compare : (parseMethodDescriptor M_X12_compare.1.desc).map (fun d => d.parameters.length) = some 2 ∧ Cond.instanceMethod M_X12_compare.1 ∈ dp_tb := ⟨by decide +kernel, (dp_m 1047 (by decide +kernel) rfl)⟩
theorem cv_X12_bounds_ : (parseMethodDescriptor M_X12_bounds_.1.desc).map (fun d => d.parameters.length) = some 1 ∧ Cond.instanceMethod M_X12_bounds_.1 ∈ dp_tb := ⟨by decide +kernel, (dp_m 1051 (by decide +kernel) rfl)⟩
theorem cs_X12_ones : Cond.static M_X12_ones.1 ∈ dp_tb ∧ (parseMethodDescriptor M_X12_ones.1.desc).map (fun d => d.parameters.length) = some 1 := ⟨(dp_m 1055 (by decide +kernel) rfl), by decide +kernel⟩
theorem cv_X12_fewest : (parseMethodDescriptor M_X12_fewest.1.desc).map (fun d => d.parameters.length) = some 1 ∧ Cond.instanceMethod M_X12_fewest.1 ∈ dp_tb := ⟨by decide +kernel, (dp_m 1058 (by decide +kernel) rfl)⟩
theorem cv_X12_tell : (parseMethodDescriptor M_X12_tell.1.desc).map (fun d => d.parameters.length) = some 2 ∧ Cond.instanceMethod M_X12_tell.1 ∈ dp_tb := ⟨by decide +kernel, (dp_m 1062 (by decide +kernel) rfl)⟩
theorem cv_X12_copy : (parseMethodDescriptor M_X12_copy.1.desc).map (fun d => d.parameters.length) = some 3 ∧ Cond.instanceMethod M_X12_copy.1 ∈ dp_tb := ⟨by decide +kernel, (dp_m 1066 (by decide +kernel) rfl)⟩
theorem cv_X12_check : (parseMethodDescriptor M_X12_check.1.desc).map (fun d => d.parameters.length) = some 0 ∧ Cond.instanceMethod M_X12_check.1 ∈ dp_tb := ⟨by decide +kernel, (dp_m 1070 (by decide +kernel) rfl)⟩
theorem cv_X12_used : (parseMethodDescriptor M_X12_used.1.desc).map (fun d => d.parameters.length) = some 0 ∧ Cond.instanceMethod M_X12_used.1 ∈ dp_tb := ⟨by decide +kernel, (dp_m 1074 (by decide +kernel) rfl)⟩
theorem cv_X12_needed : (parseMethodDescriptor M_X12_needed.1.desc).map (fun d => d.parameters.length) = some 1 ∧ Cond.instanceMethod M_X12_needed.1 ∈ dp_tb := ⟨by decide +kernel, (dp_m 1078 (by decide +kernel) rfl)⟩
theorem cv_X12_clash : (parseMethodDescriptor M_X12_clash.1.desc).map (fun d => d.parameters.length) = some 1 ∧ Cond.instanceMethod M_X12_clash.1 ∈ dp_tb := ⟨by decide +kernel, (dp_m 1083 (by decide +kernel) rfl)⟩
theorem cv_X12_labour : (parseMethodDescriptor M_X12_labour.1.desc).map (fun d => d.parameters.length) = some 2 ∧ Cond.instanceMethod M_X12_labour.1 ∈ dp_tb := ⟨by decide +kernel, (dp_m 1086 (by decide +kernel) rfl)⟩
theorem cv_X12_count : (parseMethodDescriptor M_X12_count.1.desc).map (fun d => d.parameters.length) = some 1 ∧ Cond.instanceMethod M_X12_count.1 ∈ dp_tb := ⟨by decide +kernel, (dp_m 1093 (by decide +kernel) rfl)⟩
theorem cv_X12_trace : (parseMethodDescriptor M_X12_trace.1.desc).map (fun d => d.parameters.length) = some 0 ∧ Cond.instanceMethod M_X12_trace.1 ∈ dp_tb := ⟨by decide +kernel, (dp_m 1097 (by decide +kernel) rfl)⟩
end
section
section CL
variable {xs : Nat → Int32} {L d kc ks : Nat} {M : ev_M} {sz : Nat} {h : ev_H} {pc : Nat} {ls : ev_L} {st : List Value} {Q : ev_Q} {pc' : Nat} {Qm : ev_Q}
theorem cl_L_9 {kc1 ks1 a : Nat}  (hM : M.1.cls = R_law) (hp : pc + 3 = pc') (hd : decode M.2.1 pc = .ok (.invokespecial 9, 3)) (hc : ev_cs st ≤ 8) (hE : EV xs L d kc1 ks1 M_X11_init sz h 0 [some (.ref a), none] [] Qm) (k : ∀ sz' h' r, Qm sz' h' r → EV xs L (d + 1) kc ks M sz' h' pc' ls (r ++ st) Q) : EV xs L (d + 1) (kc1 + kc) (ks1 + ks) M sz h pc ls (.ref a :: st) Q :=
  r_call (As := .ref a :: []) (rest := st) hp hd ⟨⟨cm_X11_init.1, cm_X11_init.2.1, cm_X11_init.2.2.1, cm_X11_init.2.2.2.1, cm_X11_init.2.2.2.2, Nat.le_of_ble_eq_true rfl, hc⟩, Or.inr (Or.inr (Or.inl ⟨9, a, [], rfl, rfl, rfl, ci_X11_init.1, ci_X11_init.2.1, ci_X11_init.2.2.1, ci_X11_init.2.2.2, by rw [hM]; exact Or.inl (dp_m 19 (by decide +kernel) rfl)⟩))⟩ rfl rfl hE k
theorem cl_X10_41 {a : Nat} {fs : List Value}  (hM : M.1.cls = RX10) (hp : pc + 3 = pc') (hd : decode M.2.1 pc = .ok (.invokevirtual 41, 3)) (ha : 2 ≤ a) (hs : a < sz) (hh : h a = .inr (10, fs)) (hc : ev_cs st ≤ 8) (hE : EV xs L d 0 0 M_X10_turn sz h 0 [some (.ref a), none] [] Qm) (k : ∀ sz' h' r, Qm sz' h' r → EV xs L (d + 1) kc ks M sz' h' pc' ls (r ++ st) Q) : EV xs L (d + 1) kc ks M sz h pc ls (.ref a :: st) Q :=
  r_call (As := .ref a :: []) (rest := st) hp hd ⟨⟨cm_X10_turn.1, cm_X10_turn.2.1, cm_X10_turn.2.2.1, cm_X10_turn.2.2.2.1, cm_X10_turn.2.2.2.2, Nat.le_of_ble_eq_true rfl, hc⟩, Or.inr (Or.inl ⟨41, a, [], _, 10, fs, rfl, rfl, rfl, ha, hs, hh, rfl, cv_X10_turn.1, cv_X10_turn.2, Or.inl ⟨(dp_m 118 (by decide +kernel) rfl), rfl, by rw [hM]; exact Or.inl (dp_m 116 (by decide +kernel) rfl)⟩⟩)⟩ (Nat.zero_add _).symm (Nat.zero_add _).symm hE k
theorem cl_X11_90 {a : Nat} {fs : List Value} {x1 : Int64} {x2 : Int32} (hM : M.1.cls = RX11) (hp : pc + 3 = pc') (hd : decode M.2.1 pc = .ok (.invokevirtual 90, 3)) (ha : 2 ≤ a) (hs : a < sz) (hh : h a = .inr (8, fs)) (hc : ev_cs st ≤ 8) (hE : EV xs L d 0 0 M_X8_append sz h 0 [some (.ref a), some (.long x1), none, some (.int x2), none] [] Qm) (k : ∀ sz' h' r, Qm sz' h' r → EV xs L (d + 1) kc ks M sz' h' pc' ls (r ++ st) Q) : EV xs L (d + 1) kc ks M sz h pc ls (.int x2 :: .long x1 :: .ref a :: st) Q :=
  r_call (As := .ref a :: [.long x1, .int x2]) (rest := st) hp hd ⟨⟨cm_X8_append.1, cm_X8_append.2.1, cm_X8_append.2.2.1, cm_X8_append.2.2.2.1, cm_X8_append.2.2.2.2, Nat.le_of_ble_eq_true rfl, hc⟩, Or.inr (Or.inl ⟨90, a, [.long x1, .int x2], _, 8, fs, rfl, rfl, rfl, ha, hs, hh, rfl, cv_X8_append.1, cv_X8_append.2, Or.inl ⟨(dp_m 308 (by decide +kernel) rfl), rfl, by rw [hM]; exact Or.inl (dp_m 306 (by decide +kernel) rfl)⟩⟩)⟩ (Nat.zero_add _).symm (Nat.zero_add _).symm hE k
theorem cl_L_25 {a : Nat} {fs : List Value}  (hM : M.1.cls = R_law) (hp : pc + 3 = pc') (hd : decode M.2.1 pc = .ok (.invokevirtual 25, 3)) (ha : 2 ≤ a) (hs : a < sz) (hh : h a = .inr (11, fs)) (hc : ev_cs st ≤ 8) (hE : EV xs L d 0 0 M_X11_clauses sz h 0 [some (.ref a), none] [] Qm) (k : ∀ sz' h' r, Qm sz' h' r → EV xs L (d + 1) kc ks M sz' h' pc' ls (r ++ st) Q) : EV xs L (d + 1) kc ks M sz h pc ls (.ref a :: st) Q :=
  r_call (As := .ref a :: []) (rest := st) hp hd ⟨⟨cm_X11_clauses.1, cm_X11_clauses.2.1, cm_X11_clauses.2.2.1, cm_X11_clauses.2.2.2.1, cm_X11_clauses.2.2.2.2, Nat.le_of_ble_eq_true rfl, hc⟩, Or.inr (Or.inl ⟨25, a, [], _, 11, fs, rfl, rfl, rfl, ha, hs, hh, rfl, cv_X11_clauses.1, cv_X11_clauses.2, Or.inl ⟨(dp_m 324 (by decide +kernel) rfl), rfl, by rw [hM]; exact Or.inl (dp_m 322 (by decide +kernel) rfl)⟩⟩)⟩ (Nat.zero_add _).symm (Nat.zero_add _).symm hE k
theorem cl_X8_34 {a : Nat} {fs : List Value}  (hM : M.1.cls = RX8) (hp : pc + 3 = pc') (hd : decode M.2.1 pc = .ok (.invokevirtual 34, 3)) (ha : 2 ≤ a) (hs : a < sz) (hh : h a = .inr (8, fs)) (hc : ev_cs st ≤ 8) (hE : EV xs L d 0 0 M_X8_skipBlanks sz h 0 [some (.ref a)] [] Qm) (k : ∀ sz' h' r, Qm sz' h' r → EV xs L (d + 1) kc ks M sz' h' pc' ls (r ++ st) Q) : EV xs L (d + 1) kc ks M sz h pc ls (.ref a :: st) Q :=
  r_call (As := .ref a :: []) (rest := st) hp hd ⟨⟨cm_X8_skipBlanks.1, cm_X8_skipBlanks.2.1, cm_X8_skipBlanks.2.2.1, cm_X8_skipBlanks.2.2.2.1, cm_X8_skipBlanks.2.2.2.2, Nat.le_of_ble_eq_true rfl, hc⟩, Or.inr (Or.inl ⟨34, a, [], _, 8, fs, rfl, rfl, rfl, ha, hs, hh, rfl, cv_X8_skipBlanks.1, cv_X8_skipBlanks.2, Or.inl ⟨(dp_s 0 (by decide +kernel) rfl), rfl, by rw [hM]; exact Or.inl (dp_m 338 (by decide +kernel) rfl)⟩⟩)⟩ (Nat.zero_add _).symm (Nat.zero_add _).symm hE k
theorem cl_X8_48 {x1 : Int32} (hM : M.1.cls = RX8) (hp : pc + 3 = pc') (hd : decode M.2.1 pc = .ok (.invokestatic 48, 3)) (hc : ev_cs st ≤ 8) (hE : EV xs L d 0 0 M_X8_isDigit sz h 0 [some (.int x1)] [] Qm) (k : ∀ sz' h' r, Qm sz' h' r → EV xs L (d + 1) kc ks M sz' h' pc' ls (r ++ st) Q) : EV xs L (d + 1) kc ks M sz h pc ls (.int x1 :: st) Q :=
  r_call (As := [.int x1]) (rest := st) hp hd ⟨⟨cm_X8_isDigit.1, cm_X8_isDigit.2.1, cm_X8_isDigit.2.2.1, cm_X8_isDigit.2.2.2.1, cm_X8_isDigit.2.2.2.2, Nat.le_of_ble_eq_true rfl, hc⟩, Or.inl ⟨48, rfl, rfl, cs_X8_isDigit.1, cs_X8_isDigit.2, by rw [hM]; exact Or.inl (dp_m 356 (by decide +kernel) rfl)⟩⟩ (Nat.zero_add _).symm (Nat.zero_add _).symm hE k
theorem cl_X4_50 {a : Nat} {fs : List Value} {x1 : Nat} {x2 : Int32} (hM : M.1.cls = RX4) (hp : pc + 3 = pc') (hd : decode M.2.1 pc = .ok (.invokevirtual 50, 3)) (ha : 2 ≤ a) (hs : a < sz) (hh : h a = .inr (4, fs)) (hc : ev_cs st ≤ 8) (hE : EV xs L d 0 0 M_X4_readClause sz h 0 [some (.ref a), some (.ref x1), some (.int x2), none] [] Qm) (k : ∀ sz' h' r, Qm sz' h' r → EV xs L (d + 1) kc ks M sz' h' pc' ls (r ++ st) Q) : EV xs L (d + 1) kc ks M sz h pc ls (.int x2 :: .ref x1 :: .ref a :: st) Q :=
  r_call (As := .ref a :: [.ref x1, .int x2]) (rest := st) hp hd ⟨⟨cm_X4_readClause.1, cm_X4_readClause.2.1, cm_X4_readClause.2.2.1, cm_X4_readClause.2.2.2.1, cm_X4_readClause.2.2.2.2, Nat.le_of_ble_eq_true rfl, hc⟩, Or.inr (Or.inl ⟨50, a, [.ref x1, .int x2], _, 4, fs, rfl, rfl, rfl, ha, hs, hh, rfl, cv_X4_readClause.1, cv_X4_readClause.2, Or.inl ⟨(dp_s 4 (by decide +kernel) rfl), rfl, by rw [hM]; exact Or.inl (dp_m 370 (by decide +kernel) rfl)⟩⟩)⟩ (Nat.zero_add _).symm (Nat.zero_add _).symm hE k
theorem cl_X4_73 {x1 : Nat} {x2 : Int32} (hM : M.1.cls = RX4) (hp : pc + 3 = pc') (hd : decode M.2.1 pc = .ok (.invokestatic 73, 3)) (hc : ev_cs st ≤ 8) (hE : EV xs L d 0 0 M_X4_passed sz h 0 [some (.ref x1), some (.int x2)] [] Qm) (k : ∀ sz' h' r, Qm sz' h' r → EV xs L (d + 1) kc ks M sz' h' pc' ls (r ++ st) Q) : EV xs L (d + 1) kc ks M sz h pc ls (.int x2 :: .ref x1 :: st) Q :=
  r_call (As := [.ref x1, .int x2]) (rest := st) hp hd ⟨⟨cm_X4_passed.1, cm_X4_passed.2.1, cm_X4_passed.2.2.1, cm_X4_passed.2.2.2.1, cm_X4_passed.2.2.2.2, Nat.le_of_ble_eq_true rfl, hc⟩, Or.inl ⟨73, rfl, rfl, cs_X4_passed.1, cs_X4_passed.2, by rw [hM]; exact Or.inl (dp_m 383 (by decide +kernel) rfl)⟩⟩ (Nat.zero_add _).symm (Nat.zero_add _).symm hE k
theorem cl_X11_240 {a : Nat} {fs : List Value} {x1 : Int32} (hM : M.1.cls = RX11) (hp : pc + 3 = pc') (hd : decode M.2.1 pc = .ok (.invokevirtual 240, 3)) (ha : 2 ≤ a) (hs : a < sz) (hh : h a = .inr (4, fs)) (hc : ev_cs st ≤ 8) (hE : EV xs L d 0 0 M_X4_turnedOf sz h 0 [some (.ref a), some (.int x1)] [] Qm) (k : ∀ sz' h' r, Qm sz' h' r → EV xs L (d + 1) kc ks M sz' h' pc' ls (r ++ st) Q) : EV xs L (d + 1) kc ks M sz h pc ls (.int x1 :: .ref a :: st) Q :=
  r_call (As := .ref a :: [.int x1]) (rest := st) hp hd ⟨⟨cm_X4_turnedOf.1, cm_X4_turnedOf.2.1, cm_X4_turnedOf.2.2.1, cm_X4_turnedOf.2.2.2.1, cm_X4_turnedOf.2.2.2.2, Nat.le_of_ble_eq_true rfl, hc⟩, Or.inr (Or.inl ⟨240, a, [.int x1], _, 4, fs, rfl, rfl, rfl, ha, hs, hh, rfl, cv_X4_turnedOf.1, cv_X4_turnedOf.2, Or.inl ⟨(dp_m 412 (by decide +kernel) rfl), rfl, by rw [hM]; exact Or.inl (dp_m 410 (by decide +kernel) rfl)⟩⟩)⟩ (Nat.zero_add _).symm (Nat.zero_add _).symm hE k
theorem cl_X3_43 {a : Nat} {fs : List Value}  (hM : M.1.cls = RX3) (hp : pc + 3 = pc') (hd : decode M.2.1 pc = .ok (.invokevirtual 43, 3)) (ha : 2 ≤ a) (hs : a < sz) (hh : h a = .inr (10, fs)) (hc : ev_cs st ≤ 8) (hE : EV xs L d 0 0 M_X10_wipe sz h 0 [some (.ref a), none] [] Qm) (k : ∀ sz' h' r, Qm sz' h' r → EV xs L (d + 1) kc ks M sz' h' pc' ls (r ++ st) Q) : EV xs L (d + 1) kc ks M sz h pc ls (.ref a :: st) Q :=
  r_call (As := .ref a :: []) (rest := st) hp hd ⟨⟨cm_X10_wipe.1, cm_X10_wipe.2.1, cm_X10_wipe.2.2.1, cm_X10_wipe.2.2.2.1, cm_X10_wipe.2.2.2.2, Nat.le_of_ble_eq_true rfl, hc⟩, Or.inr (Or.inl ⟨43, a, [], _, 10, fs, rfl, rfl, rfl, ha, hs, hh, rfl, cv_X10_wipe.1, cv_X10_wipe.2, Or.inl ⟨(dp_m 114 (by decide +kernel) rfl), rfl, by rw [hM]; exact Or.inl (dp_m 426 (by decide +kernel) rfl)⟩⟩)⟩ (Nat.zero_add _).symm (Nat.zero_add _).symm hE k
theorem cl_X7_53 {a : Nat} {fs : List Value}  (hM : M.1.cls = RX7) (hp : pc + 3 = pc') (hd : decode M.2.1 pc = .ok (.invokevirtual 53, 3)) (ha : 2 ≤ a) (hs : a < sz) (hh : h a = .inr (3, fs)) (hc : ev_cs st ≤ 8) (hE : EV xs L d 0 0 M_X3_letters sz h 0 [some (.ref a)] [] Qm) (k : ∀ sz' h' r, Qm sz' h' r → EV xs L (d + 1) kc ks M sz' h' pc' ls (r ++ st) Q) : EV xs L (d + 1) kc ks M sz h pc ls (.ref a :: st) Q :=
  r_call (As := .ref a :: []) (rest := st) hp hd ⟨⟨cm_X3_letters.1, cm_X3_letters.2.1, cm_X3_letters.2.2.1, cm_X3_letters.2.2.2.1, cm_X3_letters.2.2.2.2, Nat.le_of_ble_eq_true rfl, hc⟩, Or.inr (Or.inl ⟨53, a, [], _, 3, fs, rfl, rfl, rfl, ha, hs, hh, rfl, cv_X3_letters.1, cv_X3_letters.2, Or.inl ⟨(dp_m 442 (by decide +kernel) rfl), rfl, by rw [hM]; exact Or.inl (dp_m 440 (by decide +kernel) rfl)⟩⟩)⟩ (Nat.zero_add _).symm (Nat.zero_add _).symm hE k
theorem cl_X10_51 {a : Nat} {fs : List Value} {x1 : Int32} (hM : M.1.cls = RX10) (hp : pc + 3 = pc') (hd : decode M.2.1 pc = .ok (.invokevirtual 51, 3)) (ha : 2 ≤ a) (hs : a < sz) (hh : h a = .inr (10, fs)) (hc : ev_cs st ≤ 8) (hE : EV xs L d 0 0 M_X10_spread sz h 0 [some (.ref a), some (.int x1), none] [] Qm) (k : ∀ sz' h' r, Qm sz' h' r → EV xs L (d + 1) kc ks M sz' h' pc' ls (r ++ st) Q) : EV xs L (d + 1) kc ks M sz h pc ls (.int x1 :: .ref a :: st) Q :=
  r_call (As := .ref a :: [.int x1]) (rest := st) hp hd ⟨⟨cm_X10_spread.1, cm_X10_spread.2.1, cm_X10_spread.2.2.1, cm_X10_spread.2.2.2.1, cm_X10_spread.2.2.2.2, Nat.le_of_ble_eq_true rfl, hc⟩, Or.inr (Or.inl ⟨51, a, [.int x1], _, 10, fs, rfl, rfl, rfl, ha, hs, hh, rfl, cv_X10_spread.1, cv_X10_spread.2, Or.inl ⟨(dp_m 458 (by decide +kernel) rfl), rfl, by rw [hM]; exact Or.inl (dp_m 456 (by decide +kernel) rfl)⟩⟩)⟩ (Nat.zero_add _).symm (Nat.zero_add _).symm hE k
theorem cl_X3_50 {a : Nat} {fs : List Value} {x1 : Nat} {x2 : Int32} (hM : M.1.cls = RX3) (hp : pc + 3 = pc') (hd : decode M.2.1 pc = .ok (.invokevirtual 50, 3)) (ha : 2 ≤ a) (hs : a < sz) (hh : h a = .inr (3, fs)) (hc : ev_cs st ≤ 8) (hE : EV xs L d 0 0 M_X3_gatherWorlds sz h 0 [some (.ref a), some (.ref x1), some (.int x2), none, none] [] Qm) (k : ∀ sz' h' r, Qm sz' h' r → EV xs L (d + 1) kc ks M sz' h' pc' ls (r ++ st) Q) : EV xs L (d + 1) kc ks M sz h pc ls (.int x2 :: .ref x1 :: .ref a :: st) Q :=
  r_call (As := .ref a :: [.ref x1, .int x2]) (rest := st) hp hd ⟨⟨cm_X3_gatherWorlds.1, cm_X3_gatherWorlds.2.1, cm_X3_gatherWorlds.2.2.1, cm_X3_gatherWorlds.2.2.2.1, cm_X3_gatherWorlds.2.2.2.2, Nat.le_of_ble_eq_true rfl, hc⟩, Or.inr (Or.inl ⟨50, a, [.ref x1, .int x2], _, 3, fs, rfl, rfl, rfl, ha, hs, hh, rfl, cv_X3_gatherWorlds.1, cv_X3_gatherWorlds.2, Or.inl ⟨(dp_m 424 (by decide +kernel) rfl), rfl, by rw [hM]; exact Or.inl (dp_m 476 (by decide +kernel) rfl)⟩⟩)⟩ (Nat.zero_add _).symm (Nat.zero_add _).symm hE k
theorem cl_X11_257 {a : Nat} {fs : List Value}  (hM : M.1.cls = RX11) (hp : pc + 3 = pc') (hd : decode M.2.1 pc = .ok (.invokevirtual 257, 3)) (ha : 2 ≤ a) (hs : a < sz) (hh : h a = .inr (11, fs)) (hc : ev_cs st ≤ 8) (hE : EV xs L d 0 0 M_X11_forgetProof sz h 0 [some (.ref a)] [] Qm) (k : ∀ sz' h' r, Qm sz' h' r → EV xs L (d + 1) kc ks M sz' h' pc' ls (r ++ st) Q) : EV xs L (d + 1) kc ks M sz h pc ls (.ref a :: st) Q :=
  r_call (As := .ref a :: []) (rest := st) hp hd ⟨⟨cm_X11_forgetProof.1, cm_X11_forgetProof.2.1, cm_X11_forgetProof.2.2.1, cm_X11_forgetProof.2.2.2.1, cm_X11_forgetProof.2.2.2.2, Nat.le_of_ble_eq_true rfl, hc⟩, Or.inr (Or.inl ⟨257, a, [], _, 11, fs, rfl, rfl, rfl, ha, hs, hh, rfl, cv_X11_forgetProof.1, cv_X11_forgetProof.2, Or.inl ⟨(dp_s 8 (by decide +kernel) rfl), rfl, by rw [hM]; exact Or.inl (dp_m 480 (by decide +kernel) rfl)⟩⟩)⟩ (Nat.zero_add _).symm (Nat.zero_add _).symm hE k
theorem cl_L_29 {a : Nat} {fs : List Value}  (hM : M.1.cls = R_law) (hp : pc + 3 = pc') (hd : decode M.2.1 pc = .ok (.invokevirtual 29, 3)) (ha : 2 ≤ a) (hs : a < sz) (hh : h a = .inr (11, fs)) (hc : ev_cs st ≤ 8) (hE : EV xs L d 0 0 M_X11_proof sz h 0 [some (.ref a), none] [] Qm) (k : ∀ sz' h' r, Qm sz' h' r → EV xs L (d + 1) kc ks M sz' h' pc' ls (r ++ st) Q) : EV xs L (d + 1) kc ks M sz h pc ls (.ref a :: st) Q :=
  r_call (As := .ref a :: []) (rest := st) hp hd ⟨⟨cm_X11_proof.1, cm_X11_proof.2.1, cm_X11_proof.2.2.1, cm_X11_proof.2.2.2.1, cm_X11_proof.2.2.2.2, Nat.le_of_ble_eq_true rfl, hc⟩, Or.inr (Or.inl ⟨29, a, [], _, 11, fs, rfl, rfl, rfl, ha, hs, hh, rfl, cv_X11_proof.1, cv_X11_proof.2, Or.inl ⟨(dp_m 500 (by decide +kernel) rfl), rfl, by rw [hM]; exact Or.inl (dp_m 498 (by decide +kernel) rfl)⟩⟩)⟩ (Nat.zero_add _).symm (Nat.zero_add _).symm hE k
theorem cl_X11_263 {a : Nat} {fs : List Value}  (hM : M.1.cls = RX11) (hp : pc + 3 = pc') (hd : decode M.2.1 pc = .ok (.invokevirtual 263, 3)) (ha : 2 ≤ a) (hs : a < sz) (hh : h a = .inr (4, fs)) (hc : ev_cs st ≤ 8) (hE : EV xs L d 0 0 M_X4_stepsRead sz h 0 [some (.ref a)] [] Qm) (k : ∀ sz' h' r, Qm sz' h' r → EV xs L (d + 1) kc ks M sz' h' pc' ls (r ++ st) Q) : EV xs L (d + 1) kc ks M sz h pc ls (.ref a :: st) Q :=
  r_call (As := .ref a :: []) (rest := st) hp hd ⟨⟨cm_X4_stepsRead.1, cm_X4_stepsRead.2.1, cm_X4_stepsRead.2.2.1, cm_X4_stepsRead.2.2.2.1, cm_X4_stepsRead.2.2.2.2, Nat.le_of_ble_eq_true rfl, hc⟩, Or.inr (Or.inl ⟨263, a, [], _, 4, fs, rfl, rfl, rfl, ha, hs, hh, rfl, cv_X4_stepsRead.1, cv_X4_stepsRead.2, Or.inl ⟨(dp_m 516 (by decide +kernel) rfl), rfl, by rw [hM]; exact Or.inl (dp_m 514 (by decide +kernel) rfl)⟩⟩)⟩ (Nat.zero_add _).symm (Nat.zero_add _).symm hE k
theorem cl_X11_275 {a : Nat} {fs : List Value} {x1 : Int32} (hM : M.1.cls = RX11) (hp : pc + 3 = pc') (hd : decode M.2.1 pc = .ok (.invokevirtual 275, 3)) (ha : 2 ≤ a) (hs : a < sz) (hh : h a = .inr (4, fs)) (hc : ev_cs st ≤ 8) (hE : EV xs L d 0 0 M_X4_letterOf sz h 0 [some (.ref a), some (.int x1)] [] Qm) (k : ∀ sz' h' r, Qm sz' h' r → EV xs L (d + 1) kc ks M sz' h' pc' ls (r ++ st) Q) : EV xs L (d + 1) kc ks M sz h pc ls (.int x1 :: .ref a :: st) Q :=
  r_call (As := .ref a :: [.int x1]) (rest := st) hp hd ⟨⟨cm_X4_letterOf.1, cm_X4_letterOf.2.1, cm_X4_letterOf.2.2.1, cm_X4_letterOf.2.2.2.1, cm_X4_letterOf.2.2.2.2, Nat.le_of_ble_eq_true rfl, hc⟩, Or.inr (Or.inl ⟨275, a, [.int x1], _, 4, fs, rfl, rfl, rfl, ha, hs, hh, rfl, cv_X4_letterOf.1, cv_X4_letterOf.2, Or.inl ⟨(dp_m 532 (by decide +kernel) rfl), rfl, by rw [hM]; exact Or.inl (dp_m 530 (by decide +kernel) rfl)⟩⟩)⟩ (Nat.zero_add _).symm (Nat.zero_add _).symm hE k
theorem cl_X11_129 {a : Nat} {fs : List Value} {x1 : Int32} (hM : M.1.cls = RX11) (hp : pc + 3 = pc') (hd : decode M.2.1 pc = .ok (.invokevirtual 129, 3)) (ha : 2 ≤ a) (hs : a < sz) (hh : h a = .inr (7, fs)) (hc : ev_cs st ≤ 8) (hE : EV xs L d 0 0 M_X7_ownerOf sz h 0 [some (.ref a), some (.int x1), none, none] [] Qm) (k : ∀ sz' h' r, Qm sz' h' r → EV xs L (d + 1) kc ks M sz' h' pc' ls (r ++ st) Q) : EV xs L (d + 1) kc ks M sz h pc ls (.int x1 :: .ref a :: st) Q :=
  r_call (As := .ref a :: [.int x1]) (rest := st) hp hd ⟨⟨cm_X7_ownerOf.1, cm_X7_ownerOf.2.1, cm_X7_ownerOf.2.2.1, cm_X7_ownerOf.2.2.2.1, cm_X7_ownerOf.2.2.2.2, Nat.le_of_ble_eq_true rfl, hc⟩, Or.inr (Or.inl ⟨129, a, [.int x1], _, 7, fs, rfl, rfl, rfl, ha, hs, hh, rfl, cv_X7_ownerOf.1, cv_X7_ownerOf.2, Or.inl ⟨(dp_m 548 (by decide +kernel) rfl), rfl, by rw [hM]; exact Or.inl (dp_m 546 (by decide +kernel) rfl)⟩⟩)⟩ (Nat.zero_add _).symm (Nat.zero_add _).symm hE k
theorem cl_X3_68 {x1 : Int32} {x2 : Int32} (hM : M.1.cls = RX3) (hp : pc + 3 = pc') (hd : decode M.2.1 pc = .ok (.invokestatic 68, 3)) (hc : ev_cs st ≤ 8) (hE : EV xs L d 0 0 M_X3_joins sz h 0 [some (.int x1), some (.int x2)] [] Qm) (k : ∀ sz' h' r, Qm sz' h' r → EV xs L (d + 1) kc ks M sz' h' pc' ls (r ++ st) Q) : EV xs L (d + 1) kc ks M sz h pc ls (.int x2 :: .int x1 :: st) Q :=
  r_call (As := [.int x1, .int x2]) (rest := st) hp hd ⟨⟨cm_X3_joins.1, cm_X3_joins.2.1, cm_X3_joins.2.2.1, cm_X3_joins.2.2.2.1, cm_X3_joins.2.2.2.2, Nat.le_of_ble_eq_true rfl, hc⟩, Or.inl ⟨68, rfl, rfl, cs_X3_joins.1, cs_X3_joins.2, by rw [hM]; exact Or.inl (dp_m 559 (by decide +kernel) rfl)⟩⟩ (Nat.zero_add _).symm (Nat.zero_add _).symm hE k
theorem cl_L_37 {a : Nat} {fs : List Value}  (hM : M.1.cls = R_law) (hp : pc + 3 = pc') (hd : decode M.2.1 pc = .ok (.invokevirtual 37, 3)) (ha : 2 ≤ a) (hs : a < sz) (hh : h a = .inr (11, fs)) (hc : ev_cs st ≤ 8) (hE : EV xs L d 0 0 M_X11_end sz h 0 [some (.ref a)] [] Qm) (k : ∀ sz' h' r, Qm sz' h' r → EV xs L (d + 1) kc ks M sz' h' pc' ls (r ++ st) Q) : EV xs L (d + 1) kc ks M sz h pc ls (.ref a :: st) Q :=
  r_call (As := .ref a :: []) (rest := st) hp hd ⟨⟨cm_X11_end.1, cm_X11_end.2.1, cm_X11_end.2.2.1, cm_X11_end.2.2.2.1, cm_X11_end.2.2.2.2, Nat.le_of_ble_eq_true rfl, hc⟩, Or.inr (Or.inl ⟨37, a, [], _, 11, fs, rfl, rfl, rfl, ha, hs, hh, rfl, cv_X11_end.1, cv_X11_end.2, Or.inl ⟨(dp_m 573 (by decide +kernel) rfl), rfl, by rw [hM]; exact Or.inl (dp_m 571 (by decide +kernel) rfl)⟩⟩)⟩ (Nat.zero_add _).symm (Nat.zero_add _).symm hE k
theorem cl_L_51 {a : Nat} {fs : List Value} {x1 : Int32} {x2 : Int32} (hM : M.1.cls = R_law) (hp : pc + 3 = pc') (hd : decode M.2.1 pc = .ok (.invokevirtual 51, 3)) (ha : 2 ≤ a) (hs : a < sz) (hh : h a = .inr (11, fs)) (hc : ev_cs st ≤ 8) (hE : EV xs L d 0 0 M_X11_holds sz h 0 [some (.ref a), some (.int x1), some (.int x2), none] [] Qm) (k : ∀ sz' h' r, Qm sz' h' r → EV xs L (d + 1) kc ks M sz' h' pc' ls (r ++ st) Q) : EV xs L (d + 1) kc ks M sz h pc ls (.int x2 :: .int x1 :: .ref a :: st) Q :=
  r_call (As := .ref a :: [.int x1, .int x2]) (rest := st) hp hd ⟨⟨cm_X11_holds.1, cm_X11_holds.2.1, cm_X11_holds.2.2.1, cm_X11_holds.2.2.2.1, cm_X11_holds.2.2.2.2, Nat.le_of_ble_eq_true rfl, hc⟩, Or.inr (Or.inl ⟨51, a, [.int x1, .int x2], _, 11, fs, rfl, rfl, rfl, ha, hs, hh, rfl, cv_X11_holds.1, cv_X11_holds.2, Or.inl ⟨(dp_m 589 (by decide +kernel) rfl), rfl, by rw [hM]; exact Or.inl (dp_m 587 (by decide +kernel) rfl)⟩⟩)⟩ (Nat.zero_add _).symm (Nat.zero_add _).symm hE k
theorem cl_X11_142 {a : Nat} {fs : List Value}  (hM : M.1.cls = RX11) (hp : pc + 3 = pc') (hd : decode M.2.1 pc = .ok (.invokevirtual 142, 3)) (ha : 2 ≤ a) (hs : a < sz) (hh : h a = .inr (10, fs)) (hc : ev_cs st ≤ 8) (hE : EV xs L d 0 0 M_X10_size sz h 0 [some (.ref a), none, none] [] Qm) (k : ∀ sz' h' r, Qm sz' h' r → EV xs L (d + 1) kc ks M sz' h' pc' ls (r ++ st) Q) : EV xs L (d + 1) kc ks M sz h pc ls (.ref a :: st) Q :=
  r_call (As := .ref a :: []) (rest := st) hp hd ⟨⟨cm_X10_size.1, cm_X10_size.2.1, cm_X10_size.2.2.1, cm_X10_size.2.2.2.1, cm_X10_size.2.2.2.2, Nat.le_of_ble_eq_true rfl, hc⟩, Or.inr (Or.inl ⟨142, a, [], _, 10, fs, rfl, rfl, rfl, ha, hs, hh, rfl, cv_X10_size.1, cv_X10_size.2, Or.inl ⟨(dp_m 604 (by decide +kernel) rfl), rfl, by rw [hM]; exact Or.inl (dp_m 602 (by decide +kernel) rfl)⟩⟩)⟩ (Nat.zero_add _).symm (Nat.zero_add _).symm hE k
theorem cl_X11_150 {x1 : Int32} (hM : M.1.cls = RX11) (hp : pc + 3 = pc') (hd : decode M.2.1 pc = .ok (.invokestatic 150, 3)) (hc : ev_cs st ≤ 8) (hE : EV xs L d 0 0 M_X11_isWay sz h 0 [some (.int x1)] [] Qm) (k : ∀ sz' h' r, Qm sz' h' r → EV xs L (d + 1) kc ks M sz' h' pc' ls (r ++ st) Q) : EV xs L (d + 1) kc ks M sz h pc ls (.int x1 :: st) Q :=
  r_call (As := [.int x1]) (rest := st) hp hd ⟨⟨cm_X11_isWay.1, cm_X11_isWay.2.1, cm_X11_isWay.2.2.1, cm_X11_isWay.2.2.2.1, cm_X11_isWay.2.2.2.2, Nat.le_of_ble_eq_true rfl, hc⟩, Or.inl ⟨150, rfl, rfl, cs_X11_isWay.1, cs_X11_isWay.2, by rw [hM]; exact Or.inl (dp_m 620 (by decide +kernel) rfl)⟩⟩ (Nat.zero_add _).symm (Nat.zero_add _).symm hE k
theorem cl_X11_160 {a : Nat} {fs : List Value} {x1 : Int32} (hM : M.1.cls = RX11) (hp : pc + 3 = pc') (hd : decode M.2.1 pc = .ok (.invokevirtual 160, 3)) (ha : 2 ≤ a) (hs : a < sz) (hh : h a = .inr (10, fs)) (hc : ev_cs st ≤ 8) (hE : EV xs L d 0 0 M_X10_part sz h 0 [some (.ref a), some (.int x1)] [] Qm) (k : ∀ sz' h' r, Qm sz' h' r → EV xs L (d + 1) kc ks M sz' h' pc' ls (r ++ st) Q) : EV xs L (d + 1) kc ks M sz h pc ls (.int x1 :: .ref a :: st) Q :=
  r_call (As := .ref a :: [.int x1]) (rest := st) hp hd ⟨⟨cm_X10_part.1, cm_X10_part.2.1, cm_X10_part.2.2.1, cm_X10_part.2.2.2.1, cm_X10_part.2.2.2.2, Nat.le_of_ble_eq_true rfl, hc⟩, Or.inr (Or.inl ⟨160, a, [.int x1], _, 10, fs, rfl, rfl, rfl, ha, hs, hh, rfl, cv_X10_part.1, cv_X10_part.2, Or.inl ⟨(dp_m 638 (by decide +kernel) rfl), rfl, by rw [hM]; exact Or.inl (dp_m 636 (by decide +kernel) rfl)⟩⟩)⟩ (Nat.zero_add _).symm (Nat.zero_add _).symm hE k
theorem cl_X10_55 {a : Nat} {fs : List Value} {x1 : Int32} (hM : M.1.cls = RX10) (hp : pc + 3 = pc') (hd : decode M.2.1 pc = .ok (.invokevirtual 55, 3)) (ha : 2 ≤ a) (hs : a < sz) (hh : h a = .inr (10, fs)) (hc : ev_cs st ≤ 8) (hE : EV xs L d 0 0 M_X10_hangsOn sz h 0 [some (.ref a), some (.int x1), none] [] Qm) (k : ∀ sz' h' r, Qm sz' h' r → EV xs L (d + 1) kc ks M sz' h' pc' ls (r ++ st) Q) : EV xs L (d + 1) kc ks M sz h pc ls (.int x1 :: .ref a :: st) Q :=
  r_call (As := .ref a :: [.int x1]) (rest := st) hp hd ⟨⟨cm_X10_hangsOn.1, cm_X10_hangsOn.2.1, cm_X10_hangsOn.2.2.1, cm_X10_hangsOn.2.2.2.1, cm_X10_hangsOn.2.2.2.2, Nat.le_of_ble_eq_true rfl, hc⟩, Or.inr (Or.inl ⟨55, a, [.int x1], _, 10, fs, rfl, rfl, rfl, ha, hs, hh, rfl, cv_X10_hangsOn.1, cv_X10_hangsOn.2, Or.inl ⟨(dp_s 14 (by decide +kernel) rfl), rfl, by rw [hM]; exact Or.inl (dp_m 652 (by decide +kernel) rfl)⟩⟩)⟩ (Nat.zero_add _).symm (Nat.zero_add _).symm hE k
theorem cl_X7_81 {a : Nat} {fs : List Value} {x1 : Nat} (hM : M.1.cls = RX7) (hp : pc + 3 = pc') (hd : decode M.2.1 pc = .ok (.invokevirtual 81, 3)) (ha : 2 ≤ a) (hs : a < sz) (hh : h a = .inr (10, fs)) (hc : ev_cs st ≤ 8) (hE : EV xs L d 0 0 M_X10_sizeWith sz h 0 [some (.ref a), some (.ref x1), none, none] [] Qm) (k : ∀ sz' h' r, Qm sz' h' r → EV xs L (d + 1) kc ks M sz' h' pc' ls (r ++ st) Q) : EV xs L (d + 1) kc ks M sz h pc ls (.ref x1 :: .ref a :: st) Q :=
  r_call (As := .ref a :: [.ref x1]) (rest := st) hp hd ⟨⟨cm_X10_sizeWith.1, cm_X10_sizeWith.2.1, cm_X10_sizeWith.2.2.1, cm_X10_sizeWith.2.2.2.1, cm_X10_sizeWith.2.2.2.2, Nat.le_of_ble_eq_true rfl, hc⟩, Or.inr (Or.inl ⟨81, a, [.ref x1], _, 10, fs, rfl, rfl, rfl, ha, hs, hh, rfl, cv_X10_sizeWith.1, cv_X10_sizeWith.2, Or.inl ⟨(dp_m 614 (by decide +kernel) rfl), rfl, by rw [hM]; exact Or.inl (dp_m 662 (by decide +kernel) rfl)⟩⟩)⟩ (Nat.zero_add _).symm (Nat.zero_add _).symm hE k
theorem cl_L_77 {a : Nat} {fs : List Value} {x1 : Int32} {x2 : Int32} (hM : M.1.cls = R_law) (hp : pc + 3 = pc') (hd : decode M.2.1 pc = .ok (.invokevirtual 77, 3)) (ha : 2 ≤ a) (hs : a < sz) (hh : h a = .inr (11, fs)) (hc : ev_cs st ≤ 8) (hE : EV xs L d 0 0 M_X11_compare sz h 0 [some (.ref a), some (.int x1), some (.int x2), none, none, none, none] [] Qm) (k : ∀ sz' h' r, Qm sz' h' r → EV xs L (d + 1) kc ks M sz' h' pc' ls (r ++ st) Q) : EV xs L (d + 1) kc ks M sz h pc ls (.int x2 :: .int x1 :: .ref a :: st) Q :=
  r_call (As := .ref a :: [.int x1, .int x2]) (rest := st) hp hd ⟨⟨cm_X11_compare.1, cm_X11_compare.2.1, cm_X11_compare.2.2.1, cm_X11_compare.2.2.2.1, cm_X11_compare.2.2.2.2, Nat.le_of_ble_eq_true rfl, hc⟩, Or.inr (Or.inl ⟨77, a, [.int x1, .int x2], _, 11, fs, rfl, rfl, rfl, ha, hs, hh, rfl, cv_X11_compare.1, cv_X11_compare.2, Or.inl ⟨(dp_m 674 (by decide +kernel) rfl), rfl, by rw [hM]; exact Or.inl (dp_m 672 (by decide +kernel) rfl)⟩⟩)⟩ (Nat.zero_add _).symm (Nat.zero_add _).symm hE k
theorem cl_X7_85 {a : Nat} {fs : List Value}  (hM : M.1.cls = RX7) (hp : pc + 3 = pc') (hd : decode M.2.1 pc = .ok (.invokevirtual 85, 3)) (ha : 2 ≤ a) (hs : a < sz) (hh : h a = .inr (10, fs)) (hc : ev_cs st ≤ 8) (hE : EV xs L d 0 0 M_X10_size sz h 0 [some (.ref a), none, none] [] Qm) (k : ∀ sz' h' r, Qm sz' h' r → EV xs L (d + 1) kc ks M sz' h' pc' ls (r ++ st) Q) : EV xs L (d + 1) kc ks M sz h pc ls (.ref a :: st) Q :=
  r_call (As := .ref a :: []) (rest := st) hp hd ⟨⟨cm_X10_size.1, cm_X10_size.2.1, cm_X10_size.2.2.1, cm_X10_size.2.2.2.1, cm_X10_size.2.2.2.2, Nat.le_of_ble_eq_true rfl, hc⟩, Or.inr (Or.inl ⟨85, a, [], _, 10, fs, rfl, rfl, rfl, ha, hs, hh, rfl, cv_X10_size.1, cv_X10_size.2, Or.inl ⟨(dp_m 604 (by decide +kernel) rfl), rfl, by rw [hM]; exact Or.inl (dp_m 685 (by decide +kernel) rfl)⟩⟩)⟩ (Nat.zero_add _).symm (Nat.zero_add _).symm hE k
theorem cl_X7_94 {a : Nat} {fs : List Value}  (hM : M.1.cls = RX7) (hp : pc + 3 = pc') (hd : decode M.2.1 pc = .ok (.invokevirtual 94, 3)) (ha : 2 ≤ a) (hs : a < sz) (hh : h a = .inr (7, fs)) (hc : ev_cs st ≤ 8) (hE : EV xs L d 0 0 M_X7_findFewest sz h 0 [some (.ref a), none, none, none, none] [] Qm) (k : ∀ sz' h' r, Qm sz' h' r → EV xs L (d + 1) kc ks M sz' h' pc' ls (r ++ st) Q) : EV xs L (d + 1) kc ks M sz h pc ls (.ref a :: st) Q :=
  r_call (As := .ref a :: []) (rest := st) hp hd ⟨⟨cm_X7_findFewest.1, cm_X7_findFewest.2.1, cm_X7_findFewest.2.2.1, cm_X7_findFewest.2.2.2.1, cm_X7_findFewest.2.2.2.2, Nat.le_of_ble_eq_true rfl, hc⟩, Or.inr (Or.inl ⟨94, a, [], _, 7, fs, rfl, rfl, rfl, ha, hs, hh, rfl, cv_X7_findFewest.1, cv_X7_findFewest.2, Or.inl ⟨(dp_s 16 (by decide +kernel) rfl), rfl, by rw [hM]; exact Or.inl (dp_m 695 (by decide +kernel) rfl)⟩⟩)⟩ (Nat.zero_add _).symm (Nat.zero_add _).symm hE k
theorem cl_L_89 {a : Nat} {fs : List Value} {x1 : Int32} {x2 : Int32} (hM : M.1.cls = R_law) (hp : pc + 3 = pc') (hd : decode M.2.1 pc = .ok (.invokevirtual 89, 3)) (ha : 2 ≤ a) (hs : a < sz) (hh : h a = .inr (11, fs)) (hc : ev_cs st ≤ 8) (hE : EV xs L d 0 0 M_X11_tell sz h 0 [some (.ref a), some (.int x1), some (.int x2), none] [] Qm) (k : ∀ sz' h' r, Qm sz' h' r → EV xs L (d + 1) kc ks M sz' h' pc' ls (r ++ st) Q) : EV xs L (d + 1) kc ks M sz h pc ls (.int x2 :: .int x1 :: .ref a :: st) Q :=
  r_call (As := .ref a :: [.int x1, .int x2]) (rest := st) hp hd ⟨⟨cm_X11_tell.1, cm_X11_tell.2.1, cm_X11_tell.2.2.1, cm_X11_tell.2.2.2.1, cm_X11_tell.2.2.2.2, Nat.le_of_ble_eq_true rfl, hc⟩, Or.inr (Or.inl ⟨89, a, [.int x1, .int x2], _, 11, fs, rfl, rfl, rfl, ha, hs, hh, rfl, cv_X11_tell.1, cv_X11_tell.2, Or.inl ⟨(dp_m 709 (by decide +kernel) rfl), rfl, by rw [hM]; exact Or.inl (dp_m 707 (by decide +kernel) rfl)⟩⟩)⟩ (Nat.zero_add _).symm (Nat.zero_add _).symm hE k
theorem cl_L_101 {a : Nat} {fs : List Value}  (hM : M.1.cls = R_law) (hp : pc + 3 = pc') (hd : decode M.2.1 pc = .ok (.invokevirtual 101, 3)) (ha : 2 ≤ a) (hs : a < sz) (hh : h a = .inr (11, fs)) (hc : ev_cs st ≤ 8) (hE : EV xs L d 0 0 M_X11_used sz h 0 [some (.ref a)] [] Qm) (k : ∀ sz' h' r, Qm sz' h' r → EV xs L (d + 1) kc ks M sz' h' pc' ls (r ++ st) Q) : EV xs L (d + 1) kc ks M sz h pc ls (.ref a :: st) Q :=
  r_call (As := .ref a :: []) (rest := st) hp hd ⟨⟨cm_X11_used.1, cm_X11_used.2.1, cm_X11_used.2.2.1, cm_X11_used.2.2.2.1, cm_X11_used.2.2.2.2, Nat.le_of_ble_eq_true rfl, hc⟩, Or.inr (Or.inl ⟨101, a, [], _, 11, fs, rfl, rfl, rfl, ha, hs, hh, rfl, cv_X11_used.1, cv_X11_used.2, Or.inl ⟨(dp_m 725 (by decide +kernel) rfl), rfl, by rw [hM]; exact Or.inl (dp_m 723 (by decide +kernel) rfl)⟩⟩)⟩ (Nat.zero_add _).symm (Nat.zero_add _).symm hE k
theorem cl_X11_200 {a : Nat} {fs : List Value}  (hM : M.1.cls = RX11) (hp : pc + 3 = pc') (hd : decode M.2.1 pc = .ok (.invokevirtual 200, 3)) (ha : 2 ≤ a) (hs : a < sz) (hh : h a = .inr (0, fs)) (hc : ev_cs st ≤ 8) (hE : EV xs L d 0 0 M_X0_leastSet sz h 0 [some (.ref a)] [] Qm) (k : ∀ sz' h' r, Qm sz' h' r → EV xs L (d + 1) kc ks M sz' h' pc' ls (r ++ st) Q) : EV xs L (d + 1) kc ks M sz h pc ls (.ref a :: st) Q :=
  r_call (As := .ref a :: []) (rest := st) hp hd ⟨⟨cm_X0_leastSet.1, cm_X0_leastSet.2.1, cm_X0_leastSet.2.2.1, cm_X0_leastSet.2.2.2.1, cm_X0_leastSet.2.2.2.2, Nat.le_of_ble_eq_true rfl, hc⟩, Or.inr (Or.inl ⟨200, a, [], _, 0, fs, rfl, rfl, rfl, ha, hs, hh, rfl, cv_X0_leastSet.1, cv_X0_leastSet.2, Or.inl ⟨(dp_m 740 (by decide +kernel) rfl), rfl, by rw [hM]; exact Or.inl (dp_m 738 (by decide +kernel) rfl)⟩⟩)⟩ (Nat.zero_add _).symm (Nat.zero_add _).symm hE k
theorem cl_X0_62 {a : Nat} {fs : List Value}  (hM : M.1.cls = RX0) (hp : pc + 3 = pc') (hd : decode M.2.1 pc = .ok (.invokevirtual 62, 3)) (ha : 2 ≤ a) (hs : a < sz) (hh : h a = .inr (10, fs)) (hc : ev_cs st ≤ 8) (hE : EV xs L d 0 0 M_X10_leastWorld sz h 0 [some (.ref a), none, none, none] [] Qm) (k : ∀ sz' h' r, Qm sz' h' r → EV xs L (d + 1) kc ks M sz' h' pc' ls (r ++ st) Q) : EV xs L (d + 1) kc ks M sz h pc ls (.ref a :: st) Q :=
  r_call (As := .ref a :: []) (rest := st) hp hd ⟨⟨cm_X10_leastWorld.1, cm_X10_leastWorld.2.1, cm_X10_leastWorld.2.2.1, cm_X10_leastWorld.2.2.2.1, cm_X10_leastWorld.2.2.2.2, Nat.le_of_ble_eq_true rfl, hc⟩, Or.inr (Or.inl ⟨62, a, [], _, 10, fs, rfl, rfl, rfl, ha, hs, hh, rfl, cv_X10_leastWorld.1, cv_X10_leastWorld.2, Or.inl ⟨(dp_m 750 (by decide +kernel) rfl), rfl, by rw [hM]; exact Or.inl (dp_m 748 (by decide +kernel) rfl)⟩⟩)⟩ (Nat.zero_add _).symm (Nat.zero_add _).symm hE k
theorem cl_X0_74 {a : Nat} {fs : List Value} {x1 : Nat} (hM : M.1.cls = RX0) (hp : pc + 3 = pc') (hd : decode M.2.1 pc = .ok (.invokevirtual 74, 3)) (ha : 2 ≤ a) (hs : a < sz) (hh : h a = .inr (10, fs)) (hc : ev_cs st ≤ 8) (hE : EV xs L d 0 0 M_X10_become sz h 0 [some (.ref a), some (.ref x1), none] [] Qm) (k : ∀ sz' h' r, Qm sz' h' r → EV xs L (d + 1) kc ks M sz' h' pc' ls (r ++ st) Q) : EV xs L (d + 1) kc ks M sz h pc ls (.ref x1 :: .ref a :: st) Q :=
  r_call (As := .ref a :: [.ref x1]) (rest := st) hp hd ⟨⟨cm_X10_become.1, cm_X10_become.2.1, cm_X10_become.2.2.1, cm_X10_become.2.2.2.1, cm_X10_become.2.2.2.2, Nat.le_of_ble_eq_true rfl, hc⟩, Or.inr (Or.inl ⟨74, a, [.ref x1], _, 10, fs, rfl, rfl, rfl, ha, hs, hh, rfl, cv_X10_become.1, cv_X10_become.2, Or.inl ⟨(dp_m 446 (by decide +kernel) rfl), rfl, by rw [hM]; exact Or.inl (dp_m 761 (by decide +kernel) rfl)⟩⟩)⟩ (Nat.zero_add _).symm (Nat.zero_add _).symm hE k
theorem cl_X11_207_X1 {a : Nat} {fs : List Value} {x1 : Nat} {x2 : Nat} (hM : M.1.cls = RX11) (hp : pc + 3 = pc') (hd : decode M.2.1 pc = .ok (.invokevirtual 207, 3)) (ha : 2 ≤ a) (hs : a < sz) (hh : h a = .inr (1, fs)) (hc : ev_cs st ≤ 8) (hE : EV xs L d 0 0 M_X1_work sz h 0 [some (.ref a), some (.ref x1), some (.ref x2)] [] Qm) (k : ∀ sz' h' r, Qm sz' h' r → EV xs L (d + 1) kc ks M sz' h' pc' ls (r ++ st) Q) : EV xs L (d + 1) kc ks M sz h pc ls (.ref x2 :: .ref x1 :: .ref a :: st) Q :=
  r_call (As := .ref a :: [.ref x1, .ref x2]) (rest := st) hp hd ⟨⟨cm_X1_work.1, cm_X1_work.2.1, cm_X1_work.2.2.1, cm_X1_work.2.2.2.1, cm_X1_work.2.2.2.2, Nat.le_of_ble_eq_true rfl, hc⟩, Or.inr (Or.inl ⟨207, a, [.ref x1, .ref x2], _, 1, fs, rfl, rfl, rfl, ha, hs, hh, rfl, cv_X1_work.1, cv_X1_work.2, Or.inr ⟨yX6_work, cX6_work, 3, (some .int), ⟨by decide, by decide⟩, cv_X6_work.1, by rw [hM]; exact (dp_m 770 (by decide +kernel) rfl), (dp_m 773 (by decide +kernel) rfl), cv_X6_work.2, (dp_m 774 (by decide +kernel) rfl), cm_X6_work.2.1⟩⟩)⟩ (Nat.zero_add _).symm (Nat.zero_add _).symm hE k
theorem cl_X1_13 {a cj : Nat} {fs : List Value} {q : vw_C} {x1 : Nat} {x2 : Nat} (hM : M.1.cls = RX1) (hp : pc + 3 = pc') (hd : decode M.2.1 pc = .ok (.invokespecial 13, 3)) (ha : 2 ≤ a) (hs : a < sz) (hh : h a = .inr (cj, fs)) (hq : dp_cl[cj]? = some q) (hc : ev_cs st ≤ 8) (hE : EV xs L d 0 0 M_X2_work sz h 0 [some (.ref a), some (.ref x1), some (.ref x2)] [] Qm) (k : ∀ sz' h' r, Qm sz' h' r → EV xs L (d + 1) kc ks M sz' h' pc' ls (r ++ st) Q) : EV xs L (d + 1) kc ks M sz h pc ls (.ref x2 :: .ref x1 :: .ref a :: st) Q :=
  r_call (As := .ref a :: [.ref x1, .ref x2]) (rest := st) hp hd ⟨⟨cm_X2_work.1, cm_X2_work.2.1, cm_X2_work.2.2.1, cm_X2_work.2.2.2.1, cm_X2_work.2.2.2.2, Nat.le_of_ble_eq_true rfl, hc⟩, Or.inr (Or.inr (Or.inr ⟨13, a, [.ref x1, .ref x2], q, cj, fs, rfl, rfl, rfl, ha, hs, hh, hq, cv_X2_work.1, by decide, by rw [hM]; exact (dp_m 781 (by decide +kernel) rfl), (dp_m 1101 (by decide +kernel) rfl), by rw [hM]; exact (dp_m 220 (by decide +kernel) rfl), cv_X2_work.2⟩))⟩ (Nat.zero_add _).symm (Nat.zero_add _).symm hE k
theorem cl_X2_23 {a : Nat} {fs : List Value}  (hM : M.1.cls = RX2) (hp : pc + 3 = pc') (hd : decode M.2.1 pc = .ok (.invokevirtual 23, 3)) (ha : 2 ≤ a) (hs : a < sz) (hh : h a = .inr (10, fs)) (hc : ev_cs st ≤ 8) (hE : EV xs L d 0 0 M_X10_size sz h 0 [some (.ref a), none, none] [] Qm) (k : ∀ sz' h' r, Qm sz' h' r → EV xs L (d + 1) kc ks M sz' h' pc' ls (r ++ st) Q) : EV xs L (d + 1) kc ks M sz h pc ls (.ref a :: st) Q :=
  r_call (As := .ref a :: []) (rest := st) hp hd ⟨⟨cm_X10_size.1, cm_X10_size.2.1, cm_X10_size.2.2.1, cm_X10_size.2.2.2.1, cm_X10_size.2.2.2.2, Nat.le_of_ble_eq_true rfl, hc⟩, Or.inr (Or.inl ⟨23, a, [], _, 10, fs, rfl, rfl, rfl, ha, hs, hh, rfl, cv_X10_size.1, cv_X10_size.2, Or.inl ⟨(dp_m 604 (by decide +kernel) rfl), rfl, by rw [hM]; exact Or.inl (dp_m 787 (by decide +kernel) rfl)⟩⟩)⟩ (Nat.zero_add _).symm (Nat.zero_add _).symm hE k
theorem cl_X6_13 {a : Nat} {fs : List Value}  (hM : M.1.cls = RX6) (hp : pc + 3 = pc') (hd : decode M.2.1 pc = .ok (.invokevirtual 13, 3)) (ha : 2 ≤ a) (hs : a < sz) (hh : h a = .inr (3, fs)) (hc : ev_cs st ≤ 8) (hE : EV xs L d 0 0 M_X3_literals sz h 0 [some (.ref a)] [] Qm) (k : ∀ sz' h' r, Qm sz' h' r → EV xs L (d + 1) kc ks M sz' h' pc' ls (r ++ st) Q) : EV xs L (d + 1) kc ks M sz h pc ls (.ref a :: st) Q :=
  r_call (As := .ref a :: []) (rest := st) hp hd ⟨⟨cm_X3_literals.1, cm_X3_literals.2.1, cm_X3_literals.2.2.1, cm_X3_literals.2.2.2.1, cm_X3_literals.2.2.2.2, Nat.le_of_ble_eq_true rfl, hc⟩, Or.inr (Or.inl ⟨13, a, [], _, 3, fs, rfl, rfl, rfl, ha, hs, hh, rfl, cv_X3_literals.1, cv_X3_literals.2, Or.inl ⟨(dp_m 490 (by decide +kernel) rfl), rfl, by rw [hM]; exact Or.inl (dp_m 796 (by decide +kernel) rfl)⟩⟩)⟩ (Nat.zero_add _).symm (Nat.zero_add _).symm hE k
theorem cl_L_12 {kc1 ks1 a : Nat}  (hM : M.1.cls = R_law) (hp : pc + 3 = pc') (hd : decode M.2.1 pc = .ok (.invokespecial 12, 3)) (hc : ev_cs st ≤ 8) (hE : EV xs L d kc1 ks1 M_X12_init sz h 0 [some (.ref a)] [] Qm) (k : ∀ sz' h' r, Qm sz' h' r → EV xs L (d + 1) kc ks M sz' h' pc' ls (r ++ st) Q) : EV xs L (d + 1) (kc1 + kc) (ks1 + ks) M sz h pc ls (.ref a :: st) Q :=
  r_call (As := .ref a :: []) (rest := st) hp hd ⟨⟨cm_X12_init.1, cm_X12_init.2.1, cm_X12_init.2.2.1, cm_X12_init.2.2.2.1, cm_X12_init.2.2.2.2, Nat.le_of_ble_eq_true rfl, hc⟩, Or.inr (Or.inr (Or.inl ⟨12, a, [], rfl, rfl, rfl, ci_X12_init.1, ci_X12_init.2.1, ci_X12_init.2.2.1, ci_X12_init.2.2.2, by rw [hM]; exact Or.inl (dp_m 811 (by decide +kernel) rfl)⟩))⟩ rfl rfl hE k
theorem cl_X12_139 {x1 : Nat} {x2 : Nat} {x3 : Int32} (hM : M.1.cls = RX12) (hp : pc + 3 = pc') (hd : decode M.2.1 pc = .ok (.invokestatic 139, 3)) (hc : ev_cs st ≤ 8) (hE : EV xs L d 0 0 M_X12_spreads sz h 0 [some (.ref x1), some (.ref x2), some (.int x3), none, none, none, none, none, none, none, none, none, none, none, none] [] Qm) (k : ∀ sz' h' r, Qm sz' h' r → EV xs L (d + 1) kc ks M sz' h' pc' ls (r ++ st) Q) : EV xs L (d + 1) kc ks M sz h pc ls (.int x3 :: .ref x2 :: .ref x1 :: st) Q :=
  r_call (As := [.ref x1, .ref x2, .int x3]) (rest := st) hp hd ⟨⟨cm_X12_spreads.1, cm_X12_spreads.2.1, cm_X12_spreads.2.2.1, cm_X12_spreads.2.2.2.1, cm_X12_spreads.2.2.2.2, Nat.le_of_ble_eq_true rfl, hc⟩, Or.inl ⟨139, rfl, rfl, cs_X12_spreads.1, cs_X12_spreads.2, by rw [hM]; exact Or.inl (dp_m 828 (by decide +kernel) rfl)⟩⟩ (Nat.zero_add _).symm (Nat.zero_add _).symm hE k
theorem cl_L_24 {a : Nat} {fs : List Value}  (hM : M.1.cls = R_law) (hp : pc + 3 = pc') (hd : decode M.2.1 pc = .ok (.invokevirtual 24, 3)) (ha : 2 ≤ a) (hs : a < sz) (hh : h a = .inr (12, fs)) (hc : ev_cs st ≤ 8) (hE : EV xs L d 0 0 M_X12_clear sz h 0 [some (.ref a), none] [] Qm) (k : ∀ sz' h' r, Qm sz' h' r → EV xs L (d + 1) kc ks M sz' h' pc' ls (r ++ st) Q) : EV xs L (d + 1) kc ks M sz h pc ls (.ref a :: st) Q :=
  r_call (As := .ref a :: []) (rest := st) hp hd ⟨⟨cm_X12_clear.1, cm_X12_clear.2.1, cm_X12_clear.2.2.1, cm_X12_clear.2.2.2.1, cm_X12_clear.2.2.2.2, Nat.le_of_ble_eq_true rfl, hc⟩, Or.inr (Or.inl ⟨24, a, [], _, 12, fs, rfl, rfl, rfl, ha, hs, hh, rfl, cv_X12_clear.1, cv_X12_clear.2, Or.inl ⟨(dp_m 920 (by decide +kernel) rfl), rfl, by rw [hM]; exact Or.inl (dp_m 918 (by decide +kernel) rfl)⟩⟩)⟩ (Nat.zero_add _).symm (Nat.zero_add _).symm hE k
theorem cl_X12_72 {a : Nat} {fs : List Value} {x1 : Int32} (hM : M.1.cls = RX12) (hp : pc + 3 = pc') (hd : decode M.2.1 pc = .ok (.invokevirtual 72, 3)) (ha : 2 ≤ a) (hs : a < sz) (hh : h a = .inr (12, fs)) (hc : ev_cs st ≤ 8) (hE : EV xs L d 0 0 M_X12_byteAt sz h 0 [some (.ref a), some (.int x1)] [] Qm) (k : ∀ sz' h' r, Qm sz' h' r → EV xs L (d + 1) kc ks M sz' h' pc' ls (r ++ st) Q) : EV xs L (d + 1) kc ks M sz h pc ls (.int x1 :: .ref a :: st) Q :=
  r_call (As := .ref a :: [.int x1]) (rest := st) hp hd ⟨⟨cm_X12_byteAt.1, cm_X12_byteAt.2.1, cm_X12_byteAt.2.2.1, cm_X12_byteAt.2.2.2.1, cm_X12_byteAt.2.2.2.2, Nat.le_of_ble_eq_true rfl, hc⟩, Or.inr (Or.inl ⟨72, a, [.int x1], _, 12, fs, rfl, rfl, rfl, ha, hs, hh, rfl, cv_X12_byteAt.1, cv_X12_byteAt.2, Or.inl ⟨(dp_s 28 (by decide +kernel) rfl), rfl, by rw [hM]; exact Or.inl (dp_m 934 (by decide +kernel) rfl)⟩⟩)⟩ (Nat.zero_add _).symm (Nat.zero_add _).symm hE k
theorem cl_X12_109 {a : Nat} {fs : List Value} {x1 : Int32} (hM : M.1.cls = RX12) (hp : pc + 3 = pc') (hd : decode M.2.1 pc = .ok (.invokevirtual 109, 3)) (ha : 2 ≤ a) (hs : a < sz) (hh : h a = .inr (12, fs)) (hc : ev_cs st ≤ 8) (hE : EV xs L d 0 0 M_X12_readsClause sz h 0 [some (.ref a), some (.int x1), none] [] Qm) (k : ∀ sz' h' r, Qm sz' h' r → EV xs L (d + 1) kc ks M sz' h' pc' ls (r ++ st) Q) : EV xs L (d + 1) kc ks M sz h pc ls (.int x1 :: .ref a :: st) Q :=
  r_call (As := .ref a :: [.int x1]) (rest := st) hp hd ⟨⟨cm_X12_readsClause.1, cm_X12_readsClause.2.1, cm_X12_readsClause.2.2.1, cm_X12_readsClause.2.2.2.1, cm_X12_readsClause.2.2.2.2, Nat.le_of_ble_eq_true rfl, hc⟩, Or.inr (Or.inl ⟨109, a, [.int x1], _, 12, fs, rfl, rfl, rfl, ha, hs, hh, rfl, cv_X12_readsClause.1, cv_X12_readsClause.2, Or.inl ⟨(dp_s 32 (by decide +kernel) rfl), rfl, by rw [hM]; exact Or.inl (dp_m 950 (by decide +kernel) rfl)⟩⟩)⟩ (Nat.zero_add _).symm (Nat.zero_add _).symm hE k
theorem cl_X12_124 {a : Nat} {fs : List Value} {x1 : Int32} (hM : M.1.cls = RX12) (hp : pc + 3 = pc') (hd : decode M.2.1 pc = .ok (.invokevirtual 124, 3)) (ha : 2 ≤ a) (hs : a < sz) (hh : h a = .inr (12, fs)) (hc : ev_cs st ≤ 8) (hE : EV xs L d 0 0 M_X12_beginning sz h 0 [some (.ref a), some (.int x1), none, none, none, none, none, none, none, none] [] Qm) (k : ∀ sz' h' r, Qm sz' h' r → EV xs L (d + 1) kc ks M sz' h' pc' ls (r ++ st) Q) : EV xs L (d + 1) kc ks M sz h pc ls (.int x1 :: .ref a :: st) Q :=
  r_call (As := .ref a :: [.int x1]) (rest := st) hp hd ⟨⟨cm_X12_beginning.1, cm_X12_beginning.2.1, cm_X12_beginning.2.2.1, cm_X12_beginning.2.2.2.1, cm_X12_beginning.2.2.2.2, Nat.le_of_ble_eq_true rfl, hc⟩, Or.inr (Or.inl ⟨124, a, [.int x1], _, 12, fs, rfl, rfl, rfl, ha, hs, hh, rfl, cv_X12_beginning.1, cv_X12_beginning.2, Or.inl ⟨(dp_s 35 (by decide +kernel) rfl), rfl, by rw [hM]; exact Or.inl (dp_m 965 (by decide +kernel) rfl)⟩⟩)⟩ (Nat.zero_add _).symm (Nat.zero_add _).symm hE k
theorem cl_L_36 {a : Nat} {fs : List Value}  (hM : M.1.cls = R_law) (hp : pc + 3 = pc') (hd : decode M.2.1 pc = .ok (.invokevirtual 36, 3)) (ha : 2 ≤ a) (hs : a < sz) (hh : h a = .inr (12, fs)) (hc : ev_cs st ≤ 8) (hE : EV xs L d 0 0 M_X12_wrong sz h 0 [some (.ref a)] [] Qm) (k : ∀ sz' h' r, Qm sz' h' r → EV xs L (d + 1) kc ks M sz' h' pc' ls (r ++ st) Q) : EV xs L (d + 1) kc ks M sz h pc ls (.ref a :: st) Q :=
  r_call (As := .ref a :: []) (rest := st) hp hd ⟨⟨cm_X12_wrong.1, cm_X12_wrong.2.1, cm_X12_wrong.2.2.1, cm_X12_wrong.2.2.2.1, cm_X12_wrong.2.2.2.2, Nat.le_of_ble_eq_true rfl, hc⟩, Or.inr (Or.inl ⟨36, a, [], _, 12, fs, rfl, rfl, rfl, ha, hs, hh, rfl, cv_X12_wrong.1, cv_X12_wrong.2, Or.inl ⟨(dp_m 983 (by decide +kernel) rfl), rfl, by rw [hM]; exact Or.inl (dp_m 981 (by decide +kernel) rfl)⟩⟩)⟩ (Nat.zero_add _).symm (Nat.zero_add _).symm hE k
theorem cl_X12_157 {a : Nat} {fs : List Value} {x1 : Int32} (hM : M.1.cls = RX12) (hp : pc + 3 = pc') (hd : decode M.2.1 pc = .ok (.invokevirtual 157, 3)) (ha : 2 ≤ a) (hs : a < sz) (hh : h a = .inr (12, fs)) (hc : ev_cs st ≤ 8) (hE : EV xs L d 0 0 M_X12_isLine sz h 0 [some (.ref a), some (.int x1)] [] Qm) (k : ∀ sz' h' r, Qm sz' h' r → EV xs L (d + 1) kc ks M sz' h' pc' ls (r ++ st) Q) : EV xs L (d + 1) kc ks M sz h pc ls (.int x1 :: .ref a :: st) Q :=
  r_call (As := .ref a :: [.int x1]) (rest := st) hp hd ⟨⟨cm_X12_isLine.1, cm_X12_isLine.2.1, cm_X12_isLine.2.2.1, cm_X12_isLine.2.2.2.1, cm_X12_isLine.2.2.2.2, Nat.le_of_ble_eq_true rfl, hc⟩, Or.inr (Or.inl ⟨157, a, [.int x1], _, 12, fs, rfl, rfl, rfl, ha, hs, hh, rfl, cv_X12_isLine.1, cv_X12_isLine.2, Or.inl ⟨(dp_s 39 (by decide +kernel) rfl), rfl, by rw [hM]; exact Or.inl (dp_m 997 (by decide +kernel) rfl)⟩⟩)⟩ (Nat.zero_add _).symm (Nat.zero_add _).symm hE k
theorem cl_X12_160 {x1 : Nat} (hM : M.1.cls = RX12) (hp : pc + 3 = pc') (hd : decode M.2.1 pc = .ok (.invokestatic 160, 3)) (hc : ev_cs st ≤ 8) (hE : EV xs L d 0 0 M_X12_many sz h 0 [some (.ref x1), none, none] [] Qm) (k : ∀ sz' h' r, Qm sz' h' r → EV xs L (d + 1) kc ks M sz' h' pc' ls (r ++ st) Q) : EV xs L (d + 1) kc ks M sz h pc ls (.ref x1 :: st) Q :=
  r_call (As := [.ref x1]) (rest := st) hp hd ⟨⟨cm_X12_many.1, cm_X12_many.2.1, cm_X12_many.2.2.1, cm_X12_many.2.2.2.1, cm_X12_many.2.2.2.2, Nat.le_of_ble_eq_true rfl, hc⟩, Or.inl ⟨160, rfl, rfl, cs_X12_many.1, cs_X12_many.2, by rw [hM]; exact Or.inl (dp_m 1013 (by decide +kernel) rfl)⟩⟩ (Nat.zero_add _).symm (Nat.zero_add _).symm hE k
theorem cl_L_72 {a : Nat} {fs : List Value} {x1 : Int32} (hM : M.1.cls = R_law) (hp : pc + 3 = pc') (hd : decode M.2.1 pc = .ok (.invokevirtual 72, 3)) (ha : 2 ≤ a) (hs : a < sz) (hh : h a = .inr (12, fs)) (hc : ev_cs st ≤ 8) (hE : EV xs L d 0 0 M_X12_between sz h 0 [some (.ref a), some (.int x1)] [] Qm) (k : ∀ sz' h' r, Qm sz' h' r → EV xs L (d + 1) kc ks M sz' h' pc' ls (r ++ st) Q) : EV xs L (d + 1) kc ks M sz h pc ls (.int x1 :: .ref a :: st) Q :=
  r_call (As := .ref a :: [.int x1]) (rest := st) hp hd ⟨⟨cm_X12_between.1, cm_X12_between.2.1, cm_X12_between.2.2.1, cm_X12_between.2.2.2.1, cm_X12_between.2.2.2.2, Nat.le_of_ble_eq_true rfl, hc⟩, Or.inr (Or.inl ⟨72, a, [.int x1], _, 12, fs, rfl, rfl, rfl, ha, hs, hh, rfl, cv_X12_between.1, cv_X12_between.2, Or.inl ⟨(dp_m 1029 (by decide +kernel) rfl), rfl, by rw [hM]; exact Or.inl (dp_m 1027 (by decide +kernel) rfl)⟩⟩)⟩ (Nat.zero_add _).symm (Nat.zero_add _).symm hE k
theorem cl_L_76 {a : Nat} {fs : List Value} {x1 : Int32} (hM : M.1.cls = R_law) (hp : pc + 3 = pc') (hd : decode M.2.1 pc = .ok (.invokevirtual 76, 3)) (ha : 2 ≤ a) (hs : a < sz) (hh : h a = .inr (12, fs)) (hc : ev_cs st ≤ 8) (hE : EV xs L d 0 0 M_X12_looks sz h 0 [some (.ref a), some (.int x1)] [] Qm) (k : ∀ sz' h' r, Qm sz' h' r → EV xs L (d + 1) kc ks M sz' h' pc' ls (r ++ st) Q) : EV xs L (d + 1) kc ks M sz h pc ls (.int x1 :: .ref a :: st) Q :=
  r_call (As := .ref a :: [.int x1]) (rest := st) hp hd ⟨⟨cm_X12_looks.1, cm_X12_looks.2.1, cm_X12_looks.2.2.1, cm_X12_looks.2.2.2.1, cm_X12_looks.2.2.2.2, Nat.le_of_ble_eq_true rfl, hc⟩, Or.inr (Or.inl ⟨76, a, [.int x1], _, 12, fs, rfl, rfl, rfl, ha, hs, hh, rfl, cv_X12_looks.1, cv_X12_looks.2, Or.inl ⟨(dp_m 1044 (by decide +kernel) rfl), rfl, by rw [hM]; exact Or.inl (dp_m 1042 (by decide +kernel) rfl)⟩⟩)⟩ (Nat.zero_add _).symm (Nat.zero_add _).symm hE k
theorem cl_L_88 {a : Nat} {fs : List Value} {x1 : Int32} (hM : M.1.cls = R_law) (hp : pc + 3 = pc') (hd : decode M.2.1 pc = .ok (.invokevirtual 88, 3)) (ha : 2 ≤ a) (hs : a < sz) (hh : h a = .inr (12, fs)) (hc : ev_cs st ≤ 8) (hE : EV xs L d 0 0 M_X12_fewest sz h 0 [some (.ref a), some (.int x1), none, none, none, none, none] [] Qm) (k : ∀ sz' h' r, Qm sz' h' r → EV xs L (d + 1) kc ks M sz' h' pc' ls (r ++ st) Q) : EV xs L (d + 1) kc ks M sz h pc ls (.int x1 :: .ref a :: st) Q :=
  r_call (As := .ref a :: [.int x1]) (rest := st) hp hd ⟨⟨cm_X12_fewest.1, cm_X12_fewest.2.1, cm_X12_fewest.2.2.1, cm_X12_fewest.2.2.2.1, cm_X12_fewest.2.2.2.2, Nat.le_of_ble_eq_true rfl, hc⟩, Or.inr (Or.inl ⟨88, a, [.int x1], _, 12, fs, rfl, rfl, rfl, ha, hs, hh, rfl, cv_X12_fewest.1, cv_X12_fewest.2, Or.inl ⟨(dp_m 1059 (by decide +kernel) rfl), rfl, by rw [hM]; exact Or.inl (dp_m 1057 (by decide +kernel) rfl)⟩⟩)⟩ (Nat.zero_add _).symm (Nat.zero_add _).symm hE k
theorem cl_L_104 {a : Nat} {fs : List Value}  (hM : M.1.cls = R_law) (hp : pc + 3 = pc') (hd : decode M.2.1 pc = .ok (.invokevirtual 104, 3)) (ha : 2 ≤ a) (hs : a < sz) (hh : h a = .inr (12, fs)) (hc : ev_cs st ≤ 8) (hE : EV xs L d 0 0 M_X12_used sz h 0 [some (.ref a), none, none, none, none] [] Qm) (k : ∀ sz' h' r, Qm sz' h' r → EV xs L (d + 1) kc ks M sz' h' pc' ls (r ++ st) Q) : EV xs L (d + 1) kc ks M sz h pc ls (.ref a :: st) Q :=
  r_call (As := .ref a :: []) (rest := st) hp hd ⟨⟨cm_X12_used.1, cm_X12_used.2.1, cm_X12_used.2.2.1, cm_X12_used.2.2.2.1, cm_X12_used.2.2.2.2, Nat.le_of_ble_eq_true rfl, hc⟩, Or.inr (Or.inl ⟨104, a, [], _, 12, fs, rfl, rfl, rfl, ha, hs, hh, rfl, cv_X12_used.1, cv_X12_used.2, Or.inl ⟨(dp_m 1075 (by decide +kernel) rfl), rfl, by rw [hM]; exact Or.inl (dp_m 1073 (by decide +kernel) rfl)⟩⟩)⟩ (Nat.zero_add _).symm (Nat.zero_add _).symm hE k
theorem cl_L_116 {a : Nat} {fs : List Value} {x1 : Int32} (hM : M.1.cls = R_law) (hp : pc + 3 = pc') (hd : decode M.2.1 pc = .ok (.invokevirtual 116, 3)) (ha : 2 ≤ a) (hs : a < sz) (hh : h a = .inr (12, fs)) (hc : ev_cs st ≤ 8) (hE : EV xs L d 0 0 M_X12_count sz h 0 [some (.ref a), some (.int x1)] [] Qm) (k : ∀ sz' h' r, Qm sz' h' r → EV xs L (d + 1) kc ks M sz' h' pc' ls (r ++ st) Q) : EV xs L (d + 1) kc ks M sz h pc ls (.int x1 :: .ref a :: st) Q :=
  r_call (As := .ref a :: [.int x1]) (rest := st) hp hd ⟨⟨cm_X12_count.1, cm_X12_count.2.1, cm_X12_count.2.2.1, cm_X12_count.2.2.2.1, cm_X12_count.2.2.2.2, Nat.le_of_ble_eq_true rfl, hc⟩, Or.inr (Or.inl ⟨116, a, [.int x1], _, 12, fs, rfl, rfl, rfl, ha, hs, hh, rfl, cv_X12_count.1, cv_X12_count.2, Or.inl ⟨(dp_m 1094 (by decide +kernel) rfl), rfl, by rw [hM]; exact Or.inl (dp_m 1092 (by decide +kernel) rfl)⟩⟩)⟩ (Nat.zero_add _).symm (Nat.zero_add _).symm hE k
theorem cl_X7_11 {kc1 ks1 a : Nat}  (hM : M.1.cls = RX7) (hp : pc + 3 = pc') (hd : decode M.2.1 pc = .ok (.invokespecial 11, 3)) (hc : ev_cs st ≤ 8) (hE : EV xs L d kc1 ks1 M_X10_init sz h 0 [some (.ref a)] [] Qm) (k : ∀ sz' h' r, Qm sz' h' r → EV xs L (d + 1) kc ks M sz' h' pc' ls (r ++ st) Q) : EV xs L (d + 1) (kc1 + kc) (ks1 + ks) M sz h pc ls (.ref a :: st) Q :=
  r_call (As := .ref a :: []) (rest := st) hp hd ⟨⟨cm_X10_init.1, cm_X10_init.2.1, cm_X10_init.2.2.1, cm_X10_init.2.2.2.1, cm_X10_init.2.2.2.2, Nat.le_of_ble_eq_true rfl, hc⟩, Or.inr (Or.inr (Or.inl ⟨11, a, [], rfl, rfl, rfl, ci_X10_init.1, ci_X10_init.2.1, ci_X10_init.2.2.1, ci_X10_init.2.2.2, by rw [hM]; exact Or.inr ⟨"SharedSense", (dp_n 99 (by decide +kernel) rfl)⟩⟩))⟩ rfl rfl hE k
theorem cl_X11_59 {kc1 ks1 a : Nat}  (hM : M.1.cls = RX11) (hp : pc + 3 = pc') (hd : decode M.2.1 pc = .ok (.invokespecial 59, 3)) (hc : ev_cs st ≤ 8) (hE : EV xs L d kc1 ks1 M_X6_init sz h 0 [some (.ref a)] [] Qm) (k : ∀ sz' h' r, Qm sz' h' r → EV xs L (d + 1) kc ks M sz' h' pc' ls (r ++ st) Q) : EV xs L (d + 1) (kc1 + kc) (ks1 + ks) M sz h pc ls (.ref a :: st) Q :=
  r_call (As := .ref a :: []) (rest := st) hp hd ⟨⟨cm_X6_init.1, cm_X6_init.2.1, cm_X6_init.2.2.1, cm_X6_init.2.2.2.1, cm_X6_init.2.2.2.2, Nat.le_of_ble_eq_true rfl, hc⟩, Or.inr (Or.inr (Or.inl ⟨59, a, [], rfl, rfl, rfl, ci_X6_init.1, ci_X6_init.2.1, ci_X6_init.2.2.1, ci_X6_init.2.2.2, by rw [hM]; exact Or.inr ⟨"SharedSense", (dp_n 195 (by decide +kernel) rfl)⟩⟩))⟩ rfl rfl hE k
theorem cl_X5_1 {kc1 ks1 a : Nat}  (hM : M.1.cls = RX5) (hp : pc + 3 = pc') (hd : decode M.2.1 pc = .ok (.invokespecial 1, 3)) (hc : ev_cs st ≤ 8) (hE : EV xs L d kc1 ks1 M_X6_init sz h 0 [some (.ref a)] [] Qm) (k : ∀ sz' h' r, Qm sz' h' r → EV xs L (d + 1) kc ks M sz' h' pc' ls (r ++ st) Q) : EV xs L (d + 1) (kc1 + kc) (ks1 + ks) M sz h pc ls (.ref a :: st) Q :=
  r_call (As := .ref a :: []) (rest := st) hp hd ⟨⟨cm_X6_init.1, cm_X6_init.2.1, cm_X6_init.2.2.1, cm_X6_init.2.2.2.1, cm_X6_init.2.2.2.2, Nat.le_of_ble_eq_true rfl, hc⟩, Or.inr (Or.inr (Or.inl ⟨1, a, [], rfl, rfl, rfl, ci_X6_init.1, ci_X6_init.2.1, ci_X6_init.2.2.1, ci_X6_init.2.2.2, by rw [hM]; exact Or.inr ⟨"SharedSense", (dp_n 212 (by decide +kernel) rfl)⟩⟩))⟩ rfl rfl hE k
theorem cl_X10_20 {x1 : Int32} (hM : M.1.cls = RX10) (hp : pc + 3 = pc') (hd : decode M.2.1 pc = .ok (.invokestatic 20, 3)) (hc : ev_cs st ≤ 8) (hE : EV xs L d 0 0 M_X11_isWorld sz h 0 [some (.int x1)] [] Qm) (k : ∀ sz' h' r, Qm sz' h' r → EV xs L (d + 1) kc ks M sz' h' pc' ls (r ++ st) Q) : EV xs L (d + 1) kc ks M sz h pc ls (.int x1 :: st) Q :=
  r_call (As := [.int x1]) (rest := st) hp hd ⟨⟨cm_X11_isWorld.1, cm_X11_isWorld.2.1, cm_X11_isWorld.2.2.1, cm_X11_isWorld.2.2.2.1, cm_X11_isWorld.2.2.2.2, Nat.le_of_ble_eq_true rfl, hc⟩, Or.inl ⟨20, rfl, rfl, cs_X11_isWorld.1, cs_X11_isWorld.2, by rw [hM]; exact Or.inr ⟨"SharedSense", (dp_n 631 (by decide +kernel) rfl)⟩⟩⟩ (Nat.zero_add _).symm (Nat.zero_add _).symm hE k
end CL
end
section
section CL
variable {xs : Nat → Int32} {L d kc ks : Nat} {M : ev_M} {sz : Nat} {h : ev_H} {pc : Nat} {ls : ev_L} {st : List Value} {Q : ev_Q} {pc' : Nat} {Qm : ev_Q}
theorem cl_X11_31 {kc1 ks1 a : Nat}  (hM : M.1.cls = RX11) (hp : pc + 3 = pc') (hd : decode M.2.1 pc = .ok (.invokespecial 31, 3)) (hc : ev_cs st ≤ 8) (hE : EV xs L d kc1 ks1 M_X7_init sz h 0 [some (.ref a)] [] Qm) (k : ∀ sz' h' r, Qm sz' h' r → EV xs L (d + 1) kc ks M sz' h' pc' ls (r ++ st) Q) : EV xs L (d + 1) (kc1 + kc) (ks1 + ks) M sz h pc ls (.ref a :: st) Q :=
  r_call (As := .ref a :: []) (rest := st) hp hd ⟨⟨cm_X7_init.1, cm_X7_init.2.1, cm_X7_init.2.2.1, cm_X7_init.2.2.2.1, cm_X7_init.2.2.2.2, Nat.le_of_ble_eq_true rfl, hc⟩, Or.inr (Or.inr (Or.inl ⟨31, a, [], rfl, rfl, rfl, ci_X7_init.1, ci_X7_init.2.1, ci_X7_init.2.2.1, ci_X7_init.2.2.2, by rw [hM]; exact Or.inl (dp_m 93 (by decide +kernel) rfl)⟩))⟩ rfl rfl hE k
theorem cl_X11_38 {kc1 ks1 a : Nat}  (hM : M.1.cls = RX11) (hp : pc + 3 = pc') (hd : decode M.2.1 pc = .ok (.invokespecial 38, 3)) (hc : ev_cs st ≤ 8) (hE : EV xs L d kc1 ks1 M_X0_init sz h 0 [some (.ref a), none] [] Qm) (k : ∀ sz' h' r, Qm sz' h' r → EV xs L (d + 1) kc ks M sz' h' pc' ls (r ++ st) Q) : EV xs L (d + 1) (kc1 + kc) (ks1 + ks) M sz h pc ls (.ref a :: st) Q :=
  r_call (As := .ref a :: []) (rest := st) hp hd ⟨⟨cm_X0_init.1, cm_X0_init.2.1, cm_X0_init.2.2.1, cm_X0_init.2.2.2.1, cm_X0_init.2.2.2.2, Nat.le_of_ble_eq_true rfl, hc⟩, Or.inr (Or.inr (Or.inl ⟨38, a, [], rfl, rfl, rfl, ci_X0_init.1, ci_X0_init.2.1, ci_X0_init.2.2.1, ci_X0_init.2.2.2, by rw [hM]; exact Or.inl (dp_m 155 (by decide +kernel) rfl)⟩))⟩ rfl rfl hE k
theorem cl_X11_94 {a : Nat} {fs : List Value}  (hM : M.1.cls = RX11) (hp : pc + 3 = pc') (hd : decode M.2.1 pc = .ok (.invokevirtual 94, 3)) (ha : 2 ≤ a) (hs : a < sz) (hh : h a = .inr (8, fs)) (hc : ev_cs st ≤ 8) (hE : EV xs L d 0 0 M_X8_size sz h 0 [some (.ref a)] [] Qm) (k : ∀ sz' h' r, Qm sz' h' r → EV xs L (d + 1) kc ks M sz' h' pc' ls (r ++ st) Q) : EV xs L (d + 1) kc ks M sz h pc ls (.ref a :: st) Q :=
  r_call (As := .ref a :: []) (rest := st) hp hd ⟨⟨cm_X8_size.1, cm_X8_size.2.1, cm_X8_size.2.2.1, cm_X8_size.2.2.2.1, cm_X8_size.2.2.2.2, Nat.le_of_ble_eq_true rfl, hc⟩, Or.inr (Or.inl ⟨94, a, [], _, 8, fs, rfl, rfl, rfl, ha, hs, hh, rfl, cv_X8_size.1, cv_X8_size.2, Or.inl ⟨(dp_m 312 (by decide +kernel) rfl), rfl, by rw [hM]; exact Or.inl (dp_m 310 (by decide +kernel) rfl)⟩⟩)⟩ (Nat.zero_add _).symm (Nat.zero_add _).symm hE k
theorem cl_X11_101 {a : Nat} {fs : List Value} {x1 : Nat} (hM : M.1.cls = RX11) (hp : pc + 3 = pc') (hd : decode M.2.1 pc = .ok (.invokevirtual 101, 3)) (ha : 2 ≤ a) (hs : a < sz) (hh : h a = .inr (4, fs)) (hc : ev_cs st ≤ 8) (hE : EV xs L d 0 0 M_X4_readClauses sz h 0 [some (.ref a), some (.ref x1), none] [] Qm) (k : ∀ sz' h' r, Qm sz' h' r → EV xs L (d + 1) kc ks M sz' h' pc' ls (r ++ st) Q) : EV xs L (d + 1) kc ks M sz h pc ls (.ref x1 :: .ref a :: st) Q :=
  r_call (As := .ref a :: [.ref x1]) (rest := st) hp hd ⟨⟨cm_X4_readClauses.1, cm_X4_readClauses.2.1, cm_X4_readClauses.2.2.1, cm_X4_readClauses.2.2.2.1, cm_X4_readClauses.2.2.2.2, Nat.le_of_ble_eq_true rfl, hc⟩, Or.inr (Or.inl ⟨101, a, [.ref x1], _, 4, fs, rfl, rfl, rfl, ha, hs, hh, rfl, cv_X4_readClauses.1, cv_X4_readClauses.2, Or.inl ⟨(dp_m 328 (by decide +kernel) rfl), rfl, by rw [hM]; exact Or.inl (dp_m 326 (by decide +kernel) rfl)⟩⟩)⟩ (Nat.zero_add _).symm (Nat.zero_add _).symm hE k
theorem cl_X8_37 {a : Nat} {fs : List Value} {x1 : Int32} (hM : M.1.cls = RX8) (hp : pc + 3 = pc') (hd : decode M.2.1 pc = .ok (.invokevirtual 37, 3)) (ha : 2 ≤ a) (hs : a < sz) (hh : h a = .inr (8, fs)) (hc : ev_cs st ≤ 8) (hE : EV xs L d 0 0 M_X8_byteAt sz h 0 [some (.ref a), some (.int x1)] [] Qm) (k : ∀ sz' h' r, Qm sz' h' r → EV xs L (d + 1) kc ks M sz' h' pc' ls (r ++ st) Q) : EV xs L (d + 1) kc ks M sz h pc ls (.int x1 :: .ref a :: st) Q :=
  r_call (As := .ref a :: [.int x1]) (rest := st) hp hd ⟨⟨cm_X8_byteAt.1, cm_X8_byteAt.2.1, cm_X8_byteAt.2.2.1, cm_X8_byteAt.2.2.2.1, cm_X8_byteAt.2.2.2.2, Nat.le_of_ble_eq_true rfl, hc⟩, Or.inr (Or.inl ⟨37, a, [.int x1], _, 8, fs, rfl, rfl, rfl, ha, hs, hh, rfl, cv_X8_byteAt.1, cv_X8_byteAt.2, Or.inl ⟨(dp_s 1 (by decide +kernel) rfl), rfl, by rw [hM]; exact Or.inl (dp_m 342 (by decide +kernel) rfl)⟩⟩)⟩ (Nat.zero_add _).symm (Nat.zero_add _).symm hE k
theorem cl_X8_51 {a : Nat} {fs : List Value}  (hM : M.1.cls = RX8) (hp : pc + 3 = pc') (hd : decode M.2.1 pc = .ok (.invokevirtual 51, 3)) (ha : 2 ≤ a) (hs : a < sz) (hh : h a = .inr (8, fs)) (hc : ev_cs st ≤ 8) (hE : EV xs L d 0 0 M_X8_readNumber sz h 0 [some (.ref a), none] [] Qm) (k : ∀ sz' h' r, Qm sz' h' r → EV xs L (d + 1) kc ks M sz' h' pc' ls (r ++ st) Q) : EV xs L (d + 1) kc ks M sz h pc ls (.ref a :: st) Q :=
  r_call (As := .ref a :: []) (rest := st) hp hd ⟨⟨cm_X8_readNumber.1, cm_X8_readNumber.2.1, cm_X8_readNumber.2.2.1, cm_X8_readNumber.2.2.2.1, cm_X8_readNumber.2.2.2.2, Nat.le_of_ble_eq_true rfl, hc⟩, Or.inr (Or.inl ⟨51, a, [], _, 8, fs, rfl, rfl, rfl, ha, hs, hh, rfl, cv_X8_readNumber.1, cv_X8_readNumber.2, Or.inl ⟨(dp_s 3 (by decide +kernel) rfl), rfl, by rw [hM]; exact Or.inl (dp_m 359 (by decide +kernel) rfl)⟩⟩)⟩ (Nat.zero_add _).symm (Nat.zero_add _).symm hE k
theorem cl_X4_57 {a : Nat} {fs : List Value}  (hM : M.1.cls = RX4) (hp : pc + 3 = pc') (hd : decode M.2.1 pc = .ok (.invokevirtual 57, 3)) (ha : 2 ≤ a) (hs : a < sz) (hh : h a = .inr (8, fs)) (hc : ev_cs st ≤ 8) (hE : EV xs L d 0 0 M_X8_value sz h 0 [some (.ref a)] [] Qm) (k : ∀ sz' h' r, Qm sz' h' r → EV xs L (d + 1) kc ks M sz' h' pc' ls (r ++ st) Q) : EV xs L (d + 1) kc ks M sz h pc ls (.ref a :: st) Q :=
  r_call (As := .ref a :: []) (rest := st) hp hd ⟨⟨cm_X8_value.1, cm_X8_value.2.1, cm_X8_value.2.2.1, cm_X8_value.2.2.2.1, cm_X8_value.2.2.2.2, Nat.le_of_ble_eq_true rfl, hc⟩, Or.inr (Or.inl ⟨57, a, [], _, 8, fs, rfl, rfl, rfl, ha, hs, hh, rfl, cv_X8_value.1, cv_X8_value.2, Or.inl ⟨(dp_m 376 (by decide +kernel) rfl), rfl, by rw [hM]; exact Or.inl (dp_m 374 (by decide +kernel) rfl)⟩⟩)⟩ (Nat.zero_add _).symm (Nat.zero_add _).symm hE k
theorem cl_X4_54 {a : Nat} {fs : List Value}  (hM : M.1.cls = RX4) (hp : pc + 3 = pc') (hd : decode M.2.1 pc = .ok (.invokevirtual 54, 3)) (ha : 2 ≤ a) (hs : a < sz) (hh : h a = .inr (8, fs)) (hc : ev_cs st ≤ 8) (hE : EV xs L d 0 0 M_X8_start sz h 0 [some (.ref a)] [] Qm) (k : ∀ sz' h' r, Qm sz' h' r → EV xs L (d + 1) kc ks M sz' h' pc' ls (r ++ st) Q) : EV xs L (d + 1) kc ks M sz h pc ls (.ref a :: st) Q :=
  r_call (As := .ref a :: []) (rest := st) hp hd ⟨⟨cm_X8_start.1, cm_X8_start.2.1, cm_X8_start.2.2.1, cm_X8_start.2.2.2.1, cm_X8_start.2.2.2.2, Nat.le_of_ble_eq_true rfl, hc⟩, Or.inr (Or.inl ⟨54, a, [], _, 8, fs, rfl, rfl, rfl, ha, hs, hh, rfl, cv_X8_start.1, cv_X8_start.2, Or.inl ⟨(dp_m 388 (by decide +kernel) rfl), rfl, by rw [hM]; exact Or.inl (dp_m 386 (by decide +kernel) rfl)⟩⟩)⟩ (Nat.zero_add _).symm (Nat.zero_add _).symm hE k
theorem cl_X11_234 {a : Nat} {fs : List Value} {x1 : Int32} (hM : M.1.cls = RX11) (hp : pc + 3 = pc') (hd : decode M.2.1 pc = .ok (.invokevirtual 234, 3)) (ha : 2 ≤ a) (hs : a < sz) (hh : h a = .inr (4, fs)) (hc : ev_cs st ≤ 8) (hE : EV xs L d 0 0 M_X4_sideOf sz h 0 [some (.ref a), some (.int x1)] [] Qm) (k : ∀ sz' h' r, Qm sz' h' r → EV xs L (d + 1) kc ks M sz' h' pc' ls (r ++ st) Q) : EV xs L (d + 1) kc ks M sz h pc ls (.int x1 :: .ref a :: st) Q :=
  r_call (As := .ref a :: [.int x1]) (rest := st) hp hd ⟨⟨cm_X4_sideOf.1, cm_X4_sideOf.2.1, cm_X4_sideOf.2.2.1, cm_X4_sideOf.2.2.2.1, cm_X4_sideOf.2.2.2.2, Nat.le_of_ble_eq_true rfl, hc⟩, Or.inr (Or.inl ⟨234, a, [.int x1], _, 4, fs, rfl, rfl, rfl, ha, hs, hh, rfl, cv_X4_sideOf.1, cv_X4_sideOf.2, Or.inl ⟨(dp_m 401 (by decide +kernel) rfl), rfl, by rw [hM]; exact Or.inl (dp_m 399 (by decide +kernel) rfl)⟩⟩)⟩ (Nat.zero_add _).symm (Nat.zero_add _).symm hE k
theorem cl_X11_243 {a : Nat} {fs : List Value} {x1 : Int32} {x2 : Int32} {x3 : Int32} (hM : M.1.cls = RX11) (hp : pc + 3 = pc') (hd : decode M.2.1 pc = .ok (.invokevirtual 243, 3)) (ha : 2 ≤ a) (hs : a < sz) (hh : h a = .inr (3, fs)) (hc : ev_cs st ≤ 8) (hE : EV xs L d 0 0 M_X3_becomeClause sz h 0 [some (.ref a), some (.int x1), some (.int x2), some (.int x3)] [] Qm) (k : ∀ sz' h' r, Qm sz' h' r → EV xs L (d + 1) kc ks M sz' h' pc' ls (r ++ st) Q) : EV xs L (d + 1) kc ks M sz h pc ls (.int x3 :: .int x2 :: .int x1 :: .ref a :: st) Q :=
  r_call (As := .ref a :: [.int x1, .int x2, .int x3]) (rest := st) hp hd ⟨⟨cm_X3_becomeClause.1, cm_X3_becomeClause.2.1, cm_X3_becomeClause.2.2.1, cm_X3_becomeClause.2.2.2.1, cm_X3_becomeClause.2.2.2.2, Nat.le_of_ble_eq_true rfl, hc⟩, Or.inr (Or.inl ⟨243, a, [.int x1, .int x2, .int x3], _, 3, fs, rfl, rfl, rfl, ha, hs, hh, rfl, cv_X3_becomeClause.1, cv_X3_becomeClause.2, Or.inl ⟨(dp_m 416 (by decide +kernel) rfl), rfl, by rw [hM]; exact Or.inl (dp_m 414 (by decide +kernel) rfl)⟩⟩)⟩ (Nat.zero_add _).symm (Nat.zero_add _).symm hE k
theorem cl_X3_46 {a : Nat} {fs : List Value} {x1 : Int32} {x2 : Int32} (hM : M.1.cls = RX3) (hp : pc + 3 = pc') (hd : decode M.2.1 pc = .ok (.invokevirtual 46, 3)) (ha : 2 ≤ a) (hs : a < sz) (hh : h a = .inr (10, fs)) (hc : ev_cs st ≤ 8) (hE : EV xs L d 0 0 M_X10_joinWhere sz h 0 [some (.ref a), some (.int x1), some (.int x2), none, none, none] [] Qm) (k : ∀ sz' h' r, Qm sz' h' r → EV xs L (d + 1) kc ks M sz' h' pc' ls (r ++ st) Q) : EV xs L (d + 1) kc ks M sz h pc ls (.int x2 :: .int x1 :: .ref a :: st) Q :=
  r_call (As := .ref a :: [.int x1, .int x2]) (rest := st) hp hd ⟨⟨cm_X10_joinWhere.1, cm_X10_joinWhere.2.1, cm_X10_joinWhere.2.2.1, cm_X10_joinWhere.2.2.2.1, cm_X10_joinWhere.2.2.2.2, Nat.le_of_ble_eq_true rfl, hc⟩, Or.inr (Or.inl ⟨46, a, [.int x1, .int x2], _, 10, fs, rfl, rfl, rfl, ha, hs, hh, rfl, cv_X10_joinWhere.1, cv_X10_joinWhere.2, Or.inl ⟨(dp_m 429 (by decide +kernel) rfl), rfl, by rw [hM]; exact Or.inl (dp_m 427 (by decide +kernel) rfl)⟩⟩)⟩ (Nat.zero_add _).symm (Nat.zero_add _).symm hE k
theorem cl_X7_57 {a : Nat} {fs : List Value} {x1 : Nat} (hM : M.1.cls = RX7) (hp : pc + 3 = pc') (hd : decode M.2.1 pc = .ok (.invokevirtual 57, 3)) (ha : 2 ≤ a) (hs : a < sz) (hh : h a = .inr (10, fs)) (hc : ev_cs st ≤ 8) (hE : EV xs L d 0 0 M_X10_become sz h 0 [some (.ref a), some (.ref x1), none] [] Qm) (k : ∀ sz' h' r, Qm sz' h' r → EV xs L (d + 1) kc ks M sz' h' pc' ls (r ++ st) Q) : EV xs L (d + 1) kc ks M sz h pc ls (.ref x1 :: .ref a :: st) Q :=
  r_call (As := .ref a :: [.ref x1]) (rest := st) hp hd ⟨⟨cm_X10_become.1, cm_X10_become.2.1, cm_X10_become.2.2.1, cm_X10_become.2.2.2.1, cm_X10_become.2.2.2.2, Nat.le_of_ble_eq_true rfl, hc⟩, Or.inr (Or.inl ⟨57, a, [.ref x1], _, 10, fs, rfl, rfl, rfl, ha, hs, hh, rfl, cv_X10_become.1, cv_X10_become.2, Or.inl ⟨(dp_m 446 (by decide +kernel) rfl), rfl, by rw [hM]; exact Or.inl (dp_m 444 (by decide +kernel) rfl)⟩⟩)⟩ (Nat.zero_add _).symm (Nat.zero_add _).symm hE k
theorem cl_X10_48 {a : Nat} {fs : List Value} {x1 : Int32} {x2 : Int32} (hM : M.1.cls = RX10) (hp : pc + 3 = pc') (hd : decode M.2.1 pc = .ok (.invokevirtual 48, 3)) (ha : 2 ≤ a) (hs : a < sz) (hh : h a = .inr (10, fs)) (hc : ev_cs st ≤ 8) (hE : EV xs L d 0 0 M_X10_partTurned sz h 0 [some (.ref a), some (.int x1), some (.int x2), none] [] Qm) (k : ∀ sz' h' r, Qm sz' h' r → EV xs L (d + 1) kc ks M sz' h' pc' ls (r ++ st) Q) : EV xs L (d + 1) kc ks M sz h pc ls (.int x2 :: .int x1 :: .ref a :: st) Q :=
  r_call (As := .ref a :: [.int x1, .int x2]) (rest := st) hp hd ⟨⟨cm_X10_partTurned.1, cm_X10_partTurned.2.1, cm_X10_partTurned.2.2.1, cm_X10_partTurned.2.2.2.1, cm_X10_partTurned.2.2.2.2, Nat.le_of_ble_eq_true rfl, hc⟩, Or.inr (Or.inl ⟨48, a, [.int x1, .int x2], _, 10, fs, rfl, rfl, rfl, ha, hs, hh, rfl, cv_X10_partTurned.1, cv_X10_partTurned.2, Or.inl ⟨(dp_s 7 (by decide +kernel) rfl), rfl, by rw [hM]; exact Or.inl (dp_m 460 (by decide +kernel) rfl)⟩⟩)⟩ (Nat.zero_add _).symm (Nat.zero_add _).symm hE k
theorem cl_X0_31 {a : Nat} {fs : List Value} {x1 : Nat} {x2 : Int32} (hM : M.1.cls = RX0) (hp : pc + 3 = pc') (hd : decode M.2.1 pc = .ok (.invokevirtual 31, 3)) (ha : 2 ≤ a) (hs : a < sz) (hh : h a = .inr (3, fs)) (hc : ev_cs st ≤ 8) (hE : EV xs L d 0 0 M_X3_gatherWorlds sz h 0 [some (.ref a), some (.ref x1), some (.int x2), none, none] [] Qm) (k : ∀ sz' h' r, Qm sz' h' r → EV xs L (d + 1) kc ks M sz' h' pc' ls (r ++ st) Q) : EV xs L (d + 1) kc ks M sz h pc ls (.int x2 :: .ref x1 :: .ref a :: st) Q :=
  r_call (As := .ref a :: [.ref x1, .int x2]) (rest := st) hp hd ⟨⟨cm_X3_gatherWorlds.1, cm_X3_gatherWorlds.2.1, cm_X3_gatherWorlds.2.2.1, cm_X3_gatherWorlds.2.2.2.1, cm_X3_gatherWorlds.2.2.2.2, Nat.le_of_ble_eq_true rfl, hc⟩, Or.inr (Or.inl ⟨31, a, [.ref x1, .int x2], _, 3, fs, rfl, rfl, rfl, ha, hs, hh, rfl, cv_X3_gatherWorlds.1, cv_X3_gatherWorlds.2, Or.inl ⟨(dp_m 424 (by decide +kernel) rfl), rfl, by rw [hM]; exact Or.inl (dp_m 470 (by decide +kernel) rfl)⟩⟩)⟩ (Nat.zero_add _).symm (Nat.zero_add _).symm hE k
theorem cl_X3_54 {a : Nat} {fs : List Value}  (hM : M.1.cls = RX3) (hp : pc + 3 = pc') (hd : decode M.2.1 pc = .ok (.invokevirtual 54, 3)) (ha : 2 ≤ a) (hs : a < sz) (hh : h a = .inr (10, fs)) (hc : ev_cs st ≤ 8) (hE : EV xs L d 0 0 M_X10_fill sz h 0 [some (.ref a)] [] Qm) (k : ∀ sz' h' r, Qm sz' h' r → EV xs L (d + 1) kc ks M sz' h' pc' ls (r ++ st) Q) : EV xs L (d + 1) kc ks M sz h pc ls (.ref a :: st) Q :=
  r_call (As := .ref a :: []) (rest := st) hp hd ⟨⟨cm_X10_fill.1, cm_X10_fill.2.1, cm_X10_fill.2.2.1, cm_X10_fill.2.2.2.1, cm_X10_fill.2.2.2.2, Nat.le_of_ble_eq_true rfl, hc⟩, Or.inr (Or.inl ⟨54, a, [], _, 10, fs, rfl, rfl, rfl, ha, hs, hh, rfl, cv_X10_fill.1, cv_X10_fill.2, Or.inl ⟨(dp_m 110 (by decide +kernel) rfl), rfl, by rw [hM]; exact Or.inl (dp_m 477 (by decide +kernel) rfl)⟩⟩)⟩ (Nat.zero_add _).symm (Nat.zero_add _).symm hE k
theorem cl_X11_260 {a : Nat} {fs : List Value}  (hM : M.1.cls = RX11) (hp : pc + 3 = pc') (hd : decode M.2.1 pc = .ok (.invokevirtual 260, 3)) (ha : 2 ≤ a) (hs : a < sz) (hh : h a = .inr (11, fs)) (hc : ev_cs st ≤ 8) (hE : EV xs L d 0 0 M_X11_firstEmptyLine sz h 0 [some (.ref a), none] [] Qm) (k : ∀ sz' h' r, Qm sz' h' r → EV xs L (d + 1) kc ks M sz' h' pc' ls (r ++ st) Q) : EV xs L (d + 1) kc ks M sz h pc ls (.ref a :: st) Q :=
  r_call (As := .ref a :: []) (rest := st) hp hd ⟨⟨cm_X11_firstEmptyLine.1, cm_X11_firstEmptyLine.2.1, cm_X11_firstEmptyLine.2.2.1, cm_X11_firstEmptyLine.2.2.2.1, cm_X11_firstEmptyLine.2.2.2.2, Nat.le_of_ble_eq_true rfl, hc⟩, Or.inr (Or.inl ⟨260, a, [], _, 11, fs, rfl, rfl, rfl, ha, hs, hh, rfl, cv_X11_firstEmptyLine.1, cv_X11_firstEmptyLine.2, Or.inl ⟨(dp_s 9 (by decide +kernel) rfl), rfl, by rw [hM]; exact Or.inl (dp_m 484 (by decide +kernel) rfl)⟩⟩)⟩ (Nat.zero_add _).symm (Nat.zero_add _).symm hE k
theorem cl_X11_111 {a : Nat} {fs : List Value} {x1 : Nat} {x2 : Int32} (hM : M.1.cls = RX11) (hp : pc + 3 = pc') (hd : decode M.2.1 pc = .ok (.invokevirtual 111, 3)) (ha : 2 ≤ a) (hs : a < sz) (hh : h a = .inr (4, fs)) (hc : ev_cs st ≤ 8) (hE : EV xs L d 0 0 M_X4_readSteps sz h 0 [some (.ref a), some (.ref x1), some (.int x2), none] [] Qm) (k : ∀ sz' h' r, Qm sz' h' r → EV xs L (d + 1) kc ks M sz' h' pc' ls (r ++ st) Q) : EV xs L (d + 1) kc ks M sz h pc ls (.int x2 :: .ref x1 :: .ref a :: st) Q :=
  r_call (As := .ref a :: [.ref x1, .int x2]) (rest := st) hp hd ⟨⟨cm_X4_readSteps.1, cm_X4_readSteps.2.1, cm_X4_readSteps.2.2.1, cm_X4_readSteps.2.2.2.1, cm_X4_readSteps.2.2.2.2, Nat.le_of_ble_eq_true rfl, hc⟩, Or.inr (Or.inl ⟨111, a, [.ref x1, .int x2], _, 4, fs, rfl, rfl, rfl, ha, hs, hh, rfl, cv_X4_readSteps.1, cv_X4_readSteps.2, Or.inl ⟨(dp_m 504 (by decide +kernel) rfl), rfl, by rw [hM]; exact Or.inl (dp_m 502 (by decide +kernel) rfl)⟩⟩)⟩ (Nat.zero_add _).symm (Nat.zero_add _).symm hE k
theorem cl_X11_266 {a : Nat} {fs : List Value} {x1 : Int32} (hM : M.1.cls = RX11) (hp : pc + 3 = pc') (hd : decode M.2.1 pc = .ok (.invokevirtual 266, 3)) (ha : 2 ≤ a) (hs : a < sz) (hh : h a = .inr (11, fs)) (hc : ev_cs st ≤ 8) (hE : EV xs L d 0 0 M_X11_makeLine sz h 0 [some (.ref a), some (.int x1), none, none, none, none, none, none] [] Qm) (k : ∀ sz' h' r, Qm sz' h' r → EV xs L (d + 1) kc ks M sz' h' pc' ls (r ++ st) Q) : EV xs L (d + 1) kc ks M sz h pc ls (.int x1 :: .ref a :: st) Q :=
  r_call (As := .ref a :: [.int x1]) (rest := st) hp hd ⟨⟨cm_X11_makeLine.1, cm_X11_makeLine.2.1, cm_X11_makeLine.2.2.1, cm_X11_makeLine.2.2.2.1, cm_X11_makeLine.2.2.2.2, Nat.le_of_ble_eq_true rfl, hc⟩, Or.inr (Or.inl ⟨266, a, [.int x1], _, 11, fs, rfl, rfl, rfl, ha, hs, hh, rfl, cv_X11_makeLine.1, cv_X11_makeLine.2, Or.inl ⟨(dp_s 12 (by decide +kernel) rfl), rfl, by rw [hM]; exact Or.inl (dp_m 518 (by decide +kernel) rfl)⟩⟩)⟩ (Nat.zero_add _).symm (Nat.zero_add _).symm hE k
theorem cl_X11_121 {a : Nat} {fs : List Value} {x1 : Int32} (hM : M.1.cls = RX11) (hp : pc + 3 = pc') (hd : decode M.2.1 pc = .ok (.invokevirtual 121, 3)) (ha : 2 ≤ a) (hs : a < sz) (hh : h a = .inr (11, fs)) (hc : ev_cs st ≤ 8) (hE : EV xs L d 0 0 M_X11_lineAt sz h 0 [some (.ref a), some (.int x1)] [] Qm) (k : ∀ sz' h' r, Qm sz' h' r → EV xs L (d + 1) kc ks M sz' h' pc' ls (r ++ st) Q) : EV xs L (d + 1) kc ks M sz h pc ls (.int x1 :: .ref a :: st) Q :=
  r_call (As := .ref a :: [.int x1]) (rest := st) hp hd ⟨⟨cm_X11_lineAt.1, cm_X11_lineAt.2.1, cm_X11_lineAt.2.2.1, cm_X11_lineAt.2.2.2.1, cm_X11_lineAt.2.2.2.2, Nat.le_of_ble_eq_true rfl, hc⟩, Or.inr (Or.inl ⟨121, a, [.int x1], _, 11, fs, rfl, rfl, rfl, ha, hs, hh, rfl, cv_X11_lineAt.1, cv_X11_lineAt.2, Or.inl ⟨(dp_s 13 (by decide +kernel) rfl), rfl, by rw [hM]; exact Or.inl (dp_m 534 (by decide +kernel) rfl)⟩⟩)⟩ (Nat.zero_add _).symm (Nat.zero_add _).symm hE k
theorem cl_X11_285 {a : Nat} {fs : List Value} {x1 : Nat} {x2 : Nat} {x3 : Int32} (hM : M.1.cls = RX11) (hp : pc + 3 = pc') (hd : decode M.2.1 pc = .ok (.invokevirtual 285, 3)) (ha : 2 ≤ a) (hs : a < sz) (hh : h a = .inr (3, fs)) (hc : ev_cs st ≤ 8) (hE : EV xs L d 0 0 M_X3_sayAsCut sz h 0 [some (.ref a), some (.ref x1), some (.ref x2), some (.int x3), none, none, none] [] Qm) (k : ∀ sz' h' r, Qm sz' h' r → EV xs L (d + 1) kc ks M sz' h' pc' ls (r ++ st) Q) : EV xs L (d + 1) kc ks M sz h pc ls (.int x3 :: .ref x2 :: .ref x1 :: .ref a :: st) Q :=
  r_call (As := .ref a :: [.ref x1, .ref x2, .int x3]) (rest := st) hp hd ⟨⟨cm_X3_sayAsCut.1, cm_X3_sayAsCut.2.1, cm_X3_sayAsCut.2.2.1, cm_X3_sayAsCut.2.2.2.1, cm_X3_sayAsCut.2.2.2.2, Nat.le_of_ble_eq_true rfl, hc⟩, Or.inr (Or.inl ⟨285, a, [.ref x1, .ref x2, .int x3], _, 3, fs, rfl, rfl, rfl, ha, hs, hh, rfl, cv_X3_sayAsCut.1, cv_X3_sayAsCut.2, Or.inl ⟨(dp_m 552 (by decide +kernel) rfl), rfl, by rw [hM]; exact Or.inl (dp_m 550 (by decide +kernel) rfl)⟩⟩)⟩ (Nat.zero_add _).symm (Nat.zero_add _).symm hE k
theorem cl_X3_72 {a : Nat} {fs : List Value} {x1 : Nat} (hM : M.1.cls = RX3) (hp : pc + 3 = pc') (hd : decode M.2.1 pc = .ok (.invokevirtual 72, 3)) (ha : 2 ≤ a) (hs : a < sz) (hh : h a = .inr (10, fs)) (hc : ev_cs st ≤ 8) (hE : EV xs L d 0 0 M_X10_join sz h 0 [some (.ref a), some (.ref x1), none] [] Qm) (k : ∀ sz' h' r, Qm sz' h' r → EV xs L (d + 1) kc ks M sz' h' pc' ls (r ++ st) Q) : EV xs L (d + 1) kc ks M sz h pc ls (.ref x1 :: .ref a :: st) Q :=
  r_call (As := .ref a :: [.ref x1]) (rest := st) hp hd ⟨⟨cm_X10_join.1, cm_X10_join.2.1, cm_X10_join.2.2.1, cm_X10_join.2.2.2.1, cm_X10_join.2.2.2.2, Nat.le_of_ble_eq_true rfl, hc⟩, Or.inr (Or.inl ⟨72, a, [.ref x1], _, 10, fs, rfl, rfl, rfl, ha, hs, hh, rfl, cv_X10_join.1, cv_X10_join.2, Or.inl ⟨(dp_m 564 (by decide +kernel) rfl), rfl, by rw [hM]; exact Or.inl (dp_m 562 (by decide +kernel) rfl)⟩⟩)⟩ (Nat.zero_add _).symm (Nat.zero_add _).symm hE k
theorem cl_L_41 {a : Nat} {fs : List Value} {x1 : Int32} {x2 : Int32} (hM : M.1.cls = R_law) (hp : pc + 3 = pc') (hd : decode M.2.1 pc = .ok (.invokevirtual 41, 3)) (ha : 2 ≤ a) (hs : a < sz) (hh : h a = .inr (11, fs)) (hc : ev_cs st ≤ 8) (hE : EV xs L d 0 0 M_X11_line sz h 0 [some (.ref a), some (.int x1), some (.int x2), none] [] Qm) (k : ∀ sz' h' r, Qm sz' h' r → EV xs L (d + 1) kc ks M sz' h' pc' ls (r ++ st) Q) : EV xs L (d + 1) kc ks M sz h pc ls (.int x2 :: .int x1 :: .ref a :: st) Q :=
  r_call (As := .ref a :: [.int x1, .int x2]) (rest := st) hp hd ⟨⟨cm_X11_line.1, cm_X11_line.2.1, cm_X11_line.2.2.1, cm_X11_line.2.2.2.1, cm_X11_line.2.2.2.2, Nat.le_of_ble_eq_true rfl, hc⟩, Or.inr (Or.inl ⟨41, a, [.int x1, .int x2], _, 11, fs, rfl, rfl, rfl, ha, hs, hh, rfl, cv_X11_line.1, cv_X11_line.2, Or.inl ⟨(dp_m 577 (by decide +kernel) rfl), rfl, by rw [hM]; exact Or.inl (dp_m 575 (by decide +kernel) rfl)⟩⟩)⟩ (Nat.zero_add _).symm (Nat.zero_add _).symm hE k
theorem cl_X11_132 {x1 : Int32} (hM : M.1.cls = RX11) (hp : pc + 3 = pc') (hd : decode M.2.1 pc = .ok (.invokestatic 132, 3)) (hc : ev_cs st ≤ 8) (hE : EV xs L d 0 0 M_X11_isWorld sz h 0 [some (.int x1)] [] Qm) (k : ∀ sz' h' r, Qm sz' h' r → EV xs L (d + 1) kc ks M sz' h' pc' ls (r ++ st) Q) : EV xs L (d + 1) kc ks M sz h pc ls (.int x1 :: st) Q :=
  r_call (As := [.int x1]) (rest := st) hp hd ⟨⟨cm_X11_isWorld.1, cm_X11_isWorld.2.1, cm_X11_isWorld.2.2.1, cm_X11_isWorld.2.2.2.1, cm_X11_isWorld.2.2.2.2, Nat.le_of_ble_eq_true rfl, hc⟩, Or.inl ⟨132, rfl, rfl, cs_X11_isWorld.1, cs_X11_isWorld.2, by rw [hM]; exact Or.inl (dp_m 591 (by decide +kernel) rfl)⟩⟩ (Nat.zero_add _).symm (Nat.zero_add _).symm hE k
theorem cl_X10_24 {x1 : Int64} (hM : M.1.cls = RX10) (hp : pc + 3 = pc') (hd : decode M.2.1 pc = .ok (.invokestatic 24, 3)) (hc : ev_cs st ≤ 8) (hE : EV xs L d 0 0 M_J13_bitCount_95d88 sz h 0 [some (.long x1), none] [] Qm) (k : ∀ sz' h' r, Qm sz' h' r → EV xs L (d + 1) kc ks M sz' h' pc' ls (r ++ st) Q) : EV xs L (d + 1) kc ks M sz h pc ls (.long x1 :: st) Q :=
  r_call (As := [.long x1]) (rest := st) hp hd ⟨⟨cm_J13_bitCount_95d88.1, cm_J13_bitCount_95d88.2.1, cm_J13_bitCount_95d88.2.2.1, cm_J13_bitCount_95d88.2.2.2.1, cm_J13_bitCount_95d88.2.2.2.2, Nat.le_of_ble_eq_true rfl, hc⟩, Or.inl ⟨24, rfl, rfl, cs_J13_bitCount_95d88.1, cs_J13_bitCount_95d88.2, by rw [hM]; exact Or.inl (dp_m 606 (by decide +kernel) rfl)⟩⟩ (Nat.zero_add _).symm (Nat.zero_add _).symm hE k
theorem cl_X11_153 {a : Nat} {fs : List Value} {x1 : Int32} (hM : M.1.cls = RX11) (hp : pc + 3 = pc') (hd : decode M.2.1 pc = .ok (.invokevirtual 153, 3)) (ha : 2 ≤ a) (hs : a < sz) (hh : h a = .inr (3, fs)) (hc : ev_cs st ≤ 8) (hE : EV xs L d 0 0 M_X3_sayingBy sz h 0 [some (.ref a), some (.int x1)] [] Qm) (k : ∀ sz' h' r, Qm sz' h' r → EV xs L (d + 1) kc ks M sz' h' pc' ls (r ++ st) Q) : EV xs L (d + 1) kc ks M sz h pc ls (.int x1 :: .ref a :: st) Q :=
  r_call (As := .ref a :: [.int x1]) (rest := st) hp hd ⟨⟨cm_X3_sayingBy.1, cm_X3_sayingBy.2.1, cm_X3_sayingBy.2.2.1, cm_X3_sayingBy.2.2.2.1, cm_X3_sayingBy.2.2.2.2, Nat.le_of_ble_eq_true rfl, hc⟩, Or.inr (Or.inl ⟨153, a, [.int x1], _, 3, fs, rfl, rfl, rfl, ha, hs, hh, rfl, cv_X3_sayingBy.1, cv_X3_sayingBy.2, Or.inl ⟨(dp_m 625 (by decide +kernel) rfl), rfl, by rw [hM]; exact Or.inl (dp_m 623 (by decide +kernel) rfl)⟩⟩)⟩ (Nat.zero_add _).symm (Nat.zero_add _).symm hE k
theorem cl_L_69 {a : Nat} {fs : List Value} {x1 : Int32} (hM : M.1.cls = R_law) (hp : pc + 3 = pc') (hd : decode M.2.1 pc = .ok (.invokevirtual 69, 3)) (ha : 2 ≤ a) (hs : a < sz) (hh : h a = .inr (11, fs)) (hc : ev_cs st ≤ 8) (hE : EV xs L d 0 0 M_X11_between sz h 0 [some (.ref a), some (.int x1), none] [] Qm) (k : ∀ sz' h' r, Qm sz' h' r → EV xs L (d + 1) kc ks M sz' h' pc' ls (r ++ st) Q) : EV xs L (d + 1) kc ks M sz h pc ls (.int x1 :: .ref a :: st) Q :=
  r_call (As := .ref a :: [.int x1]) (rest := st) hp hd ⟨⟨cm_X11_between.1, cm_X11_between.2.1, cm_X11_between.2.2.1, cm_X11_between.2.2.2.1, cm_X11_between.2.2.2.2, Nat.le_of_ble_eq_true rfl, hc⟩, Or.inr (Or.inl ⟨69, a, [.int x1], _, 11, fs, rfl, rfl, rfl, ha, hs, hh, rfl, cv_X11_between.1, cv_X11_between.2, Or.inl ⟨(dp_m 642 (by decide +kernel) rfl), rfl, by rw [hM]; exact Or.inl (dp_m 640 (by decide +kernel) rfl)⟩⟩)⟩ (Nat.zero_add _).symm (Nat.zero_add _).symm hE k
theorem cl_X7_77 {a : Nat} {fs : List Value} {x1 : Nat} (hM : M.1.cls = RX7) (hp : pc + 3 = pc') (hd : decode M.2.1 pc = .ok (.invokevirtual 77, 3)) (ha : 2 ≤ a) (hs : a < sz) (hh : h a = .inr (10, fs)) (hc : ev_cs st ≤ 8) (hE : EV xs L d 0 0 M_X10_isWithin sz h 0 [some (.ref a), some (.ref x1)] [] Qm) (k : ∀ sz' h' r, Qm sz' h' r → EV xs L (d + 1) kc ks M sz' h' pc' ls (r ++ st) Q) : EV xs L (d + 1) kc ks M sz h pc ls (.ref x1 :: .ref a :: st) Q :=
  r_call (As := .ref a :: [.ref x1]) (rest := st) hp hd ⟨⟨cm_X10_isWithin.1, cm_X10_isWithin.2.1, cm_X10_isWithin.2.2.1, cm_X10_isWithin.2.2.2.1, cm_X10_isWithin.2.2.2.2, Nat.le_of_ble_eq_true rfl, hc⟩, Or.inr (Or.inl ⟨77, a, [.ref x1], _, 10, fs, rfl, rfl, rfl, ha, hs, hh, rfl, cv_X10_isWithin.1, cv_X10_isWithin.2, Or.inl ⟨(dp_m 658 (by decide +kernel) rfl), rfl, by rw [hM]; exact Or.inl (dp_m 656 (by decide +kernel) rfl)⟩⟩)⟩ (Nat.zero_add _).symm (Nat.zero_add _).symm hE k
theorem cl_L_73 {a : Nat} {fs : List Value} {x1 : Int32} (hM : M.1.cls = R_law) (hp : pc + 3 = pc') (hd : decode M.2.1 pc = .ok (.invokevirtual 73, 3)) (ha : 2 ≤ a) (hs : a < sz) (hh : h a = .inr (11, fs)) (hc : ev_cs st ≤ 8) (hE : EV xs L d 0 0 M_X11_looks sz h 0 [some (.ref a), some (.int x1), none] [] Qm) (k : ∀ sz' h' r, Qm sz' h' r → EV xs L (d + 1) kc ks M sz' h' pc' ls (r ++ st) Q) : EV xs L (d + 1) kc ks M sz h pc ls (.int x1 :: .ref a :: st) Q :=
  r_call (As := .ref a :: [.int x1]) (rest := st) hp hd ⟨⟨cm_X11_looks.1, cm_X11_looks.2.1, cm_X11_looks.2.2.1, cm_X11_looks.2.2.2.1, cm_X11_looks.2.2.2.2, Nat.le_of_ble_eq_true rfl, hc⟩, Or.inr (Or.inl ⟨73, a, [.int x1], _, 11, fs, rfl, rfl, rfl, ha, hs, hh, rfl, cv_X11_looks.1, cv_X11_looks.2, Or.inl ⟨(dp_m 665 (by decide +kernel) rfl), rfl, by rw [hM]; exact Or.inl (dp_m 663 (by decide +kernel) rfl)⟩⟩)⟩ (Nat.zero_add _).symm (Nat.zero_add _).symm hE k
theorem cl_X11_173 {a : Nat} {fs : List Value} {x1 : Nat} (hM : M.1.cls = RX11) (hp : pc + 3 = pc') (hd : decode M.2.1 pc = .ok (.invokevirtual 173, 3)) (ha : 2 ≤ a) (hs : a < sz) (hh : h a = .inr (10, fs)) (hc : ev_cs st ≤ 8) (hE : EV xs L d 0 0 M_X10_isWithin sz h 0 [some (.ref a), some (.ref x1)] [] Qm) (k : ∀ sz' h' r, Qm sz' h' r → EV xs L (d + 1) kc ks M sz' h' pc' ls (r ++ st) Q) : EV xs L (d + 1) kc ks M sz h pc ls (.ref x1 :: .ref a :: st) Q :=
  r_call (As := .ref a :: [.ref x1]) (rest := st) hp hd ⟨⟨cm_X10_isWithin.1, cm_X10_isWithin.2.1, cm_X10_isWithin.2.2.1, cm_X10_isWithin.2.2.2.1, cm_X10_isWithin.2.2.2.2, Nat.le_of_ble_eq_true rfl, hc⟩, Or.inr (Or.inl ⟨173, a, [.ref x1], _, 10, fs, rfl, rfl, rfl, ha, hs, hh, rfl, cv_X10_isWithin.1, cv_X10_isWithin.2, Or.inl ⟨(dp_m 658 (by decide +kernel) rfl), rfl, by rw [hM]; exact Or.inl (dp_m 676 (by decide +kernel) rfl)⟩⟩)⟩ (Nat.zero_add _).symm (Nat.zero_add _).symm hE k
theorem cl_X7_88 {x1 : Int32} (hM : M.1.cls = RX7) (hp : pc + 3 = pc') (hd : decode M.2.1 pc = .ok (.invokestatic 88, 3)) (hc : ev_cs st ≤ 8) (hE : EV xs L d 0 0 M_J6_bitCount_0f7a4 sz h 0 [some (.int x1)] [] Qm) (k : ∀ sz' h' r, Qm sz' h' r → EV xs L (d + 1) kc ks M sz' h' pc' ls (r ++ st) Q) : EV xs L (d + 1) kc ks M sz h pc ls (.int x1 :: st) Q :=
  r_call (As := [.int x1]) (rest := st) hp hd ⟨⟨cm_J6_bitCount_0f7a4.1, cm_J6_bitCount_0f7a4.2.1, cm_J6_bitCount_0f7a4.2.2.1, cm_J6_bitCount_0f7a4.2.2.2.1, cm_J6_bitCount_0f7a4.2.2.2.2, Nat.le_of_ble_eq_true rfl, hc⟩, Or.inl ⟨88, rfl, rfl, cs_J6_bitCount_0f7a4.1, cs_J6_bitCount_0f7a4.2, by rw [hM]; exact Or.inl (dp_m 686 (by decide +kernel) rfl)⟩⟩ (Nat.zero_add _).symm (Nat.zero_add _).symm hE k
theorem cl_X7_100 {a : Nat} {fs : List Value} {x1 : Int32} (hM : M.1.cls = RX7) (hp : pc + 3 = pc') (hd : decode M.2.1 pc = .ok (.invokevirtual 100, 3)) (ha : 2 ≤ a) (hs : a < sz) (hh : h a = .inr (7, fs)) (hc : ev_cs st ≤ 8) (hE : EV xs L d 0 0 M_X7_tellsApart sz h 0 [some (.ref a), some (.int x1)] [] Qm) (k : ∀ sz' h' r, Qm sz' h' r → EV xs L (d + 1) kc ks M sz' h' pc' ls (r ++ st) Q) : EV xs L (d + 1) kc ks M sz h pc ls (.int x1 :: .ref a :: st) Q :=
  r_call (As := .ref a :: [.int x1]) (rest := st) hp hd ⟨⟨cm_X7_tellsApart.1, cm_X7_tellsApart.2.1, cm_X7_tellsApart.2.2.1, cm_X7_tellsApart.2.2.2.1, cm_X7_tellsApart.2.2.2.2, Nat.le_of_ble_eq_true rfl, hc⟩, Or.inr (Or.inl ⟨100, a, [.int x1], _, 7, fs, rfl, rfl, rfl, ha, hs, hh, rfl, cv_X7_tellsApart.1, cv_X7_tellsApart.2, Or.inl ⟨(dp_s 17 (by decide +kernel) rfl), rfl, by rw [hM]; exact Or.inl (dp_m 699 (by decide +kernel) rfl)⟩⟩)⟩ (Nat.zero_add _).symm (Nat.zero_add _).symm hE k
theorem cl_X11_193 {a : Nat} {fs : List Value} {x1 : Int32} {x2 : Int32} (hM : M.1.cls = RX11) (hp : pc + 3 = pc') (hd : decode M.2.1 pc = .ok (.invokevirtual 193, 3)) (ha : 2 ≤ a) (hs : a < sz) (hh : h a = .inr (10, fs)) (hc : ev_cs st ≤ 8) (hE : EV xs L d 0 0 M_X10_put sz h 0 [some (.ref a), some (.int x1), some (.int x2), none, none] [] Qm) (k : ∀ sz' h' r, Qm sz' h' r → EV xs L (d + 1) kc ks M sz' h' pc' ls (r ++ st) Q) : EV xs L (d + 1) kc ks M sz h pc ls (.int x2 :: .int x1 :: .ref a :: st) Q :=
  r_call (As := .ref a :: [.int x1, .int x2]) (rest := st) hp hd ⟨⟨cm_X10_put.1, cm_X10_put.2.1, cm_X10_put.2.2.1, cm_X10_put.2.2.2.1, cm_X10_put.2.2.2.2, Nat.le_of_ble_eq_true rfl, hc⟩, Or.inr (Or.inl ⟨193, a, [.int x1, .int x2], _, 10, fs, rfl, rfl, rfl, ha, hs, hh, rfl, cv_X10_put.1, cv_X10_put.2, Or.inl ⟨(dp_m 713 (by decide +kernel) rfl), rfl, by rw [hM]; exact Or.inl (dp_m 711 (by decide +kernel) rfl)⟩⟩)⟩ (Nat.zero_add _).symm (Nat.zero_add _).symm hE k
theorem cl_X11_197 {a : Nat} {fs : List Value} {x1 : Int32} (hM : M.1.cls = RX11) (hp : pc + 3 = pc') (hd : decode M.2.1 pc = .ok (.invokevirtual 197, 3)) (ha : 2 ≤ a) (hs : a < sz) (hh : h a = .inr (11, fs)) (hc : ev_cs st ≤ 8) (hE : EV xs L d 0 0 M_X11_clausesUnder sz h 0 [some (.ref a), some (.int x1), none, none, none] [] Qm) (k : ∀ sz' h' r, Qm sz' h' r → EV xs L (d + 1) kc ks M sz' h' pc' ls (r ++ st) Q) : EV xs L (d + 1) kc ks M sz h pc ls (.int x1 :: .ref a :: st) Q :=
  r_call (As := .ref a :: [.int x1]) (rest := st) hp hd ⟨⟨cm_X11_clausesUnder.1, cm_X11_clausesUnder.2.1, cm_X11_clausesUnder.2.2.1, cm_X11_clausesUnder.2.2.2.1, cm_X11_clausesUnder.2.2.2.2, Nat.le_of_ble_eq_true rfl, hc⟩, Or.inr (Or.inl ⟨197, a, [.int x1], _, 11, fs, rfl, rfl, rfl, ha, hs, hh, rfl, cv_X11_clausesUnder.1, cv_X11_clausesUnder.2, Or.inl ⟨(dp_s 18 (by decide +kernel) rfl), rfl, by rw [hM]; exact Or.inl (dp_m 727 (by decide +kernel) rfl)⟩⟩)⟩ (Nat.zero_add _).symm (Nat.zero_add _).symm hE k
theorem cl_X0_47 {a : Nat} {fs : List Value}  (hM : M.1.cls = RX0) (hp : pc + 3 = pc') (hd : decode M.2.1 pc = .ok (.invokevirtual 47, 3)) (ha : 2 ≤ a) (hs : a < sz) (hh : h a = .inr (0, fs)) (hc : ev_cs st ≤ 8) (hE : EV xs L d 0 0 M_X0_allClash sz h 0 [some (.ref a), none] [] Qm) (k : ∀ sz' h' r, Qm sz' h' r → EV xs L (d + 1) kc ks M sz' h' pc' ls (r ++ st) Q) : EV xs L (d + 1) kc ks M sz h pc ls (.ref a :: st) Q :=
  r_call (As := .ref a :: []) (rest := st) hp hd ⟨⟨cm_X0_allClash.1, cm_X0_allClash.2.1, cm_X0_allClash.2.2.1, cm_X0_allClash.2.2.2.1, cm_X0_allClash.2.2.2.2, Nat.le_of_ble_eq_true rfl, hc⟩, Or.inr (Or.inl ⟨47, a, [], _, 0, fs, rfl, rfl, rfl, ha, hs, hh, rfl, cv_X0_allClash.1, cv_X0_allClash.2, Or.inl ⟨(dp_s 19 (by decide +kernel) rfl), rfl, by rw [hM]; exact Or.inl (dp_m 742 (by decide +kernel) rfl)⟩⟩)⟩ (Nat.zero_add _).symm (Nat.zero_add _).symm hE k
theorem cl_X0_54 {a : Nat} {fs : List Value} {x1 : Int32} {x2 : Int32} {x3 : Int32} (hM : M.1.cls = RX0) (hp : pc + 3 = pc') (hd : decode M.2.1 pc = .ok (.invokevirtual 54, 3)) (ha : 2 ≤ a) (hs : a < sz) (hh : h a = .inr (0, fs)) (hc : ev_cs st ≤ 8) (hE : EV xs L d 0 0 M_X0_choose sz h 0 [some (.ref a), some (.int x1), some (.int x2), some (.int x3), none, none, none, none] [] Qm) (k : ∀ sz' h' r, Qm sz' h' r → EV xs L (d + 1) kc ks M sz' h' pc' ls (r ++ st) Q) : EV xs L (d + 1) kc ks M sz h pc ls (.int x3 :: .int x2 :: .int x1 :: .ref a :: st) Q :=
  r_call (As := .ref a :: [.int x1, .int x2, .int x3]) (rest := st) hp hd ⟨⟨cm_X0_choose.1, cm_X0_choose.2.1, cm_X0_choose.2.2.1, cm_X0_choose.2.2.2.1, cm_X0_choose.2.2.2.2, Nat.le_of_ble_eq_true rfl, hc⟩, Or.inr (Or.inl ⟨54, a, [.int x1, .int x2, .int x3], _, 0, fs, rfl, rfl, rfl, ha, hs, hh, rfl, cv_X0_choose.1, cv_X0_choose.2, Or.inl ⟨(dp_s 20 (by decide +kernel) rfl), rfl, by rw [hM]; exact Or.inl (dp_m 752 (by decide +kernel) rfl)⟩⟩)⟩ (Nat.zero_add _).symm (Nat.zero_add _).symm hE k
theorem cl_L_109 {a : Nat} {fs : List Value} {x1 : Int32} {x2 : Int32} (hM : M.1.cls = R_law) (hp : pc + 3 = pc') (hd : decode M.2.1 pc = .ok (.invokevirtual 109, 3)) (ha : 2 ≤ a) (hs : a < sz) (hh : h a = .inr (11, fs)) (hc : ev_cs st ≤ 8) (hE : EV xs L d 0 0 M_X11_labour sz h 0 [some (.ref a), some (.int x1), some (.int x2), none, none] [] Qm) (k : ∀ sz' h' r, Qm sz' h' r → EV xs L (d + 1) kc ks M sz' h' pc' ls (r ++ st) Q) : EV xs L (d + 1) kc ks M sz h pc ls (.int x2 :: .int x1 :: .ref a :: st) Q :=
  r_call (As := .ref a :: [.int x1, .int x2]) (rest := st) hp hd ⟨⟨cm_X11_labour.1, cm_X11_labour.2.1, cm_X11_labour.2.2.1, cm_X11_labour.2.2.2.1, cm_X11_labour.2.2.2.2, Nat.le_of_ble_eq_true rfl, hc⟩, Or.inr (Or.inl ⟨109, a, [.int x1, .int x2], _, 11, fs, rfl, rfl, rfl, ha, hs, hh, rfl, cv_X11_labour.1, cv_X11_labour.2, Or.inl ⟨(dp_m 764 (by decide +kernel) rfl), rfl, by rw [hM]; exact Or.inl (dp_m 762 (by decide +kernel) rfl)⟩⟩)⟩ (Nat.zero_add _).symm (Nat.zero_add _).symm hE k
theorem cl_X11_207_X2 {a : Nat} {fs : List Value} {x1 : Nat} {x2 : Nat} (hM : M.1.cls = RX11) (hp : pc + 3 = pc') (hd : decode M.2.1 pc = .ok (.invokevirtual 207, 3)) (ha : 2 ≤ a) (hs : a < sz) (hh : h a = .inr (2, fs)) (hc : ev_cs st ≤ 8) (hE : EV xs L d 0 0 M_X2_work sz h 0 [some (.ref a), some (.ref x1), some (.ref x2)] [] Qm) (k : ∀ sz' h' r, Qm sz' h' r → EV xs L (d + 1) kc ks M sz' h' pc' ls (r ++ st) Q) : EV xs L (d + 1) kc ks M sz h pc ls (.ref x2 :: .ref x1 :: .ref a :: st) Q :=
  r_call (As := .ref a :: [.ref x1, .ref x2]) (rest := st) hp hd ⟨⟨cm_X2_work.1, cm_X2_work.2.1, cm_X2_work.2.2.1, cm_X2_work.2.2.2.1, cm_X2_work.2.2.2.2, Nat.le_of_ble_eq_true rfl, hc⟩, Or.inr (Or.inl ⟨207, a, [.ref x1, .ref x2], _, 2, fs, rfl, rfl, rfl, ha, hs, hh, rfl, cv_X2_work.1, cv_X2_work.2, Or.inr ⟨yX6_work, cX6_work, 3, (some .int), ⟨by decide, by decide⟩, cv_X6_work.1, by rw [hM]; exact (dp_m 770 (by decide +kernel) rfl), (dp_m 773 (by decide +kernel) rfl), cv_X6_work.2, (dp_m 788 (by decide +kernel) rfl), cm_X6_work.2.1⟩⟩)⟩ (Nat.zero_add _).symm (Nat.zero_add _).symm hE k
theorem cl_X2_7 {a : Nat} {fs : List Value} {x1 : Int32} (hM : M.1.cls = RX2) (hp : pc + 3 = pc') (hd : decode M.2.1 pc = .ok (.invokevirtual 7, 3)) (ha : 2 ≤ a) (hs : a < sz) (hh : h a = .inr (9, fs)) (hc : ev_cs st ≤ 8) (hE : EV xs L d 0 0 M_X9_mark sz h 0 [some (.ref a), some (.int x1)] [] Qm) (k : ∀ sz' h' r, Qm sz' h' r → EV xs L (d + 1) kc ks M sz' h' pc' ls (r ++ st) Q) : EV xs L (d + 1) kc ks M sz h pc ls (.int x1 :: .ref a :: st) Q :=
  r_call (As := .ref a :: [.int x1]) (rest := st) hp hd ⟨⟨cm_X9_mark.1, cm_X9_mark.2.1, cm_X9_mark.2.2.1, cm_X9_mark.2.2.2.1, cm_X9_mark.2.2.2.2, Nat.le_of_ble_eq_true rfl, hc⟩, Or.inr (Or.inl ⟨7, a, [.int x1], _, 9, fs, rfl, rfl, rfl, ha, hs, hh, rfl, cv_X9_mark.1, cv_X9_mark.2, Or.inl ⟨(dp_m 779 (by decide +kernel) rfl), rfl, by rw [hM]; exact Or.inl (dp_m 784 (by decide +kernel) rfl)⟩⟩)⟩ (Nat.zero_add _).symm (Nat.zero_add _).symm hE k
theorem cl_X5_7 {a : Nat} {fs : List Value} {x1 : Int32} (hM : M.1.cls = RX5) (hp : pc + 3 = pc') (hd : decode M.2.1 pc = .ok (.invokevirtual 7, 3)) (ha : 2 ≤ a) (hs : a < sz) (hh : h a = .inr (9, fs)) (hc : ev_cs st ≤ 8) (hE : EV xs L d 0 0 M_X9_mark sz h 0 [some (.ref a), some (.int x1)] [] Qm) (k : ∀ sz' h' r, Qm sz' h' r → EV xs L (d + 1) kc ks M sz' h' pc' ls (r ++ st) Q) : EV xs L (d + 1) kc ks M sz h pc ls (.int x1 :: .ref a :: st) Q :=
  r_call (As := .ref a :: [.int x1]) (rest := st) hp hd ⟨⟨cm_X9_mark.1, cm_X9_mark.2.1, cm_X9_mark.2.2.1, cm_X9_mark.2.2.2.1, cm_X9_mark.2.2.2.2, Nat.le_of_ble_eq_true rfl, hc⟩, Or.inr (Or.inl ⟨7, a, [.int x1], _, 9, fs, rfl, rfl, rfl, ha, hs, hh, rfl, cv_X9_mark.1, cv_X9_mark.2, Or.inl ⟨(dp_m 779 (by decide +kernel) rfl), rfl, by rw [hM]; exact Or.inl (dp_m 792 (by decide +kernel) rfl)⟩⟩)⟩ (Nat.zero_add _).symm (Nat.zero_add _).symm hE k
theorem cl_L_113 {a : Nat} {fs : List Value} {x1 : Int32} (hM : M.1.cls = R_law) (hp : pc + 3 = pc') (hd : decode M.2.1 pc = .ok (.invokevirtual 113, 3)) (ha : 2 ≤ a) (hs : a < sz) (hh : h a = .inr (11, fs)) (hc : ev_cs st ≤ 8) (hE : EV xs L d 0 0 M_X11_count sz h 0 [some (.ref a), some (.int x1)] [] Qm) (k : ∀ sz' h' r, Qm sz' h' r → EV xs L (d + 1) kc ks M sz' h' pc' ls (r ++ st) Q) : EV xs L (d + 1) kc ks M sz h pc ls (.int x1 :: .ref a :: st) Q :=
  r_call (As := .ref a :: [.int x1]) (rest := st) hp hd ⟨⟨cm_X11_count.1, cm_X11_count.2.1, cm_X11_count.2.2.1, cm_X11_count.2.2.2.1, cm_X11_count.2.2.2.2, Nat.le_of_ble_eq_true rfl, hc⟩, Or.inr (Or.inl ⟨113, a, [.int x1], _, 11, fs, rfl, rfl, rfl, ha, hs, hh, rfl, cv_X11_count.1, cv_X11_count.2, Or.inl ⟨(dp_m 799 (by decide +kernel) rfl), rfl, by rw [hM]; exact Or.inl (dp_m 797 (by decide +kernel) rfl)⟩⟩)⟩ (Nat.zero_add _).symm (Nat.zero_add _).symm hE k
theorem cl_X12_54 {a : Nat} {fs : List Value}  (hM : M.1.cls = RX12) (hp : pc + 3 = pc') (hd : decode M.2.1 pc = .ok (.invokevirtual 54, 3)) (ha : 2 ≤ a) (hs : a < sz) (hh : h a = .inr (12, fs)) (hc : ev_cs st ≤ 8) (hE : EV xs L d 0 0 M_X12_bounds sz h 0 [some (.ref a), none, none, none] [] Qm) (k : ∀ sz' h' r, Qm sz' h' r → EV xs L (d + 1) kc ks M sz' h' pc' ls (r ++ st) Q) : EV xs L (d + 1) kc ks M sz h pc ls (.ref a :: st) Q :=
  r_call (As := .ref a :: []) (rest := st) hp hd ⟨⟨cm_X12_bounds.1, cm_X12_bounds.2.1, cm_X12_bounds.2.2.1, cm_X12_bounds.2.2.2.1, cm_X12_bounds.2.2.2.2, Nat.le_of_ble_eq_true rfl, hc⟩, Or.inr (Or.inl ⟨54, a, [], _, 12, fs, rfl, rfl, rfl, ha, hs, hh, rfl, cv_X12_bounds.1, cv_X12_bounds.2, Or.inl ⟨(dp_s 23 (by decide +kernel) rfl), rfl, by rw [hM]; exact Or.inl (dp_m 815 (by decide +kernel) rfl)⟩⟩)⟩ (Nat.zero_add _).symm (Nat.zero_add _).symm hE k
theorem cl_X12_143 {x1 : Nat} {x2 : Int32} {x3 : Int32} (hM : M.1.cls = RX12) (hp : pc + 3 = pc') (hd : decode M.2.1 pc = .ok (.invokestatic 143, 3)) (hc : ev_cs st ≤ 8) (hE : EV xs L d 0 0 M_X12_has sz h 0 [some (.ref x1), some (.int x2), some (.int x3)] [] Qm) (k : ∀ sz' h' r, Qm sz' h' r → EV xs L (d + 1) kc ks M sz' h' pc' ls (r ++ st) Q) : EV xs L (d + 1) kc ks M sz h pc ls (.int x3 :: .int x2 :: .ref x1 :: st) Q :=
  r_call (As := [.ref x1, .int x2, .int x3]) (rest := st) hp hd ⟨⟨cm_X12_has.1, cm_X12_has.2.1, cm_X12_has.2.2.1, cm_X12_has.2.2.2.1, cm_X12_has.2.2.2.2, Nat.le_of_ble_eq_true rfl, hc⟩, Or.inl ⟨143, rfl, rfl, cs_X12_has.1, cs_X12_has.2, by rw [hM]; exact Or.inl (dp_m 831 (by decide +kernel) rfl)⟩⟩ (Nat.zero_add _).symm (Nat.zero_add _).symm hE k
theorem cl_L_28 {a : Nat} {fs : List Value}  (hM : M.1.cls = R_law) (hp : pc + 3 = pc') (hd : decode M.2.1 pc = .ok (.invokevirtual 28, 3)) (ha : 2 ≤ a) (hs : a < sz) (hh : h a = .inr (12, fs)) (hc : ev_cs st ≤ 8) (hE : EV xs L d 0 0 M_X12_clauses sz h 0 [some (.ref a), none, none] [] Qm) (k : ∀ sz' h' r, Qm sz' h' r → EV xs L (d + 1) kc ks M sz' h' pc' ls (r ++ st) Q) : EV xs L (d + 1) kc ks M sz h pc ls (.ref a :: st) Q :=
  r_call (As := .ref a :: []) (rest := st) hp hd ⟨⟨cm_X12_clauses.1, cm_X12_clauses.2.1, cm_X12_clauses.2.2.1, cm_X12_clauses.2.2.2.1, cm_X12_clauses.2.2.2.2, Nat.le_of_ble_eq_true rfl, hc⟩, Or.inr (Or.inl ⟨28, a, [], _, 12, fs, rfl, rfl, rfl, ha, hs, hh, rfl, cv_X12_clauses.1, cv_X12_clauses.2, Or.inl ⟨(dp_m 924 (by decide +kernel) rfl), rfl, by rw [hM]; exact Or.inl (dp_m 922 (by decide +kernel) rfl)⟩⟩)⟩ (Nat.zero_add _).symm (Nat.zero_add _).symm hE k
theorem cl_X12_85 {a : Nat} {fs : List Value} {x1 : Int32} (hM : M.1.cls = RX12) (hp : pc + 3 = pc') (hd : decode M.2.1 pc = .ok (.invokevirtual 85, 3)) (ha : 2 ≤ a) (hs : a < sz) (hh : h a = .inr (12, fs)) (hc : ev_cs st ≤ 8) (hE : EV xs L d 0 0 M_X12_word sz h 0 [some (.ref a), some (.int x1), none, none, none] [] Qm) (k : ∀ sz' h' r, Qm sz' h' r → EV xs L (d + 1) kc ks M sz' h' pc' ls (r ++ st) Q) : EV xs L (d + 1) kc ks M sz h pc ls (.int x1 :: .ref a :: st) Q :=
  r_call (As := .ref a :: [.int x1]) (rest := st) hp hd ⟨⟨cm_X12_word.1, cm_X12_word.2.1, cm_X12_word.2.2.1, cm_X12_word.2.2.2.1, cm_X12_word.2.2.2.2, Nat.le_of_ble_eq_true rfl, hc⟩, Or.inr (Or.inl ⟨85, a, [.int x1], _, 12, fs, rfl, rfl, rfl, ha, hs, hh, rfl, cv_X12_word.1, cv_X12_word.2, Or.inl ⟨(dp_s 29 (by decide +kernel) rfl), rfl, by rw [hM]; exact Or.inl (dp_m 938 (by decide +kernel) rfl)⟩⟩)⟩ (Nat.zero_add _).symm (Nat.zero_add _).symm hE k
theorem cl_X12_103 {a : Nat} {fs : List Value}  (hM : M.1.cls = RX12) (hp : pc + 3 = pc') (hd : decode M.2.1 pc = .ok (.invokevirtual 103, 3)) (ha : 2 ≤ a) (hs : a < sz) (hh : h a = .inr (12, fs)) (hc : ev_cs st ≤ 8) (hE : EV xs L d 0 0 M_X12_goesOn sz h 0 [some (.ref a)] [] Qm) (k : ∀ sz' h' r, Qm sz' h' r → EV xs L (d + 1) kc ks M sz' h' pc' ls (r ++ st) Q) : EV xs L (d + 1) kc ks M sz h pc ls (.ref a :: st) Q :=
  r_call (As := .ref a :: []) (rest := st) hp hd ⟨⟨cm_X12_goesOn.1, cm_X12_goesOn.2.1, cm_X12_goesOn.2.2.1, cm_X12_goesOn.2.2.2.1, cm_X12_goesOn.2.2.2.2, Nat.le_of_ble_eq_true rfl, hc⟩, Or.inr (Or.inl ⟨103, a, [], _, 12, fs, rfl, rfl, rfl, ha, hs, hh, rfl, cv_X12_goesOn.1, cv_X12_goesOn.2, Or.inl ⟨(dp_s 33 (by decide +kernel) rfl), rfl, by rw [hM]; exact Or.inl (dp_m 954 (by decide +kernel) rfl)⟩⟩)⟩ (Nat.zero_add _).symm (Nat.zero_add _).symm hE k
theorem cl_L_32 {a : Nat} {fs : List Value}  (hM : M.1.cls = R_law) (hp : pc + 3 = pc') (hd : decode M.2.1 pc = .ok (.invokevirtual 32, 3)) (ha : 2 ≤ a) (hs : a < sz) (hh : h a = .inr (12, fs)) (hc : ev_cs st ≤ 8) (hE : EV xs L d 0 0 M_X12_proof sz h 0 [some (.ref a), none, none] [] Qm) (k : ∀ sz' h' r, Qm sz' h' r → EV xs L (d + 1) kc ks M sz' h' pc' ls (r ++ st) Q) : EV xs L (d + 1) kc ks M sz h pc ls (.ref a :: st) Q :=
  r_call (As := .ref a :: []) (rest := st) hp hd ⟨⟨cm_X12_proof.1, cm_X12_proof.2.1, cm_X12_proof.2.2.1, cm_X12_proof.2.2.2.1, cm_X12_proof.2.2.2.2, Nat.le_of_ble_eq_true rfl, hc⟩, Or.inr (Or.inl ⟨32, a, [], _, 12, fs, rfl, rfl, rfl, ha, hs, hh, rfl, cv_X12_proof.1, cv_X12_proof.2, Or.inl ⟨(dp_m 971 (by decide +kernel) rfl), rfl, by rw [hM]; exact Or.inl (dp_m 969 (by decide +kernel) rfl)⟩⟩)⟩ (Nat.zero_add _).symm (Nat.zero_add _).symm hE k
theorem cl_L_40 {a : Nat} {fs : List Value}  (hM : M.1.cls = R_law) (hp : pc + 3 = pc') (hd : decode M.2.1 pc = .ok (.invokevirtual 40, 3)) (ha : 2 ≤ a) (hs : a < sz) (hh : h a = .inr (12, fs)) (hc : ev_cs st ≤ 8) (hE : EV xs L d 0 0 M_X12_end sz h 0 [some (.ref a)] [] Qm) (k : ∀ sz' h' r, Qm sz' h' r → EV xs L (d + 1) kc ks M sz' h' pc' ls (r ++ st) Q) : EV xs L (d + 1) kc ks M sz h pc ls (.ref a :: st) Q :=
  r_call (As := .ref a :: []) (rest := st) hp hd ⟨⟨cm_X12_end.1, cm_X12_end.2.1, cm_X12_end.2.2.1, cm_X12_end.2.2.2.1, cm_X12_end.2.2.2.2, Nat.le_of_ble_eq_true rfl, hc⟩, Or.inr (Or.inl ⟨40, a, [], _, 12, fs, rfl, rfl, rfl, ha, hs, hh, rfl, cv_X12_end.1, cv_X12_end.2, Or.inl ⟨(dp_m 987 (by decide +kernel) rfl), rfl, by rw [hM]; exact Or.inl (dp_m 985 (by decide +kernel) rfl)⟩⟩)⟩ (Nat.zero_add _).symm (Nat.zero_add _).symm hE k
theorem cl_L_50 {a : Nat} {fs : List Value} {x1 : Int32} (hM : M.1.cls = R_law) (hp : pc + 3 = pc') (hd : decode M.2.1 pc = .ok (.invokevirtual 50, 3)) (ha : 2 ≤ a) (hs : a < sz) (hh : h a = .inr (12, fs)) (hc : ev_cs st ≤ 8) (hE : EV xs L d 0 0 M_X12_side sz h 0 [some (.ref a), some (.int x1)] [] Qm) (k : ∀ sz' h' r, Qm sz' h' r → EV xs L (d + 1) kc ks M sz' h' pc' ls (r ++ st) Q) : EV xs L (d + 1) kc ks M sz h pc ls (.int x1 :: .ref a :: st) Q :=
  r_call (As := .ref a :: [.int x1]) (rest := st) hp hd ⟨⟨cm_X12_side.1, cm_X12_side.2.1, cm_X12_side.2.2.1, cm_X12_side.2.2.2.1, cm_X12_side.2.2.2.2, Nat.le_of_ble_eq_true rfl, hc⟩, Or.inr (Or.inl ⟨50, a, [.int x1], _, 12, fs, rfl, rfl, rfl, ha, hs, hh, rfl, cv_X12_side.1, cv_X12_side.2, Or.inl ⟨(dp_m 1003 (by decide +kernel) rfl), rfl, by rw [hM]; exact Or.inl (dp_m 1001 (by decide +kernel) rfl)⟩⟩)⟩ (Nat.zero_add _).symm (Nat.zero_add _).symm hE k
theorem cl_L_63 {a : Nat} {fs : List Value} {x1 : Int32} {x2 : Int32} {x3 : Int32} (hM : M.1.cls = R_law) (hp : pc + 3 = pc') (hd : decode M.2.1 pc = .ok (.invokevirtual 63, 3)) (ha : 2 ≤ a) (hs : a < sz) (hh : h a = .inr (12, fs)) (hc : ev_cs st ≤ 8) (hE : EV xs L d 0 0 M_X12_says sz h 0 [some (.ref a), some (.int x1), some (.int x2), some (.int x3)] [] Qm) (k : ∀ sz' h' r, Qm sz' h' r → EV xs L (d + 1) kc ks M sz' h' pc' ls (r ++ st) Q) : EV xs L (d + 1) kc ks M sz h pc ls (.int x3 :: .int x2 :: .int x1 :: .ref a :: st) Q :=
  r_call (As := .ref a :: [.int x1, .int x2, .int x3]) (rest := st) hp hd ⟨⟨cm_X12_says.1, cm_X12_says.2.1, cm_X12_says.2.2.1, cm_X12_says.2.2.2.1, cm_X12_says.2.2.2.2, Nat.le_of_ble_eq_true rfl, hc⟩, Or.inr (Or.inl ⟨63, a, [.int x1, .int x2, .int x3], _, 12, fs, rfl, rfl, rfl, ha, hs, hh, rfl, cv_X12_says.1, cv_X12_says.2, Or.inl ⟨(dp_m 1018 (by decide +kernel) rfl), rfl, by rw [hM]; exact Or.inl (dp_m 1016 (by decide +kernel) rfl)⟩⟩)⟩ (Nat.zero_add _).symm (Nat.zero_add _).symm hE k
theorem cl_X12_170 {a : Nat} {fs : List Value} {x1 : Int32} {x2 : Nat} (hM : M.1.cls = RX12) (hp : pc + 3 = pc') (hd : decode M.2.1 pc = .ok (.invokevirtual 170, 3)) (ha : 2 ≤ a) (hs : a < sz) (hh : h a = .inr (12, fs)) (hc : ev_cs st ≤ 8) (hE : EV xs L d 0 0 M_X12_takes sz h 0 [some (.ref a), some (.int x1), some (.ref x2), none, none] [] Qm) (k : ∀ sz' h' r, Qm sz' h' r → EV xs L (d + 1) kc ks M sz' h' pc' ls (r ++ st) Q) : EV xs L (d + 1) kc ks M sz h pc ls (.ref x2 :: .int x1 :: .ref a :: st) Q :=
  r_call (As := .ref a :: [.int x1, .ref x2]) (rest := st) hp hd ⟨⟨cm_X12_takes.1, cm_X12_takes.2.1, cm_X12_takes.2.2.1, cm_X12_takes.2.2.2.1, cm_X12_takes.2.2.2.2, Nat.le_of_ble_eq_true rfl, hc⟩, Or.inr (Or.inl ⟨170, a, [.int x1, .ref x2], _, 12, fs, rfl, rfl, rfl, ha, hs, hh, rfl, cv_X12_takes.1, cv_X12_takes.2, Or.inl ⟨(dp_s 40 (by decide +kernel) rfl), rfl, by rw [hM]; exact Or.inl (dp_m 1031 (by decide +kernel) rfl)⟩⟩)⟩ (Nat.zero_add _).symm (Nat.zero_add _).symm hE k
theorem cl_L_80 {a : Nat} {fs : List Value} {x1 : Int32} {x2 : Int32} (hM : M.1.cls = R_law) (hp : pc + 3 = pc') (hd : decode M.2.1 pc = .ok (.invokevirtual 80, 3)) (ha : 2 ≤ a) (hs : a < sz) (hh : h a = .inr (12, fs)) (hc : ev_cs st ≤ 8) (hE : EV xs L d 0 0 M_X12_compare sz h 0 [some (.ref a), some (.int x1), some (.int x2), none, none, none] [] Qm) (k : ∀ sz' h' r, Qm sz' h' r → EV xs L (d + 1) kc ks M sz' h' pc' ls (r ++ st) Q) : EV xs L (d + 1) kc ks M sz h pc ls (.int x2 :: .int x1 :: .ref a :: st) Q :=
  r_call (As := .ref a :: [.int x1, .int x2]) (rest := st) hp hd ⟨⟨cm_X12_compare.1, cm_X12_compare.2.1, cm_X12_compare.2.2.1, cm_X12_compare.2.2.2.1, cm_X12_compare.2.2.2.2, Nat.le_of_ble_eq_true rfl, hc⟩, Or.inr (Or.inl ⟨80, a, [.int x1, .int x2], _, 12, fs, rfl, rfl, rfl, ha, hs, hh, rfl, cv_X12_compare.1, cv_X12_compare.2, Or.inl ⟨(dp_m 1048 (by decide +kernel) rfl), rfl, by rw [hM]; exact Or.inl (dp_m 1046 (by decide +kernel) rfl)⟩⟩)⟩ (Nat.zero_add _).symm (Nat.zero_add _).symm hE k
theorem cl_L_92 {a : Nat} {fs : List Value} {x1 : Int32} {x2 : Int32} (hM : M.1.cls = R_law) (hp : pc + 3 = pc') (hd : decode M.2.1 pc = .ok (.invokevirtual 92, 3)) (ha : 2 ≤ a) (hs : a < sz) (hh : h a = .inr (12, fs)) (hc : ev_cs st ≤ 8) (hE : EV xs L d 0 0 M_X12_tell sz h 0 [some (.ref a), some (.int x1), some (.int x2), none, none, none] [] Qm) (k : ∀ sz' h' r, Qm sz' h' r → EV xs L (d + 1) kc ks M sz' h' pc' ls (r ++ st) Q) : EV xs L (d + 1) kc ks M sz h pc ls (.int x2 :: .int x1 :: .ref a :: st) Q :=
  r_call (As := .ref a :: [.int x1, .int x2]) (rest := st) hp hd ⟨⟨cm_X12_tell.1, cm_X12_tell.2.1, cm_X12_tell.2.2.1, cm_X12_tell.2.2.2.1, cm_X12_tell.2.2.2.2, Nat.le_of_ble_eq_true rfl, hc⟩, Or.inr (Or.inl ⟨92, a, [.int x1, .int x2], _, 12, fs, rfl, rfl, rfl, ha, hs, hh, rfl, cv_X12_tell.1, cv_X12_tell.2, Or.inl ⟨(dp_m 1063 (by decide +kernel) rfl), rfl, by rw [hM]; exact Or.inl (dp_m 1061 (by decide +kernel) rfl)⟩⟩)⟩ (Nat.zero_add _).symm (Nat.zero_add _).symm hE k
theorem cl_L_108 {a : Nat} {fs : List Value} {x1 : Int32} (hM : M.1.cls = R_law) (hp : pc + 3 = pc') (hd : decode M.2.1 pc = .ok (.invokevirtual 108, 3)) (ha : 2 ≤ a) (hs : a < sz) (hh : h a = .inr (12, fs)) (hc : ev_cs st ≤ 8) (hE : EV xs L d 0 0 M_X12_needed sz h 0 [some (.ref a), some (.int x1), none, none] [] Qm) (k : ∀ sz' h' r, Qm sz' h' r → EV xs L (d + 1) kc ks M sz' h' pc' ls (r ++ st) Q) : EV xs L (d + 1) kc ks M sz h pc ls (.int x1 :: .ref a :: st) Q :=
  r_call (As := .ref a :: [.int x1]) (rest := st) hp hd ⟨⟨cm_X12_needed.1, cm_X12_needed.2.1, cm_X12_needed.2.2.1, cm_X12_needed.2.2.2.1, cm_X12_needed.2.2.2.2, Nat.le_of_ble_eq_true rfl, hc⟩, Or.inr (Or.inl ⟨108, a, [.int x1], _, 12, fs, rfl, rfl, rfl, ha, hs, hh, rfl, cv_X12_needed.1, cv_X12_needed.2, Or.inl ⟨(dp_m 1079 (by decide +kernel) rfl), rfl, by rw [hM]; exact Or.inl (dp_m 1077 (by decide +kernel) rfl)⟩⟩)⟩ (Nat.zero_add _).symm (Nat.zero_add _).symm hE k
theorem cl_L_121 {a : Nat} {fs : List Value}  (hM : M.1.cls = R_law) (hp : pc + 3 = pc') (hd : decode M.2.1 pc = .ok (.invokevirtual 121, 3)) (ha : 2 ≤ a) (hs : a < sz) (hh : h a = .inr (12, fs)) (hc : ev_cs st ≤ 8) (hE : EV xs L d 0 0 M_X12_trace sz h 0 [some (.ref a)] [] Qm) (k : ∀ sz' h' r, Qm sz' h' r → EV xs L (d + 1) kc ks M sz' h' pc' ls (r ++ st) Q) : EV xs L (d + 1) kc ks M sz h pc ls (.ref a :: st) Q :=
  r_call (As := .ref a :: []) (rest := st) hp hd ⟨⟨cm_X12_trace.1, cm_X12_trace.2.1, cm_X12_trace.2.2.1, cm_X12_trace.2.2.2.1, cm_X12_trace.2.2.2.2, Nat.le_of_ble_eq_true rfl, hc⟩, Or.inr (Or.inl ⟨121, a, [], _, 12, fs, rfl, rfl, rfl, ha, hs, hh, rfl, cv_X12_trace.1, cv_X12_trace.2, Or.inl ⟨(dp_m 1098 (by decide +kernel) rfl), rfl, by rw [hM]; exact Or.inl (dp_m 1096 (by decide +kernel) rfl)⟩⟩)⟩ (Nat.zero_add _).symm (Nat.zero_add _).symm hE k
theorem cl_X0_20 {kc1 ks1 a : Nat}  (hM : M.1.cls = RX0) (hp : pc + 3 = pc') (hd : decode M.2.1 pc = .ok (.invokespecial 20, 3)) (hc : ev_cs st ≤ 8) (hE : EV xs L d kc1 ks1 M_X10_init sz h 0 [some (.ref a)] [] Qm) (k : ∀ sz' h' r, Qm sz' h' r → EV xs L (d + 1) kc ks M sz' h' pc' ls (r ++ st) Q) : EV xs L (d + 1) (kc1 + kc) (ks1 + ks) M sz h pc ls (.ref a :: st) Q :=
  r_call (As := .ref a :: []) (rest := st) hp hd ⟨⟨cm_X10_init.1, cm_X10_init.2.1, cm_X10_init.2.2.1, cm_X10_init.2.2.2.1, cm_X10_init.2.2.2.2, Nat.le_of_ble_eq_true rfl, hc⟩, Or.inr (Or.inr (Or.inl ⟨20, a, [], rfl, rfl, rfl, ci_X10_init.1, ci_X10_init.2.1, ci_X10_init.2.2.1, ci_X10_init.2.2.2, by rw [hM]; exact Or.inr ⟨"SharedSense", (dp_n 161 (by decide +kernel) rfl)⟩⟩))⟩ rfl rfl hE k
theorem cl_X11_66 {kc1 ks1 a : Nat}  (hM : M.1.cls = RX11) (hp : pc + 3 = pc') (hd : decode M.2.1 pc = .ok (.invokespecial 66, 3)) (hc : ev_cs st ≤ 8) (hE : EV xs L d kc1 ks1 M_X2_init sz h 0 [some (.ref a)] [] Qm) (k : ∀ sz' h' r, Qm sz' h' r → EV xs L (d + 1) kc ks M sz' h' pc' ls (r ++ st) Q) : EV xs L (d + 1) (kc1 + kc) (ks1 + ks) M sz h pc ls (.ref a :: st) Q :=
  r_call (As := .ref a :: []) (rest := st) hp hd ⟨⟨cm_X2_init.1, cm_X2_init.2.1, cm_X2_init.2.2.1, cm_X2_init.2.2.2.1, cm_X2_init.2.2.2.2, Nat.le_of_ble_eq_true rfl, hc⟩, Or.inr (Or.inr (Or.inl ⟨66, a, [], rfl, rfl, rfl, ci_X2_init.1, ci_X2_init.2.1, ci_X2_init.2.2.1, ci_X2_init.2.2.2, by rw [hM]; exact Or.inr ⟨"SharedSense", (dp_n 202 (by decide +kernel) rfl)⟩⟩))⟩ rfl rfl hE k
theorem cl_X11_78 {kc1 ks1 a : Nat}  (hM : M.1.cls = RX11) (hp : pc + 3 = pc') (hd : decode M.2.1 pc = .ok (.invokespecial 78, 3)) (hc : ev_cs st ≤ 8) (hE : EV xs L d kc1 ks1 M_X1_init sz h 0 [some (.ref a)] [] Qm) (k : ∀ sz' h' r, Qm sz' h' r → EV xs L (d + 1) kc ks M sz' h' pc' ls (r ++ st) Q) : EV xs L (d + 1) (kc1 + kc) (ks1 + ks) M sz h pc ls (.ref a :: st) Q :=
  r_call (As := .ref a :: []) (rest := st) hp hd ⟨⟨cm_X1_init.1, cm_X1_init.2.1, cm_X1_init.2.2.1, cm_X1_init.2.2.2.1, cm_X1_init.2.2.2.2, Nat.le_of_ble_eq_true rfl, hc⟩, Or.inr (Or.inr (Or.inl ⟨78, a, [], rfl, rfl, rfl, ci_X1_init.1, ci_X1_init.2.1, ci_X1_init.2.2.1, ci_X1_init.2.2.2, by rw [hM]; exact Or.inr ⟨"SharedSense", (dp_n 216 (by decide +kernel) rfl)⟩⟩))⟩ rfl rfl hE k
end CL
end
section
section CL
variable {xs : Nat → Int32} {L d kc ks : Nat} {M : ev_M} {sz : Nat} {h : ev_H} {pc : Nat} {ls : ev_L} {st : List Value} {Q : ev_Q} {pc' : Nat} {Qm : ev_Q}
theorem cl_X7_30 {a : Nat} {fs : List Value}  (hM : M.1.cls = RX7) (hp : pc + 3 = pc') (hd : decode M.2.1 pc = .ok (.invokevirtual 30, 3)) (ha : 2 ≤ a) (hs : a < sz) (hh : h a = .inr (10, fs)) (hc : ev_cs st ≤ 8) (hE : EV xs L d 0 0 M_X10_fill sz h 0 [some (.ref a)] [] Qm) (k : ∀ sz' h' r, Qm sz' h' r → EV xs L (d + 1) kc ks M sz' h' pc' ls (r ++ st) Q) : EV xs L (d + 1) kc ks M sz h pc ls (.ref a :: st) Q :=
  r_call (As := .ref a :: []) (rest := st) hp hd ⟨⟨cm_X10_fill.1, cm_X10_fill.2.1, cm_X10_fill.2.2.1, cm_X10_fill.2.2.2.1, cm_X10_fill.2.2.2.2, Nat.le_of_ble_eq_true rfl, hc⟩, Or.inr (Or.inl ⟨30, a, [], _, 10, fs, rfl, rfl, rfl, ha, hs, hh, rfl, cv_X10_fill.1, cv_X10_fill.2, Or.inl ⟨(dp_m 110 (by decide +kernel) rfl), rfl, by rw [hM]; exact Or.inl (dp_m 108 (by decide +kernel) rfl)⟩⟩)⟩ (Nat.zero_add _).symm (Nat.zero_add _).symm hE k
theorem cl_X11_89 {kc1 ks1 a : Nat}  (hM : M.1.cls = RX11) (hp : pc + 3 = pc') (hd : decode M.2.1 pc = .ok (.invokespecial 89, 3)) (hc : ev_cs st ≤ 8) (hE : EV xs L d kc1 ks1 M_X3_init sz h 0 [some (.ref a), none] [] Qm) (k : ∀ sz' h' r, Qm sz' h' r → EV xs L (d + 1) kc ks M sz' h' pc' ls (r ++ st) Q) : EV xs L (d + 1) (kc1 + kc) (ks1 + ks) M sz h pc ls (.ref a :: st) Q :=
  r_call (As := .ref a :: []) (rest := st) hp hd ⟨⟨cm_X3_init.1, cm_X3_init.2.1, cm_X3_init.2.2.1, cm_X3_init.2.2.2.1, cm_X3_init.2.2.2.2, Nat.le_of_ble_eq_true rfl, hc⟩, Or.inr (Or.inr (Or.inl ⟨89, a, [], rfl, rfl, rfl, ci_X3_init.1, ci_X3_init.2.1, ci_X3_init.2.2.1, ci_X3_init.2.2.2, by rw [hM]; exact Or.inl (dp_m 222 (by decide +kernel) rfl)⟩))⟩ rfl rfl hE k
theorem cl_L_20 {a : Nat} {fs : List Value}  (hM : M.1.cls = R_law) (hp : pc + 3 = pc') (hd : decode M.2.1 pc = .ok (.invokevirtual 20, 3)) (ha : 2 ≤ a) (hs : a < sz) (hh : h a = .inr (11, fs)) (hc : ev_cs st ≤ 8) (hE : EV xs L d 0 0 M_X11_clear sz h 0 [some (.ref a), none] [] Qm) (k : ∀ sz' h' r, Qm sz' h' r → EV xs L (d + 1) kc ks M sz' h' pc' ls (r ++ st) Q) : EV xs L (d + 1) kc ks M sz h pc ls (.ref a :: st) Q :=
  r_call (As := .ref a :: []) (rest := st) hp hd ⟨⟨cm_X11_clear.1, cm_X11_clear.2.1, cm_X11_clear.2.2.1, cm_X11_clear.2.2.2.1, cm_X11_clear.2.2.2.2, Nat.le_of_ble_eq_true rfl, hc⟩, Or.inr (Or.inl ⟨20, a, [], _, 11, fs, rfl, rfl, rfl, ha, hs, hh, rfl, cv_X11_clear.1, cv_X11_clear.2, Or.inl ⟨(dp_m 316 (by decide +kernel) rfl), rfl, by rw [hM]; exact Or.inl (dp_m 314 (by decide +kernel) rfl)⟩⟩)⟩ (Nat.zero_add _).symm (Nat.zero_add _).symm hE k
theorem cl_X4_41 {a : Nat} {fs : List Value}  (hM : M.1.cls = RX4) (hp : pc + 3 = pc') (hd : decode M.2.1 pc = .ok (.invokevirtual 41, 3)) (ha : 2 ≤ a) (hs : a < sz) (hh : h a = .inr (8, fs)) (hc : ev_cs st ≤ 8) (hE : EV xs L d 0 0 M_X8_readFirst sz h 0 [some (.ref a)] [] Qm) (k : ∀ sz' h' r, Qm sz' h' r → EV xs L (d + 1) kc ks M sz' h' pc' ls (r ++ st) Q) : EV xs L (d + 1) kc ks M sz h pc ls (.ref a :: st) Q :=
  r_call (As := .ref a :: []) (rest := st) hp hd ⟨⟨cm_X8_readFirst.1, cm_X8_readFirst.2.1, cm_X8_readFirst.2.2.1, cm_X8_readFirst.2.2.2.1, cm_X8_readFirst.2.2.2.2, Nat.le_of_ble_eq_true rfl, hc⟩, Or.inr (Or.inl ⟨41, a, [], _, 8, fs, rfl, rfl, rfl, ha, hs, hh, rfl, cv_X8_readFirst.1, cv_X8_readFirst.2, Or.inl ⟨(dp_m 332 (by decide +kernel) rfl), rfl, by rw [hM]; exact Or.inl (dp_m 330 (by decide +kernel) rfl)⟩⟩)⟩ (Nat.zero_add _).symm (Nat.zero_add _).symm hE k
theorem cl_X8_41 {x1 : Int32} (hM : M.1.cls = RX8) (hp : pc + 3 = pc') (hd : decode M.2.1 pc = .ok (.invokestatic 41, 3)) (hc : ev_cs st ≤ 8) (hE : EV xs L d 0 0 M_X8_isWordSign sz h 0 [some (.int x1)] [] Qm) (k : ∀ sz' h' r, Qm sz' h' r → EV xs L (d + 1) kc ks M sz' h' pc' ls (r ++ st) Q) : EV xs L (d + 1) kc ks M sz h pc ls (.int x1 :: st) Q :=
  r_call (As := [.int x1]) (rest := st) hp hd ⟨⟨cm_X8_isWordSign.1, cm_X8_isWordSign.2.1, cm_X8_isWordSign.2.2.1, cm_X8_isWordSign.2.2.2.1, cm_X8_isWordSign.2.2.2.2, Nat.le_of_ble_eq_true rfl, hc⟩, Or.inl ⟨41, rfl, rfl, cs_X8_isWordSign.1, cs_X8_isWordSign.2, by rw [hM]; exact Or.inl (dp_m 346 (by decide +kernel) rfl)⟩⟩ (Nat.zero_add _).symm (Nat.zero_add _).symm hE k
theorem cl_X4_66 {a : Nat} {fs : List Value}  (hM : M.1.cls = RX4) (hp : pc + 3 = pc') (hd : decode M.2.1 pc = .ok (.invokevirtual 66, 3)) (ha : 2 ≤ a) (hs : a < sz) (hh : h a = .inr (8, fs)) (hc : ev_cs st ≤ 8) (hE : EV xs L d 0 0 M_X8_readNext sz h 0 [some (.ref a), none] [] Qm) (k : ∀ sz' h' r, Qm sz' h' r → EV xs L (d + 1) kc ks M sz' h' pc' ls (r ++ st) Q) : EV xs L (d + 1) kc ks M sz h pc ls (.ref a :: st) Q :=
  r_call (As := .ref a :: []) (rest := st) hp hd ⟨⟨cm_X8_readNext.1, cm_X8_readNext.2.1, cm_X8_readNext.2.2.1, cm_X8_readNext.2.2.2.1, cm_X8_readNext.2.2.2.2, Nat.le_of_ble_eq_true rfl, hc⟩, Or.inr (Or.inl ⟨66, a, [], _, 8, fs, rfl, rfl, rfl, ha, hs, hh, rfl, cv_X8_readNext.1, cv_X8_readNext.2, Or.inl ⟨(dp_m 336 (by decide +kernel) rfl), rfl, by rw [hM]; exact Or.inl (dp_m 378 (by decide +kernel) rfl)⟩⟩)⟩ (Nat.zero_add _).symm (Nat.zero_add _).symm hE k
theorem cl_X11_105 {a : Nat} {fs : List Value}  (hM : M.1.cls = RX11) (hp : pc + 3 = pc') (hd : decode M.2.1 pc = .ok (.invokevirtual 105, 3)) (ha : 2 ≤ a) (hs : a < sz) (hh : h a = .inr (11, fs)) (hc : ev_cs st ≤ 8) (hE : EV xs L d 0 0 M_X11_takeClauses sz h 0 [some (.ref a), none] [] Qm) (k : ∀ sz' h' r, Qm sz' h' r → EV xs L (d + 1) kc ks M sz' h' pc' ls (r ++ st) Q) : EV xs L (d + 1) kc ks M sz h pc ls (.ref a :: st) Q :=
  r_call (As := .ref a :: []) (rest := st) hp hd ⟨⟨cm_X11_takeClauses.1, cm_X11_takeClauses.2.1, cm_X11_takeClauses.2.2.1, cm_X11_takeClauses.2.2.2.1, cm_X11_takeClauses.2.2.2.2, Nat.le_of_ble_eq_true rfl, hc⟩, Or.inr (Or.inl ⟨105, a, [], _, 11, fs, rfl, rfl, rfl, ha, hs, hh, rfl, cv_X11_takeClauses.1, cv_X11_takeClauses.2, Or.inl ⟨(dp_s 6 (by decide +kernel) rfl), rfl, by rw [hM]; exact Or.inl (dp_m 390 (by decide +kernel) rfl)⟩⟩)⟩ (Nat.zero_add _).symm (Nat.zero_add _).symm hE k
theorem cl_X4_34 {x1 : Nat} {x2 : Int32} (hM : M.1.cls = RX4) (hp : pc + 3 = pc') (hd : decode M.2.1 pc = .ok (.invokestatic 34, 3)) (hc : ev_cs st ≤ 8) (hE : EV xs L d 0 0 M_X4_at sz h 0 [some (.ref x1), some (.int x2)] [] Qm) (k : ∀ sz' h' r, Qm sz' h' r → EV xs L (d + 1) kc ks M sz' h' pc' ls (r ++ st) Q) : EV xs L (d + 1) kc ks M sz h pc ls (.int x2 :: .ref x1 :: st) Q :=
  r_call (As := [.ref x1, .int x2]) (rest := st) hp hd ⟨⟨cm_X4_at.1, cm_X4_at.2.1, cm_X4_at.2.2.1, cm_X4_at.2.2.2.1, cm_X4_at.2.2.2.2, Nat.le_of_ble_eq_true rfl, hc⟩, Or.inl ⟨34, rfl, rfl, cs_X4_at.1, cs_X4_at.2, by rw [hM]; exact Or.inl (dp_m 403 (by decide +kernel) rfl)⟩⟩ (Nat.zero_add _).symm (Nat.zero_add _).symm hE k
theorem cl_X11_247 {a : Nat} {fs : List Value} {x1 : Nat} {x2 : Int32} (hM : M.1.cls = RX11) (hp : pc + 3 = pc') (hd : decode M.2.1 pc = .ok (.invokevirtual 247, 3)) (ha : 2 ≤ a) (hs : a < sz) (hh : h a = .inr (7, fs)) (hc : ev_cs st ≤ 8) (hE : EV xs L d 0 0 M_X7_learn sz h 0 [some (.ref a), some (.ref x1), some (.int x2), none] [] Qm) (k : ∀ sz' h' r, Qm sz' h' r → EV xs L (d + 1) kc ks M sz' h' pc' ls (r ++ st) Q) : EV xs L (d + 1) kc ks M sz h pc ls (.int x2 :: .ref x1 :: .ref a :: st) Q :=
  r_call (As := .ref a :: [.ref x1, .int x2]) (rest := st) hp hd ⟨⟨cm_X7_learn.1, cm_X7_learn.2.1, cm_X7_learn.2.2.1, cm_X7_learn.2.2.2.1, cm_X7_learn.2.2.2.2, Nat.le_of_ble_eq_true rfl, hc⟩, Or.inr (Or.inl ⟨247, a, [.ref x1, .int x2], _, 7, fs, rfl, rfl, rfl, ha, hs, hh, rfl, cv_X7_learn.1, cv_X7_learn.2, Or.inl ⟨(dp_m 420 (by decide +kernel) rfl), rfl, by rw [hM]; exact Or.inl (dp_m 418 (by decide +kernel) rfl)⟩⟩)⟩ (Nat.zero_add _).symm (Nat.zero_add _).symm hE k
theorem cl_X10_44 {x1 : Int32} {x2 : Int32} (hM : M.1.cls = RX10) (hp : pc + 3 = pc') (hd : decode M.2.1 pc = .ok (.invokestatic 44, 3)) (hc : ev_cs st ≤ 8) (hE : EV xs L d 0 0 M_X10_partWhereSo sz h 0 [some (.int x1), some (.int x2)] [] Qm) (k : ∀ sz' h' r, Qm sz' h' r → EV xs L (d + 1) kc ks M sz' h' pc' ls (r ++ st) Q) : EV xs L (d + 1) kc ks M sz h pc ls (.int x2 :: .int x1 :: st) Q :=
  r_call (As := [.int x1, .int x2]) (rest := st) hp hd ⟨⟨cm_X10_partWhereSo.1, cm_X10_partWhereSo.2.1, cm_X10_partWhereSo.2.2.1, cm_X10_partWhereSo.2.2.2.1, cm_X10_partWhereSo.2.2.2.2, Nat.le_of_ble_eq_true rfl, hc⟩, Or.inl ⟨44, rfl, rfl, cs_X10_partWhereSo.1, cs_X10_partWhereSo.2, by rw [hM]; exact Or.inl (dp_m 431 (by decide +kernel) rfl)⟩⟩ (Nat.zero_add _).symm (Nat.zero_add _).symm hE k
theorem cl_X7_60 {a : Nat} {fs : List Value}  (hM : M.1.cls = RX7) (hp : pc + 3 = pc') (hd : decode M.2.1 pc = .ok (.invokevirtual 60, 3)) (ha : 2 ≤ a) (hs : a < sz) (hh : h a = .inr (7, fs)) (hc : ev_cs st ≤ 8) (hE : EV xs L d 0 0 M_X7_sharedLetters sz h 0 [some (.ref a)] [] Qm) (k : ∀ sz' h' r, Qm sz' h' r → EV xs L (d + 1) kc ks M sz' h' pc' ls (r ++ st) Q) : EV xs L (d + 1) kc ks M sz h pc ls (.ref a :: st) Q :=
  r_call (As := .ref a :: []) (rest := st) hp hd ⟨⟨cm_X7_sharedLetters.1, cm_X7_sharedLetters.2.1, cm_X7_sharedLetters.2.2.1, cm_X7_sharedLetters.2.2.2.1, cm_X7_sharedLetters.2.2.2.2, Nat.le_of_ble_eq_true rfl, hc⟩, Or.inr (Or.inl ⟨60, a, [], _, 7, fs, rfl, rfl, rfl, ha, hs, hh, rfl, cv_X7_sharedLetters.1, cv_X7_sharedLetters.2, Or.inl ⟨(dp_m 450 (by decide +kernel) rfl), rfl, by rw [hM]; exact Or.inl (dp_m 448 (by decide +kernel) rfl)⟩⟩)⟩ (Nat.zero_add _).symm (Nat.zero_add _).symm hE k
theorem cl_X7_67 {a : Nat} {fs : List Value}  (hM : M.1.cls = RX7) (hp : pc + 3 = pc') (hd : decode M.2.1 pc = .ok (.invokevirtual 67, 3)) (ha : 2 ≤ a) (hs : a < sz) (hh : h a = .inr (10, fs)) (hc : ev_cs st ≤ 8) (hE : EV xs L d 0 0 M_X10_turn sz h 0 [some (.ref a), none] [] Qm) (k : ∀ sz' h' r, Qm sz' h' r → EV xs L (d + 1) kc ks M sz' h' pc' ls (r ++ st) Q) : EV xs L (d + 1) kc ks M sz h pc ls (.ref a :: st) Q :=
  r_call (As := .ref a :: []) (rest := st) hp hd ⟨⟨cm_X10_turn.1, cm_X10_turn.2.1, cm_X10_turn.2.2.1, cm_X10_turn.2.2.2.1, cm_X10_turn.2.2.2.2, Nat.le_of_ble_eq_true rfl, hc⟩, Or.inr (Or.inl ⟨67, a, [], _, 10, fs, rfl, rfl, rfl, ha, hs, hh, rfl, cv_X10_turn.1, cv_X10_turn.2, Or.inl ⟨(dp_m 118 (by decide +kernel) rfl), rfl, by rw [hM]; exact Or.inl (dp_m 464 (by decide +kernel) rfl)⟩⟩)⟩ (Nat.zero_add _).symm (Nat.zero_add _).symm hE k
theorem cl_X11_214 {a : Nat} {fs : List Value}  (hM : M.1.cls = RX11) (hp : pc + 3 = pc') (hd : decode M.2.1 pc = .ok (.invokevirtual 214, 3)) (ha : 2 ≤ a) (hs : a < sz) (hh : h a = .inr (7, fs)) (hc : ev_cs st ≤ 8) (hE : EV xs L d 0 0 M_X7_sharedLetters sz h 0 [some (.ref a)] [] Qm) (k : ∀ sz' h' r, Qm sz' h' r → EV xs L (d + 1) kc ks M sz' h' pc' ls (r ++ st) Q) : EV xs L (d + 1) kc ks M sz h pc ls (.ref a :: st) Q :=
  r_call (As := .ref a :: []) (rest := st) hp hd ⟨⟨cm_X7_sharedLetters.1, cm_X7_sharedLetters.2.1, cm_X7_sharedLetters.2.2.1, cm_X7_sharedLetters.2.2.2.1, cm_X7_sharedLetters.2.2.2.2, Nat.le_of_ble_eq_true rfl, hc⟩, Or.inr (Or.inl ⟨214, a, [], _, 7, fs, rfl, rfl, rfl, ha, hs, hh, rfl, cv_X7_sharedLetters.1, cv_X7_sharedLetters.2, Or.inl ⟨(dp_m 450 (by decide +kernel) rfl), rfl, by rw [hM]; exact Or.inl (dp_m 471 (by decide +kernel) rfl)⟩⟩)⟩ (Nat.zero_add _).symm (Nat.zero_add _).symm hE k
theorem cl_X3_57 {a : Nat} {fs : List Value}  (hM : M.1.cls = RX3) (hp : pc + 3 = pc') (hd : decode M.2.1 pc = .ok (.invokevirtual 57, 3)) (ha : 2 ≤ a) (hs : a < sz) (hh : h a = .inr (10, fs)) (hc : ev_cs st ≤ 8) (hE : EV xs L d 0 0 M_X10_turn sz h 0 [some (.ref a), none] [] Qm) (k : ∀ sz' h' r, Qm sz' h' r → EV xs L (d + 1) kc ks M sz' h' pc' ls (r ++ st) Q) : EV xs L (d + 1) kc ks M sz h pc ls (.ref a :: st) Q :=
  r_call (As := .ref a :: []) (rest := st) hp hd ⟨⟨cm_X10_turn.1, cm_X10_turn.2.1, cm_X10_turn.2.2.1, cm_X10_turn.2.2.2.1, cm_X10_turn.2.2.2.2, Nat.le_of_ble_eq_true rfl, hc⟩, Or.inr (Or.inl ⟨57, a, [], _, 10, fs, rfl, rfl, rfl, ha, hs, hh, rfl, cv_X10_turn.1, cv_X10_turn.2, Or.inl ⟨(dp_m 118 (by decide +kernel) rfl), rfl, by rw [hM]; exact Or.inl (dp_m 478 (by decide +kernel) rfl)⟩⟩)⟩ (Nat.zero_add _).symm (Nat.zero_add _).symm hE k
theorem cl_X11_289 {a : Nat} {fs : List Value}  (hM : M.1.cls = RX11) (hp : pc + 3 = pc') (hd : decode M.2.1 pc = .ok (.invokevirtual 289, 3)) (ha : 2 ≤ a) (hs : a < sz) (hh : h a = .inr (3, fs)) (hc : ev_cs st ≤ 8) (hE : EV xs L d 0 0 M_X3_literals sz h 0 [some (.ref a)] [] Qm) (k : ∀ sz' h' r, Qm sz' h' r → EV xs L (d + 1) kc ks M sz' h' pc' ls (r ++ st) Q) : EV xs L (d + 1) kc ks M sz h pc ls (.ref a :: st) Q :=
  r_call (As := .ref a :: []) (rest := st) hp hd ⟨⟨cm_X3_literals.1, cm_X3_literals.2.1, cm_X3_literals.2.2.1, cm_X3_literals.2.2.2.1, cm_X3_literals.2.2.2.2, Nat.le_of_ble_eq_true rfl, hc⟩, Or.inr (Or.inl ⟨289, a, [], _, 3, fs, rfl, rfl, rfl, ha, hs, hh, rfl, cv_X3_literals.1, cv_X3_literals.2, Or.inl ⟨(dp_m 490 (by decide +kernel) rfl), rfl, by rw [hM]; exact Or.inl (dp_m 488 (by decide +kernel) rfl)⟩⟩)⟩ (Nat.zero_add _).symm (Nat.zero_add _).symm hE k
theorem cl_X4_76 {a : Nat} {fs : List Value} {x1 : Nat} {x2 : Int32} {x3 : Int32} (hM : M.1.cls = RX4) (hp : pc + 3 = pc') (hd : decode M.2.1 pc = .ok (.invokevirtual 76, 3)) (ha : 2 ≤ a) (hs : a < sz) (hh : h a = .inr (4, fs)) (hc : ev_cs st ≤ 8) (hE : EV xs L d 0 0 M_X4_readStep sz h 0 [some (.ref a), some (.ref x1), some (.int x2), some (.int x3)] [] Qm) (k : ∀ sz' h' r, Qm sz' h' r → EV xs L (d + 1) kc ks M sz' h' pc' ls (r ++ st) Q) : EV xs L (d + 1) kc ks M sz h pc ls (.int x3 :: .int x2 :: .ref x1 :: .ref a :: st) Q :=
  r_call (As := .ref a :: [.ref x1, .int x2, .int x3]) (rest := st) hp hd ⟨⟨cm_X4_readStep.1, cm_X4_readStep.2.1, cm_X4_readStep.2.2.1, cm_X4_readStep.2.2.2.1, cm_X4_readStep.2.2.2.2, Nat.le_of_ble_eq_true rfl, hc⟩, Or.inr (Or.inl ⟨76, a, [.ref x1, .int x2, .int x3], _, 4, fs, rfl, rfl, rfl, ha, hs, hh, rfl, cv_X4_readStep.1, cv_X4_readStep.2, Or.inl ⟨(dp_s 10 (by decide +kernel) rfl), rfl, by rw [hM]; exact Or.inl (dp_m 506 (by decide +kernel) rfl)⟩⟩)⟩ (Nat.zero_add _).symm (Nat.zero_add _).symm hE k
theorem cl_X11_269 {a : Nat} {fs : List Value} {x1 : Int32} (hM : M.1.cls = RX11) (hp : pc + 3 = pc') (hd : decode M.2.1 pc = .ok (.invokevirtual 269, 3)) (ha : 2 ≤ a) (hs : a < sz) (hh : h a = .inr (4, fs)) (hc : ev_cs st ≤ 8) (hE : EV xs L d 0 0 M_X4_firstOf sz h 0 [some (.ref a), some (.int x1)] [] Qm) (k : ∀ sz' h' r, Qm sz' h' r → EV xs L (d + 1) kc ks M sz' h' pc' ls (r ++ st) Q) : EV xs L (d + 1) kc ks M sz h pc ls (.int x1 :: .ref a :: st) Q :=
  r_call (As := .ref a :: [.int x1]) (rest := st) hp hd ⟨⟨cm_X4_firstOf.1, cm_X4_firstOf.2.1, cm_X4_firstOf.2.2.1, cm_X4_firstOf.2.2.2.1, cm_X4_firstOf.2.2.2.2, Nat.le_of_ble_eq_true rfl, hc⟩, Or.inr (Or.inl ⟨269, a, [.int x1], _, 4, fs, rfl, rfl, rfl, ha, hs, hh, rfl, cv_X4_firstOf.1, cv_X4_firstOf.2, Or.inl ⟨(dp_m 524 (by decide +kernel) rfl), rfl, by rw [hM]; exact Or.inl (dp_m 522 (by decide +kernel) rfl)⟩⟩)⟩ (Nat.zero_add _).symm (Nat.zero_add _).symm hE k
theorem cl_X11_278 {a : Nat} {fs : List Value} {x1 : Nat} {x2 : Nat} {x3 : Int32} (hM : M.1.cls = RX11) (hp : pc + 3 = pc') (hd : decode M.2.1 pc = .ok (.invokevirtual 278, 3)) (ha : 2 ≤ a) (hs : a < sz) (hh : h a = .inr (3, fs)) (hc : ev_cs st ≤ 8) (hE : EV xs L d 0 0 M_X3_becomeCut sz h 0 [some (.ref a), some (.ref x1), some (.ref x2), some (.int x3), none, none, none] [] Qm) (k : ∀ sz' h' r, Qm sz' h' r → EV xs L (d + 1) kc ks M sz' h' pc' ls (r ++ st) Q) : EV xs L (d + 1) kc ks M sz h pc ls (.int x3 :: .ref x2 :: .ref x1 :: .ref a :: st) Q :=
  r_call (As := .ref a :: [.ref x1, .ref x2, .int x3]) (rest := st) hp hd ⟨⟨cm_X3_becomeCut.1, cm_X3_becomeCut.2.1, cm_X3_becomeCut.2.2.1, cm_X3_becomeCut.2.2.2.1, cm_X3_becomeCut.2.2.2.2, Nat.le_of_ble_eq_true rfl, hc⟩, Or.inr (Or.inl ⟨278, a, [.ref x1, .ref x2, .int x3], _, 3, fs, rfl, rfl, rfl, ha, hs, hh, rfl, cv_X3_becomeCut.1, cv_X3_becomeCut.2, Or.inl ⟨(dp_m 540 (by decide +kernel) rfl), rfl, by rw [hM]; exact Or.inl (dp_m 538 (by decide +kernel) rfl)⟩⟩)⟩ (Nat.zero_add _).symm (Nat.zero_add _).symm hE k
theorem cl_X3_60 {a : Nat} {fs : List Value} {x1 : Int32} {x2 : Nat} {x3 : Nat} (hM : M.1.cls = RX3) (hp : pc + 3 = pc') (hd : decode M.2.1 pc = .ok (.invokevirtual 60, 3)) (ha : 2 ≤ a) (hs : a < sz) (hh : h a = .inr (10, fs)) (hc : ev_cs st ≤ 8) (hE : EV xs L d 0 0 M_X10_choose sz h 0 [some (.ref a), some (.int x1), some (.ref x2), some (.ref x3), none, none, none] [] Qm) (k : ∀ sz' h' r, Qm sz' h' r → EV xs L (d + 1) kc ks M sz' h' pc' ls (r ++ st) Q) : EV xs L (d + 1) kc ks M sz h pc ls (.ref x3 :: .ref x2 :: .int x1 :: .ref a :: st) Q :=
  r_call (As := .ref a :: [.int x1, .ref x2, .ref x3]) (rest := st) hp hd ⟨⟨cm_X10_choose.1, cm_X10_choose.2.1, cm_X10_choose.2.2.1, cm_X10_choose.2.2.2.1, cm_X10_choose.2.2.2.2, Nat.le_of_ble_eq_true rfl, hc⟩, Or.inr (Or.inl ⟨60, a, [.int x1, .ref x2, .ref x3], _, 10, fs, rfl, rfl, rfl, ha, hs, hh, rfl, cv_X10_choose.1, cv_X10_choose.2, Or.inl ⟨(dp_m 556 (by decide +kernel) rfl), rfl, by rw [hM]; exact Or.inl (dp_m 554 (by decide +kernel) rfl)⟩⟩)⟩ (Nat.zero_add _).symm (Nat.zero_add _).symm hE k
theorem cl_X3_75 {a : Nat} {fs : List Value} {x1 : Nat} (hM : M.1.cls = RX3) (hp : pc + 3 = pc') (hd : decode M.2.1 pc = .ok (.invokevirtual 75, 3)) (ha : 2 ≤ a) (hs : a < sz) (hh : h a = .inr (10, fs)) (hc : ev_cs st ≤ 8) (hE : EV xs L d 0 0 M_X10_meet sz h 0 [some (.ref a), some (.ref x1), none] [] Qm) (k : ∀ sz' h' r, Qm sz' h' r → EV xs L (d + 1) kc ks M sz' h' pc' ls (r ++ st) Q) : EV xs L (d + 1) kc ks M sz h pc ls (.ref x1 :: .ref a :: st) Q :=
  r_call (As := .ref a :: [.ref x1]) (rest := st) hp hd ⟨⟨cm_X10_meet.1, cm_X10_meet.2.1, cm_X10_meet.2.2.1, cm_X10_meet.2.2.2.1, cm_X10_meet.2.2.2.2, Nat.le_of_ble_eq_true rfl, hc⟩, Or.inr (Or.inl ⟨75, a, [.ref x1], _, 10, fs, rfl, rfl, rfl, ha, hs, hh, rfl, cv_X10_meet.1, cv_X10_meet.2, Or.inl ⟨(dp_m 438 (by decide +kernel) rfl), rfl, by rw [hM]; exact Or.inl (dp_m 566 (by decide +kernel) rfl)⟩⟩)⟩ (Nat.zero_add _).symm (Nat.zero_add _).symm hE k
theorem cl_X11_125 {a : Nat} {fs : List Value} {x1 : Int32} (hM : M.1.cls = RX11) (hp : pc + 3 = pc') (hd : decode M.2.1 pc = .ok (.invokevirtual 125, 3)) (ha : 2 ≤ a) (hs : a < sz) (hh : h a = .inr (3, fs)) (hc : ev_cs st ≤ 8) (hE : EV xs L d 0 0 M_X3_property sz h 0 [some (.ref a), some (.int x1)] [] Qm) (k : ∀ sz' h' r, Qm sz' h' r → EV xs L (d + 1) kc ks M sz' h' pc' ls (r ++ st) Q) : EV xs L (d + 1) kc ks M sz h pc ls (.int x1 :: .ref a :: st) Q :=
  r_call (As := .ref a :: [.int x1]) (rest := st) hp hd ⟨⟨cm_X3_property.1, cm_X3_property.2.1, cm_X3_property.2.2.1, cm_X3_property.2.2.2.1, cm_X3_property.2.2.2.2, Nat.le_of_ble_eq_true rfl, hc⟩, Or.inr (Or.inl ⟨125, a, [.int x1], _, 3, fs, rfl, rfl, rfl, ha, hs, hh, rfl, cv_X3_property.1, cv_X3_property.2, Or.inl ⟨(dp_m 581 (by decide +kernel) rfl), rfl, by rw [hM]; exact Or.inl (dp_m 579 (by decide +kernel) rfl)⟩⟩)⟩ (Nat.zero_add _).symm (Nat.zero_add _).symm hE k
theorem cl_X11_136 {a : Nat} {fs : List Value} {x1 : Int32} (hM : M.1.cls = RX11) (hp : pc + 3 = pc') (hd : decode M.2.1 pc = .ok (.invokevirtual 136, 3)) (ha : 2 ≤ a) (hs : a < sz) (hh : h a = .inr (3, fs)) (hc : ev_cs st ≤ 8) (hE : EV xs L d 0 0 M_X3_isSoIn sz h 0 [some (.ref a), some (.int x1)] [] Qm) (k : ∀ sz' h' r, Qm sz' h' r → EV xs L (d + 1) kc ks M sz' h' pc' ls (r ++ st) Q) : EV xs L (d + 1) kc ks M sz h pc ls (.int x1 :: .ref a :: st) Q :=
  r_call (As := .ref a :: [.int x1]) (rest := st) hp hd ⟨⟨cm_X3_isSoIn.1, cm_X3_isSoIn.2.1, cm_X3_isSoIn.2.2.1, cm_X3_isSoIn.2.2.2.1, cm_X3_isSoIn.2.2.2.2, Nat.le_of_ble_eq_true rfl, hc⟩, Or.inr (Or.inl ⟨136, a, [.int x1], _, 3, fs, rfl, rfl, rfl, ha, hs, hh, rfl, cv_X3_isSoIn.1, cv_X3_isSoIn.2, Or.inl ⟨(dp_m 596 (by decide +kernel) rfl), rfl, by rw [hM]; exact Or.inl (dp_m 594 (by decide +kernel) rfl)⟩⟩)⟩ (Nat.zero_add _).symm (Nat.zero_add _).symm hE k
theorem cl_X11_146 {a : Nat} {fs : List Value} {x1 : Nat} (hM : M.1.cls = RX11) (hp : pc + 3 = pc') (hd : decode M.2.1 pc = .ok (.invokevirtual 146, 3)) (ha : 2 ≤ a) (hs : a < sz) (hh : h a = .inr (10, fs)) (hc : ev_cs st ≤ 8) (hE : EV xs L d 0 0 M_X10_sizeWith sz h 0 [some (.ref a), some (.ref x1), none, none] [] Qm) (k : ∀ sz' h' r, Qm sz' h' r → EV xs L (d + 1) kc ks M sz' h' pc' ls (r ++ st) Q) : EV xs L (d + 1) kc ks M sz h pc ls (.ref x1 :: .ref a :: st) Q :=
  r_call (As := .ref a :: [.ref x1]) (rest := st) hp hd ⟨⟨cm_X10_sizeWith.1, cm_X10_sizeWith.2.1, cm_X10_sizeWith.2.2.1, cm_X10_sizeWith.2.2.2.1, cm_X10_sizeWith.2.2.2.2, Nat.le_of_ble_eq_true rfl, hc⟩, Or.inr (Or.inl ⟨146, a, [.ref x1], _, 10, fs, rfl, rfl, rfl, ha, hs, hh, rfl, cv_X10_sizeWith.1, cv_X10_sizeWith.2, Or.inl ⟨(dp_m 614 (by decide +kernel) rfl), rfl, by rw [hM]; exact Or.inl (dp_m 612 (by decide +kernel) rfl)⟩⟩)⟩ (Nat.zero_add _).symm (Nat.zero_add _).symm hE k
theorem cl_X11_157 {a : Nat} {fs : List Value} {x1 : Int32} (hM : M.1.cls = RX11) (hp : pc + 3 = pc') (hd : decode M.2.1 pc = .ok (.invokevirtual 157, 3)) (ha : 2 ≤ a) (hs : a < sz) (hh : h a = .inr (10, fs)) (hc : ev_cs st ≤ 8) (hE : EV xs L d 0 0 M_X10_has sz h 0 [some (.ref a), some (.int x1)] [] Qm) (k : ∀ sz' h' r, Qm sz' h' r → EV xs L (d + 1) kc ks M sz' h' pc' ls (r ++ st) Q) : EV xs L (d + 1) kc ks M sz h pc ls (.int x1 :: .ref a :: st) Q :=
  r_call (As := .ref a :: [.int x1]) (rest := st) hp hd ⟨⟨cm_X10_has.1, cm_X10_has.2.1, cm_X10_has.2.2.1, cm_X10_has.2.2.2.1, cm_X10_has.2.2.2.2, Nat.le_of_ble_eq_true rfl, hc⟩, Or.inr (Or.inl ⟨157, a, [.int x1], _, 10, fs, rfl, rfl, rfl, ha, hs, hh, rfl, cv_X10_has.1, cv_X10_has.2, Or.inl ⟨(dp_m 629 (by decide +kernel) rfl), rfl, by rw [hM]; exact Or.inl (dp_m 627 (by decide +kernel) rfl)⟩⟩)⟩ (Nat.zero_add _).symm (Nat.zero_add _).symm hE k
theorem cl_X11_164 {a : Nat} {fs : List Value} {x1 : Nat} (hM : M.1.cls = RX11) (hp : pc + 3 = pc') (hd : decode M.2.1 pc = .ok (.invokevirtual 164, 3)) (ha : 2 ≤ a) (hs : a < sz) (hh : h a = .inr (7, fs)) (hc : ev_cs st ≤ 8) (hE : EV xs L d 0 0 M_X7_judge sz h 0 [some (.ref a), some (.ref x1)] [] Qm) (k : ∀ sz' h' r, Qm sz' h' r → EV xs L (d + 1) kc ks M sz' h' pc' ls (r ++ st) Q) : EV xs L (d + 1) kc ks M sz h pc ls (.ref x1 :: .ref a :: st) Q :=
  r_call (As := .ref a :: [.ref x1]) (rest := st) hp hd ⟨⟨cm_X7_judge.1, cm_X7_judge.2.1, cm_X7_judge.2.2.1, cm_X7_judge.2.2.2.1, cm_X7_judge.2.2.2.2, Nat.le_of_ble_eq_true rfl, hc⟩, Or.inr (Or.inl ⟨164, a, [.ref x1], _, 7, fs, rfl, rfl, rfl, ha, hs, hh, rfl, cv_X7_judge.1, cv_X7_judge.2, Or.inl ⟨(dp_m 646 (by decide +kernel) rfl), rfl, by rw [hM]; exact Or.inl (dp_m 644 (by decide +kernel) rfl)⟩⟩)⟩ (Nat.zero_add _).symm (Nat.zero_add _).symm hE k
theorem cl_X10_30 {a : Nat} {fs : List Value} {x1 : Nat} (hM : M.1.cls = RX10) (hp : pc + 3 = pc') (hd : decode M.2.1 pc = .ok (.invokevirtual 30, 3)) (ha : 2 ≤ a) (hs : a < sz) (hh : h a = .inr (10, fs)) (hc : ev_cs st ≤ 8) (hE : EV xs L d 0 0 M_X10_sizeWith sz h 0 [some (.ref a), some (.ref x1), none, none] [] Qm) (k : ∀ sz' h' r, Qm sz' h' r → EV xs L (d + 1) kc ks M sz' h' pc' ls (r ++ st) Q) : EV xs L (d + 1) kc ks M sz h pc ls (.ref x1 :: .ref a :: st) Q :=
  r_call (As := .ref a :: [.ref x1]) (rest := st) hp hd ⟨⟨cm_X10_sizeWith.1, cm_X10_sizeWith.2.1, cm_X10_sizeWith.2.2.1, cm_X10_sizeWith.2.2.2.1, cm_X10_sizeWith.2.2.2.2, Nat.le_of_ble_eq_true rfl, hc⟩, Or.inr (Or.inl ⟨30, a, [.ref x1], _, 10, fs, rfl, rfl, rfl, ha, hs, hh, rfl, cv_X10_sizeWith.1, cv_X10_sizeWith.2, Or.inl ⟨(dp_m 614 (by decide +kernel) rfl), rfl, by rw [hM]; exact Or.inl (dp_m 660 (by decide +kernel) rfl)⟩⟩)⟩ (Nat.zero_add _).symm (Nat.zero_add _).symm hE k
theorem cl_X11_167 {a : Nat} {fs : List Value} {x1 : Int32} (hM : M.1.cls = RX11) (hp : pc + 3 = pc') (hd : decode M.2.1 pc = .ok (.invokevirtual 167, 3)) (ha : 2 ≤ a) (hs : a < sz) (hh : h a = .inr (11, fs)) (hc : ev_cs st ≤ 8) (hE : EV xs L d 0 0 M_X11_setOf sz h 0 [some (.ref a), some (.int x1), none] [] Qm) (k : ∀ sz' h' r, Qm sz' h' r → EV xs L (d + 1) kc ks M sz' h' pc' ls (r ++ st) Q) : EV xs L (d + 1) kc ks M sz h pc ls (.int x1 :: .ref a :: st) Q :=
  r_call (As := .ref a :: [.int x1]) (rest := st) hp hd ⟨⟨cm_X11_setOf.1, cm_X11_setOf.2.1, cm_X11_setOf.2.2.1, cm_X11_setOf.2.2.2.1, cm_X11_setOf.2.2.2.2, Nat.le_of_ble_eq_true rfl, hc⟩, Or.inr (Or.inl ⟨167, a, [.int x1], _, 11, fs, rfl, rfl, rfl, ha, hs, hh, rfl, cv_X11_setOf.1, cv_X11_setOf.2, Or.inl ⟨(dp_s 15 (by decide +kernel) rfl), rfl, by rw [hM]; exact Or.inl (dp_m 667 (by decide +kernel) rfl)⟩⟩)⟩ (Nat.zero_add _).symm (Nat.zero_add _).symm hE k
theorem cl_L_81 {a : Nat} {fs : List Value} {x1 : Int32} (hM : M.1.cls = R_law) (hp : pc + 3 = pc') (hd : decode M.2.1 pc = .ok (.invokevirtual 81, 3)) (ha : 2 ≤ a) (hs : a < sz) (hh : h a = .inr (11, fs)) (hc : ev_cs st ≤ 8) (hE : EV xs L d 0 0 M_X11_bounds sz h 0 [some (.ref a), some (.int x1)] [] Qm) (k : ∀ sz' h' r, Qm sz' h' r → EV xs L (d + 1) kc ks M sz' h' pc' ls (r ++ st) Q) : EV xs L (d + 1) kc ks M sz h pc ls (.int x1 :: .ref a :: st) Q :=
  r_call (As := .ref a :: [.int x1]) (rest := st) hp hd ⟨⟨cm_X11_bounds.1, cm_X11_bounds.2.1, cm_X11_bounds.2.2.1, cm_X11_bounds.2.2.2.1, cm_X11_bounds.2.2.2.2, Nat.le_of_ble_eq_true rfl, hc⟩, Or.inr (Or.inl ⟨81, a, [.int x1], _, 11, fs, rfl, rfl, rfl, ha, hs, hh, rfl, cv_X11_bounds.1, cv_X11_bounds.2, Or.inl ⟨(dp_m 679 (by decide +kernel) rfl), rfl, by rw [hM]; exact Or.inl (dp_m 677 (by decide +kernel) rfl)⟩⟩)⟩ (Nat.zero_add _).symm (Nat.zero_add _).symm hE k
theorem cl_L_85 {a : Nat} {fs : List Value} {x1 : Int32} (hM : M.1.cls = R_law) (hp : pc + 3 = pc') (hd : decode M.2.1 pc = .ok (.invokevirtual 85, 3)) (ha : 2 ≤ a) (hs : a < sz) (hh : h a = .inr (11, fs)) (hc : ev_cs st ≤ 8) (hE : EV xs L d 0 0 M_X11_fewest sz h 0 [some (.ref a), some (.int x1)] [] Qm) (k : ∀ sz' h' r, Qm sz' h' r → EV xs L (d + 1) kc ks M sz' h' pc' ls (r ++ st) Q) : EV xs L (d + 1) kc ks M sz h pc ls (.int x1 :: .ref a :: st) Q :=
  r_call (As := .ref a :: [.int x1]) (rest := st) hp hd ⟨⟨cm_X11_fewest.1, cm_X11_fewest.2.1, cm_X11_fewest.2.2.1, cm_X11_fewest.2.2.2.1, cm_X11_fewest.2.2.2.2, Nat.le_of_ble_eq_true rfl, hc⟩, Or.inr (Or.inl ⟨85, a, [.int x1], _, 11, fs, rfl, rfl, rfl, ha, hs, hh, rfl, cv_X11_fewest.1, cv_X11_fewest.2, Or.inl ⟨(dp_m 689 (by decide +kernel) rfl), rfl, by rw [hM]; exact Or.inl (dp_m 687 (by decide +kernel) rfl)⟩⟩)⟩ (Nat.zero_add _).symm (Nat.zero_add _).symm hE k
theorem cl_X11_189 {x1 : Int32} {x2 : Int32} (hM : M.1.cls = RX11) (hp : pc + 3 = pc') (hd : decode M.2.1 pc = .ok (.invokestatic 189, 3)) (hc : ev_cs st ≤ 8) (hE : EV xs L d 0 0 M_X11_sizeOrSet sz h 0 [some (.int x1), some (.int x2)] [] Qm) (k : ∀ sz' h' r, Qm sz' h' r → EV xs L (d + 1) kc ks M sz' h' pc' ls (r ++ st) Q) : EV xs L (d + 1) kc ks M sz h pc ls (.int x2 :: .int x1 :: st) Q :=
  r_call (As := [.int x1, .int x2]) (rest := st) hp hd ⟨⟨cm_X11_sizeOrSet.1, cm_X11_sizeOrSet.2.1, cm_X11_sizeOrSet.2.2.1, cm_X11_sizeOrSet.2.2.2.1, cm_X11_sizeOrSet.2.2.2.2, Nat.le_of_ble_eq_true rfl, hc⟩, Or.inl ⟨189, rfl, rfl, cs_X11_sizeOrSet.1, cs_X11_sizeOrSet.2, by rw [hM]; exact Or.inl (dp_m 703 (by decide +kernel) rfl)⟩⟩ (Nat.zero_add _).symm (Nat.zero_add _).symm hE k
theorem cl_L_93 {a : Nat} {fs : List Value} {x1 : Int32} {x2 : Int32} {x3 : Int32} (hM : M.1.cls = R_law) (hp : pc + 3 = pc') (hd : decode M.2.1 pc = .ok (.invokevirtual 93, 3)) (ha : 2 ≤ a) (hs : a < sz) (hh : h a = .inr (11, fs)) (hc : ev_cs st ≤ 8) (hE : EV xs L d 0 0 M_X11_copy sz h 0 [some (.ref a), some (.int x1), some (.int x2), some (.int x3), none, none, none] [] Qm) (k : ∀ sz' h' r, Qm sz' h' r → EV xs L (d + 1) kc ks M sz' h' pc' ls (r ++ st) Q) : EV xs L (d + 1) kc ks M sz h pc ls (.int x3 :: .int x2 :: .int x1 :: .ref a :: st) Q :=
  r_call (As := .ref a :: [.int x1, .int x2, .int x3]) (rest := st) hp hd ⟨⟨cm_X11_copy.1, cm_X11_copy.2.1, cm_X11_copy.2.2.1, cm_X11_copy.2.2.2.1, cm_X11_copy.2.2.2.2, Nat.le_of_ble_eq_true rfl, hc⟩, Or.inr (Or.inl ⟨93, a, [.int x1, .int x2, .int x3], _, 11, fs, rfl, rfl, rfl, ha, hs, hh, rfl, cv_X11_copy.1, cv_X11_copy.2, Or.inl ⟨(dp_m 717 (by decide +kernel) rfl), rfl, by rw [hM]; exact Or.inl (dp_m 715 (by decide +kernel) rfl)⟩⟩)⟩ (Nat.zero_add _).symm (Nat.zero_add _).symm hE k
theorem cl_X11_292 {x1 : Int32} (hM : M.1.cls = RX11) (hp : pc + 3 = pc') (hd : decode M.2.1 pc = .ok (.invokestatic 292, 3)) (hc : ev_cs st ≤ 8) (hE : EV xs L d 0 0 M_X11_bitOf sz h 0 [some (.int x1)] [] Qm) (k : ∀ sz' h' r, Qm sz' h' r → EV xs L (d + 1) kc ks M sz' h' pc' ls (r ++ st) Q) : EV xs L (d + 1) kc ks M sz h pc ls (.int x1 :: st) Q :=
  r_call (As := [.int x1]) (rest := st) hp hd ⟨⟨cm_X11_bitOf.1, cm_X11_bitOf.2.1, cm_X11_bitOf.2.2.1, cm_X11_bitOf.2.2.2.1, cm_X11_bitOf.2.2.2.2, Nat.le_of_ble_eq_true rfl, hc⟩, Or.inl ⟨292, rfl, rfl, cs_X11_bitOf.1, cs_X11_bitOf.2, by rw [hM]; exact Or.inl (dp_m 731 (by decide +kernel) rfl)⟩⟩ (Nat.zero_add _).symm (Nat.zero_add _).symm hE k
theorem cl_X0_51 {a : Nat} {fs : List Value}  (hM : M.1.cls = RX0) (hp : pc + 3 = pc') (hd : decode M.2.1 pc = .ok (.invokevirtual 51, 3)) (ha : 2 ≤ a) (hs : a < sz) (hh : h a = .inr (10, fs)) (hc : ev_cs st ≤ 8) (hE : EV xs L d 0 0 M_X10_fill sz h 0 [some (.ref a)] [] Qm) (k : ∀ sz' h' r, Qm sz' h' r → EV xs L (d + 1) kc ks M sz' h' pc' ls (r ++ st) Q) : EV xs L (d + 1) kc ks M sz h pc ls (.ref a :: st) Q :=
  r_call (As := .ref a :: []) (rest := st) hp hd ⟨⟨cm_X10_fill.1, cm_X10_fill.2.1, cm_X10_fill.2.2.1, cm_X10_fill.2.2.2.1, cm_X10_fill.2.2.2.2, Nat.le_of_ble_eq_true rfl, hc⟩, Or.inr (Or.inl ⟨51, a, [], _, 10, fs, rfl, rfl, rfl, ha, hs, hh, rfl, cv_X10_fill.1, cv_X10_fill.2, Or.inl ⟨(dp_m 110 (by decide +kernel) rfl), rfl, by rw [hM]; exact Or.inl (dp_m 746 (by decide +kernel) rfl)⟩⟩)⟩ (Nat.zero_add _).symm (Nat.zero_add _).symm hE k
theorem cl_X0_66 {a : Nat} {fs : List Value} {x1 : Int32} {x2 : Int32} (hM : M.1.cls = RX0) (hp : pc + 3 = pc') (hd : decode M.2.1 pc = .ok (.invokevirtual 66, 3)) (ha : 2 ≤ a) (hs : a < sz) (hh : h a = .inr (0, fs)) (hc : ev_cs st ≤ 8) (hE : EV xs L d 0 0 M_X0_keep sz h 0 [some (.ref a), some (.int x1), some (.int x2)] [] Qm) (k : ∀ sz' h' r, Qm sz' h' r → EV xs L (d + 1) kc ks M sz' h' pc' ls (r ++ st) Q) : EV xs L (d + 1) kc ks M sz h pc ls (.int x2 :: .int x1 :: .ref a :: st) Q :=
  r_call (As := .ref a :: [.int x1, .int x2]) (rest := st) hp hd ⟨⟨cm_X0_keep.1, cm_X0_keep.2.1, cm_X0_keep.2.2.1, cm_X0_keep.2.2.2.1, cm_X0_keep.2.2.2.2, Nat.le_of_ble_eq_true rfl, hc⟩, Or.inr (Or.inl ⟨66, a, [.int x1, .int x2], _, 0, fs, rfl, rfl, rfl, ha, hs, hh, rfl, cv_X0_keep.1, cv_X0_keep.2, Or.inl ⟨(dp_s 21 (by decide +kernel) rfl), rfl, by rw [hM]; exact Or.inl (dp_m 756 (by decide +kernel) rfl)⟩⟩)⟩ (Nat.zero_add _).symm (Nat.zero_add _).symm hE k
theorem cl_X11_203 {a : Nat} {fs : List Value} {x1 : Int32} (hM : M.1.cls = RX11) (hp : pc + 3 = pc') (hd : decode M.2.1 pc = .ok (.invokevirtual 203, 3)) (ha : 2 ≤ a) (hs : a < sz) (hh : h a = .inr (11, fs)) (hc : ev_cs st ≤ 8) (hE : EV xs L d 0 0 M_X11_ruleOf sz h 0 [some (.ref a), some (.int x1)] [] Qm) (k : ∀ sz' h' r, Qm sz' h' r → EV xs L (d + 1) kc ks M sz' h' pc' ls (r ++ st) Q) : EV xs L (d + 1) kc ks M sz h pc ls (.int x1 :: .ref a :: st) Q :=
  r_call (As := .ref a :: [.int x1]) (rest := st) hp hd ⟨⟨cm_X11_ruleOf.1, cm_X11_ruleOf.2.1, cm_X11_ruleOf.2.2.1, cm_X11_ruleOf.2.2.2.1, cm_X11_ruleOf.2.2.2.2, Nat.le_of_ble_eq_true rfl, hc⟩, Or.inr (Or.inl ⟨203, a, [.int x1], _, 11, fs, rfl, rfl, rfl, ha, hs, hh, rfl, cv_X11_ruleOf.1, cv_X11_ruleOf.2, Or.inl ⟨(dp_s 22 (by decide +kernel) rfl), rfl, by rw [hM]; exact Or.inl (dp_m 766 (by decide +kernel) rfl)⟩⟩)⟩ (Nat.zero_add _).symm (Nat.zero_add _).symm hE k
theorem cl_X11_207_X5 {a : Nat} {fs : List Value} {x1 : Nat} {x2 : Nat} (hM : M.1.cls = RX11) (hp : pc + 3 = pc') (hd : decode M.2.1 pc = .ok (.invokevirtual 207, 3)) (ha : 2 ≤ a) (hs : a < sz) (hh : h a = .inr (5, fs)) (hc : ev_cs st ≤ 8) (hE : EV xs L d 0 0 M_X5_work sz h 0 [some (.ref a), some (.ref x1), some (.ref x2)] [] Qm) (k : ∀ sz' h' r, Qm sz' h' r → EV xs L (d + 1) kc ks M sz' h' pc' ls (r ++ st) Q) : EV xs L (d + 1) kc ks M sz h pc ls (.ref x2 :: .ref x1 :: .ref a :: st) Q :=
  r_call (As := .ref a :: [.ref x1, .ref x2]) (rest := st) hp hd ⟨⟨cm_X5_work.1, cm_X5_work.2.1, cm_X5_work.2.2.1, cm_X5_work.2.2.2.1, cm_X5_work.2.2.2.2, Nat.le_of_ble_eq_true rfl, hc⟩, Or.inr (Or.inl ⟨207, a, [.ref x1, .ref x2], _, 5, fs, rfl, rfl, rfl, ha, hs, hh, rfl, cv_X5_work.1, cv_X5_work.2, Or.inr ⟨yX6_work, cX6_work, 3, (some .int), ⟨by decide, by decide⟩, cv_X6_work.1, by rw [hM]; exact (dp_m 770 (by decide +kernel) rfl), (dp_m 773 (by decide +kernel) rfl), cv_X6_work.2, (dp_m 789 (by decide +kernel) rfl), cm_X6_work.2.1⟩⟩)⟩ (Nat.zero_add _).symm (Nat.zero_add _).symm hE k
theorem cl_X2_13 {a cj : Nat} {fs : List Value} {q : vw_C} {x1 : Nat} {x2 : Nat} (hM : M.1.cls = RX2) (hp : pc + 3 = pc') (hd : decode M.2.1 pc = .ok (.invokespecial 13, 3)) (ha : 2 ≤ a) (hs : a < sz) (hh : h a = .inr (cj, fs)) (hq : dp_cl[cj]? = some q) (hc : ev_cs st ≤ 8) (hE : EV xs L d 0 0 M_X6_work sz h 0 [some (.ref a), some (.ref x1), some (.ref x2)] [] Qm) (k : ∀ sz' h' r, Qm sz' h' r → EV xs L (d + 1) kc ks M sz' h' pc' ls (r ++ st) Q) : EV xs L (d + 1) kc ks M sz h pc ls (.ref x2 :: .ref x1 :: .ref a :: st) Q :=
  r_call (As := .ref a :: [.ref x1, .ref x2]) (rest := st) hp hd ⟨⟨cm_X6_work.1, cm_X6_work.2.1, cm_X6_work.2.2.1, cm_X6_work.2.2.2.1, cm_X6_work.2.2.2.2, Nat.le_of_ble_eq_true rfl, hc⟩, Or.inr (Or.inr (Or.inr ⟨13, a, [.ref x1, .ref x2], q, cj, fs, rfl, rfl, rfl, ha, hs, hh, hq, cv_X6_work.1, by decide, by rw [hM]; exact (dp_m 785 (by decide +kernel) rfl), (dp_m 773 (by decide +kernel) rfl), by rw [hM]; exact (dp_m 206 (by decide +kernel) rfl), cv_X6_work.2⟩))⟩ (Nat.zero_add _).symm (Nat.zero_add _).symm hE k
theorem cl_X5_13 {a cj : Nat} {fs : List Value} {q : vw_C} {x1 : Nat} {x2 : Nat} (hM : M.1.cls = RX5) (hp : pc + 3 = pc') (hd : decode M.2.1 pc = .ok (.invokespecial 13, 3)) (ha : 2 ≤ a) (hs : a < sz) (hh : h a = .inr (cj, fs)) (hq : dp_cl[cj]? = some q) (hc : ev_cs st ≤ 8) (hE : EV xs L d 0 0 M_X6_work sz h 0 [some (.ref a), some (.ref x1), some (.ref x2)] [] Qm) (k : ∀ sz' h' r, Qm sz' h' r → EV xs L (d + 1) kc ks M sz' h' pc' ls (r ++ st) Q) : EV xs L (d + 1) kc ks M sz h pc ls (.ref x2 :: .ref x1 :: .ref a :: st) Q :=
  r_call (As := .ref a :: [.ref x1, .ref x2]) (rest := st) hp hd ⟨⟨cm_X6_work.1, cm_X6_work.2.1, cm_X6_work.2.2.1, cm_X6_work.2.2.2.1, cm_X6_work.2.2.2.2, Nat.le_of_ble_eq_true rfl, hc⟩, Or.inr (Or.inr (Or.inr ⟨13, a, [.ref x1, .ref x2], q, cj, fs, rfl, rfl, rfl, ha, hs, hh, hq, cv_X6_work.1, by decide, by rw [hM]; exact (dp_m 793 (by decide +kernel) rfl), (dp_m 773 (by decide +kernel) rfl), by rw [hM]; exact (dp_m 213 (by decide +kernel) rfl), cv_X6_work.2⟩))⟩ (Nat.zero_add _).symm (Nat.zero_add _).symm hE k
theorem cl_L_117 {a : Nat} {fs : List Value}  (hM : M.1.cls = R_law) (hp : pc + 3 = pc') (hd : decode M.2.1 pc = .ok (.invokevirtual 117, 3)) (ha : 2 ≤ a) (hs : a < sz) (hh : h a = .inr (11, fs)) (hc : ev_cs st ≤ 8) (hE : EV xs L d 0 0 M_X11_trace sz h 0 [some (.ref a)] [] Qm) (k : ∀ sz' h' r, Qm sz' h' r → EV xs L (d + 1) kc ks M sz' h' pc' ls (r ++ st) Q) : EV xs L (d + 1) kc ks M sz h pc ls (.ref a :: st) Q :=
  r_call (As := .ref a :: []) (rest := st) hp hd ⟨⟨cm_X11_trace.1, cm_X11_trace.2.1, cm_X11_trace.2.2.1, cm_X11_trace.2.2.2.1, cm_X11_trace.2.2.2.2, Nat.le_of_ble_eq_true rfl, hc⟩, Or.inr (Or.inl ⟨117, a, [], _, 11, fs, rfl, rfl, rfl, ha, hs, hh, rfl, cv_X11_trace.1, cv_X11_trace.2, Or.inl ⟨(dp_m 803 (by decide +kernel) rfl), rfl, by rw [hM]; exact Or.inl (dp_m 801 (by decide +kernel) rfl)⟩⟩)⟩ (Nat.zero_add _).symm (Nat.zero_add _).symm hE k
theorem cl_X12_133 {a : Nat} {fs : List Value}  (hM : M.1.cls = RX12) (hp : pc + 3 = pc') (hd : decode M.2.1 pc = .ok (.invokevirtual 133, 3)) (ha : 2 ≤ a) (hs : a < sz) (hh : h a = .inr (12, fs)) (hc : ev_cs st ≤ 8) (hE : EV xs L d 0 0 M_X12_shared sz h 0 [some (.ref a)] [] Qm) (k : ∀ sz' h' r, Qm sz' h' r → EV xs L (d + 1) kc ks M sz' h' pc' ls (r ++ st) Q) : EV xs L (d + 1) kc ks M sz h pc ls (.ref a :: st) Q :=
  r_call (As := .ref a :: []) (rest := st) hp hd ⟨⟨cm_X12_shared.1, cm_X12_shared.2.1, cm_X12_shared.2.2.1, cm_X12_shared.2.2.2.1, cm_X12_shared.2.2.2.2, Nat.le_of_ble_eq_true rfl, hc⟩, Or.inr (Or.inl ⟨133, a, [], _, 12, fs, rfl, rfl, rfl, ha, hs, hh, rfl, cv_X12_shared.1, cv_X12_shared.2, Or.inl ⟨(dp_s 24 (by decide +kernel) rfl), rfl, by rw [hM]; exact Or.inl (dp_m 819 (by decide +kernel) rfl)⟩⟩)⟩ (Nat.zero_add _).symm (Nat.zero_add _).symm hE k
theorem cl_L_19 {a : Nat} {fs : List Value} {x1 : Int64} {x2 : Int32} (hM : M.1.cls = R_law) (hp : pc + 3 = pc') (hd : decode M.2.1 pc = .ok (.invokevirtual 19, 3)) (ha : 2 ≤ a) (hs : a < sz) (hh : h a = .inr (12, fs)) (hc : ev_cs st ≤ 8) (hE : EV xs L d 0 0 M_X12_type sz h 0 [some (.ref a), some (.long x1), none, some (.int x2), none] [] Qm) (k : ∀ sz' h' r, Qm sz' h' r → EV xs L (d + 1) kc ks M sz' h' pc' ls (r ++ st) Q) : EV xs L (d + 1) kc ks M sz h pc ls (.int x2 :: .long x1 :: .ref a :: st) Q :=
  r_call (As := .ref a :: [.long x1, .int x2]) (rest := st) hp hd ⟨⟨cm_X12_type.1, cm_X12_type.2.1, cm_X12_type.2.2.1, cm_X12_type.2.2.2.1, cm_X12_type.2.2.2.2, Nat.le_of_ble_eq_true rfl, hc⟩, Or.inr (Or.inl ⟨19, a, [.long x1, .int x2], _, 12, fs, rfl, rfl, rfl, ha, hs, hh, rfl, cv_X12_type.1, cv_X12_type.2, Or.inl ⟨(dp_m 912 (by decide +kernel) rfl), rfl, by rw [hM]; exact Or.inl (dp_m 910 (by decide +kernel) rfl)⟩⟩)⟩ (Nat.zero_add _).symm (Nat.zero_add _).symm hE k
theorem cl_X12_106 {a : Nat} {fs : List Value}  (hM : M.1.cls = RX12) (hp : pc + 3 = pc') (hd : decode M.2.1 pc = .ok (.invokevirtual 106, 3)) (ha : 2 ≤ a) (hs : a < sz) (hh : h a = .inr (12, fs)) (hc : ev_cs st ≤ 8) (hE : EV xs L d 0 0 M_X12_begins sz h 0 [some (.ref a)] [] Qm) (k : ∀ sz' h' r, Qm sz' h' r → EV xs L (d + 1) kc ks M sz' h' pc' ls (r ++ st) Q) : EV xs L (d + 1) kc ks M sz h pc ls (.ref a :: st) Q :=
  r_call (As := .ref a :: []) (rest := st) hp hd ⟨⟨cm_X12_begins.1, cm_X12_begins.2.1, cm_X12_begins.2.2.1, cm_X12_begins.2.2.2.1, cm_X12_begins.2.2.2.2, Nat.le_of_ble_eq_true rfl, hc⟩, Or.inr (Or.inl ⟨106, a, [], _, 12, fs, rfl, rfl, rfl, ha, hs, hh, rfl, cv_X12_begins.1, cv_X12_begins.2, Or.inl ⟨(dp_s 26 (by decide +kernel) rfl), rfl, by rw [hM]; exact Or.inl (dp_m 926 (by decide +kernel) rfl)⟩⟩)⟩ (Nat.zero_add _).symm (Nat.zero_add _).symm hE k
theorem cl_X12_92 {a : Nat} {fs : List Value}  (hM : M.1.cls = RX12) (hp : pc + 3 = pc') (hd : decode M.2.1 pc = .ok (.invokevirtual 92, 3)) (ha : 2 ≤ a) (hs : a < sz) (hh : h a = .inr (12, fs)) (hc : ev_cs st ≤ 8) (hE : EV xs L d 0 0 M_X12_isWell sz h 0 [some (.ref a)] [] Qm) (k : ∀ sz' h' r, Qm sz' h' r → EV xs L (d + 1) kc ks M sz' h' pc' ls (r ++ st) Q) : EV xs L (d + 1) kc ks M sz h pc ls (.ref a :: st) Q :=
  r_call (As := .ref a :: []) (rest := st) hp hd ⟨⟨cm_X12_isWell.1, cm_X12_isWell.2.1, cm_X12_isWell.2.2.1, cm_X12_isWell.2.2.2.1, cm_X12_isWell.2.2.2.2, Nat.le_of_ble_eq_true rfl, hc⟩, Or.inr (Or.inl ⟨92, a, [], _, 12, fs, rfl, rfl, rfl, ha, hs, hh, rfl, cv_X12_isWell.1, cv_X12_isWell.2, Or.inl ⟨(dp_s 30 (by decide +kernel) rfl), rfl, by rw [hM]; exact Or.inl (dp_m 942 (by decide +kernel) rfl)⟩⟩)⟩ (Nat.zero_add _).symm (Nat.zero_add _).symm hE k
theorem cl_X12_121 {a : Nat} {fs : List Value} {x1 : Int32} (hM : M.1.cls = RX12) (hp : pc + 3 = pc') (hd : decode M.2.1 pc = .ok (.invokevirtual 121, 3)) (ha : 2 ≤ a) (hs : a < sz) (hh : h a = .inr (12, fs)) (hc : ev_cs st ≤ 8) (hE : EV xs L d 0 0 M_X12_holding sz h 0 [some (.ref a), some (.int x1), none] [] Qm) (k : ∀ sz' h' r, Qm sz' h' r → EV xs L (d + 1) kc ks M sz' h' pc' ls (r ++ st) Q) : EV xs L (d + 1) kc ks M sz h pc ls (.int x1 :: .ref a :: st) Q :=
  r_call (As := .ref a :: [.int x1]) (rest := st) hp hd ⟨⟨cm_X12_holding.1, cm_X12_holding.2.1, cm_X12_holding.2.2.1, cm_X12_holding.2.2.2.1, cm_X12_holding.2.2.2.2, Nat.le_of_ble_eq_true rfl, hc⟩, Or.inr (Or.inl ⟨121, a, [.int x1], _, 12, fs, rfl, rfl, rfl, ha, hs, hh, rfl, cv_X12_holding.1, cv_X12_holding.2, Or.inl ⟨(dp_s 34 (by decide +kernel) rfl), rfl, by rw [hM]; exact Or.inl (dp_m 958 (by decide +kernel) rfl)⟩⟩)⟩ (Nat.zero_add _).symm (Nat.zero_add _).symm hE k
theorem cl_X12_147 {a : Nat} {fs : List Value} {x1 : Int32} (hM : M.1.cls = RX12) (hp : pc + 3 = pc') (hd : decode M.2.1 pc = .ok (.invokevirtual 147, 3)) (ha : 2 ≤ a) (hs : a < sz) (hh : h a = .inr (12, fs)) (hc : ev_cs st ≤ 8) (hE : EV xs L d 0 0 M_X12_readsStep sz h 0 [some (.ref a), some (.int x1), none] [] Qm) (k : ∀ sz' h' r, Qm sz' h' r → EV xs L (d + 1) kc ks M sz' h' pc' ls (r ++ st) Q) : EV xs L (d + 1) kc ks M sz h pc ls (.int x1 :: .ref a :: st) Q :=
  r_call (As := .ref a :: [.int x1]) (rest := st) hp hd ⟨⟨cm_X12_readsStep.1, cm_X12_readsStep.2.1, cm_X12_readsStep.2.2.1, cm_X12_readsStep.2.2.2.1, cm_X12_readsStep.2.2.2.2, Nat.le_of_ble_eq_true rfl, hc⟩, Or.inr (Or.inl ⟨147, a, [.int x1], _, 12, fs, rfl, rfl, rfl, ha, hs, hh, rfl, cv_X12_readsStep.1, cv_X12_readsStep.2, Or.inl ⟨(dp_s 36 (by decide +kernel) rfl), rfl, by rw [hM]; exact Or.inl (dp_m 973 (by decide +kernel) rfl)⟩⟩)⟩ (Nat.zero_add _).symm (Nat.zero_add _).symm hE k
theorem cl_X12_154 {a : Nat} {fs : List Value}  (hM : M.1.cls = RX12) (hp : pc + 3 = pc') (hd : decode M.2.1 pc = .ok (.invokevirtual 154, 3)) (ha : 2 ≤ a) (hs : a < sz) (hh : h a = .inr (12, fs)) (hc : ev_cs st ≤ 8) (hE : EV xs L d 0 0 M_X12_ending sz h 0 [some (.ref a), none] [] Qm) (k : ∀ sz' h' r, Qm sz' h' r → EV xs L (d + 1) kc ks M sz' h' pc' ls (r ++ st) Q) : EV xs L (d + 1) kc ks M sz h pc ls (.ref a :: st) Q :=
  r_call (As := .ref a :: []) (rest := st) hp hd ⟨⟨cm_X12_ending.1, cm_X12_ending.2.1, cm_X12_ending.2.2.1, cm_X12_ending.2.2.2.1, cm_X12_ending.2.2.2.2, Nat.le_of_ble_eq_true rfl, hc⟩, Or.inr (Or.inl ⟨154, a, [], _, 12, fs, rfl, rfl, rfl, ha, hs, hh, rfl, cv_X12_ending.1, cv_X12_ending.2, Or.inl ⟨(dp_s 38 (by decide +kernel) rfl), rfl, by rw [hM]; exact Or.inl (dp_m 989 (by decide +kernel) rfl)⟩⟩)⟩ (Nat.zero_add _).symm (Nat.zero_add _).symm hE k
theorem cl_L_54 {a : Nat} {fs : List Value} {x1 : Int32} {x2 : Int32} (hM : M.1.cls = R_law) (hp : pc + 3 = pc') (hd : decode M.2.1 pc = .ok (.invokevirtual 54, 3)) (ha : 2 ≤ a) (hs : a < sz) (hh : h a = .inr (12, fs)) (hc : ev_cs st ≤ 8) (hE : EV xs L d 0 0 M_X12_holds sz h 0 [some (.ref a), some (.int x1), some (.int x2)] [] Qm) (k : ∀ sz' h' r, Qm sz' h' r → EV xs L (d + 1) kc ks M sz' h' pc' ls (r ++ st) Q) : EV xs L (d + 1) kc ks M sz h pc ls (.int x2 :: .int x1 :: .ref a :: st) Q :=
  r_call (As := .ref a :: [.int x1, .int x2]) (rest := st) hp hd ⟨⟨cm_X12_holds.1, cm_X12_holds.2.1, cm_X12_holds.2.2.1, cm_X12_holds.2.2.2.1, cm_X12_holds.2.2.2.2, Nat.le_of_ble_eq_true rfl, hc⟩, Or.inr (Or.inl ⟨54, a, [.int x1, .int x2], _, 12, fs, rfl, rfl, rfl, ha, hs, hh, rfl, cv_X12_holds.1, cv_X12_holds.2, Or.inl ⟨(dp_m 1007 (by decide +kernel) rfl), rfl, by rw [hM]; exact Or.inl (dp_m 1005 (by decide +kernel) rfl)⟩⟩)⟩ (Nat.zero_add _).symm (Nat.zero_add _).symm hE k
theorem cl_X12_164 {x1 : Int32} (hM : M.1.cls = RX12) (hp : pc + 3 = pc') (hd : decode M.2.1 pc = .ok (.invokestatic 164, 3)) (hc : ev_cs st ≤ 8) (hE : EV xs L d 0 0 M_X12_isWay sz h 0 [some (.int x1)] [] Qm) (k : ∀ sz' h' r, Qm sz' h' r → EV xs L (d + 1) kc ks M sz' h' pc' ls (r ++ st) Q) : EV xs L (d + 1) kc ks M sz h pc ls (.int x1 :: st) Q :=
  r_call (As := [.int x1]) (rest := st) hp hd ⟨⟨cm_X12_isWay.1, cm_X12_isWay.2.1, cm_X12_isWay.2.2.1, cm_X12_isWay.2.2.2.1, cm_X12_isWay.2.2.2.2, Nat.le_of_ble_eq_true rfl, hc⟩, Or.inl ⟨164, rfl, rfl, cs_X12_isWay.1, cs_X12_isWay.2, by rw [hM]; exact Or.inl (dp_m 1020 (by decide +kernel) rfl)⟩⟩ (Nat.zero_add _).symm (Nat.zero_add _).symm hE k
theorem cl_X12_174 {a : Nat} {fs : List Value} {x1 : Nat} (hM : M.1.cls = RX12) (hp : pc + 3 = pc') (hd : decode M.2.1 pc = .ok (.invokevirtual 174, 3)) (ha : 2 ≤ a) (hs : a < sz) (hh : h a = .inr (12, fs)) (hc : ev_cs st ≤ 8) (hE : EV xs L d 0 0 M_X12_checks sz h 0 [some (.ref a), some (.ref x1), none, none] [] Qm) (k : ∀ sz' h' r, Qm sz' h' r → EV xs L (d + 1) kc ks M sz' h' pc' ls (r ++ st) Q) : EV xs L (d + 1) kc ks M sz h pc ls (.ref x1 :: .ref a :: st) Q :=
  r_call (As := .ref a :: [.ref x1]) (rest := st) hp hd ⟨⟨cm_X12_checks.1, cm_X12_checks.2.1, cm_X12_checks.2.2.1, cm_X12_checks.2.2.2.1, cm_X12_checks.2.2.2.2, Nat.le_of_ble_eq_true rfl, hc⟩, Or.inr (Or.inl ⟨174, a, [.ref x1], _, 12, fs, rfl, rfl, rfl, ha, hs, hh, rfl, cv_X12_checks.1, cv_X12_checks.2, Or.inl ⟨(dp_s 41 (by decide +kernel) rfl), rfl, by rw [hM]; exact Or.inl (dp_m 1035 (by decide +kernel) rfl)⟩⟩)⟩ (Nat.zero_add _).symm (Nat.zero_add _).symm hE k
theorem cl_L_84 {a : Nat} {fs : List Value} {x1 : Int32} (hM : M.1.cls = R_law) (hp : pc + 3 = pc') (hd : decode M.2.1 pc = .ok (.invokevirtual 84, 3)) (ha : 2 ≤ a) (hs : a < sz) (hh : h a = .inr (12, fs)) (hc : ev_cs st ≤ 8) (hE : EV xs L d 0 0 M_X12_bounds_ sz h 0 [some (.ref a), some (.int x1), none] [] Qm) (k : ∀ sz' h' r, Qm sz' h' r → EV xs L (d + 1) kc ks M sz' h' pc' ls (r ++ st) Q) : EV xs L (d + 1) kc ks M sz h pc ls (.int x1 :: .ref a :: st) Q :=
  r_call (As := .ref a :: [.int x1]) (rest := st) hp hd ⟨⟨cm_X12_bounds_.1, cm_X12_bounds_.2.1, cm_X12_bounds_.2.2.1, cm_X12_bounds_.2.2.2.1, cm_X12_bounds_.2.2.2.2, Nat.le_of_ble_eq_true rfl, hc⟩, Or.inr (Or.inl ⟨84, a, [.int x1], _, 12, fs, rfl, rfl, rfl, ha, hs, hh, rfl, cv_X12_bounds_.1, cv_X12_bounds_.2, Or.inl ⟨(dp_m 1052 (by decide +kernel) rfl), rfl, by rw [hM]; exact Or.inl (dp_m 1050 (by decide +kernel) rfl)⟩⟩)⟩ (Nat.zero_add _).symm (Nat.zero_add _).symm hE k
theorem cl_L_96 {a : Nat} {fs : List Value} {x1 : Int32} {x2 : Int32} {x3 : Int32} (hM : M.1.cls = R_law) (hp : pc + 3 = pc') (hd : decode M.2.1 pc = .ok (.invokevirtual 96, 3)) (ha : 2 ≤ a) (hs : a < sz) (hh : h a = .inr (12, fs)) (hc : ev_cs st ≤ 8) (hE : EV xs L d 0 0 M_X12_copy sz h 0 [some (.ref a), some (.int x1), some (.int x2), some (.int x3), none, none, none, none] [] Qm) (k : ∀ sz' h' r, Qm sz' h' r → EV xs L (d + 1) kc ks M sz' h' pc' ls (r ++ st) Q) : EV xs L (d + 1) kc ks M sz h pc ls (.int x3 :: .int x2 :: .int x1 :: .ref a :: st) Q :=
  r_call (As := .ref a :: [.int x1, .int x2, .int x3]) (rest := st) hp hd ⟨⟨cm_X12_copy.1, cm_X12_copy.2.1, cm_X12_copy.2.2.1, cm_X12_copy.2.2.2.1, cm_X12_copy.2.2.2.2, Nat.le_of_ble_eq_true rfl, hc⟩, Or.inr (Or.inl ⟨96, a, [.int x1, .int x2, .int x3], _, 12, fs, rfl, rfl, rfl, ha, hs, hh, rfl, cv_X12_copy.1, cv_X12_copy.2, Or.inl ⟨(dp_m 1067 (by decide +kernel) rfl), rfl, by rw [hM]; exact Or.inl (dp_m 1065 (by decide +kernel) rfl)⟩⟩)⟩ (Nat.zero_add _).symm (Nat.zero_add _).symm hE k
theorem cl_X12_180 {a : Nat} {fs : List Value} {x1 : Int32} (hM : M.1.cls = RX12) (hp : pc + 3 = pc') (hd : decode M.2.1 pc = .ok (.invokevirtual 180, 3)) (ha : 2 ≤ a) (hs : a < sz) (hh : h a = .inr (12, fs)) (hc : ev_cs st ≤ 8) (hE : EV xs L d 0 0 M_X12_clash sz h 0 [some (.ref a), some (.int x1), none, none, none, none, none] [] Qm) (k : ∀ sz' h' r, Qm sz' h' r → EV xs L (d + 1) kc ks M sz' h' pc' ls (r ++ st) Q) : EV xs L (d + 1) kc ks M sz h pc ls (.int x1 :: .ref a :: st) Q :=
  r_call (As := .ref a :: [.int x1]) (rest := st) hp hd ⟨⟨cm_X12_clash.1, cm_X12_clash.2.1, cm_X12_clash.2.2.1, cm_X12_clash.2.2.2.1, cm_X12_clash.2.2.2.2, Nat.le_of_ble_eq_true rfl, hc⟩, Or.inr (Or.inl ⟨180, a, [.int x1], _, 12, fs, rfl, rfl, rfl, ha, hs, hh, rfl, cv_X12_clash.1, cv_X12_clash.2, Or.inl ⟨(dp_s 42 (by decide +kernel) rfl), rfl, by rw [hM]; exact Or.inl (dp_m 1081 (by decide +kernel) rfl)⟩⟩)⟩ (Nat.zero_add _).symm (Nat.zero_add _).symm hE k
theorem cl_X11_11 {kc1 ks1 a : Nat}  (hM : M.1.cls = RX11) (hp : pc + 3 = pc') (hd : decode M.2.1 pc = .ok (.invokespecial 11, 3)) (hc : ev_cs st ≤ 8) (hE : EV xs L d kc1 ks1 M_X8_init sz h 0 [some (.ref a)] [] Qm) (k : ∀ sz' h' r, Qm sz' h' r → EV xs L (d + 1) kc ks M sz' h' pc' ls (r ++ st) Q) : EV xs L (d + 1) (kc1 + kc) (ks1 + ks) M sz h pc ls (.ref a :: st) Q :=
  r_call (As := .ref a :: []) (rest := st) hp hd ⟨⟨cm_X8_init.1, cm_X8_init.2.1, cm_X8_init.2.2.1, cm_X8_init.2.2.2.1, cm_X8_init.2.2.2.2, Nat.le_of_ble_eq_true rfl, hc⟩, Or.inr (Or.inr (Or.inl ⟨11, a, [], rfl, rfl, rfl, ci_X8_init.1, ci_X8_init.2.1, ci_X8_init.2.2.1, ci_X8_init.2.2.2, by rw [hM]; exact Or.inr ⟨"SharedSense", (dp_n 27 (by decide +kernel) rfl)⟩⟩))⟩ rfl rfl hE k
theorem cl_X11_45 {kc1 ks1 a : Nat}  (hM : M.1.cls = RX11) (hp : pc + 3 = pc') (hd : decode M.2.1 pc = .ok (.invokespecial 45, 3)) (hc : ev_cs st ≤ 8) (hE : EV xs L d kc1 ks1 M_X10_init sz h 0 [some (.ref a)] [] Qm) (k : ∀ sz' h' r, Qm sz' h' r → EV xs L (d + 1) kc ks M sz' h' pc' ls (r ++ st) Q) : EV xs L (d + 1) (kc1 + kc) (ks1 + ks) M sz h pc ls (.ref a :: st) Q :=
  r_call (As := .ref a :: []) (rest := st) hp hd ⟨⟨cm_X10_init.1, cm_X10_init.2.1, cm_X10_init.2.2.1, cm_X10_init.2.2.2.1, cm_X10_init.2.2.2.2, Nat.le_of_ble_eq_true rfl, hc⟩, Or.inr (Or.inr (Or.inl ⟨45, a, [], rfl, rfl, rfl, ci_X10_init.1, ci_X10_init.2.1, ci_X10_init.2.2.1, ci_X10_init.2.2.2, by rw [hM]; exact Or.inr ⟨"SharedSense", (dp_n 182 (by decide +kernel) rfl)⟩⟩))⟩ rfl rfl hE k
theorem cl_X2_1 {kc1 ks1 a : Nat}  (hM : M.1.cls = RX2) (hp : pc + 3 = pc') (hd : decode M.2.1 pc = .ok (.invokespecial 1, 3)) (hc : ev_cs st ≤ 8) (hE : EV xs L d kc1 ks1 M_X6_init sz h 0 [some (.ref a)] [] Qm) (k : ∀ sz' h' r, Qm sz' h' r → EV xs L (d + 1) kc ks M sz' h' pc' ls (r ++ st) Q) : EV xs L (d + 1) (kc1 + kc) (ks1 + ks) M sz h pc ls (.ref a :: st) Q :=
  r_call (As := .ref a :: []) (rest := st) hp hd ⟨⟨cm_X6_init.1, cm_X6_init.2.1, cm_X6_init.2.2.1, cm_X6_init.2.2.2.1, cm_X6_init.2.2.2.2, Nat.le_of_ble_eq_true rfl, hc⟩, Or.inr (Or.inr (Or.inl ⟨1, a, [], rfl, rfl, rfl, ci_X6_init.1, ci_X6_init.2.1, ci_X6_init.2.2.1, ci_X6_init.2.2.2, by rw [hM]; exact Or.inr ⟨"SharedSense", (dp_n 205 (by decide +kernel) rfl)⟩⟩))⟩ rfl rfl hE k
theorem cl_X1_1 {kc1 ks1 a : Nat}  (hM : M.1.cls = RX1) (hp : pc + 3 = pc') (hd : decode M.2.1 pc = .ok (.invokespecial 1, 3)) (hc : ev_cs st ≤ 8) (hE : EV xs L d kc1 ks1 M_X2_init sz h 0 [some (.ref a)] [] Qm) (k : ∀ sz' h' r, Qm sz' h' r → EV xs L (d + 1) kc ks M sz' h' pc' ls (r ++ st) Q) : EV xs L (d + 1) (kc1 + kc) (ks1 + ks) M sz h pc ls (.ref a :: st) Q :=
  r_call (As := .ref a :: []) (rest := st) hp hd ⟨⟨cm_X2_init.1, cm_X2_init.2.1, cm_X2_init.2.2.1, cm_X2_init.2.2.2.1, cm_X2_init.2.2.2.2, Nat.le_of_ble_eq_true rfl, hc⟩, Or.inr (Or.inr (Or.inl ⟨1, a, [], rfl, rfl, rfl, ci_X2_init.1, ci_X2_init.2.1, ci_X2_init.2.2.1, ci_X2_init.2.2.2, by rw [hM]; exact Or.inr ⟨"SharedSense", (dp_n 219 (by decide +kernel) rfl)⟩⟩))⟩ rfl rfl hE k
end CL
end
section
section CL
variable {xs : Nat → Int32} {L d kc ks : Nat} {M : ev_M} {sz : Nat} {h : ev_H} {pc : Nat} {ls : ev_L} {st : List Value} {Q : ev_Q} {pc' : Nat} {Qm : ev_Q}
theorem cl_X10_38 {a : Nat} {fs : List Value}  (hM : M.1.cls = RX10) (hp : pc + 3 = pc') (hd : decode M.2.1 pc = .ok (.invokevirtual 38, 3)) (ha : 2 ≤ a) (hs : a < sz) (hh : h a = .inr (10, fs)) (hc : ev_cs st ≤ 8) (hE : EV xs L d 0 0 M_X10_wipe sz h 0 [some (.ref a), none] [] Qm) (k : ∀ sz' h' r, Qm sz' h' r → EV xs L (d + 1) kc ks M sz' h' pc' ls (r ++ st) Q) : EV xs L (d + 1) kc ks M sz h pc ls (.ref a :: st) Q :=
  r_call (As := .ref a :: []) (rest := st) hp hd ⟨⟨cm_X10_wipe.1, cm_X10_wipe.2.1, cm_X10_wipe.2.2.1, cm_X10_wipe.2.2.2.1, cm_X10_wipe.2.2.2.2, Nat.le_of_ble_eq_true rfl, hc⟩, Or.inr (Or.inl ⟨38, a, [], _, 10, fs, rfl, rfl, rfl, ha, hs, hh, rfl, cv_X10_wipe.1, cv_X10_wipe.2, Or.inl ⟨(dp_m 114 (by decide +kernel) rfl), rfl, by rw [hM]; exact Or.inl (dp_m 112 (by decide +kernel) rfl)⟩⟩)⟩ (Nat.zero_add _).symm (Nat.zero_add _).symm hE k
theorem cl_L_15 {a : Nat} {fs : List Value} {x1 : Int64} {x2 : Int32} (hM : M.1.cls = R_law) (hp : pc + 3 = pc') (hd : decode M.2.1 pc = .ok (.invokevirtual 15, 3)) (ha : 2 ≤ a) (hs : a < sz) (hh : h a = .inr (11, fs)) (hc : ev_cs st ≤ 8) (hE : EV xs L d 0 0 M_X11_type sz h 0 [some (.ref a), some (.long x1), none, some (.int x2)] [] Qm) (k : ∀ sz' h' r, Qm sz' h' r → EV xs L (d + 1) kc ks M sz' h' pc' ls (r ++ st) Q) : EV xs L (d + 1) kc ks M sz h pc ls (.int x2 :: .long x1 :: .ref a :: st) Q :=
  r_call (As := .ref a :: [.long x1, .int x2]) (rest := st) hp hd ⟨⟨cm_X11_type.1, cm_X11_type.2.1, cm_X11_type.2.2.1, cm_X11_type.2.2.2.1, cm_X11_type.2.2.2.2, Nat.le_of_ble_eq_true rfl, hc⟩, Or.inr (Or.inl ⟨15, a, [.long x1, .int x2], _, 11, fs, rfl, rfl, rfl, ha, hs, hh, rfl, cv_X11_type.1, cv_X11_type.2, Or.inl ⟨(dp_m 304 (by decide +kernel) rfl), rfl, by rw [hM]; exact Or.inl (dp_m 302 (by decide +kernel) rfl)⟩⟩)⟩ (Nat.zero_add _).symm (Nat.zero_add _).symm hE k
theorem cl_X11_98 {a : Nat} {fs : List Value}  (hM : M.1.cls = RX11) (hp : pc + 3 = pc') (hd : decode M.2.1 pc = .ok (.invokevirtual 98, 3)) (ha : 2 ≤ a) (hs : a < sz) (hh : h a = .inr (8, fs)) (hc : ev_cs st ≤ 8) (hE : EV xs L d 0 0 M_X8_wipe sz h 0 [some (.ref a)] [] Qm) (k : ∀ sz' h' r, Qm sz' h' r → EV xs L (d + 1) kc ks M sz' h' pc' ls (r ++ st) Q) : EV xs L (d + 1) kc ks M sz h pc ls (.ref a :: st) Q :=
  r_call (As := .ref a :: []) (rest := st) hp hd ⟨⟨cm_X8_wipe.1, cm_X8_wipe.2.1, cm_X8_wipe.2.2.1, cm_X8_wipe.2.2.2.1, cm_X8_wipe.2.2.2.2, Nat.le_of_ble_eq_true rfl, hc⟩, Or.inr (Or.inl ⟨98, a, [], _, 8, fs, rfl, rfl, rfl, ha, hs, hh, rfl, cv_X8_wipe.1, cv_X8_wipe.2, Or.inl ⟨(dp_m 320 (by decide +kernel) rfl), rfl, by rw [hM]; exact Or.inl (dp_m 318 (by decide +kernel) rfl)⟩⟩)⟩ (Nat.zero_add _).symm (Nat.zero_add _).symm hE k
theorem cl_X8_31 {a : Nat} {fs : List Value}  (hM : M.1.cls = RX8) (hp : pc + 3 = pc') (hd : decode M.2.1 pc = .ok (.invokevirtual 31, 3)) (ha : 2 ≤ a) (hs : a < sz) (hh : h a = .inr (8, fs)) (hc : ev_cs st ≤ 8) (hE : EV xs L d 0 0 M_X8_readNext sz h 0 [some (.ref a), none] [] Qm) (k : ∀ sz' h' r, Qm sz' h' r → EV xs L (d + 1) kc ks M sz' h' pc' ls (r ++ st) Q) : EV xs L (d + 1) kc ks M sz h pc ls (.ref a :: st) Q :=
  r_call (As := .ref a :: []) (rest := st) hp hd ⟨⟨cm_X8_readNext.1, cm_X8_readNext.2.1, cm_X8_readNext.2.2.1, cm_X8_readNext.2.2.2.1, cm_X8_readNext.2.2.2.2, Nat.le_of_ble_eq_true rfl, hc⟩, Or.inr (Or.inl ⟨31, a, [], _, 8, fs, rfl, rfl, rfl, ha, hs, hh, rfl, cv_X8_readNext.1, cv_X8_readNext.2, Or.inl ⟨(dp_m 336 (by decide +kernel) rfl), rfl, by rw [hM]; exact Or.inl (dp_m 334 (by decide +kernel) rfl)⟩⟩)⟩ (Nat.zero_add _).symm (Nat.zero_add _).symm hE k
theorem cl_X8_45 {a : Nat} {fs : List Value}  (hM : M.1.cls = RX8) (hp : pc + 3 = pc') (hd : decode M.2.1 pc = .ok (.invokevirtual 45, 3)) (ha : 2 ≤ a) (hs : a < sz) (hh : h a = .inr (8, fs)) (hc : ev_cs st ≤ 8) (hE : EV xs L d 0 0 M_X8_readWord sz h 0 [some (.ref a), none, none] [] Qm) (k : ∀ sz' h' r, Qm sz' h' r → EV xs L (d + 1) kc ks M sz' h' pc' ls (r ++ st) Q) : EV xs L (d + 1) kc ks M sz h pc ls (.ref a :: st) Q :=
  r_call (As := .ref a :: []) (rest := st) hp hd ⟨⟨cm_X8_readWord.1, cm_X8_readWord.2.1, cm_X8_readWord.2.2.1, cm_X8_readWord.2.2.2.1, cm_X8_readWord.2.2.2.2, Nat.le_of_ble_eq_true rfl, hc⟩, Or.inr (Or.inl ⟨45, a, [], _, 8, fs, rfl, rfl, rfl, ha, hs, hh, rfl, cv_X8_readWord.1, cv_X8_readWord.2, Or.inl ⟨(dp_s 2 (by decide +kernel) rfl), rfl, by rw [hM]; exact Or.inl (dp_m 349 (by decide +kernel) rfl)⟩⟩)⟩ (Nat.zero_add _).symm (Nat.zero_add _).symm hE k
theorem cl_X4_46 {a : Nat} {fs : List Value}  (hM : M.1.cls = RX4) (hp : pc + 3 = pc') (hd : decode M.2.1 pc = .ok (.invokevirtual 46, 3)) (ha : 2 ≤ a) (hs : a < sz) (hh : h a = .inr (8, fs)) (hc : ev_cs st ≤ 8) (hE : EV xs L d 0 0 M_X8_kind sz h 0 [some (.ref a)] [] Qm) (k : ∀ sz' h' r, Qm sz' h' r → EV xs L (d + 1) kc ks M sz' h' pc' ls (r ++ st) Q) : EV xs L (d + 1) kc ks M sz h pc ls (.ref a :: st) Q :=
  r_call (As := .ref a :: []) (rest := st) hp hd ⟨⟨cm_X8_kind.1, cm_X8_kind.2.1, cm_X8_kind.2.2.1, cm_X8_kind.2.2.2.1, cm_X8_kind.2.2.2.2, Nat.le_of_ble_eq_true rfl, hc⟩, Or.inr (Or.inl ⟨46, a, [], _, 8, fs, rfl, rfl, rfl, ha, hs, hh, rfl, cv_X8_kind.1, cv_X8_kind.2, Or.inl ⟨(dp_m 368 (by decide +kernel) rfl), rfl, by rw [hM]; exact Or.inl (dp_m 366 (by decide +kernel) rfl)⟩⟩)⟩ (Nat.zero_add _).symm (Nat.zero_add _).symm hE k
theorem cl_X4_69 {a : Nat} {fs : List Value} {x1 : Nat} (hM : M.1.cls = RX4) (hp : pc + 3 = pc') (hd : decode M.2.1 pc = .ok (.invokevirtual 69, 3)) (ha : 2 ≤ a) (hs : a < sz) (hh : h a = .inr (4, fs)) (hc : ev_cs st ≤ 8) (hE : EV xs L d 0 0 M_X4_readLiteral sz h 0 [some (.ref a), some (.ref x1), none, none] [] Qm) (k : ∀ sz' h' r, Qm sz' h' r → EV xs L (d + 1) kc ks M sz' h' pc' ls (r ++ st) Q) : EV xs L (d + 1) kc ks M sz h pc ls (.ref x1 :: .ref a :: st) Q :=
  r_call (As := .ref a :: [.ref x1]) (rest := st) hp hd ⟨⟨cm_X4_readLiteral.1, cm_X4_readLiteral.2.1, cm_X4_readLiteral.2.2.1, cm_X4_readLiteral.2.2.2.1, cm_X4_readLiteral.2.2.2.2, Nat.le_of_ble_eq_true rfl, hc⟩, Or.inr (Or.inl ⟨69, a, [.ref x1], _, 4, fs, rfl, rfl, rfl, ha, hs, hh, rfl, cv_X4_readLiteral.1, cv_X4_readLiteral.2, Or.inl ⟨(dp_s 5 (by decide +kernel) rfl), rfl, by rw [hM]; exact Or.inl (dp_m 379 (by decide +kernel) rfl)⟩⟩)⟩ (Nat.zero_add _).symm (Nat.zero_add _).symm hE k
theorem cl_X11_226 {a : Nat} {fs : List Value}  (hM : M.1.cls = RX11) (hp : pc + 3 = pc') (hd : decode M.2.1 pc = .ok (.invokevirtual 226, 3)) (ha : 2 ≤ a) (hs : a < sz) (hh : h a = .inr (4, fs)) (hc : ev_cs st ≤ 8) (hE : EV xs L d 0 0 M_X4_clausesRead sz h 0 [some (.ref a)] [] Qm) (k : ∀ sz' h' r, Qm sz' h' r → EV xs L (d + 1) kc ks M sz' h' pc' ls (r ++ st) Q) : EV xs L (d + 1) kc ks M sz h pc ls (.ref a :: st) Q :=
  r_call (As := .ref a :: []) (rest := st) hp hd ⟨⟨cm_X4_clausesRead.1, cm_X4_clausesRead.2.1, cm_X4_clausesRead.2.2.1, cm_X4_clausesRead.2.2.2.1, cm_X4_clausesRead.2.2.2.2, Nat.le_of_ble_eq_true rfl, hc⟩, Or.inr (Or.inl ⟨226, a, [], _, 4, fs, rfl, rfl, rfl, ha, hs, hh, rfl, cv_X4_clausesRead.1, cv_X4_clausesRead.2, Or.inl ⟨(dp_m 396 (by decide +kernel) rfl), rfl, by rw [hM]; exact Or.inl (dp_m 394 (by decide +kernel) rfl)⟩⟩)⟩ (Nat.zero_add _).symm (Nat.zero_add _).symm hE k
theorem cl_X11_237 {a : Nat} {fs : List Value} {x1 : Int32} (hM : M.1.cls = RX11) (hp : pc + 3 = pc') (hd : decode M.2.1 pc = .ok (.invokevirtual 237, 3)) (ha : 2 ≤ a) (hs : a < sz) (hh : h a = .inr (4, fs)) (hc : ev_cs st ≤ 8) (hE : EV xs L d 0 0 M_X4_plainOf sz h 0 [some (.ref a), some (.int x1)] [] Qm) (k : ∀ sz' h' r, Qm sz' h' r → EV xs L (d + 1) kc ks M sz' h' pc' ls (r ++ st) Q) : EV xs L (d + 1) kc ks M sz h pc ls (.int x1 :: .ref a :: st) Q :=
  r_call (As := .ref a :: [.int x1]) (rest := st) hp hd ⟨⟨cm_X4_plainOf.1, cm_X4_plainOf.2.1, cm_X4_plainOf.2.2.1, cm_X4_plainOf.2.2.2.1, cm_X4_plainOf.2.2.2.2, Nat.le_of_ble_eq_true rfl, hc⟩, Or.inr (Or.inl ⟨237, a, [.int x1], _, 4, fs, rfl, rfl, rfl, ha, hs, hh, rfl, cv_X4_plainOf.1, cv_X4_plainOf.2, Or.inl ⟨(dp_m 408 (by decide +kernel) rfl), rfl, by rw [hM]; exact Or.inl (dp_m 406 (by decide +kernel) rfl)⟩⟩)⟩ (Nat.zero_add _).symm (Nat.zero_add _).symm hE k
theorem cl_X7_40 {a : Nat} {fs : List Value} {x1 : Nat} {x2 : Int32} (hM : M.1.cls = RX7) (hp : pc + 3 = pc') (hd : decode M.2.1 pc = .ok (.invokevirtual 40, 3)) (ha : 2 ≤ a) (hs : a < sz) (hh : h a = .inr (3, fs)) (hc : ev_cs st ≤ 8) (hE : EV xs L d 0 0 M_X3_gatherWorlds sz h 0 [some (.ref a), some (.ref x1), some (.int x2), none, none] [] Qm) (k : ∀ sz' h' r, Qm sz' h' r → EV xs L (d + 1) kc ks M sz' h' pc' ls (r ++ st) Q) : EV xs L (d + 1) kc ks M sz h pc ls (.int x2 :: .ref x1 :: .ref a :: st) Q :=
  r_call (As := .ref a :: [.ref x1, .int x2]) (rest := st) hp hd ⟨⟨cm_X3_gatherWorlds.1, cm_X3_gatherWorlds.2.1, cm_X3_gatherWorlds.2.2.1, cm_X3_gatherWorlds.2.2.2.1, cm_X3_gatherWorlds.2.2.2.2, Nat.le_of_ble_eq_true rfl, hc⟩, Or.inr (Or.inl ⟨40, a, [.ref x1, .int x2], _, 3, fs, rfl, rfl, rfl, ha, hs, hh, rfl, cv_X3_gatherWorlds.1, cv_X3_gatherWorlds.2, Or.inl ⟨(dp_m 424 (by decide +kernel) rfl), rfl, by rw [hM]; exact Or.inl (dp_m 422 (by decide +kernel) rfl)⟩⟩)⟩ (Nat.zero_add _).symm (Nat.zero_add _).symm hE k
theorem cl_X7_49 {a : Nat} {fs : List Value} {x1 : Nat} (hM : M.1.cls = RX7) (hp : pc + 3 = pc') (hd : decode M.2.1 pc = .ok (.invokevirtual 49, 3)) (ha : 2 ≤ a) (hs : a < sz) (hh : h a = .inr (10, fs)) (hc : ev_cs st ≤ 8) (hE : EV xs L d 0 0 M_X10_meet sz h 0 [some (.ref a), some (.ref x1), none] [] Qm) (k : ∀ sz' h' r, Qm sz' h' r → EV xs L (d + 1) kc ks M sz' h' pc' ls (r ++ st) Q) : EV xs L (d + 1) kc ks M sz h pc ls (.ref x1 :: .ref a :: st) Q :=
  r_call (As := .ref a :: [.ref x1]) (rest := st) hp hd ⟨⟨cm_X10_meet.1, cm_X10_meet.2.1, cm_X10_meet.2.2.1, cm_X10_meet.2.2.2.1, cm_X10_meet.2.2.2.2, Nat.le_of_ble_eq_true rfl, hc⟩, Or.inr (Or.inl ⟨49, a, [.ref x1], _, 10, fs, rfl, rfl, rfl, ha, hs, hh, rfl, cv_X10_meet.1, cv_X10_meet.2, Or.inl ⟨(dp_m 438 (by decide +kernel) rfl), rfl, by rw [hM]; exact Or.inl (dp_m 436 (by decide +kernel) rfl)⟩⟩)⟩ (Nat.zero_add _).symm (Nat.zero_add _).symm hE k
theorem cl_X7_63 {a : Nat} {fs : List Value} {x1 : Int32} (hM : M.1.cls = RX7) (hp : pc + 3 = pc') (hd : decode M.2.1 pc = .ok (.invokevirtual 63, 3)) (ha : 2 ≤ a) (hs : a < sz) (hh : h a = .inr (10, fs)) (hc : ev_cs st ≤ 8) (hE : EV xs L d 0 0 M_X10_spreadBut sz h 0 [some (.ref a), some (.int x1), none] [] Qm) (k : ∀ sz' h' r, Qm sz' h' r → EV xs L (d + 1) kc ks M sz' h' pc' ls (r ++ st) Q) : EV xs L (d + 1) kc ks M sz h pc ls (.int x1 :: .ref a :: st) Q :=
  r_call (As := .ref a :: [.int x1]) (rest := st) hp hd ⟨⟨cm_X10_spreadBut.1, cm_X10_spreadBut.2.1, cm_X10_spreadBut.2.2.1, cm_X10_spreadBut.2.2.2.1, cm_X10_spreadBut.2.2.2.2, Nat.le_of_ble_eq_true rfl, hc⟩, Or.inr (Or.inl ⟨63, a, [.int x1], _, 10, fs, rfl, rfl, rfl, ha, hs, hh, rfl, cv_X10_spreadBut.1, cv_X10_spreadBut.2, Or.inl ⟨(dp_m 454 (by decide +kernel) rfl), rfl, by rw [hM]; exact Or.inl (dp_m 452 (by decide +kernel) rfl)⟩⟩)⟩ (Nat.zero_add _).symm (Nat.zero_add _).symm hE k
theorem cl_X11_251 {a : Nat} {fs : List Value} {x1 : Nat} {x2 : Int32} (hM : M.1.cls = RX11) (hp : pc + 3 = pc') (hd : decode M.2.1 pc = .ok (.invokevirtual 251, 3)) (ha : 2 ≤ a) (hs : a < sz) (hh : h a = .inr (0, fs)) (hc : ev_cs st ≤ 8) (hE : EV xs L d 0 0 M_X0_learn sz h 0 [some (.ref a), some (.ref x1), some (.int x2), none] [] Qm) (k : ∀ sz' h' r, Qm sz' h' r → EV xs L (d + 1) kc ks M sz' h' pc' ls (r ++ st) Q) : EV xs L (d + 1) kc ks M sz h pc ls (.int x2 :: .ref x1 :: .ref a :: st) Q :=
  r_call (As := .ref a :: [.ref x1, .int x2]) (rest := st) hp hd ⟨⟨cm_X0_learn.1, cm_X0_learn.2.1, cm_X0_learn.2.2.1, cm_X0_learn.2.2.2.1, cm_X0_learn.2.2.2.2, Nat.le_of_ble_eq_true rfl, hc⟩, Or.inr (Or.inl ⟨251, a, [.ref x1, .int x2], _, 0, fs, rfl, rfl, rfl, ha, hs, hh, rfl, cv_X0_learn.1, cv_X0_learn.2, Or.inl ⟨(dp_m 467 (by decide +kernel) rfl), rfl, by rw [hM]; exact Or.inl (dp_m 465 (by decide +kernel) rfl)⟩⟩)⟩ (Nat.zero_add _).symm (Nat.zero_add _).symm hE k
theorem cl_X11_252 {a : Nat} {fs : List Value} {x1 : Int32} (hM : M.1.cls = RX11) (hp : pc + 3 = pc') (hd : decode M.2.1 pc = .ok (.invokevirtual 252, 3)) (ha : 2 ≤ a) (hs : a < sz) (hh : h a = .inr (3, fs)) (hc : ev_cs st ≤ 8) (hE : EV xs L d 0 0 M_X3_sayAsClause sz h 0 [some (.ref a), some (.int x1)] [] Qm) (k : ∀ sz' h' r, Qm sz' h' r → EV xs L (d + 1) kc ks M sz' h' pc' ls (r ++ st) Q) : EV xs L (d + 1) kc ks M sz h pc ls (.int x1 :: .ref a :: st) Q :=
  r_call (As := .ref a :: [.int x1]) (rest := st) hp hd ⟨⟨cm_X3_sayAsClause.1, cm_X3_sayAsClause.2.1, cm_X3_sayAsClause.2.2.1, cm_X3_sayAsClause.2.2.2.1, cm_X3_sayAsClause.2.2.2.2, Nat.le_of_ble_eq_true rfl, hc⟩, Or.inr (Or.inl ⟨252, a, [.int x1], _, 3, fs, rfl, rfl, rfl, ha, hs, hh, rfl, cv_X3_sayAsClause.1, cv_X3_sayAsClause.2, Or.inl ⟨(dp_m 474 (by decide +kernel) rfl), rfl, by rw [hM]; exact Or.inl (dp_m 472 (by decide +kernel) rfl)⟩⟩)⟩ (Nat.zero_add _).symm (Nat.zero_add _).symm hE k
theorem cl_X11_256 {a : Nat} {fs : List Value}  (hM : M.1.cls = RX11) (hp : pc + 3 = pc') (hd : decode M.2.1 pc = .ok (.invokevirtual 256, 3)) (ha : 2 ≤ a) (hs : a < sz) (hh : h a = .inr (10, fs)) (hc : ev_cs st ≤ 8) (hE : EV xs L d 0 0 M_X10_wipe sz h 0 [some (.ref a), none] [] Qm) (k : ∀ sz' h' r, Qm sz' h' r → EV xs L (d + 1) kc ks M sz' h' pc' ls (r ++ st) Q) : EV xs L (d + 1) kc ks M sz h pc ls (.ref a :: st) Q :=
  r_call (As := .ref a :: []) (rest := st) hp hd ⟨⟨cm_X10_wipe.1, cm_X10_wipe.2.1, cm_X10_wipe.2.2.1, cm_X10_wipe.2.2.2.1, cm_X10_wipe.2.2.2.2, Nat.le_of_ble_eq_true rfl, hc⟩, Or.inr (Or.inl ⟨256, a, [], _, 10, fs, rfl, rfl, rfl, ha, hs, hh, rfl, cv_X10_wipe.1, cv_X10_wipe.2, Or.inl ⟨(dp_m 114 (by decide +kernel) rfl), rfl, by rw [hM]; exact Or.inl (dp_m 479 (by decide +kernel) rfl)⟩⟩)⟩ (Nat.zero_add _).symm (Nat.zero_add _).symm hE k
theorem cl_X3_37 {x1 : Int32} (hM : M.1.cls = RX3) (hp : pc + 3 = pc') (hd : decode M.2.1 pc = .ok (.invokestatic 37, 3)) (hc : ev_cs st ≤ 8) (hE : EV xs L d 0 0 M_J6_bitCount_0f7a4 sz h 0 [some (.int x1)] [] Qm) (k : ∀ sz' h' r, Qm sz' h' r → EV xs L (d + 1) kc ks M sz' h' pc' ls (r ++ st) Q) : EV xs L (d + 1) kc ks M sz h pc ls (.int x1 :: st) Q :=
  r_call (As := [.int x1]) (rest := st) hp hd ⟨⟨cm_J6_bitCount_0f7a4.1, cm_J6_bitCount_0f7a4.2.1, cm_J6_bitCount_0f7a4.2.2.1, cm_J6_bitCount_0f7a4.2.2.2.1, cm_J6_bitCount_0f7a4.2.2.2.2, Nat.le_of_ble_eq_true rfl, hc⟩, Or.inl ⟨37, rfl, rfl, cs_J6_bitCount_0f7a4.1, cs_J6_bitCount_0f7a4.2, by rw [hM]; exact Or.inl (dp_m 492 (by decide +kernel) rfl)⟩⟩ (Nat.zero_add _).symm (Nat.zero_add _).symm hE k
theorem cl_X11_115 {a : Nat} {fs : List Value}  (hM : M.1.cls = RX11) (hp : pc + 3 = pc') (hd : decode M.2.1 pc = .ok (.invokevirtual 115, 3)) (ha : 2 ≤ a) (hs : a < sz) (hh : h a = .inr (11, fs)) (hc : ev_cs st ≤ 8) (hE : EV xs L d 0 0 M_X11_takeSteps sz h 0 [some (.ref a), none] [] Qm) (k : ∀ sz' h' r, Qm sz' h' r → EV xs L (d + 1) kc ks M sz' h' pc' ls (r ++ st) Q) : EV xs L (d + 1) kc ks M sz h pc ls (.ref a :: st) Q :=
  r_call (As := .ref a :: []) (rest := st) hp hd ⟨⟨cm_X11_takeSteps.1, cm_X11_takeSteps.2.1, cm_X11_takeSteps.2.2.1, cm_X11_takeSteps.2.2.2.1, cm_X11_takeSteps.2.2.2.2, Nat.le_of_ble_eq_true rfl, hc⟩, Or.inr (Or.inl ⟨115, a, [], _, 11, fs, rfl, rfl, rfl, ha, hs, hh, rfl, cv_X11_takeSteps.1, cv_X11_takeSteps.2, Or.inl ⟨(dp_s 11 (by decide +kernel) rfl), rfl, by rw [hM]; exact Or.inl (dp_m 510 (by decide +kernel) rfl)⟩⟩)⟩ (Nat.zero_add _).symm (Nat.zero_add _).symm hE k
theorem cl_X11_272 {a : Nat} {fs : List Value} {x1 : Int32} (hM : M.1.cls = RX11) (hp : pc + 3 = pc') (hd : decode M.2.1 pc = .ok (.invokevirtual 272, 3)) (ha : 2 ≤ a) (hs : a < sz) (hh : h a = .inr (4, fs)) (hc : ev_cs st ≤ 8) (hE : EV xs L d 0 0 M_X4_secondOf sz h 0 [some (.ref a), some (.int x1)] [] Qm) (k : ∀ sz' h' r, Qm sz' h' r → EV xs L (d + 1) kc ks M sz' h' pc' ls (r ++ st) Q) : EV xs L (d + 1) kc ks M sz h pc ls (.int x1 :: .ref a :: st) Q :=
  r_call (As := .ref a :: [.int x1]) (rest := st) hp hd ⟨⟨cm_X4_secondOf.1, cm_X4_secondOf.2.1, cm_X4_secondOf.2.2.1, cm_X4_secondOf.2.2.2.1, cm_X4_secondOf.2.2.2.2, Nat.le_of_ble_eq_true rfl, hc⟩, Or.inr (Or.inl ⟨272, a, [.int x1], _, 4, fs, rfl, rfl, rfl, ha, hs, hh, rfl, cv_X4_secondOf.1, cv_X4_secondOf.2, Or.inl ⟨(dp_m 528 (by decide +kernel) rfl), rfl, by rw [hM]; exact Or.inl (dp_m 526 (by decide +kernel) rfl)⟩⟩)⟩ (Nat.zero_add _).symm (Nat.zero_add _).symm hE k
theorem cl_X11_282 {a : Nat} {fs : List Value} {x1 : Int32} {x2 : Int32} {x3 : Int32} (hM : M.1.cls = RX11) (hp : pc + 3 = pc') (hd : decode M.2.1 pc = .ok (.invokevirtual 282, 3)) (ha : 2 ≤ a) (hs : a < sz) (hh : h a = .inr (3, fs)) (hc : ev_cs st ≤ 8) (hE : EV xs L d 0 0 M_X3_rememberCut sz h 0 [some (.ref a), some (.int x1), some (.int x2), some (.int x3)] [] Qm) (k : ∀ sz' h' r, Qm sz' h' r → EV xs L (d + 1) kc ks M sz' h' pc' ls (r ++ st) Q) : EV xs L (d + 1) kc ks M sz h pc ls (.int x3 :: .int x2 :: .int x1 :: .ref a :: st) Q :=
  r_call (As := .ref a :: [.int x1, .int x2, .int x3]) (rest := st) hp hd ⟨⟨cm_X3_rememberCut.1, cm_X3_rememberCut.2.1, cm_X3_rememberCut.2.2.1, cm_X3_rememberCut.2.2.2.1, cm_X3_rememberCut.2.2.2.2, Nat.le_of_ble_eq_true rfl, hc⟩, Or.inr (Or.inl ⟨282, a, [.int x1, .int x2, .int x3], _, 3, fs, rfl, rfl, rfl, ha, hs, hh, rfl, cv_X3_rememberCut.1, cv_X3_rememberCut.2, Or.inl ⟨(dp_m 544 (by decide +kernel) rfl), rfl, by rw [hM]; exact Or.inl (dp_m 542 (by decide +kernel) rfl)⟩⟩)⟩ (Nat.zero_add _).symm (Nat.zero_add _).symm hE k
theorem cl_X3_64 {a : Nat} {fs : List Value} {x1 : Nat} (hM : M.1.cls = RX3) (hp : pc + 3 = pc') (hd : decode M.2.1 pc = .ok (.invokevirtual 64, 3)) (ha : 2 ≤ a) (hs : a < sz) (hh : h a = .inr (10, fs)) (hc : ev_cs st ≤ 8) (hE : EV xs L d 0 0 M_X10_become sz h 0 [some (.ref a), some (.ref x1), none] [] Qm) (k : ∀ sz' h' r, Qm sz' h' r → EV xs L (d + 1) kc ks M sz' h' pc' ls (r ++ st) Q) : EV xs L (d + 1) kc ks M sz h pc ls (.ref x1 :: .ref a :: st) Q :=
  r_call (As := .ref a :: [.ref x1]) (rest := st) hp hd ⟨⟨cm_X10_become.1, cm_X10_become.2.1, cm_X10_become.2.2.1, cm_X10_become.2.2.2.1, cm_X10_become.2.2.2.2, Nat.le_of_ble_eq_true rfl, hc⟩, Or.inr (Or.inl ⟨64, a, [.ref x1], _, 10, fs, rfl, rfl, rfl, ha, hs, hh, rfl, cv_X10_become.1, cv_X10_become.2, Or.inl ⟨(dp_m 446 (by decide +kernel) rfl), rfl, by rw [hM]; exact Or.inl (dp_m 558 (by decide +kernel) rfl)⟩⟩)⟩ (Nat.zero_add _).symm (Nat.zero_add _).symm hE k
theorem cl_L_33 {a : Nat} {fs : List Value}  (hM : M.1.cls = R_law) (hp : pc + 3 = pc') (hd : decode M.2.1 pc = .ok (.invokevirtual 33, 3)) (ha : 2 ≤ a) (hs : a < sz) (hh : h a = .inr (11, fs)) (hc : ev_cs st ≤ 8) (hE : EV xs L d 0 0 M_X11_wrong sz h 0 [some (.ref a)] [] Qm) (k : ∀ sz' h' r, Qm sz' h' r → EV xs L (d + 1) kc ks M sz' h' pc' ls (r ++ st) Q) : EV xs L (d + 1) kc ks M sz h pc ls (.ref a :: st) Q :=
  r_call (As := .ref a :: []) (rest := st) hp hd ⟨⟨cm_X11_wrong.1, cm_X11_wrong.2.1, cm_X11_wrong.2.2.1, cm_X11_wrong.2.2.2.1, cm_X11_wrong.2.2.2.2, Nat.le_of_ble_eq_true rfl, hc⟩, Or.inr (Or.inl ⟨33, a, [], _, 11, fs, rfl, rfl, rfl, ha, hs, hh, rfl, cv_X11_wrong.1, cv_X11_wrong.2, Or.inl ⟨(dp_m 569 (by decide +kernel) rfl), rfl, by rw [hM]; exact Or.inl (dp_m 567 (by decide +kernel) rfl)⟩⟩)⟩ (Nat.zero_add _).symm (Nat.zero_add _).symm hE k
theorem cl_L_46 {a : Nat} {fs : List Value} {x1 : Int32} (hM : M.1.cls = R_law) (hp : pc + 3 = pc') (hd : decode M.2.1 pc = .ok (.invokevirtual 46, 3)) (ha : 2 ≤ a) (hs : a < sz) (hh : h a = .inr (11, fs)) (hc : ev_cs st ≤ 8) (hE : EV xs L d 0 0 M_X11_side sz h 0 [some (.ref a), some (.int x1)] [] Qm) (k : ∀ sz' h' r, Qm sz' h' r → EV xs L (d + 1) kc ks M sz' h' pc' ls (r ++ st) Q) : EV xs L (d + 1) kc ks M sz h pc ls (.int x1 :: .ref a :: st) Q :=
  r_call (As := .ref a :: [.int x1]) (rest := st) hp hd ⟨⟨cm_X11_side.1, cm_X11_side.2.1, cm_X11_side.2.2.1, cm_X11_side.2.2.2.1, cm_X11_side.2.2.2.2, Nat.le_of_ble_eq_true rfl, hc⟩, Or.inr (Or.inl ⟨46, a, [.int x1], _, 11, fs, rfl, rfl, rfl, ha, hs, hh, rfl, cv_X11_side.1, cv_X11_side.2, Or.inl ⟨(dp_m 585 (by decide +kernel) rfl), rfl, by rw [hM]; exact Or.inl (dp_m 583 (by decide +kernel) rfl)⟩⟩)⟩ (Nat.zero_add _).symm (Nat.zero_add _).symm hE k
theorem cl_L_55 {a : Nat} {fs : List Value} {x1 : Int32} (hM : M.1.cls = R_law) (hp : pc + 3 = pc') (hd : decode M.2.1 pc = .ok (.invokevirtual 55, 3)) (ha : 2 ≤ a) (hs : a < sz) (hh : h a = .inr (11, fs)) (hc : ev_cs st ≤ 8) (hE : EV xs L d 0 0 M_X11_worlds sz h 0 [some (.ref a), some (.int x1)] [] Qm) (k : ∀ sz' h' r, Qm sz' h' r → EV xs L (d + 1) kc ks M sz' h' pc' ls (r ++ st) Q) : EV xs L (d + 1) kc ks M sz h pc ls (.int x1 :: .ref a :: st) Q :=
  r_call (As := .ref a :: [.int x1]) (rest := st) hp hd ⟨⟨cm_X11_worlds.1, cm_X11_worlds.2.1, cm_X11_worlds.2.2.1, cm_X11_worlds.2.2.2.1, cm_X11_worlds.2.2.2.2, Nat.le_of_ble_eq_true rfl, hc⟩, Or.inr (Or.inl ⟨55, a, [.int x1], _, 11, fs, rfl, rfl, rfl, ha, hs, hh, rfl, cv_X11_worlds.1, cv_X11_worlds.2, Or.inl ⟨(dp_m 600 (by decide +kernel) rfl), rfl, by rw [hM]; exact Or.inl (dp_m 598 (by decide +kernel) rfl)⟩⟩)⟩ (Nat.zero_add _).symm (Nat.zero_add _).symm hE k
theorem cl_L_59 {a : Nat} {fs : List Value} {x1 : Int32} {x2 : Int32} {x3 : Int32} (hM : M.1.cls = R_law) (hp : pc + 3 = pc') (hd : decode M.2.1 pc = .ok (.invokevirtual 59, 3)) (ha : 2 ≤ a) (hs : a < sz) (hh : h a = .inr (11, fs)) (hc : ev_cs st ≤ 8) (hE : EV xs L d 0 0 M_X11_says sz h 0 [some (.ref a), some (.int x1), some (.int x2), some (.int x3), none] [] Qm) (k : ∀ sz' h' r, Qm sz' h' r → EV xs L (d + 1) kc ks M sz' h' pc' ls (r ++ st) Q) : EV xs L (d + 1) kc ks M sz h pc ls (.int x3 :: .int x2 :: .int x1 :: .ref a :: st) Q :=
  r_call (As := .ref a :: [.int x1, .int x2, .int x3]) (rest := st) hp hd ⟨⟨cm_X11_says.1, cm_X11_says.2.1, cm_X11_says.2.2.1, cm_X11_says.2.2.2.1, cm_X11_says.2.2.2.2, Nat.le_of_ble_eq_true rfl, hc⟩, Or.inr (Or.inl ⟨59, a, [.int x1, .int x2, .int x3], _, 11, fs, rfl, rfl, rfl, ha, hs, hh, rfl, cv_X11_says.1, cv_X11_says.2, Or.inl ⟨(dp_m 618 (by decide +kernel) rfl), rfl, by rw [hM]; exact Or.inl (dp_m 616 (by decide +kernel) rfl)⟩⟩)⟩ (Nat.zero_add _).symm (Nat.zero_add _).symm hE k
theorem cl_L_64 {a : Nat} {fs : List Value} {x1 : Int32} {x2 : Int32} (hM : M.1.cls = R_law) (hp : pc + 3 = pc') (hd : decode M.2.1 pc = .ok (.invokevirtual 64, 3)) (ha : 2 ≤ a) (hs : a < sz) (hh : h a = .inr (11, fs)) (hc : ev_cs st ≤ 8) (hE : EV xs L d 0 0 M_X11_saying sz h 0 [some (.ref a), some (.int x1), some (.int x2), none] [] Qm) (k : ∀ sz' h' r, Qm sz' h' r → EV xs L (d + 1) kc ks M sz' h' pc' ls (r ++ st) Q) : EV xs L (d + 1) kc ks M sz h pc ls (.int x2 :: .int x1 :: .ref a :: st) Q :=
  r_call (As := .ref a :: [.int x1, .int x2]) (rest := st) hp hd ⟨⟨cm_X11_saying.1, cm_X11_saying.2.1, cm_X11_saying.2.2.1, cm_X11_saying.2.2.2.1, cm_X11_saying.2.2.2.2, Nat.le_of_ble_eq_true rfl, hc⟩, Or.inr (Or.inl ⟨64, a, [.int x1, .int x2], _, 11, fs, rfl, rfl, rfl, ha, hs, hh, rfl, cv_X11_saying.1, cv_X11_saying.2, Or.inl ⟨(dp_m 634 (by decide +kernel) rfl), rfl, by rw [hM]; exact Or.inl (dp_m 632 (by decide +kernel) rfl)⟩⟩)⟩ (Nat.zero_add _).symm (Nat.zero_add _).symm hE k
theorem cl_X7_74 {a : Nat} {fs : List Value}  (hM : M.1.cls = RX7) (hp : pc + 3 = pc') (hd : decode M.2.1 pc = .ok (.invokevirtual 74, 3)) (ha : 2 ≤ a) (hs : a < sz) (hh : h a = .inr (10, fs)) (hc : ev_cs st ≤ 8) (hE : EV xs L d 0 0 M_X10_lettersLookedAt sz h 0 [some (.ref a), none, none] [] Qm) (k : ∀ sz' h' r, Qm sz' h' r → EV xs L (d + 1) kc ks M sz' h' pc' ls (r ++ st) Q) : EV xs L (d + 1) kc ks M sz h pc ls (.ref a :: st) Q :=
  r_call (As := .ref a :: []) (rest := st) hp hd ⟨⟨cm_X10_lettersLookedAt.1, cm_X10_lettersLookedAt.2.1, cm_X10_lettersLookedAt.2.2.1, cm_X10_lettersLookedAt.2.2.2.1, cm_X10_lettersLookedAt.2.2.2.2, Nat.le_of_ble_eq_true rfl, hc⟩, Or.inr (Or.inl ⟨74, a, [], _, 10, fs, rfl, rfl, rfl, ha, hs, hh, rfl, cv_X10_lettersLookedAt.1, cv_X10_lettersLookedAt.2, Or.inl ⟨(dp_m 650 (by decide +kernel) rfl), rfl, by rw [hM]; exact Or.inl (dp_m 648 (by decide +kernel) rfl)⟩⟩)⟩ (Nat.zero_add _).symm (Nat.zero_add _).symm hE k
theorem cl_X10_34 {a : Nat} {fs : List Value}  (hM : M.1.cls = RX10) (hp : pc + 3 = pc') (hd : decode M.2.1 pc = .ok (.invokevirtual 34, 3)) (ha : 2 ≤ a) (hs : a < sz) (hh : h a = .inr (10, fs)) (hc : ev_cs st ≤ 8) (hE : EV xs L d 0 0 M_X10_size sz h 0 [some (.ref a), none, none] [] Qm) (k : ∀ sz' h' r, Qm sz' h' r → EV xs L (d + 1) kc ks M sz' h' pc' ls (r ++ st) Q) : EV xs L (d + 1) kc ks M sz h pc ls (.ref a :: st) Q :=
  r_call (As := .ref a :: []) (rest := st) hp hd ⟨⟨cm_X10_size.1, cm_X10_size.2.1, cm_X10_size.2.2.1, cm_X10_size.2.2.2.1, cm_X10_size.2.2.2.2, Nat.le_of_ble_eq_true rfl, hc⟩, Or.inr (Or.inl ⟨34, a, [], _, 10, fs, rfl, rfl, rfl, ha, hs, hh, rfl, cv_X10_size.1, cv_X10_size.2, Or.inl ⟨(dp_m 604 (by decide +kernel) rfl), rfl, by rw [hM]; exact Or.inl (dp_m 661 (by decide +kernel) rfl)⟩⟩)⟩ (Nat.zero_add _).symm (Nat.zero_add _).symm hE k
theorem cl_X11_170 {a : Nat} {fs : List Value}  (hM : M.1.cls = RX11) (hp : pc + 3 = pc') (hd : decode M.2.1 pc = .ok (.invokevirtual 170, 3)) (ha : 2 ≤ a) (hs : a < sz) (hh : h a = .inr (10, fs)) (hc : ev_cs st ≤ 8) (hE : EV xs L d 0 0 M_X10_lettersLookedAt sz h 0 [some (.ref a), none, none] [] Qm) (k : ∀ sz' h' r, Qm sz' h' r → EV xs L (d + 1) kc ks M sz' h' pc' ls (r ++ st) Q) : EV xs L (d + 1) kc ks M sz h pc ls (.ref a :: st) Q :=
  r_call (As := .ref a :: []) (rest := st) hp hd ⟨⟨cm_X10_lettersLookedAt.1, cm_X10_lettersLookedAt.2.1, cm_X10_lettersLookedAt.2.2.1, cm_X10_lettersLookedAt.2.2.2.1, cm_X10_lettersLookedAt.2.2.2.2, Nat.le_of_ble_eq_true rfl, hc⟩, Or.inr (Or.inl ⟨170, a, [], _, 10, fs, rfl, rfl, rfl, ha, hs, hh, rfl, cv_X10_lettersLookedAt.1, cv_X10_lettersLookedAt.2, Or.inl ⟨(dp_m 650 (by decide +kernel) rfl), rfl, by rw [hM]; exact Or.inl (dp_m 671 (by decide +kernel) rfl)⟩⟩)⟩ (Nat.zero_add _).symm (Nat.zero_add _).symm hE k
theorem cl_X11_183 {a : Nat} {fs : List Value}  (hM : M.1.cls = RX11) (hp : pc + 3 = pc') (hd : decode M.2.1 pc = .ok (.invokevirtual 183, 3)) (ha : 2 ≤ a) (hs : a < sz) (hh : h a = .inr (7, fs)) (hc : ev_cs st ≤ 8) (hE : EV xs L d 0 0 M_X7_freeChoices sz h 0 [some (.ref a), none] [] Qm) (k : ∀ sz' h' r, Qm sz' h' r → EV xs L (d + 1) kc ks M sz' h' pc' ls (r ++ st) Q) : EV xs L (d + 1) kc ks M sz h pc ls (.ref a :: st) Q :=
  r_call (As := .ref a :: []) (rest := st) hp hd ⟨⟨cm_X7_freeChoices.1, cm_X7_freeChoices.2.1, cm_X7_freeChoices.2.2.1, cm_X7_freeChoices.2.2.2.1, cm_X7_freeChoices.2.2.2.2, Nat.le_of_ble_eq_true rfl, hc⟩, Or.inr (Or.inl ⟨183, a, [], _, 7, fs, rfl, rfl, rfl, ha, hs, hh, rfl, cv_X7_freeChoices.1, cv_X7_freeChoices.2, Or.inl ⟨(dp_m 683 (by decide +kernel) rfl), rfl, by rw [hM]; exact Or.inl (dp_m 681 (by decide +kernel) rfl)⟩⟩)⟩ (Nat.zero_add _).symm (Nat.zero_add _).symm hE k
theorem cl_X11_186 {a : Nat} {fs : List Value}  (hM : M.1.cls = RX11) (hp : pc + 3 = pc') (hd : decode M.2.1 pc = .ok (.invokevirtual 186, 3)) (ha : 2 ≤ a) (hs : a < sz) (hh : h a = .inr (7, fs)) (hc : ev_cs st ≤ 8) (hE : EV xs L d 0 0 M_X7_fewestLetters sz h 0 [some (.ref a)] [] Qm) (k : ∀ sz' h' r, Qm sz' h' r → EV xs L (d + 1) kc ks M sz' h' pc' ls (r ++ st) Q) : EV xs L (d + 1) kc ks M sz h pc ls (.ref a :: st) Q :=
  r_call (As := .ref a :: []) (rest := st) hp hd ⟨⟨cm_X7_fewestLetters.1, cm_X7_fewestLetters.2.1, cm_X7_fewestLetters.2.2.1, cm_X7_fewestLetters.2.2.2.1, cm_X7_fewestLetters.2.2.2.2, Nat.le_of_ble_eq_true rfl, hc⟩, Or.inr (Or.inl ⟨186, a, [], _, 7, fs, rfl, rfl, rfl, ha, hs, hh, rfl, cv_X7_fewestLetters.1, cv_X7_fewestLetters.2, Or.inl ⟨(dp_m 693 (by decide +kernel) rfl), rfl, by rw [hM]; exact Or.inl (dp_m 691 (by decide +kernel) rfl)⟩⟩)⟩ (Nat.zero_add _).symm (Nat.zero_add _).symm hE k
theorem cl_X11_217 {x1 : Int32} (hM : M.1.cls = RX11) (hp : pc + 3 = pc') (hd : decode M.2.1 pc = .ok (.invokestatic 217, 3)) (hc : ev_cs st ≤ 8) (hE : EV xs L d 0 0 M_J6_bitCount_0f7a4 sz h 0 [some (.int x1)] [] Qm) (k : ∀ sz' h' r, Qm sz' h' r → EV xs L (d + 1) kc ks M sz' h' pc' ls (r ++ st) Q) : EV xs L (d + 1) kc ks M sz h pc ls (.int x1 :: st) Q :=
  r_call (As := [.int x1]) (rest := st) hp hd ⟨⟨cm_J6_bitCount_0f7a4.1, cm_J6_bitCount_0f7a4.2.1, cm_J6_bitCount_0f7a4.2.2.1, cm_J6_bitCount_0f7a4.2.2.2.1, cm_J6_bitCount_0f7a4.2.2.2.2, Nat.le_of_ble_eq_true rfl, hc⟩, Or.inl ⟨217, rfl, rfl, cs_J6_bitCount_0f7a4.1, cs_J6_bitCount_0f7a4.2, by rw [hM]; exact Or.inl (dp_m 706 (by decide +kernel) rfl)⟩⟩ (Nat.zero_add _).symm (Nat.zero_add _).symm hE k
theorem cl_L_97 {a : Nat} {fs : List Value}  (hM : M.1.cls = R_law) (hp : pc + 3 = pc') (hd : decode M.2.1 pc = .ok (.invokevirtual 97, 3)) (ha : 2 ≤ a) (hs : a < sz) (hh : h a = .inr (11, fs)) (hc : ev_cs st ≤ 8) (hE : EV xs L d 0 0 M_X11_check sz h 0 [some (.ref a)] [] Qm) (k : ∀ sz' h' r, Qm sz' h' r → EV xs L (d + 1) kc ks M sz' h' pc' ls (r ++ st) Q) : EV xs L (d + 1) kc ks M sz h pc ls (.ref a :: st) Q :=
  r_call (As := .ref a :: []) (rest := st) hp hd ⟨⟨cm_X11_check.1, cm_X11_check.2.1, cm_X11_check.2.2.1, cm_X11_check.2.2.2.1, cm_X11_check.2.2.2.2, Nat.le_of_ble_eq_true rfl, hc⟩, Or.inr (Or.inl ⟨97, a, [], _, 11, fs, rfl, rfl, rfl, ha, hs, hh, rfl, cv_X11_check.1, cv_X11_check.2, Or.inl ⟨(dp_m 721 (by decide +kernel) rfl), rfl, by rw [hM]; exact Or.inl (dp_m 719 (by decide +kernel) rfl)⟩⟩)⟩ (Nat.zero_add _).symm (Nat.zero_add _).symm hE k
theorem cl_L_105 {a : Nat} {fs : List Value} {x1 : Int32} (hM : M.1.cls = R_law) (hp : pc + 3 = pc') (hd : decode M.2.1 pc = .ok (.invokevirtual 105, 3)) (ha : 2 ≤ a) (hs : a < sz) (hh : h a = .inr (11, fs)) (hc : ev_cs st ≤ 8) (hE : EV xs L d 0 0 M_X11_needed sz h 0 [some (.ref a), some (.int x1)] [] Qm) (k : ∀ sz' h' r, Qm sz' h' r → EV xs L (d + 1) kc ks M sz' h' pc' ls (r ++ st) Q) : EV xs L (d + 1) kc ks M sz h pc ls (.int x1 :: .ref a :: st) Q :=
  r_call (As := .ref a :: [.int x1]) (rest := st) hp hd ⟨⟨cm_X11_needed.1, cm_X11_needed.2.1, cm_X11_needed.2.2.1, cm_X11_needed.2.2.2.1, cm_X11_needed.2.2.2.2, Nat.le_of_ble_eq_true rfl, hc⟩, Or.inr (Or.inl ⟨105, a, [.int x1], _, 11, fs, rfl, rfl, rfl, ha, hs, hh, rfl, cv_X11_needed.1, cv_X11_needed.2, Or.inl ⟨(dp_m 736 (by decide +kernel) rfl), rfl, by rw [hM]; exact Or.inl (dp_m 734 (by decide +kernel) rfl)⟩⟩)⟩ (Nat.zero_add _).symm (Nat.zero_add _).symm hE k
theorem cl_X0_58 {a : Nat} {fs : List Value} {x1 : Nat} (hM : M.1.cls = RX0) (hp : pc + 3 = pc') (hd : decode M.2.1 pc = .ok (.invokevirtual 58, 3)) (ha : 2 ≤ a) (hs : a < sz) (hh : h a = .inr (10, fs)) (hc : ev_cs st ≤ 8) (hE : EV xs L d 0 0 M_X10_meet sz h 0 [some (.ref a), some (.ref x1), none] [] Qm) (k : ∀ sz' h' r, Qm sz' h' r → EV xs L (d + 1) kc ks M sz' h' pc' ls (r ++ st) Q) : EV xs L (d + 1) kc ks M sz h pc ls (.ref x1 :: .ref a :: st) Q :=
  r_call (As := .ref a :: [.ref x1]) (rest := st) hp hd ⟨⟨cm_X10_meet.1, cm_X10_meet.2.1, cm_X10_meet.2.2.1, cm_X10_meet.2.2.2.1, cm_X10_meet.2.2.2.2, Nat.le_of_ble_eq_true rfl, hc⟩, Or.inr (Or.inl ⟨58, a, [.ref x1], _, 10, fs, rfl, rfl, rfl, ha, hs, hh, rfl, cv_X10_meet.1, cv_X10_meet.2, Or.inl ⟨(dp_m 438 (by decide +kernel) rfl), rfl, by rw [hM]; exact Or.inl (dp_m 747 (by decide +kernel) rfl)⟩⟩)⟩ (Nat.zero_add _).symm (Nat.zero_add _).symm hE k
theorem cl_X0_70 {a : Nat} {fs : List Value} {x1 : Int32} (hM : M.1.cls = RX0) (hp : pc + 3 = pc') (hd : decode M.2.1 pc = .ok (.invokevirtual 70, 3)) (ha : 2 ≤ a) (hs : a < sz) (hh : h a = .inr (10, fs)) (hc : ev_cs st ≤ 8) (hE : EV xs L d 0 0 M_X10_has sz h 0 [some (.ref a), some (.int x1)] [] Qm) (k : ∀ sz' h' r, Qm sz' h' r → EV xs L (d + 1) kc ks M sz' h' pc' ls (r ++ st) Q) : EV xs L (d + 1) kc ks M sz h pc ls (.int x1 :: .ref a :: st) Q :=
  r_call (As := .ref a :: [.int x1]) (rest := st) hp hd ⟨⟨cm_X10_has.1, cm_X10_has.2.1, cm_X10_has.2.2.1, cm_X10_has.2.2.2.1, cm_X10_has.2.2.2.2, Nat.le_of_ble_eq_true rfl, hc⟩, Or.inr (Or.inl ⟨70, a, [.int x1], _, 10, fs, rfl, rfl, rfl, ha, hs, hh, rfl, cv_X10_has.1, cv_X10_has.2, Or.inl ⟨(dp_m 629 (by decide +kernel) rfl), rfl, by rw [hM]; exact Or.inl (dp_m 760 (by decide +kernel) rfl)⟩⟩)⟩ (Nat.zero_add _).symm (Nat.zero_add _).symm hE k
theorem cl_X11_207 {a : Nat} {fs : List Value} {x1 : Nat} {x2 : Nat} (hM : M.1.cls = RX11) (hp : pc + 3 = pc') (hd : decode M.2.1 pc = .ok (.invokevirtual 207, 3)) (ha : 2 ≤ a) (hs : a < sz) (hh : h a = .inr (6, fs)) (hc : ev_cs st ≤ 8) (hE : EV xs L d 0 0 M_X6_work sz h 0 [some (.ref a), some (.ref x1), some (.ref x2)] [] Qm) (k : ∀ sz' h' r, Qm sz' h' r → EV xs L (d + 1) kc ks M sz' h' pc' ls (r ++ st) Q) : EV xs L (d + 1) kc ks M sz h pc ls (.ref x2 :: .ref x1 :: .ref a :: st) Q :=
  r_call (As := .ref a :: [.ref x1, .ref x2]) (rest := st) hp hd ⟨⟨cm_X6_work.1, cm_X6_work.2.1, cm_X6_work.2.2.1, cm_X6_work.2.2.2.1, cm_X6_work.2.2.2.2, Nat.le_of_ble_eq_true rfl, hc⟩, Or.inr (Or.inl ⟨207, a, [.ref x1, .ref x2], _, 6, fs, rfl, rfl, rfl, ha, hs, hh, rfl, cv_X6_work.1, cv_X6_work.2, Or.inl ⟨(dp_m 772 (by decide +kernel) rfl), rfl, by rw [hM]; exact Or.inl (dp_m 770 (by decide +kernel) rfl)⟩⟩)⟩ (Nat.zero_add _).symm (Nat.zero_add _).symm hE k
theorem cl_X1_7 {a : Nat} {fs : List Value} {x1 : Int32} (hM : M.1.cls = RX1) (hp : pc + 3 = pc') (hd : decode M.2.1 pc = .ok (.invokevirtual 7, 3)) (ha : 2 ≤ a) (hs : a < sz) (hh : h a = .inr (9, fs)) (hc : ev_cs st ≤ 8) (hE : EV xs L d 0 0 M_X9_mark sz h 0 [some (.ref a), some (.int x1)] [] Qm) (k : ∀ sz' h' r, Qm sz' h' r → EV xs L (d + 1) kc ks M sz' h' pc' ls (r ++ st) Q) : EV xs L (d + 1) kc ks M sz h pc ls (.int x1 :: .ref a :: st) Q :=
  r_call (As := .ref a :: [.int x1]) (rest := st) hp hd ⟨⟨cm_X9_mark.1, cm_X9_mark.2.1, cm_X9_mark.2.2.1, cm_X9_mark.2.2.2.1, cm_X9_mark.2.2.2.2, Nat.le_of_ble_eq_true rfl, hc⟩, Or.inr (Or.inl ⟨7, a, [.int x1], _, 9, fs, rfl, rfl, rfl, ha, hs, hh, rfl, cv_X9_mark.1, cv_X9_mark.2, Or.inl ⟨(dp_m 779 (by decide +kernel) rfl), rfl, by rw [hM]; exact Or.inl (dp_m 777 (by decide +kernel) rfl)⟩⟩)⟩ (Nat.zero_add _).symm (Nat.zero_add _).symm hE k
theorem cl_X2_17 {a : Nat} {fs : List Value} {x1 : Int32} (hM : M.1.cls = RX2) (hp : pc + 3 = pc') (hd : decode M.2.1 pc = .ok (.invokevirtual 17, 3)) (ha : 2 ≤ a) (hs : a < sz) (hh : h a = .inr (3, fs)) (hc : ev_cs st ≤ 8) (hE : EV xs L d 0 0 M_X3_sayingBy sz h 0 [some (.ref a), some (.int x1)] [] Qm) (k : ∀ sz' h' r, Qm sz' h' r → EV xs L (d + 1) kc ks M sz' h' pc' ls (r ++ st) Q) : EV xs L (d + 1) kc ks M sz h pc ls (.int x1 :: .ref a :: st) Q :=
  r_call (As := .ref a :: [.int x1]) (rest := st) hp hd ⟨⟨cm_X3_sayingBy.1, cm_X3_sayingBy.2.1, cm_X3_sayingBy.2.2.1, cm_X3_sayingBy.2.2.2.1, cm_X3_sayingBy.2.2.2.2, Nat.le_of_ble_eq_true rfl, hc⟩, Or.inr (Or.inl ⟨17, a, [.int x1], _, 3, fs, rfl, rfl, rfl, ha, hs, hh, rfl, cv_X3_sayingBy.1, cv_X3_sayingBy.2, Or.inl ⟨(dp_m 625 (by decide +kernel) rfl), rfl, by rw [hM]; exact Or.inl (dp_m 786 (by decide +kernel) rfl)⟩⟩)⟩ (Nat.zero_add _).symm (Nat.zero_add _).symm hE k
theorem cl_X6_7 {a : Nat} {fs : List Value} {x1 : Int32} (hM : M.1.cls = RX6) (hp : pc + 3 = pc') (hd : decode M.2.1 pc = .ok (.invokevirtual 7, 3)) (ha : 2 ≤ a) (hs : a < sz) (hh : h a = .inr (9, fs)) (hc : ev_cs st ≤ 8) (hE : EV xs L d 0 0 M_X9_mark sz h 0 [some (.ref a), some (.int x1)] [] Qm) (k : ∀ sz' h' r, Qm sz' h' r → EV xs L (d + 1) kc ks M sz' h' pc' ls (r ++ st) Q) : EV xs L (d + 1) kc ks M sz h pc ls (.int x1 :: .ref a :: st) Q :=
  r_call (As := .ref a :: [.int x1]) (rest := st) hp hd ⟨⟨cm_X9_mark.1, cm_X9_mark.2.1, cm_X9_mark.2.2.1, cm_X9_mark.2.2.2.1, cm_X9_mark.2.2.2.2, Nat.le_of_ble_eq_true rfl, hc⟩, Or.inr (Or.inl ⟨7, a, [.int x1], _, 9, fs, rfl, rfl, rfl, ha, hs, hh, rfl, cv_X9_mark.1, cv_X9_mark.2, Or.inl ⟨(dp_m 779 (by decide +kernel) rfl), rfl, by rw [hM]; exact Or.inl (dp_m 795 (by decide +kernel) rfl)⟩⟩)⟩ (Nat.zero_add _).symm (Nat.zero_add _).symm hE k
theorem cl_X11_222 {a : Nat} {fs : List Value}  (hM : M.1.cls = RX11) (hp : pc + 3 = pc') (hd : decode M.2.1 pc = .ok (.invokevirtual 222, 3)) (ha : 2 ≤ a) (hs : a < sz) (hh : h a = .inr (9, fs)) (hc : ev_cs st ≤ 8) (hE : EV xs L d 0 0 M_X9_sum sz h 0 [some (.ref a)] [] Qm) (k : ∀ sz' h' r, Qm sz' h' r → EV xs L (d + 1) kc ks M sz' h' pc' ls (r ++ st) Q) : EV xs L (d + 1) kc ks M sz h pc ls (.ref a :: st) Q :=
  r_call (As := .ref a :: []) (rest := st) hp hd ⟨⟨cm_X9_sum.1, cm_X9_sum.2.1, cm_X9_sum.2.2.1, cm_X9_sum.2.2.2.1, cm_X9_sum.2.2.2.2, Nat.le_of_ble_eq_true rfl, hc⟩, Or.inr (Or.inl ⟨222, a, [], _, 9, fs, rfl, rfl, rfl, ha, hs, hh, rfl, cv_X9_sum.1, cv_X9_sum.2, Or.inl ⟨(dp_m 807 (by decide +kernel) rfl), rfl, by rw [hM]; exact Or.inl (dp_m 805 (by decide +kernel) rfl)⟩⟩)⟩ (Nat.zero_add _).symm (Nat.zero_add _).symm hE k
theorem cl_X12_130 {a : Nat} {fs : List Value} {x1 : Int32} (hM : M.1.cls = RX12) (hp : pc + 3 = pc') (hd : decode M.2.1 pc = .ok (.invokevirtual 130, 3)) (ha : 2 ≤ a) (hs : a < sz) (hh : h a = .inr (12, fs)) (hc : ev_cs st ≤ 8) (hE : EV xs L d 0 0 M_X12_lettersOf sz h 0 [some (.ref a), some (.int x1), none, none] [] Qm) (k : ∀ sz' h' r, Qm sz' h' r → EV xs L (d + 1) kc ks M sz' h' pc' ls (r ++ st) Q) : EV xs L (d + 1) kc ks M sz h pc ls (.int x1 :: .ref a :: st) Q :=
  r_call (As := .ref a :: [.int x1]) (rest := st) hp hd ⟨⟨cm_X12_lettersOf.1, cm_X12_lettersOf.2.1, cm_X12_lettersOf.2.2.1, cm_X12_lettersOf.2.2.2.1, cm_X12_lettersOf.2.2.2.2, Nat.le_of_ble_eq_true rfl, hc⟩, Or.inr (Or.inl ⟨130, a, [.int x1], _, 12, fs, rfl, rfl, rfl, ha, hs, hh, rfl, cv_X12_lettersOf.1, cv_X12_lettersOf.2, Or.inl ⟨(dp_s 25 (by decide +kernel) rfl), rfl, by rw [hM]; exact Or.inl (dp_m 823 (by decide +kernel) rfl)⟩⟩)⟩ (Nat.zero_add _).symm (Nat.zero_add _).symm hE k
theorem cl_X12_60 {x1 : Int32} {x2 : Int32} {x3 : Int32} (hM : M.1.cls = RX12) (hp : pc + 3 = pc') (hd : decode M.2.1 pc = .ok (.invokestatic 60, 3)) (hc : ev_cs st ≤ 8) (hE : EV xs L d 0 0 M_X12_in sz h 0 [some (.int x1), some (.int x2), some (.int x3)] [] Qm) (k : ∀ sz' h' r, Qm sz' h' r → EV xs L (d + 1) kc ks M sz' h' pc' ls (r ++ st) Q) : EV xs L (d + 1) kc ks M sz h pc ls (.int x3 :: .int x2 :: .int x1 :: st) Q :=
  r_call (As := [.int x1, .int x2, .int x3]) (rest := st) hp hd ⟨⟨cm_X12_in.1, cm_X12_in.2.1, cm_X12_in.2.2.1, cm_X12_in.2.2.2.1, cm_X12_in.2.2.2.2, Nat.le_of_ble_eq_true rfl, hc⟩, Or.inl ⟨60, rfl, rfl, cs_X12_in.1, cs_X12_in.2, by rw [hM]; exact Or.inl (dp_m 914 (by decide +kernel) rfl)⟩⟩ (Nat.zero_add _).symm (Nat.zero_add _).symm hE k
theorem cl_X12_96 {a : Nat} {fs : List Value}  (hM : M.1.cls = RX12) (hp : pc + 3 = pc') (hd : decode M.2.1 pc = .ok (.invokevirtual 96, 3)) (ha : 2 ≤ a) (hs : a < sz) (hh : h a = .inr (12, fs)) (hc : ev_cs st ≤ 8) (hE : EV xs L d 0 0 M_X12_advances sz h 0 [some (.ref a), none] [] Qm) (k : ∀ sz' h' r, Qm sz' h' r → EV xs L (d + 1) kc ks M sz' h' pc' ls (r ++ st) Q) : EV xs L (d + 1) kc ks M sz h pc ls (.ref a :: st) Q :=
  r_call (As := .ref a :: []) (rest := st) hp hd ⟨⟨cm_X12_advances.1, cm_X12_advances.2.1, cm_X12_advances.2.2.1, cm_X12_advances.2.2.2.1, cm_X12_advances.2.2.2.2, Nat.le_of_ble_eq_true rfl, hc⟩, Or.inr (Or.inl ⟨96, a, [], _, 12, fs, rfl, rfl, rfl, ha, hs, hh, rfl, cv_X12_advances.1, cv_X12_advances.2, Or.inl ⟨(dp_s 27 (by decide +kernel) rfl), rfl, by rw [hM]; exact Or.inl (dp_m 930 (by decide +kernel) rfl)⟩⟩)⟩ (Nat.zero_add _).symm (Nat.zero_add _).symm hE k
theorem cl_X12_99 {a : Nat} {fs : List Value} {x1 : Int32} (hM : M.1.cls = RX12) (hp : pc + 3 = pc') (hd : decode M.2.1 pc = .ok (.invokevirtual 99, 3)) (ha : 2 ≤ a) (hs : a < sz) (hh : h a = .inr (12, fs)) (hc : ev_cs st ≤ 8) (hE : EV xs L d 0 0 M_X12_wants sz h 0 [some (.ref a), some (.int x1)] [] Qm) (k : ∀ sz' h' r, Qm sz' h' r → EV xs L (d + 1) kc ks M sz' h' pc' ls (r ++ st) Q) : EV xs L (d + 1) kc ks M sz h pc ls (.int x1 :: .ref a :: st) Q :=
  r_call (As := .ref a :: [.int x1]) (rest := st) hp hd ⟨⟨cm_X12_wants.1, cm_X12_wants.2.1, cm_X12_wants.2.2.1, cm_X12_wants.2.2.2.1, cm_X12_wants.2.2.2.2, Nat.le_of_ble_eq_true rfl, hc⟩, Or.inr (Or.inl ⟨99, a, [.int x1], _, 12, fs, rfl, rfl, rfl, ha, hs, hh, rfl, cv_X12_wants.1, cv_X12_wants.2, Or.inl ⟨(dp_s 31 (by decide +kernel) rfl), rfl, by rw [hM]; exact Or.inl (dp_m 946 (by decide +kernel) rfl)⟩⟩)⟩ (Nat.zero_add _).symm (Nat.zero_add _).symm hE k
theorem cl_X12_127 {x1 : Int32} {x2 : Int32} {x3 : Int32} (hM : M.1.cls = RX12) (hp : pc + 3 = pc') (hd : decode M.2.1 pc = .ok (.invokestatic 127, 3)) (hc : ev_cs st ≤ 8) (hE : EV xs L d 0 0 M_X12_isSo sz h 0 [some (.int x1), some (.int x2), some (.int x3)] [] Qm) (k : ∀ sz' h' r, Qm sz' h' r → EV xs L (d + 1) kc ks M sz' h' pc' ls (r ++ st) Q) : EV xs L (d + 1) kc ks M sz h pc ls (.int x3 :: .int x2 :: .int x1 :: st) Q :=
  r_call (As := [.int x1, .int x2, .int x3]) (rest := st) hp hd ⟨⟨cm_X12_isSo.1, cm_X12_isSo.2.1, cm_X12_isSo.2.2.1, cm_X12_isSo.2.2.2.1, cm_X12_isSo.2.2.2.2, Nat.le_of_ble_eq_true rfl, hc⟩, Or.inl ⟨127, rfl, rfl, cs_X12_isSo.1, cs_X12_isSo.2, by rw [hM]; exact Or.inl (dp_m 962 (by decide +kernel) rfl)⟩⟩ (Nat.zero_add _).symm (Nat.zero_add _).symm hE k
theorem cl_X12_150 {a : Nat} {fs : List Value} {x1 : Int32} (hM : M.1.cls = RX12) (hp : pc + 3 = pc') (hd : decode M.2.1 pc = .ok (.invokevirtual 150, 3)) (ha : 2 ≤ a) (hs : a < sz) (hh : h a = .inr (12, fs)) (hc : ev_cs st ≤ 8) (hE : EV xs L d 0 0 M_X12_makes sz h 0 [some (.ref a), some (.int x1), none, none, none, none, none, none, none, none, none, none, none, none, none, none, none, none, none, none, none, none] [] Qm) (k : ∀ sz' h' r, Qm sz' h' r → EV xs L (d + 1) kc ks M sz' h' pc' ls (r ++ st) Q) : EV xs L (d + 1) kc ks M sz h pc ls (.int x1 :: .ref a :: st) Q :=
  r_call (As := .ref a :: [.int x1]) (rest := st) hp hd ⟨⟨cm_X12_makes.1, cm_X12_makes.2.1, cm_X12_makes.2.2.1, cm_X12_makes.2.2.2.1, cm_X12_makes.2.2.2.2, Nat.le_of_ble_eq_true rfl, hc⟩, Or.inr (Or.inl ⟨150, a, [.int x1], _, 12, fs, rfl, rfl, rfl, ha, hs, hh, rfl, cv_X12_makes.1, cv_X12_makes.2, Or.inl ⟨(dp_s 37 (by decide +kernel) rfl), rfl, by rw [hM]; exact Or.inl (dp_m 977 (by decide +kernel) rfl)⟩⟩)⟩ (Nat.zero_add _).symm (Nat.zero_add _).symm hE k
theorem cl_L_45 {a : Nat} {fs : List Value} {x1 : Int32} {x2 : Int32} (hM : M.1.cls = R_law) (hp : pc + 3 = pc') (hd : decode M.2.1 pc = .ok (.invokevirtual 45, 3)) (ha : 2 ≤ a) (hs : a < sz) (hh : h a = .inr (12, fs)) (hc : ev_cs st ≤ 8) (hE : EV xs L d 0 0 M_X12_line sz h 0 [some (.ref a), some (.int x1), some (.int x2)] [] Qm) (k : ∀ sz' h' r, Qm sz' h' r → EV xs L (d + 1) kc ks M sz' h' pc' ls (r ++ st) Q) : EV xs L (d + 1) kc ks M sz h pc ls (.int x2 :: .int x1 :: .ref a :: st) Q :=
  r_call (As := .ref a :: [.int x1, .int x2]) (rest := st) hp hd ⟨⟨cm_X12_line.1, cm_X12_line.2.1, cm_X12_line.2.2.1, cm_X12_line.2.2.2.1, cm_X12_line.2.2.2.2, Nat.le_of_ble_eq_true rfl, hc⟩, Or.inr (Or.inl ⟨45, a, [.int x1, .int x2], _, 12, fs, rfl, rfl, rfl, ha, hs, hh, rfl, cv_X12_line.1, cv_X12_line.2, Or.inl ⟨(dp_m 995 (by decide +kernel) rfl), rfl, by rw [hM]; exact Or.inl (dp_m 993 (by decide +kernel) rfl)⟩⟩)⟩ (Nat.zero_add _).symm (Nat.zero_add _).symm hE k
theorem cl_L_58 {a : Nat} {fs : List Value} {x1 : Int32} (hM : M.1.cls = R_law) (hp : pc + 3 = pc') (hd : decode M.2.1 pc = .ok (.invokevirtual 58, 3)) (ha : 2 ≤ a) (hs : a < sz) (hh : h a = .inr (12, fs)) (hc : ev_cs st ≤ 8) (hE : EV xs L d 0 0 M_X12_worlds sz h 0 [some (.ref a), some (.int x1), none] [] Qm) (k : ∀ sz' h' r, Qm sz' h' r → EV xs L (d + 1) kc ks M sz' h' pc' ls (r ++ st) Q) : EV xs L (d + 1) kc ks M sz h pc ls (.int x1 :: .ref a :: st) Q :=
  r_call (As := .ref a :: [.int x1]) (rest := st) hp hd ⟨⟨cm_X12_worlds.1, cm_X12_worlds.2.1, cm_X12_worlds.2.2.1, cm_X12_worlds.2.2.2.1, cm_X12_worlds.2.2.2.2, Nat.le_of_ble_eq_true rfl, hc⟩, Or.inr (Or.inl ⟨58, a, [.int x1], _, 12, fs, rfl, rfl, rfl, ha, hs, hh, rfl, cv_X12_worlds.1, cv_X12_worlds.2, Or.inl ⟨(dp_m 1011 (by decide +kernel) rfl), rfl, by rw [hM]; exact Or.inl (dp_m 1009 (by decide +kernel) rfl)⟩⟩)⟩ (Nat.zero_add _).symm (Nat.zero_add _).symm hE k
theorem cl_L_68 {a : Nat} {fs : List Value} {x1 : Int32} {x2 : Int32} (hM : M.1.cls = R_law) (hp : pc + 3 = pc') (hd : decode M.2.1 pc = .ok (.invokevirtual 68, 3)) (ha : 2 ≤ a) (hs : a < sz) (hh : h a = .inr (12, fs)) (hc : ev_cs st ≤ 8) (hE : EV xs L d 0 0 M_X12_saying sz h 0 [some (.ref a), some (.int x1), some (.int x2), none] [] Qm) (k : ∀ sz' h' r, Qm sz' h' r → EV xs L (d + 1) kc ks M sz' h' pc' ls (r ++ st) Q) : EV xs L (d + 1) kc ks M sz h pc ls (.int x2 :: .int x1 :: .ref a :: st) Q :=
  r_call (As := .ref a :: [.int x1, .int x2]) (rest := st) hp hd ⟨⟨cm_X12_saying.1, cm_X12_saying.2.1, cm_X12_saying.2.2.1, cm_X12_saying.2.2.2.1, cm_X12_saying.2.2.2.2, Nat.le_of_ble_eq_true rfl, hc⟩, Or.inr (Or.inl ⟨68, a, [.int x1, .int x2], _, 12, fs, rfl, rfl, rfl, ha, hs, hh, rfl, cv_X12_saying.1, cv_X12_saying.2, Or.inl ⟨(dp_m 1025 (by decide +kernel) rfl), rfl, by rw [hM]; exact Or.inl (dp_m 1023 (by decide +kernel) rfl)⟩⟩)⟩ (Nat.zero_add _).symm (Nat.zero_add _).symm hE k
theorem cl_X12_167 {x1 : Nat} (hM : M.1.cls = RX12) (hp : pc + 3 = pc') (hd : decode M.2.1 pc = .ok (.invokestatic 167, 3)) (hc : ev_cs st ≤ 8) (hE : EV xs L d 0 0 M_X12_looksOf sz h 0 [some (.ref x1), none, none, none] [] Qm) (k : ∀ sz' h' r, Qm sz' h' r → EV xs L (d + 1) kc ks M sz' h' pc' ls (r ++ st) Q) : EV xs L (d + 1) kc ks M sz h pc ls (.ref x1 :: st) Q :=
  r_call (As := [.ref x1]) (rest := st) hp hd ⟨⟨cm_X12_looksOf.1, cm_X12_looksOf.2.1, cm_X12_looksOf.2.2.1, cm_X12_looksOf.2.2.2.1, cm_X12_looksOf.2.2.2.2, Nat.le_of_ble_eq_true rfl, hc⟩, Or.inl ⟨167, rfl, rfl, cs_X12_looksOf.1, cs_X12_looksOf.2, by rw [hM]; exact Or.inl (dp_m 1039 (by decide +kernel) rfl)⟩⟩ (Nat.zero_add _).symm (Nat.zero_add _).symm hE k
theorem cl_X12_177 {x1 : Int32} (hM : M.1.cls = RX12) (hp : pc + 3 = pc') (hd : decode M.2.1 pc = .ok (.invokestatic 177, 3)) (hc : ev_cs st ≤ 8) (hE : EV xs L d 0 0 M_X12_ones sz h 0 [some (.int x1), none, none] [] Qm) (k : ∀ sz' h' r, Qm sz' h' r → EV xs L (d + 1) kc ks M sz' h' pc' ls (r ++ st) Q) : EV xs L (d + 1) kc ks M sz h pc ls (.int x1 :: st) Q :=
  r_call (As := [.int x1]) (rest := st) hp hd ⟨⟨cm_X12_ones.1, cm_X12_ones.2.1, cm_X12_ones.2.2.1, cm_X12_ones.2.2.2.1, cm_X12_ones.2.2.2.2, Nat.le_of_ble_eq_true rfl, hc⟩, Or.inl ⟨177, rfl, rfl, cs_X12_ones.1, cs_X12_ones.2, by rw [hM]; exact Or.inl (dp_m 1054 (by decide +kernel) rfl)⟩⟩ (Nat.zero_add _).symm (Nat.zero_add _).symm hE k
theorem cl_L_100 {a : Nat} {fs : List Value}  (hM : M.1.cls = R_law) (hp : pc + 3 = pc') (hd : decode M.2.1 pc = .ok (.invokevirtual 100, 3)) (ha : 2 ≤ a) (hs : a < sz) (hh : h a = .inr (12, fs)) (hc : ev_cs st ≤ 8) (hE : EV xs L d 0 0 M_X12_check sz h 0 [some (.ref a)] [] Qm) (k : ∀ sz' h' r, Qm sz' h' r → EV xs L (d + 1) kc ks M sz' h' pc' ls (r ++ st) Q) : EV xs L (d + 1) kc ks M sz h pc ls (.ref a :: st) Q :=
  r_call (As := .ref a :: []) (rest := st) hp hd ⟨⟨cm_X12_check.1, cm_X12_check.2.1, cm_X12_check.2.2.1, cm_X12_check.2.2.2.1, cm_X12_check.2.2.2.2, Nat.le_of_ble_eq_true rfl, hc⟩, Or.inr (Or.inl ⟨100, a, [], _, 12, fs, rfl, rfl, rfl, ha, hs, hh, rfl, cv_X12_check.1, cv_X12_check.2, Or.inl ⟨(dp_m 1071 (by decide +kernel) rfl), rfl, by rw [hM]; exact Or.inl (dp_m 1069 (by decide +kernel) rfl)⟩⟩)⟩ (Nat.zero_add _).symm (Nat.zero_add _).symm hE k
theorem cl_L_112 {a : Nat} {fs : List Value} {x1 : Int32} {x2 : Int32} (hM : M.1.cls = R_law) (hp : pc + 3 = pc') (hd : decode M.2.1 pc = .ok (.invokevirtual 112, 3)) (ha : 2 ≤ a) (hs : a < sz) (hh : h a = .inr (12, fs)) (hc : ev_cs st ≤ 8) (hE : EV xs L d 0 0 M_X12_labour sz h 0 [some (.ref a), some (.int x1), some (.int x2), none, none] [] Qm) (k : ∀ sz' h' r, Qm sz' h' r → EV xs L (d + 1) kc ks M sz' h' pc' ls (r ++ st) Q) : EV xs L (d + 1) kc ks M sz h pc ls (.int x2 :: .int x1 :: .ref a :: st) Q :=
  r_call (As := .ref a :: [.int x1, .int x2]) (rest := st) hp hd ⟨⟨cm_X12_labour.1, cm_X12_labour.2.1, cm_X12_labour.2.2.1, cm_X12_labour.2.2.2.1, cm_X12_labour.2.2.2.2, Nat.le_of_ble_eq_true rfl, hc⟩, Or.inr (Or.inl ⟨112, a, [.int x1, .int x2], _, 12, fs, rfl, rfl, rfl, ha, hs, hh, rfl, cv_X12_labour.1, cv_X12_labour.2, Or.inl ⟨(dp_m 1087 (by decide +kernel) rfl), rfl, by rw [hM]; exact Or.inl (dp_m 1085 (by decide +kernel) rfl)⟩⟩)⟩ (Nat.zero_add _).symm (Nat.zero_add _).symm hE k
theorem cl_X11_18 {kc1 ks1 a : Nat}  (hM : M.1.cls = RX11) (hp : pc + 3 = pc') (hd : decode M.2.1 pc = .ok (.invokespecial 18, 3)) (hc : ev_cs st ≤ 8) (hE : EV xs L d kc1 ks1 M_X4_init sz h 0 [some (.ref a)] [] Qm) (k : ∀ sz' h' r, Qm sz' h' r → EV xs L (d + 1) kc ks M sz' h' pc' ls (r ++ st) Q) : EV xs L (d + 1) (kc1 + kc) (ks1 + ks) M sz h pc ls (.ref a :: st) Q :=
  r_call (As := .ref a :: []) (rest := st) hp hd ⟨⟨cm_X4_init.1, cm_X4_init.2.1, cm_X4_init.2.2.1, cm_X4_init.2.2.2.1, cm_X4_init.2.2.2.2, Nat.le_of_ble_eq_true rfl, hc⟩, Or.inr (Or.inr (Or.inl ⟨18, a, [], rfl, rfl, rfl, ci_X4_init.1, ci_X4_init.2.1, ci_X4_init.2.2.1, ci_X4_init.2.2.2, by rw [hM]; exact Or.inr ⟨"SharedSense", (dp_n 53 (by decide +kernel) rfl)⟩⟩))⟩ rfl rfl hE k
theorem cl_X11_52 {kc1 ks1 a : Nat}  (hM : M.1.cls = RX11) (hp : pc + 3 = pc') (hd : decode M.2.1 pc = .ok (.invokespecial 52, 3)) (hc : ev_cs st ≤ 8) (hE : EV xs L d kc1 ks1 M_X9_init sz h 0 [some (.ref a)] [] Qm) (k : ∀ sz' h' r, Qm sz' h' r → EV xs L (d + 1) kc ks M sz' h' pc' ls (r ++ st) Q) : EV xs L (d + 1) (kc1 + kc) (ks1 + ks) M sz h pc ls (.ref a :: st) Q :=
  r_call (As := .ref a :: []) (rest := st) hp hd ⟨⟨cm_X9_init.1, cm_X9_init.2.1, cm_X9_init.2.2.1, cm_X9_init.2.2.2.1, cm_X9_init.2.2.2.2, Nat.le_of_ble_eq_true rfl, hc⟩, Or.inr (Or.inr (Or.inl ⟨52, a, [], rfl, rfl, rfl, ci_X9_init.1, ci_X9_init.2.1, ci_X9_init.2.2.1, ci_X9_init.2.2.2, by rw [hM]; exact Or.inr ⟨"SharedSense", (dp_n 185 (by decide +kernel) rfl)⟩⟩))⟩ rfl rfl hE k
theorem cl_X11_72 {kc1 ks1 a : Nat}  (hM : M.1.cls = RX11) (hp : pc + 3 = pc') (hd : decode M.2.1 pc = .ok (.invokespecial 72, 3)) (hc : ev_cs st ≤ 8) (hE : EV xs L d kc1 ks1 M_X5_init sz h 0 [some (.ref a)] [] Qm) (k : ∀ sz' h' r, Qm sz' h' r → EV xs L (d + 1) kc ks M sz' h' pc' ls (r ++ st) Q) : EV xs L (d + 1) (kc1 + kc) (ks1 + ks) M sz h pc ls (.ref a :: st) Q :=
  r_call (As := .ref a :: []) (rest := st) hp hd ⟨⟨cm_X5_init.1, cm_X5_init.2.1, cm_X5_init.2.2.1, cm_X5_init.2.2.2.1, cm_X5_init.2.2.2.2, Nat.le_of_ble_eq_true rfl, hc⟩, Or.inr (Or.inr (Or.inl ⟨72, a, [], rfl, rfl, rfl, ci_X5_init.1, ci_X5_init.2.1, ci_X5_init.2.2.1, ci_X5_init.2.2.2, by rw [hM]; exact Or.inr ⟨"SharedSense", (dp_n 209 (by decide +kernel) rfl)⟩⟩))⟩ rfl rfl hE k
theorem cl_X3_27 {kc1 ks1 a : Nat}  (hM : M.1.cls = RX3) (hp : pc + 3 = pc') (hd : decode M.2.1 pc = .ok (.invokespecial 27, 3)) (hc : ev_cs st ≤ 8) (hE : EV xs L d kc1 ks1 M_X10_init sz h 0 [some (.ref a)] [] Qm) (k : ∀ sz' h' r, Qm sz' h' r → EV xs L (d + 1) kc ks M sz' h' pc' ls (r ++ st) Q) : EV xs L (d + 1) (kc1 + kc) (ks1 + ks) M sz h pc ls (.ref a :: st) Q :=
  r_call (As := .ref a :: []) (rest := st) hp hd ⟨⟨cm_X10_init.1, cm_X10_init.2.1, cm_X10_init.2.2.1, cm_X10_init.2.2.2.1, cm_X10_init.2.2.2.2, Nat.le_of_ble_eq_true rfl, hc⟩, Or.inr (Or.inr (Or.inl ⟨27, a, [], rfl, rfl, rfl, ci_X10_init.1, ci_X10_init.2.1, ci_X10_init.2.2.1, ci_X10_init.2.2.2, by rw [hM]; exact Or.inr ⟨"SharedSense", (dp_n 227 (by decide +kernel) rfl)⟩⟩))⟩ rfl rfl hE k
end CL
end
section
def ws4 (t : Nat → Int64) (a b c d : Int64) : Nat → Int64 := fun j => if j = 0 then a else if j = 1 then b else if j = 2 then c else if j = 3 then d else t j
def sel4 (a b c d : Int64) (j : Nat) : Int64 := if j = 0 then a else if j = 1 then b else if j = 2 then c else d
theorem ws4_s {t : Nat → Int64} {a b c d : Int64} {j : Nat} (h : j < 4) : ws4 t a b c d j = sel4 a b c d j := by
  match j, h with
  | 0, _ => rfl
  | 1, _ => rfl
  | 2, _ => rfl
  | 3, _ => rfl
theorem vp_in_lt {j : Int32} {n : Nat} (h : vp_in j n) : j.toNatClampNeg < n := Nat.not_le.mp fun q => h (Or.inr q)
theorem ws4_of (g : Nat → Int64) : g = ws4 g (g 0) (g 1) (g 2) (g 3) := by
  funext j
  unfold ws4
  by_cases h0 : j = 0
  · subst h0; rfl
  by_cases h1 : j = 1
  · subst h1; rfl
  by_cases h2 : j = 2
  · subst h2; rfl
  by_cases h3 : j = 3
  · subst h3; rfl
  simp [h0, h1, h2, h3]
theorem ws4_u0 (t : Nat → Int64) (a b c d x : Int64) : vp_updL (ws4 t a b c d) 0 x = ws4 t x b c d := by
  funext j
  unfold vp_updL ws4
  by_cases h : j = 0
  · subst h; rfl
  · simp [h]
theorem ws4_u1 (t : Nat → Int64) (a b c d x : Int64) : vp_updL (ws4 t a b c d) 1 x = ws4 t a x c d := by
  funext j
  unfold vp_updL ws4
  by_cases h : j = 1
  · subst h; rfl
  · simp [h]
theorem ws4_u2 (t : Nat → Int64) (a b c d x : Int64) : vp_updL (ws4 t a b c d) 2 x = ws4 t a b x d := by
  funext j
  unfold vp_updL ws4
  by_cases h : j = 2
  · subst h; rfl
  · simp [h]
theorem ws4_u3 (t : Nat → Int64) (a b c d x : Int64) : vp_updL (ws4 t a b c d) 3 x = ws4 t a b c x := by
  funext j
  unfold vp_updL ws4
  by_cases h : j = 3
  · subst h; rfl
  · simp [h]
theorem ws4_up {t : Nat → Int64} {a b c d x : Int64} {j : Nat} (h : j < 4) : vp_updL (ws4 t a b c d) j x = ws4 t (if j = 0 then x else a) (if j = 1 then x else b) (if j = 2 then x else c) (if j = 3 then x else d) := by
  match j, h with
  | 0, _ => exact ws4_u0 _ _ _ _ _ _
  | 1, _ => exact ws4_u1 _ _ _ _ _ _
  | 2, _ => exact ws4_u2 _ _ _ _ _ _
  | 3, _ => exact ws4_u3 _ _ _ _ _ _
/-- a set of worlds at a, its parts at q -/
def isWS (h : ev_H) (sz a q : Nat) (t : Nat → Int64) (x0 x1 x2 x3 : Int64) : Prop := (2 ≤ a ∧ a < sz) ∧ (2 ≤ q ∧ q < sz) ∧ h a = .inr (10, [.ref q]) ∧ h q = .inl (1, 4, .inr (.inl (ws4 t x0 x1 x2 x3)))
section R2
variable {xs : Nat → Int32} {L d kc ks : Nat} {M : ev_M} {sz : Nat} {h : ev_H} {pc pc' : Nat} {ls : ev_L} {st : List Value} {Q : ev_Q}
theorem r_eqi {x y : Int32} (e : x = y) (k : EV xs L d kc ks M sz h pc ls (.int y :: st) Q) : EV xs L d kc ks M sz h pc ls (.int x :: st) Q := by rw [e]; exact k
theorem r_eql {x y : Int64} (e : x = y) (k : EV xs L d kc ks M sz h pc ls (.long y :: st) Q) : EV xs L d kc ks M sz h pc ls (.long x :: st) Q := by rw [e]; exact k
theorem r_heap (k : ∀ h', h' = h → EV xs L d kc ks M sz h' pc ls st Q) : EV xs L d kc ks M sz h pc ls st Q := k h rfl
theorem r_laldv {a n jn : Nat} {j : Int32} {f : Nat → Int64} {v : Int64} (hp : pc + 1 = pc') (hd : decode M.2.1 pc = .ok (.laload, 1)) (ha : 2 ≤ a ∧ a < sz) (hh : h a = .inl (1, n, .inr (.inl f))) (hj : vp_in j n) (hjn : j.toNatClampNeg = jn) (hv : f jn = v) (k : EV xs L d kc ks M sz h pc' ls (.long v :: st) Q) : EV xs L d kc ks M sz h pc ls (.int j :: .ref a :: st) Q := r_lald hp hd ha.1 ha.2 hh hj hjn (by rw [hv]; exact k)
theorem r_ialdv {a n jn : Nat} {j : Int32} {f : Nat → Int32} {v : Int32} (hp : pc + 1 = pc') (hd : decode M.2.1 pc = .ok (.iaload, 1)) (ha : 2 ≤ a ∧ a < sz) (hh : h a = .inl (0, n, .inl f)) (hj : vp_in j n) (hjn : j.toNatClampNeg = jn) (hv : f jn = v) (k : EV xs L d kc ks M sz h pc' ls (.int v :: st) Q) : EV xs L d kc ks M sz h pc ls (.int j :: .ref a :: st) Q := r_iald hp hd ha.1 ha.2 hh hj hjn (by rw [hv]; exact k)
theorem r_baldv {a n jn : Nat} {j : Int32} {f : Nat → Int32} {v : Int32} (hp : pc + 1 = pc') (hd : decode M.2.1 pc = .ok (.baload, 1)) (ha : 2 ≤ a ∧ a < sz) (hh : h a = .inl (2, n, .inl f)) (hj : vp_in j n) (hjn : j.toNatClampNeg = jn) (hv : f jn = v) (k : EV xs L d kc ks M sz h pc' ls (.int v :: st) Q) : EV xs L d kc ks M sz h pc ls (.int j :: .ref a :: st) Q := r_bald hp hd ha.1 ha.2 hh hj hjn (by rw [hv]; exact k)
theorem r_soldv {jn : Nat} {j : Int32} {v : Int64} (hp : pc + 1 = pc') (hd : decode M.2.1 pc = .ok (.laload, 1)) (hj : vp_in j 6) (hjn : j.toNatClampNeg = jn) (hv : ev_so jn = v) (k : EV xs L d kc ks M sz h pc' ls (.long v :: st) Q) : EV xs L d kc ks M sz h pc ls (.int j :: .ref 1 :: st) Q := r_sold hp hd hj hjn (by rw [hv]; exact k)
theorem r_lastv {a n jn : Nat} {j : Int32} {x : Int64} {f f' : Nat → Int64} (hp : pc + 1 = pc') (hd : decode M.2.1 pc = .ok (.lastore, 1)) (ha : 2 ≤ a ∧ a < sz) (hh : h a = .inl (1, n, .inr (.inl f))) (hj : vp_in j n) (hjn : j.toNatClampNeg = jn) (hf : vp_updL f jn x = f') (k : ∀ h', h' = va_up h a (.inl (1, n, .inr (.inl f'))) → EV xs L d kc ks M sz h' pc' ls st Q) : EV xs L d kc ks M sz h pc ls (.long x :: .int j :: .ref a :: st) Q := r_last hp hd ha.1 ha.2 hh hj hjn (by rw [hf]; exact k _ rfl)
theorem r_iastv {a n jn : Nat} {j x : Int32} {f f' : Nat → Int32} (hp : pc + 1 = pc') (hd : decode M.2.1 pc = .ok (.iastore, 1)) (ha : 2 ≤ a ∧ a < sz) (hh : h a = .inl (0, n, .inl f)) (hj : vp_in j n) (hjn : j.toNatClampNeg = jn) (hf : upd f jn x = f') (k : ∀ h', h' = va_up h a (.inl (0, n, .inl f')) → EV xs L d kc ks M sz h' pc' ls st Q) : EV xs L d kc ks M sz h pc ls (.int x :: .int j :: .ref a :: st) Q := r_iast hp hd ha.1 ha.2 hh hj hjn (by rw [hf]; exact k _ rfl)
theorem r_getv {idx a ci : Nat} {fs : List Value} {v : Value} (f : Nat) (hp : pc + 3 = pc') (hd : decode M.2.1 pc = .ok (.getfield idx, 3)) (ha : 2 ≤ a ∧ a < sz) (hh : h a = .inr (ci, fs)) (hf : ev_fl M.1.cls idx ci f) (hv : fs[f]? = some v) (k : EV xs L d kc ks M sz h pc' ls (v :: st) Q) : EV xs L d kc ks M sz h pc ls (.ref a :: st) Q := r_get hp hd ha.1 ha.2 hh f hf hv k
theorem r_putv {idx a ci : Nat} {fs fs' : List Value} {v : Value} (f : Nat) (hp : pc + 3 = pc') (hd : decode M.2.1 pc = .ok (.putfield idx, 3)) (ha : 2 ≤ a ∧ a < sz) (hh : h a = .inr (ci, fs)) (hf : ev_fp ks M.1 idx ci f v) (hl : f < fs.length) (he : fs.set f v = fs') (k : ∀ h', h' = va_up h a (.inr (ci, fs')) → EV xs L d kc ks M sz h' pc' ls st Q) : EV xs L d kc ks M sz h pc ls (v :: .ref a :: st) Q := r_put hp hd ha.1 ha.2 hh f hf hl he (k _ rfl)
end R2
theorem va_up_up {α : Type} (f : Nat → α) (k : Nat) (v w : α) : va_up (va_up f k v) k w = va_up f k w := bx_uu f k v w
theorem rt_i {ret : Option FieldType} {v : Int32} (h : ret = some .int) : ev_rt ret .ireturn [.int v] := Or.inl ⟨rfl, v, rfl, .int, h, rfl⟩
theorem rt_z {ret : Option FieldType} {v : Int32} (h : ret = some .boolean) (hv : v = 0 ∨ v = 1) : ev_rt ret .ireturn [.int v] := by
  refine Or.inl ⟨rfl, v, rfl, .boolean, h, ?_⟩
  rcases hv with rfl | rfl <;> rfl
theorem rt_l {ret : Option FieldType} {v : Int64} (h : ret = some .long) : ev_rt ret .lreturn [.long v] := Or.inr (Or.inl ⟨rfl, v, rfl, h⟩)
theorem rt_v {ret : Option FieldType} (h : ret = none) : ev_rt ret .return_ [] := Or.inr (Or.inr (Or.inr ⟨rfl, rfl, h⟩))
theorem rt_a {ret : Option FieldType} {a : Nat} {n : String} (h : ret = some (.object n)) : ev_rt ret .areturn [.ref a] := Or.inr (Or.inr (Or.inl ⟨rfl, _, rfl, Or.inr ⟨a, rfl⟩, n, h⟩))
theorem rt_n {ret : Option FieldType} {n : String} (h : ret = some (.object n)) : ev_rt ret .areturn [.null] := Or.inr (Or.inr (Or.inl ⟨rfl, _, rfl, Or.inl rfl, n, h⟩))
theorem vpi {j m : Int32} {n : Nat} (hm : m.toInt = n) (h0 : ¬ j < 0) (h1 : ¬ m ≤ j) : vp_in j n := by
  rw [vp_in_iff]
  rw [Int32.lt_iff_toInt_lt] at h0
  rw [Int32.le_iff_toInt_le] at h1
  simp at h0
  omega
theorem fp_X8_9 {ks : Nat} {y : MethodName} (hy : y.cls = RX8) (hn : y.name = "<init>") (hk : 0 < ks) (a : Nat) : ev_fp ks y 9 8 0 (.ref a) := ⟨_, rfl, by decide, rfl, rfl, Or.inr ⟨rfl, hk, hn, hy.symm, by rw [hy]; exact (dp_m 31 (by decide +kernel) rfl)⟩⟩
theorem fp_X8_15 {ks : Nat} {y : MethodName} (hy : y.cls = RX8) (x : Int32) : ev_fp ks y 15 8 1 (.int x) := ⟨_, rfl, by decide, rfl, rfl, Or.inl ⟨rfl, by rw [hy]; exact Or.inl (dp_m 32 (by decide +kernel) rfl)⟩⟩
theorem fp_X8_28 {ks : Nat} {y : MethodName} (hy : y.cls = RX8) (x : Int32) : ev_fp ks y 28 8 2 (.int x) := ⟨_, rfl, by decide, rfl, rfl, Or.inl ⟨rfl, by rw [hy]; exact Or.inl (dp_m 33 (by decide +kernel) rfl)⟩⟩
theorem fp_X8_25 {ks : Nat} {y : MethodName} (hy : y.cls = RX8) (x : Int32) : ev_fp ks y 25 8 3 (.int x) := ⟨_, rfl, by decide, rfl, rfl, Or.inl ⟨rfl, by rw [hy]; exact Or.inl (dp_m 34 (by decide +kernel) rfl)⟩⟩
theorem fp_X8_19 {ks : Nat} {y : MethodName} (hy : y.cls = RX8) (x : Int32) : ev_fp ks y 19 8 4 (.int x) := ⟨_, rfl, by decide, rfl, rfl, Or.inl ⟨rfl, by rw [hy]; exact Or.inl (dp_m 35 (by decide +kernel) rfl)⟩⟩
theorem fp_X8_22 {ks : Nat} {y : MethodName} (hy : y.cls = RX8) (x : Int32) : ev_fp ks y 22 8 5 (.int x) := ⟨_, rfl, by decide, rfl, rfl, Or.inl ⟨rfl, by rw [hy]; exact Or.inl (dp_m 36 (by decide +kernel) rfl)⟩⟩
theorem fp_X4_9 {ks : Nat} {y : MethodName} (hy : y.cls = RX4) (hn : y.name = "<init>") (hk : 0 < ks) (a : Nat) : ev_fp ks y 9 4 0 (.ref a) := ⟨_, rfl, by decide, rfl, rfl, Or.inr ⟨rfl, hk, hn, hy.symm, by rw [hy]; exact (dp_m 57 (by decide +kernel) rfl)⟩⟩
theorem fp_X4_15 {ks : Nat} {y : MethodName} (hy : y.cls = RX4) (hn : y.name = "<init>") (hk : 0 < ks) (a : Nat) : ev_fp ks y 15 4 1 (.ref a) := ⟨_, rfl, by decide, rfl, rfl, Or.inr ⟨rfl, hk, hn, hy.symm, by rw [hy]; exact (dp_m 58 (by decide +kernel) rfl)⟩⟩
theorem fp_X4_18 {ks : Nat} {y : MethodName} (hy : y.cls = RX4) (hn : y.name = "<init>") (hk : 0 < ks) (a : Nat) : ev_fp ks y 18 4 2 (.ref a) := ⟨_, rfl, by decide, rfl, rfl, Or.inr ⟨rfl, hk, hn, hy.symm, by rw [hy]; exact (dp_m 59 (by decide +kernel) rfl)⟩⟩
theorem fp_X4_30 {ks : Nat} {y : MethodName} (hy : y.cls = RX4) (x : Int32) : ev_fp ks y 30 4 3 (.int x) := ⟨_, rfl, by decide, rfl, rfl, Or.inl ⟨rfl, by rw [hy]; exact Or.inl (dp_m 60 (by decide +kernel) rfl)⟩⟩
theorem fp_X4_60 {ks : Nat} {y : MethodName} (hy : y.cls = RX4) (x : Int32) : ev_fp ks y 60 4 4 (.int x) := ⟨_, rfl, by decide, rfl, rfl, Or.inl ⟨rfl, by rw [hy]; exact Or.inl (dp_m 61 (by decide +kernel) rfl)⟩⟩
theorem fp_X4_63 {ks : Nat} {y : MethodName} (hy : y.cls = RX4) (x : Int32) : ev_fp ks y 63 4 5 (.int x) := ⟨_, rfl, by decide, rfl, rfl, Or.inl ⟨rfl, by rw [hy]; exact Or.inl (dp_m 62 (by decide +kernel) rfl)⟩⟩
theorem fp_X4_21 {ks : Nat} {y : MethodName} (hy : y.cls = RX4) (hn : y.name = "<init>") (hk : 0 < ks) (a : Nat) : ev_fp ks y 21 4 6 (.ref a) := ⟨_, rfl, by decide, rfl, rfl, Or.inr ⟨rfl, hk, hn, hy.symm, by rw [hy]; exact (dp_m 63 (by decide +kernel) rfl)⟩⟩
theorem fp_X4_24 {ks : Nat} {y : MethodName} (hy : y.cls = RX4) (hn : y.name = "<init>") (hk : 0 < ks) (a : Nat) : ev_fp ks y 24 4 7 (.ref a) := ⟨_, rfl, by decide, rfl, rfl, Or.inr ⟨rfl, hk, hn, hy.symm, by rw [hy]; exact (dp_m 64 (by decide +kernel) rfl)⟩⟩
theorem fp_X4_27 {ks : Nat} {y : MethodName} (hy : y.cls = RX4) (hn : y.name = "<init>") (hk : 0 < ks) (a : Nat) : ev_fp ks y 27 4 8 (.ref a) := ⟨_, rfl, by decide, rfl, rfl, Or.inr ⟨rfl, hk, hn, hy.symm, by rw [hy]; exact (dp_m 65 (by decide +kernel) rfl)⟩⟩
theorem fp_X4_38 {ks : Nat} {y : MethodName} (hy : y.cls = RX4) (x : Int32) : ev_fp ks y 38 4 9 (.int x) := ⟨_, rfl, by decide, rfl, rfl, Or.inl ⟨rfl, by rw [hy]; exact Or.inl (dp_m 66 (by decide +kernel) rfl)⟩⟩
theorem fp_X10_9 {ks : Nat} {y : MethodName} (hy : y.cls = RX10) (hn : y.name = "<init>") (hk : 0 < ks) (a : Nat) : ev_fp ks y 9 10 0 (.ref a) := ⟨_, rfl, by decide, rfl, rfl, Or.inr ⟨rfl, hk, hn, hy.symm, by rw [hy]; exact (dp_m 103 (by decide +kernel) rfl)⟩⟩
theorem fp_X7_12 {ks : Nat} {y : MethodName} (hy : y.cls = RX7) (hn : y.name = "<init>") (hk : 0 < ks) (a : Nat) : ev_fp ks y 12 7 0 (.ref a) := ⟨_, rfl, by decide, rfl, rfl, Or.inr ⟨rfl, hk, hn, hy.symm, by rw [hy]; exact (dp_m 121 (by decide +kernel) rfl)⟩⟩
theorem fp_X7_18 {ks : Nat} {y : MethodName} (hy : y.cls = RX7) (hn : y.name = "<init>") (hk : 0 < ks) (a : Nat) : ev_fp ks y 18 7 1 (.ref a) := ⟨_, rfl, by decide, rfl, rfl, Or.inr ⟨rfl, hk, hn, hy.symm, by rw [hy]; exact (dp_m 123 (by decide +kernel) rfl)⟩⟩
theorem fp_X7_21 {ks : Nat} {y : MethodName} (hy : y.cls = RX7) (hn : y.name = "<init>") (hk : 0 < ks) (a : Nat) : ev_fp ks y 21 7 2 (.ref a) := ⟨_, rfl, by decide, rfl, rfl, Or.inr ⟨rfl, hk, hn, hy.symm, by rw [hy]; exact (dp_m 125 (by decide +kernel) rfl)⟩⟩
theorem fp_X7_24 {ks : Nat} {y : MethodName} (hy : y.cls = RX7) (hn : y.name = "<init>") (hk : 0 < ks) (a : Nat) : ev_fp ks y 24 7 3 (.ref a) := ⟨_, rfl, by decide, rfl, rfl, Or.inr ⟨rfl, hk, hn, hy.symm, by rw [hy]; exact (dp_m 127 (by decide +kernel) rfl)⟩⟩
theorem fp_X7_27 {ks : Nat} {y : MethodName} (hy : y.cls = RX7) (hn : y.name = "<init>") (hk : 0 < ks) (a : Nat) : ev_fp ks y 27 7 4 (.ref a) := ⟨_, rfl, by decide, rfl, rfl, Or.inr ⟨rfl, hk, hn, hy.symm, by rw [hy]; exact (dp_m 129 (by decide +kernel) rfl)⟩⟩
theorem fp_X7_33 {ks : Nat} {y : MethodName} (hy : y.cls = RX7) (x : Int32) : ev_fp ks y 33 7 5 (.int x) := ⟨_, rfl, by decide, rfl, rfl, Or.inl ⟨rfl, by rw [hy]; exact Or.inl (dp_m 130 (by decide +kernel) rfl)⟩⟩
theorem fp_X7_37 {ks : Nat} {y : MethodName} (hy : y.cls = RX7) (x : Int32) : ev_fp ks y 37 7 6 (.int x) := ⟨_, rfl, by decide, rfl, rfl, Or.inl ⟨rfl, by rw [hy]; exact Or.inl (dp_m 131 (by decide +kernel) rfl)⟩⟩
theorem fp_X7_70 {ks : Nat} {y : MethodName} (hy : y.cls = RX7) (x : Int32) (hx : x = 0 ∨ x = 1) : ev_fp ks y 70 7 7 (.int x) := ⟨_, rfl, by decide, by rcases hx with rfl | rfl <;> rfl, by rcases hx with rfl | rfl <;> rfl, Or.inl ⟨rfl, by rw [hy]; exact Or.inl (dp_m 132 (by decide +kernel) rfl)⟩⟩
theorem fp_X7_97 {ks : Nat} {y : MethodName} (hy : y.cls = RX7) (x : Int32) : ev_fp ks y 97 7 8 (.int x) := ⟨_, rfl, by decide, rfl, rfl, Or.inl ⟨rfl, by rw [hy]; exact Or.inl (dp_m 133 (by decide +kernel) rfl)⟩⟩
theorem fp_X0_11 {ks : Nat} {y : MethodName} (hy : y.cls = RX0) (hn : y.name = "<init>") (hk : 0 < ks) (a : Nat) : ev_fp ks y 11 0 0 (.ref a) := ⟨_, rfl, by decide, rfl, rfl, Or.inr ⟨rfl, hk, hn, hy.symm, by rw [hy]; exact (dp_m 162 (by decide +kernel) rfl)⟩⟩
theorem fp_X0_17 {ks : Nat} {y : MethodName} (hy : y.cls = RX0) (hn : y.name = "<init>") (hk : 0 < ks) (a : Nat) : ev_fp ks y 17 0 1 (.ref a) := ⟨_, rfl, by decide, rfl, rfl, Or.inr ⟨rfl, hk, hn, hy.symm, by rw [hy]; exact (dp_m 163 (by decide +kernel) rfl)⟩⟩
theorem fp_X0_27 {ks : Nat} {y : MethodName} (hy : y.cls = RX0) (x : Int32) : ev_fp ks y 27 0 2 (.int x) := ⟨_, rfl, by decide, rfl, rfl, Or.inl ⟨rfl, by rw [hy]; exact Or.inl (dp_m 164 (by decide +kernel) rfl)⟩⟩
theorem fp_X0_37 {ks : Nat} {y : MethodName} (hy : y.cls = RX0) (x : Int32) (hx : x = 0 ∨ x = 1) : ev_fp ks y 37 0 3 (.int x) := ⟨_, rfl, by decide, by rcases hx with rfl | rfl <;> rfl, by rcases hx with rfl | rfl <;> rfl, Or.inl ⟨rfl, by rw [hy]; exact Or.inl (dp_m 165 (by decide +kernel) rfl)⟩⟩
theorem fp_X0_41 {ks : Nat} {y : MethodName} (hy : y.cls = RX0) (x : Int32) : ev_fp ks y 41 0 4 (.int x) := ⟨_, rfl, by decide, rfl, rfl, Or.inl ⟨rfl, by rw [hy]; exact Or.inl (dp_m 166 (by decide +kernel) rfl)⟩⟩
theorem fp_X0_44 {ks : Nat} {y : MethodName} (hy : y.cls = RX0) (x : Int32) : ev_fp ks y 44 0 5 (.int x) := ⟨_, rfl, by decide, rfl, rfl, Or.inl ⟨rfl, by rw [hy]; exact Or.inl (dp_m 167 (by decide +kernel) rfl)⟩⟩
theorem fp_X9_7 {ks : Nat} {y : MethodName} (hy : y.cls = RX9) (x : Int64) : ev_fp ks y 7 9 0 (.long x) := ⟨_, rfl, by decide, rfl, rfl, Or.inl ⟨rfl, by rw [hy]; exact Or.inl (dp_m 189 (by decide +kernel) rfl)⟩⟩
theorem fp_X3_11 {ks : Nat} {y : MethodName} (hy : y.cls = RX3) (hn : y.name = "<init>") (hk : 0 < ks) (a : Nat) : ev_fp ks y 11 3 0 (.ref a) := ⟨_, rfl, by decide, rfl, rfl, Or.inr ⟨rfl, hk, hn, hy.symm, by rw [hy]; exact (dp_m 228 (by decide +kernel) rfl)⟩⟩
theorem fp_X3_28 {ks : Nat} {y : MethodName} (hy : y.cls = RX3) (x : Int32) : ev_fp ks y 28 3 1 (.int x) := ⟨_, rfl, by decide, rfl, rfl, Or.inl ⟨rfl, by rw [hy]; exact Or.inl (dp_m 229 (by decide +kernel) rfl)⟩⟩
theorem fp_X3_31 {ks : Nat} {y : MethodName} (hy : y.cls = RX3) (x : Int32) : ev_fp ks y 31 3 2 (.int x) := ⟨_, rfl, by decide, rfl, rfl, Or.inl ⟨rfl, by rw [hy]; exact Or.inl (dp_m 230 (by decide +kernel) rfl)⟩⟩
theorem fp_X3_34 {ks : Nat} {y : MethodName} (hy : y.cls = RX3) (x : Int32) : ev_fp ks y 34 3 3 (.int x) := ⟨_, rfl, by decide, rfl, rfl, Or.inl ⟨rfl, by rw [hy]; exact Or.inl (dp_m 231 (by decide +kernel) rfl)⟩⟩
theorem fp_X7_46 {ks : Nat} {y : MethodName} (hy : y.cls = RX7) (x : Int32) : ev_fp ks y 46 3 3 (.int x) := ⟨_, rfl, by decide, rfl, rfl, Or.inl ⟨rfl, by rw [hy]; exact Or.inl (dp_m 232 (by decide +kernel) rfl)⟩⟩
theorem fp_X3_17 {ks : Nat} {y : MethodName} (hy : y.cls = RX3) (x : Int32) : ev_fp ks y 17 3 4 (.int x) := ⟨_, rfl, by decide, rfl, rfl, Or.inl ⟨rfl, by rw [hy]; exact Or.inl (dp_m 233 (by decide +kernel) rfl)⟩⟩
theorem fp_X11_295 {ks : Nat} {y : MethodName} (hy : y.cls = RX11) (x : Int32) : ev_fp ks y 295 3 4 (.int x) := ⟨_, rfl, by decide, rfl, rfl, Or.inl ⟨rfl, by rw [hy]; exact Or.inl (dp_m 234 (by decide +kernel) rfl)⟩⟩
theorem fp_X3_21 {ks : Nat} {y : MethodName} (hy : y.cls = RX3) (x : Int32) : ev_fp ks y 21 3 5 (.int x) := ⟨_, rfl, by decide, rfl, rfl, Or.inl ⟨rfl, by rw [hy]; exact Or.inl (dp_m 235 (by decide +kernel) rfl)⟩⟩
theorem fp_X11_298 {ks : Nat} {y : MethodName} (hy : y.cls = RX11) (x : Int32) : ev_fp ks y 298 3 5 (.int x) := ⟨_, rfl, by decide, rfl, rfl, Or.inl ⟨rfl, by rw [hy]; exact Or.inl (dp_m 236 (by decide +kernel) rfl)⟩⟩
theorem fp_X3_24 {ks : Nat} {y : MethodName} (hy : y.cls = RX3) (x : Int32) : ev_fp ks y 24 3 6 (.int x) := ⟨_, rfl, by decide, rfl, rfl, Or.inl ⟨rfl, by rw [hy]; exact Or.inl (dp_m 237 (by decide +kernel) rfl)⟩⟩
theorem fp_X11_12 {ks : Nat} {y : MethodName} (hy : y.cls = RX11) (hn : y.name = "<init>") (hk : 0 < ks) (a : Nat) : ev_fp ks y 12 11 0 (.ref a) := ⟨_, rfl, by decide, rfl, rfl, Or.inr ⟨rfl, hk, hn, hy.symm, by rw [hy]; exact (dp_m 253 (by decide +kernel) rfl)⟩⟩
theorem fp_X11_19 {ks : Nat} {y : MethodName} (hy : y.cls = RX11) (hn : y.name = "<init>") (hk : 0 < ks) (a : Nat) : ev_fp ks y 19 11 1 (.ref a) := ⟨_, rfl, by decide, rfl, rfl, Or.inr ⟨rfl, hk, hn, hy.symm, by rw [hy]; exact (dp_m 254 (by decide +kernel) rfl)⟩⟩
theorem fp_X11_25 {ks : Nat} {y : MethodName} (hy : y.cls = RX11) (hn : y.name = "<init>") (hk : 0 < ks) (a : Nat) : ev_fp ks y 25 11 2 (.ref a) := ⟨_, rfl, by decide, rfl, rfl, Or.inr ⟨rfl, hk, hn, hy.symm, by rw [hy]; exact (dp_m 255 (by decide +kernel) rfl)⟩⟩
theorem fp_X11_32 {ks : Nat} {y : MethodName} (hy : y.cls = RX11) (hn : y.name = "<init>") (hk : 0 < ks) (a : Nat) : ev_fp ks y 32 11 3 (.ref a) := ⟨_, rfl, by decide, rfl, rfl, Or.inr ⟨rfl, hk, hn, hy.symm, by rw [hy]; exact (dp_m 256 (by decide +kernel) rfl)⟩⟩
theorem fp_X11_39 {ks : Nat} {y : MethodName} (hy : y.cls = RX11) (hn : y.name = "<init>") (hk : 0 < ks) (a : Nat) : ev_fp ks y 39 11 4 (.ref a) := ⟨_, rfl, by decide, rfl, rfl, Or.inr ⟨rfl, hk, hn, hy.symm, by rw [hy]; exact (dp_m 257 (by decide +kernel) rfl)⟩⟩
theorem fp_X11_46 {ks : Nat} {y : MethodName} (hy : y.cls = RX11) (hn : y.name = "<init>") (hk : 0 < ks) (a : Nat) : ev_fp ks y 46 11 5 (.ref a) := ⟨_, rfl, by decide, rfl, rfl, Or.inr ⟨rfl, hk, hn, hy.symm, by rw [hy]; exact (dp_m 258 (by decide +kernel) rfl)⟩⟩
theorem fp_X11_53 {ks : Nat} {y : MethodName} (hy : y.cls = RX11) (hn : y.name = "<init>") (hk : 0 < ks) (a : Nat) : ev_fp ks y 53 11 6 (.ref a) := ⟨_, rfl, by decide, rfl, rfl, Or.inr ⟨rfl, hk, hn, hy.symm, by rw [hy]; exact (dp_m 259 (by decide +kernel) rfl)⟩⟩
theorem fp_X11_60 {ks : Nat} {y : MethodName} (hy : y.cls = RX11) (hn : y.name = "<init>") (hk : 0 < ks) (a : Nat) : ev_fp ks y 60 11 7 (.ref a) := ⟨_, rfl, by decide, rfl, rfl, Or.inr ⟨rfl, hk, hn, hy.symm, by rw [hy]; exact (dp_m 260 (by decide +kernel) rfl)⟩⟩
theorem fp_X11_67 {ks : Nat} {y : MethodName} (hy : y.cls = RX11) (hn : y.name = "<init>") (hk : 0 < ks) (a : Nat) : ev_fp ks y 67 11 8 (.ref a) := ⟨_, rfl, by decide, rfl, rfl, Or.inr ⟨rfl, hk, hn, hy.symm, by rw [hy]; exact (dp_m 261 (by decide +kernel) rfl)⟩⟩
theorem fp_X11_73 {ks : Nat} {y : MethodName} (hy : y.cls = RX11) (hn : y.name = "<init>") (hk : 0 < ks) (a : Nat) : ev_fp ks y 73 11 9 (.ref a) := ⟨_, rfl, by decide, rfl, rfl, Or.inr ⟨rfl, hk, hn, hy.symm, by rw [hy]; exact (dp_m 262 (by decide +kernel) rfl)⟩⟩
theorem fp_X11_79 {ks : Nat} {y : MethodName} (hy : y.cls = RX11) (hn : y.name = "<init>") (hk : 0 < ks) (a : Nat) : ev_fp ks y 79 11 10 (.ref a) := ⟨_, rfl, by decide, rfl, rfl, Or.inr ⟨rfl, hk, hn, hy.symm, by rw [hy]; exact (dp_m 263 (by decide +kernel) rfl)⟩⟩
theorem fp_X11_108 {ks : Nat} {y : MethodName} (hy : y.cls = RX11) (x : Int32) : ev_fp ks y 108 11 11 (.int x) := ⟨_, rfl, by decide, rfl, rfl, Or.inl ⟨rfl, by rw [hy]; exact Or.inl (dp_m 264 (by decide +kernel) rfl)⟩⟩
theorem fp_X11_118 {ks : Nat} {y : MethodName} (hy : y.cls = RX11) (x : Int32) : ev_fp ks y 118 11 12 (.int x) := ⟨_, rfl, by decide, rfl, rfl, Or.inl ⟨rfl, by rw [hy]; exact Or.inl (dp_m 265 (by decide +kernel) rfl)⟩⟩
theorem fp_X11_211 {ks : Nat} {y : MethodName} (hy : y.cls = RX11) (x : Int32) : ev_fp ks y 211 11 13 (.int x) := ⟨_, rfl, by decide, rfl, rfl, Or.inl ⟨rfl, by rw [hy]; exact Or.inl (dp_m 266 (by decide +kernel) rfl)⟩⟩
theorem fp_X11_82 {ks : Nat} {y : MethodName} (hy : y.cls = RX11) (x : Int32) : ev_fp ks y 82 11 14 (.int x) := ⟨_, rfl, by decide, rfl, rfl, Or.inl ⟨rfl, by rw [hy]; exact Or.inl (dp_m 267 (by decide +kernel) rfl)⟩⟩
theorem fp_X11_86 {ks : Nat} {y : MethodName} (hy : y.cls = RX11) (x : Int32) : ev_fp ks y 86 11 15 (.int x) := ⟨_, rfl, by decide, rfl, rfl, Or.inl ⟨rfl, by rw [hy]; exact Or.inl (dp_m 268 (by decide +kernel) rfl)⟩⟩
theorem fp_X12_57 {ks : Nat} {y : MethodName} (hy : y.cls = RX12) (x : Int32) : ev_fp ks y 57 12 0 (.int x) := ⟨_, rfl, by decide, rfl, rfl, Or.inl ⟨rfl, by rw [hy]; exact Or.inl (dp_m 834 (by decide +kernel) rfl)⟩⟩
theorem fp_X12_183 {ks : Nat} {y : MethodName} (hy : y.cls = RX12) (x : Int64) : ev_fp ks y 183 12 1 (.long x) := ⟨_, rfl, by decide, rfl, rfl, Or.inl ⟨rfl, by rw [hy]; exact Or.inl (dp_m 835 (by decide +kernel) rfl)⟩⟩
theorem fp_X12_7 {ks : Nat} {y : MethodName} (hy : y.cls = RX12) (hn : y.name = "<init>") (hk : 0 < ks) (a : Nat) : ev_fp ks y 7 12 2 (.ref a) := ⟨_, rfl, by decide, rfl, rfl, Or.inr ⟨rfl, hk, hn, hy.symm, by rw [hy]; exact (dp_m 836 (by decide +kernel) rfl)⟩⟩
theorem fp_X12_64 {ks : Nat} {y : MethodName} (hy : y.cls = RX12) (x : Int32) : ev_fp ks y 64 12 3 (.int x) := ⟨_, rfl, by decide, rfl, rfl, Or.inl ⟨rfl, by rw [hy]; exact Or.inl (dp_m 837 (by decide +kernel) rfl)⟩⟩
theorem fp_X12_82 {ks : Nat} {y : MethodName} (hy : y.cls = RX12) (x : Int32) : ev_fp ks y 82 12 4 (.int x) := ⟨_, rfl, by decide, rfl, rfl, Or.inl ⟨rfl, by rw [hy]; exact Or.inl (dp_m 838 (by decide +kernel) rfl)⟩⟩
theorem fp_X12_76 {ks : Nat} {y : MethodName} (hy : y.cls = RX12) (x : Int32) : ev_fp ks y 76 12 5 (.int x) := ⟨_, rfl, by decide, rfl, rfl, Or.inl ⟨rfl, by rw [hy]; exact Or.inl (dp_m 839 (by decide +kernel) rfl)⟩⟩
theorem fp_X12_69 {ks : Nat} {y : MethodName} (hy : y.cls = RX12) (x : Int32) : ev_fp ks y 69 12 6 (.int x) := ⟨_, rfl, by decide, rfl, rfl, Or.inl ⟨rfl, by rw [hy]; exact Or.inl (dp_m 840 (by decide +kernel) rfl)⟩⟩
theorem fp_X12_79 {ks : Nat} {y : MethodName} (hy : y.cls = RX12) (x : Int32) : ev_fp ks y 79 12 7 (.int x) := ⟨_, rfl, by decide, rfl, rfl, Or.inl ⟨rfl, by rw [hy]; exact Or.inl (dp_m 841 (by decide +kernel) rfl)⟩⟩
theorem fp_X12_89 {ks : Nat} {y : MethodName} (hy : y.cls = RX12) (x : Int32) : ev_fp ks y 89 12 8 (.int x) := ⟨_, rfl, by decide, rfl, rfl, Or.inl ⟨rfl, by rw [hy]; exact Or.inl (dp_m 842 (by decide +kernel) rfl)⟩⟩
theorem fp_X12_112 {ks : Nat} {y : MethodName} (hy : y.cls = RX12) (x : Int32) : ev_fp ks y 112 12 9 (.int x) := ⟨_, rfl, by decide, rfl, rfl, Or.inl ⟨rfl, by rw [hy]; exact Or.inl (dp_m 843 (by decide +kernel) rfl)⟩⟩
theorem fp_X12_115 {ks : Nat} {y : MethodName} (hy : y.cls = RX12) (x : Int32) : ev_fp ks y 115 12 10 (.int x) := ⟨_, rfl, by decide, rfl, rfl, Or.inl ⟨rfl, by rw [hy]; exact Or.inl (dp_m 844 (by decide +kernel) rfl)⟩⟩
theorem fp_X12_118 {ks : Nat} {y : MethodName} (hy : y.cls = RX12) (x : Int32) : ev_fp ks y 118 12 11 (.int x) := ⟨_, rfl, by decide, rfl, rfl, Or.inl ⟨rfl, by rw [hy]; exact Or.inl (dp_m 845 (by decide +kernel) rfl)⟩⟩
theorem fp_X12_13 {ks : Nat} {y : MethodName} (hy : y.cls = RX12) (x : Int32) : ev_fp ks y 13 12 12 (.int x) := ⟨_, rfl, by decide, rfl, rfl, Or.inl ⟨rfl, by rw [hy]; exact Or.inl (dp_m 846 (by decide +kernel) rfl)⟩⟩
theorem fp_X12_17 {ks : Nat} {y : MethodName} (hy : y.cls = RX12) (hn : y.name = "<init>") (hk : 0 < ks) (a : Nat) : ev_fp ks y 17 12 13 (.ref a) := ⟨_, rfl, by decide, rfl, rfl, Or.inr ⟨rfl, hk, hn, hy.symm, by rw [hy]; exact (dp_m 847 (by decide +kernel) rfl)⟩⟩
theorem fp_X12_20 {ks : Nat} {y : MethodName} (hy : y.cls = RX12) (hn : y.name = "<init>") (hk : 0 < ks) (a : Nat) : ev_fp ks y 20 12 14 (.ref a) := ⟨_, rfl, by decide, rfl, rfl, Or.inr ⟨rfl, hk, hn, hy.symm, by rw [hy]; exact (dp_m 848 (by decide +kernel) rfl)⟩⟩
theorem fp_X12_23 {ks : Nat} {y : MethodName} (hy : y.cls = RX12) (hn : y.name = "<init>") (hk : 0 < ks) (a : Nat) : ev_fp ks y 23 12 15 (.ref a) := ⟨_, rfl, by decide, rfl, rfl, Or.inr ⟨rfl, hk, hn, hy.symm, by rw [hy]; exact (dp_m 849 (by decide +kernel) rfl)⟩⟩
theorem fp_X12_26 {ks : Nat} {y : MethodName} (hy : y.cls = RX12) (hn : y.name = "<init>") (hk : 0 < ks) (a : Nat) : ev_fp ks y 26 12 16 (.ref a) := ⟨_, rfl, by decide, rfl, rfl, Or.inr ⟨rfl, hk, hn, hy.symm, by rw [hy]; exact (dp_m 850 (by decide +kernel) rfl)⟩⟩
theorem fp_X12_30 {ks : Nat} {y : MethodName} (hy : y.cls = RX12) (hn : y.name = "<init>") (hk : 0 < ks) (a : Nat) : ev_fp ks y 30 12 17 (.ref a) := ⟨_, rfl, by decide, rfl, rfl, Or.inr ⟨rfl, hk, hn, hy.symm, by rw [hy]; exact (dp_m 851 (by decide +kernel) rfl)⟩⟩
theorem fp_X12_33 {ks : Nat} {y : MethodName} (hy : y.cls = RX12) (hn : y.name = "<init>") (hk : 0 < ks) (a : Nat) : ev_fp ks y 33 12 18 (.ref a) := ⟨_, rfl, by decide, rfl, rfl, Or.inr ⟨rfl, hk, hn, hy.symm, by rw [hy]; exact (dp_m 852 (by decide +kernel) rfl)⟩⟩
theorem fp_X12_36 {ks : Nat} {y : MethodName} (hy : y.cls = RX12) (hn : y.name = "<init>") (hk : 0 < ks) (a : Nat) : ev_fp ks y 36 12 19 (.ref a) := ⟨_, rfl, by decide, rfl, rfl, Or.inr ⟨rfl, hk, hn, hy.symm, by rw [hy]; exact (dp_m 853 (by decide +kernel) rfl)⟩⟩
theorem fp_X12_39 {ks : Nat} {y : MethodName} (hy : y.cls = RX12) (hn : y.name = "<init>") (hk : 0 < ks) (a : Nat) : ev_fp ks y 39 12 20 (.ref a) := ⟨_, rfl, by decide, rfl, rfl, Or.inr ⟨rfl, hk, hn, hy.symm, by rw [hy]; exact (dp_m 854 (by decide +kernel) rfl)⟩⟩
theorem fp_X12_42 {ks : Nat} {y : MethodName} (hy : y.cls = RX12) (hn : y.name = "<init>") (hk : 0 < ks) (a : Nat) : ev_fp ks y 42 12 21 (.ref a) := ⟨_, rfl, by decide, rfl, rfl, Or.inr ⟨rfl, hk, hn, hy.symm, by rw [hy]; exact (dp_m 855 (by decide +kernel) rfl)⟩⟩
theorem fp_X12_45 {ks : Nat} {y : MethodName} (hy : y.cls = RX12) (hn : y.name = "<init>") (hk : 0 < ks) (a : Nat) : ev_fp ks y 45 12 22 (.ref a) := ⟨_, rfl, by decide, rfl, rfl, Or.inr ⟨rfl, hk, hn, hy.symm, by rw [hy]; exact (dp_m 856 (by decide +kernel) rfl)⟩⟩
theorem fp_X12_48 {ks : Nat} {y : MethodName} (hy : y.cls = RX12) (hn : y.name = "<init>") (hk : 0 < ks) (a : Nat) : ev_fp ks y 48 12 23 (.ref a) := ⟨_, rfl, by decide, rfl, rfl, Or.inr ⟨rfl, hk, hn, hy.symm, by rw [hy]; exact (dp_m 857 (by decide +kernel) rfl)⟩⟩
theorem fp_X12_51 {ks : Nat} {y : MethodName} (hy : y.cls = RX12) (hn : y.name = "<init>") (hk : 0 < ks) (a : Nat) : ev_fp ks y 51 12 24 (.ref a) := ⟨_, rfl, by decide, rfl, rfl, Or.inr ⟨rfl, hk, hn, hy.symm, by rw [hy]; exact (dp_m 858 (by decide +kernel) rfl)⟩⟩
end
section
def kOK (ty : FieldType) (v : Value) : Prop := match ty with
  | .int => ∃ x, v = .int x
  | .boolean => ∃ x, v = .int x
  | .long => ∃ x, v = .long x
  | _ => True
theorem kOK_fits {ty : FieldType} {v : Value} (h : fits ty v = true) : kOK ty v := by
  cases ty <;> cases v <;> simp_all [fits, kOK]
def wte (x : va_E) : Prop := match x with
  | .inr (c, fs) => ∀ q, dp_cl[c]? = some q → fs.length = q.2.2 ∧ ∀ (k : Nat) (v : Value), fs[k]? = some v → kOK (dp_ty c k) v
  | .inl _ => True
def WTH (h : ev_H) : Prop := ∀ k, wte (h k)
def sse (x y : va_E) : Prop := match x with
  | .inl (t, n, .inl _) => ∃ g, y = .inl (t, n, .inl g)
  | .inl (t, n, .inr (.inl _)) => ∃ g, y = .inl (t, n, .inr (.inl g))
  | .inl z => y = .inl z
  | .inr (c, fs) => ∃ gs : List Value, y = .inr (c, gs) ∧ ∀ q, dp_cl[c]? = some q → ∀ k : Nat, (q.2.1 k).2.2.2 = true → gs[k]? = fs[k]?
theorem sse_rf (x : va_E) : sse x x := by
  obtain ⟨t, n, f | f | f | f | f⟩ | ⟨c, fs⟩ := x
  · exact ⟨f, rfl⟩
  · exact ⟨f, rfl⟩
  · rfl
  · rfl
  · rfl
  · exact ⟨fs, rfl, fun _ _ _ _ => rfl⟩
theorem sse_tr {x y z : va_E} (h1 : sse x y) (h2 : sse y z) : sse x z := by
  obtain ⟨t, n, f | f | f | f | f⟩ | ⟨c, fs⟩ := x
  · obtain ⟨g, rfl⟩ := h1
    exact h2
  · obtain ⟨g, rfl⟩ := h1
    exact h2
  · cases h1
    exact h2
  · cases h1
    exact h2
  · cases h1
    exact h2
  · obtain ⟨gs, rfl, hg⟩ := h1
    obtain ⟨ks, rfl, hk⟩ := h2
    exact ⟨ks, rfl, fun q hq k hf => (hk q hq k hf).trans (hg q hq k hf)⟩
def rfe (R : Nat → Prop) (x : va_E) : Prop := match x with
  | .inl (_, _, .inr (.inr (.inr (.inr f)))) => ∀ j a, f j = some a → R a
  | .inl _ => True
  | .inr (_, fs) => ∀ (k : Nat) (a : Nat), fs[k]? = some (.ref a) → R a
def clo (R : Nat → Prop) (h : ev_H) : Prop := ∀ k, R k → rfe R (h k)
def vr (R : Nat → Prop) (v : Value) : Prop := ∀ a, v = .ref a → R a
def okl (R : Nat → Prop) (ls : ev_L) : Prop := ∀ (j : Nat) (v : Value), ls[j]? = some (some v) → vr R v
def oks (R : Nat → Prop) (st : List Value) : Prop := ∀ v ∈ st, vr R v
theorem oks_c {R : Nat → Prop} {v : Value} {st : List Value} : oks R (v :: st) ↔ vr R v ∧ oks R st := List.forall_mem_cons
theorem vr_i {R : Nat → Prop} (x : Int32) : vr R (.int x) := fun _ h => by cases h
theorem vr_l {R : Nat → Prop} (x : Int64) : vr R (.long x) := fun _ h => by cases h
theorem vr_n {R : Nat → Prop} : vr R .null := fun _ h => by cases h
theorem okl_s1 {R : Nat → Prop} {ls : ev_L} {i : Nat} {v : Value} (h : okl R ls) (hv : vr R v) : okl R (ev_s1 ls i v) := by
  intro j w hw
  unfold ev_s1 at hw
  by_cases hj : i = j
  · subst hj
    have hl : i < (ev_kl ls i).length := by
      have := (List.getElem?_eq_some_iff.mp hw).1
      rwa [List.length_set] at this
    rw [List.getElem?_set_self hl] at hw
    cases hw
    exact hv
  · rw [List.getElem?_set_ne hj] at hw
    exact h j w (ev_kl_get hw).1
theorem okl_s2 {R : Nat → Prop} {ls : ev_L} {i : Nat} {v : Value} (h : okl R ls) (hv : vr R v) : okl R (ev_s2 ls i v) := by
  intro j w hw
  unfold ev_s2 at hw
  by_cases hj : i = j
  · subst hj
    have hl : i < ((ev_kl ls i).set (i + 1) none).length := by
      have := (List.getElem?_eq_some_iff.mp hw).1
      rwa [List.length_set] at this
    rw [List.getElem?_set_self hl] at hw
    cases hw
    exact hv
  · rw [List.getElem?_set_ne hj] at hw
    by_cases hk : i + 1 = j
    · subst hk
      have hl : i + 1 < (ev_kl ls i).length := by
        have := (List.getElem?_eq_some_iff.mp hw).1
        rwa [List.length_set] at this
      rw [List.getElem?_set_self hl] at hw
      cases hw
    · rw [List.getElem?_set_ne hk] at hw
      exact h j w (ev_kl_get hw).1
set_option maxHeartbeats 4000000 in
theorem ev_pu_vr {R : Nat → Prop} {i : Instr} {pc pc' : Nat} {ls ls' : ev_L} {st st' : List Value} (h : ev_pu i pc ls st = some (pc', ls', st')) (hl : okl R ls) (hs : oks R st) : okl R ls' ∧ oks R st' := by
  unfold ev_pu at h
  split at h
  · cases h; exact ⟨hl, oks_c.mpr ⟨vr_i _, hs⟩⟩
  · cases h; exact ⟨hl, oks_c.mpr ⟨vr_i _, hs⟩⟩
  · cases h; exact ⟨hl, oks_c.mpr ⟨vr_i _, hs⟩⟩
  · cases h; exact ⟨hl, oks_c.mpr ⟨vr_l _, hs⟩⟩
  · cases h; exact ⟨hl, oks_c.mpr ⟨vr_n, hs⟩⟩
  all_goals first
    | (obtain ⟨v, hv, h9⟩ := Option.map_eq_some_iff.mp h; clear h; unfold ev_ldi at hv; split at hv <;> cases hv; cases h9; exact ⟨hl, oks_c.mpr ⟨vr_i _, hs⟩⟩)
    | (obtain ⟨v, hv, h9⟩ := Option.map_eq_some_iff.mp h; clear h; unfold ev_ldl at hv; split at hv <;> cases hv; cases h9; exact ⟨hl, oks_c.mpr ⟨vr_l _, hs⟩⟩)
    | (obtain ⟨v, hv, h9⟩ := Option.map_eq_some_iff.mp h; clear h; unfold ev_lda at hv; split at hv <;> cases hv <;> cases h9 <;> exact ⟨hl, oks_c.mpr ⟨hl _ _ (by assumption), hs⟩⟩)
    | (obtain ⟨v, hv, h9⟩ := Option.map_eq_some_iff.mp h; clear h; unfold ev_sti at hv; split at hv <;> first | (cases hv; done) | skip; split at hv <;> cases hv; cases h9; exact ⟨okl_s1 hl (vr_i _), (oks_c.mp hs).2⟩)
    | (obtain ⟨v, hv, h9⟩ := Option.map_eq_some_iff.mp h; clear h; unfold ev_stl at hv; split at hv <;> first | (cases hv; done) | skip; split at hv <;> cases hv; cases h9; exact ⟨okl_s2 hl (vr_l _), (oks_c.mp hs).2⟩)
    | (obtain ⟨v, hv, h9⟩ := Option.map_eq_some_iff.mp h; clear h; unfold ev_sta at hv; split at hv <;> first | (cases hv; done) | skip; all_goals (split at hv <;> cases hv); all_goals (cases h9); all_goals exact ⟨okl_s1 hl (oks_c.mp hs).1, (oks_c.mp hs).2⟩)
    | (obtain ⟨v, hv, h9⟩ := Option.map_eq_some_iff.mp h; clear h; unfold ev_inc at hv; split at hv <;> first | (cases hv; done) | skip; split at hv <;> cases hv; cases h9; exact ⟨okl_s1 hl (vr_i _), hs⟩)
    | (obtain ⟨v, hv, h9⟩ := Option.map_eq_some_iff.mp h; clear h; unfold ev_2i at hv; split at hv <;> cases hv; cases h9; exact ⟨hl, oks_c.mpr ⟨vr_i _, (oks_c.mp (oks_c.mp hs).2).2⟩⟩)
    | (obtain ⟨v, hv, h9⟩ := Option.map_eq_some_iff.mp h; clear h; unfold ev_2l at hv; split at hv <;> cases hv; cases h9; exact ⟨hl, oks_c.mpr ⟨by first | exact vr_l _ | exact vr_i _, (oks_c.mp (oks_c.mp hs).2).2⟩⟩)
    | (obtain ⟨v, hv, h9⟩ := Option.map_eq_some_iff.mp h; clear h; unfold ev_li at hv; split at hv <;> cases hv; cases h9; exact ⟨hl, oks_c.mpr ⟨vr_l _, (oks_c.mp (oks_c.mp hs).2).2⟩⟩)
    | (obtain ⟨v, hv, h9⟩ := Option.map_eq_some_iff.mp h; clear h; unfold ev_1i at hv; split at hv <;> cases hv; cases h9; exact ⟨hl, oks_c.mpr ⟨by first | exact vr_l _ | exact vr_i _, (oks_c.mp hs).2⟩⟩)
    | (obtain ⟨v, hv, h9⟩ := Option.map_eq_some_iff.mp h; clear h; unfold ev_1l at hv; split at hv <;> cases hv; cases h9; exact ⟨hl, oks_c.mpr ⟨by first | exact vr_l _ | exact vr_i _, (oks_c.mp hs).2⟩⟩)
    | (obtain ⟨v, hv, h9⟩ := Option.map_eq_some_iff.mp h; clear h; unfold ev_div at hv; split at hv <;> first | (cases hv; done) | skip; split at hv <;> cases hv; cases h9; exact ⟨hl, oks_c.mpr ⟨vr_i _, (oks_c.mp (oks_c.mp hs).2).2⟩⟩)
    | (obtain ⟨v, hv, h9⟩ := Option.map_eq_some_iff.mp h; clear h; unfold ev_dup at hv; split at hv <;> first | (cases hv; done) | skip; split at hv <;> cases hv; cases h9; exact ⟨hl, oks_c.mpr ⟨(oks_c.mp hs).1, hs⟩⟩)
    | (obtain ⟨v, hv, h9⟩ := Option.map_eq_some_iff.mp h; clear h; unfold ev_pop at hv; split at hv <;> first | (cases hv; done) | skip; split at hv <;> cases hv; cases h9; exact ⟨hl, (oks_c.mp hs).2⟩)
    | (obtain ⟨v, hv, h9⟩ := Option.map_eq_some_iff.mp h; clear h; unfold ev_pop2 at hv; split at hv <;> first | (cases hv; done) | skip; split at hv <;> cases hv; cases h9; exact ⟨hl, (oks_c.mp hs).2⟩)
    | (obtain ⟨v, hv, h9⟩ := Option.map_eq_some_iff.mp h; clear h; unfold ev_dup2 at hv; split at hv <;> first | (cases hv; done) | skip; split at hv; (cases hv; cases h9; exact ⟨hl, oks_c.mpr ⟨(oks_c.mp hs).1, hs⟩⟩); split at hv <;> first | (cases hv; done) | skip; split at hv <;> cases hv; cases h9; exact ⟨hl, oks_c.mpr ⟨(oks_c.mp hs).1, oks_c.mpr ⟨(oks_c.mp (oks_c.mp hs).2).1, hs⟩⟩⟩)
    | (obtain ⟨v, hv, h9⟩ := Option.map_eq_some_iff.mp h; clear h; cases h9; exact ⟨hl, hs⟩)
    | (cases h; done)
theorem ev_br_vr {R : Nat → Prop} {i : Instr} {st r : List Value} {cd ce : Prop} {off : Int} (h : ev_br i st = some (cd, ce, r, off)) (hs : oks R st) : oks R r := by
  unfold ev_br at h
  split at h
  · split at h <;> first | (cases h; done) | skip
    split at h <;> cases h <;> exact (oks_c.mp hs).2
  · split at h <;> first | (cases h; done) | skip
    split at h <;> cases h <;> exact (oks_c.mp (oks_c.mp hs).2).2
  · split at h <;> cases h <;> exact (oks_c.mp hs).2
  · split at h <;> cases h <;> exact (oks_c.mp hs).2
  · cases h
/-- what a method that makes nothing keeps: kinds, final fields, cells out of R -/
def fr (R : Nat → Prop) (sz : Nat) (h : ev_H) (Q : ev_Q) : ev_Q := fun sz' h' r => Q sz' h' r ∧ sz' = sz ∧ WTH h' ∧ clo R h' ∧ (∀ k, sse (h k) (h' k)) ∧ (∀ k, ¬ R k → h' k = h k) ∧ oks R r
theorem fr_tr {R : Nat → Prop} {sz : Nat} {h h2 : ev_H} {Q : ev_Q} (h1 : ∀ k, sse (h k) (h2 k)) (hk : ∀ k, ¬ R k → h2 k = h k) : ∀ a b c, fr R sz h2 Q a b c → fr R sz h Q a b c := fun _ _ _ q => ⟨q.1, q.2.1, q.2.2.1, q.2.2.2.1, fun k => sse_tr (h1 k) (q.2.2.2.2.1 k), fun k hn => (q.2.2.2.2.2.1 k hn).trans (hk k hn), q.2.2.2.2.2.2⟩
theorem up_sse {h : ev_H} {a : Nat} {x : va_E} (hx : sse (h a) x) : ∀ k, sse (h k) (va_up h a x k) := fun k => by
  by_cases hk : k = a
  · subst hk; rw [va_up_self]; exact hx
  · rw [va_up_ne _ _ hk]; exact sse_rf _
theorem up_fr {R : Nat → Prop} {h : ev_H} {a : Nat} {x : va_E} (ha : R a) : ∀ k, ¬ R k → va_up h a x k = h k := fun k hk => va_up_ne _ _ (fun q => hk (q ▸ ha))
theorem up_wt {h : ev_H} {a : Nat} {x : va_E} (hw : WTH h) (hx : wte x) : WTH (va_up h a x) := fun k => by
  by_cases hk : k = a
  · subst hk; rw [va_up_self]; exact hx
  · rw [va_up_ne _ _ hk]; exact hw k
theorem up_clo {R : Nat → Prop} {h : ev_H} {a : Nat} {x : va_E} (hc : clo R h) (hx : rfe R x) : clo R (va_up h a x) := fun k hR => by
  by_cases hk : k = a
  · subst hk; rw [va_up_self]; exact hx
  · rw [va_up_ne _ _ hk]; exact hc k hR
theorem oks_app {R : Nat → Prop} {a b : List Value} : oks R (a ++ b) ↔ oks R a ∧ oks R b := List.forall_mem_append
theorem okl_en {R : Nat → Prop} {As : List Value} {n : Nat} (h : oks R As) : okl R (ev_en As n) := by
  have key : ∀ (As : List Value), oks R As → ∀ (j : Nat) (v : Value), (ev_sl As)[j]? = some (some v) → vr R v := by
    intro As
    induction As with
    | nil => intro _ j v hv; simp [ev_sl] at hv
    | cons w ws ih =>
      intro ho j v hv
      unfold ev_sl at hv
      by_cases hc : w.category = 2
      · rw [if_pos hc] at hv
        match j, hv with
        | 0, hv => cases hv; exact (oks_c.mp ho).1
        | 1, hv => cases hv
        | j + 2, hv => exact ih (oks_c.mp ho).2 j v hv
      · rw [if_neg hc] at hv
        match j, hv with
        | 0, hv => cases hv; exact (oks_c.mp ho).1
        | j + 1, hv => exact ih (oks_c.mp ho).2 j v hv
  intro j v hv
  unfold ev_en at hv
  by_cases hj : j < (ev_sl As).length
  · rw [List.getElem?_append_left hj] at hv
    exact key As h j v hv
  · rw [List.getElem?_append_right (by omega), List.getElem?_replicate] at hv
    split at hv <;> cases hv
theorem oks_rev {R : Nat → Prop} {a : List Value} (h : oks R a.reverse) : oks R a := fun v hv => h v (List.mem_reverse.mpr hv)
theorem ev_ca_vr {R : Nat → Prop} {M M' : ev_M} {i : Instr} {sz : Nat} {h : ev_H} {st As rest : List Value} (hc : ev_ca M i sz h st M' As rest) (hs : oks R st) : oks R As ∧ oks R rest := by
  rcases hc.2 with ⟨idx, -, rfl, -⟩ | ⟨idx, a, B, q, ci, fs, -, rfl, rfl, -⟩ | ⟨idx, a, B, -, rfl, rfl, -⟩ | ⟨idx, a, B, q, ci, fs, -, rfl, rfl, -⟩
  · exact ⟨oks_rev (oks_app.mp hs).1, (oks_app.mp hs).2⟩
  · have h2 := oks_c.mp (oks_app.mp hs).2
    exact ⟨oks_c.mpr ⟨h2.1, oks_rev (oks_app.mp hs).1⟩, h2.2⟩
  · have h2 := oks_c.mp (oks_app.mp hs).2
    exact ⟨oks_c.mpr ⟨h2.1, oks_rev (oks_app.mp hs).1⟩, h2.2⟩
  · have h2 := oks_c.mp (oks_app.mp hs).2
    exact ⟨oks_c.mpr ⟨h2.1, oks_rev (oks_app.mp hs).1⟩, h2.2⟩
theorem EV.frame {xs : Nat → Int32} {L d : Nat} {M : ev_M} {sz : Nat} {h : ev_H} {pc : Nat} {ls : ev_L} {st : List Value} {Q : ev_Q} (R : Nat → Prop) (hR1 : R 1) (hE : EV xs L d 0 0 M sz h pc ls st Q) (hw : WTH h) (hc : clo R h) (hl : okl R ls) (hs : oks R st) : EV xs L d 0 0 M sz h pc ls st (fr R sz h Q) := by
  refine hE (fun d kc ks M sz h pc ls st Q => kc = 0 → ks = 0 → WTH h → clo R h → okl R ls → oks R st → EV xs L d 0 0 M sz h pc ls st (fr R sz h Q)) ?_ rfl rfl hw hc hl hs
  clear hE hw hc hl hs
  intro d kc ks M sz h pc ls st Q hst hkc hks hw hc hl hs
  subst hkc hks
  obtain ⟨i, len, hd, hcs⟩ := hst
  rcases hcs with ⟨h0, pc', ls', st', h1, h2⟩ | ⟨h0, cd, ce, r, off, tgt, h1, h2, h3, h4⟩ | ⟨dflt, lo, hi, offs, x, r, off, tgt, h1, h2, h3, h4, h5⟩ | h1 | ⟨h0, M', As, rest, d', kc', ks', kc2, ks2, Qm, h1, h2, h3, h4, h5, h6⟩ | ⟨h0, h1, h2⟩
  · obtain ⟨g1, g2⟩ := ev_pu_vr h1 hl hs
    exact EV.in ⟨i, len, hd, Or.inl ⟨h0, pc', ls', st', h1, h2 rfl rfl hw hc g1 g2⟩⟩
  · have g := ev_br_vr h1 hs
    exact EV.in ⟨i, len, hd, Or.inr (Or.inl ⟨h0, cd, ce, r, off, tgt, h1, h2, fun q => h3 q rfl rfl hw hc hl g, fun q => h4 q rfl rfl hw hc hl g⟩)⟩
  · subst h2
    exact EV.in ⟨i, len, hd, Or.inr (Or.inr (Or.inl ⟨dflt, lo, hi, offs, x, r, off, tgt, h1, rfl, h3, h4, h5 rfl rfl hw hc hl (oks_c.mp hs).2⟩))⟩
  · refine EV.in ⟨i, len, hd, Or.inr (Or.inr (Or.inr (Or.inl ?_)))⟩
    unfold ev_hp at h1 ⊢
    split at h1
    · obtain ⟨a, r, ci, fs, k, v, rfl, g1, g2, g3, g4, g5, g6, kk⟩ := h1
      have hra := (oks_c.mp hs).1 a rfl
      have hv : vr R v := fun b hb => by
        have h9 := hc a hra
        rw [g3] at h9
        exact h9 k b (by rw [g5, hb])
      exact ⟨a, r, ci, fs, k, v, rfl, g1, g2, g3, g4, g5, g6, kk rfl rfl hw hc hl (oks_c.mpr ⟨hv, (oks_c.mp hs).2⟩)⟩
    · obtain ⟨a, r, ci, fs, k, v, rfl, g1, g2, g3, g4, g5, g6, kk⟩ := h1
      have hs2 := oks_c.mp (oks_c.mp hs).2
      have hra := hs2.1 a rfl
      have hrf := hc a hra
      have hwa := hw a
      rw [g3] at hrf hwa
      obtain ⟨q, e1, e2, e3, e4, e5⟩ := id g4
      have hnf : (q.2.1 k).2.2.2 = false := by
        rcases e5 with e5 | e5
        · exact e5.1
        · exact absurd e5.2.1 (Nat.lt_irrefl 0)
      have hwt : wte (.inr (ci, fs.set k v)) := by
        intro q' hq'
        obtain ⟨w1, w2⟩ := hwa q' hq'
        refine ⟨by rw [List.length_set]; exact w1, fun j w hjw => ?_⟩
        by_cases hjk : k = j
        · subst hjk
          rw [List.getElem?_set_self g5] at hjw
          cases hjw
          exact kOK_fits e4
        · rw [List.getElem?_set_ne hjk] at hjw
          exact w2 j w hjw
      have hrx : rfe R (.inr (ci, fs.set k v)) := by
        intro j b hjb
        by_cases hjk : k = j
        · subst hjk
          rw [List.getElem?_set_self g5] at hjb
          exact (oks_c.mp hs).1 b (Option.some.inj hjb)
        · rw [List.getElem?_set_ne hjk] at hjb
          exact hrf j b hjb
      have hsx : sse (h a) (.inr (ci, fs.set k v)) := by
        rw [g3]
        refine ⟨_, rfl, fun q' hq' j hj => ?_⟩
        have : q' = q := Option.some.inj (hq'.symm.trans e1)
        subst this
        by_cases hjk : k = j
        · subst hjk
          rw [hnf] at hj
          cases hj
        · rw [List.getElem?_set_ne hjk]
      exact ⟨a, r, ci, fs, k, v, rfl, g1, g2, g3, g4, g5, g6, EV.post (fr_tr (up_sse hsx) (up_fr hra)) (kk rfl rfl (up_wt hw hwt) (up_clo hc hrx) hl hs2.2)⟩
    · obtain ⟨a, r, j, rfl, ⟨n, f, g1, g2, g3, g4, g5, kk⟩ | ⟨g1, g4, g5, kk⟩⟩ := h1
      · exact ⟨a, r, j, rfl, Or.inl ⟨n, f, g1, g2, g3, g4, g5, kk rfl rfl hw hc hl (oks_c.mpr ⟨vr_i _, (oks_c.mp (oks_c.mp hs).2).2⟩)⟩⟩
      · exact ⟨a, r, j, rfl, Or.inr ⟨g1, g4, g5, kk rfl rfl hw hc hl (oks_c.mpr ⟨vr_i _, (oks_c.mp (oks_c.mp hs).2).2⟩)⟩⟩
    · obtain ⟨a, r, j, rfl, ⟨n, f, g1, g2, g3, g4, g5, kk⟩ | ⟨g1, g4, g5, kk⟩⟩ := h1
      · exact ⟨a, r, j, rfl, Or.inl ⟨n, f, g1, g2, g3, g4, g5, kk rfl rfl hw hc hl (oks_c.mpr ⟨vr_l _, (oks_c.mp (oks_c.mp hs).2).2⟩)⟩⟩
      · exact ⟨a, r, j, rfl, Or.inr ⟨g1, g4, g5, kk rfl rfl hw hc hl (oks_c.mpr ⟨vr_l _, (oks_c.mp (oks_c.mp hs).2).2⟩)⟩⟩
    · obtain ⟨a, r, j, n, f, rfl, g1, g2, g3, g4, g5, kk⟩ := h1
      exact ⟨a, r, j, n, f, rfl, g1, g2, g3, g4, g5, kk rfl rfl hw hc hl (oks_c.mpr ⟨vr_i _, (oks_c.mp (oks_c.mp hs).2).2⟩)⟩
    · obtain ⟨a, r, j, t, n, f, rfl, g1, g2, g3, g4, g5, g6, kk⟩ := h1
      have hra := (oks_c.mp (oks_c.mp hs).2).1 a rfl
      have hv : vr R (va_rf (f j.toNatClampNeg)) := fun b hb => by
        have h9 := hc a hra
        rw [g3] at h9
        cases hf : f j.toNatClampNeg with
        | none => rw [hf] at hb; cases hb
        | some y =>
          rw [hf] at hb
          cases hb
          exact h9 _ _ hf
      exact ⟨a, r, j, t, n, f, rfl, g1, g2, g3, g4, g5, g6, kk rfl rfl hw hc hl (oks_c.mpr ⟨hv, (oks_c.mp (oks_c.mp hs).2).2⟩)⟩
    · obtain ⟨a, r, j, x, n, f, rfl, g1, g2, g3, g4, g5, kk⟩ := h1
      have hs2 := oks_c.mp (oks_c.mp (oks_c.mp hs).2).2
      have hra := hs2.1 a rfl
      exact ⟨a, r, j, x, n, f, rfl, g1, g2, g3, g4, g5, EV.post (fr_tr (up_sse (by rw [g3]; exact ⟨_, rfl⟩)) (up_fr hra)) (kk rfl rfl (up_wt hw trivial) (up_clo hc trivial) hl hs2.2)⟩
    · obtain ⟨a, r, j, x, n, f, rfl, g1, g2, g3, g4, g5, kk⟩ := h1
      have hs2 := oks_c.mp (oks_c.mp (oks_c.mp hs).2).2
      have hra := hs2.1 a rfl
      exact ⟨a, r, j, x, n, f, rfl, g1, g2, g3, g4, g5, EV.post (fr_tr (up_sse (by rw [g3]; exact ⟨_, rfl⟩)) (up_fr hra)) (kk rfl rfl (up_wt hw trivial) (up_clo hc trivial) hl hs2.2)⟩
    · obtain ⟨a, r, j, x, n, f, rfl, g1, g2, g3, g4, g5, kk⟩ := h1
      have hs2 := oks_c.mp (oks_c.mp (oks_c.mp hs).2).2
      have hra := hs2.1 a rfl
      exact ⟨a, r, j, x, n, f, rfl, g1, g2, g3, g4, g5, EV.post (fr_tr (up_sse (by rw [g3]; exact ⟨_, rfl⟩)) (up_fr hra)) (kk rfl rfl (up_wt hw trivial) (up_clo hc trivial) hl hs2.2)⟩
    · obtain ⟨a, r, j, v, t, n, f, ci, fs, q, rfl, g1, g2, g3, g4, g5, g6, g7, g8, g9, kk⟩ := h1
      exact absurd g9 (Nat.lt_irrefl 0)
    · obtain ⟨a, r, rfl, ⟨t, x, g1, g2, g3, g4, g5, kk⟩ | ⟨g1, g5, kk⟩ | ⟨g1, g5, kk⟩⟩ := h1
      · exact ⟨a, r, rfl, Or.inl ⟨t, x, g1, g2, g3, g4, g5, kk rfl rfl hw hc hl (oks_c.mpr ⟨vr_i _, (oks_c.mp hs).2⟩)⟩⟩
      · exact ⟨a, r, rfl, Or.inr (Or.inl ⟨g1, g5, kk rfl rfl hw hc hl (oks_c.mpr ⟨vr_i _, (oks_c.mp hs).2⟩)⟩)⟩
      · exact ⟨a, r, rfl, Or.inr (Or.inr ⟨g1, g5, kk rfl rfl hw hc hl (oks_c.mpr ⟨vr_i _, (oks_c.mp hs).2⟩)⟩)⟩
    · obtain ⟨r, n, N, t, x, kc', ks', rfl, g1, g2, g3, g4, g5, g6, -⟩ := h1
      omega
    · obtain ⟨r, n, N, t, C, kc', ks', rfl, g1, g2, g3, g4, g5, g6, g7, -⟩ := h1
      omega
    · obtain ⟨ci, q, fs, kc', ks', g1, g2, g3, g4, g5, g6, -⟩ := h1
      omega
    · exact ⟨h1.1, h1.2.1, h1.2.2 rfl rfl hw hc hl (oks_c.mpr ⟨fun a ha => by cases ha; exact hR1, hs⟩)⟩
    · obtain ⟨v, g1, g2, kk⟩ := h1
      exact ⟨v, g1, g2, kk rfl rfl hw hc hl (oks_c.mpr ⟨vr_i _, hs⟩)⟩
    · obtain ⟨v, g1, g2, kk⟩ := h1
      exact ⟨v, g1, g2, kk rfl rfl hw hc hl (oks_c.mpr ⟨vr_i _, hs⟩)⟩
    · obtain ⟨v, g1, g2, kk⟩ := h1
      exact ⟨v, g1, g2, kk rfl rfl hw hc hl (oks_c.mpr ⟨vr_l _, hs⟩)⟩
    · obtain ⟨a, r, rfl, g0, g1, g2, g3, g4, g5, kk⟩ := h1
      exact ⟨a, r, rfl, g0, g1, g2, g3, g4, g5, kk rfl rfl hw hc hl (oks_c.mp hs).2⟩
    · obtain ⟨x, y, r, rfl, g0, g1, g2, g3, g4, g5, g6, kk⟩ := h1
      exact ⟨x, y, r, rfl, g0, g1, g2, g3, g4, g5, g6, kk rfl rfl hw hc hl (oks_c.mpr ⟨vr_i _, (oks_c.mp (oks_c.mp hs).2).2⟩)⟩
    · exact h1.elim
  · obtain ⟨hA, hr⟩ := ev_ca_vr h4 hs
    have e1 : kc' = 0 := by omega
    have e2 : ks' = 0 := by omega
    have e3 : kc2 = 0 := by omega
    have e4 : ks2 = 0 := by omega
    subst e1 e2 e3 e4
    refine EV.in ⟨i, len, hd, Or.inr (Or.inr (Or.inr (Or.inr (Or.inl ⟨h0, M', As, rest, d', 0, 0, 0, 0, fr R sz h Qm, h1, rfl, rfl, h4, h5 rfl rfl hw hc (okl_en hA) (fun _ h => by cases h), ?_⟩))))⟩
    intro sz' h' r ⟨q1, q2, q3, q4, q5, q6, q7⟩
    subst q2
    exact EV.post (fr_tr q5 q6) (h6 _ _ _ q1 rfl rfl q3 q4 hl (oks_app.mpr ⟨q7, hr⟩))
  · exact EV.in ⟨i, len, hd, Or.inr (Or.inr (Or.inr (Or.inr (Or.inr ⟨h0, h1, h2, rfl, hw, hc, fun k => sse_rf _, fun _ _ => rfl, hs⟩))))⟩
end
section
/-- the cells as the makers leave them: kinds, lengths, what each refers to -/
def cs0 (k : Nat) : va_E := match k with
  | 2 => .inr (11, [.ref 3, .ref 5, .ref 12, .ref 13, .ref 24, .ref 93, .ref 95, .ref 96, .ref 97, .ref 98, .ref 99, .int 0, .int 0, .int 0, .int 0, .int 0])
  | 3 => .inr (8, [.ref 4, .int 0, .int 0, .int 0, .int 0, .int 0])
  | 4 => .inl (2, 300, .inl (fun _ => 0))
  | 5 => .inr (4, [.ref 6, .ref 7, .ref 8, .int 0, .int 0, .int 0, .ref 9, .ref 10, .ref 11, .int 0])
  | 6 => .inl (0, 16, .inl (fun _ => 0))
  | 7 => .inl (0, 16, .inl (fun _ => 0))
  | 8 => .inl (0, 16, .inl (fun _ => 0))
  | 9 => .inl (0, 24, .inl (fun _ => 0))
  | 10 => .inl (0, 24, .inl (fun _ => 0))
  | 11 => .inl (0, 24, .inl (fun _ => 0))
  | 12 => .inl (4, 40, .inr (.inr (.inr (.inr (fun j => if j < 40 then some (100 + 8 * j) else none)))))
  | 13 => .inr (7, [.ref 14, .ref 16, .ref 18, .ref 20, .ref 22, .int 0, .int 0, .int 0, .int 0])
  | 24 => .inr (0, [.ref 25, .ref 26, .int 0, .int 0, .int 0, .int 0])
  | 25 => .inl (3, 16, .inr (.inr (.inr (.inr (fun j => if j < 16 then some (27 + 2 * j) else none)))))
  | 26 => .inl (3, 17, .inr (.inr (.inr (.inr (fun j => if j < 17 then some (59 + 2 * j) else none)))))
  | 95 => .inr (9, [.long 0])
  | 96 => .inr (6, [])
  | 97 => .inr (2, [])
  | 98 => .inr (5, [])
  | 99 => .inr (1, [])
  | 420 => .inr (12, [.int 0, .long 0, .ref 421, .int 0, .int 0, .int 0, .int 0, .int 0, .int 0, .int 0, .int 0, .int 0, .int 0, .ref 422, .ref 423, .ref 424, .ref 425, .ref 426, .ref 427, .ref 428, .ref 429, .ref 430, .ref 431, .ref 432, .ref 433])
  | 421 => .inl (0, 300, .inl (fun _ => 0))
  | 422 => .inl (0, 240, .inl (fun _ => 0))
  | 423 => .inl (0, 48, .inl (fun _ => 0))
  | 424 => .inl (0, 72, .inl (fun _ => 0))
  | 425 => .inl (1, 160, .inr (.inl (fun _ => 0)))
  | 426 => .inl (1, 480, .inr (.inl (fun _ => 0)))
  | 427 => .inl (1, 4, .inr (.inl (fun _ => 0)))
  | 428 => .inl (1, 4, .inr (.inl (fun _ => 0)))
  | 429 => .inl (1, 4, .inr (.inl (fun _ => 0)))
  | 430 => .inl (1, 4, .inr (.inl (fun _ => 0)))
  | 431 => .inl (1, 4, .inr (.inl (fun _ => 0)))
  | 432 => .inl (1, 4, .inr (.inl (fun _ => 0)))
  | 433 => .inl (1, 4, .inr (.inl (fun _ => 0)))
  | k => if k < 24 then (if k % 2 = 0 then .inr (10, [.ref (k + 1)]) else .inl (1, 4, .inr (.inl (fun _ => 0)))) else if k < 95 then (if k % 2 = 1 then .inr (10, [.ref (k + 1)]) else .inl (1, 4, .inr (.inl (fun _ => 0)))) else
    if (k - 100) % 8 = 0 then .inr (3, [.ref (k + 1), .int 0, .int 0, .int 0, .int 0, .int 0, .int 0]) else if (k - 100) % 8 = 1 then .inl (3, 3, .inr (.inr (.inr (.inr (fun j => if j < 3 then some (k + 1 + 2 * j) else none))))) else
    if k % 2 = 0 then .inr (10, [.ref (k + 1)]) else .inl (1, 4, .inr (.inl (fun _ => 0)))
def SH (h : ev_H) : Prop := WTH h ∧ ∀ k, 2 ≤ k → k < 434 → sse (cs0 k) (h k)
theorem ob_X0 {y : va_E} {a0 a1 : Nat} {u2 u3 u4 u5 : Value} (hs : sse (.inr (0, [.ref a0, .ref a1, u2, u3, u4, u5])) y) (hw : wte y) : ∃ (x2 : Int32) (x3 : Int32) (x4 : Int32) (x5 : Int32), y = .inr (0, [.ref a0, .ref a1, .int x2, .int x3, .int x4, .int x5]) := by
  obtain ⟨gs, rfl, hf⟩ := hs
  obtain ⟨hl, hk⟩ := hw _ rfl
  match gs, hl with
  | [g0, g1, g2, g3, g4, g5], _ =>
    obtain rfl : g0 = .ref a0 := Option.some.inj (hf _ rfl 0 rfl)
    obtain rfl : g1 = .ref a1 := Option.some.inj (hf _ rfl 1 rfl)
    obtain ⟨x2, rfl⟩ := hk 2 _ rfl
    obtain ⟨x3, rfl⟩ := hk 3 _ rfl
    obtain ⟨x4, rfl⟩ := hk 4 _ rfl
    obtain ⟨x5, rfl⟩ := hk 5 _ rfl
    exact ⟨x2, x3, x4, x5, rfl⟩
theorem ob_X3 {y : va_E} {a0 : Nat} {u1 u2 u3 u4 u5 u6 : Value} (hs : sse (.inr (3, [.ref a0, u1, u2, u3, u4, u5, u6])) y) (hw : wte y) : ∃ (x1 : Int32) (x2 : Int32) (x3 : Int32) (x4 : Int32) (x5 : Int32) (x6 : Int32), y = .inr (3, [.ref a0, .int x1, .int x2, .int x3, .int x4, .int x5, .int x6]) := by
  obtain ⟨gs, rfl, hf⟩ := hs
  obtain ⟨hl, hk⟩ := hw _ rfl
  match gs, hl with
  | [g0, g1, g2, g3, g4, g5, g6], _ =>
    obtain rfl : g0 = .ref a0 := Option.some.inj (hf _ rfl 0 rfl)
    obtain ⟨x1, rfl⟩ := hk 1 _ rfl
    obtain ⟨x2, rfl⟩ := hk 2 _ rfl
    obtain ⟨x3, rfl⟩ := hk 3 _ rfl
    obtain ⟨x4, rfl⟩ := hk 4 _ rfl
    obtain ⟨x5, rfl⟩ := hk 5 _ rfl
    obtain ⟨x6, rfl⟩ := hk 6 _ rfl
    exact ⟨x1, x2, x3, x4, x5, x6, rfl⟩
theorem ob_X4 {y : va_E} {a0 a1 a2 a6 a7 a8 : Nat} {u3 u4 u5 u9 : Value} (hs : sse (.inr (4, [.ref a0, .ref a1, .ref a2, u3, u4, u5, .ref a6, .ref a7, .ref a8, u9])) y) (hw : wte y) : ∃ (x3 : Int32) (x4 : Int32) (x5 : Int32) (x9 : Int32), y = .inr (4, [.ref a0, .ref a1, .ref a2, .int x3, .int x4, .int x5, .ref a6, .ref a7, .ref a8, .int x9]) := by
  obtain ⟨gs, rfl, hf⟩ := hs
  obtain ⟨hl, hk⟩ := hw _ rfl
  match gs, hl with
  | [g0, g1, g2, g3, g4, g5, g6, g7, g8, g9], _ =>
    obtain rfl : g0 = .ref a0 := Option.some.inj (hf _ rfl 0 rfl)
    obtain rfl : g1 = .ref a1 := Option.some.inj (hf _ rfl 1 rfl)
    obtain rfl : g2 = .ref a2 := Option.some.inj (hf _ rfl 2 rfl)
    obtain ⟨x3, rfl⟩ := hk 3 _ rfl
    obtain ⟨x4, rfl⟩ := hk 4 _ rfl
    obtain ⟨x5, rfl⟩ := hk 5 _ rfl
    obtain rfl : g6 = .ref a6 := Option.some.inj (hf _ rfl 6 rfl)
    obtain rfl : g7 = .ref a7 := Option.some.inj (hf _ rfl 7 rfl)
    obtain rfl : g8 = .ref a8 := Option.some.inj (hf _ rfl 8 rfl)
    obtain ⟨x9, rfl⟩ := hk 9 _ rfl
    exact ⟨x3, x4, x5, x9, rfl⟩
theorem ob_X7 {y : va_E} {a0 a1 a2 a3 a4 : Nat} {u5 u6 u7 u8 : Value} (hs : sse (.inr (7, [.ref a0, .ref a1, .ref a2, .ref a3, .ref a4, u5, u6, u7, u8])) y) (hw : wte y) : ∃ (x5 : Int32) (x6 : Int32) (x7 : Int32) (x8 : Int32), y = .inr (7, [.ref a0, .ref a1, .ref a2, .ref a3, .ref a4, .int x5, .int x6, .int x7, .int x8]) := by
  obtain ⟨gs, rfl, hf⟩ := hs
  obtain ⟨hl, hk⟩ := hw _ rfl
  match gs, hl with
  | [g0, g1, g2, g3, g4, g5, g6, g7, g8], _ =>
    obtain rfl : g0 = .ref a0 := Option.some.inj (hf _ rfl 0 rfl)
    obtain rfl : g1 = .ref a1 := Option.some.inj (hf _ rfl 1 rfl)
    obtain rfl : g2 = .ref a2 := Option.some.inj (hf _ rfl 2 rfl)
    obtain rfl : g3 = .ref a3 := Option.some.inj (hf _ rfl 3 rfl)
    obtain rfl : g4 = .ref a4 := Option.some.inj (hf _ rfl 4 rfl)
    obtain ⟨x5, rfl⟩ := hk 5 _ rfl
    obtain ⟨x6, rfl⟩ := hk 6 _ rfl
    obtain ⟨x7, rfl⟩ := hk 7 _ rfl
    obtain ⟨x8, rfl⟩ := hk 8 _ rfl
    exact ⟨x5, x6, x7, x8, rfl⟩
theorem ob_X8 {y : va_E} {a0 : Nat} {u1 u2 u3 u4 u5 : Value} (hs : sse (.inr (8, [.ref a0, u1, u2, u3, u4, u5])) y) (hw : wte y) : ∃ (x1 : Int32) (x2 : Int32) (x3 : Int32) (x4 : Int32) (x5 : Int32), y = .inr (8, [.ref a0, .int x1, .int x2, .int x3, .int x4, .int x5]) := by
  obtain ⟨gs, rfl, hf⟩ := hs
  obtain ⟨hl, hk⟩ := hw _ rfl
  match gs, hl with
  | [g0, g1, g2, g3, g4, g5], _ =>
    obtain rfl : g0 = .ref a0 := Option.some.inj (hf _ rfl 0 rfl)
    obtain ⟨x1, rfl⟩ := hk 1 _ rfl
    obtain ⟨x2, rfl⟩ := hk 2 _ rfl
    obtain ⟨x3, rfl⟩ := hk 3 _ rfl
    obtain ⟨x4, rfl⟩ := hk 4 _ rfl
    obtain ⟨x5, rfl⟩ := hk 5 _ rfl
    exact ⟨x1, x2, x3, x4, x5, rfl⟩
theorem ob_X9 {y : va_E} {u0 : Value} (hs : sse (.inr (9, [u0])) y) (hw : wte y) : ∃ (x0 : Int64), y = .inr (9, [.long x0]) := by
  obtain ⟨gs, rfl, hf⟩ := hs
  obtain ⟨hl, hk⟩ := hw _ rfl
  match gs, hl with
  | [g0], _ =>
    obtain ⟨x0, rfl⟩ := hk 0 _ rfl
    exact ⟨x0, rfl⟩
theorem ob_X10 {y : va_E} {a0 : Nat} (hs : sse (.inr (10, [.ref a0])) y) (hw : wte y) : y = .inr (10, [.ref a0]) := by
  obtain ⟨gs, rfl, hf⟩ := hs
  obtain ⟨hl, hk⟩ := hw _ rfl
  match gs, hl with
  | [g0], _ =>
    obtain rfl : g0 = .ref a0 := Option.some.inj (hf _ rfl 0 rfl)
    exact rfl
theorem ob_X11 {y : va_E} {a0 a1 a2 a3 a4 a5 a6 a7 a8 a9 a10 : Nat} {u11 u12 u13 u14 u15 : Value} (hs : sse (.inr (11, [.ref a0, .ref a1, .ref a2, .ref a3, .ref a4, .ref a5, .ref a6, .ref a7, .ref a8, .ref a9, .ref a10, u11, u12, u13, u14, u15])) y) (hw : wte y) : ∃ (x11 : Int32) (x12 : Int32) (x13 : Int32) (x14 : Int32) (x15 : Int32), y = .inr (11, [.ref a0, .ref a1, .ref a2, .ref a3, .ref a4, .ref a5, .ref a6, .ref a7, .ref a8, .ref a9, .ref a10, .int x11, .int x12, .int x13, .int x14, .int x15]) := by
  obtain ⟨gs, rfl, hf⟩ := hs
  obtain ⟨hl, hk⟩ := hw _ rfl
  match gs, hl with
  | [g0, g1, g2, g3, g4, g5, g6, g7, g8, g9, g10, g11, g12, g13, g14, g15], _ =>
    obtain rfl : g0 = .ref a0 := Option.some.inj (hf _ rfl 0 rfl)
    obtain rfl : g1 = .ref a1 := Option.some.inj (hf _ rfl 1 rfl)
    obtain rfl : g2 = .ref a2 := Option.some.inj (hf _ rfl 2 rfl)
    obtain rfl : g3 = .ref a3 := Option.some.inj (hf _ rfl 3 rfl)
    obtain rfl : g4 = .ref a4 := Option.some.inj (hf _ rfl 4 rfl)
    obtain rfl : g5 = .ref a5 := Option.some.inj (hf _ rfl 5 rfl)
    obtain rfl : g6 = .ref a6 := Option.some.inj (hf _ rfl 6 rfl)
    obtain rfl : g7 = .ref a7 := Option.some.inj (hf _ rfl 7 rfl)
    obtain rfl : g8 = .ref a8 := Option.some.inj (hf _ rfl 8 rfl)
    obtain rfl : g9 = .ref a9 := Option.some.inj (hf _ rfl 9 rfl)
    obtain rfl : g10 = .ref a10 := Option.some.inj (hf _ rfl 10 rfl)
    obtain ⟨x11, rfl⟩ := hk 11 _ rfl
    obtain ⟨x12, rfl⟩ := hk 12 _ rfl
    obtain ⟨x13, rfl⟩ := hk 13 _ rfl
    obtain ⟨x14, rfl⟩ := hk 14 _ rfl
    obtain ⟨x15, rfl⟩ := hk 15 _ rfl
    exact ⟨x11, x12, x13, x14, x15, rfl⟩
theorem ob_X12 {y : va_E} {a2 a13 a14 a15 a16 a17 a18 a19 a20 a21 a22 a23 a24 : Nat} {u0 u1 u3 u4 u5 u6 u7 u8 u9 u10 u11 u12 : Value} (hs : sse (.inr (12, [u0, u1, .ref a2, u3, u4, u5, u6, u7, u8, u9, u10, u11, u12, .ref a13, .ref a14, .ref a15, .ref a16, .ref a17, .ref a18, .ref a19, .ref a20, .ref a21, .ref a22, .ref a23, .ref a24])) y) (hw : wte y) : ∃ (x0 : Int32) (x1 : Int64) (x3 : Int32) (x4 : Int32) (x5 : Int32) (x6 : Int32) (x7 : Int32) (x8 : Int32) (x9 : Int32) (x10 : Int32) (x11 : Int32) (x12 : Int32), y = .inr (12, [.int x0, .long x1, .ref a2, .int x3, .int x4, .int x5, .int x6, .int x7, .int x8, .int x9, .int x10, .int x11, .int x12, .ref a13, .ref a14, .ref a15, .ref a16, .ref a17, .ref a18, .ref a19, .ref a20, .ref a21, .ref a22, .ref a23, .ref a24]) := by
  obtain ⟨gs, rfl, hf⟩ := hs
  obtain ⟨hl, hk⟩ := hw _ rfl
  match gs, hl with
  | [g0, g1, g2, g3, g4, g5, g6, g7, g8, g9, g10, g11, g12, g13, g14, g15, g16, g17, g18, g19, g20, g21, g22, g23, g24], _ =>
    obtain ⟨x0, rfl⟩ := hk 0 _ rfl
    obtain ⟨x1, rfl⟩ := hk 1 _ rfl
    obtain rfl : g2 = .ref a2 := Option.some.inj (hf _ rfl 2 rfl)
    obtain ⟨x3, rfl⟩ := hk 3 _ rfl
    obtain ⟨x4, rfl⟩ := hk 4 _ rfl
    obtain ⟨x5, rfl⟩ := hk 5 _ rfl
    obtain ⟨x6, rfl⟩ := hk 6 _ rfl
    obtain ⟨x7, rfl⟩ := hk 7 _ rfl
    obtain ⟨x8, rfl⟩ := hk 8 _ rfl
    obtain ⟨x9, rfl⟩ := hk 9 _ rfl
    obtain ⟨x10, rfl⟩ := hk 10 _ rfl
    obtain ⟨x11, rfl⟩ := hk 11 _ rfl
    obtain ⟨x12, rfl⟩ := hk 12 _ rfl
    obtain rfl : g13 = .ref a13 := Option.some.inj (hf _ rfl 13 rfl)
    obtain rfl : g14 = .ref a14 := Option.some.inj (hf _ rfl 14 rfl)
    obtain rfl : g15 = .ref a15 := Option.some.inj (hf _ rfl 15 rfl)
    obtain rfl : g16 = .ref a16 := Option.some.inj (hf _ rfl 16 rfl)
    obtain rfl : g17 = .ref a17 := Option.some.inj (hf _ rfl 17 rfl)
    obtain rfl : g18 = .ref a18 := Option.some.inj (hf _ rfl 18 rfl)
    obtain rfl : g19 = .ref a19 := Option.some.inj (hf _ rfl 19 rfl)
    obtain rfl : g20 = .ref a20 := Option.some.inj (hf _ rfl 20 rfl)
    obtain rfl : g21 = .ref a21 := Option.some.inj (hf _ rfl 21 rfl)
    obtain rfl : g22 = .ref a22 := Option.some.inj (hf _ rfl 22 rfl)
    obtain rfl : g23 = .ref a23 := Option.some.inj (hf _ rfl 23 rfl)
    obtain rfl : g24 = .ref a24 := Option.some.inj (hf _ rfl 24 rfl)
    exact ⟨x0, x1, x3, x4, x5, x6, x7, x8, x9, x10, x11, x12, rfl⟩
theorem SH.o2 {h : ev_H} (hS : SH h) : ∃ x11 x12 x13 x14 x15 : Int32, h 2 = .inr (11, [.ref 3, .ref 5, .ref 12, .ref 13, .ref 24, .ref 93, .ref 95, .ref 96, .ref 97, .ref 98, .ref 99, .int x11, .int x12, .int x13, .int x14, .int x15]) := ob_X11 (hS.2 2 (by decide) (by decide)) (hS.1 2)
theorem SH.o3 {h : ev_H} (hS : SH h) : ∃ x1 x2 x3 x4 x5 : Int32, h 3 = .inr (8, [.ref 4, .int x1, .int x2, .int x3, .int x4, .int x5]) := ob_X8 (hS.2 3 (by decide) (by decide)) (hS.1 3)
theorem SH.o4 {h : ev_H} (hS : SH h) : ∃ g, h 4 = .inl (2, 300, .inl g) := hS.2 4 (by decide) (by decide)
theorem SH.o5 {h : ev_H} (hS : SH h) : ∃ x3 x4 x5 x9 : Int32, h 5 = .inr (4, [.ref 6, .ref 7, .ref 8, .int x3, .int x4, .int x5, .ref 9, .ref 10, .ref 11, .int x9]) := ob_X4 (hS.2 5 (by decide) (by decide)) (hS.1 5)
theorem SH.o12 {h : ev_H} (hS : SH h) : h 12 = .inl (4, 40, .inr (.inr (.inr (.inr (fun j => if j < 40 then some (100 + 8 * j) else none))))) := hS.2 12 (by decide) (by decide)
theorem SH.o13 {h : ev_H} (hS : SH h) : ∃ x5 x6 x7 x8 : Int32, h 13 = .inr (7, [.ref 14, .ref 16, .ref 18, .ref 20, .ref 22, .int x5, .int x6, .int x7, .int x8]) := ob_X7 (hS.2 13 (by decide) (by decide)) (hS.1 13)
theorem SH.o24 {h : ev_H} (hS : SH h) : ∃ x2 x3 x4 x5 : Int32, h 24 = .inr (0, [.ref 25, .ref 26, .int x2, .int x3, .int x4, .int x5]) := ob_X0 (hS.2 24 (by decide) (by decide)) (hS.1 24)
theorem cs0_line {i : Nat} (hi : i < 40) : cs0 (100 + 8 * i) = .inr (3, [.ref (101 + 8 * i), .int 0, .int 0, .int 0, .int 0, .int 0, .int 0]) := by
  have key : ∀ i : Fin 40, cs0 (100 + 8 * i.val) = .inr (3, [.ref (100 + 8 * i.val + 1), .int 0, .int 0, .int 0, .int 0, .int 0, .int 0]) := by
    intro i
    match i with
    | ⟨i, hi⟩ =>
      have h1 : (100 + 8 * i - 100) % 8 = 0 := by omega
      have h2 : ¬ (100 + 8 * i < 24) := by omega
      have h3 : ¬ (100 + 8 * i < 95) := by omega
      unfold cs0
      split <;> first | omega | (simp only [h1, h2, h3, if_true, if_false])
  have := key ⟨i, hi⟩
  rw [this, show 100 + 8 * i + 1 = 101 + 8 * i by omega]
theorem SH.ln {h : ev_H} (hS : SH h) {i : Nat} (hi : i < 40) : ∃ x1 x2 x3 x4 x5 x6 : Int32, h (100 + 8 * i) = .inr (3, [.ref (101 + 8 * i), .int x1, .int x2, .int x3, .int x4, .int x5, .int x6]) := by
  have h1 := hS.2 (100 + 8 * i) (by omega) (by omega)
  rw [cs0_line hi] at h1
  exact ob_X3 h1 (hS.1 _)
theorem cs0_say {i : Nat} (hi : i < 40) : cs0 (101 + 8 * i) = .inl (3, 3, .inr (.inr (.inr (.inr (fun j => if j < 3 then some (102 + 8 * i + 2 * j) else none))))) := by
  have h1 : (101 + 8 * i - 100) % 8 = 1 := by omega
  have h2 : ¬ (101 + 8 * i < 24) := by omega
  have h3 : ¬ (101 + 8 * i < 95) := by omega
  have h4 : ¬ (101 + 8 * i - 100) % 8 = 0 := by omega
  have h5 : ∀ j, 101 + 8 * i + 1 + 2 * j = 102 + 8 * i + 2 * j := fun j => by omega
  unfold cs0
  split <;> first | omega | (simp only [h1, h2, h3, h4, h5, if_true, if_false]; done) | (simp [h1, h2, h3, h5]; done)
def wsAt (a : Nat) : Prop := cs0 a = .inr (10, [.ref (a + 1)]) ∧ cs0 (a + 1) = .inl (1, 4, .inr (.inl (fun _ => 0))) ∧ 2 ≤ a ∧ a + 1 < 434
theorem wsAt_ln {i w : Nat} (hi : i < 40) (hw : w < 3) : wsAt (102 + 8 * i + 2 * w) := by
  have a2 : ¬ (102 + 8 * i + 2 * w < 24) := by omega
  have a3 : ¬ (102 + 8 * i + 2 * w < 95) := by omega
  have a4 : ¬ (102 + 8 * i + 2 * w - 100) % 8 = 0 := by omega
  have a5 : ¬ (102 + 8 * i + 2 * w - 100) % 8 = 1 := by omega
  have a6 : (102 + 8 * i + 2 * w) % 2 = 0 := by omega
  have b2 : ¬ (102 + 8 * i + 2 * w + 1 < 24) := by omega
  have b3 : ¬ (102 + 8 * i + 2 * w + 1 < 95) := by omega
  have b4 : ¬ (102 + 8 * i + 2 * w + 1 - 100) % 8 = 0 := by omega
  have b5 : ¬ (102 + 8 * i + 2 * w + 1 - 100) % 8 = 1 := by omega
  have b6 : ¬ (102 + 8 * i + 2 * w + 1) % 2 = 0 := by omega
  refine ⟨?_, ?_, by omega, by omega⟩
  · unfold cs0
    split <;> first | omega | (simp only [a2, a3, a4, a5, a6, if_true, if_false])
  · unfold cs0
    split <;> first | omega | (simp only [b2, b3, b4, b5, b6, if_true, if_false])
theorem wsAt_core {j : Nat} (hj : j < 33) : wsAt (27 + 2 * j) := by
  have a2 : ¬ (27 + 2 * j < 24) := by omega
  have a3 : 27 + 2 * j < 95 := by omega
  have a6 : (27 + 2 * j) % 2 = 1 := by omega
  have b2 : ¬ (27 + 2 * j + 1 < 24) := by omega
  have b3 : 27 + 2 * j + 1 < 95 := by omega
  have b6 : ¬ (27 + 2 * j + 1) % 2 = 1 := by omega
  refine ⟨?_, ?_, by omega, by omega⟩
  · unfold cs0
    split <;> first | omega | (simp only [a2, a3, a6, if_true, if_false])
  · unfold cs0
    split <;> first | omega | (simp only [b2, b3, b6, if_true, if_false])
theorem wsAt_14 : wsAt 14 := ⟨rfl, rfl, by decide, by decide⟩
theorem wsAt_16 : wsAt 16 := ⟨rfl, rfl, by decide, by decide⟩
theorem wsAt_18 : wsAt 18 := ⟨rfl, rfl, by decide, by decide⟩
theorem wsAt_20 : wsAt 20 := ⟨rfl, rfl, by decide, by decide⟩
theorem wsAt_22 : wsAt 22 := ⟨rfl, rfl, by decide, by decide⟩
theorem wsAt_93 : wsAt 93 := ⟨rfl, rfl, by decide, by decide⟩
theorem SH.ws {h : ev_H} (hS : SH h) {a : Nat} (ha : wsAt a) : ∃ g, isWS h 434 a (a + 1) g (g 0) (g 1) (g 2) (g 3) := by
  obtain ⟨h1, h2, h3, h4⟩ := ha
  have e1 := hS.2 a h3 (by omega)
  have e2 := hS.2 (a + 1) (by omega) h4
  rw [h1] at e1
  rw [h2] at e2
  obtain ⟨g, hg⟩ := e2
  exact ⟨g, ⟨h3, by omega⟩, ⟨by omega, h4⟩, ob_X10 e1 (hS.1 a), by rw [hg, ← ws4_of]⟩
theorem SH.say {h : ev_H} (hS : SH h) {i : Nat} (hi : i < 40) : h (101 + 8 * i) = .inl (3, 3, .inr (.inr (.inr (.inr (fun j => if j < 3 then some (102 + 8 * i + 2 * j) else none))))) := by
  have h1 := hS.2 (101 + 8 * i) (by omega) (by omega)
  rw [cs0_say hi] at h1
  exact h1
theorem SH.up {h : ev_H} {a : Nat} {x : va_E} (hS : SH h) (hs : sse (h a) x) (hw : wte x) : SH (va_up h a x) := ⟨up_wt hS.1 hw, fun k h1 h2 => sse_tr (hS.2 k h1 h2) (up_sse hs k)⟩
theorem put_ok {h : ev_H} {a ci k idx : Nat} {fs : List Value} {v : Value} {y : MethodName} (hw : WTH h) (g3 : h a = .inr (ci, fs)) (g4 : ev_fp 0 y idx ci k v) (g5 : k < fs.length) : sse (h a) (.inr (ci, fs.set k v)) ∧ wte (.inr (ci, fs.set k v)) := by
  have hwa := hw a
  rw [g3] at hwa
  obtain ⟨q, e1, e2, e3, e4, e5⟩ := id g4
  have hnf : (q.2.1 k).2.2.2 = false := by
    rcases e5 with e5 | e5
    · exact e5.1
    · exact absurd e5.2.1 (Nat.lt_irrefl 0)
  refine ⟨?_, ?_⟩
  · rw [g3]
    refine ⟨_, rfl, fun q' hq' j hj => ?_⟩
    have : q' = q := Option.some.inj (hq'.symm.trans e1)
    subst this
    by_cases hjk : k = j
    · subst hjk
      rw [hnf] at hj
      cases hj
    · rw [List.getElem?_set_ne hjk]
  · intro q' hq'
    obtain ⟨w1, w2⟩ := hwa q' hq'
    refine ⟨by rw [List.length_set]; exact w1, fun j w hjw => ?_⟩
    by_cases hjk : k = j
    · subst hjk
      rw [List.getElem?_set_self g5] at hjw
      cases hjw
      exact kOK_fits e4
    · rw [List.getElem?_set_ne hjk] at hjw
      exact w2 j w hjw
theorem EV.sh {xs : Nat → Int32} {L d : Nat} {M : ev_M} {sz : Nat} {h : ev_H} {pc : Nat} {ls : ev_L} {st : List Value} {Q : ev_Q} (hE : EV xs L d 0 0 M sz h pc ls st Q) (hS : SH h) : EV xs L d 0 0 M sz h pc ls st (fun sz' h' r => Q sz' h' r ∧ sz' = sz ∧ SH h' ∧ ∀ k, sse (h k) (h' k)) :=
  EV.post (fun _ _ _ q => ⟨q.1, q.2.1, ⟨q.2.2.1, fun k h1 h2 => sse_tr (hS.2 k h1 h2) (q.2.2.2.2.1 k)⟩, q.2.2.2.2.1⟩) (EV.frame (fun _ => True) trivial hE hS.1 (fun k _ => by
    unfold rfe
    split
    · exact fun _ _ _ => trivial
    · trivial
    · exact fun _ _ _ => trivial) (fun _ _ _ _ _ => trivial) (fun _ _ _ _ => trivial))
theorem EV.shR {xs : Nat → Int32} {L d : Nat} {M : ev_M} {sz : Nat} {h : ev_H} {pc : Nat} {ls : ev_L} {st : List Value} {Q : ev_Q} (R : Nat → Prop) (hR1 : R 1) (hE : EV xs L d 0 0 M sz h pc ls st Q) (hS : SH h) (hc : clo R h) (hl : okl R ls) (hs : oks R st) : EV xs L d 0 0 M sz h pc ls st (fun sz' h' r => Q sz' h' r ∧ sz' = sz ∧ SH h' ∧ (∀ k, ¬ R k → h' k = h k)) :=
  EV.post (fun _ _ _ q => ⟨q.1, q.2.1, ⟨q.2.2.1, fun k h1 h2 => sse_tr (hS.2 k h1 h2) (q.2.2.2.2.1 k)⟩, q.2.2.2.2.2.1⟩) (EV.frame R hR1 hE hS.1 hc hl hs)
section KR
variable {xs : Nat → Int32} {L d : Nat} {M : ev_M} {sz : Nat} {h : ev_H} {pc pc' : Nat} {ls : ev_L} {st : List Value} {Q : ev_Q}
theorem k_put {idx a ci : Nat} {fs : List Value} {v : Value} (f : Nat) (hp : pc + 3 = pc') (hd : decode M.2.1 pc = .ok (.putfield idx, 3)) (ha : 2 ≤ a ∧ a < sz) (hS : SH h) (hh : h a = .inr (ci, fs)) (hf : ev_fp 0 M.1 idx ci f v) (hl : f < fs.length) (k : ∀ h', SH h' → EV xs L d 0 0 M sz h' pc' ls st Q) : EV xs L d 0 0 M sz h pc ls (v :: .ref a :: st) Q := r_put hp hd ha.1 ha.2 hh f hf hl rfl (k _ (hS.up (put_ok hS.1 hh hf hl).1 (put_ok hS.1 hh hf hl).2))
theorem k_iast {a n : Nat} {j x : Int32} {f : Nat → Int32} (hp : pc + 1 = pc') (hd : decode M.2.1 pc = .ok (.iastore, 1)) (ha : 2 ≤ a ∧ a < sz) (hS : SH h) (hh : h a = .inl (0, n, .inl f)) (hj : vp_in j n) (k : ∀ h', SH h' → EV xs L d 0 0 M sz h' pc' ls st Q) : EV xs L d 0 0 M sz h pc ls (.int x :: .int j :: .ref a :: st) Q := r_iast hp hd ha.1 ha.2 hh hj rfl (k _ (hS.up (by rw [hh]; exact ⟨_, rfl⟩) trivial))
theorem k_last {a n : Nat} {j : Int32} {x : Int64} {f : Nat → Int64} (hp : pc + 1 = pc') (hd : decode M.2.1 pc = .ok (.lastore, 1)) (ha : 2 ≤ a ∧ a < sz) (hS : SH h) (hh : h a = .inl (1, n, .inr (.inl f))) (hj : vp_in j n) (k : ∀ h', SH h' → EV xs L d 0 0 M sz h' pc' ls st Q) : EV xs L d 0 0 M sz h pc ls (.long x :: .int j :: .ref a :: st) Q := r_last hp hd ha.1 ha.2 hh hj rfl (k _ (hS.up (by rw [hh]; exact ⟨_, rfl⟩) trivial))
end KR
end
section
theorem dJ13_bitCount_95d88_0 : decode cJ13_bitCount_95d88 0 = .ok (.lload_n 0, 1) := by decide +kernel
theorem dJ13_bitCount_95d88_1 : decode cJ13_bitCount_95d88 1 = .ok (.lload_n 0, 1) := by decide +kernel
theorem dJ13_bitCount_95d88_2 : decode cJ13_bitCount_95d88 2 = .ok (.iconst 1, 1) := by decide +kernel
theorem dJ13_bitCount_95d88_3 : decode cJ13_bitCount_95d88 3 = .ok (.lushr, 1) := by decide +kernel
theorem dJ13_bitCount_95d88_4 : decode cJ13_bitCount_95d88 4 = .ok (.ldc2_w 314, 3) := by decide +kernel
theorem dJ13_bitCount_95d88_7 : decode cJ13_bitCount_95d88 7 = .ok (.land, 1) := by decide +kernel
theorem dJ13_bitCount_95d88_8 : decode cJ13_bitCount_95d88 8 = .ok (.lsub, 1) := by decide +kernel
theorem dJ13_bitCount_95d88_9 : decode cJ13_bitCount_95d88 9 = .ok (.lstore_n 0, 1) := by decide +kernel
theorem dJ13_bitCount_95d88_10 : decode cJ13_bitCount_95d88 10 = .ok (.lload_n 0, 1) := by decide +kernel
theorem dJ13_bitCount_95d88_11 : decode cJ13_bitCount_95d88 11 = .ok (.ldc2_w 316, 3) := by decide +kernel
theorem dJ13_bitCount_95d88_14 : decode cJ13_bitCount_95d88 14 = .ok (.land, 1) := by decide +kernel
theorem dJ13_bitCount_95d88_15 : decode cJ13_bitCount_95d88 15 = .ok (.lload_n 0, 1) := by decide +kernel
theorem dJ13_bitCount_95d88_16 : decode cJ13_bitCount_95d88 16 = .ok (.iconst 2, 1) := by decide +kernel
theorem dJ13_bitCount_95d88_17 : decode cJ13_bitCount_95d88 17 = .ok (.lushr, 1) := by decide +kernel
theorem dJ13_bitCount_95d88_18 : decode cJ13_bitCount_95d88 18 = .ok (.ldc2_w 316, 3) := by decide +kernel
theorem dJ13_bitCount_95d88_21 : decode cJ13_bitCount_95d88 21 = .ok (.land, 1) := by decide +kernel
theorem dJ13_bitCount_95d88_22 : decode cJ13_bitCount_95d88 22 = .ok (.ladd, 1) := by decide +kernel
theorem dJ13_bitCount_95d88_23 : decode cJ13_bitCount_95d88 23 = .ok (.lstore_n 0, 1) := by decide +kernel
theorem dJ13_bitCount_95d88_24 : decode cJ13_bitCount_95d88 24 = .ok (.lload_n 0, 1) := by decide +kernel
theorem dJ13_bitCount_95d88_25 : decode cJ13_bitCount_95d88 25 = .ok (.lload_n 0, 1) := by decide +kernel
theorem dJ13_bitCount_95d88_26 : decode cJ13_bitCount_95d88 26 = .ok (.iconst 4, 1) := by decide +kernel
theorem dJ13_bitCount_95d88_27 : decode cJ13_bitCount_95d88 27 = .ok (.lushr, 1) := by decide +kernel
theorem dJ13_bitCount_95d88_28 : decode cJ13_bitCount_95d88 28 = .ok (.ladd, 1) := by decide +kernel
theorem dJ13_bitCount_95d88_29 : decode cJ13_bitCount_95d88 29 = .ok (.ldc2_w 318, 3) := by decide +kernel
theorem dJ13_bitCount_95d88_32 : decode cJ13_bitCount_95d88 32 = .ok (.land, 1) := by decide +kernel
theorem dJ13_bitCount_95d88_33 : decode cJ13_bitCount_95d88 33 = .ok (.lstore_n 0, 1) := by decide +kernel
theorem dJ13_bitCount_95d88_34 : decode cJ13_bitCount_95d88 34 = .ok (.lload_n 0, 1) := by decide +kernel
theorem dJ13_bitCount_95d88_35 : decode cJ13_bitCount_95d88 35 = .ok (.lload_n 0, 1) := by decide +kernel
theorem dJ13_bitCount_95d88_36 : decode cJ13_bitCount_95d88 36 = .ok (.bipush 8, 2) := by decide +kernel
theorem dJ13_bitCount_95d88_38 : decode cJ13_bitCount_95d88 38 = .ok (.lushr, 1) := by decide +kernel
theorem dJ13_bitCount_95d88_39 : decode cJ13_bitCount_95d88 39 = .ok (.ladd, 1) := by decide +kernel
theorem dJ13_bitCount_95d88_40 : decode cJ13_bitCount_95d88 40 = .ok (.lstore_n 0, 1) := by decide +kernel
theorem dJ13_bitCount_95d88_41 : decode cJ13_bitCount_95d88 41 = .ok (.lload_n 0, 1) := by decide +kernel
theorem dJ13_bitCount_95d88_42 : decode cJ13_bitCount_95d88 42 = .ok (.lload_n 0, 1) := by decide +kernel
theorem dJ13_bitCount_95d88_43 : decode cJ13_bitCount_95d88 43 = .ok (.bipush 16, 2) := by decide +kernel
theorem dJ13_bitCount_95d88_45 : decode cJ13_bitCount_95d88 45 = .ok (.lushr, 1) := by decide +kernel
theorem dJ13_bitCount_95d88_46 : decode cJ13_bitCount_95d88 46 = .ok (.ladd, 1) := by decide +kernel
theorem dJ13_bitCount_95d88_47 : decode cJ13_bitCount_95d88 47 = .ok (.lstore_n 0, 1) := by decide +kernel
theorem dJ13_bitCount_95d88_48 : decode cJ13_bitCount_95d88 48 = .ok (.lload_n 0, 1) := by decide +kernel
theorem dJ13_bitCount_95d88_49 : decode cJ13_bitCount_95d88 49 = .ok (.lload_n 0, 1) := by decide +kernel
theorem dJ13_bitCount_95d88_50 : decode cJ13_bitCount_95d88 50 = .ok (.bipush 32, 2) := by decide +kernel
theorem dJ13_bitCount_95d88_52 : decode cJ13_bitCount_95d88 52 = .ok (.lushr, 1) := by decide +kernel
theorem dJ13_bitCount_95d88_53 : decode cJ13_bitCount_95d88 53 = .ok (.ladd, 1) := by decide +kernel
theorem dJ13_bitCount_95d88_54 : decode cJ13_bitCount_95d88 54 = .ok (.lstore_n 0, 1) := by decide +kernel
theorem dJ13_bitCount_95d88_55 : decode cJ13_bitCount_95d88 55 = .ok (.lload_n 0, 1) := by decide +kernel
theorem dJ13_bitCount_95d88_56 : decode cJ13_bitCount_95d88 56 = .ok (.l2i, 1) := by decide +kernel
theorem dJ13_bitCount_95d88_57 : decode cJ13_bitCount_95d88 57 = .ok (.bipush 127, 2) := by decide +kernel
theorem dJ13_bitCount_95d88_59 : decode cJ13_bitCount_95d88 59 = .ok (.iand, 1) := by decide +kernel
theorem dJ13_bitCount_95d88_60 : decode cJ13_bitCount_95d88 60 = .ok (.ireturn, 1) := by decide +kernel
theorem dX10_wipe_0 : decode cX10_wipe 0 = .ok (.iconst 0, 1) := by decide +kernel
theorem dX10_wipe_1 : decode cX10_wipe 1 = .ok (.istore_n 1, 1) := by decide +kernel
theorem dX10_wipe_2 : decode cX10_wipe 2 = .ok (.iload_n 1, 1) := by decide +kernel
theorem dX10_wipe_3 : decode cX10_wipe 3 = .ok (.iconst 4, 1) := by decide +kernel
theorem dX10_wipe_4 : decode cX10_wipe 4 = .ok (.if_icmp .ge 16, 3) := by decide +kernel
theorem dX10_wipe_7 : decode cX10_wipe 7 = .ok (.aload_n 0, 1) := by decide +kernel
theorem dX10_wipe_8 : decode cX10_wipe 8 = .ok (.getfield 9, 3) := by decide +kernel
theorem dX10_wipe_11 : decode cX10_wipe 11 = .ok (.iload_n 1, 1) := by decide +kernel
theorem dX10_wipe_12 : decode cX10_wipe 12 = .ok (.lconst 0, 1) := by decide +kernel
theorem dX10_wipe_13 : decode cX10_wipe 13 = .ok (.lastore, 1) := by decide +kernel
theorem dX10_wipe_14 : decode cX10_wipe 14 = .ok (.iinc 1 1, 3) := by decide +kernel
theorem dX10_wipe_17 : decode cX10_wipe 17 = .ok (.goto (-15), 3) := by decide +kernel
theorem dX10_wipe_20 : decode cX10_wipe 20 = .ok (.return_, 1) := by decide +kernel
theorem dX10_turn_0 : decode cX10_turn 0 = .ok (.iconst 0, 1) := by decide +kernel
theorem dX10_turn_1 : decode cX10_turn 1 = .ok (.istore_n 1, 1) := by decide +kernel
theorem dX10_turn_2 : decode cX10_turn 2 = .ok (.iload_n 1, 1) := by decide +kernel
theorem dX10_turn_3 : decode cX10_turn 3 = .ok (.iconst 4, 1) := by decide +kernel
theorem dX10_turn_4 : decode cX10_turn 4 = .ok (.if_icmp .ge 25, 3) := by decide +kernel
theorem dX10_turn_7 : decode cX10_turn 7 = .ok (.aload_n 0, 1) := by decide +kernel
theorem dX10_turn_8 : decode cX10_turn 8 = .ok (.getfield 9, 3) := by decide +kernel
theorem dX10_turn_11 : decode cX10_turn 11 = .ok (.iload_n 1, 1) := by decide +kernel
theorem dX10_turn_12 : decode cX10_turn 12 = .ok (.aload_n 0, 1) := by decide +kernel
theorem dX10_turn_13 : decode cX10_turn 13 = .ok (.getfield 9, 3) := by decide +kernel
theorem dX10_turn_16 : decode cX10_turn 16 = .ok (.iload_n 1, 1) := by decide +kernel
theorem dX10_turn_17 : decode cX10_turn 17 = .ok (.laload, 1) := by decide +kernel
theorem dX10_turn_18 : decode cX10_turn 18 = .ok (.ldc2_w 18, 3) := by decide +kernel
theorem dX10_turn_21 : decode cX10_turn 21 = .ok (.lxor, 1) := by decide +kernel
theorem dX10_turn_22 : decode cX10_turn 22 = .ok (.lastore, 1) := by decide +kernel
theorem dX10_turn_23 : decode cX10_turn 23 = .ok (.iinc 1 1, 3) := by decide +kernel
theorem dX10_turn_26 : decode cX10_turn 26 = .ok (.goto (-24), 3) := by decide +kernel
theorem dX10_turn_29 : decode cX10_turn 29 = .ok (.return_, 1) := by decide +kernel
theorem dX10_fill_0 : decode cX10_fill 0 = .ok (.aload_n 0, 1) := by decide +kernel
theorem dX10_fill_1 : decode cX10_fill 1 = .ok (.invokevirtual 38, 3) := by decide +kernel
theorem dX10_fill_4 : decode cX10_fill 4 = .ok (.aload_n 0, 1) := by decide +kernel
theorem dX10_fill_5 : decode cX10_fill 5 = .ok (.invokevirtual 41, 3) := by decide +kernel
theorem dX10_fill_8 : decode cX10_fill 8 = .ok (.return_, 1) := by decide +kernel
theorem dX10_become_0 : decode cX10_become 0 = .ok (.iconst 0, 1) := by decide +kernel
theorem dX10_become_1 : decode cX10_become 1 = .ok (.istore_n 2, 1) := by decide +kernel
theorem dX10_become_2 : decode cX10_become 2 = .ok (.iload_n 2, 1) := by decide +kernel
theorem dX10_become_3 : decode cX10_become 3 = .ok (.iconst 4, 1) := by decide +kernel
theorem dX10_become_4 : decode cX10_become 4 = .ok (.if_icmp .ge 21, 3) := by decide +kernel
theorem dX10_become_7 : decode cX10_become 7 = .ok (.aload_n 0, 1) := by decide +kernel
theorem dX10_become_8 : decode cX10_become 8 = .ok (.getfield 9, 3) := by decide +kernel
theorem dX10_become_11 : decode cX10_become 11 = .ok (.iload_n 2, 1) := by decide +kernel
theorem dX10_become_12 : decode cX10_become 12 = .ok (.aload_n 1, 1) := by decide +kernel
theorem dX10_become_13 : decode cX10_become 13 = .ok (.getfield 9, 3) := by decide +kernel
theorem dX10_become_16 : decode cX10_become 16 = .ok (.iload_n 2, 1) := by decide +kernel
theorem dX10_become_17 : decode cX10_become 17 = .ok (.laload, 1) := by decide +kernel
theorem dX10_become_18 : decode cX10_become 18 = .ok (.lastore, 1) := by decide +kernel
theorem dX10_become_19 : decode cX10_become 19 = .ok (.iinc 2 1, 3) := by decide +kernel
theorem dX10_become_22 : decode cX10_become 22 = .ok (.goto (-20), 3) := by decide +kernel
theorem dX10_become_25 : decode cX10_become 25 = .ok (.return_, 1) := by decide +kernel
theorem dX10_join_0 : decode cX10_join 0 = .ok (.iconst 0, 1) := by decide +kernel
theorem dX10_join_1 : decode cX10_join 1 = .ok (.istore_n 2, 1) := by decide +kernel
theorem dX10_join_2 : decode cX10_join 2 = .ok (.iload_n 2, 1) := by decide +kernel
theorem dX10_join_3 : decode cX10_join 3 = .ok (.iconst 4, 1) := by decide +kernel
theorem dX10_join_4 : decode cX10_join 4 = .ok (.if_icmp .ge 24, 3) := by decide +kernel
theorem dX10_join_7 : decode cX10_join 7 = .ok (.aload_n 0, 1) := by decide +kernel
theorem dX10_join_8 : decode cX10_join 8 = .ok (.getfield 9, 3) := by decide +kernel
theorem dX10_join_11 : decode cX10_join 11 = .ok (.iload_n 2, 1) := by decide +kernel
theorem dX10_join_12 : decode cX10_join 12 = .ok (.dup2, 1) := by decide +kernel
theorem dX10_join_13 : decode cX10_join 13 = .ok (.laload, 1) := by decide +kernel
theorem dX10_join_14 : decode cX10_join 14 = .ok (.aload_n 1, 1) := by decide +kernel
theorem dX10_join_15 : decode cX10_join 15 = .ok (.getfield 9, 3) := by decide +kernel
theorem dX10_join_18 : decode cX10_join 18 = .ok (.iload_n 2, 1) := by decide +kernel
theorem dX10_join_19 : decode cX10_join 19 = .ok (.laload, 1) := by decide +kernel
theorem dX10_join_20 : decode cX10_join 20 = .ok (.lor, 1) := by decide +kernel
theorem dX10_join_21 : decode cX10_join 21 = .ok (.lastore, 1) := by decide +kernel
theorem dX10_join_22 : decode cX10_join 22 = .ok (.iinc 2 1, 3) := by decide +kernel
theorem dX10_join_25 : decode cX10_join 25 = .ok (.goto (-23), 3) := by decide +kernel
theorem dX10_join_28 : decode cX10_join 28 = .ok (.return_, 1) := by decide +kernel
theorem dX10_meet_0 : decode cX10_meet 0 = .ok (.iconst 0, 1) := by decide +kernel
theorem dX10_meet_1 : decode cX10_meet 1 = .ok (.istore_n 2, 1) := by decide +kernel
theorem dX10_meet_2 : decode cX10_meet 2 = .ok (.iload_n 2, 1) := by decide +kernel
theorem dX10_meet_3 : decode cX10_meet 3 = .ok (.iconst 4, 1) := by decide +kernel
theorem dX10_meet_4 : decode cX10_meet 4 = .ok (.if_icmp .ge 24, 3) := by decide +kernel
theorem dX10_meet_7 : decode cX10_meet 7 = .ok (.aload_n 0, 1) := by decide +kernel
theorem dX10_meet_8 : decode cX10_meet 8 = .ok (.getfield 9, 3) := by decide +kernel
theorem dX10_meet_11 : decode cX10_meet 11 = .ok (.iload_n 2, 1) := by decide +kernel
theorem dX10_meet_12 : decode cX10_meet 12 = .ok (.dup2, 1) := by decide +kernel
theorem dX10_meet_13 : decode cX10_meet 13 = .ok (.laload, 1) := by decide +kernel
theorem dX10_meet_14 : decode cX10_meet 14 = .ok (.aload_n 1, 1) := by decide +kernel
theorem dX10_meet_15 : decode cX10_meet 15 = .ok (.getfield 9, 3) := by decide +kernel
theorem dX10_meet_18 : decode cX10_meet 18 = .ok (.iload_n 2, 1) := by decide +kernel
theorem dX10_meet_19 : decode cX10_meet 19 = .ok (.laload, 1) := by decide +kernel
theorem dX10_meet_20 : decode cX10_meet 20 = .ok (.land, 1) := by decide +kernel
theorem dX10_meet_21 : decode cX10_meet 21 = .ok (.lastore, 1) := by decide +kernel
theorem dX10_meet_22 : decode cX10_meet 22 = .ok (.iinc 2 1, 3) := by decide +kernel
theorem dX10_meet_25 : decode cX10_meet 25 = .ok (.goto (-23), 3) := by decide +kernel
theorem dX10_meet_28 : decode cX10_meet 28 = .ok (.return_, 1) := by decide +kernel
theorem dX10_size_0 : decode cX10_size 0 = .ok (.iconst 0, 1) := by decide +kernel
theorem dX10_size_1 : decode cX10_size 1 = .ok (.istore_n 1, 1) := by decide +kernel
theorem dX10_size_2 : decode cX10_size 2 = .ok (.iconst 0, 1) := by decide +kernel
theorem dX10_size_3 : decode cX10_size 3 = .ok (.istore_n 2, 1) := by decide +kernel
theorem dX10_size_4 : decode cX10_size 4 = .ok (.iload_n 2, 1) := by decide +kernel
theorem dX10_size_5 : decode cX10_size 5 = .ok (.iconst 4, 1) := by decide +kernel
theorem dX10_size_6 : decode cX10_size 6 = .ok (.if_icmp .ge 21, 3) := by decide +kernel
theorem dX10_size_9 : decode cX10_size 9 = .ok (.iload_n 1, 1) := by decide +kernel
theorem dX10_size_10 : decode cX10_size 10 = .ok (.aload_n 0, 1) := by decide +kernel
theorem dX10_size_11 : decode cX10_size 11 = .ok (.getfield 9, 3) := by decide +kernel
theorem dX10_size_14 : decode cX10_size 14 = .ok (.iload_n 2, 1) := by decide +kernel
theorem dX10_size_15 : decode cX10_size 15 = .ok (.laload, 1) := by decide +kernel
theorem dX10_size_16 : decode cX10_size 16 = .ok (.invokestatic 24, 3) := by decide +kernel
theorem dX10_size_19 : decode cX10_size 19 = .ok (.iadd, 1) := by decide +kernel
theorem dX10_size_20 : decode cX10_size 20 = .ok (.istore_n 1, 1) := by decide +kernel
theorem dX10_size_21 : decode cX10_size 21 = .ok (.iinc 2 1, 3) := by decide +kernel
theorem dX10_size_24 : decode cX10_size 24 = .ok (.goto (-20), 3) := by decide +kernel
theorem dX10_size_27 : decode cX10_size 27 = .ok (.iload_n 1, 1) := by decide +kernel
theorem dX10_size_28 : decode cX10_size 28 = .ok (.ireturn, 1) := by decide +kernel
theorem dX10_sizeWith_0 : decode cX10_sizeWith 0 = .ok (.iconst 0, 1) := by decide +kernel
theorem dX10_sizeWith_1 : decode cX10_sizeWith 1 = .ok (.istore_n 2, 1) := by decide +kernel
theorem dX10_sizeWith_2 : decode cX10_sizeWith 2 = .ok (.iconst 0, 1) := by decide +kernel
theorem dX10_sizeWith_3 : decode cX10_sizeWith 3 = .ok (.istore_n 3, 1) := by decide +kernel
theorem dX10_sizeWith_4 : decode cX10_sizeWith 4 = .ok (.iload_n 3, 1) := by decide +kernel
theorem dX10_sizeWith_5 : decode cX10_sizeWith 5 = .ok (.iconst 4, 1) := by decide +kernel
theorem dX10_sizeWith_6 : decode cX10_sizeWith 6 = .ok (.if_icmp .ge 28, 3) := by decide +kernel
theorem dX10_sizeWith_9 : decode cX10_sizeWith 9 = .ok (.iload_n 2, 1) := by decide +kernel
theorem dX10_sizeWith_10 : decode cX10_sizeWith 10 = .ok (.aload_n 0, 1) := by decide +kernel
theorem dX10_sizeWith_11 : decode cX10_sizeWith 11 = .ok (.getfield 9, 3) := by decide +kernel
theorem dX10_sizeWith_14 : decode cX10_sizeWith 14 = .ok (.iload_n 3, 1) := by decide +kernel
theorem dX10_sizeWith_15 : decode cX10_sizeWith 15 = .ok (.laload, 1) := by decide +kernel
theorem dX10_sizeWith_16 : decode cX10_sizeWith 16 = .ok (.aload_n 1, 1) := by decide +kernel
theorem dX10_sizeWith_17 : decode cX10_sizeWith 17 = .ok (.getfield 9, 3) := by decide +kernel
theorem dX10_sizeWith_20 : decode cX10_sizeWith 20 = .ok (.iload_n 3, 1) := by decide +kernel
theorem dX10_sizeWith_21 : decode cX10_sizeWith 21 = .ok (.laload, 1) := by decide +kernel
theorem dX10_sizeWith_22 : decode cX10_sizeWith 22 = .ok (.land, 1) := by decide +kernel
theorem dX10_sizeWith_23 : decode cX10_sizeWith 23 = .ok (.invokestatic 24, 3) := by decide +kernel
theorem dX10_sizeWith_26 : decode cX10_sizeWith 26 = .ok (.iadd, 1) := by decide +kernel
theorem dX10_sizeWith_27 : decode cX10_sizeWith 27 = .ok (.istore_n 2, 1) := by decide +kernel
theorem dX10_sizeWith_28 : decode cX10_sizeWith 28 = .ok (.iinc 3 1, 3) := by decide +kernel
theorem dX10_sizeWith_31 : decode cX10_sizeWith 31 = .ok (.goto (-27), 3) := by decide +kernel
theorem dX10_sizeWith_34 : decode cX10_sizeWith 34 = .ok (.iload_n 2, 1) := by decide +kernel
theorem dX10_sizeWith_35 : decode cX10_sizeWith 35 = .ok (.ireturn, 1) := by decide +kernel
theorem dX11_isWorld_0 : decode cX11_isWorld 0 = .ok (.iload_n 0, 1) := by decide +kernel
theorem dX11_isWorld_1 : decode cX11_isWorld 1 = .ok (.ifCond .lt 14, 3) := by decide +kernel
theorem dX11_isWorld_4 : decode cX11_isWorld 4 = .ok (.iload_n 0, 1) := by decide +kernel
theorem dX11_isWorld_5 : decode cX11_isWorld 5 = .ok (.sipush 256, 3) := by decide +kernel
theorem dX11_isWorld_8 : decode cX11_isWorld 8 = .ok (.if_icmp .ge 7, 3) := by decide +kernel
theorem dX11_isWorld_11 : decode cX11_isWorld 11 = .ok (.iconst 1, 1) := by decide +kernel
theorem dX11_isWorld_12 : decode cX11_isWorld 12 = .ok (.goto 4, 3) := by decide +kernel
theorem dX11_isWorld_15 : decode cX11_isWorld 15 = .ok (.iconst 0, 1) := by decide +kernel
theorem dX11_isWorld_16 : decode cX11_isWorld 16 = .ok (.ireturn, 1) := by decide +kernel
theorem dX10_partWhereSo_0 : decode cX10_partWhereSo 0 = .ok (.iload_n 0, 1) := by decide +kernel
theorem dX10_partWhereSo_1 : decode cX10_partWhereSo 1 = .ok (.ifCond .lt 17, 3) := by decide +kernel
theorem dX10_partWhereSo_4 : decode cX10_partWhereSo 4 = .ok (.iload_n 0, 1) := by decide +kernel
theorem dX10_partWhereSo_5 : decode cX10_partWhereSo 5 = .ok (.getstatic 15, 3) := by decide +kernel
theorem dX10_partWhereSo_8 : decode cX10_partWhereSo 8 = .ok (.arraylength, 1) := by decide +kernel
theorem dX10_partWhereSo_9 : decode cX10_partWhereSo 9 = .ok (.if_icmp .ge 9, 3) := by decide +kernel
theorem dX10_partWhereSo_12 : decode cX10_partWhereSo 12 = .ok (.getstatic 15, 3) := by decide +kernel
theorem dX10_partWhereSo_15 : decode cX10_partWhereSo 15 = .ok (.iload_n 0, 1) := by decide +kernel
theorem dX10_partWhereSo_16 : decode cX10_partWhereSo 16 = .ok (.laload, 1) := by decide +kernel
theorem dX10_partWhereSo_17 : decode cX10_partWhereSo 17 = .ok (.lreturn, 1) := by decide +kernel
theorem dX10_partWhereSo_18 : decode cX10_partWhereSo 18 = .ok (.iload_n 1, 1) := by decide +kernel
theorem dX10_partWhereSo_19 : decode cX10_partWhereSo 19 = .ok (.iload_n 0, 1) := by decide +kernel
theorem dX10_partWhereSo_20 : decode cX10_partWhereSo 20 = .ok (.getstatic 15, 3) := by decide +kernel
theorem dX10_partWhereSo_23 : decode cX10_partWhereSo 23 = .ok (.arraylength, 1) := by decide +kernel
theorem dX10_partWhereSo_24 : decode cX10_partWhereSo 24 = .ok (.isub, 1) := by decide +kernel
theorem dX10_partWhereSo_25 : decode cX10_partWhereSo 25 = .ok (.ishr, 1) := by decide +kernel
theorem dX10_partWhereSo_26 : decode cX10_partWhereSo 26 = .ok (.iconst 1, 1) := by decide +kernel
theorem dX10_partWhereSo_27 : decode cX10_partWhereSo 27 = .ok (.iand, 1) := by decide +kernel
theorem dX10_partWhereSo_28 : decode cX10_partWhereSo 28 = .ok (.ifCond .eq 9, 3) := by decide +kernel
theorem dX10_partWhereSo_31 : decode cX10_partWhereSo 31 = .ok (.ldc2_w 18, 3) := by decide +kernel
theorem dX10_partWhereSo_34 : decode cX10_partWhereSo 34 = .ok (.goto 4, 3) := by decide +kernel
theorem dX10_partWhereSo_37 : decode cX10_partWhereSo 37 = .ok (.lconst 0, 1) := by decide +kernel
theorem dX10_partWhereSo_38 : decode cX10_partWhereSo 38 = .ok (.lreturn, 1) := by decide +kernel
theorem dX10_has_0 : decode cX10_has 0 = .ok (.iload_n 1, 1) := by decide +kernel
theorem dX10_has_1 : decode cX10_has 1 = .ok (.invokestatic 20, 3) := by decide +kernel
theorem dX10_has_4 : decode cX10_has 4 = .ok (.ifCond .eq 28, 3) := by decide +kernel
theorem dX10_has_7 : decode cX10_has 7 = .ok (.aload_n 0, 1) := by decide +kernel
theorem dX10_has_8 : decode cX10_has 8 = .ok (.getfield 9, 3) := by decide +kernel
theorem dX10_has_11 : decode cX10_has 11 = .ok (.iload_n 1, 1) := by decide +kernel
theorem dX10_has_12 : decode cX10_has 12 = .ok (.bipush 6, 2) := by decide +kernel
theorem dX10_has_14 : decode cX10_has 14 = .ok (.ishr, 1) := by decide +kernel
theorem dX10_has_15 : decode cX10_has 15 = .ok (.laload, 1) := by decide +kernel
theorem dX10_has_16 : decode cX10_has 16 = .ok (.iload_n 1, 1) := by decide +kernel
theorem dX10_has_17 : decode cX10_has 17 = .ok (.bipush 63, 2) := by decide +kernel
theorem dX10_has_19 : decode cX10_has 19 = .ok (.iand, 1) := by decide +kernel
theorem dX10_has_20 : decode cX10_has 20 = .ok (.lushr, 1) := by decide +kernel
theorem dX10_has_21 : decode cX10_has 21 = .ok (.lconst 1, 1) := by decide +kernel
theorem dX10_has_22 : decode cX10_has 22 = .ok (.land, 1) := by decide +kernel
theorem dX10_has_23 : decode cX10_has 23 = .ok (.lconst 0, 1) := by decide +kernel
theorem dX10_has_24 : decode cX10_has 24 = .ok (.lcmp, 1) := by decide +kernel
theorem dX10_has_25 : decode cX10_has 25 = .ok (.ifCond .eq 7, 3) := by decide +kernel
theorem dX10_has_28 : decode cX10_has 28 = .ok (.iconst 1, 1) := by decide +kernel
theorem dX10_has_29 : decode cX10_has 29 = .ok (.goto 4, 3) := by decide +kernel
theorem dX10_has_32 : decode cX10_has 32 = .ok (.iconst 0, 1) := by decide +kernel
theorem dX10_has_33 : decode cX10_has 33 = .ok (.ireturn, 1) := by decide +kernel
theorem dX10_isWithin_0 : decode cX10_isWithin 0 = .ok (.aload_n 0, 1) := by decide +kernel
theorem dX10_isWithin_1 : decode cX10_isWithin 1 = .ok (.aload_n 1, 1) := by decide +kernel
theorem dX10_isWithin_2 : decode cX10_isWithin 2 = .ok (.invokevirtual 30, 3) := by decide +kernel
theorem dX10_isWithin_5 : decode cX10_isWithin 5 = .ok (.aload_n 0, 1) := by decide +kernel
theorem dX10_isWithin_6 : decode cX10_isWithin 6 = .ok (.invokevirtual 34, 3) := by decide +kernel
theorem dX10_isWithin_9 : decode cX10_isWithin 9 = .ok (.if_icmp .ne 7, 3) := by decide +kernel
theorem dX10_isWithin_12 : decode cX10_isWithin 12 = .ok (.iconst 1, 1) := by decide +kernel
theorem dX10_isWithin_13 : decode cX10_isWithin 13 = .ok (.goto 4, 3) := by decide +kernel
theorem dX10_isWithin_16 : decode cX10_isWithin 16 = .ok (.iconst 0, 1) := by decide +kernel
theorem dX10_isWithin_17 : decode cX10_isWithin 17 = .ok (.ireturn, 1) := by decide +kernel
theorem dX10_part_0 : decode cX10_part 0 = .ok (.iload_n 1, 1) := by decide +kernel
theorem dX10_part_1 : decode cX10_part 1 = .ok (.ifCond .lt 8, 3) := by decide +kernel
theorem dX10_part_4 : decode cX10_part 4 = .ok (.iload_n 1, 1) := by decide +kernel
theorem dX10_part_5 : decode cX10_part 5 = .ok (.iconst 4, 1) := by decide +kernel
theorem dX10_part_6 : decode cX10_part 6 = .ok (.if_icmp .lt 7, 3) := by decide +kernel
theorem dX10_part_9 : decode cX10_part 9 = .ok (.lconst 0, 1) := by decide +kernel
theorem dX10_part_10 : decode cX10_part 10 = .ok (.goto 9, 3) := by decide +kernel
theorem dX10_part_13 : decode cX10_part 13 = .ok (.aload_n 0, 1) := by decide +kernel
theorem dX10_part_14 : decode cX10_part 14 = .ok (.getfield 9, 3) := by decide +kernel
theorem dX10_part_17 : decode cX10_part 17 = .ok (.iload_n 1, 1) := by decide +kernel
theorem dX10_part_18 : decode cX10_part 18 = .ok (.laload, 1) := by decide +kernel
theorem dX10_part_19 : decode cX10_part 19 = .ok (.lreturn, 1) := by decide +kernel
theorem dX10_leastWorld_0 : decode cX10_leastWorld 0 = .ok (.iconst 0, 1) := by decide +kernel
theorem dX10_leastWorld_1 : decode cX10_leastWorld 1 = .ok (.istore_n 1, 1) := by decide +kernel
theorem dX10_leastWorld_2 : decode cX10_leastWorld 2 = .ok (.iload_n 1, 1) := by decide +kernel
theorem dX10_leastWorld_3 : decode cX10_leastWorld 3 = .ok (.iconst 4, 1) := by decide +kernel
theorem dX10_leastWorld_4 : decode cX10_leastWorld 4 = .ok (.if_icmp .ge 47, 3) := by decide +kernel
theorem dX10_leastWorld_7 : decode cX10_leastWorld 7 = .ok (.aload_n 0, 1) := by decide +kernel
theorem dX10_leastWorld_8 : decode cX10_leastWorld 8 = .ok (.getfield 9, 3) := by decide +kernel
theorem dX10_leastWorld_11 : decode cX10_leastWorld 11 = .ok (.iload_n 1, 1) := by decide +kernel
theorem dX10_leastWorld_12 : decode cX10_leastWorld 12 = .ok (.laload, 1) := by decide +kernel
theorem dX10_leastWorld_13 : decode cX10_leastWorld 13 = .ok (.lconst 0, 1) := by decide +kernel
theorem dX10_leastWorld_14 : decode cX10_leastWorld 14 = .ok (.lcmp, 1) := by decide +kernel
theorem dX10_leastWorld_15 : decode cX10_leastWorld 15 = .ok (.ifCond .eq 30, 3) := by decide +kernel
theorem dX10_leastWorld_18 : decode cX10_leastWorld 18 = .ok (.aload_n 0, 1) := by decide +kernel
theorem dX10_leastWorld_19 : decode cX10_leastWorld 19 = .ok (.getfield 9, 3) := by decide +kernel
theorem dX10_leastWorld_22 : decode cX10_leastWorld 22 = .ok (.iload_n 1, 1) := by decide +kernel
theorem dX10_leastWorld_23 : decode cX10_leastWorld 23 = .ok (.laload, 1) := by decide +kernel
theorem dX10_leastWorld_24 : decode cX10_leastWorld 24 = .ok (.aload_n 0, 1) := by decide +kernel
theorem dX10_leastWorld_25 : decode cX10_leastWorld 25 = .ok (.getfield 9, 3) := by decide +kernel
theorem dX10_leastWorld_28 : decode cX10_leastWorld 28 = .ok (.iload_n 1, 1) := by decide +kernel
theorem dX10_leastWorld_29 : decode cX10_leastWorld 29 = .ok (.laload, 1) := by decide +kernel
theorem dX10_leastWorld_30 : decode cX10_leastWorld 30 = .ok (.lneg, 1) := by decide +kernel
theorem dX10_leastWorld_31 : decode cX10_leastWorld 31 = .ok (.land, 1) := by decide +kernel
theorem dX10_leastWorld_32 : decode cX10_leastWorld 32 = .ok (.lstore_n 2, 1) := by decide +kernel
theorem dX10_leastWorld_33 : decode cX10_leastWorld 33 = .ok (.bipush 64, 2) := by decide +kernel
theorem dX10_leastWorld_35 : decode cX10_leastWorld 35 = .ok (.iload_n 1, 1) := by decide +kernel
theorem dX10_leastWorld_36 : decode cX10_leastWorld 36 = .ok (.imul, 1) := by decide +kernel
theorem dX10_leastWorld_37 : decode cX10_leastWorld 37 = .ok (.lload_n 2, 1) := by decide +kernel
theorem dX10_leastWorld_38 : decode cX10_leastWorld 38 = .ok (.lconst 1, 1) := by decide +kernel
theorem dX10_leastWorld_39 : decode cX10_leastWorld 39 = .ok (.lsub, 1) := by decide +kernel
theorem dX10_leastWorld_40 : decode cX10_leastWorld 40 = .ok (.invokestatic 24, 3) := by decide +kernel
theorem dX10_leastWorld_43 : decode cX10_leastWorld 43 = .ok (.iadd, 1) := by decide +kernel
theorem dX10_leastWorld_44 : decode cX10_leastWorld 44 = .ok (.ireturn, 1) := by decide +kernel
theorem dX10_leastWorld_45 : decode cX10_leastWorld 45 = .ok (.iinc 1 1, 3) := by decide +kernel
theorem dX10_leastWorld_48 : decode cX10_leastWorld 48 = .ok (.goto (-46), 3) := by decide +kernel
theorem dX10_leastWorld_51 : decode cX10_leastWorld 51 = .ok (.iconst (-1), 1) := by decide +kernel
theorem dX10_leastWorld_52 : decode cX10_leastWorld 52 = .ok (.ireturn, 1) := by decide +kernel
theorem dX10_partTurned_0 : decode cX10_partTurned 0 = .ok (.iload_n 2, 1) := by decide +kernel
theorem dX10_partTurned_1 : decode cX10_partTurned 1 = .ok (.ifCond .lt 8, 3) := by decide +kernel
theorem dX10_partTurned_4 : decode cX10_partTurned 4 = .ok (.iload_n 2, 1) := by decide +kernel
theorem dX10_partTurned_5 : decode cX10_partTurned 5 = .ok (.iconst 4, 1) := by decide +kernel
theorem dX10_partTurned_6 : decode cX10_partTurned 6 = .ok (.if_icmp .lt 5, 3) := by decide +kernel
theorem dX10_partTurned_9 : decode cX10_partTurned 9 = .ok (.lconst 0, 1) := by decide +kernel
theorem dX10_partTurned_10 : decode cX10_partTurned 10 = .ok (.lreturn, 1) := by decide +kernel
theorem dX10_partTurned_11 : decode cX10_partTurned 11 = .ok (.iload_n 1, 1) := by decide +kernel
theorem dX10_partTurned_12 : decode cX10_partTurned 12 = .ok (.ifCond .lt 45, 3) := by decide +kernel
theorem dX10_partTurned_15 : decode cX10_partTurned 15 = .ok (.iload_n 1, 1) := by decide +kernel
theorem dX10_partTurned_16 : decode cX10_partTurned 16 = .ok (.getstatic 15, 3) := by decide +kernel
theorem dX10_partTurned_19 : decode cX10_partTurned 19 = .ok (.arraylength, 1) := by decide +kernel
theorem dX10_partTurned_20 : decode cX10_partTurned 20 = .ok (.if_icmp .ge 37, 3) := by decide +kernel
theorem dX10_partTurned_23 : decode cX10_partTurned 23 = .ok (.iconst 1, 1) := by decide +kernel
theorem dX10_partTurned_24 : decode cX10_partTurned 24 = .ok (.iload_n 1, 1) := by decide +kernel
theorem dX10_partTurned_25 : decode cX10_partTurned 25 = .ok (.ishl, 1) := by decide +kernel
theorem dX10_partTurned_26 : decode cX10_partTurned 26 = .ok (.istore_n 3, 1) := by decide +kernel
theorem dX10_partTurned_27 : decode cX10_partTurned 27 = .ok (.aload_n 0, 1) := by decide +kernel
theorem dX10_partTurned_28 : decode cX10_partTurned 28 = .ok (.getfield 9, 3) := by decide +kernel
theorem dX10_partTurned_31 : decode cX10_partTurned 31 = .ok (.iload_n 2, 1) := by decide +kernel
theorem dX10_partTurned_32 : decode cX10_partTurned 32 = .ok (.laload, 1) := by decide +kernel
theorem dX10_partTurned_33 : decode cX10_partTurned 33 = .ok (.getstatic 15, 3) := by decide +kernel
theorem dX10_partTurned_36 : decode cX10_partTurned 36 = .ok (.iload_n 1, 1) := by decide +kernel
theorem dX10_partTurned_37 : decode cX10_partTurned 37 = .ok (.laload, 1) := by decide +kernel
theorem dX10_partTurned_38 : decode cX10_partTurned 38 = .ok (.land, 1) := by decide +kernel
theorem dX10_partTurned_39 : decode cX10_partTurned 39 = .ok (.iload_n 3, 1) := by decide +kernel
theorem dX10_partTurned_40 : decode cX10_partTurned 40 = .ok (.lushr, 1) := by decide +kernel
theorem dX10_partTurned_41 : decode cX10_partTurned 41 = .ok (.aload_n 0, 1) := by decide +kernel
theorem dX10_partTurned_42 : decode cX10_partTurned 42 = .ok (.getfield 9, 3) := by decide +kernel
theorem dX10_partTurned_45 : decode cX10_partTurned 45 = .ok (.iload_n 2, 1) := by decide +kernel
theorem dX10_partTurned_46 : decode cX10_partTurned 46 = .ok (.laload, 1) := by decide +kernel
theorem dX10_partTurned_47 : decode cX10_partTurned 47 = .ok (.iload_n 3, 1) := by decide +kernel
theorem dX10_partTurned_48 : decode cX10_partTurned 48 = .ok (.lshl, 1) := by decide +kernel
theorem dX10_partTurned_49 : decode cX10_partTurned 49 = .ok (.getstatic 15, 3) := by decide +kernel
theorem dX10_partTurned_52 : decode cX10_partTurned 52 = .ok (.iload_n 1, 1) := by decide +kernel
theorem dX10_partTurned_53 : decode cX10_partTurned 53 = .ok (.laload, 1) := by decide +kernel
theorem dX10_partTurned_54 : decode cX10_partTurned 54 = .ok (.land, 1) := by decide +kernel
theorem dX10_partTurned_55 : decode cX10_partTurned 55 = .ok (.lor, 1) := by decide +kernel
theorem dX10_partTurned_56 : decode cX10_partTurned 56 = .ok (.lreturn, 1) := by decide +kernel
theorem dX10_partTurned_57 : decode cX10_partTurned 57 = .ok (.iload_n 2, 1) := by decide +kernel
theorem dX10_partTurned_58 : decode cX10_partTurned 58 = .ok (.iconst 1, 1) := by decide +kernel
theorem dX10_partTurned_59 : decode cX10_partTurned 59 = .ok (.iload_n 1, 1) := by decide +kernel
theorem dX10_partTurned_60 : decode cX10_partTurned 60 = .ok (.getstatic 15, 3) := by decide +kernel
theorem dX10_partTurned_63 : decode cX10_partTurned 63 = .ok (.arraylength, 1) := by decide +kernel
theorem dX10_partTurned_64 : decode cX10_partTurned 64 = .ok (.isub, 1) := by decide +kernel
theorem dX10_partTurned_65 : decode cX10_partTurned 65 = .ok (.ishl, 1) := by decide +kernel
theorem dX10_partTurned_66 : decode cX10_partTurned 66 = .ok (.ixor, 1) := by decide +kernel
theorem dX10_partTurned_67 : decode cX10_partTurned 67 = .ok (.istore_n 3, 1) := by decide +kernel
theorem dX10_partTurned_68 : decode cX10_partTurned 68 = .ok (.iload_n 3, 1) := by decide +kernel
theorem dX10_partTurned_69 : decode cX10_partTurned 69 = .ok (.ifCond .lt 8, 3) := by decide +kernel
theorem dX10_partTurned_72 : decode cX10_partTurned 72 = .ok (.iload_n 3, 1) := by decide +kernel
theorem dX10_partTurned_73 : decode cX10_partTurned 73 = .ok (.iconst 4, 1) := by decide +kernel
theorem dX10_partTurned_74 : decode cX10_partTurned 74 = .ok (.if_icmp .lt 7, 3) := by decide +kernel
theorem dX10_partTurned_77 : decode cX10_partTurned 77 = .ok (.lconst 0, 1) := by decide +kernel
theorem dX10_partTurned_78 : decode cX10_partTurned 78 = .ok (.goto 9, 3) := by decide +kernel
theorem dX10_partTurned_81 : decode cX10_partTurned 81 = .ok (.aload_n 0, 1) := by decide +kernel
theorem dX10_partTurned_82 : decode cX10_partTurned 82 = .ok (.getfield 9, 3) := by decide +kernel
theorem dX10_partTurned_85 : decode cX10_partTurned 85 = .ok (.iload_n 3, 1) := by decide +kernel
theorem dX10_partTurned_86 : decode cX10_partTurned 86 = .ok (.laload, 1) := by decide +kernel
theorem dX10_partTurned_87 : decode cX10_partTurned 87 = .ok (.lreturn, 1) := by decide +kernel
theorem dX10_hangsOn_0 : decode cX10_hangsOn 0 = .ok (.iconst 0, 1) := by decide +kernel
theorem dX10_hangsOn_1 : decode cX10_hangsOn 1 = .ok (.istore_n 2, 1) := by decide +kernel
theorem dX10_hangsOn_2 : decode cX10_hangsOn 2 = .ok (.iload_n 2, 1) := by decide +kernel
theorem dX10_hangsOn_3 : decode cX10_hangsOn 3 = .ok (.iconst 4, 1) := by decide +kernel
theorem dX10_hangsOn_4 : decode cX10_hangsOn 4 = .ok (.if_icmp .ge 27, 3) := by decide +kernel
theorem dX10_hangsOn_7 : decode cX10_hangsOn 7 = .ok (.aload_n 0, 1) := by decide +kernel
theorem dX10_hangsOn_8 : decode cX10_hangsOn 8 = .ok (.iload_n 1, 1) := by decide +kernel
theorem dX10_hangsOn_9 : decode cX10_hangsOn 9 = .ok (.iload_n 2, 1) := by decide +kernel
theorem dX10_hangsOn_10 : decode cX10_hangsOn 10 = .ok (.invokevirtual 48, 3) := by decide +kernel
theorem dX10_hangsOn_13 : decode cX10_hangsOn 13 = .ok (.aload_n 0, 1) := by decide +kernel
theorem dX10_hangsOn_14 : decode cX10_hangsOn 14 = .ok (.getfield 9, 3) := by decide +kernel
theorem dX10_hangsOn_17 : decode cX10_hangsOn 17 = .ok (.iload_n 2, 1) := by decide +kernel
theorem dX10_hangsOn_18 : decode cX10_hangsOn 18 = .ok (.laload, 1) := by decide +kernel
theorem dX10_hangsOn_19 : decode cX10_hangsOn 19 = .ok (.lcmp, 1) := by decide +kernel
theorem dX10_hangsOn_20 : decode cX10_hangsOn 20 = .ok (.ifCond .eq 5, 3) := by decide +kernel
theorem dX10_hangsOn_23 : decode cX10_hangsOn 23 = .ok (.iconst 1, 1) := by decide +kernel
theorem dX10_hangsOn_24 : decode cX10_hangsOn 24 = .ok (.ireturn, 1) := by decide +kernel
theorem dX10_hangsOn_25 : decode cX10_hangsOn 25 = .ok (.iinc 2 1, 3) := by decide +kernel
theorem dX10_hangsOn_28 : decode cX10_hangsOn 28 = .ok (.goto (-26), 3) := by decide +kernel
theorem dX10_hangsOn_31 : decode cX10_hangsOn 31 = .ok (.iconst 0, 1) := by decide +kernel
theorem dX10_hangsOn_32 : decode cX10_hangsOn 32 = .ok (.ireturn, 1) := by decide +kernel
theorem dX10_spread_0 : decode cX10_spread 0 = .ok (.iconst 0, 1) := by decide +kernel
theorem dX10_spread_1 : decode cX10_spread 1 = .ok (.istore_n 2, 1) := by decide +kernel
theorem dX10_spread_2 : decode cX10_spread 2 = .ok (.iload_n 2, 1) := by decide +kernel
theorem dX10_spread_3 : decode cX10_spread 3 = .ok (.iconst 4, 1) := by decide +kernel
theorem dX10_spread_4 : decode cX10_spread 4 = .ok (.if_icmp .ge 24, 3) := by decide +kernel
theorem dX10_spread_7 : decode cX10_spread 7 = .ok (.aload_n 0, 1) := by decide +kernel
theorem dX10_spread_8 : decode cX10_spread 8 = .ok (.getfield 9, 3) := by decide +kernel
theorem dX10_spread_11 : decode cX10_spread 11 = .ok (.iload_n 2, 1) := by decide +kernel
theorem dX10_spread_12 : decode cX10_spread 12 = .ok (.dup2, 1) := by decide +kernel
theorem dX10_spread_13 : decode cX10_spread 13 = .ok (.laload, 1) := by decide +kernel
theorem dX10_spread_14 : decode cX10_spread 14 = .ok (.aload_n 0, 1) := by decide +kernel
theorem dX10_spread_15 : decode cX10_spread 15 = .ok (.iload_n 1, 1) := by decide +kernel
theorem dX10_spread_16 : decode cX10_spread 16 = .ok (.iload_n 2, 1) := by decide +kernel
theorem dX10_spread_17 : decode cX10_spread 17 = .ok (.invokevirtual 48, 3) := by decide +kernel
theorem dX10_spread_20 : decode cX10_spread 20 = .ok (.lor, 1) := by decide +kernel
theorem dX10_spread_21 : decode cX10_spread 21 = .ok (.lastore, 1) := by decide +kernel
theorem dX10_spread_22 : decode cX10_spread 22 = .ok (.iinc 2 1, 3) := by decide +kernel
theorem dX10_spread_25 : decode cX10_spread 25 = .ok (.goto (-23), 3) := by decide +kernel
theorem dX10_spread_28 : decode cX10_spread 28 = .ok (.return_, 1) := by decide +kernel
theorem dX10_joinWhere_0 : decode cX10_joinWhere 0 = .ok (.iconst 0, 1) := by decide +kernel
theorem dX10_joinWhere_1 : decode cX10_joinWhere 1 = .ok (.istore_n 3, 1) := by decide +kernel
theorem dX10_joinWhere_2 : decode cX10_joinWhere 2 = .ok (.iload_n 3, 1) := by decide +kernel
theorem dX10_joinWhere_3 : decode cX10_joinWhere 3 = .ok (.iconst 4, 1) := by decide +kernel
theorem dX10_joinWhere_4 : decode cX10_joinWhere 4 = .ok (.if_icmp .ge 40, 3) := by decide +kernel
theorem dX10_joinWhere_7 : decode cX10_joinWhere 7 = .ok (.iload_n 1, 1) := by decide +kernel
theorem dX10_joinWhere_8 : decode cX10_joinWhere 8 = .ok (.iload_n 3, 1) := by decide +kernel
theorem dX10_joinWhere_9 : decode cX10_joinWhere 9 = .ok (.invokestatic 44, 3) := by decide +kernel
theorem dX10_joinWhere_12 : decode cX10_joinWhere 12 = .ok (.lstore 4, 2) := by decide +kernel
theorem dX10_joinWhere_14 : decode cX10_joinWhere 14 = .ok (.aload_n 0, 1) := by decide +kernel
theorem dX10_joinWhere_15 : decode cX10_joinWhere 15 = .ok (.getfield 9, 3) := by decide +kernel
theorem dX10_joinWhere_18 : decode cX10_joinWhere 18 = .ok (.iload_n 3, 1) := by decide +kernel
theorem dX10_joinWhere_19 : decode cX10_joinWhere 19 = .ok (.dup2, 1) := by decide +kernel
theorem dX10_joinWhere_20 : decode cX10_joinWhere 20 = .ok (.laload, 1) := by decide +kernel
theorem dX10_joinWhere_21 : decode cX10_joinWhere 21 = .ok (.iload_n 2, 1) := by decide +kernel
theorem dX10_joinWhere_22 : decode cX10_joinWhere 22 = .ok (.ifCond .eq 8, 3) := by decide +kernel
theorem dX10_joinWhere_25 : decode cX10_joinWhere 25 = .ok (.lload 4, 2) := by decide +kernel
theorem dX10_joinWhere_27 : decode cX10_joinWhere 27 = .ok (.goto 9, 3) := by decide +kernel
theorem dX10_joinWhere_30 : decode cX10_joinWhere 30 = .ok (.lload 4, 2) := by decide +kernel
theorem dX10_joinWhere_32 : decode cX10_joinWhere 32 = .ok (.ldc2_w 18, 3) := by decide +kernel
theorem dX10_joinWhere_35 : decode cX10_joinWhere 35 = .ok (.lxor, 1) := by decide +kernel
theorem dX10_joinWhere_36 : decode cX10_joinWhere 36 = .ok (.lor, 1) := by decide +kernel
theorem dX10_joinWhere_37 : decode cX10_joinWhere 37 = .ok (.lastore, 1) := by decide +kernel
theorem dX10_joinWhere_38 : decode cX10_joinWhere 38 = .ok (.iinc 3 1, 3) := by decide +kernel
theorem dX10_joinWhere_41 : decode cX10_joinWhere 41 = .ok (.goto (-39), 3) := by decide +kernel
theorem dX10_joinWhere_44 : decode cX10_joinWhere 44 = .ok (.return_, 1) := by decide +kernel
theorem dX10_choose_0 : decode cX10_choose 0 = .ok (.iconst 0, 1) := by decide +kernel
theorem dX10_choose_1 : decode cX10_choose 1 = .ok (.istore 4, 2) := by decide +kernel
theorem dX10_choose_3 : decode cX10_choose 3 = .ok (.iload 4, 2) := by decide +kernel
theorem dX10_choose_5 : decode cX10_choose 5 = .ok (.iconst 4, 1) := by decide +kernel
theorem dX10_choose_6 : decode cX10_choose 6 = .ok (.if_icmp .ge 49, 3) := by decide +kernel
theorem dX10_choose_9 : decode cX10_choose 9 = .ok (.iload_n 1, 1) := by decide +kernel
theorem dX10_choose_10 : decode cX10_choose 10 = .ok (.iload 4, 2) := by decide +kernel
theorem dX10_choose_12 : decode cX10_choose 12 = .ok (.invokestatic 44, 3) := by decide +kernel
theorem dX10_choose_15 : decode cX10_choose 15 = .ok (.lstore 5, 2) := by decide +kernel
theorem dX10_choose_17 : decode cX10_choose 17 = .ok (.aload_n 0, 1) := by decide +kernel
theorem dX10_choose_18 : decode cX10_choose 18 = .ok (.getfield 9, 3) := by decide +kernel
theorem dX10_choose_21 : decode cX10_choose 21 = .ok (.iload 4, 2) := by decide +kernel
theorem dX10_choose_23 : decode cX10_choose 23 = .ok (.lload 5, 2) := by decide +kernel
theorem dX10_choose_25 : decode cX10_choose 25 = .ok (.aload_n 2, 1) := by decide +kernel
theorem dX10_choose_26 : decode cX10_choose 26 = .ok (.getfield 9, 3) := by decide +kernel
theorem dX10_choose_29 : decode cX10_choose 29 = .ok (.iload 4, 2) := by decide +kernel
theorem dX10_choose_31 : decode cX10_choose 31 = .ok (.laload, 1) := by decide +kernel
theorem dX10_choose_32 : decode cX10_choose 32 = .ok (.land, 1) := by decide +kernel
theorem dX10_choose_33 : decode cX10_choose 33 = .ok (.lload 5, 2) := by decide +kernel
theorem dX10_choose_35 : decode cX10_choose 35 = .ok (.ldc2_w 18, 3) := by decide +kernel
theorem dX10_choose_38 : decode cX10_choose 38 = .ok (.lxor, 1) := by decide +kernel
theorem dX10_choose_39 : decode cX10_choose 39 = .ok (.aload_n 3, 1) := by decide +kernel
theorem dX10_choose_40 : decode cX10_choose 40 = .ok (.getfield 9, 3) := by decide +kernel
theorem dX10_choose_43 : decode cX10_choose 43 = .ok (.iload 4, 2) := by decide +kernel
theorem dX10_choose_45 : decode cX10_choose 45 = .ok (.laload, 1) := by decide +kernel
theorem dX10_choose_46 : decode cX10_choose 46 = .ok (.land, 1) := by decide +kernel
theorem dX10_choose_47 : decode cX10_choose 47 = .ok (.lor, 1) := by decide +kernel
theorem dX10_choose_48 : decode cX10_choose 48 = .ok (.lastore, 1) := by decide +kernel
theorem dX10_choose_49 : decode cX10_choose 49 = .ok (.iinc 4 1, 3) := by decide +kernel
theorem dX10_choose_52 : decode cX10_choose 52 = .ok (.goto (-49), 3) := by decide +kernel
theorem dX10_choose_55 : decode cX10_choose 55 = .ok (.return_, 1) := by decide +kernel
theorem dX10_spreadBut_0 : decode cX10_spreadBut 0 = .ok (.iconst 0, 1) := by decide +kernel
theorem dX10_spreadBut_1 : decode cX10_spreadBut 1 = .ok (.istore_n 2, 1) := by decide +kernel
theorem dX10_spreadBut_2 : decode cX10_spreadBut 2 = .ok (.iload_n 2, 1) := by decide +kernel
theorem dX10_spreadBut_3 : decode cX10_spreadBut 3 = .ok (.bipush 8, 2) := by decide +kernel
theorem dX10_spreadBut_5 : decode cX10_spreadBut 5 = .ok (.if_icmp .ge 22, 3) := by decide +kernel
theorem dX10_spreadBut_8 : decode cX10_spreadBut 8 = .ok (.iload_n 1, 1) := by decide +kernel
theorem dX10_spreadBut_9 : decode cX10_spreadBut 9 = .ok (.iload_n 2, 1) := by decide +kernel
theorem dX10_spreadBut_10 : decode cX10_spreadBut 10 = .ok (.ishr, 1) := by decide +kernel
theorem dX10_spreadBut_11 : decode cX10_spreadBut 11 = .ok (.iconst 1, 1) := by decide +kernel
theorem dX10_spreadBut_12 : decode cX10_spreadBut 12 = .ok (.iand, 1) := by decide +kernel
theorem dX10_spreadBut_13 : decode cX10_spreadBut 13 = .ok (.ifCond .ne 8, 3) := by decide +kernel
theorem dX10_spreadBut_16 : decode cX10_spreadBut 16 = .ok (.aload_n 0, 1) := by decide +kernel
theorem dX10_spreadBut_17 : decode cX10_spreadBut 17 = .ok (.iload_n 2, 1) := by decide +kernel
theorem dX10_spreadBut_18 : decode cX10_spreadBut 18 = .ok (.invokevirtual 51, 3) := by decide +kernel
theorem dX10_spreadBut_21 : decode cX10_spreadBut 21 = .ok (.iinc 2 1, 3) := by decide +kernel
theorem dX10_spreadBut_24 : decode cX10_spreadBut 24 = .ok (.goto (-22), 3) := by decide +kernel
theorem dX10_spreadBut_27 : decode cX10_spreadBut 27 = .ok (.return_, 1) := by decide +kernel
theorem dX10_lettersLookedAt_0 : decode cX10_lettersLookedAt 0 = .ok (.iconst 0, 1) := by decide +kernel
theorem dX10_lettersLookedAt_1 : decode cX10_lettersLookedAt 1 = .ok (.istore_n 1, 1) := by decide +kernel
theorem dX10_lettersLookedAt_2 : decode cX10_lettersLookedAt 2 = .ok (.iconst 0, 1) := by decide +kernel
theorem dX10_lettersLookedAt_3 : decode cX10_lettersLookedAt 3 = .ok (.istore_n 2, 1) := by decide +kernel
theorem dX10_lettersLookedAt_4 : decode cX10_lettersLookedAt 4 = .ok (.iload_n 2, 1) := by decide +kernel
theorem dX10_lettersLookedAt_5 : decode cX10_lettersLookedAt 5 = .ok (.bipush 8, 2) := by decide +kernel
theorem dX10_lettersLookedAt_7 : decode cX10_lettersLookedAt 7 = .ok (.if_icmp .ge 23, 3) := by decide +kernel
theorem dX10_lettersLookedAt_10 : decode cX10_lettersLookedAt 10 = .ok (.aload_n 0, 1) := by decide +kernel
theorem dX10_lettersLookedAt_11 : decode cX10_lettersLookedAt 11 = .ok (.iload_n 2, 1) := by decide +kernel
theorem dX10_lettersLookedAt_12 : decode cX10_lettersLookedAt 12 = .ok (.invokevirtual 55, 3) := by decide +kernel
theorem dX10_lettersLookedAt_15 : decode cX10_lettersLookedAt 15 = .ok (.ifCond .eq 9, 3) := by decide +kernel
theorem dX10_lettersLookedAt_18 : decode cX10_lettersLookedAt 18 = .ok (.iload_n 1, 1) := by decide +kernel
theorem dX10_lettersLookedAt_19 : decode cX10_lettersLookedAt 19 = .ok (.iconst 1, 1) := by decide +kernel
theorem dX10_lettersLookedAt_20 : decode cX10_lettersLookedAt 20 = .ok (.iload_n 2, 1) := by decide +kernel
theorem dX10_lettersLookedAt_21 : decode cX10_lettersLookedAt 21 = .ok (.ishl, 1) := by decide +kernel
theorem dX10_lettersLookedAt_22 : decode cX10_lettersLookedAt 22 = .ok (.ior, 1) := by decide +kernel
theorem dX10_lettersLookedAt_23 : decode cX10_lettersLookedAt 23 = .ok (.istore_n 1, 1) := by decide +kernel
theorem dX10_lettersLookedAt_24 : decode cX10_lettersLookedAt 24 = .ok (.iinc 2 1, 3) := by decide +kernel
theorem dX10_lettersLookedAt_27 : decode cX10_lettersLookedAt 27 = .ok (.goto (-23), 3) := by decide +kernel
theorem dX10_lettersLookedAt_30 : decode cX10_lettersLookedAt 30 = .ok (.iload_n 1, 1) := by decide +kernel
theorem dX10_lettersLookedAt_31 : decode cX10_lettersLookedAt 31 = .ok (.ireturn, 1) := by decide +kernel
theorem dX10_put_0 : decode cX10_put 0 = .ok (.iload_n 1, 1) := by decide +kernel
theorem dX10_put_1 : decode cX10_put 1 = .ok (.invokestatic 20, 3) := by decide +kernel
theorem dX10_put_4 : decode cX10_put 4 = .ok (.ifCond .ne 4, 3) := by decide +kernel
theorem dX10_put_7 : decode cX10_put 7 = .ok (.return_, 1) := by decide +kernel
theorem dX10_put_8 : decode cX10_put 8 = .ok (.lconst 1, 1) := by decide +kernel
theorem dX10_put_9 : decode cX10_put 9 = .ok (.iload_n 1, 1) := by decide +kernel
theorem dX10_put_10 : decode cX10_put 10 = .ok (.bipush 63, 2) := by decide +kernel
theorem dX10_put_12 : decode cX10_put 12 = .ok (.iand, 1) := by decide +kernel
theorem dX10_put_13 : decode cX10_put 13 = .ok (.lshl, 1) := by decide +kernel
theorem dX10_put_14 : decode cX10_put 14 = .ok (.lstore_n 3, 1) := by decide +kernel
theorem dX10_put_15 : decode cX10_put 15 = .ok (.iload_n 2, 1) := by decide +kernel
theorem dX10_put_16 : decode cX10_put 16 = .ok (.ifCond .eq 19, 3) := by decide +kernel
theorem dX10_put_19 : decode cX10_put 19 = .ok (.aload_n 0, 1) := by decide +kernel
theorem dX10_put_20 : decode cX10_put 20 = .ok (.getfield 9, 3) := by decide +kernel
theorem dX10_put_23 : decode cX10_put 23 = .ok (.iload_n 1, 1) := by decide +kernel
theorem dX10_put_24 : decode cX10_put 24 = .ok (.bipush 6, 2) := by decide +kernel
theorem dX10_put_26 : decode cX10_put 26 = .ok (.ishr, 1) := by decide +kernel
theorem dX10_put_27 : decode cX10_put 27 = .ok (.dup2, 1) := by decide +kernel
theorem dX10_put_28 : decode cX10_put 28 = .ok (.laload, 1) := by decide +kernel
theorem dX10_put_29 : decode cX10_put 29 = .ok (.lload_n 3, 1) := by decide +kernel
theorem dX10_put_30 : decode cX10_put 30 = .ok (.lor, 1) := by decide +kernel
theorem dX10_put_31 : decode cX10_put 31 = .ok (.lastore, 1) := by decide +kernel
theorem dX10_put_32 : decode cX10_put 32 = .ok (.goto 20, 3) := by decide +kernel
theorem dX10_put_35 : decode cX10_put 35 = .ok (.aload_n 0, 1) := by decide +kernel
theorem dX10_put_36 : decode cX10_put 36 = .ok (.getfield 9, 3) := by decide +kernel
theorem dX10_put_39 : decode cX10_put 39 = .ok (.iload_n 1, 1) := by decide +kernel
theorem dX10_put_40 : decode cX10_put 40 = .ok (.bipush 6, 2) := by decide +kernel
theorem dX10_put_42 : decode cX10_put 42 = .ok (.ishr, 1) := by decide +kernel
theorem dX10_put_43 : decode cX10_put 43 = .ok (.dup2, 1) := by decide +kernel
theorem dX10_put_44 : decode cX10_put 44 = .ok (.laload, 1) := by decide +kernel
theorem dX10_put_45 : decode cX10_put 45 = .ok (.lload_n 3, 1) := by decide +kernel
theorem dX10_put_46 : decode cX10_put 46 = .ok (.ldc2_w 18, 3) := by decide +kernel
theorem dX10_put_49 : decode cX10_put 49 = .ok (.lxor, 1) := by decide +kernel
theorem dX10_put_50 : decode cX10_put 50 = .ok (.land, 1) := by decide +kernel
theorem dX10_put_51 : decode cX10_put 51 = .ok (.lastore, 1) := by decide +kernel
theorem dX10_put_52 : decode cX10_put 52 = .ok (.return_, 1) := by decide +kernel
def bc64 (x : Int64) : Int32 := let x1 : Int64 := x - (((x.toUInt64 >>> ((1 : Int32).toInt64.toUInt64 &&& Int64.toUInt64 63)).toInt64) &&& 6148914691236517205); let x3 : Int64 := (x1 &&& 3689348814741910323) + (((x1.toUInt64 >>> ((2 : Int32).toInt64.toUInt64 &&& Int64.toUInt64 63)).toInt64) &&& 3689348814741910323); let x5 : Int64 := (x3 + ((x3.toUInt64 >>> ((4 : Int32).toInt64.toUInt64 &&& Int64.toUInt64 63)).toInt64)) &&& 1085102592571150095; let x7 : Int64 := x5 + ((x5.toUInt64 >>> ((8 : Int32).toInt64.toUInt64 &&& Int64.toUInt64 63)).toInt64); let x9 : Int64 := x7 + ((x7.toUInt64 >>> ((16 : Int32).toInt64.toUInt64 &&& Int64.toUInt64 63)).toInt64); let x11 : Int64 := x9 + ((x9.toUInt64 >>> ((32 : Int32).toInt64.toUInt64 &&& Int64.toUInt64 63)).toInt64); ((x11 : Int64).toInt32) &&& 127
set_option maxRecDepth 20000 in
theorem s_J13_bitCount_95d88 {xs : Nat → Int32} {L d sz : Nat} {h : ev_H} {x : Int64}  : EV xs L (d + 0) 0 0 M_J13_bitCount_95d88 sz h 0 [some (.long x), none] [] (fun sz' h' r => sz' = sz ∧ h' = h ∧ r = [.int (bc64 x)]) := by
  refine r_lload_n rfl dJ13_bitCount_95d88_0 rfl ?_
  refine r_lload_n rfl dJ13_bitCount_95d88_1 rfl ?_
  refine r_iconst (v := 1) rfl dJ13_bitCount_95d88_2 (by decide) ?_
  refine r_lushr rfl dJ13_bitCount_95d88_3 ?_
  refine r_ldc2 (v := 6148914691236517205) rfl dJ13_bitCount_95d88_4 lc_J13_314 ?_
  refine r_land rfl dJ13_bitCount_95d88_7 ?_
  refine r_lsub rfl dJ13_bitCount_95d88_8 ?_
  refine r_topl (fun x1 e2 => ?_)
  refine r_lstore_n (ls' := [some (.long x1), none]) rfl dJ13_bitCount_95d88_9 (Nat.le_of_ble_eq_true rfl) rfl ?_
  refine r_lload_n rfl dJ13_bitCount_95d88_10 rfl ?_
  refine r_ldc2 (v := 3689348814741910323) rfl dJ13_bitCount_95d88_11 lc_J13_316 ?_
  refine r_land rfl dJ13_bitCount_95d88_14 ?_
  refine r_lload_n rfl dJ13_bitCount_95d88_15 rfl ?_
  refine r_iconst (v := 2) rfl dJ13_bitCount_95d88_16 (by decide) ?_
  refine r_lushr rfl dJ13_bitCount_95d88_17 ?_
  refine r_ldc2 (v := 3689348814741910323) rfl dJ13_bitCount_95d88_18 lc_J13_316 ?_
  refine r_land rfl dJ13_bitCount_95d88_21 ?_
  refine r_ladd rfl dJ13_bitCount_95d88_22 ?_
  refine r_topl (fun x3 e4 => ?_)
  refine r_lstore_n (ls' := [some (.long x3), none]) rfl dJ13_bitCount_95d88_23 (Nat.le_of_ble_eq_true rfl) rfl ?_
  refine r_lload_n rfl dJ13_bitCount_95d88_24 rfl ?_
  refine r_lload_n rfl dJ13_bitCount_95d88_25 rfl ?_
  refine r_iconst (v := 4) rfl dJ13_bitCount_95d88_26 (by decide) ?_
  refine r_lushr rfl dJ13_bitCount_95d88_27 ?_
  refine r_ladd rfl dJ13_bitCount_95d88_28 ?_
  refine r_ldc2 (v := 1085102592571150095) rfl dJ13_bitCount_95d88_29 lc_J13_318 ?_
  refine r_land rfl dJ13_bitCount_95d88_32 ?_
  refine r_topl (fun x5 e6 => ?_)
  refine r_lstore_n (ls' := [some (.long x5), none]) rfl dJ13_bitCount_95d88_33 (Nat.le_of_ble_eq_true rfl) rfl ?_
  refine r_lload_n rfl dJ13_bitCount_95d88_34 rfl ?_
  refine r_lload_n rfl dJ13_bitCount_95d88_35 rfl ?_
  refine r_bipush (v := 8) rfl dJ13_bitCount_95d88_36 (by decide) ?_
  refine r_lushr rfl dJ13_bitCount_95d88_38 ?_
  refine r_ladd rfl dJ13_bitCount_95d88_39 ?_
  refine r_topl (fun x7 e8 => ?_)
  refine r_lstore_n (ls' := [some (.long x7), none]) rfl dJ13_bitCount_95d88_40 (Nat.le_of_ble_eq_true rfl) rfl ?_
  refine r_lload_n rfl dJ13_bitCount_95d88_41 rfl ?_
  refine r_lload_n rfl dJ13_bitCount_95d88_42 rfl ?_
  refine r_bipush (v := 16) rfl dJ13_bitCount_95d88_43 (by decide) ?_
  refine r_lushr rfl dJ13_bitCount_95d88_45 ?_
  refine r_ladd rfl dJ13_bitCount_95d88_46 ?_
  refine r_topl (fun x9 e10 => ?_)
  refine r_lstore_n (ls' := [some (.long x9), none]) rfl dJ13_bitCount_95d88_47 (Nat.le_of_ble_eq_true rfl) rfl ?_
  refine r_lload_n rfl dJ13_bitCount_95d88_48 rfl ?_
  refine r_lload_n rfl dJ13_bitCount_95d88_49 rfl ?_
  refine r_bipush (v := 32) rfl dJ13_bitCount_95d88_50 (by decide) ?_
  refine r_lushr rfl dJ13_bitCount_95d88_52 ?_
  refine r_ladd rfl dJ13_bitCount_95d88_53 ?_
  refine r_topl (fun x11 e12 => ?_)
  refine r_lstore_n (ls' := [some (.long x11), none]) rfl dJ13_bitCount_95d88_54 (Nat.le_of_ble_eq_true rfl) rfl ?_
  refine r_lload_n rfl dJ13_bitCount_95d88_55 rfl ?_
  refine r_l2i rfl dJ13_bitCount_95d88_56 ?_
  refine r_bipush (v := 127) rfl dJ13_bitCount_95d88_57 (by decide) ?_
  refine r_iand rfl dJ13_bitCount_95d88_59 ?_
  subst e12
  subst e10
  subst e8
  subst e6
  subst e4
  subst e2
  exact r_ret dJ13_bitCount_95d88_60 (rt_i rfl) ⟨rfl, rfl, rfl⟩
set_option maxRecDepth 20000 in
theorem s_X10_wipe {xs : Nat → Int32} {L d sz : Nat} {h : ev_H} {a q : Nat} {t : Nat → Int64} {x0 x1 x2 x3 : Int64} (hw : isWS h sz a q t x0 x1 x2 x3) : EV xs L (d + 0) 0 0 M_X10_wipe sz h 0 [some (.ref a), none] [] (fun sz' h' r => sz' = sz ∧ h' = va_up h q (.inl (1, 4, .inr (.inl (ws4 t 0 0 0 0)))) ∧ r = []) := by
  obtain ⟨ba, bq, f1, f2⟩ := hw
  refine r_iconst (v := 0) rfl dX10_wipe_0 (by decide) ?_
  refine r_istore_n (ls' := [some (.ref a), some (.int 0)]) rfl dX10_wipe_1 (Nat.le_of_ble_eq_true rfl) rfl ?_
  refine r_iload_n rfl dX10_wipe_2 rfl ?_
  refine r_iconst (v := 4) rfl dX10_wipe_3 (by decide) ?_
  refine r_icmp_ge (tgt := 20) rfl rfl dX10_wipe_4 (fun c => absurd c (by decide)) (fun _ => ?_)
  refine r_aload_n rfl dX10_wipe_7 rfl ?_
  refine r_getv 0 rfl dX10_wipe_8 ba f1 fl_X10_9 rfl ?_
  refine r_iload_n rfl dX10_wipe_11 rfl ?_
  refine r_lconst (v := 0) rfl dX10_wipe_12 (by decide) ?_
  refine r_lastv (jn := 0) (f' := ws4 t 0 x1 x2 x3) rfl dX10_wipe_13 bq f2 (by unfold vp_in; decide) rfl (ws4_u0 _ _ _ _ _ _) (fun h51 eh52 => ?_)
  have f53 : h51 q = .inl (1, 4, .inr (.inl (ws4 t 0 x1 x2 x3))) := by rw [eh52]; exact va_up_self _ _ _
  have f54 : h51 a = .inr (10, [.ref q]) := by rw [eh52, va_up_ne _ _ (fun q => by rw [q, f2] at f1; cases f1)]; exact f1
  refine r_iinc (y := 1) (ls' := [some (.ref a), some (.int 1)]) rfl dX10_wipe_14 rfl (by decide) (Nat.le_of_ble_eq_true rfl) rfl ?_
  refine r_goto (pc' := 2) rfl dX10_wipe_17 ?_
  refine r_iload_n rfl dX10_wipe_2 rfl ?_
  refine r_iconst (v := 4) rfl dX10_wipe_3 (by decide) ?_
  refine r_icmp_ge (tgt := 20) rfl rfl dX10_wipe_4 (fun c => absurd c (by decide)) (fun _ => ?_)
  refine r_aload_n rfl dX10_wipe_7 rfl ?_
  refine r_getv 0 rfl dX10_wipe_8 ba f54 fl_X10_9 rfl ?_
  refine r_iload_n rfl dX10_wipe_11 rfl ?_
  refine r_lconst (v := 0) rfl dX10_wipe_12 (by decide) ?_
  refine r_lastv (jn := 1) (f' := ws4 t 0 0 x2 x3) rfl dX10_wipe_13 bq f53 (by unfold vp_in; decide) rfl (ws4_u1 _ _ _ _ _ _) (fun h55 eh56 => ?_)
  have f57 : h55 q = .inl (1, 4, .inr (.inl (ws4 t 0 0 x2 x3))) := by rw [eh56]; exact va_up_self _ _ _
  have f58 : h55 a = .inr (10, [.ref q]) := by rw [eh56, va_up_ne _ _ (fun q => by rw [q, f53] at f54; cases f54)]; exact f54
  refine r_iinc (y := 2) (ls' := [some (.ref a), some (.int 2)]) rfl dX10_wipe_14 rfl (by decide) (Nat.le_of_ble_eq_true rfl) rfl ?_
  refine r_goto (pc' := 2) rfl dX10_wipe_17 ?_
  refine r_iload_n rfl dX10_wipe_2 rfl ?_
  refine r_iconst (v := 4) rfl dX10_wipe_3 (by decide) ?_
  refine r_icmp_ge (tgt := 20) rfl rfl dX10_wipe_4 (fun c => absurd c (by decide)) (fun _ => ?_)
  refine r_aload_n rfl dX10_wipe_7 rfl ?_
  refine r_getv 0 rfl dX10_wipe_8 ba f58 fl_X10_9 rfl ?_
  refine r_iload_n rfl dX10_wipe_11 rfl ?_
  refine r_lconst (v := 0) rfl dX10_wipe_12 (by decide) ?_
  refine r_lastv (jn := 2) (f' := ws4 t 0 0 0 x3) rfl dX10_wipe_13 bq f57 (by unfold vp_in; decide) rfl (ws4_u2 _ _ _ _ _ _) (fun h59 eh60 => ?_)
  have f61 : h59 q = .inl (1, 4, .inr (.inl (ws4 t 0 0 0 x3))) := by rw [eh60]; exact va_up_self _ _ _
  have f62 : h59 a = .inr (10, [.ref q]) := by rw [eh60, va_up_ne _ _ (fun q => by rw [q, f57] at f58; cases f58)]; exact f58
  refine r_iinc (y := 3) (ls' := [some (.ref a), some (.int 3)]) rfl dX10_wipe_14 rfl (by decide) (Nat.le_of_ble_eq_true rfl) rfl ?_
  refine r_goto (pc' := 2) rfl dX10_wipe_17 ?_
  refine r_iload_n rfl dX10_wipe_2 rfl ?_
  refine r_iconst (v := 4) rfl dX10_wipe_3 (by decide) ?_
  refine r_icmp_ge (tgt := 20) rfl rfl dX10_wipe_4 (fun c => absurd c (by decide)) (fun _ => ?_)
  refine r_aload_n rfl dX10_wipe_7 rfl ?_
  refine r_getv 0 rfl dX10_wipe_8 ba f62 fl_X10_9 rfl ?_
  refine r_iload_n rfl dX10_wipe_11 rfl ?_
  refine r_lconst (v := 0) rfl dX10_wipe_12 (by decide) ?_
  refine r_lastv (jn := 3) (f' := ws4 t 0 0 0 0) rfl dX10_wipe_13 bq f61 (by unfold vp_in; decide) rfl (ws4_u3 _ _ _ _ _ _) (fun h63 eh64 => ?_)
  have f65 : h63 q = .inl (1, 4, .inr (.inl (ws4 t 0 0 0 0))) := by rw [eh64]; exact va_up_self _ _ _
  have f66 : h63 a = .inr (10, [.ref q]) := by rw [eh64, va_up_ne _ _ (fun q => by rw [q, f61] at f62; cases f62)]; exact f62
  refine r_iinc (y := 4) (ls' := [some (.ref a), some (.int 4)]) rfl dX10_wipe_14 rfl (by decide) (Nat.le_of_ble_eq_true rfl) rfl ?_
  refine r_goto (pc' := 2) rfl dX10_wipe_17 ?_
  refine r_iload_n rfl dX10_wipe_2 rfl ?_
  refine r_iconst (v := 4) rfl dX10_wipe_3 (by decide) ?_
  refine r_icmp_ge (tgt := 20) rfl rfl dX10_wipe_4 (fun _ => ?_) (fun c => absurd c (by decide))
  subst eh64
  subst eh60
  subst eh56
  subst eh52
  exact r_ret dX10_wipe_20 (rt_v rfl) ⟨rfl, (by simp only [va_up_up]), rfl⟩
set_option maxRecDepth 20000 in
theorem s_X10_turn {xs : Nat → Int32} {L d sz : Nat} {h : ev_H} {a q : Nat} {t : Nat → Int64} {x0 x1 x2 x3 : Int64} (hw : isWS h sz a q t x0 x1 x2 x3) : EV xs L (d + 0) 0 0 M_X10_turn sz h 0 [some (.ref a), none] [] (fun sz' h' r => sz' = sz ∧ h' = va_up h q (.inl (1, 4, .inr (.inl (ws4 t (x0 ^^^ (-1)) (x1 ^^^ (-1)) (x2 ^^^ (-1)) (x3 ^^^ (-1)))))) ∧ r = []) := by
  obtain ⟨ba, bq, f1, f2⟩ := hw
  refine r_iconst (v := 0) rfl dX10_turn_0 (by decide) ?_
  refine r_istore_n (ls' := [some (.ref a), some (.int 0)]) rfl dX10_turn_1 (Nat.le_of_ble_eq_true rfl) rfl ?_
  refine r_iload_n rfl dX10_turn_2 rfl ?_
  refine r_iconst (v := 4) rfl dX10_turn_3 (by decide) ?_
  refine r_icmp_ge (tgt := 29) rfl rfl dX10_turn_4 (fun c => absurd c (by decide)) (fun _ => ?_)
  refine r_aload_n rfl dX10_turn_7 rfl ?_
  refine r_getv 0 rfl dX10_turn_8 ba f1 fl_X10_9 rfl ?_
  refine r_iload_n rfl dX10_turn_11 rfl ?_
  refine r_aload_n rfl dX10_turn_12 rfl ?_
  refine r_getv 0 rfl dX10_turn_13 ba f1 fl_X10_9 rfl ?_
  refine r_iload_n rfl dX10_turn_16 rfl ?_
  refine r_laldv (jn := 0) (v := x0) rfl dX10_turn_17 bq f2 (by unfold vp_in; decide) rfl rfl ?_
  refine r_ldc2 (v := (-1)) rfl dX10_turn_18 lc_X10_18 ?_
  refine r_lxor rfl dX10_turn_21 ?_
  refine r_topl (fun x51 e52 => ?_)
  refine r_lastv (jn := 0) (f' := ws4 t x51 x1 x2 x3) rfl dX10_turn_22 bq f2 (by unfold vp_in; decide) rfl (ws4_u0 _ _ _ _ _ _) (fun h53 eh54 => ?_)
  have f55 : h53 q = .inl (1, 4, .inr (.inl (ws4 t x51 x1 x2 x3))) := by rw [eh54]; exact va_up_self _ _ _
  have f56 : h53 a = .inr (10, [.ref q]) := by rw [eh54, va_up_ne _ _ (fun q => by rw [q, f2] at f1; cases f1)]; exact f1
  refine r_iinc (y := 1) (ls' := [some (.ref a), some (.int 1)]) rfl dX10_turn_23 rfl (by decide) (Nat.le_of_ble_eq_true rfl) rfl ?_
  refine r_goto (pc' := 2) rfl dX10_turn_26 ?_
  refine r_iload_n rfl dX10_turn_2 rfl ?_
  refine r_iconst (v := 4) rfl dX10_turn_3 (by decide) ?_
  refine r_icmp_ge (tgt := 29) rfl rfl dX10_turn_4 (fun c => absurd c (by decide)) (fun _ => ?_)
  refine r_aload_n rfl dX10_turn_7 rfl ?_
  refine r_getv 0 rfl dX10_turn_8 ba f56 fl_X10_9 rfl ?_
  refine r_iload_n rfl dX10_turn_11 rfl ?_
  refine r_aload_n rfl dX10_turn_12 rfl ?_
  refine r_getv 0 rfl dX10_turn_13 ba f56 fl_X10_9 rfl ?_
  refine r_iload_n rfl dX10_turn_16 rfl ?_
  refine r_laldv (jn := 1) (v := x1) rfl dX10_turn_17 bq f55 (by unfold vp_in; decide) rfl rfl ?_
  refine r_ldc2 (v := (-1)) rfl dX10_turn_18 lc_X10_18 ?_
  refine r_lxor rfl dX10_turn_21 ?_
  refine r_topl (fun x57 e58 => ?_)
  refine r_lastv (jn := 1) (f' := ws4 t x51 x57 x2 x3) rfl dX10_turn_22 bq f55 (by unfold vp_in; decide) rfl (ws4_u1 _ _ _ _ _ _) (fun h59 eh60 => ?_)
  have f61 : h59 q = .inl (1, 4, .inr (.inl (ws4 t x51 x57 x2 x3))) := by rw [eh60]; exact va_up_self _ _ _
  have f62 : h59 a = .inr (10, [.ref q]) := by rw [eh60, va_up_ne _ _ (fun q => by rw [q, f55] at f56; cases f56)]; exact f56
  refine r_iinc (y := 2) (ls' := [some (.ref a), some (.int 2)]) rfl dX10_turn_23 rfl (by decide) (Nat.le_of_ble_eq_true rfl) rfl ?_
  refine r_goto (pc' := 2) rfl dX10_turn_26 ?_
  refine r_iload_n rfl dX10_turn_2 rfl ?_
  refine r_iconst (v := 4) rfl dX10_turn_3 (by decide) ?_
  refine r_icmp_ge (tgt := 29) rfl rfl dX10_turn_4 (fun c => absurd c (by decide)) (fun _ => ?_)
  refine r_aload_n rfl dX10_turn_7 rfl ?_
  refine r_getv 0 rfl dX10_turn_8 ba f62 fl_X10_9 rfl ?_
  refine r_iload_n rfl dX10_turn_11 rfl ?_
  refine r_aload_n rfl dX10_turn_12 rfl ?_
  refine r_getv 0 rfl dX10_turn_13 ba f62 fl_X10_9 rfl ?_
  refine r_iload_n rfl dX10_turn_16 rfl ?_
  refine r_laldv (jn := 2) (v := x2) rfl dX10_turn_17 bq f61 (by unfold vp_in; decide) rfl rfl ?_
  refine r_ldc2 (v := (-1)) rfl dX10_turn_18 lc_X10_18 ?_
  refine r_lxor rfl dX10_turn_21 ?_
  refine r_topl (fun x63 e64 => ?_)
  refine r_lastv (jn := 2) (f' := ws4 t x51 x57 x63 x3) rfl dX10_turn_22 bq f61 (by unfold vp_in; decide) rfl (ws4_u2 _ _ _ _ _ _) (fun h65 eh66 => ?_)
  have f67 : h65 q = .inl (1, 4, .inr (.inl (ws4 t x51 x57 x63 x3))) := by rw [eh66]; exact va_up_self _ _ _
  have f68 : h65 a = .inr (10, [.ref q]) := by rw [eh66, va_up_ne _ _ (fun q => by rw [q, f61] at f62; cases f62)]; exact f62
  refine r_iinc (y := 3) (ls' := [some (.ref a), some (.int 3)]) rfl dX10_turn_23 rfl (by decide) (Nat.le_of_ble_eq_true rfl) rfl ?_
  refine r_goto (pc' := 2) rfl dX10_turn_26 ?_
  refine r_iload_n rfl dX10_turn_2 rfl ?_
  refine r_iconst (v := 4) rfl dX10_turn_3 (by decide) ?_
  refine r_icmp_ge (tgt := 29) rfl rfl dX10_turn_4 (fun c => absurd c (by decide)) (fun _ => ?_)
  refine r_aload_n rfl dX10_turn_7 rfl ?_
  refine r_getv 0 rfl dX10_turn_8 ba f68 fl_X10_9 rfl ?_
  refine r_iload_n rfl dX10_turn_11 rfl ?_
  refine r_aload_n rfl dX10_turn_12 rfl ?_
  refine r_getv 0 rfl dX10_turn_13 ba f68 fl_X10_9 rfl ?_
  refine r_iload_n rfl dX10_turn_16 rfl ?_
  refine r_laldv (jn := 3) (v := x3) rfl dX10_turn_17 bq f67 (by unfold vp_in; decide) rfl rfl ?_
  refine r_ldc2 (v := (-1)) rfl dX10_turn_18 lc_X10_18 ?_
  refine r_lxor rfl dX10_turn_21 ?_
  refine r_topl (fun x69 e70 => ?_)
  refine r_lastv (jn := 3) (f' := ws4 t x51 x57 x63 x69) rfl dX10_turn_22 bq f67 (by unfold vp_in; decide) rfl (ws4_u3 _ _ _ _ _ _) (fun h71 eh72 => ?_)
  have f73 : h71 q = .inl (1, 4, .inr (.inl (ws4 t x51 x57 x63 x69))) := by rw [eh72]; exact va_up_self _ _ _
  have f74 : h71 a = .inr (10, [.ref q]) := by rw [eh72, va_up_ne _ _ (fun q => by rw [q, f67] at f68; cases f68)]; exact f68
  refine r_iinc (y := 4) (ls' := [some (.ref a), some (.int 4)]) rfl dX10_turn_23 rfl (by decide) (Nat.le_of_ble_eq_true rfl) rfl ?_
  refine r_goto (pc' := 2) rfl dX10_turn_26 ?_
  refine r_iload_n rfl dX10_turn_2 rfl ?_
  refine r_iconst (v := 4) rfl dX10_turn_3 (by decide) ?_
  refine r_icmp_ge (tgt := 29) rfl rfl dX10_turn_4 (fun _ => ?_) (fun c => absurd c (by decide))
  subst e70
  subst e64
  subst e58
  subst e52
  subst eh72
  subst eh66
  subst eh60
  subst eh54
  exact r_ret dX10_turn_29 (rt_v rfl) ⟨rfl, (by simp only [va_up_up]), rfl⟩
set_option maxRecDepth 20000 in
theorem s_X10_fill {xs : Nat → Int32} {L d sz : Nat} {h : ev_H} {a q : Nat} {t : Nat → Int64} {x0 x1 x2 x3 : Int64} (hw : isWS h sz a q t x0 x1 x2 x3) : EV xs L (d + 1) 0 0 M_X10_fill sz h 0 [some (.ref a)] [] (fun sz' h' r => sz' = sz ∧ h' = va_up h q (.inl (1, 4, .inr (.inl (ws4 t (-1) (-1) (-1) (-1))))) ∧ r = []) := by
  obtain ⟨ba, bq, f1, f2⟩ := hw
  refine r_aload_n rfl dX10_fill_0 rfl ?_
  refine cl_X10_38 rfl rfl dX10_fill_1 ba.1 ba.2 f1 (Nat.le_of_ble_eq_true rfl) (s_X10_wipe ⟨ba, bq, f1, f2⟩) ?_
  rintro _ h51 _ ⟨rfl, eh52, rfl⟩
  have f53 : h51 q = .inl (1, 4, .inr (.inl (ws4 t 0 0 0 0))) := by rw [eh52]; exact va_up_self _ _ _
  have f54 : h51 a = .inr (10, [.ref q]) := by rw [eh52, va_up_ne _ _ (fun q => by rw [q, f2] at f1; cases f1)]; exact f1
  refine r_aload_n rfl dX10_fill_4 rfl ?_
  refine cl_X10_41 rfl rfl dX10_fill_5 ba.1 ba.2 f54 (Nat.le_of_ble_eq_true rfl) (s_X10_turn ⟨ba, bq, f54, f53⟩) ?_
  rintro _ h55 _ ⟨rfl, eh56, rfl⟩
  have f57 : h55 q = .inl (1, 4, .inr (.inl (ws4 t (0 ^^^ (-1)) (0 ^^^ (-1)) (0 ^^^ (-1)) (0 ^^^ (-1))))) := by rw [eh56]; exact va_up_self _ _ _
  have f58 : h55 a = .inr (10, [.ref q]) := by rw [eh56, va_up_ne _ _ (fun q => by rw [q, f53] at f54; cases f54)]; exact f54
  subst eh56
  subst eh52
  exact r_ret dX10_fill_8 (rt_v rfl) ⟨rfl, (by simp only [va_up_up]; rfl), rfl⟩
set_option maxRecDepth 20000 in
theorem s_X10_become {xs : Nat → Int32} {L d sz : Nat} {h : ev_H} {a q b q2 : Nat} {t t2 : Nat → Int64} {x0 x1 x2 x3 y0 y1 y2 y3 : Int64} (hw : isWS h sz a q t x0 x1 x2 x3) (hw2 : isWS h sz b q2 t2 y0 y1 y2 y3) (hne : q2 ≠ q) : EV xs L (d + 0) 0 0 M_X10_become sz h 0 [some (.ref a), some (.ref b), none] [] (fun sz' h' r => sz' = sz ∧ h' = va_up h q (.inl (1, 4, .inr (.inl (ws4 t y0 y1 y2 y3)))) ∧ r = []) := by
  obtain ⟨ba, bq, f1, f2⟩ := hw
  obtain ⟨bb, bq2, f3, f4⟩ := hw2
  refine r_iconst (v := 0) rfl dX10_become_0 (by decide) ?_
  refine r_istore_n (ls' := [some (.ref a), some (.ref b), some (.int 0)]) rfl dX10_become_1 (Nat.le_of_ble_eq_true rfl) rfl ?_
  refine r_iload_n rfl dX10_become_2 rfl ?_
  refine r_iconst (v := 4) rfl dX10_become_3 (by decide) ?_
  refine r_icmp_ge (tgt := 25) rfl rfl dX10_become_4 (fun c => absurd c (by decide)) (fun _ => ?_)
  refine r_aload_n rfl dX10_become_7 rfl ?_
  refine r_getv 0 rfl dX10_become_8 ba f1 fl_X10_9 rfl ?_
  refine r_iload_n rfl dX10_become_11 rfl ?_
  refine r_aload_n rfl dX10_become_12 rfl ?_
  refine r_getv 0 rfl dX10_become_13 bb f3 fl_X10_9 rfl ?_
  refine r_iload_n rfl dX10_become_16 rfl ?_
  refine r_laldv (jn := 0) (v := y0) rfl dX10_become_17 bq2 f4 (by unfold vp_in; decide) rfl rfl ?_
  refine r_lastv (jn := 0) (f' := ws4 t y0 x1 x2 x3) rfl dX10_become_18 bq f2 (by unfold vp_in; decide) rfl (ws4_u0 _ _ _ _ _ _) (fun h51 eh52 => ?_)
  have f53 : h51 q = .inl (1, 4, .inr (.inl (ws4 t y0 x1 x2 x3))) := by rw [eh52]; exact va_up_self _ _ _
  have f54 : h51 a = .inr (10, [.ref q]) := by rw [eh52, va_up_ne _ _ (fun q => by rw [q, f2] at f1; cases f1)]; exact f1
  have f55 : h51 b = .inr (10, [.ref q2]) := by rw [eh52, va_up_ne _ _ (fun q => by rw [q, f2] at f3; cases f3)]; exact f3
  have f56 : h51 q2 = .inl (1, 4, .inr (.inl (ws4 t2 y0 y1 y2 y3))) := by rw [eh52, va_up_ne _ _ hne]; exact f4
  refine r_iinc (y := 1) (ls' := [some (.ref a), some (.ref b), some (.int 1)]) rfl dX10_become_19 rfl (by decide) (Nat.le_of_ble_eq_true rfl) rfl ?_
  refine r_goto (pc' := 2) rfl dX10_become_22 ?_
  refine r_iload_n rfl dX10_become_2 rfl ?_
  refine r_iconst (v := 4) rfl dX10_become_3 (by decide) ?_
  refine r_icmp_ge (tgt := 25) rfl rfl dX10_become_4 (fun c => absurd c (by decide)) (fun _ => ?_)
  refine r_aload_n rfl dX10_become_7 rfl ?_
  refine r_getv 0 rfl dX10_become_8 ba f54 fl_X10_9 rfl ?_
  refine r_iload_n rfl dX10_become_11 rfl ?_
  refine r_aload_n rfl dX10_become_12 rfl ?_
  refine r_getv 0 rfl dX10_become_13 bb f55 fl_X10_9 rfl ?_
  refine r_iload_n rfl dX10_become_16 rfl ?_
  refine r_laldv (jn := 1) (v := y1) rfl dX10_become_17 bq2 f56 (by unfold vp_in; decide) rfl rfl ?_
  refine r_lastv (jn := 1) (f' := ws4 t y0 y1 x2 x3) rfl dX10_become_18 bq f53 (by unfold vp_in; decide) rfl (ws4_u1 _ _ _ _ _ _) (fun h57 eh58 => ?_)
  have f59 : h57 q = .inl (1, 4, .inr (.inl (ws4 t y0 y1 x2 x3))) := by rw [eh58]; exact va_up_self _ _ _
  have f60 : h57 a = .inr (10, [.ref q]) := by rw [eh58, va_up_ne _ _ (fun q => by rw [q, f53] at f54; cases f54)]; exact f54
  have f61 : h57 b = .inr (10, [.ref q2]) := by rw [eh58, va_up_ne _ _ (fun q => by rw [q, f53] at f55; cases f55)]; exact f55
  have f62 : h57 q2 = .inl (1, 4, .inr (.inl (ws4 t2 y0 y1 y2 y3))) := by rw [eh58, va_up_ne _ _ hne]; exact f56
  refine r_iinc (y := 2) (ls' := [some (.ref a), some (.ref b), some (.int 2)]) rfl dX10_become_19 rfl (by decide) (Nat.le_of_ble_eq_true rfl) rfl ?_
  refine r_goto (pc' := 2) rfl dX10_become_22 ?_
  refine r_iload_n rfl dX10_become_2 rfl ?_
  refine r_iconst (v := 4) rfl dX10_become_3 (by decide) ?_
  refine r_icmp_ge (tgt := 25) rfl rfl dX10_become_4 (fun c => absurd c (by decide)) (fun _ => ?_)
  refine r_aload_n rfl dX10_become_7 rfl ?_
  refine r_getv 0 rfl dX10_become_8 ba f60 fl_X10_9 rfl ?_
  refine r_iload_n rfl dX10_become_11 rfl ?_
  refine r_aload_n rfl dX10_become_12 rfl ?_
  refine r_getv 0 rfl dX10_become_13 bb f61 fl_X10_9 rfl ?_
  refine r_iload_n rfl dX10_become_16 rfl ?_
  refine r_laldv (jn := 2) (v := y2) rfl dX10_become_17 bq2 f62 (by unfold vp_in; decide) rfl rfl ?_
  refine r_lastv (jn := 2) (f' := ws4 t y0 y1 y2 x3) rfl dX10_become_18 bq f59 (by unfold vp_in; decide) rfl (ws4_u2 _ _ _ _ _ _) (fun h63 eh64 => ?_)
  have f65 : h63 q = .inl (1, 4, .inr (.inl (ws4 t y0 y1 y2 x3))) := by rw [eh64]; exact va_up_self _ _ _
  have f66 : h63 a = .inr (10, [.ref q]) := by rw [eh64, va_up_ne _ _ (fun q => by rw [q, f59] at f60; cases f60)]; exact f60
  have f67 : h63 b = .inr (10, [.ref q2]) := by rw [eh64, va_up_ne _ _ (fun q => by rw [q, f59] at f61; cases f61)]; exact f61
  have f68 : h63 q2 = .inl (1, 4, .inr (.inl (ws4 t2 y0 y1 y2 y3))) := by rw [eh64, va_up_ne _ _ hne]; exact f62
  refine r_iinc (y := 3) (ls' := [some (.ref a), some (.ref b), some (.int 3)]) rfl dX10_become_19 rfl (by decide) (Nat.le_of_ble_eq_true rfl) rfl ?_
  refine r_goto (pc' := 2) rfl dX10_become_22 ?_
  refine r_iload_n rfl dX10_become_2 rfl ?_
  refine r_iconst (v := 4) rfl dX10_become_3 (by decide) ?_
  refine r_icmp_ge (tgt := 25) rfl rfl dX10_become_4 (fun c => absurd c (by decide)) (fun _ => ?_)
  refine r_aload_n rfl dX10_become_7 rfl ?_
  refine r_getv 0 rfl dX10_become_8 ba f66 fl_X10_9 rfl ?_
  refine r_iload_n rfl dX10_become_11 rfl ?_
  refine r_aload_n rfl dX10_become_12 rfl ?_
  refine r_getv 0 rfl dX10_become_13 bb f67 fl_X10_9 rfl ?_
  refine r_iload_n rfl dX10_become_16 rfl ?_
  refine r_laldv (jn := 3) (v := y3) rfl dX10_become_17 bq2 f68 (by unfold vp_in; decide) rfl rfl ?_
  refine r_lastv (jn := 3) (f' := ws4 t y0 y1 y2 y3) rfl dX10_become_18 bq f65 (by unfold vp_in; decide) rfl (ws4_u3 _ _ _ _ _ _) (fun h69 eh70 => ?_)
  have f71 : h69 q = .inl (1, 4, .inr (.inl (ws4 t y0 y1 y2 y3))) := by rw [eh70]; exact va_up_self _ _ _
  have f72 : h69 a = .inr (10, [.ref q]) := by rw [eh70, va_up_ne _ _ (fun q => by rw [q, f65] at f66; cases f66)]; exact f66
  have f73 : h69 b = .inr (10, [.ref q2]) := by rw [eh70, va_up_ne _ _ (fun q => by rw [q, f65] at f67; cases f67)]; exact f67
  have f74 : h69 q2 = .inl (1, 4, .inr (.inl (ws4 t2 y0 y1 y2 y3))) := by rw [eh70, va_up_ne _ _ hne]; exact f68
  refine r_iinc (y := 4) (ls' := [some (.ref a), some (.ref b), some (.int 4)]) rfl dX10_become_19 rfl (by decide) (Nat.le_of_ble_eq_true rfl) rfl ?_
  refine r_goto (pc' := 2) rfl dX10_become_22 ?_
  refine r_iload_n rfl dX10_become_2 rfl ?_
  refine r_iconst (v := 4) rfl dX10_become_3 (by decide) ?_
  refine r_icmp_ge (tgt := 25) rfl rfl dX10_become_4 (fun _ => ?_) (fun c => absurd c (by decide))
  subst eh70
  subst eh64
  subst eh58
  subst eh52
  exact r_ret dX10_become_25 (rt_v rfl) ⟨rfl, (by simp only [va_up_up]), rfl⟩
set_option maxRecDepth 20000 in
theorem s_X10_join {xs : Nat → Int32} {L d sz : Nat} {h : ev_H} {a q b q2 : Nat} {t t2 : Nat → Int64} {x0 x1 x2 x3 y0 y1 y2 y3 : Int64} (hw : isWS h sz a q t x0 x1 x2 x3) (hw2 : isWS h sz b q2 t2 y0 y1 y2 y3) (hne : q2 ≠ q) : EV xs L (d + 0) 0 0 M_X10_join sz h 0 [some (.ref a), some (.ref b), none] [] (fun sz' h' r => sz' = sz ∧ h' = va_up h q (.inl (1, 4, .inr (.inl (ws4 t (x0 ||| y0) (x1 ||| y1) (x2 ||| y2) (x3 ||| y3))))) ∧ r = []) := by
  obtain ⟨ba, bq, f1, f2⟩ := hw
  obtain ⟨bb, bq2, f3, f4⟩ := hw2
  refine r_iconst (v := 0) rfl dX10_join_0 (by decide) ?_
  refine r_istore_n (ls' := [some (.ref a), some (.ref b), some (.int 0)]) rfl dX10_join_1 (Nat.le_of_ble_eq_true rfl) rfl ?_
  refine r_iload_n rfl dX10_join_2 rfl ?_
  refine r_iconst (v := 4) rfl dX10_join_3 (by decide) ?_
  refine r_icmp_ge (tgt := 28) rfl rfl dX10_join_4 (fun c => absurd c (by decide)) (fun _ => ?_)
  refine r_aload_n rfl dX10_join_7 rfl ?_
  refine r_getv 0 rfl dX10_join_8 ba f1 fl_X10_9 rfl ?_
  refine r_iload_n rfl dX10_join_11 rfl ?_
  refine r_dup2 rfl dX10_join_12 (by intro q; cases q) (by intro q; cases q) ?_
  refine r_laldv (jn := 0) (v := x0) rfl dX10_join_13 bq f2 (by unfold vp_in; decide) rfl rfl ?_
  refine r_aload_n rfl dX10_join_14 rfl ?_
  refine r_getv 0 rfl dX10_join_15 bb f3 fl_X10_9 rfl ?_
  refine r_iload_n rfl dX10_join_18 rfl ?_
  refine r_laldv (jn := 0) (v := y0) rfl dX10_join_19 bq2 f4 (by unfold vp_in; decide) rfl rfl ?_
  refine r_lor rfl dX10_join_20 ?_
  refine r_topl (fun x51 e52 => ?_)
  refine r_lastv (jn := 0) (f' := ws4 t x51 x1 x2 x3) rfl dX10_join_21 bq f2 (by unfold vp_in; decide) rfl (ws4_u0 _ _ _ _ _ _) (fun h53 eh54 => ?_)
  have f55 : h53 q = .inl (1, 4, .inr (.inl (ws4 t x51 x1 x2 x3))) := by rw [eh54]; exact va_up_self _ _ _
  have f56 : h53 a = .inr (10, [.ref q]) := by rw [eh54, va_up_ne _ _ (fun q => by rw [q, f2] at f1; cases f1)]; exact f1
  have f57 : h53 b = .inr (10, [.ref q2]) := by rw [eh54, va_up_ne _ _ (fun q => by rw [q, f2] at f3; cases f3)]; exact f3
  have f58 : h53 q2 = .inl (1, 4, .inr (.inl (ws4 t2 y0 y1 y2 y3))) := by rw [eh54, va_up_ne _ _ hne]; exact f4
  refine r_iinc (y := 1) (ls' := [some (.ref a), some (.ref b), some (.int 1)]) rfl dX10_join_22 rfl (by decide) (Nat.le_of_ble_eq_true rfl) rfl ?_
  refine r_goto (pc' := 2) rfl dX10_join_25 ?_
  refine r_iload_n rfl dX10_join_2 rfl ?_
  refine r_iconst (v := 4) rfl dX10_join_3 (by decide) ?_
  refine r_icmp_ge (tgt := 28) rfl rfl dX10_join_4 (fun c => absurd c (by decide)) (fun _ => ?_)
  refine r_aload_n rfl dX10_join_7 rfl ?_
  refine r_getv 0 rfl dX10_join_8 ba f56 fl_X10_9 rfl ?_
  refine r_iload_n rfl dX10_join_11 rfl ?_
  refine r_dup2 rfl dX10_join_12 (by intro q; cases q) (by intro q; cases q) ?_
  refine r_laldv (jn := 1) (v := x1) rfl dX10_join_13 bq f55 (by unfold vp_in; decide) rfl rfl ?_
  refine r_aload_n rfl dX10_join_14 rfl ?_
  refine r_getv 0 rfl dX10_join_15 bb f57 fl_X10_9 rfl ?_
  refine r_iload_n rfl dX10_join_18 rfl ?_
  refine r_laldv (jn := 1) (v := y1) rfl dX10_join_19 bq2 f58 (by unfold vp_in; decide) rfl rfl ?_
  refine r_lor rfl dX10_join_20 ?_
  refine r_topl (fun x59 e60 => ?_)
  refine r_lastv (jn := 1) (f' := ws4 t x51 x59 x2 x3) rfl dX10_join_21 bq f55 (by unfold vp_in; decide) rfl (ws4_u1 _ _ _ _ _ _) (fun h61 eh62 => ?_)
  have f63 : h61 q = .inl (1, 4, .inr (.inl (ws4 t x51 x59 x2 x3))) := by rw [eh62]; exact va_up_self _ _ _
  have f64 : h61 a = .inr (10, [.ref q]) := by rw [eh62, va_up_ne _ _ (fun q => by rw [q, f55] at f56; cases f56)]; exact f56
  have f65 : h61 b = .inr (10, [.ref q2]) := by rw [eh62, va_up_ne _ _ (fun q => by rw [q, f55] at f57; cases f57)]; exact f57
  have f66 : h61 q2 = .inl (1, 4, .inr (.inl (ws4 t2 y0 y1 y2 y3))) := by rw [eh62, va_up_ne _ _ hne]; exact f58
  refine r_iinc (y := 2) (ls' := [some (.ref a), some (.ref b), some (.int 2)]) rfl dX10_join_22 rfl (by decide) (Nat.le_of_ble_eq_true rfl) rfl ?_
  refine r_goto (pc' := 2) rfl dX10_join_25 ?_
  refine r_iload_n rfl dX10_join_2 rfl ?_
  refine r_iconst (v := 4) rfl dX10_join_3 (by decide) ?_
  refine r_icmp_ge (tgt := 28) rfl rfl dX10_join_4 (fun c => absurd c (by decide)) (fun _ => ?_)
  refine r_aload_n rfl dX10_join_7 rfl ?_
  refine r_getv 0 rfl dX10_join_8 ba f64 fl_X10_9 rfl ?_
  refine r_iload_n rfl dX10_join_11 rfl ?_
  refine r_dup2 rfl dX10_join_12 (by intro q; cases q) (by intro q; cases q) ?_
  refine r_laldv (jn := 2) (v := x2) rfl dX10_join_13 bq f63 (by unfold vp_in; decide) rfl rfl ?_
  refine r_aload_n rfl dX10_join_14 rfl ?_
  refine r_getv 0 rfl dX10_join_15 bb f65 fl_X10_9 rfl ?_
  refine r_iload_n rfl dX10_join_18 rfl ?_
  refine r_laldv (jn := 2) (v := y2) rfl dX10_join_19 bq2 f66 (by unfold vp_in; decide) rfl rfl ?_
  refine r_lor rfl dX10_join_20 ?_
  refine r_topl (fun x67 e68 => ?_)
  refine r_lastv (jn := 2) (f' := ws4 t x51 x59 x67 x3) rfl dX10_join_21 bq f63 (by unfold vp_in; decide) rfl (ws4_u2 _ _ _ _ _ _) (fun h69 eh70 => ?_)
  have f71 : h69 q = .inl (1, 4, .inr (.inl (ws4 t x51 x59 x67 x3))) := by rw [eh70]; exact va_up_self _ _ _
  have f72 : h69 a = .inr (10, [.ref q]) := by rw [eh70, va_up_ne _ _ (fun q => by rw [q, f63] at f64; cases f64)]; exact f64
  have f73 : h69 b = .inr (10, [.ref q2]) := by rw [eh70, va_up_ne _ _ (fun q => by rw [q, f63] at f65; cases f65)]; exact f65
  have f74 : h69 q2 = .inl (1, 4, .inr (.inl (ws4 t2 y0 y1 y2 y3))) := by rw [eh70, va_up_ne _ _ hne]; exact f66
  refine r_iinc (y := 3) (ls' := [some (.ref a), some (.ref b), some (.int 3)]) rfl dX10_join_22 rfl (by decide) (Nat.le_of_ble_eq_true rfl) rfl ?_
  refine r_goto (pc' := 2) rfl dX10_join_25 ?_
  refine r_iload_n rfl dX10_join_2 rfl ?_
  refine r_iconst (v := 4) rfl dX10_join_3 (by decide) ?_
  refine r_icmp_ge (tgt := 28) rfl rfl dX10_join_4 (fun c => absurd c (by decide)) (fun _ => ?_)
  refine r_aload_n rfl dX10_join_7 rfl ?_
  refine r_getv 0 rfl dX10_join_8 ba f72 fl_X10_9 rfl ?_
  refine r_iload_n rfl dX10_join_11 rfl ?_
  refine r_dup2 rfl dX10_join_12 (by intro q; cases q) (by intro q; cases q) ?_
  refine r_laldv (jn := 3) (v := x3) rfl dX10_join_13 bq f71 (by unfold vp_in; decide) rfl rfl ?_
  refine r_aload_n rfl dX10_join_14 rfl ?_
  refine r_getv 0 rfl dX10_join_15 bb f73 fl_X10_9 rfl ?_
  refine r_iload_n rfl dX10_join_18 rfl ?_
  refine r_laldv (jn := 3) (v := y3) rfl dX10_join_19 bq2 f74 (by unfold vp_in; decide) rfl rfl ?_
  refine r_lor rfl dX10_join_20 ?_
  refine r_topl (fun x75 e76 => ?_)
  refine r_lastv (jn := 3) (f' := ws4 t x51 x59 x67 x75) rfl dX10_join_21 bq f71 (by unfold vp_in; decide) rfl (ws4_u3 _ _ _ _ _ _) (fun h77 eh78 => ?_)
  have f79 : h77 q = .inl (1, 4, .inr (.inl (ws4 t x51 x59 x67 x75))) := by rw [eh78]; exact va_up_self _ _ _
  have f80 : h77 a = .inr (10, [.ref q]) := by rw [eh78, va_up_ne _ _ (fun q => by rw [q, f71] at f72; cases f72)]; exact f72
  have f81 : h77 b = .inr (10, [.ref q2]) := by rw [eh78, va_up_ne _ _ (fun q => by rw [q, f71] at f73; cases f73)]; exact f73
  have f82 : h77 q2 = .inl (1, 4, .inr (.inl (ws4 t2 y0 y1 y2 y3))) := by rw [eh78, va_up_ne _ _ hne]; exact f74
  refine r_iinc (y := 4) (ls' := [some (.ref a), some (.ref b), some (.int 4)]) rfl dX10_join_22 rfl (by decide) (Nat.le_of_ble_eq_true rfl) rfl ?_
  refine r_goto (pc' := 2) rfl dX10_join_25 ?_
  refine r_iload_n rfl dX10_join_2 rfl ?_
  refine r_iconst (v := 4) rfl dX10_join_3 (by decide) ?_
  refine r_icmp_ge (tgt := 28) rfl rfl dX10_join_4 (fun _ => ?_) (fun c => absurd c (by decide))
  subst e76
  subst e68
  subst e60
  subst e52
  subst eh78
  subst eh70
  subst eh62
  subst eh54
  exact r_ret dX10_join_28 (rt_v rfl) ⟨rfl, (by simp only [va_up_up]), rfl⟩
set_option maxRecDepth 20000 in
theorem s_X10_meet {xs : Nat → Int32} {L d sz : Nat} {h : ev_H} {a q b q2 : Nat} {t t2 : Nat → Int64} {x0 x1 x2 x3 y0 y1 y2 y3 : Int64} (hw : isWS h sz a q t x0 x1 x2 x3) (hw2 : isWS h sz b q2 t2 y0 y1 y2 y3) (hne : q2 ≠ q) : EV xs L (d + 0) 0 0 M_X10_meet sz h 0 [some (.ref a), some (.ref b), none] [] (fun sz' h' r => sz' = sz ∧ h' = va_up h q (.inl (1, 4, .inr (.inl (ws4 t (x0 &&& y0) (x1 &&& y1) (x2 &&& y2) (x3 &&& y3))))) ∧ r = []) := by
  obtain ⟨ba, bq, f1, f2⟩ := hw
  obtain ⟨bb, bq2, f3, f4⟩ := hw2
  refine r_iconst (v := 0) rfl dX10_meet_0 (by decide) ?_
  refine r_istore_n (ls' := [some (.ref a), some (.ref b), some (.int 0)]) rfl dX10_meet_1 (Nat.le_of_ble_eq_true rfl) rfl ?_
  refine r_iload_n rfl dX10_meet_2 rfl ?_
  refine r_iconst (v := 4) rfl dX10_meet_3 (by decide) ?_
  refine r_icmp_ge (tgt := 28) rfl rfl dX10_meet_4 (fun c => absurd c (by decide)) (fun _ => ?_)
  refine r_aload_n rfl dX10_meet_7 rfl ?_
  refine r_getv 0 rfl dX10_meet_8 ba f1 fl_X10_9 rfl ?_
  refine r_iload_n rfl dX10_meet_11 rfl ?_
  refine r_dup2 rfl dX10_meet_12 (by intro q; cases q) (by intro q; cases q) ?_
  refine r_laldv (jn := 0) (v := x0) rfl dX10_meet_13 bq f2 (by unfold vp_in; decide) rfl rfl ?_
  refine r_aload_n rfl dX10_meet_14 rfl ?_
  refine r_getv 0 rfl dX10_meet_15 bb f3 fl_X10_9 rfl ?_
  refine r_iload_n rfl dX10_meet_18 rfl ?_
  refine r_laldv (jn := 0) (v := y0) rfl dX10_meet_19 bq2 f4 (by unfold vp_in; decide) rfl rfl ?_
  refine r_land rfl dX10_meet_20 ?_
  refine r_topl (fun x51 e52 => ?_)
  refine r_lastv (jn := 0) (f' := ws4 t x51 x1 x2 x3) rfl dX10_meet_21 bq f2 (by unfold vp_in; decide) rfl (ws4_u0 _ _ _ _ _ _) (fun h53 eh54 => ?_)
  have f55 : h53 q = .inl (1, 4, .inr (.inl (ws4 t x51 x1 x2 x3))) := by rw [eh54]; exact va_up_self _ _ _
  have f56 : h53 a = .inr (10, [.ref q]) := by rw [eh54, va_up_ne _ _ (fun q => by rw [q, f2] at f1; cases f1)]; exact f1
  have f57 : h53 b = .inr (10, [.ref q2]) := by rw [eh54, va_up_ne _ _ (fun q => by rw [q, f2] at f3; cases f3)]; exact f3
  have f58 : h53 q2 = .inl (1, 4, .inr (.inl (ws4 t2 y0 y1 y2 y3))) := by rw [eh54, va_up_ne _ _ hne]; exact f4
  refine r_iinc (y := 1) (ls' := [some (.ref a), some (.ref b), some (.int 1)]) rfl dX10_meet_22 rfl (by decide) (Nat.le_of_ble_eq_true rfl) rfl ?_
  refine r_goto (pc' := 2) rfl dX10_meet_25 ?_
  refine r_iload_n rfl dX10_meet_2 rfl ?_
  refine r_iconst (v := 4) rfl dX10_meet_3 (by decide) ?_
  refine r_icmp_ge (tgt := 28) rfl rfl dX10_meet_4 (fun c => absurd c (by decide)) (fun _ => ?_)
  refine r_aload_n rfl dX10_meet_7 rfl ?_
  refine r_getv 0 rfl dX10_meet_8 ba f56 fl_X10_9 rfl ?_
  refine r_iload_n rfl dX10_meet_11 rfl ?_
  refine r_dup2 rfl dX10_meet_12 (by intro q; cases q) (by intro q; cases q) ?_
  refine r_laldv (jn := 1) (v := x1) rfl dX10_meet_13 bq f55 (by unfold vp_in; decide) rfl rfl ?_
  refine r_aload_n rfl dX10_meet_14 rfl ?_
  refine r_getv 0 rfl dX10_meet_15 bb f57 fl_X10_9 rfl ?_
  refine r_iload_n rfl dX10_meet_18 rfl ?_
  refine r_laldv (jn := 1) (v := y1) rfl dX10_meet_19 bq2 f58 (by unfold vp_in; decide) rfl rfl ?_
  refine r_land rfl dX10_meet_20 ?_
  refine r_topl (fun x59 e60 => ?_)
  refine r_lastv (jn := 1) (f' := ws4 t x51 x59 x2 x3) rfl dX10_meet_21 bq f55 (by unfold vp_in; decide) rfl (ws4_u1 _ _ _ _ _ _) (fun h61 eh62 => ?_)
  have f63 : h61 q = .inl (1, 4, .inr (.inl (ws4 t x51 x59 x2 x3))) := by rw [eh62]; exact va_up_self _ _ _
  have f64 : h61 a = .inr (10, [.ref q]) := by rw [eh62, va_up_ne _ _ (fun q => by rw [q, f55] at f56; cases f56)]; exact f56
  have f65 : h61 b = .inr (10, [.ref q2]) := by rw [eh62, va_up_ne _ _ (fun q => by rw [q, f55] at f57; cases f57)]; exact f57
  have f66 : h61 q2 = .inl (1, 4, .inr (.inl (ws4 t2 y0 y1 y2 y3))) := by rw [eh62, va_up_ne _ _ hne]; exact f58
  refine r_iinc (y := 2) (ls' := [some (.ref a), some (.ref b), some (.int 2)]) rfl dX10_meet_22 rfl (by decide) (Nat.le_of_ble_eq_true rfl) rfl ?_
  refine r_goto (pc' := 2) rfl dX10_meet_25 ?_
  refine r_iload_n rfl dX10_meet_2 rfl ?_
  refine r_iconst (v := 4) rfl dX10_meet_3 (by decide) ?_
  refine r_icmp_ge (tgt := 28) rfl rfl dX10_meet_4 (fun c => absurd c (by decide)) (fun _ => ?_)
  refine r_aload_n rfl dX10_meet_7 rfl ?_
  refine r_getv 0 rfl dX10_meet_8 ba f64 fl_X10_9 rfl ?_
  refine r_iload_n rfl dX10_meet_11 rfl ?_
  refine r_dup2 rfl dX10_meet_12 (by intro q; cases q) (by intro q; cases q) ?_
  refine r_laldv (jn := 2) (v := x2) rfl dX10_meet_13 bq f63 (by unfold vp_in; decide) rfl rfl ?_
  refine r_aload_n rfl dX10_meet_14 rfl ?_
  refine r_getv 0 rfl dX10_meet_15 bb f65 fl_X10_9 rfl ?_
  refine r_iload_n rfl dX10_meet_18 rfl ?_
  refine r_laldv (jn := 2) (v := y2) rfl dX10_meet_19 bq2 f66 (by unfold vp_in; decide) rfl rfl ?_
  refine r_land rfl dX10_meet_20 ?_
  refine r_topl (fun x67 e68 => ?_)
  refine r_lastv (jn := 2) (f' := ws4 t x51 x59 x67 x3) rfl dX10_meet_21 bq f63 (by unfold vp_in; decide) rfl (ws4_u2 _ _ _ _ _ _) (fun h69 eh70 => ?_)
  have f71 : h69 q = .inl (1, 4, .inr (.inl (ws4 t x51 x59 x67 x3))) := by rw [eh70]; exact va_up_self _ _ _
  have f72 : h69 a = .inr (10, [.ref q]) := by rw [eh70, va_up_ne _ _ (fun q => by rw [q, f63] at f64; cases f64)]; exact f64
  have f73 : h69 b = .inr (10, [.ref q2]) := by rw [eh70, va_up_ne _ _ (fun q => by rw [q, f63] at f65; cases f65)]; exact f65
  have f74 : h69 q2 = .inl (1, 4, .inr (.inl (ws4 t2 y0 y1 y2 y3))) := by rw [eh70, va_up_ne _ _ hne]; exact f66
  refine r_iinc (y := 3) (ls' := [some (.ref a), some (.ref b), some (.int 3)]) rfl dX10_meet_22 rfl (by decide) (Nat.le_of_ble_eq_true rfl) rfl ?_
  refine r_goto (pc' := 2) rfl dX10_meet_25 ?_
  refine r_iload_n rfl dX10_meet_2 rfl ?_
  refine r_iconst (v := 4) rfl dX10_meet_3 (by decide) ?_
  refine r_icmp_ge (tgt := 28) rfl rfl dX10_meet_4 (fun c => absurd c (by decide)) (fun _ => ?_)
  refine r_aload_n rfl dX10_meet_7 rfl ?_
  refine r_getv 0 rfl dX10_meet_8 ba f72 fl_X10_9 rfl ?_
  refine r_iload_n rfl dX10_meet_11 rfl ?_
  refine r_dup2 rfl dX10_meet_12 (by intro q; cases q) (by intro q; cases q) ?_
  refine r_laldv (jn := 3) (v := x3) rfl dX10_meet_13 bq f71 (by unfold vp_in; decide) rfl rfl ?_
  refine r_aload_n rfl dX10_meet_14 rfl ?_
  refine r_getv 0 rfl dX10_meet_15 bb f73 fl_X10_9 rfl ?_
  refine r_iload_n rfl dX10_meet_18 rfl ?_
  refine r_laldv (jn := 3) (v := y3) rfl dX10_meet_19 bq2 f74 (by unfold vp_in; decide) rfl rfl ?_
  refine r_land rfl dX10_meet_20 ?_
  refine r_topl (fun x75 e76 => ?_)
  refine r_lastv (jn := 3) (f' := ws4 t x51 x59 x67 x75) rfl dX10_meet_21 bq f71 (by unfold vp_in; decide) rfl (ws4_u3 _ _ _ _ _ _) (fun h77 eh78 => ?_)
  have f79 : h77 q = .inl (1, 4, .inr (.inl (ws4 t x51 x59 x67 x75))) := by rw [eh78]; exact va_up_self _ _ _
  have f80 : h77 a = .inr (10, [.ref q]) := by rw [eh78, va_up_ne _ _ (fun q => by rw [q, f71] at f72; cases f72)]; exact f72
  have f81 : h77 b = .inr (10, [.ref q2]) := by rw [eh78, va_up_ne _ _ (fun q => by rw [q, f71] at f73; cases f73)]; exact f73
  have f82 : h77 q2 = .inl (1, 4, .inr (.inl (ws4 t2 y0 y1 y2 y3))) := by rw [eh78, va_up_ne _ _ hne]; exact f74
  refine r_iinc (y := 4) (ls' := [some (.ref a), some (.ref b), some (.int 4)]) rfl dX10_meet_22 rfl (by decide) (Nat.le_of_ble_eq_true rfl) rfl ?_
  refine r_goto (pc' := 2) rfl dX10_meet_25 ?_
  refine r_iload_n rfl dX10_meet_2 rfl ?_
  refine r_iconst (v := 4) rfl dX10_meet_3 (by decide) ?_
  refine r_icmp_ge (tgt := 28) rfl rfl dX10_meet_4 (fun _ => ?_) (fun c => absurd c (by decide))
  subst e76
  subst e68
  subst e60
  subst e52
  subst eh78
  subst eh70
  subst eh62
  subst eh54
  exact r_ret dX10_meet_28 (rt_v rfl) ⟨rfl, (by simp only [va_up_up]), rfl⟩
def wsz (x0 x1 x2 x3 : Int64) : Int32 := 0 + bc64 x0 + bc64 x1 + bc64 x2 + bc64 x3
set_option maxRecDepth 20000 in
theorem s_X10_size {xs : Nat → Int32} {L d sz : Nat} {h : ev_H} {a q : Nat} {t : Nat → Int64} {x0 x1 x2 x3 : Int64} (hw : isWS h sz a q t x0 x1 x2 x3) : EV xs L (d + 1) 0 0 M_X10_size sz h 0 [some (.ref a), none, none] [] (fun sz' h' r => sz' = sz ∧ h' = h ∧ r = [.int (wsz x0 x1 x2 x3)]) := by
  obtain ⟨ba, bq, f1, f2⟩ := hw
  refine r_iconst (v := 0) rfl dX10_size_0 (by decide) ?_
  refine r_istore_n (ls' := [some (.ref a), some (.int 0), none]) rfl dX10_size_1 (Nat.le_of_ble_eq_true rfl) rfl ?_
  refine r_iconst (v := 0) rfl dX10_size_2 (by decide) ?_
  refine r_istore_n (ls' := [some (.ref a), some (.int 0), some (.int 0)]) rfl dX10_size_3 (Nat.le_of_ble_eq_true rfl) rfl ?_
  refine r_iload_n rfl dX10_size_4 rfl ?_
  refine r_iconst (v := 4) rfl dX10_size_5 (by decide) ?_
  refine r_icmp_ge (tgt := 27) rfl rfl dX10_size_6 (fun c => absurd c (by decide)) (fun _ => ?_)
  refine r_iload_n rfl dX10_size_9 rfl ?_
  refine r_aload_n rfl dX10_size_10 rfl ?_
  refine r_getv 0 rfl dX10_size_11 ba f1 fl_X10_9 rfl ?_
  refine r_iload_n rfl dX10_size_14 rfl ?_
  refine r_laldv (jn := 0) (v := x0) rfl dX10_size_15 bq f2 (by unfold vp_in; decide) rfl rfl ?_
  refine cl_X10_24 rfl rfl dX10_size_16 (Nat.le_of_ble_eq_true rfl) s_J13_bitCount_95d88 ?_
  rintro _ _ _ ⟨rfl, rfl, rfl⟩
  refine r_iadd rfl dX10_size_19 ?_
  refine r_topi (fun x51 e52 => ?_)
  refine r_istore_n (ls' := [some (.ref a), some (.int x51), some (.int 0)]) rfl dX10_size_20 (Nat.le_of_ble_eq_true rfl) rfl ?_
  refine r_iinc (y := 1) (ls' := [some (.ref a), some (.int x51), some (.int 1)]) rfl dX10_size_21 rfl (by decide) (Nat.le_of_ble_eq_true rfl) rfl ?_
  refine r_goto (pc' := 4) rfl dX10_size_24 ?_
  refine r_iload_n rfl dX10_size_4 rfl ?_
  refine r_iconst (v := 4) rfl dX10_size_5 (by decide) ?_
  refine r_icmp_ge (tgt := 27) rfl rfl dX10_size_6 (fun c => absurd c (by decide)) (fun _ => ?_)
  refine r_iload_n rfl dX10_size_9 rfl ?_
  refine r_aload_n rfl dX10_size_10 rfl ?_
  refine r_getv 0 rfl dX10_size_11 ba f1 fl_X10_9 rfl ?_
  refine r_iload_n rfl dX10_size_14 rfl ?_
  refine r_laldv (jn := 1) (v := x1) rfl dX10_size_15 bq f2 (by unfold vp_in; decide) rfl rfl ?_
  refine cl_X10_24 rfl rfl dX10_size_16 (Nat.le_of_ble_eq_true rfl) s_J13_bitCount_95d88 ?_
  rintro _ _ _ ⟨rfl, rfl, rfl⟩
  refine r_iadd rfl dX10_size_19 ?_
  refine r_topi (fun x53 e54 => ?_)
  refine r_istore_n (ls' := [some (.ref a), some (.int x53), some (.int 1)]) rfl dX10_size_20 (Nat.le_of_ble_eq_true rfl) rfl ?_
  refine r_iinc (y := 2) (ls' := [some (.ref a), some (.int x53), some (.int 2)]) rfl dX10_size_21 rfl (by decide) (Nat.le_of_ble_eq_true rfl) rfl ?_
  refine r_goto (pc' := 4) rfl dX10_size_24 ?_
  refine r_iload_n rfl dX10_size_4 rfl ?_
  refine r_iconst (v := 4) rfl dX10_size_5 (by decide) ?_
  refine r_icmp_ge (tgt := 27) rfl rfl dX10_size_6 (fun c => absurd c (by decide)) (fun _ => ?_)
  refine r_iload_n rfl dX10_size_9 rfl ?_
  refine r_aload_n rfl dX10_size_10 rfl ?_
  refine r_getv 0 rfl dX10_size_11 ba f1 fl_X10_9 rfl ?_
  refine r_iload_n rfl dX10_size_14 rfl ?_
  refine r_laldv (jn := 2) (v := x2) rfl dX10_size_15 bq f2 (by unfold vp_in; decide) rfl rfl ?_
  refine cl_X10_24 rfl rfl dX10_size_16 (Nat.le_of_ble_eq_true rfl) s_J13_bitCount_95d88 ?_
  rintro _ _ _ ⟨rfl, rfl, rfl⟩
  refine r_iadd rfl dX10_size_19 ?_
  refine r_topi (fun x55 e56 => ?_)
  refine r_istore_n (ls' := [some (.ref a), some (.int x55), some (.int 2)]) rfl dX10_size_20 (Nat.le_of_ble_eq_true rfl) rfl ?_
  refine r_iinc (y := 3) (ls' := [some (.ref a), some (.int x55), some (.int 3)]) rfl dX10_size_21 rfl (by decide) (Nat.le_of_ble_eq_true rfl) rfl ?_
  refine r_goto (pc' := 4) rfl dX10_size_24 ?_
  refine r_iload_n rfl dX10_size_4 rfl ?_
  refine r_iconst (v := 4) rfl dX10_size_5 (by decide) ?_
  refine r_icmp_ge (tgt := 27) rfl rfl dX10_size_6 (fun c => absurd c (by decide)) (fun _ => ?_)
  refine r_iload_n rfl dX10_size_9 rfl ?_
  refine r_aload_n rfl dX10_size_10 rfl ?_
  refine r_getv 0 rfl dX10_size_11 ba f1 fl_X10_9 rfl ?_
  refine r_iload_n rfl dX10_size_14 rfl ?_
  refine r_laldv (jn := 3) (v := x3) rfl dX10_size_15 bq f2 (by unfold vp_in; decide) rfl rfl ?_
  refine cl_X10_24 rfl rfl dX10_size_16 (Nat.le_of_ble_eq_true rfl) s_J13_bitCount_95d88 ?_
  rintro _ _ _ ⟨rfl, rfl, rfl⟩
  refine r_iadd rfl dX10_size_19 ?_
  refine r_topi (fun x57 e58 => ?_)
  refine r_istore_n (ls' := [some (.ref a), some (.int x57), some (.int 3)]) rfl dX10_size_20 (Nat.le_of_ble_eq_true rfl) rfl ?_
  refine r_iinc (y := 4) (ls' := [some (.ref a), some (.int x57), some (.int 4)]) rfl dX10_size_21 rfl (by decide) (Nat.le_of_ble_eq_true rfl) rfl ?_
  refine r_goto (pc' := 4) rfl dX10_size_24 ?_
  refine r_iload_n rfl dX10_size_4 rfl ?_
  refine r_iconst (v := 4) rfl dX10_size_5 (by decide) ?_
  refine r_icmp_ge (tgt := 27) rfl rfl dX10_size_6 (fun _ => ?_) (fun c => absurd c (by decide))
  refine r_iload_n rfl dX10_size_27 rfl ?_
  subst e58
  subst e56
  subst e54
  subst e52
  exact r_ret dX10_size_28 (rt_i rfl) ⟨rfl, rfl, rfl⟩
set_option maxRecDepth 20000 in
theorem s_X10_sizeWith {xs : Nat → Int32} {L d sz : Nat} {h : ev_H} {a q b q2 : Nat} {t t2 : Nat → Int64} {x0 x1 x2 x3 y0 y1 y2 y3 : Int64} (hw : isWS h sz a q t x0 x1 x2 x3) (hw2 : isWS h sz b q2 t2 y0 y1 y2 y3) : EV xs L (d + 1) 0 0 M_X10_sizeWith sz h 0 [some (.ref a), some (.ref b), none, none] [] (fun sz' h' r => sz' = sz ∧ h' = h ∧ r = [.int (wsz (x0 &&& y0) (x1 &&& y1) (x2 &&& y2) (x3 &&& y3))]) := by
  obtain ⟨ba, bq, f1, f2⟩ := hw
  obtain ⟨bb, bq2, f3, f4⟩ := hw2
  refine r_iconst (v := 0) rfl dX10_sizeWith_0 (by decide) ?_
  refine r_istore_n (ls' := [some (.ref a), some (.ref b), some (.int 0), none]) rfl dX10_sizeWith_1 (Nat.le_of_ble_eq_true rfl) rfl ?_
  refine r_iconst (v := 0) rfl dX10_sizeWith_2 (by decide) ?_
  refine r_istore_n (ls' := [some (.ref a), some (.ref b), some (.int 0), some (.int 0)]) rfl dX10_sizeWith_3 (Nat.le_of_ble_eq_true rfl) rfl ?_
  refine r_iload_n rfl dX10_sizeWith_4 rfl ?_
  refine r_iconst (v := 4) rfl dX10_sizeWith_5 (by decide) ?_
  refine r_icmp_ge (tgt := 34) rfl rfl dX10_sizeWith_6 (fun c => absurd c (by decide)) (fun _ => ?_)
  refine r_iload_n rfl dX10_sizeWith_9 rfl ?_
  refine r_aload_n rfl dX10_sizeWith_10 rfl ?_
  refine r_getv 0 rfl dX10_sizeWith_11 ba f1 fl_X10_9 rfl ?_
  refine r_iload_n rfl dX10_sizeWith_14 rfl ?_
  refine r_laldv (jn := 0) (v := x0) rfl dX10_sizeWith_15 bq f2 (by unfold vp_in; decide) rfl rfl ?_
  refine r_aload_n rfl dX10_sizeWith_16 rfl ?_
  refine r_getv 0 rfl dX10_sizeWith_17 bb f3 fl_X10_9 rfl ?_
  refine r_iload_n rfl dX10_sizeWith_20 rfl ?_
  refine r_laldv (jn := 0) (v := y0) rfl dX10_sizeWith_21 bq2 f4 (by unfold vp_in; decide) rfl rfl ?_
  refine r_land rfl dX10_sizeWith_22 ?_
  refine cl_X10_24 rfl rfl dX10_sizeWith_23 (Nat.le_of_ble_eq_true rfl) s_J13_bitCount_95d88 ?_
  rintro _ _ _ ⟨rfl, rfl, rfl⟩
  refine r_iadd rfl dX10_sizeWith_26 ?_
  refine r_topi (fun x51 e52 => ?_)
  refine r_istore_n (ls' := [some (.ref a), some (.ref b), some (.int x51), some (.int 0)]) rfl dX10_sizeWith_27 (Nat.le_of_ble_eq_true rfl) rfl ?_
  refine r_iinc (y := 1) (ls' := [some (.ref a), some (.ref b), some (.int x51), some (.int 1)]) rfl dX10_sizeWith_28 rfl (by decide) (Nat.le_of_ble_eq_true rfl) rfl ?_
  refine r_goto (pc' := 4) rfl dX10_sizeWith_31 ?_
  refine r_iload_n rfl dX10_sizeWith_4 rfl ?_
  refine r_iconst (v := 4) rfl dX10_sizeWith_5 (by decide) ?_
  refine r_icmp_ge (tgt := 34) rfl rfl dX10_sizeWith_6 (fun c => absurd c (by decide)) (fun _ => ?_)
  refine r_iload_n rfl dX10_sizeWith_9 rfl ?_
  refine r_aload_n rfl dX10_sizeWith_10 rfl ?_
  refine r_getv 0 rfl dX10_sizeWith_11 ba f1 fl_X10_9 rfl ?_
  refine r_iload_n rfl dX10_sizeWith_14 rfl ?_
  refine r_laldv (jn := 1) (v := x1) rfl dX10_sizeWith_15 bq f2 (by unfold vp_in; decide) rfl rfl ?_
  refine r_aload_n rfl dX10_sizeWith_16 rfl ?_
  refine r_getv 0 rfl dX10_sizeWith_17 bb f3 fl_X10_9 rfl ?_
  refine r_iload_n rfl dX10_sizeWith_20 rfl ?_
  refine r_laldv (jn := 1) (v := y1) rfl dX10_sizeWith_21 bq2 f4 (by unfold vp_in; decide) rfl rfl ?_
  refine r_land rfl dX10_sizeWith_22 ?_
  refine cl_X10_24 rfl rfl dX10_sizeWith_23 (Nat.le_of_ble_eq_true rfl) s_J13_bitCount_95d88 ?_
  rintro _ _ _ ⟨rfl, rfl, rfl⟩
  refine r_iadd rfl dX10_sizeWith_26 ?_
  refine r_topi (fun x53 e54 => ?_)
  refine r_istore_n (ls' := [some (.ref a), some (.ref b), some (.int x53), some (.int 1)]) rfl dX10_sizeWith_27 (Nat.le_of_ble_eq_true rfl) rfl ?_
  refine r_iinc (y := 2) (ls' := [some (.ref a), some (.ref b), some (.int x53), some (.int 2)]) rfl dX10_sizeWith_28 rfl (by decide) (Nat.le_of_ble_eq_true rfl) rfl ?_
  refine r_goto (pc' := 4) rfl dX10_sizeWith_31 ?_
  refine r_iload_n rfl dX10_sizeWith_4 rfl ?_
  refine r_iconst (v := 4) rfl dX10_sizeWith_5 (by decide) ?_
  refine r_icmp_ge (tgt := 34) rfl rfl dX10_sizeWith_6 (fun c => absurd c (by decide)) (fun _ => ?_)
  refine r_iload_n rfl dX10_sizeWith_9 rfl ?_
  refine r_aload_n rfl dX10_sizeWith_10 rfl ?_
  refine r_getv 0 rfl dX10_sizeWith_11 ba f1 fl_X10_9 rfl ?_
  refine r_iload_n rfl dX10_sizeWith_14 rfl ?_
  refine r_laldv (jn := 2) (v := x2) rfl dX10_sizeWith_15 bq f2 (by unfold vp_in; decide) rfl rfl ?_
  refine r_aload_n rfl dX10_sizeWith_16 rfl ?_
  refine r_getv 0 rfl dX10_sizeWith_17 bb f3 fl_X10_9 rfl ?_
  refine r_iload_n rfl dX10_sizeWith_20 rfl ?_
  refine r_laldv (jn := 2) (v := y2) rfl dX10_sizeWith_21 bq2 f4 (by unfold vp_in; decide) rfl rfl ?_
  refine r_land rfl dX10_sizeWith_22 ?_
  refine cl_X10_24 rfl rfl dX10_sizeWith_23 (Nat.le_of_ble_eq_true rfl) s_J13_bitCount_95d88 ?_
  rintro _ _ _ ⟨rfl, rfl, rfl⟩
  refine r_iadd rfl dX10_sizeWith_26 ?_
  refine r_topi (fun x55 e56 => ?_)
  refine r_istore_n (ls' := [some (.ref a), some (.ref b), some (.int x55), some (.int 2)]) rfl dX10_sizeWith_27 (Nat.le_of_ble_eq_true rfl) rfl ?_
  refine r_iinc (y := 3) (ls' := [some (.ref a), some (.ref b), some (.int x55), some (.int 3)]) rfl dX10_sizeWith_28 rfl (by decide) (Nat.le_of_ble_eq_true rfl) rfl ?_
  refine r_goto (pc' := 4) rfl dX10_sizeWith_31 ?_
  refine r_iload_n rfl dX10_sizeWith_4 rfl ?_
  refine r_iconst (v := 4) rfl dX10_sizeWith_5 (by decide) ?_
  refine r_icmp_ge (tgt := 34) rfl rfl dX10_sizeWith_6 (fun c => absurd c (by decide)) (fun _ => ?_)
  refine r_iload_n rfl dX10_sizeWith_9 rfl ?_
  refine r_aload_n rfl dX10_sizeWith_10 rfl ?_
  refine r_getv 0 rfl dX10_sizeWith_11 ba f1 fl_X10_9 rfl ?_
  refine r_iload_n rfl dX10_sizeWith_14 rfl ?_
  refine r_laldv (jn := 3) (v := x3) rfl dX10_sizeWith_15 bq f2 (by unfold vp_in; decide) rfl rfl ?_
  refine r_aload_n rfl dX10_sizeWith_16 rfl ?_
  refine r_getv 0 rfl dX10_sizeWith_17 bb f3 fl_X10_9 rfl ?_
  refine r_iload_n rfl dX10_sizeWith_20 rfl ?_
  refine r_laldv (jn := 3) (v := y3) rfl dX10_sizeWith_21 bq2 f4 (by unfold vp_in; decide) rfl rfl ?_
  refine r_land rfl dX10_sizeWith_22 ?_
  refine cl_X10_24 rfl rfl dX10_sizeWith_23 (Nat.le_of_ble_eq_true rfl) s_J13_bitCount_95d88 ?_
  rintro _ _ _ ⟨rfl, rfl, rfl⟩
  refine r_iadd rfl dX10_sizeWith_26 ?_
  refine r_topi (fun x57 e58 => ?_)
  refine r_istore_n (ls' := [some (.ref a), some (.ref b), some (.int x57), some (.int 3)]) rfl dX10_sizeWith_27 (Nat.le_of_ble_eq_true rfl) rfl ?_
  refine r_iinc (y := 4) (ls' := [some (.ref a), some (.ref b), some (.int x57), some (.int 4)]) rfl dX10_sizeWith_28 rfl (by decide) (Nat.le_of_ble_eq_true rfl) rfl ?_
  refine r_goto (pc' := 4) rfl dX10_sizeWith_31 ?_
  refine r_iload_n rfl dX10_sizeWith_4 rfl ?_
  refine r_iconst (v := 4) rfl dX10_sizeWith_5 (by decide) ?_
  refine r_icmp_ge (tgt := 34) rfl rfl dX10_sizeWith_6 (fun _ => ?_) (fun c => absurd c (by decide))
  refine r_iload_n rfl dX10_sizeWith_34 rfl ?_
  subst e58
  subst e56
  subst e54
  subst e52
  exact r_ret dX10_sizeWith_35 (rt_i rfl) ⟨rfl, rfl, rfl⟩
def isW (w : Int32) : Int32 := if w < 0 then 0 else if 256 ≤ w then 0 else 1
set_option maxRecDepth 20000 in
theorem s_X11_isWorld {xs : Nat → Int32} {L d sz : Nat} {h : ev_H} {w : Int32}  : EV xs L (d + 0) 0 0 M_X11_isWorld sz h 0 [some (.int w)] [] (fun sz' h' r => sz' = sz ∧ h' = h ∧ r = [.int (isW w)]) := by
  refine r_iload_n rfl dX11_isWorld_0 rfl ?_
  refine r_if_lt (tgt := 15) rfl rfl dX11_isWorld_1 (fun c51 => ?_) (fun c51 => ?_)
  · refine r_iconst (v := 0) rfl dX11_isWorld_15 (by decide) ?_
    exact r_ret dX11_isWorld_16 (rt_z rfl (Or.inl rfl)) ⟨rfl, rfl, by simp [isW, c51]⟩
  · refine r_iload_n rfl dX11_isWorld_4 rfl ?_
    refine r_sipush (v := 256) rfl dX11_isWorld_5 (by decide) ?_
    refine r_icmp_ge (tgt := 15) rfl rfl dX11_isWorld_8 (fun c52 => ?_) (fun c52 => ?_)
    · refine r_iconst (v := 0) rfl dX11_isWorld_15 (by decide) ?_
      exact r_ret dX11_isWorld_16 (rt_z rfl (Or.inl rfl)) ⟨rfl, rfl, by simp [isW, c51, c52]⟩
    · refine r_iconst (v := 1) rfl dX11_isWorld_11 (by decide) ?_
      refine r_goto (pc' := 16) rfl dX11_isWorld_12 ?_
      exact r_ret dX11_isWorld_16 (rt_z rfl (Or.inr rfl)) ⟨rfl, rfl, by simp [isW, c51, c52]⟩
theorem isW_i4 {w : Int32} (h : ¬ isW w = 0) : vp_in (w >>> (6 &&& 31)) 4 := by
  unfold isW at h
  split at h
  · exact absurd rfl h
  · rename_i h1
    split at h
    · exact absurd rfl h
    · rename_i h2
      obtain ⟨j, hj, rfl⟩ := vp_in_of (vpi (n := 256) rfl h1 h2) (by decide)
      rw [pk_shrN (by omega) (6 &&& 31) 6 (by decide)]
      exact vp_in_nI (by omega) (by decide)
def pws (l p : Int32) : Int64 := if l < 0 then (if (p >>> ((l - 6) &&& 31)) &&& 1 = 0 then 0 else -1) else if 6 ≤ l then (if (p >>> ((l - 6) &&& 31)) &&& 1 = 0 then 0 else -1) else ev_so l.toNatClampNeg
set_option maxRecDepth 20000 in
theorem s_X10_partWhereSo {xs : Nat → Int32} {L d sz : Nat} {h : ev_H} {l p : Int32}  : EV xs L (d + 0) 0 0 M_X10_partWhereSo sz h 0 [some (.int l), some (.int p)] [] (fun sz' h' r => sz' = sz ∧ h' = h ∧ r = [.long (pws l p)]) := by
  refine r_iload_n rfl dX10_partWhereSo_0 rfl ?_
  refine r_if_lt (tgt := 18) rfl rfl dX10_partWhereSo_1 (fun c51 => ?_) (fun c51 => ?_)
  · refine r_iload_n rfl dX10_partWhereSo_18 rfl ?_
    refine r_iload_n rfl dX10_partWhereSo_19 rfl ?_
    refine r_gets rfl dX10_partWhereSo_20 fs_X10_15 ?_
    refine r_solen rfl dX10_partWhereSo_23 ?_
    refine r_isub rfl dX10_partWhereSo_24 ?_
    refine r_ishr rfl dX10_partWhereSo_25 ?_
    refine r_iconst (v := 1) rfl dX10_partWhereSo_26 (by decide) ?_
    refine r_iand rfl dX10_partWhereSo_27 ?_
    refine r_if_eq (tgt := 37) rfl rfl dX10_partWhereSo_28 (fun c52 => ?_) (fun c52 => ?_)
    · refine r_lconst (v := 0) rfl dX10_partWhereSo_37 (by decide) ?_
      exact r_ret dX10_partWhereSo_38 (rt_l rfl) ⟨rfl, rfl, by simp [pws, c51, c52]⟩
    · refine r_ldc2 (v := (-1)) rfl dX10_partWhereSo_31 lc_X10_18 ?_
      refine r_goto (pc' := 38) rfl dX10_partWhereSo_34 ?_
      exact r_ret dX10_partWhereSo_38 (rt_l rfl) ⟨rfl, rfl, by simp [pws, c51, c52]⟩
  · refine r_iload_n rfl dX10_partWhereSo_4 rfl ?_
    refine r_gets rfl dX10_partWhereSo_5 fs_X10_15 ?_
    refine r_solen rfl dX10_partWhereSo_8 ?_
    refine r_icmp_ge (tgt := 18) rfl rfl dX10_partWhereSo_9 (fun c53 => ?_) (fun c53 => ?_)
    · refine r_iload_n rfl dX10_partWhereSo_18 rfl ?_
      refine r_iload_n rfl dX10_partWhereSo_19 rfl ?_
      refine r_gets rfl dX10_partWhereSo_20 fs_X10_15 ?_
      refine r_solen rfl dX10_partWhereSo_23 ?_
      refine r_isub rfl dX10_partWhereSo_24 ?_
      refine r_ishr rfl dX10_partWhereSo_25 ?_
      refine r_iconst (v := 1) rfl dX10_partWhereSo_26 (by decide) ?_
      refine r_iand rfl dX10_partWhereSo_27 ?_
      refine r_if_eq (tgt := 37) rfl rfl dX10_partWhereSo_28 (fun c54 => ?_) (fun c54 => ?_)
      · refine r_lconst (v := 0) rfl dX10_partWhereSo_37 (by decide) ?_
        exact r_ret dX10_partWhereSo_38 (rt_l rfl) ⟨rfl, rfl, by simp [pws, c51, c53, c54]⟩
      · refine r_ldc2 (v := (-1)) rfl dX10_partWhereSo_31 lc_X10_18 ?_
        refine r_goto (pc' := 38) rfl dX10_partWhereSo_34 ?_
        exact r_ret dX10_partWhereSo_38 (rt_l rfl) ⟨rfl, rfl, by simp [pws, c51, c53, c54]⟩
    · refine r_gets rfl dX10_partWhereSo_12 fs_X10_15 ?_
      refine r_iload_n rfl dX10_partWhereSo_15 rfl ?_
      refine r_soldv (jn := l.toNatClampNeg) (v := ev_so l.toNatClampNeg) rfl dX10_partWhereSo_16 (vpi (m := 6) (by decide) c51 c53) (by first | rfl | assumption) rfl ?_
      exact r_ret dX10_partWhereSo_17 (rt_l rfl) ⟨rfl, rfl, by simp [pws, c51, c53]⟩
def wsHas (x0 x1 x2 x3 : Int64) (w : Int32) : Int32 := if (isW w) = 0 then (0) else (if (lg_cmp ((((sel4 x0 x1 x2 x3 ((w >>> (6 &&& 31)).toNatClampNeg)).toUInt64 >>> ((w &&& 63 : Int32).toInt64.toUInt64 &&& Int64.toUInt64 63)).toInt64) &&& 1) 0) = 0 then (0) else (1))
set_option maxRecDepth 20000 in
theorem s_X10_has {xs : Nat → Int32} {L d sz : Nat} {h : ev_H} {a q : Nat} {t : Nat → Int64} {x0 x1 x2 x3 : Int64} {w : Int32} (hw : isWS h sz a q t x0 x1 x2 x3) : EV xs L (d + 1) 0 0 M_X10_has sz h 0 [some (.ref a), some (.int w)] [] (fun sz' h' r => sz' = sz ∧ h' = h ∧ r = [.int (wsHas x0 x1 x2 x3 w)]) := by
  obtain ⟨ba, bq, f1, f2⟩ := hw
  refine r_iload_n rfl dX10_has_0 rfl ?_
  refine cl_X10_20 rfl rfl dX10_has_1 (Nat.le_of_ble_eq_true rfl) s_X11_isWorld ?_
  rintro _ _ _ ⟨rfl, rfl, rfl⟩
  refine r_if_eq (tgt := 32) rfl rfl dX10_has_4 (fun c51 => ?_) (fun c51 => ?_)
  · refine r_iconst (v := 0) rfl dX10_has_32 (by decide) ?_
    exact r_ret dX10_has_33 (rt_z rfl (Or.inl rfl)) ⟨rfl, rfl, (by unfold wsHas; rw [if_pos c51] <;> rfl)⟩
  · refine r_aload_n rfl dX10_has_7 rfl ?_
    refine r_getv 0 rfl dX10_has_8 ba f1 fl_X10_9 rfl ?_
    refine r_iload_n rfl dX10_has_11 rfl ?_
    refine r_bipush (v := 6) rfl dX10_has_12 (by decide) ?_
    refine r_ishr rfl dX10_has_14 ?_
    refine r_laldv (jn := (w >>> (6 &&& 31)).toNatClampNeg) (v := sel4 x0 x1 x2 x3 ((w >>> (6 &&& 31)).toNatClampNeg)) rfl dX10_has_15 bq f2 (isW_i4 c51) (by first | rfl | assumption) (ws4_s (vp_in_lt (isW_i4 c51))) ?_
    refine r_iload_n rfl dX10_has_16 rfl ?_
    refine r_bipush (v := 63) rfl dX10_has_17 (by decide) ?_
    refine r_iand rfl dX10_has_19 ?_
    refine r_lushr rfl dX10_has_20 ?_
    refine r_lconst (v := 1) rfl dX10_has_21 (by decide) ?_
    refine r_land rfl dX10_has_22 ?_
    refine r_lconst (v := 0) rfl dX10_has_23 (by decide) ?_
    refine r_lcmp rfl dX10_has_24 ?_
    refine r_if_eq (tgt := 32) rfl rfl dX10_has_25 (fun c52 => ?_) (fun c52 => ?_)
    · refine r_iconst (v := 0) rfl dX10_has_32 (by decide) ?_
      exact r_ret dX10_has_33 (rt_z rfl (Or.inl rfl)) ⟨rfl, rfl, (by unfold wsHas; rw [if_neg c51, if_pos c52] <;> rfl)⟩
    · refine r_iconst (v := 1) rfl dX10_has_28 (by decide) ?_
      refine r_goto (pc' := 33) rfl dX10_has_29 ?_
      exact r_ret dX10_has_33 (rt_z rfl (Or.inr rfl)) ⟨rfl, rfl, (by unfold wsHas; rw [if_neg c51, if_neg c52] <;> rfl)⟩
def wsIn (x0 x1 x2 x3 y0 y1 y2 y3 : Int64) : Int32 := if ¬ (wsz (x0 &&& y0) (x1 &&& y1) (x2 &&& y2) (x3 &&& y3)) = (wsz x0 x1 x2 x3) then (0) else (1)
set_option maxRecDepth 20000 in
theorem s_X10_isWithin {xs : Nat → Int32} {L d sz : Nat} {h : ev_H} {a q b q2 : Nat} {t t2 : Nat → Int64} {x0 x1 x2 x3 y0 y1 y2 y3 : Int64} (hw : isWS h sz a q t x0 x1 x2 x3) (hw2 : isWS h sz b q2 t2 y0 y1 y2 y3) : EV xs L (d + 2) 0 0 M_X10_isWithin sz h 0 [some (.ref a), some (.ref b)] [] (fun sz' h' r => sz' = sz ∧ h' = h ∧ r = [.int (wsIn x0 x1 x2 x3 y0 y1 y2 y3)]) := by
  obtain ⟨ba, bq, f1, f2⟩ := hw
  obtain ⟨bb, bq2, f3, f4⟩ := hw2
  refine r_aload_n rfl dX10_isWithin_0 rfl ?_
  refine r_aload_n rfl dX10_isWithin_1 rfl ?_
  refine cl_X10_30 rfl rfl dX10_isWithin_2 ba.1 ba.2 f1 (Nat.le_of_ble_eq_true rfl) (s_X10_sizeWith ⟨ba, bq, f1, f2⟩ ⟨bb, bq2, f3, f4⟩) ?_
  rintro _ _ _ ⟨rfl, rfl, rfl⟩
  refine r_aload_n rfl dX10_isWithin_5 rfl ?_
  refine cl_X10_34 rfl rfl dX10_isWithin_6 ba.1 ba.2 f1 (Nat.le_of_ble_eq_true rfl) (s_X10_size ⟨ba, bq, f1, f2⟩) ?_
  rintro _ _ _ ⟨rfl, rfl, rfl⟩
  refine r_icmp_ne (tgt := 16) rfl rfl dX10_isWithin_9 (fun c51 => ?_) (fun c51 => ?_)
  · refine r_iconst (v := 0) rfl dX10_isWithin_16 (by decide) ?_
    exact r_ret dX10_isWithin_17 (rt_z rfl (Or.inl rfl)) ⟨rfl, rfl, (by unfold wsIn; rw [if_pos c51] <;> rfl)⟩
  · refine r_iconst (v := 1) rfl dX10_isWithin_12 (by decide) ?_
    refine r_goto (pc' := 17) rfl dX10_isWithin_13 ?_
    exact r_ret dX10_isWithin_17 (rt_z rfl (Or.inr rfl)) ⟨rfl, rfl, (by unfold wsIn; rw [if_neg (fun z => z c51)] <;> rfl)⟩
theorem vpi2 {j m : Int32} {n : Nat} (hm : m.toInt = n) (h0 : ¬ j < 0) (h1 : j < m) : vp_in j n := vpi hm h0 (fun z => absurd h1 (Int32.not_lt.mpr z))
def wsPart (x0 x1 x2 x3 : Int64) (p : Int32) : Int64 := if p < 0 then (0) else (if p < 4 then (sel4 x0 x1 x2 x3 p.toNatClampNeg) else (0))
set_option maxRecDepth 20000 in
theorem s_X10_part {xs : Nat → Int32} {L d sz : Nat} {h : ev_H} {a q : Nat} {t : Nat → Int64} {x0 x1 x2 x3 : Int64} {p : Int32} (hw : isWS h sz a q t x0 x1 x2 x3) : EV xs L (d + 0) 0 0 M_X10_part sz h 0 [some (.ref a), some (.int p)] [] (fun sz' h' r => sz' = sz ∧ h' = h ∧ r = [.long (wsPart x0 x1 x2 x3 p)]) := by
  obtain ⟨ba, bq, f1, f2⟩ := hw
  refine r_iload_n rfl dX10_part_0 rfl ?_
  refine r_if_lt (tgt := 9) rfl rfl dX10_part_1 (fun c51 => ?_) (fun c51 => ?_)
  · refine r_lconst (v := 0) rfl dX10_part_9 (by decide) ?_
    refine r_goto (pc' := 19) rfl dX10_part_10 ?_
    exact r_ret dX10_part_19 (rt_l rfl) ⟨rfl, rfl, (by unfold wsPart; rw [if_pos c51] <;> rfl)⟩
  · refine r_iload_n rfl dX10_part_4 rfl ?_
    refine r_iconst (v := 4) rfl dX10_part_5 (by decide) ?_
    refine r_icmp_lt (tgt := 13) rfl rfl dX10_part_6 (fun c52 => ?_) (fun c52 => ?_)
    · refine r_aload_n rfl dX10_part_13 rfl ?_
      refine r_getv 0 rfl dX10_part_14 ba f1 fl_X10_9 rfl ?_
      refine r_iload_n rfl dX10_part_17 rfl ?_
      refine r_laldv (jn := p.toNatClampNeg) (v := sel4 x0 x1 x2 x3 p.toNatClampNeg) rfl dX10_part_18 bq f2 (vpi2 (m := 4) (by decide) c51 c52) (by first | rfl | assumption) (ws4_s (vp_in_lt (vpi2 (m := 4) (by decide) c51 c52))) ?_
      exact r_ret dX10_part_19 (rt_l rfl) ⟨rfl, rfl, (by unfold wsPart; rw [if_neg c51, if_pos c52] <;> rfl)⟩
    · refine r_lconst (v := 0) rfl dX10_part_9 (by decide) ?_
      refine r_goto (pc' := 19) rfl dX10_part_10 ?_
      exact r_ret dX10_part_19 (rt_l rfl) ⟨rfl, rfl, (by unfold wsPart; rw [if_neg c51, if_neg c52] <;> rfl)⟩
def wsLeast (x0 x1 x2 x3 : Int64) : Int32 := if (lg_cmp x0 0) = 0 then (if (lg_cmp x1 0) = 0 then (if (lg_cmp x2 0) = 0 then (if (lg_cmp x3 0) = 0 then ((-1)) else (192 + (bc64 ((x3 &&& (-x3)) - 1)))) else (128 + (bc64 ((x2 &&& (-x2)) - 1)))) else (64 + (bc64 ((x1 &&& (-x1)) - 1)))) else (0 + (bc64 ((x0 &&& (-x0)) - 1)))
set_option maxRecDepth 20000 in
theorem s_X10_leastWorld {xs : Nat → Int32} {L d sz : Nat} {h : ev_H} {a q : Nat} {t : Nat → Int64} {x0 x1 x2 x3 : Int64} (hw : isWS h sz a q t x0 x1 x2 x3) : EV xs L (d + 1) 0 0 M_X10_leastWorld sz h 0 [some (.ref a), none, none, none] [] (fun sz' h' r => sz' = sz ∧ h' = h ∧ r = [.int (wsLeast x0 x1 x2 x3)]) := by
  obtain ⟨ba, bq, f1, f2⟩ := hw
  refine r_iconst (v := 0) rfl dX10_leastWorld_0 (by decide) ?_
  refine r_istore_n (ls' := [some (.ref a), some (.int 0), none, none]) rfl dX10_leastWorld_1 (Nat.le_of_ble_eq_true rfl) rfl ?_
  refine r_iload_n rfl dX10_leastWorld_2 rfl ?_
  refine r_iconst (v := 4) rfl dX10_leastWorld_3 (by decide) ?_
  refine r_icmp_ge (tgt := 51) rfl rfl dX10_leastWorld_4 (fun c => absurd c (by decide)) (fun _ => ?_)
  refine r_aload_n rfl dX10_leastWorld_7 rfl ?_
  refine r_getv 0 rfl dX10_leastWorld_8 ba f1 fl_X10_9 rfl ?_
  refine r_iload_n rfl dX10_leastWorld_11 rfl ?_
  refine r_laldv (jn := 0) (v := x0) rfl dX10_leastWorld_12 bq f2 (by unfold vp_in; decide) rfl rfl ?_
  refine r_lconst (v := 0) rfl dX10_leastWorld_13 (by decide) ?_
  refine r_lcmp rfl dX10_leastWorld_14 ?_
  refine r_if_eq (tgt := 45) rfl rfl dX10_leastWorld_15 (fun c51 => ?_) (fun c51 => ?_)
  · refine r_iinc (y := 1) (ls' := [some (.ref a), some (.int 1), none, none]) rfl dX10_leastWorld_45 rfl (by decide) (Nat.le_of_ble_eq_true rfl) rfl ?_
    refine r_goto (pc' := 2) rfl dX10_leastWorld_48 ?_
    refine r_iload_n rfl dX10_leastWorld_2 rfl ?_
    refine r_iconst (v := 4) rfl dX10_leastWorld_3 (by decide) ?_
    refine r_icmp_ge (tgt := 51) rfl rfl dX10_leastWorld_4 (fun c => absurd c (by decide)) (fun _ => ?_)
    refine r_aload_n rfl dX10_leastWorld_7 rfl ?_
    refine r_getv 0 rfl dX10_leastWorld_8 ba f1 fl_X10_9 rfl ?_
    refine r_iload_n rfl dX10_leastWorld_11 rfl ?_
    refine r_laldv (jn := 1) (v := x1) rfl dX10_leastWorld_12 bq f2 (by unfold vp_in; decide) rfl rfl ?_
    refine r_lconst (v := 0) rfl dX10_leastWorld_13 (by decide) ?_
    refine r_lcmp rfl dX10_leastWorld_14 ?_
    refine r_if_eq (tgt := 45) rfl rfl dX10_leastWorld_15 (fun c52 => ?_) (fun c52 => ?_)
    · refine r_iinc (y := 2) (ls' := [some (.ref a), some (.int 2), none, none]) rfl dX10_leastWorld_45 rfl (by decide) (Nat.le_of_ble_eq_true rfl) rfl ?_
      refine r_goto (pc' := 2) rfl dX10_leastWorld_48 ?_
      refine r_iload_n rfl dX10_leastWorld_2 rfl ?_
      refine r_iconst (v := 4) rfl dX10_leastWorld_3 (by decide) ?_
      refine r_icmp_ge (tgt := 51) rfl rfl dX10_leastWorld_4 (fun c => absurd c (by decide)) (fun _ => ?_)
      refine r_aload_n rfl dX10_leastWorld_7 rfl ?_
      refine r_getv 0 rfl dX10_leastWorld_8 ba f1 fl_X10_9 rfl ?_
      refine r_iload_n rfl dX10_leastWorld_11 rfl ?_
      refine r_laldv (jn := 2) (v := x2) rfl dX10_leastWorld_12 bq f2 (by unfold vp_in; decide) rfl rfl ?_
      refine r_lconst (v := 0) rfl dX10_leastWorld_13 (by decide) ?_
      refine r_lcmp rfl dX10_leastWorld_14 ?_
      refine r_if_eq (tgt := 45) rfl rfl dX10_leastWorld_15 (fun c53 => ?_) (fun c53 => ?_)
      · refine r_iinc (y := 3) (ls' := [some (.ref a), some (.int 3), none, none]) rfl dX10_leastWorld_45 rfl (by decide) (Nat.le_of_ble_eq_true rfl) rfl ?_
        refine r_goto (pc' := 2) rfl dX10_leastWorld_48 ?_
        refine r_iload_n rfl dX10_leastWorld_2 rfl ?_
        refine r_iconst (v := 4) rfl dX10_leastWorld_3 (by decide) ?_
        refine r_icmp_ge (tgt := 51) rfl rfl dX10_leastWorld_4 (fun c => absurd c (by decide)) (fun _ => ?_)
        refine r_aload_n rfl dX10_leastWorld_7 rfl ?_
        refine r_getv 0 rfl dX10_leastWorld_8 ba f1 fl_X10_9 rfl ?_
        refine r_iload_n rfl dX10_leastWorld_11 rfl ?_
        refine r_laldv (jn := 3) (v := x3) rfl dX10_leastWorld_12 bq f2 (by unfold vp_in; decide) rfl rfl ?_
        refine r_lconst (v := 0) rfl dX10_leastWorld_13 (by decide) ?_
        refine r_lcmp rfl dX10_leastWorld_14 ?_
        refine r_if_eq (tgt := 45) rfl rfl dX10_leastWorld_15 (fun c54 => ?_) (fun c54 => ?_)
        · refine r_iinc (y := 4) (ls' := [some (.ref a), some (.int 4), none, none]) rfl dX10_leastWorld_45 rfl (by decide) (Nat.le_of_ble_eq_true rfl) rfl ?_
          refine r_goto (pc' := 2) rfl dX10_leastWorld_48 ?_
          refine r_iload_n rfl dX10_leastWorld_2 rfl ?_
          refine r_iconst (v := 4) rfl dX10_leastWorld_3 (by decide) ?_
          refine r_icmp_ge (tgt := 51) rfl rfl dX10_leastWorld_4 (fun _ => ?_) (fun c => absurd c (by decide))
          refine r_iconst (v := (-1)) rfl dX10_leastWorld_51 (by decide) ?_
          exact r_ret dX10_leastWorld_52 (rt_i rfl) ⟨rfl, rfl, (by unfold wsLeast; rw [if_pos c51, if_pos c52, if_pos c53, if_pos c54] <;> rfl)⟩
        · refine r_aload_n rfl dX10_leastWorld_18 rfl ?_
          refine r_getv 0 rfl dX10_leastWorld_19 ba f1 fl_X10_9 rfl ?_
          refine r_iload_n rfl dX10_leastWorld_22 rfl ?_
          refine r_laldv (jn := 3) (v := x3) rfl dX10_leastWorld_23 bq f2 (by unfold vp_in; decide) rfl rfl ?_
          refine r_aload_n rfl dX10_leastWorld_24 rfl ?_
          refine r_getv 0 rfl dX10_leastWorld_25 ba f1 fl_X10_9 rfl ?_
          refine r_iload_n rfl dX10_leastWorld_28 rfl ?_
          refine r_laldv (jn := 3) (v := x3) rfl dX10_leastWorld_29 bq f2 (by unfold vp_in; decide) rfl rfl ?_
          refine r_lneg rfl dX10_leastWorld_30 ?_
          refine r_land rfl dX10_leastWorld_31 ?_
          refine r_topl (fun x55 e56 => ?_)
          refine r_lstore_n (ls' := [some (.ref a), some (.int 3), some (.long x55), none]) rfl dX10_leastWorld_32 (Nat.le_of_ble_eq_true rfl) rfl ?_
          refine r_bipush (v := 64) rfl dX10_leastWorld_33 (by decide) ?_
          refine r_iload_n rfl dX10_leastWorld_35 rfl ?_
          refine r_imul rfl dX10_leastWorld_36 ?_
          refine r_eqi (y := 192) (by decide) ?_
          refine r_lload_n rfl dX10_leastWorld_37 rfl ?_
          refine r_lconst (v := 1) rfl dX10_leastWorld_38 (by decide) ?_
          refine r_lsub rfl dX10_leastWorld_39 ?_
          refine cl_X10_24 rfl rfl dX10_leastWorld_40 (Nat.le_of_ble_eq_true rfl) s_J13_bitCount_95d88 ?_
          rintro _ _ _ ⟨rfl, rfl, rfl⟩
          refine r_iadd rfl dX10_leastWorld_43 ?_
          subst e56
          exact r_ret dX10_leastWorld_44 (rt_i rfl) ⟨rfl, rfl, (by unfold wsLeast; rw [if_pos c51, if_pos c52, if_pos c53, if_neg c54] <;> rfl)⟩
      · refine r_aload_n rfl dX10_leastWorld_18 rfl ?_
        refine r_getv 0 rfl dX10_leastWorld_19 ba f1 fl_X10_9 rfl ?_
        refine r_iload_n rfl dX10_leastWorld_22 rfl ?_
        refine r_laldv (jn := 2) (v := x2) rfl dX10_leastWorld_23 bq f2 (by unfold vp_in; decide) rfl rfl ?_
        refine r_aload_n rfl dX10_leastWorld_24 rfl ?_
        refine r_getv 0 rfl dX10_leastWorld_25 ba f1 fl_X10_9 rfl ?_
        refine r_iload_n rfl dX10_leastWorld_28 rfl ?_
        refine r_laldv (jn := 2) (v := x2) rfl dX10_leastWorld_29 bq f2 (by unfold vp_in; decide) rfl rfl ?_
        refine r_lneg rfl dX10_leastWorld_30 ?_
        refine r_land rfl dX10_leastWorld_31 ?_
        refine r_topl (fun x57 e58 => ?_)
        refine r_lstore_n (ls' := [some (.ref a), some (.int 2), some (.long x57), none]) rfl dX10_leastWorld_32 (Nat.le_of_ble_eq_true rfl) rfl ?_
        refine r_bipush (v := 64) rfl dX10_leastWorld_33 (by decide) ?_
        refine r_iload_n rfl dX10_leastWorld_35 rfl ?_
        refine r_imul rfl dX10_leastWorld_36 ?_
        refine r_eqi (y := 128) (by decide) ?_
        refine r_lload_n rfl dX10_leastWorld_37 rfl ?_
        refine r_lconst (v := 1) rfl dX10_leastWorld_38 (by decide) ?_
        refine r_lsub rfl dX10_leastWorld_39 ?_
        refine cl_X10_24 rfl rfl dX10_leastWorld_40 (Nat.le_of_ble_eq_true rfl) s_J13_bitCount_95d88 ?_
        rintro _ _ _ ⟨rfl, rfl, rfl⟩
        refine r_iadd rfl dX10_leastWorld_43 ?_
        subst e58
        exact r_ret dX10_leastWorld_44 (rt_i rfl) ⟨rfl, rfl, (by unfold wsLeast; rw [if_pos c51, if_pos c52, if_neg c53] <;> rfl)⟩
    · refine r_aload_n rfl dX10_leastWorld_18 rfl ?_
      refine r_getv 0 rfl dX10_leastWorld_19 ba f1 fl_X10_9 rfl ?_
      refine r_iload_n rfl dX10_leastWorld_22 rfl ?_
      refine r_laldv (jn := 1) (v := x1) rfl dX10_leastWorld_23 bq f2 (by unfold vp_in; decide) rfl rfl ?_
      refine r_aload_n rfl dX10_leastWorld_24 rfl ?_
      refine r_getv 0 rfl dX10_leastWorld_25 ba f1 fl_X10_9 rfl ?_
      refine r_iload_n rfl dX10_leastWorld_28 rfl ?_
      refine r_laldv (jn := 1) (v := x1) rfl dX10_leastWorld_29 bq f2 (by unfold vp_in; decide) rfl rfl ?_
      refine r_lneg rfl dX10_leastWorld_30 ?_
      refine r_land rfl dX10_leastWorld_31 ?_
      refine r_topl (fun x59 e60 => ?_)
      refine r_lstore_n (ls' := [some (.ref a), some (.int 1), some (.long x59), none]) rfl dX10_leastWorld_32 (Nat.le_of_ble_eq_true rfl) rfl ?_
      refine r_bipush (v := 64) rfl dX10_leastWorld_33 (by decide) ?_
      refine r_iload_n rfl dX10_leastWorld_35 rfl ?_
      refine r_imul rfl dX10_leastWorld_36 ?_
      refine r_eqi (y := 64) (by decide) ?_
      refine r_lload_n rfl dX10_leastWorld_37 rfl ?_
      refine r_lconst (v := 1) rfl dX10_leastWorld_38 (by decide) ?_
      refine r_lsub rfl dX10_leastWorld_39 ?_
      refine cl_X10_24 rfl rfl dX10_leastWorld_40 (Nat.le_of_ble_eq_true rfl) s_J13_bitCount_95d88 ?_
      rintro _ _ _ ⟨rfl, rfl, rfl⟩
      refine r_iadd rfl dX10_leastWorld_43 ?_
      subst e60
      exact r_ret dX10_leastWorld_44 (rt_i rfl) ⟨rfl, rfl, (by unfold wsLeast; rw [if_pos c51, if_neg c52] <;> rfl)⟩
  · refine r_aload_n rfl dX10_leastWorld_18 rfl ?_
    refine r_getv 0 rfl dX10_leastWorld_19 ba f1 fl_X10_9 rfl ?_
    refine r_iload_n rfl dX10_leastWorld_22 rfl ?_
    refine r_laldv (jn := 0) (v := x0) rfl dX10_leastWorld_23 bq f2 (by unfold vp_in; decide) rfl rfl ?_
    refine r_aload_n rfl dX10_leastWorld_24 rfl ?_
    refine r_getv 0 rfl dX10_leastWorld_25 ba f1 fl_X10_9 rfl ?_
    refine r_iload_n rfl dX10_leastWorld_28 rfl ?_
    refine r_laldv (jn := 0) (v := x0) rfl dX10_leastWorld_29 bq f2 (by unfold vp_in; decide) rfl rfl ?_
    refine r_lneg rfl dX10_leastWorld_30 ?_
    refine r_land rfl dX10_leastWorld_31 ?_
    refine r_topl (fun x61 e62 => ?_)
    refine r_lstore_n (ls' := [some (.ref a), some (.int 0), some (.long x61), none]) rfl dX10_leastWorld_32 (Nat.le_of_ble_eq_true rfl) rfl ?_
    refine r_bipush (v := 64) rfl dX10_leastWorld_33 (by decide) ?_
    refine r_iload_n rfl dX10_leastWorld_35 rfl ?_
    refine r_imul rfl dX10_leastWorld_36 ?_
    refine r_eqi (y := 0) (by decide) ?_
    refine r_lload_n rfl dX10_leastWorld_37 rfl ?_
    refine r_lconst (v := 1) rfl dX10_leastWorld_38 (by decide) ?_
    refine r_lsub rfl dX10_leastWorld_39 ?_
    refine cl_X10_24 rfl rfl dX10_leastWorld_40 (Nat.le_of_ble_eq_true rfl) s_J13_bitCount_95d88 ?_
    rintro _ _ _ ⟨rfl, rfl, rfl⟩
    refine r_iadd rfl dX10_leastWorld_43 ?_
    subst e62
    exact r_ret dX10_leastWorld_44 (rt_i rfl) ⟨rfl, rfl, (by unfold wsLeast; rw [if_neg c51] <;> rfl)⟩
def ptu (x0 x1 x2 x3 : Int64) (l p : Int32) : Int64 := if p < 0 then (0) else (if p < 4 then (if l < 0 then (if (p ^^^ (1 <<< ((l - 6) &&& 31))) < 0 then (0) else (if (p ^^^ (1 <<< ((l - 6) &&& 31))) < 4 then (sel4 x0 x1 x2 x3 (p ^^^ (1 <<< ((l - 6) &&& 31))).toNatClampNeg) else (0))) else (if 6 ≤ l then (if (p ^^^ (1 <<< ((l - 6) &&& 31))) < 0 then (0) else (if (p ^^^ (1 <<< ((l - 6) &&& 31))) < 4 then (sel4 x0 x1 x2 x3 (p ^^^ (1 <<< ((l - 6) &&& 31))).toNatClampNeg) else (0))) else (((((sel4 x0 x1 x2 x3 p.toNatClampNeg) &&& (ev_so l.toNatClampNeg)).toUInt64 >>> (((1 <<< (l &&& 31)) : Int32).toInt64.toUInt64 &&& Int64.toUInt64 63)).toInt64) ||| (((sel4 x0 x1 x2 x3 p.toNatClampNeg) <<< (((1 <<< (l &&& 31)) : Int32).toInt64 &&& 63)) &&& (ev_so l.toNatClampNeg))))) else (0))
set_option maxRecDepth 20000 in
theorem s_X10_partTurned {xs : Nat → Int32} {L d sz : Nat} {h : ev_H} {a q : Nat} {t : Nat → Int64} {x0 x1 x2 x3 : Int64} {l p : Int32} (hw : isWS h sz a q t x0 x1 x2 x3) : EV xs L (d + 0) 0 0 M_X10_partTurned sz h 0 [some (.ref a), some (.int l), some (.int p), none] [] (fun sz' h' r => sz' = sz ∧ h' = h ∧ r = [.long (ptu x0 x1 x2 x3 l p)]) := by
  obtain ⟨ba, bq, f1, f2⟩ := hw
  refine r_iload_n rfl dX10_partTurned_0 rfl ?_
  refine r_if_lt (tgt := 9) rfl rfl dX10_partTurned_1 (fun c51 => ?_) (fun c51 => ?_)
  · refine r_lconst (v := 0) rfl dX10_partTurned_9 (by decide) ?_
    exact r_ret dX10_partTurned_10 (rt_l rfl) ⟨rfl, rfl, (by unfold ptu; rw [if_pos c51] <;> rfl)⟩
  · refine r_iload_n rfl dX10_partTurned_4 rfl ?_
    refine r_iconst (v := 4) rfl dX10_partTurned_5 (by decide) ?_
    refine r_icmp_lt (tgt := 11) rfl rfl dX10_partTurned_6 (fun c52 => ?_) (fun c52 => ?_)
    · refine r_iload_n rfl dX10_partTurned_11 rfl ?_
      refine r_if_lt (tgt := 57) rfl rfl dX10_partTurned_12 (fun c53 => ?_) (fun c53 => ?_)
      · refine r_iload_n rfl dX10_partTurned_57 rfl ?_
        refine r_iconst (v := 1) rfl dX10_partTurned_58 (by decide) ?_
        refine r_iload_n rfl dX10_partTurned_59 rfl ?_
        refine r_gets rfl dX10_partTurned_60 fs_X10_15 ?_
        refine r_solen rfl dX10_partTurned_63 ?_
        refine r_isub rfl dX10_partTurned_64 ?_
        refine r_ishl rfl dX10_partTurned_65 ?_
        refine r_ixor rfl dX10_partTurned_66 ?_
        refine r_topi (fun x54 e55 => ?_)
        refine r_istore_n (ls' := [some (.ref a), some (.int l), some (.int p), some (.int x54)]) rfl dX10_partTurned_67 (Nat.le_of_ble_eq_true rfl) rfl ?_
        refine r_iload_n rfl dX10_partTurned_68 rfl ?_
        refine r_if_lt (tgt := 77) rfl rfl dX10_partTurned_69 (fun c56 => ?_) (fun c56 => ?_)
        · refine r_lconst (v := 0) rfl dX10_partTurned_77 (by decide) ?_
          refine r_goto (pc' := 87) rfl dX10_partTurned_78 ?_
          subst e55
          exact r_ret dX10_partTurned_87 (rt_l rfl) ⟨rfl, rfl, (by unfold ptu; rw [if_neg c51, if_pos c52, if_pos c53, if_pos c56] <;> rfl)⟩
        · refine r_iload_n rfl dX10_partTurned_72 rfl ?_
          refine r_iconst (v := 4) rfl dX10_partTurned_73 (by decide) ?_
          refine r_icmp_lt (tgt := 81) rfl rfl dX10_partTurned_74 (fun c57 => ?_) (fun c57 => ?_)
          · refine r_aload_n rfl dX10_partTurned_81 rfl ?_
            refine r_getv 0 rfl dX10_partTurned_82 ba f1 fl_X10_9 rfl ?_
            refine r_iload_n rfl dX10_partTurned_85 rfl ?_
            refine r_laldv (jn := x54.toNatClampNeg) (v := sel4 x0 x1 x2 x3 x54.toNatClampNeg) rfl dX10_partTurned_86 bq f2 (vpi2 (m := 4) (by decide) c56 c57) (by first | rfl | assumption) (ws4_s (vp_in_lt (vpi2 (m := 4) (by decide) c56 c57))) ?_
            subst e55
            exact r_ret dX10_partTurned_87 (rt_l rfl) ⟨rfl, rfl, (by unfold ptu; rw [if_neg c51, if_pos c52, if_pos c53, if_neg c56, if_pos c57] <;> rfl)⟩
          · refine r_lconst (v := 0) rfl dX10_partTurned_77 (by decide) ?_
            refine r_goto (pc' := 87) rfl dX10_partTurned_78 ?_
            subst e55
            exact r_ret dX10_partTurned_87 (rt_l rfl) ⟨rfl, rfl, (by unfold ptu; rw [if_neg c51, if_pos c52, if_pos c53, if_neg c56, if_neg c57] <;> rfl)⟩
      · refine r_iload_n rfl dX10_partTurned_15 rfl ?_
        refine r_gets rfl dX10_partTurned_16 fs_X10_15 ?_
        refine r_solen rfl dX10_partTurned_19 ?_
        refine r_icmp_ge (tgt := 57) rfl rfl dX10_partTurned_20 (fun c58 => ?_) (fun c58 => ?_)
        · refine r_iload_n rfl dX10_partTurned_57 rfl ?_
          refine r_iconst (v := 1) rfl dX10_partTurned_58 (by decide) ?_
          refine r_iload_n rfl dX10_partTurned_59 rfl ?_
          refine r_gets rfl dX10_partTurned_60 fs_X10_15 ?_
          refine r_solen rfl dX10_partTurned_63 ?_
          refine r_isub rfl dX10_partTurned_64 ?_
          refine r_ishl rfl dX10_partTurned_65 ?_
          refine r_ixor rfl dX10_partTurned_66 ?_
          refine r_topi (fun x59 e60 => ?_)
          refine r_istore_n (ls' := [some (.ref a), some (.int l), some (.int p), some (.int x59)]) rfl dX10_partTurned_67 (Nat.le_of_ble_eq_true rfl) rfl ?_
          refine r_iload_n rfl dX10_partTurned_68 rfl ?_
          refine r_if_lt (tgt := 77) rfl rfl dX10_partTurned_69 (fun c61 => ?_) (fun c61 => ?_)
          · refine r_lconst (v := 0) rfl dX10_partTurned_77 (by decide) ?_
            refine r_goto (pc' := 87) rfl dX10_partTurned_78 ?_
            subst e60
            exact r_ret dX10_partTurned_87 (rt_l rfl) ⟨rfl, rfl, (by unfold ptu; rw [if_neg c51, if_pos c52, if_neg c53, if_pos c58, if_pos c61] <;> rfl)⟩
          · refine r_iload_n rfl dX10_partTurned_72 rfl ?_
            refine r_iconst (v := 4) rfl dX10_partTurned_73 (by decide) ?_
            refine r_icmp_lt (tgt := 81) rfl rfl dX10_partTurned_74 (fun c62 => ?_) (fun c62 => ?_)
            · refine r_aload_n rfl dX10_partTurned_81 rfl ?_
              refine r_getv 0 rfl dX10_partTurned_82 ba f1 fl_X10_9 rfl ?_
              refine r_iload_n rfl dX10_partTurned_85 rfl ?_
              refine r_laldv (jn := x59.toNatClampNeg) (v := sel4 x0 x1 x2 x3 x59.toNatClampNeg) rfl dX10_partTurned_86 bq f2 (vpi2 (m := 4) (by decide) c61 c62) (by first | rfl | assumption) (ws4_s (vp_in_lt (vpi2 (m := 4) (by decide) c61 c62))) ?_
              subst e60
              exact r_ret dX10_partTurned_87 (rt_l rfl) ⟨rfl, rfl, (by unfold ptu; rw [if_neg c51, if_pos c52, if_neg c53, if_pos c58, if_neg c61, if_pos c62] <;> rfl)⟩
            · refine r_lconst (v := 0) rfl dX10_partTurned_77 (by decide) ?_
              refine r_goto (pc' := 87) rfl dX10_partTurned_78 ?_
              subst e60
              exact r_ret dX10_partTurned_87 (rt_l rfl) ⟨rfl, rfl, (by unfold ptu; rw [if_neg c51, if_pos c52, if_neg c53, if_pos c58, if_neg c61, if_neg c62] <;> rfl)⟩
        · refine r_iconst (v := 1) rfl dX10_partTurned_23 (by decide) ?_
          refine r_iload_n rfl dX10_partTurned_24 rfl ?_
          refine r_ishl rfl dX10_partTurned_25 ?_
          refine r_topi (fun x63 e64 => ?_)
          refine r_istore_n (ls' := [some (.ref a), some (.int l), some (.int p), some (.int x63)]) rfl dX10_partTurned_26 (Nat.le_of_ble_eq_true rfl) rfl ?_
          refine r_aload_n rfl dX10_partTurned_27 rfl ?_
          refine r_getv 0 rfl dX10_partTurned_28 ba f1 fl_X10_9 rfl ?_
          refine r_iload_n rfl dX10_partTurned_31 rfl ?_
          refine r_laldv (jn := p.toNatClampNeg) (v := sel4 x0 x1 x2 x3 p.toNatClampNeg) rfl dX10_partTurned_32 bq f2 (vpi2 (m := 4) (by decide) c51 c52) (by first | rfl | assumption) (ws4_s (vp_in_lt (vpi2 (m := 4) (by decide) c51 c52))) ?_
          refine r_gets rfl dX10_partTurned_33 fs_X10_15 ?_
          refine r_iload_n rfl dX10_partTurned_36 rfl ?_
          refine r_soldv (jn := l.toNatClampNeg) (v := ev_so l.toNatClampNeg) rfl dX10_partTurned_37 (vpi (m := 6) (by decide) c53 c58) (by first | rfl | assumption) rfl ?_
          refine r_land rfl dX10_partTurned_38 ?_
          refine r_iload_n rfl dX10_partTurned_39 rfl ?_
          refine r_lushr rfl dX10_partTurned_40 ?_
          refine r_aload_n rfl dX10_partTurned_41 rfl ?_
          refine r_getv 0 rfl dX10_partTurned_42 ba f1 fl_X10_9 rfl ?_
          refine r_iload_n rfl dX10_partTurned_45 rfl ?_
          refine r_laldv (jn := p.toNatClampNeg) (v := sel4 x0 x1 x2 x3 p.toNatClampNeg) rfl dX10_partTurned_46 bq f2 (vpi2 (m := 4) (by decide) c51 c52) (by first | rfl | assumption) (ws4_s (vp_in_lt (vpi2 (m := 4) (by decide) c51 c52))) ?_
          refine r_iload_n rfl dX10_partTurned_47 rfl ?_
          refine r_lshl rfl dX10_partTurned_48 ?_
          refine r_gets rfl dX10_partTurned_49 fs_X10_15 ?_
          refine r_iload_n rfl dX10_partTurned_52 rfl ?_
          refine r_soldv (jn := l.toNatClampNeg) (v := ev_so l.toNatClampNeg) rfl dX10_partTurned_53 (vpi (m := 6) (by decide) c53 c58) (by first | rfl | assumption) rfl ?_
          refine r_land rfl dX10_partTurned_54 ?_
          refine r_lor rfl dX10_partTurned_55 ?_
          subst e64
          exact r_ret dX10_partTurned_56 (rt_l rfl) ⟨rfl, rfl, (by unfold ptu; rw [if_neg c51, if_pos c52, if_neg c53, if_neg c58] <;> rfl)⟩
    · refine r_lconst (v := 0) rfl dX10_partTurned_9 (by decide) ?_
      exact r_ret dX10_partTurned_10 (rt_l rfl) ⟨rfl, rfl, (by unfold ptu; rw [if_neg c51, if_neg c52] <;> rfl)⟩
def hgo (x0 x1 x2 x3 : Int64) (l : Int32) : Int32 := if (lg_cmp (ptu x0 x1 x2 x3 l 0) x0) = 0 then (if (lg_cmp (ptu x0 x1 x2 x3 l 1) x1) = 0 then (if (lg_cmp (ptu x0 x1 x2 x3 l 2) x2) = 0 then (if (lg_cmp (ptu x0 x1 x2 x3 l 3) x3) = 0 then (0) else (1)) else (1)) else (1)) else (1)
set_option maxRecDepth 20000 in
theorem s_X10_hangsOn {xs : Nat → Int32} {L d sz : Nat} {h : ev_H} {a q : Nat} {t : Nat → Int64} {x0 x1 x2 x3 : Int64} {l : Int32} (hw : isWS h sz a q t x0 x1 x2 x3) : EV xs L (d + 1) 0 0 M_X10_hangsOn sz h 0 [some (.ref a), some (.int l), none] [] (fun sz' h' r => sz' = sz ∧ h' = h ∧ r = [.int (hgo x0 x1 x2 x3 l)]) := by
  obtain ⟨ba, bq, f1, f2⟩ := hw
  refine r_iconst (v := 0) rfl dX10_hangsOn_0 (by decide) ?_
  refine r_istore_n (ls' := [some (.ref a), some (.int l), some (.int 0)]) rfl dX10_hangsOn_1 (Nat.le_of_ble_eq_true rfl) rfl ?_
  refine r_iload_n rfl dX10_hangsOn_2 rfl ?_
  refine r_iconst (v := 4) rfl dX10_hangsOn_3 (by decide) ?_
  refine r_icmp_ge (tgt := 31) rfl rfl dX10_hangsOn_4 (fun c => absurd c (by decide)) (fun _ => ?_)
  refine r_aload_n rfl dX10_hangsOn_7 rfl ?_
  refine r_iload_n rfl dX10_hangsOn_8 rfl ?_
  refine r_iload_n rfl dX10_hangsOn_9 rfl ?_
  refine cl_X10_48 rfl rfl dX10_hangsOn_10 ba.1 ba.2 f1 (Nat.le_of_ble_eq_true rfl) (s_X10_partTurned ⟨ba, bq, f1, f2⟩) ?_
  rintro _ _ _ ⟨rfl, rfl, rfl⟩
  refine r_aload_n rfl dX10_hangsOn_13 rfl ?_
  refine r_getv 0 rfl dX10_hangsOn_14 ba f1 fl_X10_9 rfl ?_
  refine r_iload_n rfl dX10_hangsOn_17 rfl ?_
  refine r_laldv (jn := 0) (v := x0) rfl dX10_hangsOn_18 bq f2 (by unfold vp_in; decide) rfl rfl ?_
  refine r_lcmp rfl dX10_hangsOn_19 ?_
  refine r_if_eq (tgt := 25) rfl rfl dX10_hangsOn_20 (fun c51 => ?_) (fun c51 => ?_)
  · refine r_iinc (y := 1) (ls' := [some (.ref a), some (.int l), some (.int 1)]) rfl dX10_hangsOn_25 rfl (by decide) (Nat.le_of_ble_eq_true rfl) rfl ?_
    refine r_goto (pc' := 2) rfl dX10_hangsOn_28 ?_
    refine r_iload_n rfl dX10_hangsOn_2 rfl ?_
    refine r_iconst (v := 4) rfl dX10_hangsOn_3 (by decide) ?_
    refine r_icmp_ge (tgt := 31) rfl rfl dX10_hangsOn_4 (fun c => absurd c (by decide)) (fun _ => ?_)
    refine r_aload_n rfl dX10_hangsOn_7 rfl ?_
    refine r_iload_n rfl dX10_hangsOn_8 rfl ?_
    refine r_iload_n rfl dX10_hangsOn_9 rfl ?_
    refine cl_X10_48 rfl rfl dX10_hangsOn_10 ba.1 ba.2 f1 (Nat.le_of_ble_eq_true rfl) (s_X10_partTurned ⟨ba, bq, f1, f2⟩) ?_
    rintro _ _ _ ⟨rfl, rfl, rfl⟩
    refine r_aload_n rfl dX10_hangsOn_13 rfl ?_
    refine r_getv 0 rfl dX10_hangsOn_14 ba f1 fl_X10_9 rfl ?_
    refine r_iload_n rfl dX10_hangsOn_17 rfl ?_
    refine r_laldv (jn := 1) (v := x1) rfl dX10_hangsOn_18 bq f2 (by unfold vp_in; decide) rfl rfl ?_
    refine r_lcmp rfl dX10_hangsOn_19 ?_
    refine r_if_eq (tgt := 25) rfl rfl dX10_hangsOn_20 (fun c52 => ?_) (fun c52 => ?_)
    · refine r_iinc (y := 2) (ls' := [some (.ref a), some (.int l), some (.int 2)]) rfl dX10_hangsOn_25 rfl (by decide) (Nat.le_of_ble_eq_true rfl) rfl ?_
      refine r_goto (pc' := 2) rfl dX10_hangsOn_28 ?_
      refine r_iload_n rfl dX10_hangsOn_2 rfl ?_
      refine r_iconst (v := 4) rfl dX10_hangsOn_3 (by decide) ?_
      refine r_icmp_ge (tgt := 31) rfl rfl dX10_hangsOn_4 (fun c => absurd c (by decide)) (fun _ => ?_)
      refine r_aload_n rfl dX10_hangsOn_7 rfl ?_
      refine r_iload_n rfl dX10_hangsOn_8 rfl ?_
      refine r_iload_n rfl dX10_hangsOn_9 rfl ?_
      refine cl_X10_48 rfl rfl dX10_hangsOn_10 ba.1 ba.2 f1 (Nat.le_of_ble_eq_true rfl) (s_X10_partTurned ⟨ba, bq, f1, f2⟩) ?_
      rintro _ _ _ ⟨rfl, rfl, rfl⟩
      refine r_aload_n rfl dX10_hangsOn_13 rfl ?_
      refine r_getv 0 rfl dX10_hangsOn_14 ba f1 fl_X10_9 rfl ?_
      refine r_iload_n rfl dX10_hangsOn_17 rfl ?_
      refine r_laldv (jn := 2) (v := x2) rfl dX10_hangsOn_18 bq f2 (by unfold vp_in; decide) rfl rfl ?_
      refine r_lcmp rfl dX10_hangsOn_19 ?_
      refine r_if_eq (tgt := 25) rfl rfl dX10_hangsOn_20 (fun c53 => ?_) (fun c53 => ?_)
      · refine r_iinc (y := 3) (ls' := [some (.ref a), some (.int l), some (.int 3)]) rfl dX10_hangsOn_25 rfl (by decide) (Nat.le_of_ble_eq_true rfl) rfl ?_
        refine r_goto (pc' := 2) rfl dX10_hangsOn_28 ?_
        refine r_iload_n rfl dX10_hangsOn_2 rfl ?_
        refine r_iconst (v := 4) rfl dX10_hangsOn_3 (by decide) ?_
        refine r_icmp_ge (tgt := 31) rfl rfl dX10_hangsOn_4 (fun c => absurd c (by decide)) (fun _ => ?_)
        refine r_aload_n rfl dX10_hangsOn_7 rfl ?_
        refine r_iload_n rfl dX10_hangsOn_8 rfl ?_
        refine r_iload_n rfl dX10_hangsOn_9 rfl ?_
        refine cl_X10_48 rfl rfl dX10_hangsOn_10 ba.1 ba.2 f1 (Nat.le_of_ble_eq_true rfl) (s_X10_partTurned ⟨ba, bq, f1, f2⟩) ?_
        rintro _ _ _ ⟨rfl, rfl, rfl⟩
        refine r_aload_n rfl dX10_hangsOn_13 rfl ?_
        refine r_getv 0 rfl dX10_hangsOn_14 ba f1 fl_X10_9 rfl ?_
        refine r_iload_n rfl dX10_hangsOn_17 rfl ?_
        refine r_laldv (jn := 3) (v := x3) rfl dX10_hangsOn_18 bq f2 (by unfold vp_in; decide) rfl rfl ?_
        refine r_lcmp rfl dX10_hangsOn_19 ?_
        refine r_if_eq (tgt := 25) rfl rfl dX10_hangsOn_20 (fun c54 => ?_) (fun c54 => ?_)
        · refine r_iinc (y := 4) (ls' := [some (.ref a), some (.int l), some (.int 4)]) rfl dX10_hangsOn_25 rfl (by decide) (Nat.le_of_ble_eq_true rfl) rfl ?_
          refine r_goto (pc' := 2) rfl dX10_hangsOn_28 ?_
          refine r_iload_n rfl dX10_hangsOn_2 rfl ?_
          refine r_iconst (v := 4) rfl dX10_hangsOn_3 (by decide) ?_
          refine r_icmp_ge (tgt := 31) rfl rfl dX10_hangsOn_4 (fun _ => ?_) (fun c => absurd c (by decide))
          refine r_iconst (v := 0) rfl dX10_hangsOn_31 (by decide) ?_
          exact r_ret dX10_hangsOn_32 (rt_z rfl (Or.inl rfl)) ⟨rfl, rfl, (by unfold hgo; rw [if_pos c51, if_pos c52, if_pos c53, if_pos c54] <;> rfl)⟩
        · refine r_iconst (v := 1) rfl dX10_hangsOn_23 (by decide) ?_
          exact r_ret dX10_hangsOn_24 (rt_z rfl (Or.inr rfl)) ⟨rfl, rfl, (by unfold hgo; rw [if_pos c51, if_pos c52, if_pos c53, if_neg c54] <;> rfl)⟩
      · refine r_iconst (v := 1) rfl dX10_hangsOn_23 (by decide) ?_
        exact r_ret dX10_hangsOn_24 (rt_z rfl (Or.inr rfl)) ⟨rfl, rfl, (by unfold hgo; rw [if_pos c51, if_pos c52, if_neg c53] <;> rfl)⟩
    · refine r_iconst (v := 1) rfl dX10_hangsOn_23 (by decide) ?_
      exact r_ret dX10_hangsOn_24 (rt_z rfl (Or.inr rfl)) ⟨rfl, rfl, (by unfold hgo; rw [if_pos c51, if_neg c52] <;> rfl)⟩
  · refine r_iconst (v := 1) rfl dX10_hangsOn_23 (by decide) ?_
    exact r_ret dX10_hangsOn_24 (rt_z rfl (Or.inr rfl)) ⟨rfl, rfl, (by unfold hgo; rw [if_neg c51] <;> rfl)⟩
def spr0 (x0 x1 x2 x3 : Int64) (l : Int32) : Int64 := x0 ||| ptu x0 x1 x2 x3 l 0
def spr1 (x0 x1 x2 x3 : Int64) (l : Int32) : Int64 := x1 ||| ptu (spr0 x0 x1 x2 x3 l) x1 x2 x3 l 1
def spr2 (x0 x1 x2 x3 : Int64) (l : Int32) : Int64 := x2 ||| ptu (spr0 x0 x1 x2 x3 l) (spr1 x0 x1 x2 x3 l) x2 x3 l 2
def spr3 (x0 x1 x2 x3 : Int64) (l : Int32) : Int64 := x3 ||| ptu (spr0 x0 x1 x2 x3 l) (spr1 x0 x1 x2 x3 l) (spr2 x0 x1 x2 x3 l) x3 l 3
set_option maxRecDepth 20000 in
theorem s_X10_spread {xs : Nat → Int32} {L d sz : Nat} {h : ev_H} {a q : Nat} {t : Nat → Int64} {x0 x1 x2 x3 : Int64} {l : Int32} (hw : isWS h sz a q t x0 x1 x2 x3) : EV xs L (d + 1) 0 0 M_X10_spread sz h 0 [some (.ref a), some (.int l), none] [] (fun sz' h' r => sz' = sz ∧ h' = va_up h q (.inl (1, 4, .inr (.inl (ws4 t (spr0 x0 x1 x2 x3 l) (spr1 x0 x1 x2 x3 l) (spr2 x0 x1 x2 x3 l) (spr3 x0 x1 x2 x3 l))))) ∧ r = []) := by
  obtain ⟨ba, bq, f1, f2⟩ := hw
  refine r_iconst (v := 0) rfl dX10_spread_0 (by decide) ?_
  refine r_istore_n (ls' := [some (.ref a), some (.int l), some (.int 0)]) rfl dX10_spread_1 (Nat.le_of_ble_eq_true rfl) rfl ?_
  refine r_iload_n rfl dX10_spread_2 rfl ?_
  refine r_iconst (v := 4) rfl dX10_spread_3 (by decide) ?_
  refine r_icmp_ge (tgt := 28) rfl rfl dX10_spread_4 (fun c => absurd c (by decide)) (fun _ => ?_)
  refine r_aload_n rfl dX10_spread_7 rfl ?_
  refine r_getv 0 rfl dX10_spread_8 ba f1 fl_X10_9 rfl ?_
  refine r_iload_n rfl dX10_spread_11 rfl ?_
  refine r_dup2 rfl dX10_spread_12 (by intro q; cases q) (by intro q; cases q) ?_
  refine r_laldv (jn := 0) (v := x0) rfl dX10_spread_13 bq f2 (by unfold vp_in; decide) rfl rfl ?_
  refine r_aload_n rfl dX10_spread_14 rfl ?_
  refine r_iload_n rfl dX10_spread_15 rfl ?_
  refine r_iload_n rfl dX10_spread_16 rfl ?_
  refine cl_X10_48 rfl rfl dX10_spread_17 ba.1 ba.2 f1 (Nat.le_of_ble_eq_true rfl) (s_X10_partTurned ⟨ba, bq, f1, f2⟩) ?_
  rintro _ _ _ ⟨rfl, rfl, rfl⟩
  refine r_lor rfl dX10_spread_20 ?_
  refine r_topl (fun x51 e52 => ?_)
  refine r_lastv (jn := 0) (f' := ws4 t x51 x1 x2 x3) rfl dX10_spread_21 bq f2 (by unfold vp_in; decide) rfl (ws4_u0 _ _ _ _ _ _) (fun h53 eh54 => ?_)
  have f55 : h53 q = .inl (1, 4, .inr (.inl (ws4 t x51 x1 x2 x3))) := by rw [eh54]; exact va_up_self _ _ _
  have f56 : h53 a = .inr (10, [.ref q]) := by rw [eh54, va_up_ne _ _ (fun q => by rw [q, f2] at f1; cases f1)]; exact f1
  refine r_iinc (y := 1) (ls' := [some (.ref a), some (.int l), some (.int 1)]) rfl dX10_spread_22 rfl (by decide) (Nat.le_of_ble_eq_true rfl) rfl ?_
  refine r_goto (pc' := 2) rfl dX10_spread_25 ?_
  refine r_iload_n rfl dX10_spread_2 rfl ?_
  refine r_iconst (v := 4) rfl dX10_spread_3 (by decide) ?_
  refine r_icmp_ge (tgt := 28) rfl rfl dX10_spread_4 (fun c => absurd c (by decide)) (fun _ => ?_)
  refine r_aload_n rfl dX10_spread_7 rfl ?_
  refine r_getv 0 rfl dX10_spread_8 ba f56 fl_X10_9 rfl ?_
  refine r_iload_n rfl dX10_spread_11 rfl ?_
  refine r_dup2 rfl dX10_spread_12 (by intro q; cases q) (by intro q; cases q) ?_
  refine r_laldv (jn := 1) (v := x1) rfl dX10_spread_13 bq f55 (by unfold vp_in; decide) rfl rfl ?_
  refine r_aload_n rfl dX10_spread_14 rfl ?_
  refine r_iload_n rfl dX10_spread_15 rfl ?_
  refine r_iload_n rfl dX10_spread_16 rfl ?_
  refine cl_X10_48 rfl rfl dX10_spread_17 ba.1 ba.2 f56 (Nat.le_of_ble_eq_true rfl) (s_X10_partTurned ⟨ba, bq, f56, f55⟩) ?_
  rintro _ _ _ ⟨rfl, rfl, rfl⟩
  refine r_lor rfl dX10_spread_20 ?_
  refine r_topl (fun x57 e58 => ?_)
  refine r_lastv (jn := 1) (f' := ws4 t x51 x57 x2 x3) rfl dX10_spread_21 bq f55 (by unfold vp_in; decide) rfl (ws4_u1 _ _ _ _ _ _) (fun h59 eh60 => ?_)
  have f61 : h59 q = .inl (1, 4, .inr (.inl (ws4 t x51 x57 x2 x3))) := by rw [eh60]; exact va_up_self _ _ _
  have f62 : h59 a = .inr (10, [.ref q]) := by rw [eh60, va_up_ne _ _ (fun q => by rw [q, f55] at f56; cases f56)]; exact f56
  refine r_iinc (y := 2) (ls' := [some (.ref a), some (.int l), some (.int 2)]) rfl dX10_spread_22 rfl (by decide) (Nat.le_of_ble_eq_true rfl) rfl ?_
  refine r_goto (pc' := 2) rfl dX10_spread_25 ?_
  refine r_iload_n rfl dX10_spread_2 rfl ?_
  refine r_iconst (v := 4) rfl dX10_spread_3 (by decide) ?_
  refine r_icmp_ge (tgt := 28) rfl rfl dX10_spread_4 (fun c => absurd c (by decide)) (fun _ => ?_)
  refine r_aload_n rfl dX10_spread_7 rfl ?_
  refine r_getv 0 rfl dX10_spread_8 ba f62 fl_X10_9 rfl ?_
  refine r_iload_n rfl dX10_spread_11 rfl ?_
  refine r_dup2 rfl dX10_spread_12 (by intro q; cases q) (by intro q; cases q) ?_
  refine r_laldv (jn := 2) (v := x2) rfl dX10_spread_13 bq f61 (by unfold vp_in; decide) rfl rfl ?_
  refine r_aload_n rfl dX10_spread_14 rfl ?_
  refine r_iload_n rfl dX10_spread_15 rfl ?_
  refine r_iload_n rfl dX10_spread_16 rfl ?_
  refine cl_X10_48 rfl rfl dX10_spread_17 ba.1 ba.2 f62 (Nat.le_of_ble_eq_true rfl) (s_X10_partTurned ⟨ba, bq, f62, f61⟩) ?_
  rintro _ _ _ ⟨rfl, rfl, rfl⟩
  refine r_lor rfl dX10_spread_20 ?_
  refine r_topl (fun x63 e64 => ?_)
  refine r_lastv (jn := 2) (f' := ws4 t x51 x57 x63 x3) rfl dX10_spread_21 bq f61 (by unfold vp_in; decide) rfl (ws4_u2 _ _ _ _ _ _) (fun h65 eh66 => ?_)
  have f67 : h65 q = .inl (1, 4, .inr (.inl (ws4 t x51 x57 x63 x3))) := by rw [eh66]; exact va_up_self _ _ _
  have f68 : h65 a = .inr (10, [.ref q]) := by rw [eh66, va_up_ne _ _ (fun q => by rw [q, f61] at f62; cases f62)]; exact f62
  refine r_iinc (y := 3) (ls' := [some (.ref a), some (.int l), some (.int 3)]) rfl dX10_spread_22 rfl (by decide) (Nat.le_of_ble_eq_true rfl) rfl ?_
  refine r_goto (pc' := 2) rfl dX10_spread_25 ?_
  refine r_iload_n rfl dX10_spread_2 rfl ?_
  refine r_iconst (v := 4) rfl dX10_spread_3 (by decide) ?_
  refine r_icmp_ge (tgt := 28) rfl rfl dX10_spread_4 (fun c => absurd c (by decide)) (fun _ => ?_)
  refine r_aload_n rfl dX10_spread_7 rfl ?_
  refine r_getv 0 rfl dX10_spread_8 ba f68 fl_X10_9 rfl ?_
  refine r_iload_n rfl dX10_spread_11 rfl ?_
  refine r_dup2 rfl dX10_spread_12 (by intro q; cases q) (by intro q; cases q) ?_
  refine r_laldv (jn := 3) (v := x3) rfl dX10_spread_13 bq f67 (by unfold vp_in; decide) rfl rfl ?_
  refine r_aload_n rfl dX10_spread_14 rfl ?_
  refine r_iload_n rfl dX10_spread_15 rfl ?_
  refine r_iload_n rfl dX10_spread_16 rfl ?_
  refine cl_X10_48 rfl rfl dX10_spread_17 ba.1 ba.2 f68 (Nat.le_of_ble_eq_true rfl) (s_X10_partTurned ⟨ba, bq, f68, f67⟩) ?_
  rintro _ _ _ ⟨rfl, rfl, rfl⟩
  refine r_lor rfl dX10_spread_20 ?_
  refine r_topl (fun x69 e70 => ?_)
  refine r_lastv (jn := 3) (f' := ws4 t x51 x57 x63 x69) rfl dX10_spread_21 bq f67 (by unfold vp_in; decide) rfl (ws4_u3 _ _ _ _ _ _) (fun h71 eh72 => ?_)
  have f73 : h71 q = .inl (1, 4, .inr (.inl (ws4 t x51 x57 x63 x69))) := by rw [eh72]; exact va_up_self _ _ _
  have f74 : h71 a = .inr (10, [.ref q]) := by rw [eh72, va_up_ne _ _ (fun q => by rw [q, f67] at f68; cases f68)]; exact f68
  refine r_iinc (y := 4) (ls' := [some (.ref a), some (.int l), some (.int 4)]) rfl dX10_spread_22 rfl (by decide) (Nat.le_of_ble_eq_true rfl) rfl ?_
  refine r_goto (pc' := 2) rfl dX10_spread_25 ?_
  refine r_iload_n rfl dX10_spread_2 rfl ?_
  refine r_iconst (v := 4) rfl dX10_spread_3 (by decide) ?_
  refine r_icmp_ge (tgt := 28) rfl rfl dX10_spread_4 (fun _ => ?_) (fun c => absurd c (by decide))
  subst e70
  subst e64
  subst e58
  subst e52
  subst eh72
  subst eh66
  subst eh60
  subst eh54
  exact r_ret dX10_spread_28 (rt_v rfl) ⟨rfl, (by first | (simp only [va_up_up]; done) | (simp only [va_up_up]; rfl) | rfl), rfl⟩
set_option maxRecDepth 20000 in
theorem s_X10_joinWhere {xs : Nat → Int32} {L d sz : Nat} {h : ev_H} {a q : Nat} {t : Nat → Int64} {x0 x1 x2 x3 : Int64} {l so : Int32} (hw : isWS h sz a q t x0 x1 x2 x3) : EV xs L (d + 1) 0 0 M_X10_joinWhere sz h 0 [some (.ref a), some (.int l), some (.int so), none, none, none] [] (fun sz' h' r => sz' = sz ∧ h' = va_up h q (.inl (1, 4, .inr (.inl (ws4 t (x0 ||| (if so = 0 then pws l 0 ^^^ (-1) else pws l 0)) (x1 ||| (if so = 0 then pws l 1 ^^^ (-1) else pws l 1)) (x2 ||| (if so = 0 then pws l 2 ^^^ (-1) else pws l 2)) (x3 ||| (if so = 0 then pws l 3 ^^^ (-1) else pws l 3)))))) ∧ r = []) := by
  obtain ⟨ba, bq, f1, f2⟩ := hw
  refine r_iconst (v := 0) rfl dX10_joinWhere_0 (by decide) ?_
  refine r_istore_n (ls' := [some (.ref a), some (.int l), some (.int so), some (.int 0), none, none]) rfl dX10_joinWhere_1 (Nat.le_of_ble_eq_true rfl) rfl ?_
  refine r_iload_n rfl dX10_joinWhere_2 rfl ?_
  refine r_iconst (v := 4) rfl dX10_joinWhere_3 (by decide) ?_
  refine r_icmp_ge (tgt := 44) rfl rfl dX10_joinWhere_4 (fun c => absurd c (by decide)) (fun _ => ?_)
  refine r_iload_n rfl dX10_joinWhere_7 rfl ?_
  refine r_iload_n rfl dX10_joinWhere_8 rfl ?_
  refine cl_X10_44 rfl rfl dX10_joinWhere_9 (Nat.le_of_ble_eq_true rfl) s_X10_partWhereSo ?_
  rintro _ _ _ ⟨rfl, rfl, rfl⟩
  refine r_topl (fun x51 e52 => ?_)
  refine r_lstore (ls' := [some (.ref a), some (.int l), some (.int so), some (.int 0), some (.long x51), none]) rfl dX10_joinWhere_12 (Nat.le_of_ble_eq_true rfl) rfl ?_
  refine r_aload_n rfl dX10_joinWhere_14 rfl ?_
  refine r_getv 0 rfl dX10_joinWhere_15 ba f1 fl_X10_9 rfl ?_
  refine r_iload_n rfl dX10_joinWhere_18 rfl ?_
  refine r_dup2 rfl dX10_joinWhere_19 (by intro q; cases q) (by intro q; cases q) ?_
  refine r_laldv (jn := 0) (v := x0) rfl dX10_joinWhere_20 bq f2 (by unfold vp_in; decide) rfl rfl ?_
  refine r_iload_n rfl dX10_joinWhere_21 rfl ?_
  refine r_if_eq (tgt := 30) rfl rfl dX10_joinWhere_22 (fun c53 => ?_) (fun c53 => ?_)
  · refine r_lload rfl dX10_joinWhere_30 rfl ?_
    refine r_ldc2 (v := (-1)) rfl dX10_joinWhere_32 lc_X10_18 ?_
    refine r_lxor rfl dX10_joinWhere_35 ?_
    refine r_lor rfl dX10_joinWhere_36 ?_
    refine r_topl (fun x54 e55 => ?_)
    refine r_lastv (jn := 0) (f' := ws4 t x54 x1 x2 x3) rfl dX10_joinWhere_37 bq f2 (by unfold vp_in; decide) rfl (ws4_u0 _ _ _ _ _ _) (fun h56 eh57 => ?_)
    have f58 : h56 q = .inl (1, 4, .inr (.inl (ws4 t x54 x1 x2 x3))) := by rw [eh57]; exact va_up_self _ _ _
    have f59 : h56 a = .inr (10, [.ref q]) := by rw [eh57, va_up_ne _ _ (fun q => by rw [q, f2] at f1; cases f1)]; exact f1
    refine r_iinc (y := 1) (ls' := [some (.ref a), some (.int l), some (.int so), some (.int 1), some (.long x51), none]) rfl dX10_joinWhere_38 rfl (by decide) (Nat.le_of_ble_eq_true rfl) rfl ?_
    refine r_goto (pc' := 2) rfl dX10_joinWhere_41 ?_
    refine r_iload_n rfl dX10_joinWhere_2 rfl ?_
    refine r_iconst (v := 4) rfl dX10_joinWhere_3 (by decide) ?_
    refine r_icmp_ge (tgt := 44) rfl rfl dX10_joinWhere_4 (fun c => absurd c (by decide)) (fun _ => ?_)
    refine r_iload_n rfl dX10_joinWhere_7 rfl ?_
    refine r_iload_n rfl dX10_joinWhere_8 rfl ?_
    refine cl_X10_44 rfl rfl dX10_joinWhere_9 (Nat.le_of_ble_eq_true rfl) s_X10_partWhereSo ?_
    rintro _ _ _ ⟨rfl, rfl, rfl⟩
    refine r_topl (fun x60 e61 => ?_)
    refine r_lstore (ls' := [some (.ref a), some (.int l), some (.int so), some (.int 1), some (.long x60), none]) rfl dX10_joinWhere_12 (Nat.le_of_ble_eq_true rfl) rfl ?_
    refine r_aload_n rfl dX10_joinWhere_14 rfl ?_
    refine r_getv 0 rfl dX10_joinWhere_15 ba f59 fl_X10_9 rfl ?_
    refine r_iload_n rfl dX10_joinWhere_18 rfl ?_
    refine r_dup2 rfl dX10_joinWhere_19 (by intro q; cases q) (by intro q; cases q) ?_
    refine r_laldv (jn := 1) (v := x1) rfl dX10_joinWhere_20 bq f58 (by unfold vp_in; decide) rfl rfl ?_
    refine r_iload_n rfl dX10_joinWhere_21 rfl ?_
    refine r_if_eq (tgt := 30) rfl rfl dX10_joinWhere_22 (fun _ => ?_) (fun c => absurd c (by first | exact c53 | exact fun z => z c53))
    refine r_lload rfl dX10_joinWhere_30 rfl ?_
    refine r_ldc2 (v := (-1)) rfl dX10_joinWhere_32 lc_X10_18 ?_
    refine r_lxor rfl dX10_joinWhere_35 ?_
    refine r_lor rfl dX10_joinWhere_36 ?_
    refine r_topl (fun x62 e63 => ?_)
    refine r_lastv (jn := 1) (f' := ws4 t x54 x62 x2 x3) rfl dX10_joinWhere_37 bq f58 (by unfold vp_in; decide) rfl (ws4_u1 _ _ _ _ _ _) (fun h64 eh65 => ?_)
    have f66 : h64 q = .inl (1, 4, .inr (.inl (ws4 t x54 x62 x2 x3))) := by rw [eh65]; exact va_up_self _ _ _
    have f67 : h64 a = .inr (10, [.ref q]) := by rw [eh65, va_up_ne _ _ (fun q => by rw [q, f58] at f59; cases f59)]; exact f59
    refine r_iinc (y := 2) (ls' := [some (.ref a), some (.int l), some (.int so), some (.int 2), some (.long x60), none]) rfl dX10_joinWhere_38 rfl (by decide) (Nat.le_of_ble_eq_true rfl) rfl ?_
    refine r_goto (pc' := 2) rfl dX10_joinWhere_41 ?_
    refine r_iload_n rfl dX10_joinWhere_2 rfl ?_
    refine r_iconst (v := 4) rfl dX10_joinWhere_3 (by decide) ?_
    refine r_icmp_ge (tgt := 44) rfl rfl dX10_joinWhere_4 (fun c => absurd c (by decide)) (fun _ => ?_)
    refine r_iload_n rfl dX10_joinWhere_7 rfl ?_
    refine r_iload_n rfl dX10_joinWhere_8 rfl ?_
    refine cl_X10_44 rfl rfl dX10_joinWhere_9 (Nat.le_of_ble_eq_true rfl) s_X10_partWhereSo ?_
    rintro _ _ _ ⟨rfl, rfl, rfl⟩
    refine r_topl (fun x68 e69 => ?_)
    refine r_lstore (ls' := [some (.ref a), some (.int l), some (.int so), some (.int 2), some (.long x68), none]) rfl dX10_joinWhere_12 (Nat.le_of_ble_eq_true rfl) rfl ?_
    refine r_aload_n rfl dX10_joinWhere_14 rfl ?_
    refine r_getv 0 rfl dX10_joinWhere_15 ba f67 fl_X10_9 rfl ?_
    refine r_iload_n rfl dX10_joinWhere_18 rfl ?_
    refine r_dup2 rfl dX10_joinWhere_19 (by intro q; cases q) (by intro q; cases q) ?_
    refine r_laldv (jn := 2) (v := x2) rfl dX10_joinWhere_20 bq f66 (by unfold vp_in; decide) rfl rfl ?_
    refine r_iload_n rfl dX10_joinWhere_21 rfl ?_
    refine r_if_eq (tgt := 30) rfl rfl dX10_joinWhere_22 (fun _ => ?_) (fun c => absurd c (by first | exact c53 | exact fun z => z c53))
    refine r_lload rfl dX10_joinWhere_30 rfl ?_
    refine r_ldc2 (v := (-1)) rfl dX10_joinWhere_32 lc_X10_18 ?_
    refine r_lxor rfl dX10_joinWhere_35 ?_
    refine r_lor rfl dX10_joinWhere_36 ?_
    refine r_topl (fun x70 e71 => ?_)
    refine r_lastv (jn := 2) (f' := ws4 t x54 x62 x70 x3) rfl dX10_joinWhere_37 bq f66 (by unfold vp_in; decide) rfl (ws4_u2 _ _ _ _ _ _) (fun h72 eh73 => ?_)
    have f74 : h72 q = .inl (1, 4, .inr (.inl (ws4 t x54 x62 x70 x3))) := by rw [eh73]; exact va_up_self _ _ _
    have f75 : h72 a = .inr (10, [.ref q]) := by rw [eh73, va_up_ne _ _ (fun q => by rw [q, f66] at f67; cases f67)]; exact f67
    refine r_iinc (y := 3) (ls' := [some (.ref a), some (.int l), some (.int so), some (.int 3), some (.long x68), none]) rfl dX10_joinWhere_38 rfl (by decide) (Nat.le_of_ble_eq_true rfl) rfl ?_
    refine r_goto (pc' := 2) rfl dX10_joinWhere_41 ?_
    refine r_iload_n rfl dX10_joinWhere_2 rfl ?_
    refine r_iconst (v := 4) rfl dX10_joinWhere_3 (by decide) ?_
    refine r_icmp_ge (tgt := 44) rfl rfl dX10_joinWhere_4 (fun c => absurd c (by decide)) (fun _ => ?_)
    refine r_iload_n rfl dX10_joinWhere_7 rfl ?_
    refine r_iload_n rfl dX10_joinWhere_8 rfl ?_
    refine cl_X10_44 rfl rfl dX10_joinWhere_9 (Nat.le_of_ble_eq_true rfl) s_X10_partWhereSo ?_
    rintro _ _ _ ⟨rfl, rfl, rfl⟩
    refine r_topl (fun x76 e77 => ?_)
    refine r_lstore (ls' := [some (.ref a), some (.int l), some (.int so), some (.int 3), some (.long x76), none]) rfl dX10_joinWhere_12 (Nat.le_of_ble_eq_true rfl) rfl ?_
    refine r_aload_n rfl dX10_joinWhere_14 rfl ?_
    refine r_getv 0 rfl dX10_joinWhere_15 ba f75 fl_X10_9 rfl ?_
    refine r_iload_n rfl dX10_joinWhere_18 rfl ?_
    refine r_dup2 rfl dX10_joinWhere_19 (by intro q; cases q) (by intro q; cases q) ?_
    refine r_laldv (jn := 3) (v := x3) rfl dX10_joinWhere_20 bq f74 (by unfold vp_in; decide) rfl rfl ?_
    refine r_iload_n rfl dX10_joinWhere_21 rfl ?_
    refine r_if_eq (tgt := 30) rfl rfl dX10_joinWhere_22 (fun _ => ?_) (fun c => absurd c (by first | exact c53 | exact fun z => z c53))
    refine r_lload rfl dX10_joinWhere_30 rfl ?_
    refine r_ldc2 (v := (-1)) rfl dX10_joinWhere_32 lc_X10_18 ?_
    refine r_lxor rfl dX10_joinWhere_35 ?_
    refine r_lor rfl dX10_joinWhere_36 ?_
    refine r_topl (fun x78 e79 => ?_)
    refine r_lastv (jn := 3) (f' := ws4 t x54 x62 x70 x78) rfl dX10_joinWhere_37 bq f74 (by unfold vp_in; decide) rfl (ws4_u3 _ _ _ _ _ _) (fun h80 eh81 => ?_)
    have f82 : h80 q = .inl (1, 4, .inr (.inl (ws4 t x54 x62 x70 x78))) := by rw [eh81]; exact va_up_self _ _ _
    have f83 : h80 a = .inr (10, [.ref q]) := by rw [eh81, va_up_ne _ _ (fun q => by rw [q, f74] at f75; cases f75)]; exact f75
    refine r_iinc (y := 4) (ls' := [some (.ref a), some (.int l), some (.int so), some (.int 4), some (.long x76), none]) rfl dX10_joinWhere_38 rfl (by decide) (Nat.le_of_ble_eq_true rfl) rfl ?_
    refine r_goto (pc' := 2) rfl dX10_joinWhere_41 ?_
    refine r_iload_n rfl dX10_joinWhere_2 rfl ?_
    refine r_iconst (v := 4) rfl dX10_joinWhere_3 (by decide) ?_
    refine r_icmp_ge (tgt := 44) rfl rfl dX10_joinWhere_4 (fun _ => ?_) (fun c => absurd c (by decide))
    subst e79
    subst e77
    subst e71
    subst e69
    subst e63
    subst e61
    subst e55
    subst e52
    subst eh81
    subst eh73
    subst eh65
    subst eh57
    exact r_ret dX10_joinWhere_44 (rt_v rfl) ⟨rfl, (by simp only [va_up_up, c53, if_true, if_false]), rfl⟩
  · refine r_lload rfl dX10_joinWhere_25 rfl ?_
    refine r_goto (pc' := 36) rfl dX10_joinWhere_27 ?_
    refine r_lor rfl dX10_joinWhere_36 ?_
    refine r_topl (fun x84 e85 => ?_)
    refine r_lastv (jn := 0) (f' := ws4 t x84 x1 x2 x3) rfl dX10_joinWhere_37 bq f2 (by unfold vp_in; decide) rfl (ws4_u0 _ _ _ _ _ _) (fun h86 eh87 => ?_)
    have f88 : h86 q = .inl (1, 4, .inr (.inl (ws4 t x84 x1 x2 x3))) := by rw [eh87]; exact va_up_self _ _ _
    have f89 : h86 a = .inr (10, [.ref q]) := by rw [eh87, va_up_ne _ _ (fun q => by rw [q, f2] at f1; cases f1)]; exact f1
    refine r_iinc (y := 1) (ls' := [some (.ref a), some (.int l), some (.int so), some (.int 1), some (.long x51), none]) rfl dX10_joinWhere_38 rfl (by decide) (Nat.le_of_ble_eq_true rfl) rfl ?_
    refine r_goto (pc' := 2) rfl dX10_joinWhere_41 ?_
    refine r_iload_n rfl dX10_joinWhere_2 rfl ?_
    refine r_iconst (v := 4) rfl dX10_joinWhere_3 (by decide) ?_
    refine r_icmp_ge (tgt := 44) rfl rfl dX10_joinWhere_4 (fun c => absurd c (by decide)) (fun _ => ?_)
    refine r_iload_n rfl dX10_joinWhere_7 rfl ?_
    refine r_iload_n rfl dX10_joinWhere_8 rfl ?_
    refine cl_X10_44 rfl rfl dX10_joinWhere_9 (Nat.le_of_ble_eq_true rfl) s_X10_partWhereSo ?_
    rintro _ _ _ ⟨rfl, rfl, rfl⟩
    refine r_topl (fun x90 e91 => ?_)
    refine r_lstore (ls' := [some (.ref a), some (.int l), some (.int so), some (.int 1), some (.long x90), none]) rfl dX10_joinWhere_12 (Nat.le_of_ble_eq_true rfl) rfl ?_
    refine r_aload_n rfl dX10_joinWhere_14 rfl ?_
    refine r_getv 0 rfl dX10_joinWhere_15 ba f89 fl_X10_9 rfl ?_
    refine r_iload_n rfl dX10_joinWhere_18 rfl ?_
    refine r_dup2 rfl dX10_joinWhere_19 (by intro q; cases q) (by intro q; cases q) ?_
    refine r_laldv (jn := 1) (v := x1) rfl dX10_joinWhere_20 bq f88 (by unfold vp_in; decide) rfl rfl ?_
    refine r_iload_n rfl dX10_joinWhere_21 rfl ?_
    refine r_if_eq (tgt := 30) rfl rfl dX10_joinWhere_22 (fun c => absurd c (by first | exact c53 | exact fun z => z c53)) (fun _ => ?_)
    refine r_lload rfl dX10_joinWhere_25 rfl ?_
    refine r_goto (pc' := 36) rfl dX10_joinWhere_27 ?_
    refine r_lor rfl dX10_joinWhere_36 ?_
    refine r_topl (fun x92 e93 => ?_)
    refine r_lastv (jn := 1) (f' := ws4 t x84 x92 x2 x3) rfl dX10_joinWhere_37 bq f88 (by unfold vp_in; decide) rfl (ws4_u1 _ _ _ _ _ _) (fun h94 eh95 => ?_)
    have f96 : h94 q = .inl (1, 4, .inr (.inl (ws4 t x84 x92 x2 x3))) := by rw [eh95]; exact va_up_self _ _ _
    have f97 : h94 a = .inr (10, [.ref q]) := by rw [eh95, va_up_ne _ _ (fun q => by rw [q, f88] at f89; cases f89)]; exact f89
    refine r_iinc (y := 2) (ls' := [some (.ref a), some (.int l), some (.int so), some (.int 2), some (.long x90), none]) rfl dX10_joinWhere_38 rfl (by decide) (Nat.le_of_ble_eq_true rfl) rfl ?_
    refine r_goto (pc' := 2) rfl dX10_joinWhere_41 ?_
    refine r_iload_n rfl dX10_joinWhere_2 rfl ?_
    refine r_iconst (v := 4) rfl dX10_joinWhere_3 (by decide) ?_
    refine r_icmp_ge (tgt := 44) rfl rfl dX10_joinWhere_4 (fun c => absurd c (by decide)) (fun _ => ?_)
    refine r_iload_n rfl dX10_joinWhere_7 rfl ?_
    refine r_iload_n rfl dX10_joinWhere_8 rfl ?_
    refine cl_X10_44 rfl rfl dX10_joinWhere_9 (Nat.le_of_ble_eq_true rfl) s_X10_partWhereSo ?_
    rintro _ _ _ ⟨rfl, rfl, rfl⟩
    refine r_topl (fun x98 e99 => ?_)
    refine r_lstore (ls' := [some (.ref a), some (.int l), some (.int so), some (.int 2), some (.long x98), none]) rfl dX10_joinWhere_12 (Nat.le_of_ble_eq_true rfl) rfl ?_
    refine r_aload_n rfl dX10_joinWhere_14 rfl ?_
    refine r_getv 0 rfl dX10_joinWhere_15 ba f97 fl_X10_9 rfl ?_
    refine r_iload_n rfl dX10_joinWhere_18 rfl ?_
    refine r_dup2 rfl dX10_joinWhere_19 (by intro q; cases q) (by intro q; cases q) ?_
    refine r_laldv (jn := 2) (v := x2) rfl dX10_joinWhere_20 bq f96 (by unfold vp_in; decide) rfl rfl ?_
    refine r_iload_n rfl dX10_joinWhere_21 rfl ?_
    refine r_if_eq (tgt := 30) rfl rfl dX10_joinWhere_22 (fun c => absurd c (by first | exact c53 | exact fun z => z c53)) (fun _ => ?_)
    refine r_lload rfl dX10_joinWhere_25 rfl ?_
    refine r_goto (pc' := 36) rfl dX10_joinWhere_27 ?_
    refine r_lor rfl dX10_joinWhere_36 ?_
    refine r_topl (fun x100 e101 => ?_)
    refine r_lastv (jn := 2) (f' := ws4 t x84 x92 x100 x3) rfl dX10_joinWhere_37 bq f96 (by unfold vp_in; decide) rfl (ws4_u2 _ _ _ _ _ _) (fun h102 eh103 => ?_)
    have f104 : h102 q = .inl (1, 4, .inr (.inl (ws4 t x84 x92 x100 x3))) := by rw [eh103]; exact va_up_self _ _ _
    have f105 : h102 a = .inr (10, [.ref q]) := by rw [eh103, va_up_ne _ _ (fun q => by rw [q, f96] at f97; cases f97)]; exact f97
    refine r_iinc (y := 3) (ls' := [some (.ref a), some (.int l), some (.int so), some (.int 3), some (.long x98), none]) rfl dX10_joinWhere_38 rfl (by decide) (Nat.le_of_ble_eq_true rfl) rfl ?_
    refine r_goto (pc' := 2) rfl dX10_joinWhere_41 ?_
    refine r_iload_n rfl dX10_joinWhere_2 rfl ?_
    refine r_iconst (v := 4) rfl dX10_joinWhere_3 (by decide) ?_
    refine r_icmp_ge (tgt := 44) rfl rfl dX10_joinWhere_4 (fun c => absurd c (by decide)) (fun _ => ?_)
    refine r_iload_n rfl dX10_joinWhere_7 rfl ?_
    refine r_iload_n rfl dX10_joinWhere_8 rfl ?_
    refine cl_X10_44 rfl rfl dX10_joinWhere_9 (Nat.le_of_ble_eq_true rfl) s_X10_partWhereSo ?_
    rintro _ _ _ ⟨rfl, rfl, rfl⟩
    refine r_topl (fun x106 e107 => ?_)
    refine r_lstore (ls' := [some (.ref a), some (.int l), some (.int so), some (.int 3), some (.long x106), none]) rfl dX10_joinWhere_12 (Nat.le_of_ble_eq_true rfl) rfl ?_
    refine r_aload_n rfl dX10_joinWhere_14 rfl ?_
    refine r_getv 0 rfl dX10_joinWhere_15 ba f105 fl_X10_9 rfl ?_
    refine r_iload_n rfl dX10_joinWhere_18 rfl ?_
    refine r_dup2 rfl dX10_joinWhere_19 (by intro q; cases q) (by intro q; cases q) ?_
    refine r_laldv (jn := 3) (v := x3) rfl dX10_joinWhere_20 bq f104 (by unfold vp_in; decide) rfl rfl ?_
    refine r_iload_n rfl dX10_joinWhere_21 rfl ?_
    refine r_if_eq (tgt := 30) rfl rfl dX10_joinWhere_22 (fun c => absurd c (by first | exact c53 | exact fun z => z c53)) (fun _ => ?_)
    refine r_lload rfl dX10_joinWhere_25 rfl ?_
    refine r_goto (pc' := 36) rfl dX10_joinWhere_27 ?_
    refine r_lor rfl dX10_joinWhere_36 ?_
    refine r_topl (fun x108 e109 => ?_)
    refine r_lastv (jn := 3) (f' := ws4 t x84 x92 x100 x108) rfl dX10_joinWhere_37 bq f104 (by unfold vp_in; decide) rfl (ws4_u3 _ _ _ _ _ _) (fun h110 eh111 => ?_)
    have f112 : h110 q = .inl (1, 4, .inr (.inl (ws4 t x84 x92 x100 x108))) := by rw [eh111]; exact va_up_self _ _ _
    have f113 : h110 a = .inr (10, [.ref q]) := by rw [eh111, va_up_ne _ _ (fun q => by rw [q, f104] at f105; cases f105)]; exact f105
    refine r_iinc (y := 4) (ls' := [some (.ref a), some (.int l), some (.int so), some (.int 4), some (.long x106), none]) rfl dX10_joinWhere_38 rfl (by decide) (Nat.le_of_ble_eq_true rfl) rfl ?_
    refine r_goto (pc' := 2) rfl dX10_joinWhere_41 ?_
    refine r_iload_n rfl dX10_joinWhere_2 rfl ?_
    refine r_iconst (v := 4) rfl dX10_joinWhere_3 (by decide) ?_
    refine r_icmp_ge (tgt := 44) rfl rfl dX10_joinWhere_4 (fun _ => ?_) (fun c => absurd c (by decide))
    subst e109
    subst e107
    subst e101
    subst e99
    subst e93
    subst e91
    subst e85
    subst e52
    subst eh111
    subst eh103
    subst eh95
    subst eh87
    exact r_ret dX10_joinWhere_44 (rt_v rfl) ⟨rfl, (by simp only [va_up_up, c53, if_true, if_false]), rfl⟩
set_option maxRecDepth 20000 in
theorem s_X10_choose {xs : Nat → Int32} {L d sz : Nat} {h : ev_H} {a q b q2 c q3 : Nat} {t t2 t3 : Nat → Int64} {x0 x1 x2 x3 y0 y1 y2 y3 z0 z1 z2 z3 : Int64} {l : Int32} (hw : isWS h sz a q t x0 x1 x2 x3) (hw2 : isWS h sz b q2 t2 y0 y1 y2 y3) (hw3 : isWS h sz c q3 t3 z0 z1 z2 z3) (hne : q2 ≠ q) (hne3 : q3 ≠ q) : EV xs L (d + 1) 0 0 M_X10_choose sz h 0 [some (.ref a), some (.int l), some (.ref b), some (.ref c), none, none, none] [] (fun sz' h' r => sz' = sz ∧ h' = va_up h q (.inl (1, 4, .inr (.inl (ws4 t ((pws l 0 &&& y0) ||| ((pws l 0 ^^^ (-1)) &&& z0)) ((pws l 1 &&& y1) ||| ((pws l 1 ^^^ (-1)) &&& z1)) ((pws l 2 &&& y2) ||| ((pws l 2 ^^^ (-1)) &&& z2)) ((pws l 3 &&& y3) ||| ((pws l 3 ^^^ (-1)) &&& z3)))))) ∧ r = []) := by
  obtain ⟨ba, bq, f1, f2⟩ := hw
  obtain ⟨bb, bq2, f3, f4⟩ := hw2
  obtain ⟨bc, bq3, f5, f6⟩ := hw3
  refine r_iconst (v := 0) rfl dX10_choose_0 (by decide) ?_
  refine r_istore (ls' := [some (.ref a), some (.int l), some (.ref b), some (.ref c), some (.int 0), none, none]) rfl dX10_choose_1 (Nat.le_of_ble_eq_true rfl) rfl ?_
  refine r_iload rfl dX10_choose_3 rfl ?_
  refine r_iconst (v := 4) rfl dX10_choose_5 (by decide) ?_
  refine r_icmp_ge (tgt := 55) rfl rfl dX10_choose_6 (fun c => absurd c (by decide)) (fun _ => ?_)
  refine r_iload_n rfl dX10_choose_9 rfl ?_
  refine r_iload rfl dX10_choose_10 rfl ?_
  refine cl_X10_44 rfl rfl dX10_choose_12 (Nat.le_of_ble_eq_true rfl) s_X10_partWhereSo ?_
  rintro _ _ _ ⟨rfl, rfl, rfl⟩
  refine r_topl (fun x51 e52 => ?_)
  refine r_lstore (ls' := [some (.ref a), some (.int l), some (.ref b), some (.ref c), some (.int 0), some (.long x51), none]) rfl dX10_choose_15 (Nat.le_of_ble_eq_true rfl) rfl ?_
  refine r_aload_n rfl dX10_choose_17 rfl ?_
  refine r_getv 0 rfl dX10_choose_18 ba f1 fl_X10_9 rfl ?_
  refine r_iload rfl dX10_choose_21 rfl ?_
  refine r_lload rfl dX10_choose_23 rfl ?_
  refine r_aload_n rfl dX10_choose_25 rfl ?_
  refine r_getv 0 rfl dX10_choose_26 bb f3 fl_X10_9 rfl ?_
  refine r_iload rfl dX10_choose_29 rfl ?_
  refine r_laldv (jn := 0) (v := y0) rfl dX10_choose_31 bq2 f4 (by unfold vp_in; decide) rfl rfl ?_
  refine r_land rfl dX10_choose_32 ?_
  refine r_lload rfl dX10_choose_33 rfl ?_
  refine r_ldc2 (v := (-1)) rfl dX10_choose_35 lc_X10_18 ?_
  refine r_lxor rfl dX10_choose_38 ?_
  refine r_aload_n rfl dX10_choose_39 rfl ?_
  refine r_getv 0 rfl dX10_choose_40 bc f5 fl_X10_9 rfl ?_
  refine r_iload rfl dX10_choose_43 rfl ?_
  refine r_laldv (jn := 0) (v := z0) rfl dX10_choose_45 bq3 f6 (by unfold vp_in; decide) rfl rfl ?_
  refine r_land rfl dX10_choose_46 ?_
  refine r_lor rfl dX10_choose_47 ?_
  refine r_topl (fun x53 e54 => ?_)
  refine r_lastv (jn := 0) (f' := ws4 t x53 x1 x2 x3) rfl dX10_choose_48 bq f2 (by unfold vp_in; decide) rfl (ws4_u0 _ _ _ _ _ _) (fun h55 eh56 => ?_)
  have f57 : h55 q = .inl (1, 4, .inr (.inl (ws4 t x53 x1 x2 x3))) := by rw [eh56]; exact va_up_self _ _ _
  have f58 : h55 a = .inr (10, [.ref q]) := by rw [eh56, va_up_ne _ _ (fun q => by rw [q, f2] at f1; cases f1)]; exact f1
  have f59 : h55 b = .inr (10, [.ref q2]) := by rw [eh56, va_up_ne _ _ (fun q => by rw [q, f2] at f3; cases f3)]; exact f3
  have f60 : h55 q2 = .inl (1, 4, .inr (.inl (ws4 t2 y0 y1 y2 y3))) := by rw [eh56, va_up_ne _ _ hne]; exact f4
  have f61 : h55 c = .inr (10, [.ref q3]) := by rw [eh56, va_up_ne _ _ (fun q => by rw [q, f2] at f5; cases f5)]; exact f5
  have f62 : h55 q3 = .inl (1, 4, .inr (.inl (ws4 t3 z0 z1 z2 z3))) := by rw [eh56, va_up_ne _ _ hne3]; exact f6
  refine r_iinc (y := 1) (ls' := [some (.ref a), some (.int l), some (.ref b), some (.ref c), some (.int 1), some (.long x51), none]) rfl dX10_choose_49 rfl (by decide) (Nat.le_of_ble_eq_true rfl) rfl ?_
  refine r_goto (pc' := 3) rfl dX10_choose_52 ?_
  refine r_iload rfl dX10_choose_3 rfl ?_
  refine r_iconst (v := 4) rfl dX10_choose_5 (by decide) ?_
  refine r_icmp_ge (tgt := 55) rfl rfl dX10_choose_6 (fun c => absurd c (by decide)) (fun _ => ?_)
  refine r_iload_n rfl dX10_choose_9 rfl ?_
  refine r_iload rfl dX10_choose_10 rfl ?_
  refine cl_X10_44 rfl rfl dX10_choose_12 (Nat.le_of_ble_eq_true rfl) s_X10_partWhereSo ?_
  rintro _ _ _ ⟨rfl, rfl, rfl⟩
  refine r_topl (fun x63 e64 => ?_)
  refine r_lstore (ls' := [some (.ref a), some (.int l), some (.ref b), some (.ref c), some (.int 1), some (.long x63), none]) rfl dX10_choose_15 (Nat.le_of_ble_eq_true rfl) rfl ?_
  refine r_aload_n rfl dX10_choose_17 rfl ?_
  refine r_getv 0 rfl dX10_choose_18 ba f58 fl_X10_9 rfl ?_
  refine r_iload rfl dX10_choose_21 rfl ?_
  refine r_lload rfl dX10_choose_23 rfl ?_
  refine r_aload_n rfl dX10_choose_25 rfl ?_
  refine r_getv 0 rfl dX10_choose_26 bb f59 fl_X10_9 rfl ?_
  refine r_iload rfl dX10_choose_29 rfl ?_
  refine r_laldv (jn := 1) (v := y1) rfl dX10_choose_31 bq2 f60 (by unfold vp_in; decide) rfl rfl ?_
  refine r_land rfl dX10_choose_32 ?_
  refine r_lload rfl dX10_choose_33 rfl ?_
  refine r_ldc2 (v := (-1)) rfl dX10_choose_35 lc_X10_18 ?_
  refine r_lxor rfl dX10_choose_38 ?_
  refine r_aload_n rfl dX10_choose_39 rfl ?_
  refine r_getv 0 rfl dX10_choose_40 bc f61 fl_X10_9 rfl ?_
  refine r_iload rfl dX10_choose_43 rfl ?_
  refine r_laldv (jn := 1) (v := z1) rfl dX10_choose_45 bq3 f62 (by unfold vp_in; decide) rfl rfl ?_
  refine r_land rfl dX10_choose_46 ?_
  refine r_lor rfl dX10_choose_47 ?_
  refine r_topl (fun x65 e66 => ?_)
  refine r_lastv (jn := 1) (f' := ws4 t x53 x65 x2 x3) rfl dX10_choose_48 bq f57 (by unfold vp_in; decide) rfl (ws4_u1 _ _ _ _ _ _) (fun h67 eh68 => ?_)
  have f69 : h67 q = .inl (1, 4, .inr (.inl (ws4 t x53 x65 x2 x3))) := by rw [eh68]; exact va_up_self _ _ _
  have f70 : h67 a = .inr (10, [.ref q]) := by rw [eh68, va_up_ne _ _ (fun q => by rw [q, f57] at f58; cases f58)]; exact f58
  have f71 : h67 b = .inr (10, [.ref q2]) := by rw [eh68, va_up_ne _ _ (fun q => by rw [q, f57] at f59; cases f59)]; exact f59
  have f72 : h67 q2 = .inl (1, 4, .inr (.inl (ws4 t2 y0 y1 y2 y3))) := by rw [eh68, va_up_ne _ _ hne]; exact f60
  have f73 : h67 c = .inr (10, [.ref q3]) := by rw [eh68, va_up_ne _ _ (fun q => by rw [q, f57] at f61; cases f61)]; exact f61
  have f74 : h67 q3 = .inl (1, 4, .inr (.inl (ws4 t3 z0 z1 z2 z3))) := by rw [eh68, va_up_ne _ _ hne3]; exact f62
  refine r_iinc (y := 2) (ls' := [some (.ref a), some (.int l), some (.ref b), some (.ref c), some (.int 2), some (.long x63), none]) rfl dX10_choose_49 rfl (by decide) (Nat.le_of_ble_eq_true rfl) rfl ?_
  refine r_goto (pc' := 3) rfl dX10_choose_52 ?_
  refine r_iload rfl dX10_choose_3 rfl ?_
  refine r_iconst (v := 4) rfl dX10_choose_5 (by decide) ?_
  refine r_icmp_ge (tgt := 55) rfl rfl dX10_choose_6 (fun c => absurd c (by decide)) (fun _ => ?_)
  refine r_iload_n rfl dX10_choose_9 rfl ?_
  refine r_iload rfl dX10_choose_10 rfl ?_
  refine cl_X10_44 rfl rfl dX10_choose_12 (Nat.le_of_ble_eq_true rfl) s_X10_partWhereSo ?_
  rintro _ _ _ ⟨rfl, rfl, rfl⟩
  refine r_topl (fun x75 e76 => ?_)
  refine r_lstore (ls' := [some (.ref a), some (.int l), some (.ref b), some (.ref c), some (.int 2), some (.long x75), none]) rfl dX10_choose_15 (Nat.le_of_ble_eq_true rfl) rfl ?_
  refine r_aload_n rfl dX10_choose_17 rfl ?_
  refine r_getv 0 rfl dX10_choose_18 ba f70 fl_X10_9 rfl ?_
  refine r_iload rfl dX10_choose_21 rfl ?_
  refine r_lload rfl dX10_choose_23 rfl ?_
  refine r_aload_n rfl dX10_choose_25 rfl ?_
  refine r_getv 0 rfl dX10_choose_26 bb f71 fl_X10_9 rfl ?_
  refine r_iload rfl dX10_choose_29 rfl ?_
  refine r_laldv (jn := 2) (v := y2) rfl dX10_choose_31 bq2 f72 (by unfold vp_in; decide) rfl rfl ?_
  refine r_land rfl dX10_choose_32 ?_
  refine r_lload rfl dX10_choose_33 rfl ?_
  refine r_ldc2 (v := (-1)) rfl dX10_choose_35 lc_X10_18 ?_
  refine r_lxor rfl dX10_choose_38 ?_
  refine r_aload_n rfl dX10_choose_39 rfl ?_
  refine r_getv 0 rfl dX10_choose_40 bc f73 fl_X10_9 rfl ?_
  refine r_iload rfl dX10_choose_43 rfl ?_
  refine r_laldv (jn := 2) (v := z2) rfl dX10_choose_45 bq3 f74 (by unfold vp_in; decide) rfl rfl ?_
  refine r_land rfl dX10_choose_46 ?_
  refine r_lor rfl dX10_choose_47 ?_
  refine r_topl (fun x77 e78 => ?_)
  refine r_lastv (jn := 2) (f' := ws4 t x53 x65 x77 x3) rfl dX10_choose_48 bq f69 (by unfold vp_in; decide) rfl (ws4_u2 _ _ _ _ _ _) (fun h79 eh80 => ?_)
  have f81 : h79 q = .inl (1, 4, .inr (.inl (ws4 t x53 x65 x77 x3))) := by rw [eh80]; exact va_up_self _ _ _
  have f82 : h79 a = .inr (10, [.ref q]) := by rw [eh80, va_up_ne _ _ (fun q => by rw [q, f69] at f70; cases f70)]; exact f70
  have f83 : h79 b = .inr (10, [.ref q2]) := by rw [eh80, va_up_ne _ _ (fun q => by rw [q, f69] at f71; cases f71)]; exact f71
  have f84 : h79 q2 = .inl (1, 4, .inr (.inl (ws4 t2 y0 y1 y2 y3))) := by rw [eh80, va_up_ne _ _ hne]; exact f72
  have f85 : h79 c = .inr (10, [.ref q3]) := by rw [eh80, va_up_ne _ _ (fun q => by rw [q, f69] at f73; cases f73)]; exact f73
  have f86 : h79 q3 = .inl (1, 4, .inr (.inl (ws4 t3 z0 z1 z2 z3))) := by rw [eh80, va_up_ne _ _ hne3]; exact f74
  refine r_iinc (y := 3) (ls' := [some (.ref a), some (.int l), some (.ref b), some (.ref c), some (.int 3), some (.long x75), none]) rfl dX10_choose_49 rfl (by decide) (Nat.le_of_ble_eq_true rfl) rfl ?_
  refine r_goto (pc' := 3) rfl dX10_choose_52 ?_
  refine r_iload rfl dX10_choose_3 rfl ?_
  refine r_iconst (v := 4) rfl dX10_choose_5 (by decide) ?_
  refine r_icmp_ge (tgt := 55) rfl rfl dX10_choose_6 (fun c => absurd c (by decide)) (fun _ => ?_)
  refine r_iload_n rfl dX10_choose_9 rfl ?_
  refine r_iload rfl dX10_choose_10 rfl ?_
  refine cl_X10_44 rfl rfl dX10_choose_12 (Nat.le_of_ble_eq_true rfl) s_X10_partWhereSo ?_
  rintro _ _ _ ⟨rfl, rfl, rfl⟩
  refine r_topl (fun x87 e88 => ?_)
  refine r_lstore (ls' := [some (.ref a), some (.int l), some (.ref b), some (.ref c), some (.int 3), some (.long x87), none]) rfl dX10_choose_15 (Nat.le_of_ble_eq_true rfl) rfl ?_
  refine r_aload_n rfl dX10_choose_17 rfl ?_
  refine r_getv 0 rfl dX10_choose_18 ba f82 fl_X10_9 rfl ?_
  refine r_iload rfl dX10_choose_21 rfl ?_
  refine r_lload rfl dX10_choose_23 rfl ?_
  refine r_aload_n rfl dX10_choose_25 rfl ?_
  refine r_getv 0 rfl dX10_choose_26 bb f83 fl_X10_9 rfl ?_
  refine r_iload rfl dX10_choose_29 rfl ?_
  refine r_laldv (jn := 3) (v := y3) rfl dX10_choose_31 bq2 f84 (by unfold vp_in; decide) rfl rfl ?_
  refine r_land rfl dX10_choose_32 ?_
  refine r_lload rfl dX10_choose_33 rfl ?_
  refine r_ldc2 (v := (-1)) rfl dX10_choose_35 lc_X10_18 ?_
  refine r_lxor rfl dX10_choose_38 ?_
  refine r_aload_n rfl dX10_choose_39 rfl ?_
  refine r_getv 0 rfl dX10_choose_40 bc f85 fl_X10_9 rfl ?_
  refine r_iload rfl dX10_choose_43 rfl ?_
  refine r_laldv (jn := 3) (v := z3) rfl dX10_choose_45 bq3 f86 (by unfold vp_in; decide) rfl rfl ?_
  refine r_land rfl dX10_choose_46 ?_
  refine r_lor rfl dX10_choose_47 ?_
  refine r_topl (fun x89 e90 => ?_)
  refine r_lastv (jn := 3) (f' := ws4 t x53 x65 x77 x89) rfl dX10_choose_48 bq f81 (by unfold vp_in; decide) rfl (ws4_u3 _ _ _ _ _ _) (fun h91 eh92 => ?_)
  have f93 : h91 q = .inl (1, 4, .inr (.inl (ws4 t x53 x65 x77 x89))) := by rw [eh92]; exact va_up_self _ _ _
  have f94 : h91 a = .inr (10, [.ref q]) := by rw [eh92, va_up_ne _ _ (fun q => by rw [q, f81] at f82; cases f82)]; exact f82
  have f95 : h91 b = .inr (10, [.ref q2]) := by rw [eh92, va_up_ne _ _ (fun q => by rw [q, f81] at f83; cases f83)]; exact f83
  have f96 : h91 q2 = .inl (1, 4, .inr (.inl (ws4 t2 y0 y1 y2 y3))) := by rw [eh92, va_up_ne _ _ hne]; exact f84
  have f97 : h91 c = .inr (10, [.ref q3]) := by rw [eh92, va_up_ne _ _ (fun q => by rw [q, f81] at f85; cases f85)]; exact f85
  have f98 : h91 q3 = .inl (1, 4, .inr (.inl (ws4 t3 z0 z1 z2 z3))) := by rw [eh92, va_up_ne _ _ hne3]; exact f86
  refine r_iinc (y := 4) (ls' := [some (.ref a), some (.int l), some (.ref b), some (.ref c), some (.int 4), some (.long x87), none]) rfl dX10_choose_49 rfl (by decide) (Nat.le_of_ble_eq_true rfl) rfl ?_
  refine r_goto (pc' := 3) rfl dX10_choose_52 ?_
  refine r_iload rfl dX10_choose_3 rfl ?_
  refine r_iconst (v := 4) rfl dX10_choose_5 (by decide) ?_
  refine r_icmp_ge (tgt := 55) rfl rfl dX10_choose_6 (fun _ => ?_) (fun c => absurd c (by decide))
  subst e90
  subst e88
  subst e78
  subst e76
  subst e66
  subst e64
  subst e54
  subst e52
  subst eh92
  subst eh80
  subst eh68
  subst eh56
  exact r_ret dX10_choose_55 (rt_v rfl) ⟨rfl, (by first | (simp only [va_up_up]; done) | (simp only [va_up_up]; rfl) | rfl), rfl⟩
theorem va_up_id {α : Type} {f : Nat → α} {k : Nat} {v : α} (h : f k = v) : va_up f k v = f := by
  funext j
  by_cases hj : j = k
  · subst hj; rw [va_up_self, h]
  · rw [va_up_ne _ _ hj]
def spb : Nat → Nat → Int32 → Int64 → Int64 → Int64 → Int64 → Int64 × Int64 × Int64 × Int64
  | 0, _, _, a, b, c, e => (a, b, c, e)
  | n + 1, k, ls, a, b, c, e => if (ls >>> (nI k &&& 31)) &&& 1 = 0 then spb n (k + 1) ls (spr0 a b c e (nI k)) (spr1 a b c e (nI k)) (spr2 a b c e (nI k)) (spr3 a b c e (nI k)) else spb n (k + 1) ls a b c e
set_option maxRecDepth 20000 in
theorem s_X10_spreadBut_loop {xs : Nat → Int32} {L d sz : Nat} {a q : Nat} {t : Nat → Int64} {ls : Int32} : ∀ (n k : Nat), k + n = 8 → ∀ (h : ev_H) (x0 : Int64) (x1 : Int64) (x2 : Int64) (x3 : Int64) (hw : isWS h sz a q t x0 x1 x2 x3), EV xs L (d + 2) 0 0 M_X10_spreadBut sz h 2 [some (.ref a), some (.int ls), some (.int (nI k))] [] (fun sz' h' r => sz' = sz ∧ h' = va_up h q (.inl (1, 4, .inr (.inl (ws4 t ((spb n k ls x0 x1 x2 x3).1) ((spb n k ls x0 x1 x2 x3).2.1) ((spb n k ls x0 x1 x2 x3).2.2.1) ((spb n k ls x0 x1 x2 x3).2.2.2))))) ∧ r = []) := by
  intro n
  induction n with
  | zero =>
    intro k hk h x0 x1 x2 x3 hw
    obtain rfl : k = 8 := by omega
    obtain ⟨ba, bq, f1, f2⟩ := hw
    refine r_iload_n rfl dX10_spreadBut_2 rfl ?_
    refine r_bipush (v := 8) rfl dX10_spreadBut_3 (by decide) ?_
    refine r_icmp_ge (tgt := 27) rfl rfl dX10_spreadBut_5 (fun _ => ?_) (fun c => absurd c (by decide))
    exact r_ret dX10_spreadBut_27 (rt_v rfl) ⟨rfl, (va_up_id f2).symm, rfl⟩
  | succ n ih =>
    intro k hk h x0 x1 x2 x3 hw
    obtain ⟨ba, bq, f1, f2⟩ := hw
    refine r_iload_n rfl dX10_spreadBut_2 rfl ?_
    refine r_bipush (v := 8) rfl dX10_spreadBut_3 (by decide) ?_
    refine r_icmp_ge (tgt := 27) rfl rfl dX10_spreadBut_5 (fun c => absurd c (show ¬ (8 : Int32) ≤ nI k from nI_ge (a := k) (b := 8) (by omega) (by decide))) (fun _ => ?_)
    refine r_iload_n rfl dX10_spreadBut_8 rfl ?_
    refine r_iload_n rfl dX10_spreadBut_9 rfl ?_
    refine r_ishr rfl dX10_spreadBut_10 ?_
    refine r_iconst (v := 1) rfl dX10_spreadBut_11 (by decide) ?_
    refine r_iand rfl dX10_spreadBut_12 ?_
    refine r_if_ne (tgt := 21) rfl rfl dX10_spreadBut_13 (fun c601 => ?_) (fun c601 => ?_)
    · obtain ⟨x602, e603⟩ : ∃ z : Int32, z = (nI k) + Int32.ofInt 1 := ⟨_, rfl⟩
      refine r_iinc (y := x602) (ls' := [some (.ref a), some (.int ls), some (.int x602)]) rfl dX10_spreadBut_21 rfl e603.symm (Nat.le_of_ble_eq_true rfl) rfl ?_
      refine r_goto (pc' := 2) rfl dX10_spreadBut_24 ?_
      have z604 : x602 = nI (k + 1) := by rw [e603]; exact nI_1 k
      subst z604
      refine EV.post ?_ (ih (k + 1) (by omega) h x0 x1 x2 x3 ⟨ba, bq, f1, f2⟩)
      rintro _ _ _ ⟨rfl, rfl, rfl⟩
      exact ⟨rfl, by rw [spb, if_neg c601], rfl⟩
    · refine r_aload_n rfl dX10_spreadBut_16 rfl ?_
      refine r_iload_n rfl dX10_spreadBut_17 rfl ?_
      refine cl_X10_51 rfl rfl dX10_spreadBut_18 ba.1 ba.2 f1 (Nat.le_of_ble_eq_true rfl) (s_X10_spread ⟨ba, bq, f1, f2⟩) ?_
      rintro _ h605 _ ⟨rfl, eh606, rfl⟩
      have f607 : h605 q = .inl (1, 4, .inr (.inl (ws4 t (spr0 x0 x1 x2 x3 (nI k)) (spr1 x0 x1 x2 x3 (nI k)) (spr2 x0 x1 x2 x3 (nI k)) (spr3 x0 x1 x2 x3 (nI k))))) := by rw [eh606]; exact va_up_self _ _ _
      have f608 : h605 a = .inr (10, [.ref q]) := by rw [eh606, va_up_ne _ _ (fun q => by rw [q, f2] at f1; cases f1)]; exact f1
      obtain ⟨x609, e610⟩ : ∃ z : Int32, z = (nI k) + Int32.ofInt 1 := ⟨_, rfl⟩
      refine r_iinc (y := x609) (ls' := [some (.ref a), some (.int ls), some (.int x609)]) rfl dX10_spreadBut_21 rfl e610.symm (Nat.le_of_ble_eq_true rfl) rfl ?_
      refine r_goto (pc' := 2) rfl dX10_spreadBut_24 ?_
      have z611 : x609 = nI (k + 1) := by rw [e610]; exact nI_1 k
      subst z611
      refine EV.post ?_ (ih (k + 1) (by omega) h605 (spr0 x0 x1 x2 x3 (nI k)) (spr1 x0 x1 x2 x3 (nI k)) (spr2 x0 x1 x2 x3 (nI k)) (spr3 x0 x1 x2 x3 (nI k)) ⟨ba, bq, f608, f607⟩)
      subst eh606
      rintro _ _ _ ⟨rfl, rfl, rfl⟩
      exact ⟨rfl, by rw [spb, if_pos c601]; simp only [va_up_up], rfl⟩
set_option maxRecDepth 20000 in
theorem s_X10_spreadBut {xs : Nat → Int32} {L d sz : Nat} {h : ev_H} {a q : Nat} {t : Nat → Int64} {x0 x1 x2 x3 : Int64} {ls : Int32} (hw : isWS h sz a q t x0 x1 x2 x3) : EV xs L (d + 2) 0 0 M_X10_spreadBut sz h 0 [some (.ref a), some (.int ls), none] [] (fun sz' h' r => sz' = sz ∧ h' = va_up h q (.inl (1, 4, .inr (.inl (ws4 t ((spb 8 0 ls x0 x1 x2 x3).1) ((spb 8 0 ls x0 x1 x2 x3).2.1) ((spb 8 0 ls x0 x1 x2 x3).2.2.1) ((spb 8 0 ls x0 x1 x2 x3).2.2.2))))) ∧ r = []) := by
  refine r_iconst (v := 0) rfl dX10_spreadBut_0 (by decide) ?_
  refine r_istore_n (ls' := [some (.ref a), some (.int ls), some (.int 0)]) rfl dX10_spreadBut_1 (Nat.le_of_ble_eq_true rfl) rfl ?_
  exact s_X10_spreadBut_loop 8 0 rfl h x0 x1 x2 x3 hw
def lla : Nat → Nat → Int64 → Int64 → Int64 → Int64 → Int32 → Int32
  | 0, _, _, _, _, _, acc => acc
  | n + 1, k, a, b, c, e, acc => if hgo a b c e (nI k) = 0 then lla n (k + 1) a b c e acc else lla n (k + 1) a b c e (acc ||| (1 <<< (nI k &&& 31)))
set_option maxRecDepth 20000 in
theorem s_X10_lettersLookedAt_loop {xs : Nat → Int32} {L d sz : Nat} {h : ev_H} {a q : Nat} {t : Nat → Int64} {x0 x1 x2 x3 : Int64} : ∀ (n k : Nat), k + n = 8 → ∀ (acc : Int32) (hw : isWS h sz a q t x0 x1 x2 x3), EV xs L (d + 2) 0 0 M_X10_lettersLookedAt sz h 4 [some (.ref a), some (.int acc), some (.int (nI k))] [] (fun sz' h' r => sz' = sz ∧ h' = h ∧ r = [.int (lla n k x0 x1 x2 x3 acc)]) := by
  intro n
  induction n with
  | zero =>
    intro k hk acc hw
    obtain rfl : k = 8 := by omega
    obtain ⟨ba, bq, f1, f2⟩ := id hw
    refine r_iload_n rfl dX10_lettersLookedAt_4 rfl ?_
    refine r_bipush (v := 8) rfl dX10_lettersLookedAt_5 (by decide) ?_
    refine r_icmp_ge (tgt := 30) rfl rfl dX10_lettersLookedAt_7 (fun _ => ?_) (fun c => absurd c (by decide))
    refine r_iload_n rfl dX10_lettersLookedAt_30 rfl ?_
    exact r_ret dX10_lettersLookedAt_31 (rt_i rfl) ⟨rfl, rfl, rfl⟩
  | succ n ih =>
    intro k hk acc hw
    obtain ⟨ba, bq, f1, f2⟩ := id hw
    refine r_iload_n rfl dX10_lettersLookedAt_4 rfl ?_
    refine r_bipush (v := 8) rfl dX10_lettersLookedAt_5 (by decide) ?_
    refine r_icmp_ge (tgt := 30) rfl rfl dX10_lettersLookedAt_7 (fun c => absurd c (show ¬ (8 : Int32) ≤ nI k from nI_ge (a := k) (b := 8) (by omega) (by decide))) (fun _ => ?_)
    refine r_aload_n rfl dX10_lettersLookedAt_10 rfl ?_
    refine r_iload_n rfl dX10_lettersLookedAt_11 rfl ?_
    refine cl_X10_55 rfl rfl dX10_lettersLookedAt_12 ba.1 ba.2 f1 (Nat.le_of_ble_eq_true rfl) (s_X10_hangsOn ⟨ba, bq, f1, f2⟩) ?_
    rintro _ _ _ ⟨rfl, rfl, rfl⟩
    refine r_if_eq (tgt := 24) rfl rfl dX10_lettersLookedAt_15 (fun c601 => ?_) (fun c601 => ?_)
    · obtain ⟨x602, e603⟩ : ∃ z : Int32, z = (nI k) + Int32.ofInt 1 := ⟨_, rfl⟩
      refine r_iinc (y := x602) (ls' := [some (.ref a), some (.int acc), some (.int x602)]) rfl dX10_lettersLookedAt_24 rfl e603.symm (Nat.le_of_ble_eq_true rfl) rfl ?_
      refine r_goto (pc' := 4) rfl dX10_lettersLookedAt_27 ?_
      have z604 : x602 = nI (k + 1) := by rw [e603]; exact nI_1 k
      subst z604
      refine EV.post ?_ (ih (k + 1) (by omega) acc hw)
      rintro _ _ _ ⟨rfl, rfl, rfl⟩
      exact ⟨rfl, rfl, by rw [lla, if_pos c601]⟩
    · refine r_iload_n rfl dX10_lettersLookedAt_18 rfl ?_
      refine r_iconst (v := 1) rfl dX10_lettersLookedAt_19 (by decide) ?_
      refine r_iload_n rfl dX10_lettersLookedAt_20 rfl ?_
      refine r_ishl rfl dX10_lettersLookedAt_21 ?_
      refine r_ior rfl dX10_lettersLookedAt_22 ?_
      refine r_topi (fun x605 e606 => ?_)
      refine r_istore_n (ls' := [some (.ref a), some (.int x605), some (.int (nI k))]) rfl dX10_lettersLookedAt_23 (Nat.le_of_ble_eq_true rfl) rfl ?_
      obtain ⟨x607, e608⟩ : ∃ z : Int32, z = (nI k) + Int32.ofInt 1 := ⟨_, rfl⟩
      refine r_iinc (y := x607) (ls' := [some (.ref a), some (.int x605), some (.int x607)]) rfl dX10_lettersLookedAt_24 rfl e608.symm (Nat.le_of_ble_eq_true rfl) rfl ?_
      refine r_goto (pc' := 4) rfl dX10_lettersLookedAt_27 ?_
      have z609 : x607 = nI (k + 1) := by rw [e608]; exact nI_1 k
      subst z609
      refine EV.post ?_ (ih (k + 1) (by omega) x605 hw)
      subst e606
      rintro _ _ _ ⟨rfl, rfl, rfl⟩
      exact ⟨rfl, rfl, by rw [lla, if_neg c601]⟩
set_option maxRecDepth 20000 in
theorem s_X10_lettersLookedAt {xs : Nat → Int32} {L d sz : Nat} {h : ev_H} {a q : Nat} {t : Nat → Int64} {x0 x1 x2 x3 : Int64} (hw : isWS h sz a q t x0 x1 x2 x3) : EV xs L (d + 2) 0 0 M_X10_lettersLookedAt sz h 0 [some (.ref a), none, none] [] (fun sz' h' r => sz' = sz ∧ h' = h ∧ r = [.int (lla 8 0 x0 x1 x2 x3 0)]) := by
  refine r_iconst (v := 0) rfl dX10_lettersLookedAt_0 (by decide) ?_
  refine r_istore_n (ls' := [some (.ref a), some (.int 0), none]) rfl dX10_lettersLookedAt_1 (Nat.le_of_ble_eq_true rfl) rfl ?_
  refine r_iconst (v := 0) rfl dX10_lettersLookedAt_2 (by decide) ?_
  refine r_istore_n (ls' := [some (.ref a), some (.int 0), some (.int 0)]) rfl dX10_lettersLookedAt_3 (Nat.le_of_ble_eq_true rfl) rfl ?_
  exact s_X10_lettersLookedAt_loop 8 0 rfl 0 hw
set_option maxRecDepth 20000 in
theorem s_X10_put {xs : Nat → Int32} {L d sz : Nat} {h : ev_H} {a q : Nat} {t : Nat → Int64} {x0 x1 x2 x3 : Int64} {w b : Int32} (hw : isWS h sz a q t x0 x1 x2 x3) : EV xs L (d + 1) 0 0 M_X10_put sz h 0 [some (.ref a), some (.int w), some (.int b), none, none] [] (fun sz' h' r => sz' = sz ∧ (∃ z0 z1 z2 z3, h' = va_up h q (.inl (1, 4, .inr (.inl (ws4 t z0 z1 z2 z3))))) ∧ r = []) := by
  obtain ⟨ba, bq, f1, f2⟩ := hw
  refine r_iload_n rfl dX10_put_0 rfl ?_
  refine cl_X10_20 rfl rfl dX10_put_1 (Nat.le_of_ble_eq_true rfl) s_X11_isWorld ?_
  rintro _ _ _ ⟨rfl, rfl, rfl⟩
  refine r_if_ne (tgt := 8) rfl rfl dX10_put_4 (fun c51 => ?_) (fun c51 => ?_)
  · refine r_lconst (v := 1) rfl dX10_put_8 (by decide) ?_
    refine r_iload_n rfl dX10_put_9 rfl ?_
    refine r_bipush (v := 63) rfl dX10_put_10 (by decide) ?_
    refine r_iand rfl dX10_put_12 ?_
    refine r_lshl rfl dX10_put_13 ?_
    refine r_topl (fun x52 e53 => ?_)
    refine r_lstore_n (ls' := [some (.ref a), some (.int w), some (.int b), some (.long x52), none]) rfl dX10_put_14 (Nat.le_of_ble_eq_true rfl) rfl ?_
    refine r_iload_n rfl dX10_put_15 rfl ?_
    refine r_if_eq (tgt := 35) rfl rfl dX10_put_16 (fun c54 => ?_) (fun c54 => ?_)
    · refine r_aload_n rfl dX10_put_35 rfl ?_
      refine r_getv 0 rfl dX10_put_36 ba f1 fl_X10_9 rfl ?_
      refine r_iload_n rfl dX10_put_39 rfl ?_
      refine r_bipush (v := 6) rfl dX10_put_40 (by decide) ?_
      refine r_ishr rfl dX10_put_42 ?_
      refine r_dup2 rfl dX10_put_43 (by intro q; cases q) (by intro q; cases q) ?_
      refine r_laldv (jn := (w >>> (6 &&& 31)).toNatClampNeg) (v := sel4 x0 x1 x2 x3 ((w >>> (6 &&& 31)).toNatClampNeg)) rfl dX10_put_44 bq f2 (isW_i4 c51) (by first | rfl | assumption) (ws4_s (vp_in_lt (isW_i4 c51))) ?_
      refine r_lload_n rfl dX10_put_45 rfl ?_
      refine r_ldc2 (v := (-1)) rfl dX10_put_46 lc_X10_18 ?_
      refine r_lxor rfl dX10_put_49 ?_
      refine r_land rfl dX10_put_50 ?_
      refine r_topl (fun x55 e56 => ?_)
      refine r_lastv (jn := (w >>> (6 &&& 31)).toNatClampNeg) (f' := ws4 t (if (w >>> (6 &&& 31)).toNatClampNeg = 0 then x55 else x0) (if (w >>> (6 &&& 31)).toNatClampNeg = 1 then x55 else x1) (if (w >>> (6 &&& 31)).toNatClampNeg = 2 then x55 else x2) (if (w >>> (6 &&& 31)).toNatClampNeg = 3 then x55 else x3)) rfl dX10_put_51 bq f2 (isW_i4 c51) (by first | rfl | assumption) (ws4_up (vp_in_lt (isW_i4 c51))) (fun h57 eh58 => ?_)
      have f59 : h57 q = .inl (1, 4, .inr (.inl (ws4 t (if (w >>> (6 &&& 31)).toNatClampNeg = 0 then x55 else x0) (if (w >>> (6 &&& 31)).toNatClampNeg = 1 then x55 else x1) (if (w >>> (6 &&& 31)).toNatClampNeg = 2 then x55 else x2) (if (w >>> (6 &&& 31)).toNatClampNeg = 3 then x55 else x3)))) := by rw [eh58]; exact va_up_self _ _ _
      have f60 : h57 a = .inr (10, [.ref q]) := by rw [eh58, va_up_ne _ _ (fun q => by rw [q, f2] at f1; cases f1)]; exact f1
      subst e56
      subst e53
      subst eh58
      exact r_ret dX10_put_52 (rt_v rfl) ⟨rfl, ⟨_, _, _, _, rfl⟩, rfl⟩
    · refine r_aload_n rfl dX10_put_19 rfl ?_
      refine r_getv 0 rfl dX10_put_20 ba f1 fl_X10_9 rfl ?_
      refine r_iload_n rfl dX10_put_23 rfl ?_
      refine r_bipush (v := 6) rfl dX10_put_24 (by decide) ?_
      refine r_ishr rfl dX10_put_26 ?_
      refine r_dup2 rfl dX10_put_27 (by intro q; cases q) (by intro q; cases q) ?_
      refine r_laldv (jn := (w >>> (6 &&& 31)).toNatClampNeg) (v := sel4 x0 x1 x2 x3 ((w >>> (6 &&& 31)).toNatClampNeg)) rfl dX10_put_28 bq f2 (isW_i4 c51) (by first | rfl | assumption) (ws4_s (vp_in_lt (isW_i4 c51))) ?_
      refine r_lload_n rfl dX10_put_29 rfl ?_
      refine r_lor rfl dX10_put_30 ?_
      refine r_topl (fun x61 e62 => ?_)
      refine r_lastv (jn := (w >>> (6 &&& 31)).toNatClampNeg) (f' := ws4 t (if (w >>> (6 &&& 31)).toNatClampNeg = 0 then x61 else x0) (if (w >>> (6 &&& 31)).toNatClampNeg = 1 then x61 else x1) (if (w >>> (6 &&& 31)).toNatClampNeg = 2 then x61 else x2) (if (w >>> (6 &&& 31)).toNatClampNeg = 3 then x61 else x3)) rfl dX10_put_31 bq f2 (isW_i4 c51) (by first | rfl | assumption) (ws4_up (vp_in_lt (isW_i4 c51))) (fun h63 eh64 => ?_)
      have f65 : h63 q = .inl (1, 4, .inr (.inl (ws4 t (if (w >>> (6 &&& 31)).toNatClampNeg = 0 then x61 else x0) (if (w >>> (6 &&& 31)).toNatClampNeg = 1 then x61 else x1) (if (w >>> (6 &&& 31)).toNatClampNeg = 2 then x61 else x2) (if (w >>> (6 &&& 31)).toNatClampNeg = 3 then x61 else x3)))) := by rw [eh64]; exact va_up_self _ _ _
      have f66 : h63 a = .inr (10, [.ref q]) := by rw [eh64, va_up_ne _ _ (fun q => by rw [q, f2] at f1; cases f1)]; exact f1
      refine r_goto (pc' := 52) rfl dX10_put_32 ?_
      subst e62
      subst e53
      subst eh64
      exact r_ret dX10_put_52 (rt_v rfl) ⟨rfl, ⟨_, _, _, _, rfl⟩, rfl⟩
  · exact r_ret dX10_put_7 (rt_v rfl) ⟨rfl, ⟨x0, x1, x2, x3, (va_up_id f2).symm⟩, rfl⟩
end
section
theorem dJ6_bitCount_0f7a4_0 : decode cJ6_bitCount_0f7a4 0 = .ok (.iload_n 0, 1) := by decide +kernel
theorem dJ6_bitCount_0f7a4_1 : decode cJ6_bitCount_0f7a4 1 = .ok (.iload_n 0, 1) := by decide +kernel
theorem dJ6_bitCount_0f7a4_2 : decode cJ6_bitCount_0f7a4 2 = .ok (.iconst 1, 1) := by decide +kernel
theorem dJ6_bitCount_0f7a4_3 : decode cJ6_bitCount_0f7a4 3 = .ok (.iushr, 1) := by decide +kernel
theorem dJ6_bitCount_0f7a4_4 : decode cJ6_bitCount_0f7a4 4 = .ok (.ldc_w 265, 3) := by decide +kernel
theorem dJ6_bitCount_0f7a4_7 : decode cJ6_bitCount_0f7a4 7 = .ok (.iand, 1) := by decide +kernel
theorem dJ6_bitCount_0f7a4_8 : decode cJ6_bitCount_0f7a4 8 = .ok (.isub, 1) := by decide +kernel
theorem dJ6_bitCount_0f7a4_9 : decode cJ6_bitCount_0f7a4 9 = .ok (.istore_n 0, 1) := by decide +kernel
theorem dJ6_bitCount_0f7a4_10 : decode cJ6_bitCount_0f7a4 10 = .ok (.iload_n 0, 1) := by decide +kernel
theorem dJ6_bitCount_0f7a4_11 : decode cJ6_bitCount_0f7a4 11 = .ok (.ldc_w 266, 3) := by decide +kernel
theorem dJ6_bitCount_0f7a4_14 : decode cJ6_bitCount_0f7a4 14 = .ok (.iand, 1) := by decide +kernel
theorem dJ6_bitCount_0f7a4_15 : decode cJ6_bitCount_0f7a4 15 = .ok (.iload_n 0, 1) := by decide +kernel
theorem dJ6_bitCount_0f7a4_16 : decode cJ6_bitCount_0f7a4 16 = .ok (.iconst 2, 1) := by decide +kernel
theorem dJ6_bitCount_0f7a4_17 : decode cJ6_bitCount_0f7a4 17 = .ok (.iushr, 1) := by decide +kernel
theorem dJ6_bitCount_0f7a4_18 : decode cJ6_bitCount_0f7a4 18 = .ok (.ldc_w 266, 3) := by decide +kernel
theorem dJ6_bitCount_0f7a4_21 : decode cJ6_bitCount_0f7a4 21 = .ok (.iand, 1) := by decide +kernel
theorem dJ6_bitCount_0f7a4_22 : decode cJ6_bitCount_0f7a4 22 = .ok (.iadd, 1) := by decide +kernel
theorem dJ6_bitCount_0f7a4_23 : decode cJ6_bitCount_0f7a4 23 = .ok (.istore_n 0, 1) := by decide +kernel
theorem dJ6_bitCount_0f7a4_24 : decode cJ6_bitCount_0f7a4 24 = .ok (.iload_n 0, 1) := by decide +kernel
theorem dJ6_bitCount_0f7a4_25 : decode cJ6_bitCount_0f7a4 25 = .ok (.iload_n 0, 1) := by decide +kernel
theorem dJ6_bitCount_0f7a4_26 : decode cJ6_bitCount_0f7a4 26 = .ok (.iconst 4, 1) := by decide +kernel
theorem dJ6_bitCount_0f7a4_27 : decode cJ6_bitCount_0f7a4 27 = .ok (.iushr, 1) := by decide +kernel
theorem dJ6_bitCount_0f7a4_28 : decode cJ6_bitCount_0f7a4 28 = .ok (.iadd, 1) := by decide +kernel
theorem dJ6_bitCount_0f7a4_29 : decode cJ6_bitCount_0f7a4 29 = .ok (.ldc_w 267, 3) := by decide +kernel
theorem dJ6_bitCount_0f7a4_32 : decode cJ6_bitCount_0f7a4 32 = .ok (.iand, 1) := by decide +kernel
theorem dJ6_bitCount_0f7a4_33 : decode cJ6_bitCount_0f7a4 33 = .ok (.istore_n 0, 1) := by decide +kernel
theorem dJ6_bitCount_0f7a4_34 : decode cJ6_bitCount_0f7a4 34 = .ok (.iload_n 0, 1) := by decide +kernel
theorem dJ6_bitCount_0f7a4_35 : decode cJ6_bitCount_0f7a4 35 = .ok (.iload_n 0, 1) := by decide +kernel
theorem dJ6_bitCount_0f7a4_36 : decode cJ6_bitCount_0f7a4 36 = .ok (.bipush 8, 2) := by decide +kernel
theorem dJ6_bitCount_0f7a4_38 : decode cJ6_bitCount_0f7a4 38 = .ok (.iushr, 1) := by decide +kernel
theorem dJ6_bitCount_0f7a4_39 : decode cJ6_bitCount_0f7a4 39 = .ok (.iadd, 1) := by decide +kernel
theorem dJ6_bitCount_0f7a4_40 : decode cJ6_bitCount_0f7a4 40 = .ok (.istore_n 0, 1) := by decide +kernel
theorem dJ6_bitCount_0f7a4_41 : decode cJ6_bitCount_0f7a4 41 = .ok (.iload_n 0, 1) := by decide +kernel
theorem dJ6_bitCount_0f7a4_42 : decode cJ6_bitCount_0f7a4 42 = .ok (.iload_n 0, 1) := by decide +kernel
theorem dJ6_bitCount_0f7a4_43 : decode cJ6_bitCount_0f7a4 43 = .ok (.bipush 16, 2) := by decide +kernel
theorem dJ6_bitCount_0f7a4_45 : decode cJ6_bitCount_0f7a4 45 = .ok (.iushr, 1) := by decide +kernel
theorem dJ6_bitCount_0f7a4_46 : decode cJ6_bitCount_0f7a4 46 = .ok (.iadd, 1) := by decide +kernel
theorem dJ6_bitCount_0f7a4_47 : decode cJ6_bitCount_0f7a4 47 = .ok (.istore_n 0, 1) := by decide +kernel
theorem dJ6_bitCount_0f7a4_48 : decode cJ6_bitCount_0f7a4 48 = .ok (.iload_n 0, 1) := by decide +kernel
theorem dJ6_bitCount_0f7a4_49 : decode cJ6_bitCount_0f7a4 49 = .ok (.bipush 63, 2) := by decide +kernel
theorem dJ6_bitCount_0f7a4_51 : decode cJ6_bitCount_0f7a4 51 = .ok (.iand, 1) := by decide +kernel
theorem dJ6_bitCount_0f7a4_52 : decode cJ6_bitCount_0f7a4 52 = .ok (.ireturn, 1) := by decide +kernel
theorem dX3_property_0 : decode cX3_property 0 = .ok (.iload_n 1, 1) := by decide +kernel
theorem dX3_property_1 : decode cX3_property 1 = .ok (.tableswitch 69 0 5 #[39, 44, 49, 54, 59, 64], 39) := by decide +kernel
theorem dX3_property_40 : decode cX3_property 40 = .ok (.aload_n 0, 1) := by decide +kernel
theorem dX3_property_41 : decode cX3_property 41 = .ok (.getfield 28, 3) := by decide +kernel
theorem dX3_property_44 : decode cX3_property 44 = .ok (.ireturn, 1) := by decide +kernel
theorem dX3_property_45 : decode cX3_property 45 = .ok (.aload_n 0, 1) := by decide +kernel
theorem dX3_property_46 : decode cX3_property 46 = .ok (.getfield 31, 3) := by decide +kernel
theorem dX3_property_49 : decode cX3_property 49 = .ok (.ireturn, 1) := by decide +kernel
theorem dX3_property_50 : decode cX3_property 50 = .ok (.aload_n 0, 1) := by decide +kernel
theorem dX3_property_51 : decode cX3_property 51 = .ok (.getfield 34, 3) := by decide +kernel
theorem dX3_property_54 : decode cX3_property 54 = .ok (.ireturn, 1) := by decide +kernel
theorem dX3_property_55 : decode cX3_property 55 = .ok (.aload_n 0, 1) := by decide +kernel
theorem dX3_property_56 : decode cX3_property 56 = .ok (.getfield 17, 3) := by decide +kernel
theorem dX3_property_59 : decode cX3_property 59 = .ok (.ireturn, 1) := by decide +kernel
theorem dX3_property_60 : decode cX3_property 60 = .ok (.aload_n 0, 1) := by decide +kernel
theorem dX3_property_61 : decode cX3_property 61 = .ok (.getfield 21, 3) := by decide +kernel
theorem dX3_property_64 : decode cX3_property 64 = .ok (.ireturn, 1) := by decide +kernel
theorem dX3_property_65 : decode cX3_property 65 = .ok (.aload_n 0, 1) := by decide +kernel
theorem dX3_property_66 : decode cX3_property 66 = .ok (.getfield 24, 3) := by decide +kernel
theorem dX3_property_69 : decode cX3_property 69 = .ok (.ireturn, 1) := by decide +kernel
theorem dX3_property_70 : decode cX3_property 70 = .ok (.iconst (-1), 1) := by decide +kernel
theorem dX3_property_71 : decode cX3_property 71 = .ok (.ireturn, 1) := by decide +kernel
theorem dX3_literals_0 : decode cX3_literals 0 = .ok (.aload_n 0, 1) := by decide +kernel
theorem dX3_literals_1 : decode cX3_literals 1 = .ok (.getfield 28, 3) := by decide +kernel
theorem dX3_literals_4 : decode cX3_literals 4 = .ok (.invokestatic 37, 3) := by decide +kernel
theorem dX3_literals_7 : decode cX3_literals 7 = .ok (.aload_n 0, 1) := by decide +kernel
theorem dX3_literals_8 : decode cX3_literals 8 = .ok (.getfield 31, 3) := by decide +kernel
theorem dX3_literals_11 : decode cX3_literals 11 = .ok (.invokestatic 37, 3) := by decide +kernel
theorem dX3_literals_14 : decode cX3_literals 14 = .ok (.iadd, 1) := by decide +kernel
theorem dX3_literals_15 : decode cX3_literals 15 = .ok (.ireturn, 1) := by decide +kernel
theorem dX3_letters_0 : decode cX3_letters 0 = .ok (.aload_n 0, 1) := by decide +kernel
theorem dX3_letters_1 : decode cX3_letters 1 = .ok (.getfield 28, 3) := by decide +kernel
theorem dX3_letters_4 : decode cX3_letters 4 = .ok (.aload_n 0, 1) := by decide +kernel
theorem dX3_letters_5 : decode cX3_letters 5 = .ok (.getfield 31, 3) := by decide +kernel
theorem dX3_letters_8 : decode cX3_letters 8 = .ok (.ior, 1) := by decide +kernel
theorem dX3_letters_9 : decode cX3_letters 9 = .ok (.ireturn, 1) := by decide +kernel
theorem dX3_isSoIn_0 : decode cX3_isSoIn 0 = .ok (.aload_n 0, 1) := by decide +kernel
theorem dX3_isSoIn_1 : decode cX3_isSoIn 1 = .ok (.getfield 28, 3) := by decide +kernel
theorem dX3_isSoIn_4 : decode cX3_isSoIn 4 = .ok (.iload_n 1, 1) := by decide +kernel
theorem dX3_isSoIn_5 : decode cX3_isSoIn 5 = .ok (.iand, 1) := by decide +kernel
theorem dX3_isSoIn_6 : decode cX3_isSoIn 6 = .ok (.aload_n 0, 1) := by decide +kernel
theorem dX3_isSoIn_7 : decode cX3_isSoIn 7 = .ok (.getfield 31, 3) := by decide +kernel
theorem dX3_isSoIn_10 : decode cX3_isSoIn 10 = .ok (.iload_n 1, 1) := by decide +kernel
theorem dX3_isSoIn_11 : decode cX3_isSoIn 11 = .ok (.iconst (-1), 1) := by decide +kernel
theorem dX3_isSoIn_12 : decode cX3_isSoIn 12 = .ok (.ixor, 1) := by decide +kernel
theorem dX3_isSoIn_13 : decode cX3_isSoIn 13 = .ok (.iand, 1) := by decide +kernel
theorem dX3_isSoIn_14 : decode cX3_isSoIn 14 = .ok (.ior, 1) := by decide +kernel
theorem dX3_isSoIn_15 : decode cX3_isSoIn 15 = .ok (.ifCond .eq 7, 3) := by decide +kernel
theorem dX3_isSoIn_18 : decode cX3_isSoIn 18 = .ok (.iconst 1, 1) := by decide +kernel
theorem dX3_isSoIn_19 : decode cX3_isSoIn 19 = .ok (.goto 4, 3) := by decide +kernel
theorem dX3_isSoIn_22 : decode cX3_isSoIn 22 = .ok (.iconst 0, 1) := by decide +kernel
theorem dX3_isSoIn_23 : decode cX3_isSoIn 23 = .ok (.ireturn, 1) := by decide +kernel
theorem dX3_sayingBy_0 : decode cX3_sayingBy 0 = .ok (.aload_n 0, 1) := by decide +kernel
theorem dX3_sayingBy_1 : decode cX3_sayingBy 1 = .ok (.getfield 11, 3) := by decide +kernel
theorem dX3_sayingBy_4 : decode cX3_sayingBy 4 = .ok (.iload_n 1, 1) := by decide +kernel
theorem dX3_sayingBy_5 : decode cX3_sayingBy 5 = .ok (.ifCond .lt 8, 3) := by decide +kernel
theorem dX3_sayingBy_8 : decode cX3_sayingBy 8 = .ok (.iload_n 1, 1) := by decide +kernel
theorem dX3_sayingBy_9 : decode cX3_sayingBy 9 = .ok (.iconst 3, 1) := by decide +kernel
theorem dX3_sayingBy_10 : decode cX3_sayingBy 10 = .ok (.if_icmp .lt 7, 3) := by decide +kernel
theorem dX3_sayingBy_13 : decode cX3_sayingBy 13 = .ok (.iconst 0, 1) := by decide +kernel
theorem dX3_sayingBy_14 : decode cX3_sayingBy 14 = .ok (.goto 4, 3) := by decide +kernel
theorem dX3_sayingBy_17 : decode cX3_sayingBy 17 = .ok (.iload_n 1, 1) := by decide +kernel
theorem dX3_sayingBy_18 : decode cX3_sayingBy 18 = .ok (.aaload, 1) := by decide +kernel
theorem dX3_sayingBy_19 : decode cX3_sayingBy 19 = .ok (.areturn, 1) := by decide +kernel
theorem dX3_gatherWorlds_0 : decode cX3_gatherWorlds 0 = .ok (.aload_n 1, 1) := by decide +kernel
theorem dX3_gatherWorlds_1 : decode cX3_gatherWorlds 1 = .ok (.invokevirtual 43, 3) := by decide +kernel
theorem dX3_gatherWorlds_4 : decode cX3_gatherWorlds 4 = .ok (.iconst 0, 1) := by decide +kernel
theorem dX3_gatherWorlds_5 : decode cX3_gatherWorlds 5 = .ok (.istore_n 3, 1) := by decide +kernel
theorem dX3_gatherWorlds_6 : decode cX3_gatherWorlds 6 = .ok (.iload_n 3, 1) := by decide +kernel
theorem dX3_gatherWorlds_7 : decode cX3_gatherWorlds 7 = .ok (.bipush 8, 2) := by decide +kernel
theorem dX3_gatherWorlds_9 : decode cX3_gatherWorlds 9 = .ok (.if_icmp .ge 48, 3) := by decide +kernel
theorem dX3_gatherWorlds_12 : decode cX3_gatherWorlds 12 = .ok (.iconst 1, 1) := by decide +kernel
theorem dX3_gatherWorlds_13 : decode cX3_gatherWorlds 13 = .ok (.iload_n 3, 1) := by decide +kernel
theorem dX3_gatherWorlds_14 : decode cX3_gatherWorlds 14 = .ok (.ishl, 1) := by decide +kernel
theorem dX3_gatherWorlds_15 : decode cX3_gatherWorlds 15 = .ok (.iload_n 2, 1) := by decide +kernel
theorem dX3_gatherWorlds_16 : decode cX3_gatherWorlds 16 = .ok (.iand, 1) := by decide +kernel
theorem dX3_gatherWorlds_17 : decode cX3_gatherWorlds 17 = .ok (.istore 4, 2) := by decide +kernel
theorem dX3_gatherWorlds_19 : decode cX3_gatherWorlds 19 = .ok (.aload_n 0, 1) := by decide +kernel
theorem dX3_gatherWorlds_20 : decode cX3_gatherWorlds 20 = .ok (.getfield 28, 3) := by decide +kernel
theorem dX3_gatherWorlds_23 : decode cX3_gatherWorlds 23 = .ok (.iload 4, 2) := by decide +kernel
theorem dX3_gatherWorlds_25 : decode cX3_gatherWorlds 25 = .ok (.iand, 1) := by decide +kernel
theorem dX3_gatherWorlds_26 : decode cX3_gatherWorlds 26 = .ok (.ifCond .eq 9, 3) := by decide +kernel
theorem dX3_gatherWorlds_29 : decode cX3_gatherWorlds 29 = .ok (.aload_n 1, 1) := by decide +kernel
theorem dX3_gatherWorlds_30 : decode cX3_gatherWorlds 30 = .ok (.iload_n 3, 1) := by decide +kernel
theorem dX3_gatherWorlds_31 : decode cX3_gatherWorlds 31 = .ok (.iconst 1, 1) := by decide +kernel
theorem dX3_gatherWorlds_32 : decode cX3_gatherWorlds 32 = .ok (.invokevirtual 46, 3) := by decide +kernel
theorem dX3_gatherWorlds_35 : decode cX3_gatherWorlds 35 = .ok (.aload_n 0, 1) := by decide +kernel
theorem dX3_gatherWorlds_36 : decode cX3_gatherWorlds 36 = .ok (.getfield 31, 3) := by decide +kernel
theorem dX3_gatherWorlds_39 : decode cX3_gatherWorlds 39 = .ok (.iload 4, 2) := by decide +kernel
theorem dX3_gatherWorlds_41 : decode cX3_gatherWorlds 41 = .ok (.iand, 1) := by decide +kernel
theorem dX3_gatherWorlds_42 : decode cX3_gatherWorlds 42 = .ok (.ifCond .eq 9, 3) := by decide +kernel
theorem dX3_gatherWorlds_45 : decode cX3_gatherWorlds 45 = .ok (.aload_n 1, 1) := by decide +kernel
theorem dX3_gatherWorlds_46 : decode cX3_gatherWorlds 46 = .ok (.iload_n 3, 1) := by decide +kernel
theorem dX3_gatherWorlds_47 : decode cX3_gatherWorlds 47 = .ok (.iconst 0, 1) := by decide +kernel
theorem dX3_gatherWorlds_48 : decode cX3_gatherWorlds 48 = .ok (.invokevirtual 46, 3) := by decide +kernel
theorem dX3_gatherWorlds_51 : decode cX3_gatherWorlds 51 = .ok (.iinc 3 1, 3) := by decide +kernel
theorem dX3_gatherWorlds_54 : decode cX3_gatherWorlds 54 = .ok (.goto (-48), 3) := by decide +kernel
theorem dX3_gatherWorlds_57 : decode cX3_gatherWorlds 57 = .ok (.return_, 1) := by decide +kernel
theorem dX3_becomeClause_0 : decode cX3_becomeClause 0 = .ok (.aload_n 0, 1) := by decide +kernel
theorem dX3_becomeClause_1 : decode cX3_becomeClause 1 = .ok (.iload_n 2, 1) := by decide +kernel
theorem dX3_becomeClause_2 : decode cX3_becomeClause 2 = .ok (.putfield 28, 3) := by decide +kernel
theorem dX3_becomeClause_5 : decode cX3_becomeClause 5 = .ok (.aload_n 0, 1) := by decide +kernel
theorem dX3_becomeClause_6 : decode cX3_becomeClause 6 = .ok (.iload_n 3, 1) := by decide +kernel
theorem dX3_becomeClause_7 : decode cX3_becomeClause 7 = .ok (.putfield 31, 3) := by decide +kernel
theorem dX3_becomeClause_10 : decode cX3_becomeClause 10 = .ok (.aload_n 0, 1) := by decide +kernel
theorem dX3_becomeClause_11 : decode cX3_becomeClause 11 = .ok (.iload_n 1, 1) := by decide +kernel
theorem dX3_becomeClause_12 : decode cX3_becomeClause 12 = .ok (.putfield 34, 3) := by decide +kernel
theorem dX3_becomeClause_15 : decode cX3_becomeClause 15 = .ok (.aload_n 0, 1) := by decide +kernel
theorem dX3_becomeClause_16 : decode cX3_becomeClause 16 = .ok (.bipush (-9), 2) := by decide +kernel
theorem dX3_becomeClause_18 : decode cX3_becomeClause 18 = .ok (.putfield 17, 3) := by decide +kernel
theorem dX3_becomeClause_21 : decode cX3_becomeClause 21 = .ok (.aload_n 0, 1) := by decide +kernel
theorem dX3_becomeClause_22 : decode cX3_becomeClause 22 = .ok (.bipush (-9), 2) := by decide +kernel
theorem dX3_becomeClause_24 : decode cX3_becomeClause 24 = .ok (.putfield 21, 3) := by decide +kernel
theorem dX3_becomeClause_27 : decode cX3_becomeClause 27 = .ok (.aload_n 0, 1) := by decide +kernel
theorem dX3_becomeClause_28 : decode cX3_becomeClause 28 = .ok (.bipush (-9), 2) := by decide +kernel
theorem dX3_becomeClause_30 : decode cX3_becomeClause 30 = .ok (.putfield 24, 3) := by decide +kernel
theorem dX3_becomeClause_33 : decode cX3_becomeClause 33 = .ok (.return_, 1) := by decide +kernel
theorem dX3_rememberCut_0 : decode cX3_rememberCut 0 = .ok (.aload_n 0, 1) := by decide +kernel
theorem dX3_rememberCut_1 : decode cX3_rememberCut 1 = .ok (.iconst 0, 1) := by decide +kernel
theorem dX3_rememberCut_2 : decode cX3_rememberCut 2 = .ok (.putfield 34, 3) := by decide +kernel
theorem dX3_rememberCut_5 : decode cX3_rememberCut 5 = .ok (.aload_n 0, 1) := by decide +kernel
theorem dX3_rememberCut_6 : decode cX3_rememberCut 6 = .ok (.iload_n 1, 1) := by decide +kernel
theorem dX3_rememberCut_7 : decode cX3_rememberCut 7 = .ok (.putfield 17, 3) := by decide +kernel
theorem dX3_rememberCut_10 : decode cX3_rememberCut 10 = .ok (.aload_n 0, 1) := by decide +kernel
theorem dX3_rememberCut_11 : decode cX3_rememberCut 11 = .ok (.iload_n 2, 1) := by decide +kernel
theorem dX3_rememberCut_12 : decode cX3_rememberCut 12 = .ok (.putfield 21, 3) := by decide +kernel
theorem dX3_rememberCut_15 : decode cX3_rememberCut 15 = .ok (.aload_n 0, 1) := by decide +kernel
theorem dX3_rememberCut_16 : decode cX3_rememberCut 16 = .ok (.iload_n 3, 1) := by decide +kernel
theorem dX3_rememberCut_17 : decode cX3_rememberCut 17 = .ok (.putfield 24, 3) := by decide +kernel
theorem dX3_rememberCut_20 : decode cX3_rememberCut 20 = .ok (.return_, 1) := by decide +kernel
theorem dX3_sayAsClause_0 : decode cX3_sayAsClause 0 = .ok (.aload_n 0, 1) := by decide +kernel
theorem dX3_sayAsClause_1 : decode cX3_sayAsClause 1 = .ok (.getfield 34, 3) := by decide +kernel
theorem dX3_sayAsClause_4 : decode cX3_sayAsClause 4 = .ok (.iconst 1, 1) := by decide +kernel
theorem dX3_sayAsClause_5 : decode cX3_sayAsClause 5 = .ok (.if_icmp .ne 35, 3) := by decide +kernel
theorem dX3_sayAsClause_8 : decode cX3_sayAsClause 8 = .ok (.aload_n 0, 1) := by decide +kernel
theorem dX3_sayAsClause_9 : decode cX3_sayAsClause 9 = .ok (.aload_n 0, 1) := by decide +kernel
theorem dX3_sayAsClause_10 : decode cX3_sayAsClause 10 = .ok (.getfield 11, 3) := by decide +kernel
theorem dX3_sayAsClause_13 : decode cX3_sayAsClause 13 = .ok (.iconst 0, 1) := by decide +kernel
theorem dX3_sayAsClause_14 : decode cX3_sayAsClause 14 = .ok (.aaload, 1) := by decide +kernel
theorem dX3_sayAsClause_15 : decode cX3_sayAsClause 15 = .ok (.iload_n 1, 1) := by decide +kernel
theorem dX3_sayAsClause_16 : decode cX3_sayAsClause 16 = .ok (.invokevirtual 50, 3) := by decide +kernel
theorem dX3_sayAsClause_19 : decode cX3_sayAsClause 19 = .ok (.aload_n 0, 1) := by decide +kernel
theorem dX3_sayAsClause_20 : decode cX3_sayAsClause 20 = .ok (.getfield 11, 3) := by decide +kernel
theorem dX3_sayAsClause_23 : decode cX3_sayAsClause 23 = .ok (.iconst 1, 1) := by decide +kernel
theorem dX3_sayAsClause_24 : decode cX3_sayAsClause 24 = .ok (.aaload, 1) := by decide +kernel
theorem dX3_sayAsClause_25 : decode cX3_sayAsClause 25 = .ok (.invokevirtual 43, 3) := by decide +kernel
theorem dX3_sayAsClause_28 : decode cX3_sayAsClause 28 = .ok (.aload_n 0, 1) := by decide +kernel
theorem dX3_sayAsClause_29 : decode cX3_sayAsClause 29 = .ok (.getfield 11, 3) := by decide +kernel
theorem dX3_sayAsClause_32 : decode cX3_sayAsClause 32 = .ok (.iconst 2, 1) := by decide +kernel
theorem dX3_sayAsClause_33 : decode cX3_sayAsClause 33 = .ok (.aaload, 1) := by decide +kernel
theorem dX3_sayAsClause_34 : decode cX3_sayAsClause 34 = .ok (.invokevirtual 43, 3) := by decide +kernel
theorem dX3_sayAsClause_37 : decode cX3_sayAsClause 37 = .ok (.goto 41, 3) := by decide +kernel
theorem dX3_sayAsClause_40 : decode cX3_sayAsClause 40 = .ok (.aload_n 0, 1) := by decide +kernel
theorem dX3_sayAsClause_41 : decode cX3_sayAsClause 41 = .ok (.getfield 11, 3) := by decide +kernel
theorem dX3_sayAsClause_44 : decode cX3_sayAsClause 44 = .ok (.iconst 0, 1) := by decide +kernel
theorem dX3_sayAsClause_45 : decode cX3_sayAsClause 45 = .ok (.aaload, 1) := by decide +kernel
theorem dX3_sayAsClause_46 : decode cX3_sayAsClause 46 = .ok (.invokevirtual 54, 3) := by decide +kernel
theorem dX3_sayAsClause_49 : decode cX3_sayAsClause 49 = .ok (.aload_n 0, 1) := by decide +kernel
theorem dX3_sayAsClause_50 : decode cX3_sayAsClause 50 = .ok (.aload_n 0, 1) := by decide +kernel
theorem dX3_sayAsClause_51 : decode cX3_sayAsClause 51 = .ok (.getfield 11, 3) := by decide +kernel
theorem dX3_sayAsClause_54 : decode cX3_sayAsClause 54 = .ok (.iconst 1, 1) := by decide +kernel
theorem dX3_sayAsClause_55 : decode cX3_sayAsClause 55 = .ok (.aaload, 1) := by decide +kernel
theorem dX3_sayAsClause_56 : decode cX3_sayAsClause 56 = .ok (.iload_n 1, 1) := by decide +kernel
theorem dX3_sayAsClause_57 : decode cX3_sayAsClause 57 = .ok (.invokevirtual 50, 3) := by decide +kernel
theorem dX3_sayAsClause_60 : decode cX3_sayAsClause 60 = .ok (.aload_n 0, 1) := by decide +kernel
theorem dX3_sayAsClause_61 : decode cX3_sayAsClause 61 = .ok (.getfield 11, 3) := by decide +kernel
theorem dX3_sayAsClause_64 : decode cX3_sayAsClause 64 = .ok (.iconst 1, 1) := by decide +kernel
theorem dX3_sayAsClause_65 : decode cX3_sayAsClause 65 = .ok (.aaload, 1) := by decide +kernel
theorem dX3_sayAsClause_66 : decode cX3_sayAsClause 66 = .ok (.invokevirtual 57, 3) := by decide +kernel
theorem dX3_sayAsClause_69 : decode cX3_sayAsClause 69 = .ok (.aload_n 0, 1) := by decide +kernel
theorem dX3_sayAsClause_70 : decode cX3_sayAsClause 70 = .ok (.getfield 11, 3) := by decide +kernel
theorem dX3_sayAsClause_73 : decode cX3_sayAsClause 73 = .ok (.iconst 2, 1) := by decide +kernel
theorem dX3_sayAsClause_74 : decode cX3_sayAsClause 74 = .ok (.aaload, 1) := by decide +kernel
theorem dX3_sayAsClause_75 : decode cX3_sayAsClause 75 = .ok (.invokevirtual 54, 3) := by decide +kernel
theorem dX3_sayAsClause_78 : decode cX3_sayAsClause 78 = .ok (.return_, 1) := by decide +kernel
theorem dX3_becomeCut_0 : decode cX3_becomeCut 0 = .ok (.iconst 1, 1) := by decide +kernel
theorem dX3_becomeCut_1 : decode cX3_becomeCut 1 = .ok (.iload_n 3, 1) := by decide +kernel
theorem dX3_becomeCut_2 : decode cX3_becomeCut 2 = .ok (.ishl, 1) := by decide +kernel
theorem dX3_becomeCut_3 : decode cX3_becomeCut 3 = .ok (.istore 4, 2) := by decide +kernel
theorem dX3_becomeCut_5 : decode cX3_becomeCut 5 = .ok (.aload_n 1, 1) := by decide +kernel
theorem dX3_becomeCut_6 : decode cX3_becomeCut 6 = .ok (.getfield 28, 3) := by decide +kernel
theorem dX3_becomeCut_9 : decode cX3_becomeCut 9 = .ok (.iload 4, 2) := by decide +kernel
theorem dX3_becomeCut_11 : decode cX3_becomeCut 11 = .ok (.iand, 1) := by decide +kernel
theorem dX3_becomeCut_12 : decode cX3_becomeCut 12 = .ok (.ifCond .eq 13, 3) := by decide +kernel
theorem dX3_becomeCut_15 : decode cX3_becomeCut 15 = .ok (.aload_n 2, 1) := by decide +kernel
theorem dX3_becomeCut_16 : decode cX3_becomeCut 16 = .ok (.getfield 31, 3) := by decide +kernel
theorem dX3_becomeCut_19 : decode cX3_becomeCut 19 = .ok (.iload 4, 2) := by decide +kernel
theorem dX3_becomeCut_21 : decode cX3_becomeCut 21 = .ok (.iand, 1) := by decide +kernel
theorem dX3_becomeCut_22 : decode cX3_becomeCut 22 = .ok (.ifCond .ne 5, 3) := by decide +kernel
theorem dX3_becomeCut_25 : decode cX3_becomeCut 25 = .ok (.iconst 0, 1) := by decide +kernel
theorem dX3_becomeCut_26 : decode cX3_becomeCut 26 = .ok (.ireturn, 1) := by decide +kernel
theorem dX3_becomeCut_27 : decode cX3_becomeCut 27 = .ok (.aload_n 1, 1) := by decide +kernel
theorem dX3_becomeCut_28 : decode cX3_becomeCut 28 = .ok (.getfield 28, 3) := by decide +kernel
theorem dX3_becomeCut_31 : decode cX3_becomeCut 31 = .ok (.iload 4, 2) := by decide +kernel
theorem dX3_becomeCut_33 : decode cX3_becomeCut 33 = .ok (.iconst (-1), 1) := by decide +kernel
theorem dX3_becomeCut_34 : decode cX3_becomeCut 34 = .ok (.ixor, 1) := by decide +kernel
theorem dX3_becomeCut_35 : decode cX3_becomeCut 35 = .ok (.iand, 1) := by decide +kernel
theorem dX3_becomeCut_36 : decode cX3_becomeCut 36 = .ok (.aload_n 2, 1) := by decide +kernel
theorem dX3_becomeCut_37 : decode cX3_becomeCut 37 = .ok (.getfield 28, 3) := by decide +kernel
theorem dX3_becomeCut_40 : decode cX3_becomeCut 40 = .ok (.ior, 1) := by decide +kernel
theorem dX3_becomeCut_41 : decode cX3_becomeCut 41 = .ok (.istore 5, 2) := by decide +kernel
theorem dX3_becomeCut_43 : decode cX3_becomeCut 43 = .ok (.aload_n 1, 1) := by decide +kernel
theorem dX3_becomeCut_44 : decode cX3_becomeCut 44 = .ok (.getfield 31, 3) := by decide +kernel
theorem dX3_becomeCut_47 : decode cX3_becomeCut 47 = .ok (.aload_n 2, 1) := by decide +kernel
theorem dX3_becomeCut_48 : decode cX3_becomeCut 48 = .ok (.getfield 31, 3) := by decide +kernel
theorem dX3_becomeCut_51 : decode cX3_becomeCut 51 = .ok (.iload 4, 2) := by decide +kernel
theorem dX3_becomeCut_53 : decode cX3_becomeCut 53 = .ok (.iconst (-1), 1) := by decide +kernel
theorem dX3_becomeCut_54 : decode cX3_becomeCut 54 = .ok (.ixor, 1) := by decide +kernel
theorem dX3_becomeCut_55 : decode cX3_becomeCut 55 = .ok (.iand, 1) := by decide +kernel
theorem dX3_becomeCut_56 : decode cX3_becomeCut 56 = .ok (.ior, 1) := by decide +kernel
theorem dX3_becomeCut_57 : decode cX3_becomeCut 57 = .ok (.istore 6, 2) := by decide +kernel
theorem dX3_becomeCut_59 : decode cX3_becomeCut 59 = .ok (.iload 5, 2) := by decide +kernel
theorem dX3_becomeCut_61 : decode cX3_becomeCut 61 = .ok (.iload 6, 2) := by decide +kernel
theorem dX3_becomeCut_63 : decode cX3_becomeCut 63 = .ok (.iand, 1) := by decide +kernel
theorem dX3_becomeCut_64 : decode cX3_becomeCut 64 = .ok (.ifCond .eq 5, 3) := by decide +kernel
theorem dX3_becomeCut_67 : decode cX3_becomeCut 67 = .ok (.iconst 0, 1) := by decide +kernel
theorem dX3_becomeCut_68 : decode cX3_becomeCut 68 = .ok (.ireturn, 1) := by decide +kernel
theorem dX3_becomeCut_69 : decode cX3_becomeCut 69 = .ok (.aload_n 0, 1) := by decide +kernel
theorem dX3_becomeCut_70 : decode cX3_becomeCut 70 = .ok (.iload 5, 2) := by decide +kernel
theorem dX3_becomeCut_72 : decode cX3_becomeCut 72 = .ok (.putfield 28, 3) := by decide +kernel
theorem dX3_becomeCut_75 : decode cX3_becomeCut 75 = .ok (.aload_n 0, 1) := by decide +kernel
theorem dX3_becomeCut_76 : decode cX3_becomeCut 76 = .ok (.iload 6, 2) := by decide +kernel
theorem dX3_becomeCut_78 : decode cX3_becomeCut 78 = .ok (.putfield 31, 3) := by decide +kernel
theorem dX3_becomeCut_81 : decode cX3_becomeCut 81 = .ok (.iconst 1, 1) := by decide +kernel
theorem dX3_becomeCut_82 : decode cX3_becomeCut 82 = .ok (.ireturn, 1) := by decide +kernel
theorem dX3_joins_0 : decode cX3_joins 0 = .ok (.iload_n 1, 1) := by decide +kernel
theorem dX3_joins_1 : decode cX3_joins 1 = .ok (.iconst 1, 1) := by decide +kernel
theorem dX3_joins_2 : decode cX3_joins 2 = .ok (.if_icmp .eq 13, 3) := by decide +kernel
theorem dX3_joins_5 : decode cX3_joins 5 = .ok (.iload_n 1, 1) := by decide +kernel
theorem dX3_joins_6 : decode cX3_joins 6 = .ok (.iconst 3, 1) := by decide +kernel
theorem dX3_joins_7 : decode cX3_joins 7 = .ok (.if_icmp .ne 12, 3) := by decide +kernel
theorem dX3_joins_10 : decode cX3_joins 10 = .ok (.iload_n 0, 1) := by decide +kernel
theorem dX3_joins_11 : decode cX3_joins 11 = .ok (.iconst 1, 1) := by decide +kernel
theorem dX3_joins_12 : decode cX3_joins 12 = .ok (.if_icmp .ne 7, 3) := by decide +kernel
theorem dX3_joins_15 : decode cX3_joins 15 = .ok (.iconst 1, 1) := by decide +kernel
theorem dX3_joins_16 : decode cX3_joins 16 = .ok (.goto 4, 3) := by decide +kernel
theorem dX3_joins_19 : decode cX3_joins 19 = .ok (.iconst 0, 1) := by decide +kernel
theorem dX3_joins_20 : decode cX3_joins 20 = .ok (.ireturn, 1) := by decide +kernel
theorem dX3_sayAsCut_0 : decode cX3_sayAsCut 0 = .ok (.iconst 0, 1) := by decide +kernel
theorem dX3_sayAsCut_1 : decode cX3_sayAsCut 1 = .ok (.istore 4, 2) := by decide +kernel
theorem dX3_sayAsCut_3 : decode cX3_sayAsCut 3 = .ok (.iload 4, 2) := by decide +kernel
theorem dX3_sayAsCut_5 : decode cX3_sayAsCut 5 = .ok (.iconst 3, 1) := by decide +kernel
theorem dX3_sayAsCut_6 : decode cX3_sayAsCut 6 = .ok (.if_icmp .ge 107, 3) := by decide +kernel
theorem dX3_sayAsCut_9 : decode cX3_sayAsCut 9 = .ok (.aload_n 1, 1) := by decide +kernel
theorem dX3_sayAsCut_10 : decode cX3_sayAsCut 10 = .ok (.getfield 11, 3) := by decide +kernel
theorem dX3_sayAsCut_13 : decode cX3_sayAsCut 13 = .ok (.iload 4, 2) := by decide +kernel
theorem dX3_sayAsCut_15 : decode cX3_sayAsCut 15 = .ok (.aaload, 1) := by decide +kernel
theorem dX3_sayAsCut_16 : decode cX3_sayAsCut 16 = .ok (.astore 5, 2) := by decide +kernel
theorem dX3_sayAsCut_18 : decode cX3_sayAsCut 18 = .ok (.aload_n 2, 1) := by decide +kernel
theorem dX3_sayAsCut_19 : decode cX3_sayAsCut 19 = .ok (.getfield 11, 3) := by decide +kernel
theorem dX3_sayAsCut_22 : decode cX3_sayAsCut 22 = .ok (.iload 4, 2) := by decide +kernel
theorem dX3_sayAsCut_24 : decode cX3_sayAsCut 24 = .ok (.aaload, 1) := by decide +kernel
theorem dX3_sayAsCut_25 : decode cX3_sayAsCut 25 = .ok (.astore 6, 2) := by decide +kernel
theorem dX3_sayAsCut_27 : decode cX3_sayAsCut 27 = .ok (.iload 4, 2) := by decide +kernel
theorem dX3_sayAsCut_29 : decode cX3_sayAsCut 29 = .ok (.iconst 2, 1) := by decide +kernel
theorem dX3_sayAsCut_30 : decode cX3_sayAsCut 30 = .ok (.if_icmp .ne 29, 3) := by decide +kernel
theorem dX3_sayAsCut_33 : decode cX3_sayAsCut 33 = .ok (.iload_n 3, 1) := by decide +kernel
theorem dX3_sayAsCut_34 : decode cX3_sayAsCut 34 = .ok (.iconst 3, 1) := by decide +kernel
theorem dX3_sayAsCut_35 : decode cX3_sayAsCut 35 = .ok (.if_icmp .ne 24, 3) := by decide +kernel
theorem dX3_sayAsCut_38 : decode cX3_sayAsCut 38 = .ok (.aload_n 0, 1) := by decide +kernel
theorem dX3_sayAsCut_39 : decode cX3_sayAsCut 39 = .ok (.getfield 11, 3) := by decide +kernel
theorem dX3_sayAsCut_42 : decode cX3_sayAsCut 42 = .ok (.iload 4, 2) := by decide +kernel
theorem dX3_sayAsCut_44 : decode cX3_sayAsCut 44 = .ok (.aaload, 1) := by decide +kernel
theorem dX3_sayAsCut_45 : decode cX3_sayAsCut 45 = .ok (.aload_n 0, 1) := by decide +kernel
theorem dX3_sayAsCut_46 : decode cX3_sayAsCut 46 = .ok (.getfield 24, 3) := by decide +kernel
theorem dX3_sayAsCut_49 : decode cX3_sayAsCut 49 = .ok (.aload 6, 2) := by decide +kernel
theorem dX3_sayAsCut_51 : decode cX3_sayAsCut 51 = .ok (.aload 5, 2) := by decide +kernel
theorem dX3_sayAsCut_53 : decode cX3_sayAsCut 53 = .ok (.invokevirtual 60, 3) := by decide +kernel
theorem dX3_sayAsCut_56 : decode cX3_sayAsCut 56 = .ok (.goto 51, 3) := by decide +kernel
theorem dX3_sayAsCut_59 : decode cX3_sayAsCut 59 = .ok (.aload_n 0, 1) := by decide +kernel
theorem dX3_sayAsCut_60 : decode cX3_sayAsCut 60 = .ok (.getfield 11, 3) := by decide +kernel
theorem dX3_sayAsCut_63 : decode cX3_sayAsCut 63 = .ok (.iload 4, 2) := by decide +kernel
theorem dX3_sayAsCut_65 : decode cX3_sayAsCut 65 = .ok (.aaload, 1) := by decide +kernel
theorem dX3_sayAsCut_66 : decode cX3_sayAsCut 66 = .ok (.aload 5, 2) := by decide +kernel
theorem dX3_sayAsCut_68 : decode cX3_sayAsCut 68 = .ok (.invokevirtual 64, 3) := by decide +kernel
theorem dX3_sayAsCut_71 : decode cX3_sayAsCut 71 = .ok (.iload 4, 2) := by decide +kernel
theorem dX3_sayAsCut_73 : decode cX3_sayAsCut 73 = .ok (.iload_n 3, 1) := by decide +kernel
theorem dX3_sayAsCut_74 : decode cX3_sayAsCut 74 = .ok (.invokestatic 68, 3) := by decide +kernel
theorem dX3_sayAsCut_77 : decode cX3_sayAsCut 77 = .ok (.ifCond .eq 18, 3) := by decide +kernel
theorem dX3_sayAsCut_80 : decode cX3_sayAsCut 80 = .ok (.aload_n 0, 1) := by decide +kernel
theorem dX3_sayAsCut_81 : decode cX3_sayAsCut 81 = .ok (.getfield 11, 3) := by decide +kernel
theorem dX3_sayAsCut_84 : decode cX3_sayAsCut 84 = .ok (.iload 4, 2) := by decide +kernel
theorem dX3_sayAsCut_86 : decode cX3_sayAsCut 86 = .ok (.aaload, 1) := by decide +kernel
theorem dX3_sayAsCut_87 : decode cX3_sayAsCut 87 = .ok (.aload 6, 2) := by decide +kernel
theorem dX3_sayAsCut_89 : decode cX3_sayAsCut 89 = .ok (.invokevirtual 72, 3) := by decide +kernel
theorem dX3_sayAsCut_92 : decode cX3_sayAsCut 92 = .ok (.goto 15, 3) := by decide +kernel
theorem dX3_sayAsCut_95 : decode cX3_sayAsCut 95 = .ok (.aload_n 0, 1) := by decide +kernel
theorem dX3_sayAsCut_96 : decode cX3_sayAsCut 96 = .ok (.getfield 11, 3) := by decide +kernel
theorem dX3_sayAsCut_99 : decode cX3_sayAsCut 99 = .ok (.iload 4, 2) := by decide +kernel
theorem dX3_sayAsCut_101 : decode cX3_sayAsCut 101 = .ok (.aaload, 1) := by decide +kernel
theorem dX3_sayAsCut_102 : decode cX3_sayAsCut 102 = .ok (.aload 6, 2) := by decide +kernel
theorem dX3_sayAsCut_104 : decode cX3_sayAsCut 104 = .ok (.invokevirtual 75, 3) := by decide +kernel
theorem dX3_sayAsCut_107 : decode cX3_sayAsCut 107 = .ok (.iinc 4 1, 3) := by decide +kernel
theorem dX3_sayAsCut_110 : decode cX3_sayAsCut 110 = .ok (.goto (-107), 3) := by decide +kernel
theorem dX3_sayAsCut_113 : decode cX3_sayAsCut 113 = .ok (.return_, 1) := by decide +kernel
def bc32 (x : Int32) : Int32 := let x1 : Int32 := x - (((x.toUInt32 >>> ((1 : Int32).toUInt32 &&& Int32.toUInt32 31)).toInt32) &&& 1431655765); let x3 : Int32 := (x1 &&& 858993459) + (((x1.toUInt32 >>> ((2 : Int32).toUInt32 &&& Int32.toUInt32 31)).toInt32) &&& 858993459); let x5 : Int32 := (x3 + ((x3.toUInt32 >>> ((4 : Int32).toUInt32 &&& Int32.toUInt32 31)).toInt32)) &&& 252645135; let x7 : Int32 := x5 + ((x5.toUInt32 >>> ((8 : Int32).toUInt32 &&& Int32.toUInt32 31)).toInt32); let x9 : Int32 := x7 + ((x7.toUInt32 >>> ((16 : Int32).toUInt32 &&& Int32.toUInt32 31)).toInt32); x9 &&& 63
set_option maxRecDepth 20000 in
theorem s_J6_bitCount_0f7a4 {xs : Nat → Int32} {L d sz : Nat} {h : ev_H} {x : Int32}  : EV xs L (d + 0) 0 0 M_J6_bitCount_0f7a4 sz h 0 [some (.int x)] [] (fun sz' h' r => sz' = sz ∧ h' = h ∧ r = [.int (bc32 x)]) := by
  refine r_iload_n rfl dJ6_bitCount_0f7a4_0 rfl ?_
  refine r_iload_n rfl dJ6_bitCount_0f7a4_1 rfl ?_
  refine r_iconst (v := 1) rfl dJ6_bitCount_0f7a4_2 (by decide) ?_
  refine r_iushr rfl dJ6_bitCount_0f7a4_3 ?_
  refine r_ldcw (v := 1431655765) rfl dJ6_bitCount_0f7a4_4 lc_J6_265 ?_
  refine r_iand rfl dJ6_bitCount_0f7a4_7 ?_
  refine r_isub rfl dJ6_bitCount_0f7a4_8 ?_
  refine r_topi (fun x1 e2 => ?_)
  refine r_istore_n (ls' := [some (.int x1)]) rfl dJ6_bitCount_0f7a4_9 (Nat.le_of_ble_eq_true rfl) rfl ?_
  refine r_iload_n rfl dJ6_bitCount_0f7a4_10 rfl ?_
  refine r_ldcw (v := 858993459) rfl dJ6_bitCount_0f7a4_11 lc_J6_266 ?_
  refine r_iand rfl dJ6_bitCount_0f7a4_14 ?_
  refine r_iload_n rfl dJ6_bitCount_0f7a4_15 rfl ?_
  refine r_iconst (v := 2) rfl dJ6_bitCount_0f7a4_16 (by decide) ?_
  refine r_iushr rfl dJ6_bitCount_0f7a4_17 ?_
  refine r_ldcw (v := 858993459) rfl dJ6_bitCount_0f7a4_18 lc_J6_266 ?_
  refine r_iand rfl dJ6_bitCount_0f7a4_21 ?_
  refine r_iadd rfl dJ6_bitCount_0f7a4_22 ?_
  refine r_topi (fun x3 e4 => ?_)
  refine r_istore_n (ls' := [some (.int x3)]) rfl dJ6_bitCount_0f7a4_23 (Nat.le_of_ble_eq_true rfl) rfl ?_
  refine r_iload_n rfl dJ6_bitCount_0f7a4_24 rfl ?_
  refine r_iload_n rfl dJ6_bitCount_0f7a4_25 rfl ?_
  refine r_iconst (v := 4) rfl dJ6_bitCount_0f7a4_26 (by decide) ?_
  refine r_iushr rfl dJ6_bitCount_0f7a4_27 ?_
  refine r_iadd rfl dJ6_bitCount_0f7a4_28 ?_
  refine r_ldcw (v := 252645135) rfl dJ6_bitCount_0f7a4_29 lc_J6_267 ?_
  refine r_iand rfl dJ6_bitCount_0f7a4_32 ?_
  refine r_topi (fun x5 e6 => ?_)
  refine r_istore_n (ls' := [some (.int x5)]) rfl dJ6_bitCount_0f7a4_33 (Nat.le_of_ble_eq_true rfl) rfl ?_
  refine r_iload_n rfl dJ6_bitCount_0f7a4_34 rfl ?_
  refine r_iload_n rfl dJ6_bitCount_0f7a4_35 rfl ?_
  refine r_bipush (v := 8) rfl dJ6_bitCount_0f7a4_36 (by decide) ?_
  refine r_iushr rfl dJ6_bitCount_0f7a4_38 ?_
  refine r_iadd rfl dJ6_bitCount_0f7a4_39 ?_
  refine r_topi (fun x7 e8 => ?_)
  refine r_istore_n (ls' := [some (.int x7)]) rfl dJ6_bitCount_0f7a4_40 (Nat.le_of_ble_eq_true rfl) rfl ?_
  refine r_iload_n rfl dJ6_bitCount_0f7a4_41 rfl ?_
  refine r_iload_n rfl dJ6_bitCount_0f7a4_42 rfl ?_
  refine r_bipush (v := 16) rfl dJ6_bitCount_0f7a4_43 (by decide) ?_
  refine r_iushr rfl dJ6_bitCount_0f7a4_45 ?_
  refine r_iadd rfl dJ6_bitCount_0f7a4_46 ?_
  refine r_topi (fun x9 e10 => ?_)
  refine r_istore_n (ls' := [some (.int x9)]) rfl dJ6_bitCount_0f7a4_47 (Nat.le_of_ble_eq_true rfl) rfl ?_
  refine r_iload_n rfl dJ6_bitCount_0f7a4_48 rfl ?_
  refine r_bipush (v := 63) rfl dJ6_bitCount_0f7a4_49 (by decide) ?_
  refine r_iand rfl dJ6_bitCount_0f7a4_51 ?_
  subst e10
  subst e8
  subst e6
  subst e4
  subst e2
  exact r_ret dJ6_bitCount_0f7a4_52 (rt_i rfl) ⟨rfl, rfl, rfl⟩
set_option maxRecDepth 20000 in
theorem s_X3_property {xs : Nat → Int32} {L d : Nat} {h : ev_H} (hS : SH h) {i : Nat} (hi : i < 40) {w : Int32} : EV xs L (d + 0) 0 0 M_X3_property 434 h 0 [some (.ref (100 + 8 * i)), some (.int w)] [] (fun sz' h' r => ∃ x : Int32, r = [.int x]) := by
  refine r_iload_n rfl dX3_property_0 rfl ?_
  by_cases c51 : w.toInt < 0 ∨ 5 < w.toInt
  · refine r_swO (tgt := 70) dX3_property_1 rfl c51 ?_
    refine r_iconst (v := (-1)) rfl dX3_property_70 (by decide) ?_
    exact r_ret dX3_property_71 (rt_i rfl) ⟨_, rfl⟩
  · have c51a : ¬ w.toInt < 0 := fun z => c51 (Or.inl z)
    have c51b : ¬ 5 < w.toInt := fun z => c51 (Or.inr z)
    rcases (show w.toInt = 0 ∨ w.toInt = 1 ∨ w.toInt = 2 ∨ w.toInt = 3 ∨ w.toInt = 4 ∨ w.toInt = 5 by omega) with c51e | c51e | c51e | c51e | c51e | c51e
    · refine r_swI (off := 39) (tgt := 40) dX3_property_1 rfl c51a c51b (by rw [c51e]; rfl) ?_
      refine r_aload_n rfl dX3_property_40 rfl ?_
      obtain ⟨y53, y54, y55, y56, y57, y58, f52⟩ := hS.ln hi
      refine r_getv 1 rfl dX3_property_41 (show 2 ≤ 100 + 8 * i ∧ 100 + 8 * i < 434 by omega) f52 fl_X3_28 rfl ?_
      exact r_ret dX3_property_44 (rt_i rfl) ⟨_, rfl⟩
    · refine r_swI (off := 44) (tgt := 45) dX3_property_1 rfl c51a c51b (by rw [c51e]; rfl) ?_
      refine r_aload_n rfl dX3_property_45 rfl ?_
      obtain ⟨y60, y61, y62, y63, y64, y65, f59⟩ := hS.ln hi
      refine r_getv 2 rfl dX3_property_46 (show 2 ≤ 100 + 8 * i ∧ 100 + 8 * i < 434 by omega) f59 fl_X3_31 rfl ?_
      exact r_ret dX3_property_49 (rt_i rfl) ⟨_, rfl⟩
    · refine r_swI (off := 49) (tgt := 50) dX3_property_1 rfl c51a c51b (by rw [c51e]; rfl) ?_
      refine r_aload_n rfl dX3_property_50 rfl ?_
      obtain ⟨y67, y68, y69, y70, y71, y72, f66⟩ := hS.ln hi
      refine r_getv 3 rfl dX3_property_51 (show 2 ≤ 100 + 8 * i ∧ 100 + 8 * i < 434 by omega) f66 fl_X3_34 rfl ?_
      exact r_ret dX3_property_54 (rt_i rfl) ⟨_, rfl⟩
    · refine r_swI (off := 54) (tgt := 55) dX3_property_1 rfl c51a c51b (by rw [c51e]; rfl) ?_
      refine r_aload_n rfl dX3_property_55 rfl ?_
      obtain ⟨y74, y75, y76, y77, y78, y79, f73⟩ := hS.ln hi
      refine r_getv 4 rfl dX3_property_56 (show 2 ≤ 100 + 8 * i ∧ 100 + 8 * i < 434 by omega) f73 fl_X3_17 rfl ?_
      exact r_ret dX3_property_59 (rt_i rfl) ⟨_, rfl⟩
    · refine r_swI (off := 59) (tgt := 60) dX3_property_1 rfl c51a c51b (by rw [c51e]; rfl) ?_
      refine r_aload_n rfl dX3_property_60 rfl ?_
      obtain ⟨y81, y82, y83, y84, y85, y86, f80⟩ := hS.ln hi
      refine r_getv 5 rfl dX3_property_61 (show 2 ≤ 100 + 8 * i ∧ 100 + 8 * i < 434 by omega) f80 fl_X3_21 rfl ?_
      exact r_ret dX3_property_64 (rt_i rfl) ⟨_, rfl⟩
    · refine r_swI (off := 64) (tgt := 65) dX3_property_1 rfl c51a c51b (by rw [c51e]; rfl) ?_
      refine r_aload_n rfl dX3_property_65 rfl ?_
      obtain ⟨y88, y89, y90, y91, y92, y93, f87⟩ := hS.ln hi
      refine r_getv 6 rfl dX3_property_66 (show 2 ≤ 100 + 8 * i ∧ 100 + 8 * i < 434 by omega) f87 fl_X3_24 rfl ?_
      exact r_ret dX3_property_69 (rt_i rfl) ⟨_, rfl⟩
set_option maxRecDepth 20000 in
theorem s_X3_literals {xs : Nat → Int32} {L d : Nat} {h : ev_H} (hS : SH h) {i : Nat} (hi : i < 40)  : EV xs L (d + 1) 0 0 M_X3_literals 434 h 0 [some (.ref (100 + 8 * i))] [] (fun sz' h' r => ∃ x : Int32, r = [.int x]) := by
  refine r_aload_n rfl dX3_literals_0 rfl ?_
  obtain ⟨y52, y53, y54, y55, y56, y57, f51⟩ := hS.ln hi
  refine r_getv 1 rfl dX3_literals_1 (show 2 ≤ 100 + 8 * i ∧ 100 + 8 * i < 434 by omega) f51 fl_X3_28 rfl ?_
  refine cl_X3_37 rfl rfl dX3_literals_4 (Nat.le_of_ble_eq_true rfl) s_J6_bitCount_0f7a4 ?_
  rintro _ h58 _ ⟨rfl, e59, rfl⟩
  replace e59 := e59.symm
  subst e59
  refine r_aload_n rfl dX3_literals_7 rfl ?_
  refine r_getv 2 rfl dX3_literals_8 (show 2 ≤ 100 + 8 * i ∧ 100 + 8 * i < 434 by omega) f51 fl_X3_31 rfl ?_
  refine cl_X3_37 rfl rfl dX3_literals_11 (Nat.le_of_ble_eq_true rfl) s_J6_bitCount_0f7a4 ?_
  rintro _ h60 _ ⟨rfl, e61, rfl⟩
  replace e61 := e61.symm
  subst e61
  refine r_iadd rfl dX3_literals_14 ?_
  exact r_ret dX3_literals_15 (rt_i rfl) ⟨_, rfl⟩
set_option maxRecDepth 20000 in
theorem s_X3_letters {xs : Nat → Int32} {L d : Nat} {h : ev_H} (hS : SH h) {i : Nat} (hi : i < 40)  : EV xs L (d + 0) 0 0 M_X3_letters 434 h 0 [some (.ref (100 + 8 * i))] [] (fun sz' h' r => ∃ x : Int32, r = [.int x]) := by
  refine r_aload_n rfl dX3_letters_0 rfl ?_
  obtain ⟨y52, y53, y54, y55, y56, y57, f51⟩ := hS.ln hi
  refine r_getv 1 rfl dX3_letters_1 (show 2 ≤ 100 + 8 * i ∧ 100 + 8 * i < 434 by omega) f51 fl_X3_28 rfl ?_
  refine r_aload_n rfl dX3_letters_4 rfl ?_
  refine r_getv 2 rfl dX3_letters_5 (show 2 ≤ 100 + 8 * i ∧ 100 + 8 * i < 434 by omega) f51 fl_X3_31 rfl ?_
  refine r_ior rfl dX3_letters_8 ?_
  exact r_ret dX3_letters_9 (rt_i rfl) ⟨_, rfl⟩
set_option maxRecDepth 20000 in
theorem s_X3_isSoIn {xs : Nat → Int32} {L d : Nat} {h : ev_H} (hS : SH h) {i : Nat} (hi : i < 40) {w : Int32} : EV xs L (d + 0) 0 0 M_X3_isSoIn 434 h 0 [some (.ref (100 + 8 * i)), some (.int w)] [] (fun sz' h' r => ∃ x : Int32, r = [.int x]) := by
  refine r_aload_n rfl dX3_isSoIn_0 rfl ?_
  obtain ⟨y52, y53, y54, y55, y56, y57, f51⟩ := hS.ln hi
  refine r_getv 1 rfl dX3_isSoIn_1 (show 2 ≤ 100 + 8 * i ∧ 100 + 8 * i < 434 by omega) f51 fl_X3_28 rfl ?_
  refine r_iload_n rfl dX3_isSoIn_4 rfl ?_
  refine r_iand rfl dX3_isSoIn_5 ?_
  refine r_aload_n rfl dX3_isSoIn_6 rfl ?_
  refine r_getv 2 rfl dX3_isSoIn_7 (show 2 ≤ 100 + 8 * i ∧ 100 + 8 * i < 434 by omega) f51 fl_X3_31 rfl ?_
  refine r_iload_n rfl dX3_isSoIn_10 rfl ?_
  refine r_iconst (v := (-1)) rfl dX3_isSoIn_11 (by decide) ?_
  refine r_ixor rfl dX3_isSoIn_12 ?_
  refine r_iand rfl dX3_isSoIn_13 ?_
  refine r_ior rfl dX3_isSoIn_14 ?_
  refine r_if_eq (tgt := 22) rfl rfl dX3_isSoIn_15 (fun c58 => ?_) (fun c58 => ?_)
  · refine r_iconst (v := 0) rfl dX3_isSoIn_22 (by decide) ?_
    exact r_ret dX3_isSoIn_23 (rt_z rfl (Or.inl rfl)) ⟨_, rfl⟩
  · refine r_iconst (v := 1) rfl dX3_isSoIn_18 (by decide) ?_
    refine r_goto (pc' := 23) rfl dX3_isSoIn_19 ?_
    exact r_ret dX3_isSoIn_23 (rt_z rfl (Or.inr rfl)) ⟨_, rfl⟩
set_option maxRecDepth 20000 in
theorem s_X3_sayingBy {xs : Nat → Int32} {L d : Nat} {h : ev_H} (hS : SH h) {i : Nat} (hi : i < 40) {w : Int32} : EV xs L (d + 0) 0 0 M_X3_sayingBy 434 h 0 [some (.ref (100 + 8 * i)), some (.int w)] [] (fun sz' h' r => ∃ j, j < 3 ∧ r = [.ref (102 + 8 * i + 2 * j)]) := by
  refine r_aload_n rfl dX3_sayingBy_0 rfl ?_
  obtain ⟨y52, y53, y54, y55, y56, y57, f51⟩ := hS.ln hi
  refine r_getv 0 rfl dX3_sayingBy_1 (show 2 ≤ 100 + 8 * i ∧ 100 + 8 * i < 434 by omega) f51 fl_X3_11 rfl ?_
  refine r_iload_n rfl dX3_sayingBy_4 rfl ?_
  refine r_if_lt (tgt := 13) rfl rfl dX3_sayingBy_5 (fun c58 => ?_) (fun c58 => ?_)
  · refine r_iconst (v := 0) rfl dX3_sayingBy_13 (by decide) ?_
    refine r_goto (pc' := 18) rfl dX3_sayingBy_14 ?_
    refine r_aald (jn := 0) (v := .ref (102 + 8 * i + 2 * 0)) rfl dX3_sayingBy_18 (show 2 ≤ 101 + 8 * i ∧ 101 + 8 * i < 434 by omega).1 (show 2 ≤ 101 + 8 * i ∧ 101 + 8 * i < 434 by omega).2 (hS.say hi) (by decide) (by unfold vp_in; decide) rfl (by show va_rf (if _ < _ then _ else _) = _; rw [if_pos (show 0 < 3 by decide)]; rfl) ?_
    exact r_ret dX3_sayingBy_19 (rt_a rfl) ⟨_, (show 0 < 3 by decide), rfl⟩
  · refine r_iload_n rfl dX3_sayingBy_8 rfl ?_
    refine r_iconst (v := 3) rfl dX3_sayingBy_9 (by decide) ?_
    refine r_icmp_lt (tgt := 17) rfl rfl dX3_sayingBy_10 (fun c60 => ?_) (fun c60 => ?_)
    · refine r_iload_n rfl dX3_sayingBy_17 rfl ?_
      refine r_aald (jn := w.toNatClampNeg) (v := .ref (102 + 8 * i + 2 * w.toNatClampNeg)) rfl dX3_sayingBy_18 (show 2 ≤ 101 + 8 * i ∧ 101 + 8 * i < 434 by omega).1 (show 2 ≤ 101 + 8 * i ∧ 101 + 8 * i < 434 by omega).2 (hS.say hi) (by decide) (vpi2 (m := 3) (by decide) c58 c60) rfl (by show va_rf (if _ < _ then _ else _) = _; rw [if_pos (vp_in_lt (vpi2 (m := 3) (by decide) c58 c60))]; rfl) ?_
      exact r_ret dX3_sayingBy_19 (rt_a rfl) ⟨_, (vp_in_lt (vpi2 (m := 3) (by decide) c58 c60)), rfl⟩
    · refine r_iconst (v := 0) rfl dX3_sayingBy_13 (by decide) ?_
      refine r_goto (pc' := 18) rfl dX3_sayingBy_14 ?_
      refine r_aald (jn := 0) (v := .ref (102 + 8 * i + 2 * 0)) rfl dX3_sayingBy_18 (show 2 ≤ 101 + 8 * i ∧ 101 + 8 * i < 434 by omega).1 (show 2 ≤ 101 + 8 * i ∧ 101 + 8 * i < 434 by omega).2 (hS.say hi) (by decide) (by unfold vp_in; decide) rfl (by show va_rf (if _ < _ then _ else _) = _; rw [if_pos (show 0 < 3 by decide)]; rfl) ?_
      exact r_ret dX3_sayingBy_19 (rt_a rfl) ⟨_, (show 0 < 3 by decide), rfl⟩
set_option maxRecDepth 20000 in
theorem s_X3_gatherWorlds_loop {xs : Nat → Int32} {L d : Nat} {i a : Nat} {m : Int32} (hi : i < 40) (ha : wsAt a) : ∀ (n k : Nat), k + n = 8 → ∀ (h : ev_H) (hS : SH h) (u : Option Value) , EV xs L (d + 2) 0 0 M_X3_gatherWorlds 434 h 6 [some (.ref (100 + 8 * i)), some (.ref a), some (.int m), some (.int (nI k)), u] [] (fun sz' h' r => r = []) := by
  intro n
  induction n with
  | zero =>
    intro k hk h hS u
    obtain rfl : k = 8 := by omega
    refine r_iload_n rfl dX3_gatherWorlds_6 rfl ?_
    refine r_bipush (v := 8) rfl dX3_gatherWorlds_7 (by decide) ?_
    refine r_icmp_ge (tgt := 57) rfl rfl dX3_gatherWorlds_9 (fun _ => ?_) (fun c => absurd c (by decide))
    exact r_ret dX3_gatherWorlds_57 (rt_v rfl) rfl
  | succ n ih =>
    intro k hk h hS u
    refine r_iload_n rfl dX3_gatherWorlds_6 rfl ?_
    refine r_bipush (v := 8) rfl dX3_gatherWorlds_7 (by decide) ?_
    refine r_icmp_ge (tgt := 57) rfl rfl dX3_gatherWorlds_9 (fun c => absurd c (show ¬ (8 : Int32) ≤ nI k from nI_ge (a := k) (b := 8) (by omega) (by decide))) (fun _ => ?_)
    refine r_iconst (v := 1) rfl dX3_gatherWorlds_12 (by decide) ?_
    refine r_iload_n rfl dX3_gatherWorlds_13 rfl ?_
    refine r_ishl rfl dX3_gatherWorlds_14 ?_
    refine r_iload_n rfl dX3_gatherWorlds_15 rfl ?_
    refine r_iand rfl dX3_gatherWorlds_16 ?_
    refine r_topi (fun x601 e602 => ?_)
    refine r_istore (ls' := [some (.ref (100 + 8 * i)), some (.ref a), some (.int m), some (.int (nI k)), some (.int x601)]) rfl dX3_gatherWorlds_17 (Nat.le_of_ble_eq_true rfl) rfl ?_
    refine r_aload_n rfl dX3_gatherWorlds_19 rfl ?_
    obtain ⟨y604, y605, y606, y607, y608, y609, f603⟩ := hS.ln hi
    refine r_getv 1 rfl dX3_gatherWorlds_20 (show 2 ≤ 100 + 8 * i ∧ 100 + 8 * i < 434 by omega) f603 fl_X3_28 rfl ?_
    refine r_iload rfl dX3_gatherWorlds_23 rfl ?_
    refine r_iand rfl dX3_gatherWorlds_25 ?_
    refine r_if_eq (tgt := 35) rfl rfl dX3_gatherWorlds_26 (fun c610 => ?_) (fun c610 => ?_)
    · refine r_aload_n rfl dX3_gatherWorlds_35 rfl ?_
      refine r_getv 2 rfl dX3_gatherWorlds_36 (show 2 ≤ 100 + 8 * i ∧ 100 + 8 * i < 434 by omega) f603 fl_X3_31 rfl ?_
      refine r_iload rfl dX3_gatherWorlds_39 rfl ?_
      refine r_iand rfl dX3_gatherWorlds_41 ?_
      refine r_if_eq (tgt := 51) rfl rfl dX3_gatherWorlds_42 (fun c611 => ?_) (fun c611 => ?_)
      · obtain ⟨x612, e613⟩ : ∃ z : Int32, z = (nI k) + Int32.ofInt 1 := ⟨_, rfl⟩
        refine r_iinc (y := x612) (ls' := [some (.ref (100 + 8 * i)), some (.ref a), some (.int m), some (.int x612), some (.int x601)]) rfl dX3_gatherWorlds_51 rfl e613.symm (Nat.le_of_ble_eq_true rfl) rfl ?_
        refine r_goto (pc' := 6) rfl dX3_gatherWorlds_54 ?_
        have z614 : x612 = nI (k + 1) := by rw [e613]; exact nI_1 k
        subst z614
        exact ih (k + 1) (by omega) h hS (some (.int x601))
      · refine r_aload_n rfl dX3_gatherWorlds_45 rfl ?_
        refine r_iload_n rfl dX3_gatherWorlds_46 rfl ?_
        refine r_iconst (v := 0) rfl dX3_gatherWorlds_47 (by decide) ?_
        obtain ⟨g616, hw617⟩ := hS.ws ha
        refine cl_X3_46 rfl rfl dX3_gatherWorlds_48 (show _ ∧ _ from ⟨ha.2.2.1, Nat.lt_of_succ_lt ha.2.2.2⟩).1 (show _ ∧ _ from ⟨ha.2.2.1, Nat.lt_of_succ_lt ha.2.2.2⟩).2 hw617.2.2.1 (Nat.le_of_ble_eq_true rfl) ((s_X10_joinWhere hw617).sh hS) ?_
        rintro _ h618 _ ⟨⟨rfl, -, rfl⟩, -, hS619, -⟩
        obtain ⟨x620, e621⟩ : ∃ z : Int32, z = (nI k) + Int32.ofInt 1 := ⟨_, rfl⟩
        refine r_iinc (y := x620) (ls' := [some (.ref (100 + 8 * i)), some (.ref a), some (.int m), some (.int x620), some (.int x601)]) rfl dX3_gatherWorlds_51 rfl e621.symm (Nat.le_of_ble_eq_true rfl) rfl ?_
        refine r_goto (pc' := 6) rfl dX3_gatherWorlds_54 ?_
        have z622 : x620 = nI (k + 1) := by rw [e621]; exact nI_1 k
        subst z622
        exact ih (k + 1) (by omega) h618 hS619 (some (.int x601))
    · refine r_aload_n rfl dX3_gatherWorlds_29 rfl ?_
      refine r_iload_n rfl dX3_gatherWorlds_30 rfl ?_
      refine r_iconst (v := 1) rfl dX3_gatherWorlds_31 (by decide) ?_
      obtain ⟨g624, hw625⟩ := hS.ws ha
      refine cl_X3_46 rfl rfl dX3_gatherWorlds_32 (show _ ∧ _ from ⟨ha.2.2.1, Nat.lt_of_succ_lt ha.2.2.2⟩).1 (show _ ∧ _ from ⟨ha.2.2.1, Nat.lt_of_succ_lt ha.2.2.2⟩).2 hw625.2.2.1 (Nat.le_of_ble_eq_true rfl) ((s_X10_joinWhere hw625).sh hS) ?_
      rintro _ h626 _ ⟨⟨rfl, -, rfl⟩, -, hS627, -⟩
      refine r_aload_n rfl dX3_gatherWorlds_35 rfl ?_
      obtain ⟨y629, y630, y631, y632, y633, y634, f628⟩ := hS627.ln hi
      refine r_getv 2 rfl dX3_gatherWorlds_36 (show 2 ≤ 100 + 8 * i ∧ 100 + 8 * i < 434 by omega) f628 fl_X3_31 rfl ?_
      refine r_iload rfl dX3_gatherWorlds_39 rfl ?_
      refine r_iand rfl dX3_gatherWorlds_41 ?_
      refine r_if_eq (tgt := 51) rfl rfl dX3_gatherWorlds_42 (fun c635 => ?_) (fun c635 => ?_)
      · obtain ⟨x636, e637⟩ : ∃ z : Int32, z = (nI k) + Int32.ofInt 1 := ⟨_, rfl⟩
        refine r_iinc (y := x636) (ls' := [some (.ref (100 + 8 * i)), some (.ref a), some (.int m), some (.int x636), some (.int x601)]) rfl dX3_gatherWorlds_51 rfl e637.symm (Nat.le_of_ble_eq_true rfl) rfl ?_
        refine r_goto (pc' := 6) rfl dX3_gatherWorlds_54 ?_
        have z638 : x636 = nI (k + 1) := by rw [e637]; exact nI_1 k
        subst z638
        exact ih (k + 1) (by omega) h626 hS627 (some (.int x601))
      · refine r_aload_n rfl dX3_gatherWorlds_45 rfl ?_
        refine r_iload_n rfl dX3_gatherWorlds_46 rfl ?_
        refine r_iconst (v := 0) rfl dX3_gatherWorlds_47 (by decide) ?_
        obtain ⟨g640, hw641⟩ := hS627.ws ha
        refine cl_X3_46 rfl rfl dX3_gatherWorlds_48 (show _ ∧ _ from ⟨ha.2.2.1, Nat.lt_of_succ_lt ha.2.2.2⟩).1 (show _ ∧ _ from ⟨ha.2.2.1, Nat.lt_of_succ_lt ha.2.2.2⟩).2 hw641.2.2.1 (Nat.le_of_ble_eq_true rfl) ((s_X10_joinWhere hw641).sh hS627) ?_
        rintro _ h642 _ ⟨⟨rfl, -, rfl⟩, -, hS643, -⟩
        obtain ⟨x644, e645⟩ : ∃ z : Int32, z = (nI k) + Int32.ofInt 1 := ⟨_, rfl⟩
        refine r_iinc (y := x644) (ls' := [some (.ref (100 + 8 * i)), some (.ref a), some (.int m), some (.int x644), some (.int x601)]) rfl dX3_gatherWorlds_51 rfl e645.symm (Nat.le_of_ble_eq_true rfl) rfl ?_
        refine r_goto (pc' := 6) rfl dX3_gatherWorlds_54 ?_
        have z646 : x644 = nI (k + 1) := by rw [e645]; exact nI_1 k
        subst z646
        exact ih (k + 1) (by omega) h642 hS643 (some (.int x601))
set_option maxRecDepth 20000 in
theorem s_X3_gatherWorlds {xs : Nat → Int32} {L d : Nat} {h : ev_H} (hS : SH h) {i a : Nat} {m : Int32} (hi : i < 40) (ha : wsAt a)  : EV xs L (d + 2) 0 0 M_X3_gatherWorlds 434 h 0 [some (.ref (100 + 8 * i)), some (.ref a), some (.int m), none, none] [] (fun sz' h' r => r = []) := by
  refine r_aload_n rfl dX3_gatherWorlds_0 rfl ?_
  obtain ⟨g52, hw53⟩ := hS.ws ha
  refine cl_X3_43 rfl rfl dX3_gatherWorlds_1 (show _ ∧ _ from ⟨ha.2.2.1, Nat.lt_of_succ_lt ha.2.2.2⟩).1 (show _ ∧ _ from ⟨ha.2.2.1, Nat.lt_of_succ_lt ha.2.2.2⟩).2 hw53.2.2.1 (Nat.le_of_ble_eq_true rfl) ((s_X10_wipe hw53).sh hS) ?_
  rintro _ h54 _ ⟨⟨rfl, -, rfl⟩, -, hS55, -⟩
  refine r_iconst (v := 0) rfl dX3_gatherWorlds_4 (by decide) ?_
  refine r_istore_n (ls' := [some (.ref (100 + 8 * i)), some (.ref a), some (.int m), some (.int 0), none]) rfl dX3_gatherWorlds_5 (Nat.le_of_ble_eq_true rfl) rfl ?_
  exact s_X3_gatherWorlds_loop hi ha 8 0 rfl h54 hS55 none
set_option maxRecDepth 20000 in
theorem s_X3_becomeClause {xs : Nat → Int32} {L d : Nat} {h : ev_H} (hS : SH h) {i : Nat} (hi : i < 40) {o p t : Int32} : EV xs L (d + 0) 0 0 M_X3_becomeClause 434 h 0 [some (.ref (100 + 8 * i)), some (.int o), some (.int p), some (.int t)] [] (fun sz' h' r => r = []) := by
  refine r_aload_n rfl dX3_becomeClause_0 rfl ?_
  refine r_iload_n rfl dX3_becomeClause_1 rfl ?_
  obtain ⟨y52, y53, y54, y55, y56, y57, f51⟩ := hS.ln hi
  refine k_put 1 rfl dX3_becomeClause_2 (show 2 ≤ 100 + 8 * i ∧ 100 + 8 * i < 434 by omega) hS f51 (fp_X3_28 rfl _) (Nat.le_of_ble_eq_true rfl) (fun h58 hS59 => ?_)
  refine r_aload_n rfl dX3_becomeClause_5 rfl ?_
  refine r_iload_n rfl dX3_becomeClause_6 rfl ?_
  obtain ⟨y61, y62, y63, y64, y65, y66, f60⟩ := hS59.ln hi
  refine k_put 2 rfl dX3_becomeClause_7 (show 2 ≤ 100 + 8 * i ∧ 100 + 8 * i < 434 by omega) hS59 f60 (fp_X3_31 rfl _) (Nat.le_of_ble_eq_true rfl) (fun h67 hS68 => ?_)
  refine r_aload_n rfl dX3_becomeClause_10 rfl ?_
  refine r_iload_n rfl dX3_becomeClause_11 rfl ?_
  obtain ⟨y70, y71, y72, y73, y74, y75, f69⟩ := hS68.ln hi
  refine k_put 3 rfl dX3_becomeClause_12 (show 2 ≤ 100 + 8 * i ∧ 100 + 8 * i < 434 by omega) hS68 f69 (fp_X3_34 rfl _) (Nat.le_of_ble_eq_true rfl) (fun h76 hS77 => ?_)
  refine r_aload_n rfl dX3_becomeClause_15 rfl ?_
  refine r_bipush (v := (-9)) rfl dX3_becomeClause_16 (by decide) ?_
  obtain ⟨y79, y80, y81, y82, y83, y84, f78⟩ := hS77.ln hi
  refine k_put 4 rfl dX3_becomeClause_18 (show 2 ≤ 100 + 8 * i ∧ 100 + 8 * i < 434 by omega) hS77 f78 (fp_X3_17 rfl _) (Nat.le_of_ble_eq_true rfl) (fun h85 hS86 => ?_)
  refine r_aload_n rfl dX3_becomeClause_21 rfl ?_
  refine r_bipush (v := (-9)) rfl dX3_becomeClause_22 (by decide) ?_
  obtain ⟨y88, y89, y90, y91, y92, y93, f87⟩ := hS86.ln hi
  refine k_put 5 rfl dX3_becomeClause_24 (show 2 ≤ 100 + 8 * i ∧ 100 + 8 * i < 434 by omega) hS86 f87 (fp_X3_21 rfl _) (Nat.le_of_ble_eq_true rfl) (fun h94 hS95 => ?_)
  refine r_aload_n rfl dX3_becomeClause_27 rfl ?_
  refine r_bipush (v := (-9)) rfl dX3_becomeClause_28 (by decide) ?_
  obtain ⟨y97, y98, y99, y100, y101, y102, f96⟩ := hS95.ln hi
  refine k_put 6 rfl dX3_becomeClause_30 (show 2 ≤ 100 + 8 * i ∧ 100 + 8 * i < 434 by omega) hS95 f96 (fp_X3_24 rfl _) (Nat.le_of_ble_eq_true rfl) (fun h103 hS104 => ?_)
  exact r_ret dX3_becomeClause_33 (rt_v rfl) rfl
set_option maxRecDepth 20000 in
theorem s_X3_rememberCut {xs : Nat → Int32} {L d : Nat} {h : ev_H} (hS : SH h) {i : Nat} (hi : i < 40) {o p t : Int32} : EV xs L (d + 0) 0 0 M_X3_rememberCut 434 h 0 [some (.ref (100 + 8 * i)), some (.int o), some (.int p), some (.int t)] [] (fun sz' h' r => r = []) := by
  refine r_aload_n rfl dX3_rememberCut_0 rfl ?_
  refine r_iconst (v := 0) rfl dX3_rememberCut_1 (by decide) ?_
  obtain ⟨y52, y53, y54, y55, y56, y57, f51⟩ := hS.ln hi
  refine k_put 3 rfl dX3_rememberCut_2 (show 2 ≤ 100 + 8 * i ∧ 100 + 8 * i < 434 by omega) hS f51 (fp_X3_34 rfl _) (Nat.le_of_ble_eq_true rfl) (fun h58 hS59 => ?_)
  refine r_aload_n rfl dX3_rememberCut_5 rfl ?_
  refine r_iload_n rfl dX3_rememberCut_6 rfl ?_
  obtain ⟨y61, y62, y63, y64, y65, y66, f60⟩ := hS59.ln hi
  refine k_put 4 rfl dX3_rememberCut_7 (show 2 ≤ 100 + 8 * i ∧ 100 + 8 * i < 434 by omega) hS59 f60 (fp_X3_17 rfl _) (Nat.le_of_ble_eq_true rfl) (fun h67 hS68 => ?_)
  refine r_aload_n rfl dX3_rememberCut_10 rfl ?_
  refine r_iload_n rfl dX3_rememberCut_11 rfl ?_
  obtain ⟨y70, y71, y72, y73, y74, y75, f69⟩ := hS68.ln hi
  refine k_put 5 rfl dX3_rememberCut_12 (show 2 ≤ 100 + 8 * i ∧ 100 + 8 * i < 434 by omega) hS68 f69 (fp_X3_21 rfl _) (Nat.le_of_ble_eq_true rfl) (fun h76 hS77 => ?_)
  refine r_aload_n rfl dX3_rememberCut_15 rfl ?_
  refine r_iload_n rfl dX3_rememberCut_16 rfl ?_
  obtain ⟨y79, y80, y81, y82, y83, y84, f78⟩ := hS77.ln hi
  refine k_put 6 rfl dX3_rememberCut_17 (show 2 ≤ 100 + 8 * i ∧ 100 + 8 * i < 434 by omega) hS77 f78 (fp_X3_24 rfl _) (Nat.le_of_ble_eq_true rfl) (fun h85 hS86 => ?_)
  exact r_ret dX3_rememberCut_20 (rt_v rfl) rfl
set_option maxRecDepth 20000 in
theorem s_X3_sayAsClause {xs : Nat → Int32} {L d : Nat} {h : ev_H} (hS : SH h) {i : Nat} (hi : i < 40) {m : Int32} : EV xs L (d + 3) 0 0 M_X3_sayAsClause 434 h 0 [some (.ref (100 + 8 * i)), some (.int m)] [] (fun sz' h' r => r = []) := by
  refine r_aload_n rfl dX3_sayAsClause_0 rfl ?_
  obtain ⟨y52, y53, y54, y55, y56, y57, f51⟩ := hS.ln hi
  refine r_getv 3 rfl dX3_sayAsClause_1 (show 2 ≤ 100 + 8 * i ∧ 100 + 8 * i < 434 by omega) f51 fl_X3_34 rfl ?_
  refine r_iconst (v := 1) rfl dX3_sayAsClause_4 (by decide) ?_
  refine r_icmp_ne (tgt := 40) rfl rfl dX3_sayAsClause_5 (fun c58 => ?_) (fun c58 => ?_)
  · refine r_aload_n rfl dX3_sayAsClause_40 rfl ?_
    refine r_getv 0 rfl dX3_sayAsClause_41 (show 2 ≤ 100 + 8 * i ∧ 100 + 8 * i < 434 by omega) f51 fl_X3_11 rfl ?_
    refine r_iconst (v := 0) rfl dX3_sayAsClause_44 (by decide) ?_
    refine r_aald (jn := 0) (v := .ref (102 + 8 * i + 2 * 0)) rfl dX3_sayAsClause_45 (show 2 ≤ 101 + 8 * i ∧ 101 + 8 * i < 434 by omega).1 (show 2 ≤ 101 + 8 * i ∧ 101 + 8 * i < 434 by omega).2 (hS.say hi) (by decide) (by unfold vp_in; decide) rfl (by show va_rf (if _ < _ then _ else _) = _; rw [if_pos (show 0 < 3 by decide)]; rfl) ?_
    obtain ⟨g61, hw62⟩ := hS.ws (wsAt_ln hi (w := 0) (show 0 < 3 by decide))
    refine cl_X3_54 rfl rfl dX3_sayAsClause_46 (show _ ∧ _ from ⟨(wsAt_ln hi (w := 0) (show 0 < 3 by decide)).2.2.1, Nat.lt_of_succ_lt (wsAt_ln hi (w := 0) (show 0 < 3 by decide)).2.2.2⟩).1 (show _ ∧ _ from ⟨(wsAt_ln hi (w := 0) (show 0 < 3 by decide)).2.2.1, Nat.lt_of_succ_lt (wsAt_ln hi (w := 0) (show 0 < 3 by decide)).2.2.2⟩).2 hw62.2.2.1 (Nat.le_of_ble_eq_true rfl) ((s_X10_fill hw62).sh hS) ?_
    rintro _ h63 _ ⟨⟨rfl, -, rfl⟩, -, hS64, -⟩
    refine r_aload_n rfl dX3_sayAsClause_49 rfl ?_
    refine r_aload_n rfl dX3_sayAsClause_50 rfl ?_
    obtain ⟨y66, y67, y68, y69, y70, y71, f65⟩ := hS64.ln hi
    refine r_getv 0 rfl dX3_sayAsClause_51 (show 2 ≤ 100 + 8 * i ∧ 100 + 8 * i < 434 by omega) f65 fl_X3_11 rfl ?_
    refine r_iconst (v := 1) rfl dX3_sayAsClause_54 (by decide) ?_
    refine r_aald (jn := 1) (v := .ref (102 + 8 * i + 2 * 1)) rfl dX3_sayAsClause_55 (show 2 ≤ 101 + 8 * i ∧ 101 + 8 * i < 434 by omega).1 (show 2 ≤ 101 + 8 * i ∧ 101 + 8 * i < 434 by omega).2 (hS64.say hi) (by decide) (by unfold vp_in; decide) rfl (by show va_rf (if _ < _ then _ else _) = _; rw [if_pos (show 1 < 3 by decide)]; rfl) ?_
    refine r_iload_n rfl dX3_sayAsClause_56 rfl ?_
    refine cl_X3_50 rfl rfl dX3_sayAsClause_57 (show 2 ≤ 100 + 8 * i ∧ 100 + 8 * i < 434 by omega).1 (show 2 ≤ 100 + 8 * i ∧ 100 + 8 * i < 434 by omega).2 f65 (Nat.le_of_ble_eq_true rfl) ((s_X3_gatherWorlds hS64 hi (wsAt_ln hi (w := 1) (show 1 < 3 by decide))).sh hS64) ?_
    rintro _ h73 _ ⟨rfl, rfl, hS74, _⟩
    refine r_aload_n rfl dX3_sayAsClause_60 rfl ?_
    obtain ⟨y76, y77, y78, y79, y80, y81, f75⟩ := hS74.ln hi
    refine r_getv 0 rfl dX3_sayAsClause_61 (show 2 ≤ 100 + 8 * i ∧ 100 + 8 * i < 434 by omega) f75 fl_X3_11 rfl ?_
    refine r_iconst (v := 1) rfl dX3_sayAsClause_64 (by decide) ?_
    refine r_aald (jn := 1) (v := .ref (102 + 8 * i + 2 * 1)) rfl dX3_sayAsClause_65 (show 2 ≤ 101 + 8 * i ∧ 101 + 8 * i < 434 by omega).1 (show 2 ≤ 101 + 8 * i ∧ 101 + 8 * i < 434 by omega).2 (hS74.say hi) (by decide) (by unfold vp_in; decide) rfl (by show va_rf (if _ < _ then _ else _) = _; rw [if_pos (show 1 < 3 by decide)]; rfl) ?_
    obtain ⟨g84, hw85⟩ := hS74.ws (wsAt_ln hi (w := 1) (show 1 < 3 by decide))
    refine cl_X3_57 rfl rfl dX3_sayAsClause_66 (show _ ∧ _ from ⟨(wsAt_ln hi (w := 1) (show 1 < 3 by decide)).2.2.1, Nat.lt_of_succ_lt (wsAt_ln hi (w := 1) (show 1 < 3 by decide)).2.2.2⟩).1 (show _ ∧ _ from ⟨(wsAt_ln hi (w := 1) (show 1 < 3 by decide)).2.2.1, Nat.lt_of_succ_lt (wsAt_ln hi (w := 1) (show 1 < 3 by decide)).2.2.2⟩).2 hw85.2.2.1 (Nat.le_of_ble_eq_true rfl) ((s_X10_turn hw85).sh hS74) ?_
    rintro _ h86 _ ⟨⟨rfl, -, rfl⟩, -, hS87, -⟩
    refine r_aload_n rfl dX3_sayAsClause_69 rfl ?_
    obtain ⟨y89, y90, y91, y92, y93, y94, f88⟩ := hS87.ln hi
    refine r_getv 0 rfl dX3_sayAsClause_70 (show 2 ≤ 100 + 8 * i ∧ 100 + 8 * i < 434 by omega) f88 fl_X3_11 rfl ?_
    refine r_iconst (v := 2) rfl dX3_sayAsClause_73 (by decide) ?_
    refine r_aald (jn := 2) (v := .ref (102 + 8 * i + 2 * 2)) rfl dX3_sayAsClause_74 (show 2 ≤ 101 + 8 * i ∧ 101 + 8 * i < 434 by omega).1 (show 2 ≤ 101 + 8 * i ∧ 101 + 8 * i < 434 by omega).2 (hS87.say hi) (by decide) (by unfold vp_in; decide) rfl (by show va_rf (if _ < _ then _ else _) = _; rw [if_pos (show 2 < 3 by decide)]; rfl) ?_
    obtain ⟨g97, hw98⟩ := hS87.ws (wsAt_ln hi (w := 2) (show 2 < 3 by decide))
    refine cl_X3_54 rfl rfl dX3_sayAsClause_75 (show _ ∧ _ from ⟨(wsAt_ln hi (w := 2) (show 2 < 3 by decide)).2.2.1, Nat.lt_of_succ_lt (wsAt_ln hi (w := 2) (show 2 < 3 by decide)).2.2.2⟩).1 (show _ ∧ _ from ⟨(wsAt_ln hi (w := 2) (show 2 < 3 by decide)).2.2.1, Nat.lt_of_succ_lt (wsAt_ln hi (w := 2) (show 2 < 3 by decide)).2.2.2⟩).2 hw98.2.2.1 (Nat.le_of_ble_eq_true rfl) ((s_X10_fill hw98).sh hS87) ?_
    rintro _ h99 _ ⟨⟨rfl, -, rfl⟩, -, hS100, -⟩
    exact r_ret dX3_sayAsClause_78 (rt_v rfl) rfl
  · refine r_aload_n rfl dX3_sayAsClause_8 rfl ?_
    refine r_aload_n rfl dX3_sayAsClause_9 rfl ?_
    refine r_getv 0 rfl dX3_sayAsClause_10 (show 2 ≤ 100 + 8 * i ∧ 100 + 8 * i < 434 by omega) f51 fl_X3_11 rfl ?_
    refine r_iconst (v := 0) rfl dX3_sayAsClause_13 (by decide) ?_
    refine r_aald (jn := 0) (v := .ref (102 + 8 * i + 2 * 0)) rfl dX3_sayAsClause_14 (show 2 ≤ 101 + 8 * i ∧ 101 + 8 * i < 434 by omega).1 (show 2 ≤ 101 + 8 * i ∧ 101 + 8 * i < 434 by omega).2 (hS.say hi) (by decide) (by unfold vp_in; decide) rfl (by show va_rf (if _ < _ then _ else _) = _; rw [if_pos (show 0 < 3 by decide)]; rfl) ?_
    refine r_iload_n rfl dX3_sayAsClause_15 rfl ?_
    refine cl_X3_50 rfl rfl dX3_sayAsClause_16 (show 2 ≤ 100 + 8 * i ∧ 100 + 8 * i < 434 by omega).1 (show 2 ≤ 100 + 8 * i ∧ 100 + 8 * i < 434 by omega).2 f51 (Nat.le_of_ble_eq_true rfl) ((s_X3_gatherWorlds hS hi (wsAt_ln hi (w := 0) (show 0 < 3 by decide))).sh hS) ?_
    rintro _ h102 _ ⟨rfl, rfl, hS103, _⟩
    refine r_aload_n rfl dX3_sayAsClause_19 rfl ?_
    obtain ⟨y105, y106, y107, y108, y109, y110, f104⟩ := hS103.ln hi
    refine r_getv 0 rfl dX3_sayAsClause_20 (show 2 ≤ 100 + 8 * i ∧ 100 + 8 * i < 434 by omega) f104 fl_X3_11 rfl ?_
    refine r_iconst (v := 1) rfl dX3_sayAsClause_23 (by decide) ?_
    refine r_aald (jn := 1) (v := .ref (102 + 8 * i + 2 * 1)) rfl dX3_sayAsClause_24 (show 2 ≤ 101 + 8 * i ∧ 101 + 8 * i < 434 by omega).1 (show 2 ≤ 101 + 8 * i ∧ 101 + 8 * i < 434 by omega).2 (hS103.say hi) (by decide) (by unfold vp_in; decide) rfl (by show va_rf (if _ < _ then _ else _) = _; rw [if_pos (show 1 < 3 by decide)]; rfl) ?_
    obtain ⟨g113, hw114⟩ := hS103.ws (wsAt_ln hi (w := 1) (show 1 < 3 by decide))
    refine cl_X3_43 rfl rfl dX3_sayAsClause_25 (show _ ∧ _ from ⟨(wsAt_ln hi (w := 1) (show 1 < 3 by decide)).2.2.1, Nat.lt_of_succ_lt (wsAt_ln hi (w := 1) (show 1 < 3 by decide)).2.2.2⟩).1 (show _ ∧ _ from ⟨(wsAt_ln hi (w := 1) (show 1 < 3 by decide)).2.2.1, Nat.lt_of_succ_lt (wsAt_ln hi (w := 1) (show 1 < 3 by decide)).2.2.2⟩).2 hw114.2.2.1 (Nat.le_of_ble_eq_true rfl) ((s_X10_wipe hw114).sh hS103) ?_
    rintro _ h115 _ ⟨⟨rfl, -, rfl⟩, -, hS116, -⟩
    refine r_aload_n rfl dX3_sayAsClause_28 rfl ?_
    obtain ⟨y118, y119, y120, y121, y122, y123, f117⟩ := hS116.ln hi
    refine r_getv 0 rfl dX3_sayAsClause_29 (show 2 ≤ 100 + 8 * i ∧ 100 + 8 * i < 434 by omega) f117 fl_X3_11 rfl ?_
    refine r_iconst (v := 2) rfl dX3_sayAsClause_32 (by decide) ?_
    refine r_aald (jn := 2) (v := .ref (102 + 8 * i + 2 * 2)) rfl dX3_sayAsClause_33 (show 2 ≤ 101 + 8 * i ∧ 101 + 8 * i < 434 by omega).1 (show 2 ≤ 101 + 8 * i ∧ 101 + 8 * i < 434 by omega).2 (hS116.say hi) (by decide) (by unfold vp_in; decide) rfl (by show va_rf (if _ < _ then _ else _) = _; rw [if_pos (show 2 < 3 by decide)]; rfl) ?_
    obtain ⟨g126, hw127⟩ := hS116.ws (wsAt_ln hi (w := 2) (show 2 < 3 by decide))
    refine cl_X3_43 rfl rfl dX3_sayAsClause_34 (show _ ∧ _ from ⟨(wsAt_ln hi (w := 2) (show 2 < 3 by decide)).2.2.1, Nat.lt_of_succ_lt (wsAt_ln hi (w := 2) (show 2 < 3 by decide)).2.2.2⟩).1 (show _ ∧ _ from ⟨(wsAt_ln hi (w := 2) (show 2 < 3 by decide)).2.2.1, Nat.lt_of_succ_lt (wsAt_ln hi (w := 2) (show 2 < 3 by decide)).2.2.2⟩).2 hw127.2.2.1 (Nat.le_of_ble_eq_true rfl) ((s_X10_wipe hw127).sh hS116) ?_
    rintro _ h128 _ ⟨⟨rfl, -, rfl⟩, -, hS129, -⟩
    refine r_goto (pc' := 78) rfl dX3_sayAsClause_37 ?_
    exact r_ret dX3_sayAsClause_78 (rt_v rfl) rfl
set_option maxRecDepth 20000 in
theorem s_X3_becomeCut {xs : Nat → Int32} {L d : Nat} {h : ev_H} (hS : SH h) {i j l : Nat} (hi : i < 40) (hj : j < 40) (hl : l < 40) {c : Int32} : EV xs L (d + 0) 0 0 M_X3_becomeCut 434 h 0 [some (.ref (100 + 8 * i)), some (.ref (100 + 8 * j)), some (.ref (100 + 8 * l)), some (.int c), none, none, none] [] (fun sz' h' r => ∃ x : Int32, r = [.int x]) := by
  refine r_iconst (v := 1) rfl dX3_becomeCut_0 (by decide) ?_
  refine r_iload_n rfl dX3_becomeCut_1 rfl ?_
  refine r_ishl rfl dX3_becomeCut_2 ?_
  refine r_topi (fun x51 e52 => ?_)
  refine r_istore (ls' := [some (.ref (100 + 8 * i)), some (.ref (100 + 8 * j)), some (.ref (100 + 8 * l)), some (.int c), some (.int x51), none, none]) rfl dX3_becomeCut_3 (Nat.le_of_ble_eq_true rfl) rfl ?_
  refine r_aload_n rfl dX3_becomeCut_5 rfl ?_
  obtain ⟨y54, y55, y56, y57, y58, y59, f53⟩ := hS.ln hj
  refine r_getv 1 rfl dX3_becomeCut_6 (show 2 ≤ 100 + 8 * j ∧ 100 + 8 * j < 434 by omega) f53 fl_X3_28 rfl ?_
  refine r_iload rfl dX3_becomeCut_9 rfl ?_
  refine r_iand rfl dX3_becomeCut_11 ?_
  refine r_if_eq (tgt := 25) rfl rfl dX3_becomeCut_12 (fun c60 => ?_) (fun c60 => ?_)
  · refine r_iconst (v := 0) rfl dX3_becomeCut_25 (by decide) ?_
    exact r_ret dX3_becomeCut_26 (rt_z rfl (Or.inl rfl)) ⟨_, rfl⟩
  · refine r_aload_n rfl dX3_becomeCut_15 rfl ?_
    obtain ⟨y62, y63, y64, y65, y66, y67, f61⟩ := hS.ln hl
    refine r_getv 2 rfl dX3_becomeCut_16 (show 2 ≤ 100 + 8 * l ∧ 100 + 8 * l < 434 by omega) f61 fl_X3_31 rfl ?_
    refine r_iload rfl dX3_becomeCut_19 rfl ?_
    refine r_iand rfl dX3_becomeCut_21 ?_
    refine r_if_ne (tgt := 27) rfl rfl dX3_becomeCut_22 (fun c68 => ?_) (fun c68 => ?_)
    · refine r_aload_n rfl dX3_becomeCut_27 rfl ?_
      refine r_getv 1 rfl dX3_becomeCut_28 (show 2 ≤ 100 + 8 * j ∧ 100 + 8 * j < 434 by omega) f53 fl_X3_28 rfl ?_
      refine r_iload rfl dX3_becomeCut_31 rfl ?_
      refine r_iconst (v := (-1)) rfl dX3_becomeCut_33 (by decide) ?_
      refine r_ixor rfl dX3_becomeCut_34 ?_
      refine r_iand rfl dX3_becomeCut_35 ?_
      refine r_aload_n rfl dX3_becomeCut_36 rfl ?_
      refine r_getv 1 rfl dX3_becomeCut_37 (show 2 ≤ 100 + 8 * l ∧ 100 + 8 * l < 434 by omega) f61 fl_X3_28 rfl ?_
      refine r_ior rfl dX3_becomeCut_40 ?_
      refine r_topi (fun x69 e70 => ?_)
      refine r_istore (ls' := [some (.ref (100 + 8 * i)), some (.ref (100 + 8 * j)), some (.ref (100 + 8 * l)), some (.int c), some (.int x51), some (.int x69), none]) rfl dX3_becomeCut_41 (Nat.le_of_ble_eq_true rfl) rfl ?_
      refine r_aload_n rfl dX3_becomeCut_43 rfl ?_
      refine r_getv 2 rfl dX3_becomeCut_44 (show 2 ≤ 100 + 8 * j ∧ 100 + 8 * j < 434 by omega) f53 fl_X3_31 rfl ?_
      refine r_aload_n rfl dX3_becomeCut_47 rfl ?_
      refine r_getv 2 rfl dX3_becomeCut_48 (show 2 ≤ 100 + 8 * l ∧ 100 + 8 * l < 434 by omega) f61 fl_X3_31 rfl ?_
      refine r_iload rfl dX3_becomeCut_51 rfl ?_
      refine r_iconst (v := (-1)) rfl dX3_becomeCut_53 (by decide) ?_
      refine r_ixor rfl dX3_becomeCut_54 ?_
      refine r_iand rfl dX3_becomeCut_55 ?_
      refine r_ior rfl dX3_becomeCut_56 ?_
      refine r_topi (fun x71 e72 => ?_)
      refine r_istore (ls' := [some (.ref (100 + 8 * i)), some (.ref (100 + 8 * j)), some (.ref (100 + 8 * l)), some (.int c), some (.int x51), some (.int x69), some (.int x71)]) rfl dX3_becomeCut_57 (Nat.le_of_ble_eq_true rfl) rfl ?_
      refine r_iload rfl dX3_becomeCut_59 rfl ?_
      refine r_iload rfl dX3_becomeCut_61 rfl ?_
      refine r_iand rfl dX3_becomeCut_63 ?_
      refine r_if_eq (tgt := 69) rfl rfl dX3_becomeCut_64 (fun c73 => ?_) (fun c73 => ?_)
      · refine r_aload_n rfl dX3_becomeCut_69 rfl ?_
        refine r_iload rfl dX3_becomeCut_70 rfl ?_
        obtain ⟨y75, y76, y77, y78, y79, y80, f74⟩ := hS.ln hi
        refine k_put 1 rfl dX3_becomeCut_72 (show 2 ≤ 100 + 8 * i ∧ 100 + 8 * i < 434 by omega) hS f74 (fp_X3_28 rfl _) (Nat.le_of_ble_eq_true rfl) (fun h81 hS82 => ?_)
        refine r_aload_n rfl dX3_becomeCut_75 rfl ?_
        refine r_iload rfl dX3_becomeCut_76 rfl ?_
        obtain ⟨y84, y85, y86, y87, y88, y89, f83⟩ := hS82.ln hi
        refine k_put 2 rfl dX3_becomeCut_78 (show 2 ≤ 100 + 8 * i ∧ 100 + 8 * i < 434 by omega) hS82 f83 (fp_X3_31 rfl _) (Nat.le_of_ble_eq_true rfl) (fun h90 hS91 => ?_)
        refine r_iconst (v := 1) rfl dX3_becomeCut_81 (by decide) ?_
        exact r_ret dX3_becomeCut_82 (rt_z rfl (Or.inr rfl)) ⟨_, rfl⟩
      · refine r_iconst (v := 0) rfl dX3_becomeCut_67 (by decide) ?_
        exact r_ret dX3_becomeCut_68 (rt_z rfl (Or.inl rfl)) ⟨_, rfl⟩
    · refine r_iconst (v := 0) rfl dX3_becomeCut_25 (by decide) ?_
      exact r_ret dX3_becomeCut_26 (rt_z rfl (Or.inl rfl)) ⟨_, rfl⟩
def jns (a b : Int32) : Int32 := if b = 1 then (1) else (if ¬ b = 3 then (0) else (if ¬ a = 1 then (0) else (1)))
set_option maxRecDepth 20000 in
theorem s_X3_joins {xs : Nat → Int32} {L d sz : Nat} {h : ev_H} {a b : Int32}  : EV xs L (d + 0) 0 0 M_X3_joins sz h 0 [some (.int a), some (.int b)] [] (fun sz' h' r => sz' = sz ∧ h' = h ∧ r = [.int (jns a b)]) := by
  refine r_iload_n rfl dX3_joins_0 rfl ?_
  refine r_iconst (v := 1) rfl dX3_joins_1 (by decide) ?_
  refine r_icmp_eq (tgt := 15) rfl rfl dX3_joins_2 (fun c51 => ?_) (fun c51 => ?_)
  · refine r_iconst (v := 1) rfl dX3_joins_15 (by decide) ?_
    refine r_goto (pc' := 20) rfl dX3_joins_16 ?_
    exact r_ret dX3_joins_20 (rt_z rfl (Or.inr rfl)) ⟨rfl, rfl, (by unfold jns; rw [if_pos c51] <;> rfl)⟩
  · refine r_iload_n rfl dX3_joins_5 rfl ?_
    refine r_iconst (v := 3) rfl dX3_joins_6 (by decide) ?_
    refine r_icmp_ne (tgt := 19) rfl rfl dX3_joins_7 (fun c52 => ?_) (fun c52 => ?_)
    · refine r_iconst (v := 0) rfl dX3_joins_19 (by decide) ?_
      exact r_ret dX3_joins_20 (rt_z rfl (Or.inl rfl)) ⟨rfl, rfl, (by unfold jns; rw [if_neg c51, if_pos c52] <;> rfl)⟩
    · refine r_iload_n rfl dX3_joins_10 rfl ?_
      refine r_iconst (v := 1) rfl dX3_joins_11 (by decide) ?_
      refine r_icmp_ne (tgt := 19) rfl rfl dX3_joins_12 (fun c53 => ?_) (fun c53 => ?_)
      · refine r_iconst (v := 0) rfl dX3_joins_19 (by decide) ?_
        exact r_ret dX3_joins_20 (rt_z rfl (Or.inl rfl)) ⟨rfl, rfl, (by unfold jns; rw [if_neg c51, if_neg (fun z => z c52), if_pos c53] <;> rfl)⟩
      · refine r_iconst (v := 1) rfl dX3_joins_15 (by decide) ?_
        refine r_goto (pc' := 20) rfl dX3_joins_16 ?_
        exact r_ret dX3_joins_20 (rt_z rfl (Or.inr rfl)) ⟨rfl, rfl, (by unfold jns; rw [if_neg c51, if_neg (fun z => z c52), if_neg (fun z => z c53)] <;> rfl)⟩
set_option maxRecDepth 20000 in
theorem s_X3_sayAsCut {xs : Nat → Int32} {L d : Nat} {h : ev_H} (hS : SH h) {i j l : Nat} (hi : i < 40) (hj : j < 40) (hl : l < 40) (hij : i ≠ j) (hil : i ≠ l) {o : Int32} : EV xs L (d + 2) 0 0 M_X3_sayAsCut 434 h 0 [some (.ref (100 + 8 * i)), some (.ref (100 + 8 * j)), some (.ref (100 + 8 * l)), some (.int o), none, none, none] [] (fun sz' h' r => r = []) := by
  refine r_iconst (v := 0) rfl dX3_sayAsCut_0 (by decide) ?_
  refine r_istore (ls' := [some (.ref (100 + 8 * i)), some (.ref (100 + 8 * j)), some (.ref (100 + 8 * l)), some (.int o), some (.int 0), none, none]) rfl dX3_sayAsCut_1 (Nat.le_of_ble_eq_true rfl) rfl ?_
  refine r_iload rfl dX3_sayAsCut_3 rfl ?_
  refine r_iconst (v := 3) rfl dX3_sayAsCut_5 (by decide) ?_
  refine r_icmp_ge (tgt := 113) rfl rfl dX3_sayAsCut_6 (fun c => absurd c (by decide)) (fun _ => ?_)
  refine r_aload_n rfl dX3_sayAsCut_9 rfl ?_
  obtain ⟨y52, y53, y54, y55, y56, y57, f51⟩ := hS.ln hj
  refine r_getv 0 rfl dX3_sayAsCut_10 (show 2 ≤ 100 + 8 * j ∧ 100 + 8 * j < 434 by omega) f51 fl_X3_11 rfl ?_
  refine r_iload rfl dX3_sayAsCut_13 rfl ?_
  refine r_aald (jn := 0) (v := .ref (102 + 8 * j + 2 * 0)) rfl dX3_sayAsCut_15 (show 2 ≤ 101 + 8 * j ∧ 101 + 8 * j < 434 by omega).1 (show 2 ≤ 101 + 8 * j ∧ 101 + 8 * j < 434 by omega).2 (hS.say hj) (by decide) (by unfold vp_in; decide) rfl (by show va_rf (if _ < _ then _ else _) = _; rw [if_pos (show 0 < 3 by decide)]; rfl) ?_
  refine r_astore (ls' := [some (.ref (100 + 8 * i)), some (.ref (100 + 8 * j)), some (.ref (100 + 8 * l)), some (.int o), some (.int 0), some (.ref (102 + 8 * j + 2 * 0)), none]) rfl dX3_sayAsCut_16 (Nat.le_of_ble_eq_true rfl) rfl ?_
  refine r_aload_n rfl dX3_sayAsCut_18 rfl ?_
  obtain ⟨y60, y61, y62, y63, y64, y65, f59⟩ := hS.ln hl
  refine r_getv 0 rfl dX3_sayAsCut_19 (show 2 ≤ 100 + 8 * l ∧ 100 + 8 * l < 434 by omega) f59 fl_X3_11 rfl ?_
  refine r_iload rfl dX3_sayAsCut_22 rfl ?_
  refine r_aald (jn := 0) (v := .ref (102 + 8 * l + 2 * 0)) rfl dX3_sayAsCut_24 (show 2 ≤ 101 + 8 * l ∧ 101 + 8 * l < 434 by omega).1 (show 2 ≤ 101 + 8 * l ∧ 101 + 8 * l < 434 by omega).2 (hS.say hl) (by decide) (by unfold vp_in; decide) rfl (by show va_rf (if _ < _ then _ else _) = _; rw [if_pos (show 0 < 3 by decide)]; rfl) ?_
  refine r_astore (ls' := [some (.ref (100 + 8 * i)), some (.ref (100 + 8 * j)), some (.ref (100 + 8 * l)), some (.int o), some (.int 0), some (.ref (102 + 8 * j + 2 * 0)), some (.ref (102 + 8 * l + 2 * 0))]) rfl dX3_sayAsCut_25 (Nat.le_of_ble_eq_true rfl) rfl ?_
  refine r_iload rfl dX3_sayAsCut_27 rfl ?_
  refine r_iconst (v := 2) rfl dX3_sayAsCut_29 (by decide) ?_
  refine r_icmp_ne (tgt := 59) rfl rfl dX3_sayAsCut_30 (fun _ => ?_) (fun c => absurd c (by decide))
  refine r_aload_n rfl dX3_sayAsCut_59 rfl ?_
  obtain ⟨y68, y69, y70, y71, y72, y73, f67⟩ := hS.ln hi
  refine r_getv 0 rfl dX3_sayAsCut_60 (show 2 ≤ 100 + 8 * i ∧ 100 + 8 * i < 434 by omega) f67 fl_X3_11 rfl ?_
  refine r_iload rfl dX3_sayAsCut_63 rfl ?_
  refine r_aald (jn := 0) (v := .ref (102 + 8 * i + 2 * 0)) rfl dX3_sayAsCut_65 (show 2 ≤ 101 + 8 * i ∧ 101 + 8 * i < 434 by omega).1 (show 2 ≤ 101 + 8 * i ∧ 101 + 8 * i < 434 by omega).2 (hS.say hi) (by decide) (by unfold vp_in; decide) rfl (by show va_rf (if _ < _ then _ else _) = _; rw [if_pos (show 0 < 3 by decide)]; rfl) ?_
  refine r_aload rfl dX3_sayAsCut_66 rfl ?_
  obtain ⟨g76, hw77⟩ := hS.ws (wsAt_ln hi (w := 0) (show 0 < 3 by decide))
  obtain ⟨g79, hw80⟩ := hS.ws (wsAt_ln hj (w := 0) (show 0 < 3 by decide))
  refine cl_X3_64 rfl rfl dX3_sayAsCut_68 (show _ ∧ _ from ⟨(wsAt_ln hi (w := 0) (show 0 < 3 by decide)).2.2.1, Nat.lt_of_succ_lt (wsAt_ln hi (w := 0) (show 0 < 3 by decide)).2.2.2⟩).1 (show _ ∧ _ from ⟨(wsAt_ln hi (w := 0) (show 0 < 3 by decide)).2.2.1, Nat.lt_of_succ_lt (wsAt_ln hi (w := 0) (show 0 < 3 by decide)).2.2.2⟩).2 hw77.2.2.1 (Nat.le_of_ble_eq_true rfl) ((s_X10_become hw77 hw80 (by omega)).sh hS) ?_
  rintro _ h81 _ ⟨⟨rfl, -, rfl⟩, -, hS82, -⟩
  refine r_iload rfl dX3_sayAsCut_71 rfl ?_
  refine r_iload_n rfl dX3_sayAsCut_73 rfl ?_
  refine cl_X3_68 rfl rfl dX3_sayAsCut_74 (Nat.le_of_ble_eq_true rfl) s_X3_joins ?_
  rintro _ h83 _ ⟨rfl, e84, rfl⟩
  replace e84 := e84.symm
  subst e84
  refine r_if_eq (tgt := 95) rfl rfl dX3_sayAsCut_77 (fun c85 => ?_) (fun c85 => ?_)
  · refine r_aload_n rfl dX3_sayAsCut_95 rfl ?_
    obtain ⟨y87, y88, y89, y90, y91, y92, f86⟩ := hS82.ln hi
    refine r_getv 0 rfl dX3_sayAsCut_96 (show 2 ≤ 100 + 8 * i ∧ 100 + 8 * i < 434 by omega) f86 fl_X3_11 rfl ?_
    refine r_iload rfl dX3_sayAsCut_99 rfl ?_
    refine r_aald (jn := 0) (v := .ref (102 + 8 * i + 2 * 0)) rfl dX3_sayAsCut_101 (show 2 ≤ 101 + 8 * i ∧ 101 + 8 * i < 434 by omega).1 (show 2 ≤ 101 + 8 * i ∧ 101 + 8 * i < 434 by omega).2 (hS82.say hi) (by decide) (by unfold vp_in; decide) rfl (by show va_rf (if _ < _ then _ else _) = _; rw [if_pos (show 0 < 3 by decide)]; rfl) ?_
    refine r_aload rfl dX3_sayAsCut_102 rfl ?_
    obtain ⟨g95, hw96⟩ := hS82.ws (wsAt_ln hi (w := 0) (show 0 < 3 by decide))
    obtain ⟨g98, hw99⟩ := hS82.ws (wsAt_ln hl (w := 0) (show 0 < 3 by decide))
    refine cl_X3_75 rfl rfl dX3_sayAsCut_104 (show _ ∧ _ from ⟨(wsAt_ln hi (w := 0) (show 0 < 3 by decide)).2.2.1, Nat.lt_of_succ_lt (wsAt_ln hi (w := 0) (show 0 < 3 by decide)).2.2.2⟩).1 (show _ ∧ _ from ⟨(wsAt_ln hi (w := 0) (show 0 < 3 by decide)).2.2.1, Nat.lt_of_succ_lt (wsAt_ln hi (w := 0) (show 0 < 3 by decide)).2.2.2⟩).2 hw96.2.2.1 (Nat.le_of_ble_eq_true rfl) ((s_X10_meet hw96 hw99 (by omega)).sh hS82) ?_
    rintro _ h100 _ ⟨⟨rfl, -, rfl⟩, -, hS101, -⟩
    refine r_iinc (y := 1) (ls' := [some (.ref (100 + 8 * i)), some (.ref (100 + 8 * j)), some (.ref (100 + 8 * l)), some (.int o), some (.int 1), some (.ref (102 + 8 * j + 2 * 0)), some (.ref (102 + 8 * l + 2 * 0))]) rfl dX3_sayAsCut_107 rfl (by decide) (Nat.le_of_ble_eq_true rfl) rfl ?_
    refine r_goto (pc' := 3) rfl dX3_sayAsCut_110 ?_
    refine r_iload rfl dX3_sayAsCut_3 rfl ?_
    refine r_iconst (v := 3) rfl dX3_sayAsCut_5 (by decide) ?_
    refine r_icmp_ge (tgt := 113) rfl rfl dX3_sayAsCut_6 (fun c => absurd c (by decide)) (fun _ => ?_)
    refine r_aload_n rfl dX3_sayAsCut_9 rfl ?_
    obtain ⟨y103, y104, y105, y106, y107, y108, f102⟩ := hS101.ln hj
    refine r_getv 0 rfl dX3_sayAsCut_10 (show 2 ≤ 100 + 8 * j ∧ 100 + 8 * j < 434 by omega) f102 fl_X3_11 rfl ?_
    refine r_iload rfl dX3_sayAsCut_13 rfl ?_
    refine r_aald (jn := 1) (v := .ref (102 + 8 * j + 2 * 1)) rfl dX3_sayAsCut_15 (show 2 ≤ 101 + 8 * j ∧ 101 + 8 * j < 434 by omega).1 (show 2 ≤ 101 + 8 * j ∧ 101 + 8 * j < 434 by omega).2 (hS101.say hj) (by decide) (by unfold vp_in; decide) rfl (by show va_rf (if _ < _ then _ else _) = _; rw [if_pos (show 1 < 3 by decide)]; rfl) ?_
    refine r_astore (ls' := [some (.ref (100 + 8 * i)), some (.ref (100 + 8 * j)), some (.ref (100 + 8 * l)), some (.int o), some (.int 1), some (.ref (102 + 8 * j + 2 * 1)), some (.ref (102 + 8 * l + 2 * 0))]) rfl dX3_sayAsCut_16 (Nat.le_of_ble_eq_true rfl) rfl ?_
    refine r_aload_n rfl dX3_sayAsCut_18 rfl ?_
    obtain ⟨y111, y112, y113, y114, y115, y116, f110⟩ := hS101.ln hl
    refine r_getv 0 rfl dX3_sayAsCut_19 (show 2 ≤ 100 + 8 * l ∧ 100 + 8 * l < 434 by omega) f110 fl_X3_11 rfl ?_
    refine r_iload rfl dX3_sayAsCut_22 rfl ?_
    refine r_aald (jn := 1) (v := .ref (102 + 8 * l + 2 * 1)) rfl dX3_sayAsCut_24 (show 2 ≤ 101 + 8 * l ∧ 101 + 8 * l < 434 by omega).1 (show 2 ≤ 101 + 8 * l ∧ 101 + 8 * l < 434 by omega).2 (hS101.say hl) (by decide) (by unfold vp_in; decide) rfl (by show va_rf (if _ < _ then _ else _) = _; rw [if_pos (show 1 < 3 by decide)]; rfl) ?_
    refine r_astore (ls' := [some (.ref (100 + 8 * i)), some (.ref (100 + 8 * j)), some (.ref (100 + 8 * l)), some (.int o), some (.int 1), some (.ref (102 + 8 * j + 2 * 1)), some (.ref (102 + 8 * l + 2 * 1))]) rfl dX3_sayAsCut_25 (Nat.le_of_ble_eq_true rfl) rfl ?_
    refine r_iload rfl dX3_sayAsCut_27 rfl ?_
    refine r_iconst (v := 2) rfl dX3_sayAsCut_29 (by decide) ?_
    refine r_icmp_ne (tgt := 59) rfl rfl dX3_sayAsCut_30 (fun _ => ?_) (fun c => absurd c (by decide))
    refine r_aload_n rfl dX3_sayAsCut_59 rfl ?_
    obtain ⟨y119, y120, y121, y122, y123, y124, f118⟩ := hS101.ln hi
    refine r_getv 0 rfl dX3_sayAsCut_60 (show 2 ≤ 100 + 8 * i ∧ 100 + 8 * i < 434 by omega) f118 fl_X3_11 rfl ?_
    refine r_iload rfl dX3_sayAsCut_63 rfl ?_
    refine r_aald (jn := 1) (v := .ref (102 + 8 * i + 2 * 1)) rfl dX3_sayAsCut_65 (show 2 ≤ 101 + 8 * i ∧ 101 + 8 * i < 434 by omega).1 (show 2 ≤ 101 + 8 * i ∧ 101 + 8 * i < 434 by omega).2 (hS101.say hi) (by decide) (by unfold vp_in; decide) rfl (by show va_rf (if _ < _ then _ else _) = _; rw [if_pos (show 1 < 3 by decide)]; rfl) ?_
    refine r_aload rfl dX3_sayAsCut_66 rfl ?_
    obtain ⟨g127, hw128⟩ := hS101.ws (wsAt_ln hi (w := 1) (show 1 < 3 by decide))
    obtain ⟨g130, hw131⟩ := hS101.ws (wsAt_ln hj (w := 1) (show 1 < 3 by decide))
    refine cl_X3_64 rfl rfl dX3_sayAsCut_68 (show _ ∧ _ from ⟨(wsAt_ln hi (w := 1) (show 1 < 3 by decide)).2.2.1, Nat.lt_of_succ_lt (wsAt_ln hi (w := 1) (show 1 < 3 by decide)).2.2.2⟩).1 (show _ ∧ _ from ⟨(wsAt_ln hi (w := 1) (show 1 < 3 by decide)).2.2.1, Nat.lt_of_succ_lt (wsAt_ln hi (w := 1) (show 1 < 3 by decide)).2.2.2⟩).2 hw128.2.2.1 (Nat.le_of_ble_eq_true rfl) ((s_X10_become hw128 hw131 (by omega)).sh hS101) ?_
    rintro _ h132 _ ⟨⟨rfl, -, rfl⟩, -, hS133, -⟩
    refine r_iload rfl dX3_sayAsCut_71 rfl ?_
    refine r_iload_n rfl dX3_sayAsCut_73 rfl ?_
    refine cl_X3_68 rfl rfl dX3_sayAsCut_74 (Nat.le_of_ble_eq_true rfl) s_X3_joins ?_
    rintro _ h134 _ ⟨rfl, e135, rfl⟩
    replace e135 := e135.symm
    subst e135
    refine r_if_eq (tgt := 95) rfl rfl dX3_sayAsCut_77 (fun c136 => ?_) (fun c136 => ?_)
    · refine r_aload_n rfl dX3_sayAsCut_95 rfl ?_
      obtain ⟨y138, y139, y140, y141, y142, y143, f137⟩ := hS133.ln hi
      refine r_getv 0 rfl dX3_sayAsCut_96 (show 2 ≤ 100 + 8 * i ∧ 100 + 8 * i < 434 by omega) f137 fl_X3_11 rfl ?_
      refine r_iload rfl dX3_sayAsCut_99 rfl ?_
      refine r_aald (jn := 1) (v := .ref (102 + 8 * i + 2 * 1)) rfl dX3_sayAsCut_101 (show 2 ≤ 101 + 8 * i ∧ 101 + 8 * i < 434 by omega).1 (show 2 ≤ 101 + 8 * i ∧ 101 + 8 * i < 434 by omega).2 (hS133.say hi) (by decide) (by unfold vp_in; decide) rfl (by show va_rf (if _ < _ then _ else _) = _; rw [if_pos (show 1 < 3 by decide)]; rfl) ?_
      refine r_aload rfl dX3_sayAsCut_102 rfl ?_
      obtain ⟨g146, hw147⟩ := hS133.ws (wsAt_ln hi (w := 1) (show 1 < 3 by decide))
      obtain ⟨g149, hw150⟩ := hS133.ws (wsAt_ln hl (w := 1) (show 1 < 3 by decide))
      refine cl_X3_75 rfl rfl dX3_sayAsCut_104 (show _ ∧ _ from ⟨(wsAt_ln hi (w := 1) (show 1 < 3 by decide)).2.2.1, Nat.lt_of_succ_lt (wsAt_ln hi (w := 1) (show 1 < 3 by decide)).2.2.2⟩).1 (show _ ∧ _ from ⟨(wsAt_ln hi (w := 1) (show 1 < 3 by decide)).2.2.1, Nat.lt_of_succ_lt (wsAt_ln hi (w := 1) (show 1 < 3 by decide)).2.2.2⟩).2 hw147.2.2.1 (Nat.le_of_ble_eq_true rfl) ((s_X10_meet hw147 hw150 (by omega)).sh hS133) ?_
      rintro _ h151 _ ⟨⟨rfl, -, rfl⟩, -, hS152, -⟩
      refine r_iinc (y := 2) (ls' := [some (.ref (100 + 8 * i)), some (.ref (100 + 8 * j)), some (.ref (100 + 8 * l)), some (.int o), some (.int 2), some (.ref (102 + 8 * j + 2 * 1)), some (.ref (102 + 8 * l + 2 * 1))]) rfl dX3_sayAsCut_107 rfl (by decide) (Nat.le_of_ble_eq_true rfl) rfl ?_
      refine r_goto (pc' := 3) rfl dX3_sayAsCut_110 ?_
      refine r_iload rfl dX3_sayAsCut_3 rfl ?_
      refine r_iconst (v := 3) rfl dX3_sayAsCut_5 (by decide) ?_
      refine r_icmp_ge (tgt := 113) rfl rfl dX3_sayAsCut_6 (fun c => absurd c (by decide)) (fun _ => ?_)
      refine r_aload_n rfl dX3_sayAsCut_9 rfl ?_
      obtain ⟨y154, y155, y156, y157, y158, y159, f153⟩ := hS152.ln hj
      refine r_getv 0 rfl dX3_sayAsCut_10 (show 2 ≤ 100 + 8 * j ∧ 100 + 8 * j < 434 by omega) f153 fl_X3_11 rfl ?_
      refine r_iload rfl dX3_sayAsCut_13 rfl ?_
      refine r_aald (jn := 2) (v := .ref (102 + 8 * j + 2 * 2)) rfl dX3_sayAsCut_15 (show 2 ≤ 101 + 8 * j ∧ 101 + 8 * j < 434 by omega).1 (show 2 ≤ 101 + 8 * j ∧ 101 + 8 * j < 434 by omega).2 (hS152.say hj) (by decide) (by unfold vp_in; decide) rfl (by show va_rf (if _ < _ then _ else _) = _; rw [if_pos (show 2 < 3 by decide)]; rfl) ?_
      refine r_astore (ls' := [some (.ref (100 + 8 * i)), some (.ref (100 + 8 * j)), some (.ref (100 + 8 * l)), some (.int o), some (.int 2), some (.ref (102 + 8 * j + 2 * 2)), some (.ref (102 + 8 * l + 2 * 1))]) rfl dX3_sayAsCut_16 (Nat.le_of_ble_eq_true rfl) rfl ?_
      refine r_aload_n rfl dX3_sayAsCut_18 rfl ?_
      obtain ⟨y162, y163, y164, y165, y166, y167, f161⟩ := hS152.ln hl
      refine r_getv 0 rfl dX3_sayAsCut_19 (show 2 ≤ 100 + 8 * l ∧ 100 + 8 * l < 434 by omega) f161 fl_X3_11 rfl ?_
      refine r_iload rfl dX3_sayAsCut_22 rfl ?_
      refine r_aald (jn := 2) (v := .ref (102 + 8 * l + 2 * 2)) rfl dX3_sayAsCut_24 (show 2 ≤ 101 + 8 * l ∧ 101 + 8 * l < 434 by omega).1 (show 2 ≤ 101 + 8 * l ∧ 101 + 8 * l < 434 by omega).2 (hS152.say hl) (by decide) (by unfold vp_in; decide) rfl (by show va_rf (if _ < _ then _ else _) = _; rw [if_pos (show 2 < 3 by decide)]; rfl) ?_
      refine r_astore (ls' := [some (.ref (100 + 8 * i)), some (.ref (100 + 8 * j)), some (.ref (100 + 8 * l)), some (.int o), some (.int 2), some (.ref (102 + 8 * j + 2 * 2)), some (.ref (102 + 8 * l + 2 * 2))]) rfl dX3_sayAsCut_25 (Nat.le_of_ble_eq_true rfl) rfl ?_
      refine r_iload rfl dX3_sayAsCut_27 rfl ?_
      refine r_iconst (v := 2) rfl dX3_sayAsCut_29 (by decide) ?_
      refine r_icmp_ne (tgt := 59) rfl rfl dX3_sayAsCut_30 (fun c => absurd c (by decide)) (fun _ => ?_)
      refine r_iload_n rfl dX3_sayAsCut_33 rfl ?_
      refine r_iconst (v := 3) rfl dX3_sayAsCut_34 (by decide) ?_
      refine r_icmp_ne (tgt := 59) rfl rfl dX3_sayAsCut_35 (fun c169 => ?_) (fun c169 => ?_)
      · refine r_aload_n rfl dX3_sayAsCut_59 rfl ?_
        obtain ⟨y171, y172, y173, y174, y175, y176, f170⟩ := hS152.ln hi
        refine r_getv 0 rfl dX3_sayAsCut_60 (show 2 ≤ 100 + 8 * i ∧ 100 + 8 * i < 434 by omega) f170 fl_X3_11 rfl ?_
        refine r_iload rfl dX3_sayAsCut_63 rfl ?_
        refine r_aald (jn := 2) (v := .ref (102 + 8 * i + 2 * 2)) rfl dX3_sayAsCut_65 (show 2 ≤ 101 + 8 * i ∧ 101 + 8 * i < 434 by omega).1 (show 2 ≤ 101 + 8 * i ∧ 101 + 8 * i < 434 by omega).2 (hS152.say hi) (by decide) (by unfold vp_in; decide) rfl (by show va_rf (if _ < _ then _ else _) = _; rw [if_pos (show 2 < 3 by decide)]; rfl) ?_
        refine r_aload rfl dX3_sayAsCut_66 rfl ?_
        obtain ⟨g179, hw180⟩ := hS152.ws (wsAt_ln hi (w := 2) (show 2 < 3 by decide))
        obtain ⟨g182, hw183⟩ := hS152.ws (wsAt_ln hj (w := 2) (show 2 < 3 by decide))
        refine cl_X3_64 rfl rfl dX3_sayAsCut_68 (show _ ∧ _ from ⟨(wsAt_ln hi (w := 2) (show 2 < 3 by decide)).2.2.1, Nat.lt_of_succ_lt (wsAt_ln hi (w := 2) (show 2 < 3 by decide)).2.2.2⟩).1 (show _ ∧ _ from ⟨(wsAt_ln hi (w := 2) (show 2 < 3 by decide)).2.2.1, Nat.lt_of_succ_lt (wsAt_ln hi (w := 2) (show 2 < 3 by decide)).2.2.2⟩).2 hw180.2.2.1 (Nat.le_of_ble_eq_true rfl) ((s_X10_become hw180 hw183 (by omega)).sh hS152) ?_
        rintro _ h184 _ ⟨⟨rfl, -, rfl⟩, -, hS185, -⟩
        refine r_iload rfl dX3_sayAsCut_71 rfl ?_
        refine r_iload_n rfl dX3_sayAsCut_73 rfl ?_
        refine cl_X3_68 rfl rfl dX3_sayAsCut_74 (Nat.le_of_ble_eq_true rfl) s_X3_joins ?_
        rintro _ h186 _ ⟨rfl, e187, rfl⟩
        replace e187 := e187.symm
        subst e187
        refine r_if_eq (tgt := 95) rfl rfl dX3_sayAsCut_77 (fun c188 => ?_) (fun c188 => ?_)
        · refine r_aload_n rfl dX3_sayAsCut_95 rfl ?_
          obtain ⟨y190, y191, y192, y193, y194, y195, f189⟩ := hS185.ln hi
          refine r_getv 0 rfl dX3_sayAsCut_96 (show 2 ≤ 100 + 8 * i ∧ 100 + 8 * i < 434 by omega) f189 fl_X3_11 rfl ?_
          refine r_iload rfl dX3_sayAsCut_99 rfl ?_
          refine r_aald (jn := 2) (v := .ref (102 + 8 * i + 2 * 2)) rfl dX3_sayAsCut_101 (show 2 ≤ 101 + 8 * i ∧ 101 + 8 * i < 434 by omega).1 (show 2 ≤ 101 + 8 * i ∧ 101 + 8 * i < 434 by omega).2 (hS185.say hi) (by decide) (by unfold vp_in; decide) rfl (by show va_rf (if _ < _ then _ else _) = _; rw [if_pos (show 2 < 3 by decide)]; rfl) ?_
          refine r_aload rfl dX3_sayAsCut_102 rfl ?_
          obtain ⟨g198, hw199⟩ := hS185.ws (wsAt_ln hi (w := 2) (show 2 < 3 by decide))
          obtain ⟨g201, hw202⟩ := hS185.ws (wsAt_ln hl (w := 2) (show 2 < 3 by decide))
          refine cl_X3_75 rfl rfl dX3_sayAsCut_104 (show _ ∧ _ from ⟨(wsAt_ln hi (w := 2) (show 2 < 3 by decide)).2.2.1, Nat.lt_of_succ_lt (wsAt_ln hi (w := 2) (show 2 < 3 by decide)).2.2.2⟩).1 (show _ ∧ _ from ⟨(wsAt_ln hi (w := 2) (show 2 < 3 by decide)).2.2.1, Nat.lt_of_succ_lt (wsAt_ln hi (w := 2) (show 2 < 3 by decide)).2.2.2⟩).2 hw199.2.2.1 (Nat.le_of_ble_eq_true rfl) ((s_X10_meet hw199 hw202 (by omega)).sh hS185) ?_
          rintro _ h203 _ ⟨⟨rfl, -, rfl⟩, -, hS204, -⟩
          refine r_iinc (y := 3) (ls' := [some (.ref (100 + 8 * i)), some (.ref (100 + 8 * j)), some (.ref (100 + 8 * l)), some (.int o), some (.int 3), some (.ref (102 + 8 * j + 2 * 2)), some (.ref (102 + 8 * l + 2 * 2))]) rfl dX3_sayAsCut_107 rfl (by decide) (Nat.le_of_ble_eq_true rfl) rfl ?_
          refine r_goto (pc' := 3) rfl dX3_sayAsCut_110 ?_
          refine r_iload rfl dX3_sayAsCut_3 rfl ?_
          refine r_iconst (v := 3) rfl dX3_sayAsCut_5 (by decide) ?_
          refine r_icmp_ge (tgt := 113) rfl rfl dX3_sayAsCut_6 (fun _ => ?_) (fun c => absurd c (by decide))
          exact r_ret dX3_sayAsCut_113 (rt_v rfl) rfl
        · refine r_aload_n rfl dX3_sayAsCut_80 rfl ?_
          obtain ⟨y206, y207, y208, y209, y210, y211, f205⟩ := hS185.ln hi
          refine r_getv 0 rfl dX3_sayAsCut_81 (show 2 ≤ 100 + 8 * i ∧ 100 + 8 * i < 434 by omega) f205 fl_X3_11 rfl ?_
          refine r_iload rfl dX3_sayAsCut_84 rfl ?_
          refine r_aald (jn := 2) (v := .ref (102 + 8 * i + 2 * 2)) rfl dX3_sayAsCut_86 (show 2 ≤ 101 + 8 * i ∧ 101 + 8 * i < 434 by omega).1 (show 2 ≤ 101 + 8 * i ∧ 101 + 8 * i < 434 by omega).2 (hS185.say hi) (by decide) (by unfold vp_in; decide) rfl (by show va_rf (if _ < _ then _ else _) = _; rw [if_pos (show 2 < 3 by decide)]; rfl) ?_
          refine r_aload rfl dX3_sayAsCut_87 rfl ?_
          obtain ⟨g214, hw215⟩ := hS185.ws (wsAt_ln hi (w := 2) (show 2 < 3 by decide))
          obtain ⟨g217, hw218⟩ := hS185.ws (wsAt_ln hl (w := 2) (show 2 < 3 by decide))
          refine cl_X3_72 rfl rfl dX3_sayAsCut_89 (show _ ∧ _ from ⟨(wsAt_ln hi (w := 2) (show 2 < 3 by decide)).2.2.1, Nat.lt_of_succ_lt (wsAt_ln hi (w := 2) (show 2 < 3 by decide)).2.2.2⟩).1 (show _ ∧ _ from ⟨(wsAt_ln hi (w := 2) (show 2 < 3 by decide)).2.2.1, Nat.lt_of_succ_lt (wsAt_ln hi (w := 2) (show 2 < 3 by decide)).2.2.2⟩).2 hw215.2.2.1 (Nat.le_of_ble_eq_true rfl) ((s_X10_join hw215 hw218 (by omega)).sh hS185) ?_
          rintro _ h219 _ ⟨⟨rfl, -, rfl⟩, -, hS220, -⟩
          refine r_goto (pc' := 107) rfl dX3_sayAsCut_92 ?_
          refine r_iinc (y := 3) (ls' := [some (.ref (100 + 8 * i)), some (.ref (100 + 8 * j)), some (.ref (100 + 8 * l)), some (.int o), some (.int 3), some (.ref (102 + 8 * j + 2 * 2)), some (.ref (102 + 8 * l + 2 * 2))]) rfl dX3_sayAsCut_107 rfl (by decide) (Nat.le_of_ble_eq_true rfl) rfl ?_
          refine r_goto (pc' := 3) rfl dX3_sayAsCut_110 ?_
          refine r_iload rfl dX3_sayAsCut_3 rfl ?_
          refine r_iconst (v := 3) rfl dX3_sayAsCut_5 (by decide) ?_
          refine r_icmp_ge (tgt := 113) rfl rfl dX3_sayAsCut_6 (fun _ => ?_) (fun c => absurd c (by decide))
          exact r_ret dX3_sayAsCut_113 (rt_v rfl) rfl
      · refine r_aload_n rfl dX3_sayAsCut_38 rfl ?_
        obtain ⟨y222, y223, y224, y225, y226, y227, f221⟩ := hS152.ln hi
        refine r_getv 0 rfl dX3_sayAsCut_39 (show 2 ≤ 100 + 8 * i ∧ 100 + 8 * i < 434 by omega) f221 fl_X3_11 rfl ?_
        refine r_iload rfl dX3_sayAsCut_42 rfl ?_
        refine r_aald (jn := 2) (v := .ref (102 + 8 * i + 2 * 2)) rfl dX3_sayAsCut_44 (show 2 ≤ 101 + 8 * i ∧ 101 + 8 * i < 434 by omega).1 (show 2 ≤ 101 + 8 * i ∧ 101 + 8 * i < 434 by omega).2 (hS152.say hi) (by decide) (by unfold vp_in; decide) rfl (by show va_rf (if _ < _ then _ else _) = _; rw [if_pos (show 2 < 3 by decide)]; rfl) ?_
        refine r_aload_n rfl dX3_sayAsCut_45 rfl ?_
        refine r_getv 6 rfl dX3_sayAsCut_46 (show 2 ≤ 100 + 8 * i ∧ 100 + 8 * i < 434 by omega) f221 fl_X3_24 rfl ?_
        refine r_aload rfl dX3_sayAsCut_49 rfl ?_
        refine r_aload rfl dX3_sayAsCut_51 rfl ?_
        obtain ⟨g230, hw231⟩ := hS152.ws (wsAt_ln hi (w := 2) (show 2 < 3 by decide))
        obtain ⟨g233, hw234⟩ := hS152.ws (wsAt_ln hl (w := 2) (show 2 < 3 by decide))
        obtain ⟨g236, hw237⟩ := hS152.ws (wsAt_ln hj (w := 2) (show 2 < 3 by decide))
        refine cl_X3_60 rfl rfl dX3_sayAsCut_53 (show _ ∧ _ from ⟨(wsAt_ln hi (w := 2) (show 2 < 3 by decide)).2.2.1, Nat.lt_of_succ_lt (wsAt_ln hi (w := 2) (show 2 < 3 by decide)).2.2.2⟩).1 (show _ ∧ _ from ⟨(wsAt_ln hi (w := 2) (show 2 < 3 by decide)).2.2.1, Nat.lt_of_succ_lt (wsAt_ln hi (w := 2) (show 2 < 3 by decide)).2.2.2⟩).2 hw231.2.2.1 (Nat.le_of_ble_eq_true rfl) ((s_X10_choose hw231 hw234 hw237 (by omega) (by omega)).sh hS152) ?_
        rintro _ h238 _ ⟨⟨rfl, -, rfl⟩, -, hS239, -⟩
        refine r_goto (pc' := 107) rfl dX3_sayAsCut_56 ?_
        refine r_iinc (y := 3) (ls' := [some (.ref (100 + 8 * i)), some (.ref (100 + 8 * j)), some (.ref (100 + 8 * l)), some (.int o), some (.int 3), some (.ref (102 + 8 * j + 2 * 2)), some (.ref (102 + 8 * l + 2 * 2))]) rfl dX3_sayAsCut_107 rfl (by decide) (Nat.le_of_ble_eq_true rfl) rfl ?_
        refine r_goto (pc' := 3) rfl dX3_sayAsCut_110 ?_
        refine r_iload rfl dX3_sayAsCut_3 rfl ?_
        refine r_iconst (v := 3) rfl dX3_sayAsCut_5 (by decide) ?_
        refine r_icmp_ge (tgt := 113) rfl rfl dX3_sayAsCut_6 (fun _ => ?_) (fun c => absurd c (by decide))
        exact r_ret dX3_sayAsCut_113 (rt_v rfl) rfl
    · refine r_aload_n rfl dX3_sayAsCut_80 rfl ?_
      obtain ⟨y241, y242, y243, y244, y245, y246, f240⟩ := hS133.ln hi
      refine r_getv 0 rfl dX3_sayAsCut_81 (show 2 ≤ 100 + 8 * i ∧ 100 + 8 * i < 434 by omega) f240 fl_X3_11 rfl ?_
      refine r_iload rfl dX3_sayAsCut_84 rfl ?_
      refine r_aald (jn := 1) (v := .ref (102 + 8 * i + 2 * 1)) rfl dX3_sayAsCut_86 (show 2 ≤ 101 + 8 * i ∧ 101 + 8 * i < 434 by omega).1 (show 2 ≤ 101 + 8 * i ∧ 101 + 8 * i < 434 by omega).2 (hS133.say hi) (by decide) (by unfold vp_in; decide) rfl (by show va_rf (if _ < _ then _ else _) = _; rw [if_pos (show 1 < 3 by decide)]; rfl) ?_
      refine r_aload rfl dX3_sayAsCut_87 rfl ?_
      obtain ⟨g249, hw250⟩ := hS133.ws (wsAt_ln hi (w := 1) (show 1 < 3 by decide))
      obtain ⟨g252, hw253⟩ := hS133.ws (wsAt_ln hl (w := 1) (show 1 < 3 by decide))
      refine cl_X3_72 rfl rfl dX3_sayAsCut_89 (show _ ∧ _ from ⟨(wsAt_ln hi (w := 1) (show 1 < 3 by decide)).2.2.1, Nat.lt_of_succ_lt (wsAt_ln hi (w := 1) (show 1 < 3 by decide)).2.2.2⟩).1 (show _ ∧ _ from ⟨(wsAt_ln hi (w := 1) (show 1 < 3 by decide)).2.2.1, Nat.lt_of_succ_lt (wsAt_ln hi (w := 1) (show 1 < 3 by decide)).2.2.2⟩).2 hw250.2.2.1 (Nat.le_of_ble_eq_true rfl) ((s_X10_join hw250 hw253 (by omega)).sh hS133) ?_
      rintro _ h254 _ ⟨⟨rfl, -, rfl⟩, -, hS255, -⟩
      refine r_goto (pc' := 107) rfl dX3_sayAsCut_92 ?_
      refine r_iinc (y := 2) (ls' := [some (.ref (100 + 8 * i)), some (.ref (100 + 8 * j)), some (.ref (100 + 8 * l)), some (.int o), some (.int 2), some (.ref (102 + 8 * j + 2 * 1)), some (.ref (102 + 8 * l + 2 * 1))]) rfl dX3_sayAsCut_107 rfl (by decide) (Nat.le_of_ble_eq_true rfl) rfl ?_
      refine r_goto (pc' := 3) rfl dX3_sayAsCut_110 ?_
      refine r_iload rfl dX3_sayAsCut_3 rfl ?_
      refine r_iconst (v := 3) rfl dX3_sayAsCut_5 (by decide) ?_
      refine r_icmp_ge (tgt := 113) rfl rfl dX3_sayAsCut_6 (fun c => absurd c (by decide)) (fun _ => ?_)
      refine r_aload_n rfl dX3_sayAsCut_9 rfl ?_
      obtain ⟨y257, y258, y259, y260, y261, y262, f256⟩ := hS255.ln hj
      refine r_getv 0 rfl dX3_sayAsCut_10 (show 2 ≤ 100 + 8 * j ∧ 100 + 8 * j < 434 by omega) f256 fl_X3_11 rfl ?_
      refine r_iload rfl dX3_sayAsCut_13 rfl ?_
      refine r_aald (jn := 2) (v := .ref (102 + 8 * j + 2 * 2)) rfl dX3_sayAsCut_15 (show 2 ≤ 101 + 8 * j ∧ 101 + 8 * j < 434 by omega).1 (show 2 ≤ 101 + 8 * j ∧ 101 + 8 * j < 434 by omega).2 (hS255.say hj) (by decide) (by unfold vp_in; decide) rfl (by show va_rf (if _ < _ then _ else _) = _; rw [if_pos (show 2 < 3 by decide)]; rfl) ?_
      refine r_astore (ls' := [some (.ref (100 + 8 * i)), some (.ref (100 + 8 * j)), some (.ref (100 + 8 * l)), some (.int o), some (.int 2), some (.ref (102 + 8 * j + 2 * 2)), some (.ref (102 + 8 * l + 2 * 1))]) rfl dX3_sayAsCut_16 (Nat.le_of_ble_eq_true rfl) rfl ?_
      refine r_aload_n rfl dX3_sayAsCut_18 rfl ?_
      obtain ⟨y265, y266, y267, y268, y269, y270, f264⟩ := hS255.ln hl
      refine r_getv 0 rfl dX3_sayAsCut_19 (show 2 ≤ 100 + 8 * l ∧ 100 + 8 * l < 434 by omega) f264 fl_X3_11 rfl ?_
      refine r_iload rfl dX3_sayAsCut_22 rfl ?_
      refine r_aald (jn := 2) (v := .ref (102 + 8 * l + 2 * 2)) rfl dX3_sayAsCut_24 (show 2 ≤ 101 + 8 * l ∧ 101 + 8 * l < 434 by omega).1 (show 2 ≤ 101 + 8 * l ∧ 101 + 8 * l < 434 by omega).2 (hS255.say hl) (by decide) (by unfold vp_in; decide) rfl (by show va_rf (if _ < _ then _ else _) = _; rw [if_pos (show 2 < 3 by decide)]; rfl) ?_
      refine r_astore (ls' := [some (.ref (100 + 8 * i)), some (.ref (100 + 8 * j)), some (.ref (100 + 8 * l)), some (.int o), some (.int 2), some (.ref (102 + 8 * j + 2 * 2)), some (.ref (102 + 8 * l + 2 * 2))]) rfl dX3_sayAsCut_25 (Nat.le_of_ble_eq_true rfl) rfl ?_
      refine r_iload rfl dX3_sayAsCut_27 rfl ?_
      refine r_iconst (v := 2) rfl dX3_sayAsCut_29 (by decide) ?_
      refine r_icmp_ne (tgt := 59) rfl rfl dX3_sayAsCut_30 (fun c => absurd c (by decide)) (fun _ => ?_)
      refine r_iload_n rfl dX3_sayAsCut_33 rfl ?_
      refine r_iconst (v := 3) rfl dX3_sayAsCut_34 (by decide) ?_
      refine r_icmp_ne (tgt := 59) rfl rfl dX3_sayAsCut_35 (fun c272 => ?_) (fun c272 => ?_)
      · refine r_aload_n rfl dX3_sayAsCut_59 rfl ?_
        obtain ⟨y274, y275, y276, y277, y278, y279, f273⟩ := hS255.ln hi
        refine r_getv 0 rfl dX3_sayAsCut_60 (show 2 ≤ 100 + 8 * i ∧ 100 + 8 * i < 434 by omega) f273 fl_X3_11 rfl ?_
        refine r_iload rfl dX3_sayAsCut_63 rfl ?_
        refine r_aald (jn := 2) (v := .ref (102 + 8 * i + 2 * 2)) rfl dX3_sayAsCut_65 (show 2 ≤ 101 + 8 * i ∧ 101 + 8 * i < 434 by omega).1 (show 2 ≤ 101 + 8 * i ∧ 101 + 8 * i < 434 by omega).2 (hS255.say hi) (by decide) (by unfold vp_in; decide) rfl (by show va_rf (if _ < _ then _ else _) = _; rw [if_pos (show 2 < 3 by decide)]; rfl) ?_
        refine r_aload rfl dX3_sayAsCut_66 rfl ?_
        obtain ⟨g282, hw283⟩ := hS255.ws (wsAt_ln hi (w := 2) (show 2 < 3 by decide))
        obtain ⟨g285, hw286⟩ := hS255.ws (wsAt_ln hj (w := 2) (show 2 < 3 by decide))
        refine cl_X3_64 rfl rfl dX3_sayAsCut_68 (show _ ∧ _ from ⟨(wsAt_ln hi (w := 2) (show 2 < 3 by decide)).2.2.1, Nat.lt_of_succ_lt (wsAt_ln hi (w := 2) (show 2 < 3 by decide)).2.2.2⟩).1 (show _ ∧ _ from ⟨(wsAt_ln hi (w := 2) (show 2 < 3 by decide)).2.2.1, Nat.lt_of_succ_lt (wsAt_ln hi (w := 2) (show 2 < 3 by decide)).2.2.2⟩).2 hw283.2.2.1 (Nat.le_of_ble_eq_true rfl) ((s_X10_become hw283 hw286 (by omega)).sh hS255) ?_
        rintro _ h287 _ ⟨⟨rfl, -, rfl⟩, -, hS288, -⟩
        refine r_iload rfl dX3_sayAsCut_71 rfl ?_
        refine r_iload_n rfl dX3_sayAsCut_73 rfl ?_
        refine cl_X3_68 rfl rfl dX3_sayAsCut_74 (Nat.le_of_ble_eq_true rfl) s_X3_joins ?_
        rintro _ h289 _ ⟨rfl, e290, rfl⟩
        replace e290 := e290.symm
        subst e290
        refine r_if_eq (tgt := 95) rfl rfl dX3_sayAsCut_77 (fun c291 => ?_) (fun c291 => ?_)
        · refine r_aload_n rfl dX3_sayAsCut_95 rfl ?_
          obtain ⟨y293, y294, y295, y296, y297, y298, f292⟩ := hS288.ln hi
          refine r_getv 0 rfl dX3_sayAsCut_96 (show 2 ≤ 100 + 8 * i ∧ 100 + 8 * i < 434 by omega) f292 fl_X3_11 rfl ?_
          refine r_iload rfl dX3_sayAsCut_99 rfl ?_
          refine r_aald (jn := 2) (v := .ref (102 + 8 * i + 2 * 2)) rfl dX3_sayAsCut_101 (show 2 ≤ 101 + 8 * i ∧ 101 + 8 * i < 434 by omega).1 (show 2 ≤ 101 + 8 * i ∧ 101 + 8 * i < 434 by omega).2 (hS288.say hi) (by decide) (by unfold vp_in; decide) rfl (by show va_rf (if _ < _ then _ else _) = _; rw [if_pos (show 2 < 3 by decide)]; rfl) ?_
          refine r_aload rfl dX3_sayAsCut_102 rfl ?_
          obtain ⟨g301, hw302⟩ := hS288.ws (wsAt_ln hi (w := 2) (show 2 < 3 by decide))
          obtain ⟨g304, hw305⟩ := hS288.ws (wsAt_ln hl (w := 2) (show 2 < 3 by decide))
          refine cl_X3_75 rfl rfl dX3_sayAsCut_104 (show _ ∧ _ from ⟨(wsAt_ln hi (w := 2) (show 2 < 3 by decide)).2.2.1, Nat.lt_of_succ_lt (wsAt_ln hi (w := 2) (show 2 < 3 by decide)).2.2.2⟩).1 (show _ ∧ _ from ⟨(wsAt_ln hi (w := 2) (show 2 < 3 by decide)).2.2.1, Nat.lt_of_succ_lt (wsAt_ln hi (w := 2) (show 2 < 3 by decide)).2.2.2⟩).2 hw302.2.2.1 (Nat.le_of_ble_eq_true rfl) ((s_X10_meet hw302 hw305 (by omega)).sh hS288) ?_
          rintro _ h306 _ ⟨⟨rfl, -, rfl⟩, -, hS307, -⟩
          refine r_iinc (y := 3) (ls' := [some (.ref (100 + 8 * i)), some (.ref (100 + 8 * j)), some (.ref (100 + 8 * l)), some (.int o), some (.int 3), some (.ref (102 + 8 * j + 2 * 2)), some (.ref (102 + 8 * l + 2 * 2))]) rfl dX3_sayAsCut_107 rfl (by decide) (Nat.le_of_ble_eq_true rfl) rfl ?_
          refine r_goto (pc' := 3) rfl dX3_sayAsCut_110 ?_
          refine r_iload rfl dX3_sayAsCut_3 rfl ?_
          refine r_iconst (v := 3) rfl dX3_sayAsCut_5 (by decide) ?_
          refine r_icmp_ge (tgt := 113) rfl rfl dX3_sayAsCut_6 (fun _ => ?_) (fun c => absurd c (by decide))
          exact r_ret dX3_sayAsCut_113 (rt_v rfl) rfl
        · refine r_aload_n rfl dX3_sayAsCut_80 rfl ?_
          obtain ⟨y309, y310, y311, y312, y313, y314, f308⟩ := hS288.ln hi
          refine r_getv 0 rfl dX3_sayAsCut_81 (show 2 ≤ 100 + 8 * i ∧ 100 + 8 * i < 434 by omega) f308 fl_X3_11 rfl ?_
          refine r_iload rfl dX3_sayAsCut_84 rfl ?_
          refine r_aald (jn := 2) (v := .ref (102 + 8 * i + 2 * 2)) rfl dX3_sayAsCut_86 (show 2 ≤ 101 + 8 * i ∧ 101 + 8 * i < 434 by omega).1 (show 2 ≤ 101 + 8 * i ∧ 101 + 8 * i < 434 by omega).2 (hS288.say hi) (by decide) (by unfold vp_in; decide) rfl (by show va_rf (if _ < _ then _ else _) = _; rw [if_pos (show 2 < 3 by decide)]; rfl) ?_
          refine r_aload rfl dX3_sayAsCut_87 rfl ?_
          obtain ⟨g317, hw318⟩ := hS288.ws (wsAt_ln hi (w := 2) (show 2 < 3 by decide))
          obtain ⟨g320, hw321⟩ := hS288.ws (wsAt_ln hl (w := 2) (show 2 < 3 by decide))
          refine cl_X3_72 rfl rfl dX3_sayAsCut_89 (show _ ∧ _ from ⟨(wsAt_ln hi (w := 2) (show 2 < 3 by decide)).2.2.1, Nat.lt_of_succ_lt (wsAt_ln hi (w := 2) (show 2 < 3 by decide)).2.2.2⟩).1 (show _ ∧ _ from ⟨(wsAt_ln hi (w := 2) (show 2 < 3 by decide)).2.2.1, Nat.lt_of_succ_lt (wsAt_ln hi (w := 2) (show 2 < 3 by decide)).2.2.2⟩).2 hw318.2.2.1 (Nat.le_of_ble_eq_true rfl) ((s_X10_join hw318 hw321 (by omega)).sh hS288) ?_
          rintro _ h322 _ ⟨⟨rfl, -, rfl⟩, -, hS323, -⟩
          refine r_goto (pc' := 107) rfl dX3_sayAsCut_92 ?_
          refine r_iinc (y := 3) (ls' := [some (.ref (100 + 8 * i)), some (.ref (100 + 8 * j)), some (.ref (100 + 8 * l)), some (.int o), some (.int 3), some (.ref (102 + 8 * j + 2 * 2)), some (.ref (102 + 8 * l + 2 * 2))]) rfl dX3_sayAsCut_107 rfl (by decide) (Nat.le_of_ble_eq_true rfl) rfl ?_
          refine r_goto (pc' := 3) rfl dX3_sayAsCut_110 ?_
          refine r_iload rfl dX3_sayAsCut_3 rfl ?_
          refine r_iconst (v := 3) rfl dX3_sayAsCut_5 (by decide) ?_
          refine r_icmp_ge (tgt := 113) rfl rfl dX3_sayAsCut_6 (fun _ => ?_) (fun c => absurd c (by decide))
          exact r_ret dX3_sayAsCut_113 (rt_v rfl) rfl
      · refine r_aload_n rfl dX3_sayAsCut_38 rfl ?_
        obtain ⟨y325, y326, y327, y328, y329, y330, f324⟩ := hS255.ln hi
        refine r_getv 0 rfl dX3_sayAsCut_39 (show 2 ≤ 100 + 8 * i ∧ 100 + 8 * i < 434 by omega) f324 fl_X3_11 rfl ?_
        refine r_iload rfl dX3_sayAsCut_42 rfl ?_
        refine r_aald (jn := 2) (v := .ref (102 + 8 * i + 2 * 2)) rfl dX3_sayAsCut_44 (show 2 ≤ 101 + 8 * i ∧ 101 + 8 * i < 434 by omega).1 (show 2 ≤ 101 + 8 * i ∧ 101 + 8 * i < 434 by omega).2 (hS255.say hi) (by decide) (by unfold vp_in; decide) rfl (by show va_rf (if _ < _ then _ else _) = _; rw [if_pos (show 2 < 3 by decide)]; rfl) ?_
        refine r_aload_n rfl dX3_sayAsCut_45 rfl ?_
        refine r_getv 6 rfl dX3_sayAsCut_46 (show 2 ≤ 100 + 8 * i ∧ 100 + 8 * i < 434 by omega) f324 fl_X3_24 rfl ?_
        refine r_aload rfl dX3_sayAsCut_49 rfl ?_
        refine r_aload rfl dX3_sayAsCut_51 rfl ?_
        obtain ⟨g333, hw334⟩ := hS255.ws (wsAt_ln hi (w := 2) (show 2 < 3 by decide))
        obtain ⟨g336, hw337⟩ := hS255.ws (wsAt_ln hl (w := 2) (show 2 < 3 by decide))
        obtain ⟨g339, hw340⟩ := hS255.ws (wsAt_ln hj (w := 2) (show 2 < 3 by decide))
        refine cl_X3_60 rfl rfl dX3_sayAsCut_53 (show _ ∧ _ from ⟨(wsAt_ln hi (w := 2) (show 2 < 3 by decide)).2.2.1, Nat.lt_of_succ_lt (wsAt_ln hi (w := 2) (show 2 < 3 by decide)).2.2.2⟩).1 (show _ ∧ _ from ⟨(wsAt_ln hi (w := 2) (show 2 < 3 by decide)).2.2.1, Nat.lt_of_succ_lt (wsAt_ln hi (w := 2) (show 2 < 3 by decide)).2.2.2⟩).2 hw334.2.2.1 (Nat.le_of_ble_eq_true rfl) ((s_X10_choose hw334 hw337 hw340 (by omega) (by omega)).sh hS255) ?_
        rintro _ h341 _ ⟨⟨rfl, -, rfl⟩, -, hS342, -⟩
        refine r_goto (pc' := 107) rfl dX3_sayAsCut_56 ?_
        refine r_iinc (y := 3) (ls' := [some (.ref (100 + 8 * i)), some (.ref (100 + 8 * j)), some (.ref (100 + 8 * l)), some (.int o), some (.int 3), some (.ref (102 + 8 * j + 2 * 2)), some (.ref (102 + 8 * l + 2 * 2))]) rfl dX3_sayAsCut_107 rfl (by decide) (Nat.le_of_ble_eq_true rfl) rfl ?_
        refine r_goto (pc' := 3) rfl dX3_sayAsCut_110 ?_
        refine r_iload rfl dX3_sayAsCut_3 rfl ?_
        refine r_iconst (v := 3) rfl dX3_sayAsCut_5 (by decide) ?_
        refine r_icmp_ge (tgt := 113) rfl rfl dX3_sayAsCut_6 (fun _ => ?_) (fun c => absurd c (by decide))
        exact r_ret dX3_sayAsCut_113 (rt_v rfl) rfl
  · refine r_aload_n rfl dX3_sayAsCut_80 rfl ?_
    obtain ⟨y344, y345, y346, y347, y348, y349, f343⟩ := hS82.ln hi
    refine r_getv 0 rfl dX3_sayAsCut_81 (show 2 ≤ 100 + 8 * i ∧ 100 + 8 * i < 434 by omega) f343 fl_X3_11 rfl ?_
    refine r_iload rfl dX3_sayAsCut_84 rfl ?_
    refine r_aald (jn := 0) (v := .ref (102 + 8 * i + 2 * 0)) rfl dX3_sayAsCut_86 (show 2 ≤ 101 + 8 * i ∧ 101 + 8 * i < 434 by omega).1 (show 2 ≤ 101 + 8 * i ∧ 101 + 8 * i < 434 by omega).2 (hS82.say hi) (by decide) (by unfold vp_in; decide) rfl (by show va_rf (if _ < _ then _ else _) = _; rw [if_pos (show 0 < 3 by decide)]; rfl) ?_
    refine r_aload rfl dX3_sayAsCut_87 rfl ?_
    obtain ⟨g352, hw353⟩ := hS82.ws (wsAt_ln hi (w := 0) (show 0 < 3 by decide))
    obtain ⟨g355, hw356⟩ := hS82.ws (wsAt_ln hl (w := 0) (show 0 < 3 by decide))
    refine cl_X3_72 rfl rfl dX3_sayAsCut_89 (show _ ∧ _ from ⟨(wsAt_ln hi (w := 0) (show 0 < 3 by decide)).2.2.1, Nat.lt_of_succ_lt (wsAt_ln hi (w := 0) (show 0 < 3 by decide)).2.2.2⟩).1 (show _ ∧ _ from ⟨(wsAt_ln hi (w := 0) (show 0 < 3 by decide)).2.2.1, Nat.lt_of_succ_lt (wsAt_ln hi (w := 0) (show 0 < 3 by decide)).2.2.2⟩).2 hw353.2.2.1 (Nat.le_of_ble_eq_true rfl) ((s_X10_join hw353 hw356 (by omega)).sh hS82) ?_
    rintro _ h357 _ ⟨⟨rfl, -, rfl⟩, -, hS358, -⟩
    refine r_goto (pc' := 107) rfl dX3_sayAsCut_92 ?_
    refine r_iinc (y := 1) (ls' := [some (.ref (100 + 8 * i)), some (.ref (100 + 8 * j)), some (.ref (100 + 8 * l)), some (.int o), some (.int 1), some (.ref (102 + 8 * j + 2 * 0)), some (.ref (102 + 8 * l + 2 * 0))]) rfl dX3_sayAsCut_107 rfl (by decide) (Nat.le_of_ble_eq_true rfl) rfl ?_
    refine r_goto (pc' := 3) rfl dX3_sayAsCut_110 ?_
    refine r_iload rfl dX3_sayAsCut_3 rfl ?_
    refine r_iconst (v := 3) rfl dX3_sayAsCut_5 (by decide) ?_
    refine r_icmp_ge (tgt := 113) rfl rfl dX3_sayAsCut_6 (fun c => absurd c (by decide)) (fun _ => ?_)
    refine r_aload_n rfl dX3_sayAsCut_9 rfl ?_
    obtain ⟨y360, y361, y362, y363, y364, y365, f359⟩ := hS358.ln hj
    refine r_getv 0 rfl dX3_sayAsCut_10 (show 2 ≤ 100 + 8 * j ∧ 100 + 8 * j < 434 by omega) f359 fl_X3_11 rfl ?_
    refine r_iload rfl dX3_sayAsCut_13 rfl ?_
    refine r_aald (jn := 1) (v := .ref (102 + 8 * j + 2 * 1)) rfl dX3_sayAsCut_15 (show 2 ≤ 101 + 8 * j ∧ 101 + 8 * j < 434 by omega).1 (show 2 ≤ 101 + 8 * j ∧ 101 + 8 * j < 434 by omega).2 (hS358.say hj) (by decide) (by unfold vp_in; decide) rfl (by show va_rf (if _ < _ then _ else _) = _; rw [if_pos (show 1 < 3 by decide)]; rfl) ?_
    refine r_astore (ls' := [some (.ref (100 + 8 * i)), some (.ref (100 + 8 * j)), some (.ref (100 + 8 * l)), some (.int o), some (.int 1), some (.ref (102 + 8 * j + 2 * 1)), some (.ref (102 + 8 * l + 2 * 0))]) rfl dX3_sayAsCut_16 (Nat.le_of_ble_eq_true rfl) rfl ?_
    refine r_aload_n rfl dX3_sayAsCut_18 rfl ?_
    obtain ⟨y368, y369, y370, y371, y372, y373, f367⟩ := hS358.ln hl
    refine r_getv 0 rfl dX3_sayAsCut_19 (show 2 ≤ 100 + 8 * l ∧ 100 + 8 * l < 434 by omega) f367 fl_X3_11 rfl ?_
    refine r_iload rfl dX3_sayAsCut_22 rfl ?_
    refine r_aald (jn := 1) (v := .ref (102 + 8 * l + 2 * 1)) rfl dX3_sayAsCut_24 (show 2 ≤ 101 + 8 * l ∧ 101 + 8 * l < 434 by omega).1 (show 2 ≤ 101 + 8 * l ∧ 101 + 8 * l < 434 by omega).2 (hS358.say hl) (by decide) (by unfold vp_in; decide) rfl (by show va_rf (if _ < _ then _ else _) = _; rw [if_pos (show 1 < 3 by decide)]; rfl) ?_
    refine r_astore (ls' := [some (.ref (100 + 8 * i)), some (.ref (100 + 8 * j)), some (.ref (100 + 8 * l)), some (.int o), some (.int 1), some (.ref (102 + 8 * j + 2 * 1)), some (.ref (102 + 8 * l + 2 * 1))]) rfl dX3_sayAsCut_25 (Nat.le_of_ble_eq_true rfl) rfl ?_
    refine r_iload rfl dX3_sayAsCut_27 rfl ?_
    refine r_iconst (v := 2) rfl dX3_sayAsCut_29 (by decide) ?_
    refine r_icmp_ne (tgt := 59) rfl rfl dX3_sayAsCut_30 (fun _ => ?_) (fun c => absurd c (by decide))
    refine r_aload_n rfl dX3_sayAsCut_59 rfl ?_
    obtain ⟨y376, y377, y378, y379, y380, y381, f375⟩ := hS358.ln hi
    refine r_getv 0 rfl dX3_sayAsCut_60 (show 2 ≤ 100 + 8 * i ∧ 100 + 8 * i < 434 by omega) f375 fl_X3_11 rfl ?_
    refine r_iload rfl dX3_sayAsCut_63 rfl ?_
    refine r_aald (jn := 1) (v := .ref (102 + 8 * i + 2 * 1)) rfl dX3_sayAsCut_65 (show 2 ≤ 101 + 8 * i ∧ 101 + 8 * i < 434 by omega).1 (show 2 ≤ 101 + 8 * i ∧ 101 + 8 * i < 434 by omega).2 (hS358.say hi) (by decide) (by unfold vp_in; decide) rfl (by show va_rf (if _ < _ then _ else _) = _; rw [if_pos (show 1 < 3 by decide)]; rfl) ?_
    refine r_aload rfl dX3_sayAsCut_66 rfl ?_
    obtain ⟨g384, hw385⟩ := hS358.ws (wsAt_ln hi (w := 1) (show 1 < 3 by decide))
    obtain ⟨g387, hw388⟩ := hS358.ws (wsAt_ln hj (w := 1) (show 1 < 3 by decide))
    refine cl_X3_64 rfl rfl dX3_sayAsCut_68 (show _ ∧ _ from ⟨(wsAt_ln hi (w := 1) (show 1 < 3 by decide)).2.2.1, Nat.lt_of_succ_lt (wsAt_ln hi (w := 1) (show 1 < 3 by decide)).2.2.2⟩).1 (show _ ∧ _ from ⟨(wsAt_ln hi (w := 1) (show 1 < 3 by decide)).2.2.1, Nat.lt_of_succ_lt (wsAt_ln hi (w := 1) (show 1 < 3 by decide)).2.2.2⟩).2 hw385.2.2.1 (Nat.le_of_ble_eq_true rfl) ((s_X10_become hw385 hw388 (by omega)).sh hS358) ?_
    rintro _ h389 _ ⟨⟨rfl, -, rfl⟩, -, hS390, -⟩
    refine r_iload rfl dX3_sayAsCut_71 rfl ?_
    refine r_iload_n rfl dX3_sayAsCut_73 rfl ?_
    refine cl_X3_68 rfl rfl dX3_sayAsCut_74 (Nat.le_of_ble_eq_true rfl) s_X3_joins ?_
    rintro _ h391 _ ⟨rfl, e392, rfl⟩
    replace e392 := e392.symm
    subst e392
    refine r_if_eq (tgt := 95) rfl rfl dX3_sayAsCut_77 (fun c393 => ?_) (fun c393 => ?_)
    · refine r_aload_n rfl dX3_sayAsCut_95 rfl ?_
      obtain ⟨y395, y396, y397, y398, y399, y400, f394⟩ := hS390.ln hi
      refine r_getv 0 rfl dX3_sayAsCut_96 (show 2 ≤ 100 + 8 * i ∧ 100 + 8 * i < 434 by omega) f394 fl_X3_11 rfl ?_
      refine r_iload rfl dX3_sayAsCut_99 rfl ?_
      refine r_aald (jn := 1) (v := .ref (102 + 8 * i + 2 * 1)) rfl dX3_sayAsCut_101 (show 2 ≤ 101 + 8 * i ∧ 101 + 8 * i < 434 by omega).1 (show 2 ≤ 101 + 8 * i ∧ 101 + 8 * i < 434 by omega).2 (hS390.say hi) (by decide) (by unfold vp_in; decide) rfl (by show va_rf (if _ < _ then _ else _) = _; rw [if_pos (show 1 < 3 by decide)]; rfl) ?_
      refine r_aload rfl dX3_sayAsCut_102 rfl ?_
      obtain ⟨g403, hw404⟩ := hS390.ws (wsAt_ln hi (w := 1) (show 1 < 3 by decide))
      obtain ⟨g406, hw407⟩ := hS390.ws (wsAt_ln hl (w := 1) (show 1 < 3 by decide))
      refine cl_X3_75 rfl rfl dX3_sayAsCut_104 (show _ ∧ _ from ⟨(wsAt_ln hi (w := 1) (show 1 < 3 by decide)).2.2.1, Nat.lt_of_succ_lt (wsAt_ln hi (w := 1) (show 1 < 3 by decide)).2.2.2⟩).1 (show _ ∧ _ from ⟨(wsAt_ln hi (w := 1) (show 1 < 3 by decide)).2.2.1, Nat.lt_of_succ_lt (wsAt_ln hi (w := 1) (show 1 < 3 by decide)).2.2.2⟩).2 hw404.2.2.1 (Nat.le_of_ble_eq_true rfl) ((s_X10_meet hw404 hw407 (by omega)).sh hS390) ?_
      rintro _ h408 _ ⟨⟨rfl, -, rfl⟩, -, hS409, -⟩
      refine r_iinc (y := 2) (ls' := [some (.ref (100 + 8 * i)), some (.ref (100 + 8 * j)), some (.ref (100 + 8 * l)), some (.int o), some (.int 2), some (.ref (102 + 8 * j + 2 * 1)), some (.ref (102 + 8 * l + 2 * 1))]) rfl dX3_sayAsCut_107 rfl (by decide) (Nat.le_of_ble_eq_true rfl) rfl ?_
      refine r_goto (pc' := 3) rfl dX3_sayAsCut_110 ?_
      refine r_iload rfl dX3_sayAsCut_3 rfl ?_
      refine r_iconst (v := 3) rfl dX3_sayAsCut_5 (by decide) ?_
      refine r_icmp_ge (tgt := 113) rfl rfl dX3_sayAsCut_6 (fun c => absurd c (by decide)) (fun _ => ?_)
      refine r_aload_n rfl dX3_sayAsCut_9 rfl ?_
      obtain ⟨y411, y412, y413, y414, y415, y416, f410⟩ := hS409.ln hj
      refine r_getv 0 rfl dX3_sayAsCut_10 (show 2 ≤ 100 + 8 * j ∧ 100 + 8 * j < 434 by omega) f410 fl_X3_11 rfl ?_
      refine r_iload rfl dX3_sayAsCut_13 rfl ?_
      refine r_aald (jn := 2) (v := .ref (102 + 8 * j + 2 * 2)) rfl dX3_sayAsCut_15 (show 2 ≤ 101 + 8 * j ∧ 101 + 8 * j < 434 by omega).1 (show 2 ≤ 101 + 8 * j ∧ 101 + 8 * j < 434 by omega).2 (hS409.say hj) (by decide) (by unfold vp_in; decide) rfl (by show va_rf (if _ < _ then _ else _) = _; rw [if_pos (show 2 < 3 by decide)]; rfl) ?_
      refine r_astore (ls' := [some (.ref (100 + 8 * i)), some (.ref (100 + 8 * j)), some (.ref (100 + 8 * l)), some (.int o), some (.int 2), some (.ref (102 + 8 * j + 2 * 2)), some (.ref (102 + 8 * l + 2 * 1))]) rfl dX3_sayAsCut_16 (Nat.le_of_ble_eq_true rfl) rfl ?_
      refine r_aload_n rfl dX3_sayAsCut_18 rfl ?_
      obtain ⟨y419, y420, y421, y422, y423, y424, f418⟩ := hS409.ln hl
      refine r_getv 0 rfl dX3_sayAsCut_19 (show 2 ≤ 100 + 8 * l ∧ 100 + 8 * l < 434 by omega) f418 fl_X3_11 rfl ?_
      refine r_iload rfl dX3_sayAsCut_22 rfl ?_
      refine r_aald (jn := 2) (v := .ref (102 + 8 * l + 2 * 2)) rfl dX3_sayAsCut_24 (show 2 ≤ 101 + 8 * l ∧ 101 + 8 * l < 434 by omega).1 (show 2 ≤ 101 + 8 * l ∧ 101 + 8 * l < 434 by omega).2 (hS409.say hl) (by decide) (by unfold vp_in; decide) rfl (by show va_rf (if _ < _ then _ else _) = _; rw [if_pos (show 2 < 3 by decide)]; rfl) ?_
      refine r_astore (ls' := [some (.ref (100 + 8 * i)), some (.ref (100 + 8 * j)), some (.ref (100 + 8 * l)), some (.int o), some (.int 2), some (.ref (102 + 8 * j + 2 * 2)), some (.ref (102 + 8 * l + 2 * 2))]) rfl dX3_sayAsCut_25 (Nat.le_of_ble_eq_true rfl) rfl ?_
      refine r_iload rfl dX3_sayAsCut_27 rfl ?_
      refine r_iconst (v := 2) rfl dX3_sayAsCut_29 (by decide) ?_
      refine r_icmp_ne (tgt := 59) rfl rfl dX3_sayAsCut_30 (fun c => absurd c (by decide)) (fun _ => ?_)
      refine r_iload_n rfl dX3_sayAsCut_33 rfl ?_
      refine r_iconst (v := 3) rfl dX3_sayAsCut_34 (by decide) ?_
      refine r_icmp_ne (tgt := 59) rfl rfl dX3_sayAsCut_35 (fun c426 => ?_) (fun c426 => ?_)
      · refine r_aload_n rfl dX3_sayAsCut_59 rfl ?_
        obtain ⟨y428, y429, y430, y431, y432, y433, f427⟩ := hS409.ln hi
        refine r_getv 0 rfl dX3_sayAsCut_60 (show 2 ≤ 100 + 8 * i ∧ 100 + 8 * i < 434 by omega) f427 fl_X3_11 rfl ?_
        refine r_iload rfl dX3_sayAsCut_63 rfl ?_
        refine r_aald (jn := 2) (v := .ref (102 + 8 * i + 2 * 2)) rfl dX3_sayAsCut_65 (show 2 ≤ 101 + 8 * i ∧ 101 + 8 * i < 434 by omega).1 (show 2 ≤ 101 + 8 * i ∧ 101 + 8 * i < 434 by omega).2 (hS409.say hi) (by decide) (by unfold vp_in; decide) rfl (by show va_rf (if _ < _ then _ else _) = _; rw [if_pos (show 2 < 3 by decide)]; rfl) ?_
        refine r_aload rfl dX3_sayAsCut_66 rfl ?_
        obtain ⟨g436, hw437⟩ := hS409.ws (wsAt_ln hi (w := 2) (show 2 < 3 by decide))
        obtain ⟨g439, hw440⟩ := hS409.ws (wsAt_ln hj (w := 2) (show 2 < 3 by decide))
        refine cl_X3_64 rfl rfl dX3_sayAsCut_68 (show _ ∧ _ from ⟨(wsAt_ln hi (w := 2) (show 2 < 3 by decide)).2.2.1, Nat.lt_of_succ_lt (wsAt_ln hi (w := 2) (show 2 < 3 by decide)).2.2.2⟩).1 (show _ ∧ _ from ⟨(wsAt_ln hi (w := 2) (show 2 < 3 by decide)).2.2.1, Nat.lt_of_succ_lt (wsAt_ln hi (w := 2) (show 2 < 3 by decide)).2.2.2⟩).2 hw437.2.2.1 (Nat.le_of_ble_eq_true rfl) ((s_X10_become hw437 hw440 (by omega)).sh hS409) ?_
        rintro _ h441 _ ⟨⟨rfl, -, rfl⟩, -, hS442, -⟩
        refine r_iload rfl dX3_sayAsCut_71 rfl ?_
        refine r_iload_n rfl dX3_sayAsCut_73 rfl ?_
        refine cl_X3_68 rfl rfl dX3_sayAsCut_74 (Nat.le_of_ble_eq_true rfl) s_X3_joins ?_
        rintro _ h443 _ ⟨rfl, e444, rfl⟩
        replace e444 := e444.symm
        subst e444
        refine r_if_eq (tgt := 95) rfl rfl dX3_sayAsCut_77 (fun c445 => ?_) (fun c445 => ?_)
        · refine r_aload_n rfl dX3_sayAsCut_95 rfl ?_
          obtain ⟨y447, y448, y449, y450, y451, y452, f446⟩ := hS442.ln hi
          refine r_getv 0 rfl dX3_sayAsCut_96 (show 2 ≤ 100 + 8 * i ∧ 100 + 8 * i < 434 by omega) f446 fl_X3_11 rfl ?_
          refine r_iload rfl dX3_sayAsCut_99 rfl ?_
          refine r_aald (jn := 2) (v := .ref (102 + 8 * i + 2 * 2)) rfl dX3_sayAsCut_101 (show 2 ≤ 101 + 8 * i ∧ 101 + 8 * i < 434 by omega).1 (show 2 ≤ 101 + 8 * i ∧ 101 + 8 * i < 434 by omega).2 (hS442.say hi) (by decide) (by unfold vp_in; decide) rfl (by show va_rf (if _ < _ then _ else _) = _; rw [if_pos (show 2 < 3 by decide)]; rfl) ?_
          refine r_aload rfl dX3_sayAsCut_102 rfl ?_
          obtain ⟨g455, hw456⟩ := hS442.ws (wsAt_ln hi (w := 2) (show 2 < 3 by decide))
          obtain ⟨g458, hw459⟩ := hS442.ws (wsAt_ln hl (w := 2) (show 2 < 3 by decide))
          refine cl_X3_75 rfl rfl dX3_sayAsCut_104 (show _ ∧ _ from ⟨(wsAt_ln hi (w := 2) (show 2 < 3 by decide)).2.2.1, Nat.lt_of_succ_lt (wsAt_ln hi (w := 2) (show 2 < 3 by decide)).2.2.2⟩).1 (show _ ∧ _ from ⟨(wsAt_ln hi (w := 2) (show 2 < 3 by decide)).2.2.1, Nat.lt_of_succ_lt (wsAt_ln hi (w := 2) (show 2 < 3 by decide)).2.2.2⟩).2 hw456.2.2.1 (Nat.le_of_ble_eq_true rfl) ((s_X10_meet hw456 hw459 (by omega)).sh hS442) ?_
          rintro _ h460 _ ⟨⟨rfl, -, rfl⟩, -, hS461, -⟩
          refine r_iinc (y := 3) (ls' := [some (.ref (100 + 8 * i)), some (.ref (100 + 8 * j)), some (.ref (100 + 8 * l)), some (.int o), some (.int 3), some (.ref (102 + 8 * j + 2 * 2)), some (.ref (102 + 8 * l + 2 * 2))]) rfl dX3_sayAsCut_107 rfl (by decide) (Nat.le_of_ble_eq_true rfl) rfl ?_
          refine r_goto (pc' := 3) rfl dX3_sayAsCut_110 ?_
          refine r_iload rfl dX3_sayAsCut_3 rfl ?_
          refine r_iconst (v := 3) rfl dX3_sayAsCut_5 (by decide) ?_
          refine r_icmp_ge (tgt := 113) rfl rfl dX3_sayAsCut_6 (fun _ => ?_) (fun c => absurd c (by decide))
          exact r_ret dX3_sayAsCut_113 (rt_v rfl) rfl
        · refine r_aload_n rfl dX3_sayAsCut_80 rfl ?_
          obtain ⟨y463, y464, y465, y466, y467, y468, f462⟩ := hS442.ln hi
          refine r_getv 0 rfl dX3_sayAsCut_81 (show 2 ≤ 100 + 8 * i ∧ 100 + 8 * i < 434 by omega) f462 fl_X3_11 rfl ?_
          refine r_iload rfl dX3_sayAsCut_84 rfl ?_
          refine r_aald (jn := 2) (v := .ref (102 + 8 * i + 2 * 2)) rfl dX3_sayAsCut_86 (show 2 ≤ 101 + 8 * i ∧ 101 + 8 * i < 434 by omega).1 (show 2 ≤ 101 + 8 * i ∧ 101 + 8 * i < 434 by omega).2 (hS442.say hi) (by decide) (by unfold vp_in; decide) rfl (by show va_rf (if _ < _ then _ else _) = _; rw [if_pos (show 2 < 3 by decide)]; rfl) ?_
          refine r_aload rfl dX3_sayAsCut_87 rfl ?_
          obtain ⟨g471, hw472⟩ := hS442.ws (wsAt_ln hi (w := 2) (show 2 < 3 by decide))
          obtain ⟨g474, hw475⟩ := hS442.ws (wsAt_ln hl (w := 2) (show 2 < 3 by decide))
          refine cl_X3_72 rfl rfl dX3_sayAsCut_89 (show _ ∧ _ from ⟨(wsAt_ln hi (w := 2) (show 2 < 3 by decide)).2.2.1, Nat.lt_of_succ_lt (wsAt_ln hi (w := 2) (show 2 < 3 by decide)).2.2.2⟩).1 (show _ ∧ _ from ⟨(wsAt_ln hi (w := 2) (show 2 < 3 by decide)).2.2.1, Nat.lt_of_succ_lt (wsAt_ln hi (w := 2) (show 2 < 3 by decide)).2.2.2⟩).2 hw472.2.2.1 (Nat.le_of_ble_eq_true rfl) ((s_X10_join hw472 hw475 (by omega)).sh hS442) ?_
          rintro _ h476 _ ⟨⟨rfl, -, rfl⟩, -, hS477, -⟩
          refine r_goto (pc' := 107) rfl dX3_sayAsCut_92 ?_
          refine r_iinc (y := 3) (ls' := [some (.ref (100 + 8 * i)), some (.ref (100 + 8 * j)), some (.ref (100 + 8 * l)), some (.int o), some (.int 3), some (.ref (102 + 8 * j + 2 * 2)), some (.ref (102 + 8 * l + 2 * 2))]) rfl dX3_sayAsCut_107 rfl (by decide) (Nat.le_of_ble_eq_true rfl) rfl ?_
          refine r_goto (pc' := 3) rfl dX3_sayAsCut_110 ?_
          refine r_iload rfl dX3_sayAsCut_3 rfl ?_
          refine r_iconst (v := 3) rfl dX3_sayAsCut_5 (by decide) ?_
          refine r_icmp_ge (tgt := 113) rfl rfl dX3_sayAsCut_6 (fun _ => ?_) (fun c => absurd c (by decide))
          exact r_ret dX3_sayAsCut_113 (rt_v rfl) rfl
      · refine r_aload_n rfl dX3_sayAsCut_38 rfl ?_
        obtain ⟨y479, y480, y481, y482, y483, y484, f478⟩ := hS409.ln hi
        refine r_getv 0 rfl dX3_sayAsCut_39 (show 2 ≤ 100 + 8 * i ∧ 100 + 8 * i < 434 by omega) f478 fl_X3_11 rfl ?_
        refine r_iload rfl dX3_sayAsCut_42 rfl ?_
        refine r_aald (jn := 2) (v := .ref (102 + 8 * i + 2 * 2)) rfl dX3_sayAsCut_44 (show 2 ≤ 101 + 8 * i ∧ 101 + 8 * i < 434 by omega).1 (show 2 ≤ 101 + 8 * i ∧ 101 + 8 * i < 434 by omega).2 (hS409.say hi) (by decide) (by unfold vp_in; decide) rfl (by show va_rf (if _ < _ then _ else _) = _; rw [if_pos (show 2 < 3 by decide)]; rfl) ?_
        refine r_aload_n rfl dX3_sayAsCut_45 rfl ?_
        refine r_getv 6 rfl dX3_sayAsCut_46 (show 2 ≤ 100 + 8 * i ∧ 100 + 8 * i < 434 by omega) f478 fl_X3_24 rfl ?_
        refine r_aload rfl dX3_sayAsCut_49 rfl ?_
        refine r_aload rfl dX3_sayAsCut_51 rfl ?_
        obtain ⟨g487, hw488⟩ := hS409.ws (wsAt_ln hi (w := 2) (show 2 < 3 by decide))
        obtain ⟨g490, hw491⟩ := hS409.ws (wsAt_ln hl (w := 2) (show 2 < 3 by decide))
        obtain ⟨g493, hw494⟩ := hS409.ws (wsAt_ln hj (w := 2) (show 2 < 3 by decide))
        refine cl_X3_60 rfl rfl dX3_sayAsCut_53 (show _ ∧ _ from ⟨(wsAt_ln hi (w := 2) (show 2 < 3 by decide)).2.2.1, Nat.lt_of_succ_lt (wsAt_ln hi (w := 2) (show 2 < 3 by decide)).2.2.2⟩).1 (show _ ∧ _ from ⟨(wsAt_ln hi (w := 2) (show 2 < 3 by decide)).2.2.1, Nat.lt_of_succ_lt (wsAt_ln hi (w := 2) (show 2 < 3 by decide)).2.2.2⟩).2 hw488.2.2.1 (Nat.le_of_ble_eq_true rfl) ((s_X10_choose hw488 hw491 hw494 (by omega) (by omega)).sh hS409) ?_
        rintro _ h495 _ ⟨⟨rfl, -, rfl⟩, -, hS496, -⟩
        refine r_goto (pc' := 107) rfl dX3_sayAsCut_56 ?_
        refine r_iinc (y := 3) (ls' := [some (.ref (100 + 8 * i)), some (.ref (100 + 8 * j)), some (.ref (100 + 8 * l)), some (.int o), some (.int 3), some (.ref (102 + 8 * j + 2 * 2)), some (.ref (102 + 8 * l + 2 * 2))]) rfl dX3_sayAsCut_107 rfl (by decide) (Nat.le_of_ble_eq_true rfl) rfl ?_
        refine r_goto (pc' := 3) rfl dX3_sayAsCut_110 ?_
        refine r_iload rfl dX3_sayAsCut_3 rfl ?_
        refine r_iconst (v := 3) rfl dX3_sayAsCut_5 (by decide) ?_
        refine r_icmp_ge (tgt := 113) rfl rfl dX3_sayAsCut_6 (fun _ => ?_) (fun c => absurd c (by decide))
        exact r_ret dX3_sayAsCut_113 (rt_v rfl) rfl
    · refine r_aload_n rfl dX3_sayAsCut_80 rfl ?_
      obtain ⟨y498, y499, y500, y501, y502, y503, f497⟩ := hS390.ln hi
      refine r_getv 0 rfl dX3_sayAsCut_81 (show 2 ≤ 100 + 8 * i ∧ 100 + 8 * i < 434 by omega) f497 fl_X3_11 rfl ?_
      refine r_iload rfl dX3_sayAsCut_84 rfl ?_
      refine r_aald (jn := 1) (v := .ref (102 + 8 * i + 2 * 1)) rfl dX3_sayAsCut_86 (show 2 ≤ 101 + 8 * i ∧ 101 + 8 * i < 434 by omega).1 (show 2 ≤ 101 + 8 * i ∧ 101 + 8 * i < 434 by omega).2 (hS390.say hi) (by decide) (by unfold vp_in; decide) rfl (by show va_rf (if _ < _ then _ else _) = _; rw [if_pos (show 1 < 3 by decide)]; rfl) ?_
      refine r_aload rfl dX3_sayAsCut_87 rfl ?_
      obtain ⟨g506, hw507⟩ := hS390.ws (wsAt_ln hi (w := 1) (show 1 < 3 by decide))
      obtain ⟨g509, hw510⟩ := hS390.ws (wsAt_ln hl (w := 1) (show 1 < 3 by decide))
      refine cl_X3_72 rfl rfl dX3_sayAsCut_89 (show _ ∧ _ from ⟨(wsAt_ln hi (w := 1) (show 1 < 3 by decide)).2.2.1, Nat.lt_of_succ_lt (wsAt_ln hi (w := 1) (show 1 < 3 by decide)).2.2.2⟩).1 (show _ ∧ _ from ⟨(wsAt_ln hi (w := 1) (show 1 < 3 by decide)).2.2.1, Nat.lt_of_succ_lt (wsAt_ln hi (w := 1) (show 1 < 3 by decide)).2.2.2⟩).2 hw507.2.2.1 (Nat.le_of_ble_eq_true rfl) ((s_X10_join hw507 hw510 (by omega)).sh hS390) ?_
      rintro _ h511 _ ⟨⟨rfl, -, rfl⟩, -, hS512, -⟩
      refine r_goto (pc' := 107) rfl dX3_sayAsCut_92 ?_
      refine r_iinc (y := 2) (ls' := [some (.ref (100 + 8 * i)), some (.ref (100 + 8 * j)), some (.ref (100 + 8 * l)), some (.int o), some (.int 2), some (.ref (102 + 8 * j + 2 * 1)), some (.ref (102 + 8 * l + 2 * 1))]) rfl dX3_sayAsCut_107 rfl (by decide) (Nat.le_of_ble_eq_true rfl) rfl ?_
      refine r_goto (pc' := 3) rfl dX3_sayAsCut_110 ?_
      refine r_iload rfl dX3_sayAsCut_3 rfl ?_
      refine r_iconst (v := 3) rfl dX3_sayAsCut_5 (by decide) ?_
      refine r_icmp_ge (tgt := 113) rfl rfl dX3_sayAsCut_6 (fun c => absurd c (by decide)) (fun _ => ?_)
      refine r_aload_n rfl dX3_sayAsCut_9 rfl ?_
      obtain ⟨y514, y515, y516, y517, y518, y519, f513⟩ := hS512.ln hj
      refine r_getv 0 rfl dX3_sayAsCut_10 (show 2 ≤ 100 + 8 * j ∧ 100 + 8 * j < 434 by omega) f513 fl_X3_11 rfl ?_
      refine r_iload rfl dX3_sayAsCut_13 rfl ?_
      refine r_aald (jn := 2) (v := .ref (102 + 8 * j + 2 * 2)) rfl dX3_sayAsCut_15 (show 2 ≤ 101 + 8 * j ∧ 101 + 8 * j < 434 by omega).1 (show 2 ≤ 101 + 8 * j ∧ 101 + 8 * j < 434 by omega).2 (hS512.say hj) (by decide) (by unfold vp_in; decide) rfl (by show va_rf (if _ < _ then _ else _) = _; rw [if_pos (show 2 < 3 by decide)]; rfl) ?_
      refine r_astore (ls' := [some (.ref (100 + 8 * i)), some (.ref (100 + 8 * j)), some (.ref (100 + 8 * l)), some (.int o), some (.int 2), some (.ref (102 + 8 * j + 2 * 2)), some (.ref (102 + 8 * l + 2 * 1))]) rfl dX3_sayAsCut_16 (Nat.le_of_ble_eq_true rfl) rfl ?_
      refine r_aload_n rfl dX3_sayAsCut_18 rfl ?_
      obtain ⟨y522, y523, y524, y525, y526, y527, f521⟩ := hS512.ln hl
      refine r_getv 0 rfl dX3_sayAsCut_19 (show 2 ≤ 100 + 8 * l ∧ 100 + 8 * l < 434 by omega) f521 fl_X3_11 rfl ?_
      refine r_iload rfl dX3_sayAsCut_22 rfl ?_
      refine r_aald (jn := 2) (v := .ref (102 + 8 * l + 2 * 2)) rfl dX3_sayAsCut_24 (show 2 ≤ 101 + 8 * l ∧ 101 + 8 * l < 434 by omega).1 (show 2 ≤ 101 + 8 * l ∧ 101 + 8 * l < 434 by omega).2 (hS512.say hl) (by decide) (by unfold vp_in; decide) rfl (by show va_rf (if _ < _ then _ else _) = _; rw [if_pos (show 2 < 3 by decide)]; rfl) ?_
      refine r_astore (ls' := [some (.ref (100 + 8 * i)), some (.ref (100 + 8 * j)), some (.ref (100 + 8 * l)), some (.int o), some (.int 2), some (.ref (102 + 8 * j + 2 * 2)), some (.ref (102 + 8 * l + 2 * 2))]) rfl dX3_sayAsCut_25 (Nat.le_of_ble_eq_true rfl) rfl ?_
      refine r_iload rfl dX3_sayAsCut_27 rfl ?_
      refine r_iconst (v := 2) rfl dX3_sayAsCut_29 (by decide) ?_
      refine r_icmp_ne (tgt := 59) rfl rfl dX3_sayAsCut_30 (fun c => absurd c (by decide)) (fun _ => ?_)
      refine r_iload_n rfl dX3_sayAsCut_33 rfl ?_
      refine r_iconst (v := 3) rfl dX3_sayAsCut_34 (by decide) ?_
      refine r_icmp_ne (tgt := 59) rfl rfl dX3_sayAsCut_35 (fun c529 => ?_) (fun c529 => ?_)
      · refine r_aload_n rfl dX3_sayAsCut_59 rfl ?_
        obtain ⟨y531, y532, y533, y534, y535, y536, f530⟩ := hS512.ln hi
        refine r_getv 0 rfl dX3_sayAsCut_60 (show 2 ≤ 100 + 8 * i ∧ 100 + 8 * i < 434 by omega) f530 fl_X3_11 rfl ?_
        refine r_iload rfl dX3_sayAsCut_63 rfl ?_
        refine r_aald (jn := 2) (v := .ref (102 + 8 * i + 2 * 2)) rfl dX3_sayAsCut_65 (show 2 ≤ 101 + 8 * i ∧ 101 + 8 * i < 434 by omega).1 (show 2 ≤ 101 + 8 * i ∧ 101 + 8 * i < 434 by omega).2 (hS512.say hi) (by decide) (by unfold vp_in; decide) rfl (by show va_rf (if _ < _ then _ else _) = _; rw [if_pos (show 2 < 3 by decide)]; rfl) ?_
        refine r_aload rfl dX3_sayAsCut_66 rfl ?_
        obtain ⟨g539, hw540⟩ := hS512.ws (wsAt_ln hi (w := 2) (show 2 < 3 by decide))
        obtain ⟨g542, hw543⟩ := hS512.ws (wsAt_ln hj (w := 2) (show 2 < 3 by decide))
        refine cl_X3_64 rfl rfl dX3_sayAsCut_68 (show _ ∧ _ from ⟨(wsAt_ln hi (w := 2) (show 2 < 3 by decide)).2.2.1, Nat.lt_of_succ_lt (wsAt_ln hi (w := 2) (show 2 < 3 by decide)).2.2.2⟩).1 (show _ ∧ _ from ⟨(wsAt_ln hi (w := 2) (show 2 < 3 by decide)).2.2.1, Nat.lt_of_succ_lt (wsAt_ln hi (w := 2) (show 2 < 3 by decide)).2.2.2⟩).2 hw540.2.2.1 (Nat.le_of_ble_eq_true rfl) ((s_X10_become hw540 hw543 (by omega)).sh hS512) ?_
        rintro _ h544 _ ⟨⟨rfl, -, rfl⟩, -, hS545, -⟩
        refine r_iload rfl dX3_sayAsCut_71 rfl ?_
        refine r_iload_n rfl dX3_sayAsCut_73 rfl ?_
        refine cl_X3_68 rfl rfl dX3_sayAsCut_74 (Nat.le_of_ble_eq_true rfl) s_X3_joins ?_
        rintro _ h546 _ ⟨rfl, e547, rfl⟩
        replace e547 := e547.symm
        subst e547
        refine r_if_eq (tgt := 95) rfl rfl dX3_sayAsCut_77 (fun c548 => ?_) (fun c548 => ?_)
        · refine r_aload_n rfl dX3_sayAsCut_95 rfl ?_
          obtain ⟨y550, y551, y552, y553, y554, y555, f549⟩ := hS545.ln hi
          refine r_getv 0 rfl dX3_sayAsCut_96 (show 2 ≤ 100 + 8 * i ∧ 100 + 8 * i < 434 by omega) f549 fl_X3_11 rfl ?_
          refine r_iload rfl dX3_sayAsCut_99 rfl ?_
          refine r_aald (jn := 2) (v := .ref (102 + 8 * i + 2 * 2)) rfl dX3_sayAsCut_101 (show 2 ≤ 101 + 8 * i ∧ 101 + 8 * i < 434 by omega).1 (show 2 ≤ 101 + 8 * i ∧ 101 + 8 * i < 434 by omega).2 (hS545.say hi) (by decide) (by unfold vp_in; decide) rfl (by show va_rf (if _ < _ then _ else _) = _; rw [if_pos (show 2 < 3 by decide)]; rfl) ?_
          refine r_aload rfl dX3_sayAsCut_102 rfl ?_
          obtain ⟨g558, hw559⟩ := hS545.ws (wsAt_ln hi (w := 2) (show 2 < 3 by decide))
          obtain ⟨g561, hw562⟩ := hS545.ws (wsAt_ln hl (w := 2) (show 2 < 3 by decide))
          refine cl_X3_75 rfl rfl dX3_sayAsCut_104 (show _ ∧ _ from ⟨(wsAt_ln hi (w := 2) (show 2 < 3 by decide)).2.2.1, Nat.lt_of_succ_lt (wsAt_ln hi (w := 2) (show 2 < 3 by decide)).2.2.2⟩).1 (show _ ∧ _ from ⟨(wsAt_ln hi (w := 2) (show 2 < 3 by decide)).2.2.1, Nat.lt_of_succ_lt (wsAt_ln hi (w := 2) (show 2 < 3 by decide)).2.2.2⟩).2 hw559.2.2.1 (Nat.le_of_ble_eq_true rfl) ((s_X10_meet hw559 hw562 (by omega)).sh hS545) ?_
          rintro _ h563 _ ⟨⟨rfl, -, rfl⟩, -, hS564, -⟩
          refine r_iinc (y := 3) (ls' := [some (.ref (100 + 8 * i)), some (.ref (100 + 8 * j)), some (.ref (100 + 8 * l)), some (.int o), some (.int 3), some (.ref (102 + 8 * j + 2 * 2)), some (.ref (102 + 8 * l + 2 * 2))]) rfl dX3_sayAsCut_107 rfl (by decide) (Nat.le_of_ble_eq_true rfl) rfl ?_
          refine r_goto (pc' := 3) rfl dX3_sayAsCut_110 ?_
          refine r_iload rfl dX3_sayAsCut_3 rfl ?_
          refine r_iconst (v := 3) rfl dX3_sayAsCut_5 (by decide) ?_
          refine r_icmp_ge (tgt := 113) rfl rfl dX3_sayAsCut_6 (fun _ => ?_) (fun c => absurd c (by decide))
          exact r_ret dX3_sayAsCut_113 (rt_v rfl) rfl
        · refine r_aload_n rfl dX3_sayAsCut_80 rfl ?_
          obtain ⟨y566, y567, y568, y569, y570, y571, f565⟩ := hS545.ln hi
          refine r_getv 0 rfl dX3_sayAsCut_81 (show 2 ≤ 100 + 8 * i ∧ 100 + 8 * i < 434 by omega) f565 fl_X3_11 rfl ?_
          refine r_iload rfl dX3_sayAsCut_84 rfl ?_
          refine r_aald (jn := 2) (v := .ref (102 + 8 * i + 2 * 2)) rfl dX3_sayAsCut_86 (show 2 ≤ 101 + 8 * i ∧ 101 + 8 * i < 434 by omega).1 (show 2 ≤ 101 + 8 * i ∧ 101 + 8 * i < 434 by omega).2 (hS545.say hi) (by decide) (by unfold vp_in; decide) rfl (by show va_rf (if _ < _ then _ else _) = _; rw [if_pos (show 2 < 3 by decide)]; rfl) ?_
          refine r_aload rfl dX3_sayAsCut_87 rfl ?_
          obtain ⟨g574, hw575⟩ := hS545.ws (wsAt_ln hi (w := 2) (show 2 < 3 by decide))
          obtain ⟨g577, hw578⟩ := hS545.ws (wsAt_ln hl (w := 2) (show 2 < 3 by decide))
          refine cl_X3_72 rfl rfl dX3_sayAsCut_89 (show _ ∧ _ from ⟨(wsAt_ln hi (w := 2) (show 2 < 3 by decide)).2.2.1, Nat.lt_of_succ_lt (wsAt_ln hi (w := 2) (show 2 < 3 by decide)).2.2.2⟩).1 (show _ ∧ _ from ⟨(wsAt_ln hi (w := 2) (show 2 < 3 by decide)).2.2.1, Nat.lt_of_succ_lt (wsAt_ln hi (w := 2) (show 2 < 3 by decide)).2.2.2⟩).2 hw575.2.2.1 (Nat.le_of_ble_eq_true rfl) ((s_X10_join hw575 hw578 (by omega)).sh hS545) ?_
          rintro _ h579 _ ⟨⟨rfl, -, rfl⟩, -, hS580, -⟩
          refine r_goto (pc' := 107) rfl dX3_sayAsCut_92 ?_
          refine r_iinc (y := 3) (ls' := [some (.ref (100 + 8 * i)), some (.ref (100 + 8 * j)), some (.ref (100 + 8 * l)), some (.int o), some (.int 3), some (.ref (102 + 8 * j + 2 * 2)), some (.ref (102 + 8 * l + 2 * 2))]) rfl dX3_sayAsCut_107 rfl (by decide) (Nat.le_of_ble_eq_true rfl) rfl ?_
          refine r_goto (pc' := 3) rfl dX3_sayAsCut_110 ?_
          refine r_iload rfl dX3_sayAsCut_3 rfl ?_
          refine r_iconst (v := 3) rfl dX3_sayAsCut_5 (by decide) ?_
          refine r_icmp_ge (tgt := 113) rfl rfl dX3_sayAsCut_6 (fun _ => ?_) (fun c => absurd c (by decide))
          exact r_ret dX3_sayAsCut_113 (rt_v rfl) rfl
      · refine r_aload_n rfl dX3_sayAsCut_38 rfl ?_
        obtain ⟨y582, y583, y584, y585, y586, y587, f581⟩ := hS512.ln hi
        refine r_getv 0 rfl dX3_sayAsCut_39 (show 2 ≤ 100 + 8 * i ∧ 100 + 8 * i < 434 by omega) f581 fl_X3_11 rfl ?_
        refine r_iload rfl dX3_sayAsCut_42 rfl ?_
        refine r_aald (jn := 2) (v := .ref (102 + 8 * i + 2 * 2)) rfl dX3_sayAsCut_44 (show 2 ≤ 101 + 8 * i ∧ 101 + 8 * i < 434 by omega).1 (show 2 ≤ 101 + 8 * i ∧ 101 + 8 * i < 434 by omega).2 (hS512.say hi) (by decide) (by unfold vp_in; decide) rfl (by show va_rf (if _ < _ then _ else _) = _; rw [if_pos (show 2 < 3 by decide)]; rfl) ?_
        refine r_aload_n rfl dX3_sayAsCut_45 rfl ?_
        refine r_getv 6 rfl dX3_sayAsCut_46 (show 2 ≤ 100 + 8 * i ∧ 100 + 8 * i < 434 by omega) f581 fl_X3_24 rfl ?_
        refine r_aload rfl dX3_sayAsCut_49 rfl ?_
        refine r_aload rfl dX3_sayAsCut_51 rfl ?_
        obtain ⟨g590, hw591⟩ := hS512.ws (wsAt_ln hi (w := 2) (show 2 < 3 by decide))
        obtain ⟨g593, hw594⟩ := hS512.ws (wsAt_ln hl (w := 2) (show 2 < 3 by decide))
        obtain ⟨g596, hw597⟩ := hS512.ws (wsAt_ln hj (w := 2) (show 2 < 3 by decide))
        refine cl_X3_60 rfl rfl dX3_sayAsCut_53 (show _ ∧ _ from ⟨(wsAt_ln hi (w := 2) (show 2 < 3 by decide)).2.2.1, Nat.lt_of_succ_lt (wsAt_ln hi (w := 2) (show 2 < 3 by decide)).2.2.2⟩).1 (show _ ∧ _ from ⟨(wsAt_ln hi (w := 2) (show 2 < 3 by decide)).2.2.1, Nat.lt_of_succ_lt (wsAt_ln hi (w := 2) (show 2 < 3 by decide)).2.2.2⟩).2 hw591.2.2.1 (Nat.le_of_ble_eq_true rfl) ((s_X10_choose hw591 hw594 hw597 (by omega) (by omega)).sh hS512) ?_
        rintro _ h598 _ ⟨⟨rfl, -, rfl⟩, -, hS599, -⟩
        refine r_goto (pc' := 107) rfl dX3_sayAsCut_56 ?_
        refine r_iinc (y := 3) (ls' := [some (.ref (100 + 8 * i)), some (.ref (100 + 8 * j)), some (.ref (100 + 8 * l)), some (.int o), some (.int 3), some (.ref (102 + 8 * j + 2 * 2)), some (.ref (102 + 8 * l + 2 * 2))]) rfl dX3_sayAsCut_107 rfl (by decide) (Nat.le_of_ble_eq_true rfl) rfl ?_
        refine r_goto (pc' := 3) rfl dX3_sayAsCut_110 ?_
        refine r_iload rfl dX3_sayAsCut_3 rfl ?_
        refine r_iconst (v := 3) rfl dX3_sayAsCut_5 (by decide) ?_
        refine r_icmp_ge (tgt := 113) rfl rfl dX3_sayAsCut_6 (fun _ => ?_) (fun c => absurd c (by decide))
        exact r_ret dX3_sayAsCut_113 (rt_v rfl) rfl
end
section
theorem dX7_sharedLetters_0 : decode cX7_sharedLetters 0 = .ok (.aload_n 0, 1) := by decide +kernel
theorem dX7_sharedLetters_1 : decode cX7_sharedLetters 1 = .ok (.getfield 33, 3) := by decide +kernel
theorem dX7_sharedLetters_4 : decode cX7_sharedLetters 4 = .ok (.aload_n 0, 1) := by decide +kernel
theorem dX7_sharedLetters_5 : decode cX7_sharedLetters 5 = .ok (.getfield 37, 3) := by decide +kernel
theorem dX7_sharedLetters_8 : decode cX7_sharedLetters 8 = .ok (.iand, 1) := by decide +kernel
theorem dX7_sharedLetters_9 : decode cX7_sharedLetters 9 = .ok (.ireturn, 1) := by decide +kernel
theorem dX7_ownerOf_0 : decode cX7_ownerOf 0 = .ok (.aload_n 0, 1) := by decide +kernel
theorem dX7_ownerOf_1 : decode cX7_ownerOf 1 = .ok (.getfield 33, 3) := by decide +kernel
theorem dX7_ownerOf_4 : decode cX7_ownerOf 4 = .ok (.iload_n 1, 1) := by decide +kernel
theorem dX7_ownerOf_5 : decode cX7_ownerOf 5 = .ok (.ishr, 1) := by decide +kernel
theorem dX7_ownerOf_6 : decode cX7_ownerOf 6 = .ok (.iconst 1, 1) := by decide +kernel
theorem dX7_ownerOf_7 : decode cX7_ownerOf 7 = .ok (.iand, 1) := by decide +kernel
theorem dX7_ownerOf_8 : decode cX7_ownerOf 8 = .ok (.istore_n 2, 1) := by decide +kernel
theorem dX7_ownerOf_9 : decode cX7_ownerOf 9 = .ok (.aload_n 0, 1) := by decide +kernel
theorem dX7_ownerOf_10 : decode cX7_ownerOf 10 = .ok (.getfield 37, 3) := by decide +kernel
theorem dX7_ownerOf_13 : decode cX7_ownerOf 13 = .ok (.iload_n 1, 1) := by decide +kernel
theorem dX7_ownerOf_14 : decode cX7_ownerOf 14 = .ok (.ishr, 1) := by decide +kernel
theorem dX7_ownerOf_15 : decode cX7_ownerOf 15 = .ok (.iconst 1, 1) := by decide +kernel
theorem dX7_ownerOf_16 : decode cX7_ownerOf 16 = .ok (.iand, 1) := by decide +kernel
theorem dX7_ownerOf_17 : decode cX7_ownerOf 17 = .ok (.istore_n 3, 1) := by decide +kernel
theorem dX7_ownerOf_18 : decode cX7_ownerOf 18 = .ok (.iconst 1, 1) := by decide +kernel
theorem dX7_ownerOf_19 : decode cX7_ownerOf 19 = .ok (.iload_n 2, 1) := by decide +kernel
theorem dX7_ownerOf_20 : decode cX7_ownerOf 20 = .ok (.imul, 1) := by decide +kernel
theorem dX7_ownerOf_21 : decode cX7_ownerOf 21 = .ok (.iconst 2, 1) := by decide +kernel
theorem dX7_ownerOf_22 : decode cX7_ownerOf 22 = .ok (.iload_n 3, 1) := by decide +kernel
theorem dX7_ownerOf_23 : decode cX7_ownerOf 23 = .ok (.imul, 1) := by decide +kernel
theorem dX7_ownerOf_24 : decode cX7_ownerOf 24 = .ok (.iadd, 1) := by decide +kernel
theorem dX7_ownerOf_25 : decode cX7_ownerOf 25 = .ok (.ireturn, 1) := by decide +kernel
theorem dX7_judge_0 : decode cX7_judge 0 = .ok (.aload_n 1, 1) := by decide +kernel
theorem dX7_judge_1 : decode cX7_judge 1 = .ok (.invokevirtual 74, 3) := by decide +kernel
theorem dX7_judge_4 : decode cX7_judge 4 = .ok (.aload_n 0, 1) := by decide +kernel
theorem dX7_judge_5 : decode cX7_judge 5 = .ok (.invokevirtual 60, 3) := by decide +kernel
theorem dX7_judge_8 : decode cX7_judge 8 = .ok (.iconst (-1), 1) := by decide +kernel
theorem dX7_judge_9 : decode cX7_judge 9 = .ok (.ixor, 1) := by decide +kernel
theorem dX7_judge_10 : decode cX7_judge 10 = .ok (.iand, 1) := by decide +kernel
theorem dX7_judge_11 : decode cX7_judge 11 = .ok (.ifCond .eq 5, 3) := by decide +kernel
theorem dX7_judge_14 : decode cX7_judge 14 = .ok (.iconst 1, 1) := by decide +kernel
theorem dX7_judge_15 : decode cX7_judge 15 = .ok (.ireturn, 1) := by decide +kernel
theorem dX7_judge_16 : decode cX7_judge 16 = .ok (.aload_n 0, 1) := by decide +kernel
theorem dX7_judge_17 : decode cX7_judge 17 = .ok (.getfield 12, 3) := by decide +kernel
theorem dX7_judge_20 : decode cX7_judge 20 = .ok (.aload_n 1, 1) := by decide +kernel
theorem dX7_judge_21 : decode cX7_judge 21 = .ok (.invokevirtual 77, 3) := by decide +kernel
theorem dX7_judge_24 : decode cX7_judge 24 = .ok (.ifCond .ne 5, 3) := by decide +kernel
theorem dX7_judge_27 : decode cX7_judge 27 = .ok (.iconst 2, 1) := by decide +kernel
theorem dX7_judge_28 : decode cX7_judge 28 = .ok (.ireturn, 1) := by decide +kernel
theorem dX7_judge_29 : decode cX7_judge 29 = .ok (.aload_n 0, 1) := by decide +kernel
theorem dX7_judge_30 : decode cX7_judge 30 = .ok (.getfield 18, 3) := by decide +kernel
theorem dX7_judge_33 : decode cX7_judge 33 = .ok (.aload_n 1, 1) := by decide +kernel
theorem dX7_judge_34 : decode cX7_judge 34 = .ok (.invokevirtual 81, 3) := by decide +kernel
theorem dX7_judge_37 : decode cX7_judge 37 = .ok (.ifCond .eq 7, 3) := by decide +kernel
theorem dX7_judge_40 : decode cX7_judge 40 = .ok (.iconst 3, 1) := by decide +kernel
theorem dX7_judge_41 : decode cX7_judge 41 = .ok (.goto 4, 3) := by decide +kernel
theorem dX7_judge_44 : decode cX7_judge 44 = .ok (.iconst 0, 1) := by decide +kernel
theorem dX7_judge_45 : decode cX7_judge 45 = .ok (.ireturn, 1) := by decide +kernel
theorem dX7_freeChoices_0 : decode cX7_freeChoices 0 = .ok (.aload_n 0, 1) := by decide +kernel
theorem dX7_freeChoices_1 : decode cX7_freeChoices 1 = .ok (.getfield 24, 3) := by decide +kernel
theorem dX7_freeChoices_4 : decode cX7_freeChoices 4 = .ok (.invokevirtual 85, 3) := by decide +kernel
theorem dX7_freeChoices_7 : decode cX7_freeChoices 7 = .ok (.aload_n 0, 1) := by decide +kernel
theorem dX7_freeChoices_8 : decode cX7_freeChoices 8 = .ok (.getfield 24, 3) := by decide +kernel
theorem dX7_freeChoices_11 : decode cX7_freeChoices 11 = .ok (.aload_n 0, 1) := by decide +kernel
theorem dX7_freeChoices_12 : decode cX7_freeChoices 12 = .ok (.getfield 21, 3) := by decide +kernel
theorem dX7_freeChoices_15 : decode cX7_freeChoices 15 = .ok (.invokevirtual 81, 3) := by decide +kernel
theorem dX7_freeChoices_18 : decode cX7_freeChoices 18 = .ok (.isub, 1) := by decide +kernel
theorem dX7_freeChoices_19 : decode cX7_freeChoices 19 = .ok (.istore_n 1, 1) := by decide +kernel
theorem dX7_freeChoices_20 : decode cX7_freeChoices 20 = .ok (.iload_n 1, 1) := by decide +kernel
theorem dX7_freeChoices_21 : decode cX7_freeChoices 21 = .ok (.bipush 8, 2) := by decide +kernel
theorem dX7_freeChoices_23 : decode cX7_freeChoices 23 = .ok (.aload_n 0, 1) := by decide +kernel
theorem dX7_freeChoices_24 : decode cX7_freeChoices 24 = .ok (.invokevirtual 60, 3) := by decide +kernel
theorem dX7_freeChoices_27 : decode cX7_freeChoices 27 = .ok (.invokestatic 88, 3) := by decide +kernel
theorem dX7_freeChoices_30 : decode cX7_freeChoices 30 = .ok (.isub, 1) := by decide +kernel
theorem dX7_freeChoices_31 : decode cX7_freeChoices 31 = .ok (.ishr, 1) := by decide +kernel
theorem dX7_freeChoices_32 : decode cX7_freeChoices 32 = .ok (.ireturn, 1) := by decide +kernel
theorem dX7_tellsApart_0 : decode cX7_tellsApart 0 = .ok (.aload_n 0, 1) := by decide +kernel
theorem dX7_tellsApart_1 : decode cX7_tellsApart 1 = .ok (.getfield 27, 3) := by decide +kernel
theorem dX7_tellsApart_4 : decode cX7_tellsApart 4 = .ok (.aload_n 0, 1) := by decide +kernel
theorem dX7_tellsApart_5 : decode cX7_tellsApart 5 = .ok (.getfield 12, 3) := by decide +kernel
theorem dX7_tellsApart_8 : decode cX7_tellsApart 8 = .ok (.invokevirtual 57, 3) := by decide +kernel
theorem dX7_tellsApart_11 : decode cX7_tellsApart 11 = .ok (.aload_n 0, 1) := by decide +kernel
theorem dX7_tellsApart_12 : decode cX7_tellsApart 12 = .ok (.getfield 27, 3) := by decide +kernel
theorem dX7_tellsApart_15 : decode cX7_tellsApart 15 = .ok (.iload_n 1, 1) := by decide +kernel
theorem dX7_tellsApart_16 : decode cX7_tellsApart 16 = .ok (.invokevirtual 63, 3) := by decide +kernel
theorem dX7_tellsApart_19 : decode cX7_tellsApart 19 = .ok (.aload_n 0, 1) := by decide +kernel
theorem dX7_tellsApart_20 : decode cX7_tellsApart 20 = .ok (.getfield 27, 3) := by decide +kernel
theorem dX7_tellsApart_23 : decode cX7_tellsApart 23 = .ok (.aload_n 0, 1) := by decide +kernel
theorem dX7_tellsApart_24 : decode cX7_tellsApart 24 = .ok (.getfield 18, 3) := by decide +kernel
theorem dX7_tellsApart_27 : decode cX7_tellsApart 27 = .ok (.invokevirtual 81, 3) := by decide +kernel
theorem dX7_tellsApart_30 : decode cX7_tellsApart 30 = .ok (.ifCond .ne 7, 3) := by decide +kernel
theorem dX7_tellsApart_33 : decode cX7_tellsApart 33 = .ok (.iconst 1, 1) := by decide +kernel
theorem dX7_tellsApart_34 : decode cX7_tellsApart 34 = .ok (.goto 4, 3) := by decide +kernel
theorem dX7_tellsApart_37 : decode cX7_tellsApart 37 = .ok (.iconst 0, 1) := by decide +kernel
theorem dX7_tellsApart_38 : decode cX7_tellsApart 38 = .ok (.ireturn, 1) := by decide +kernel
theorem dX7_findFewest_0 : decode cX7_findFewest 0 = .ok (.bipush (-9), 2) := by decide +kernel
theorem dX7_findFewest_2 : decode cX7_findFewest 2 = .ok (.istore_n 1, 1) := by decide +kernel
theorem dX7_findFewest_3 : decode cX7_findFewest 3 = .ok (.bipush 9, 2) := by decide +kernel
theorem dX7_findFewest_5 : decode cX7_findFewest 5 = .ok (.istore_n 2, 1) := by decide +kernel
theorem dX7_findFewest_6 : decode cX7_findFewest 6 = .ok (.iconst 0, 1) := by decide +kernel
theorem dX7_findFewest_7 : decode cX7_findFewest 7 = .ok (.istore_n 3, 1) := by decide +kernel
theorem dX7_findFewest_8 : decode cX7_findFewest 8 = .ok (.iload_n 3, 1) := by decide +kernel
theorem dX7_findFewest_9 : decode cX7_findFewest 9 = .ok (.sipush 255, 3) := by decide +kernel
theorem dX7_findFewest_12 : decode cX7_findFewest 12 = .ok (.if_icmp .gt 55, 3) := by decide +kernel
theorem dX7_findFewest_15 : decode cX7_findFewest 15 = .ok (.iload_n 3, 1) := by decide +kernel
theorem dX7_findFewest_16 : decode cX7_findFewest 16 = .ok (.aload_n 0, 1) := by decide +kernel
theorem dX7_findFewest_17 : decode cX7_findFewest 17 = .ok (.invokevirtual 60, 3) := by decide +kernel
theorem dX7_findFewest_20 : decode cX7_findFewest 20 = .ok (.iconst (-1), 1) := by decide +kernel
theorem dX7_findFewest_21 : decode cX7_findFewest 21 = .ok (.ixor, 1) := by decide +kernel
theorem dX7_findFewest_22 : decode cX7_findFewest 22 = .ok (.iand, 1) := by decide +kernel
theorem dX7_findFewest_23 : decode cX7_findFewest 23 = .ok (.ifCond .ne 7, 3) := by decide +kernel
theorem dX7_findFewest_26 : decode cX7_findFewest 26 = .ok (.iconst 1, 1) := by decide +kernel
theorem dX7_findFewest_27 : decode cX7_findFewest 27 = .ok (.goto 4, 3) := by decide +kernel
theorem dX7_findFewest_30 : decode cX7_findFewest 30 = .ok (.iconst 0, 1) := by decide +kernel
theorem dX7_findFewest_31 : decode cX7_findFewest 31 = .ok (.istore 4, 2) := by decide +kernel
theorem dX7_findFewest_33 : decode cX7_findFewest 33 = .ok (.iload 4, 2) := by decide +kernel
theorem dX7_findFewest_35 : decode cX7_findFewest 35 = .ok (.ifCond .eq 26, 3) := by decide +kernel
theorem dX7_findFewest_38 : decode cX7_findFewest 38 = .ok (.iload_n 3, 1) := by decide +kernel
theorem dX7_findFewest_39 : decode cX7_findFewest 39 = .ok (.invokestatic 88, 3) := by decide +kernel
theorem dX7_findFewest_42 : decode cX7_findFewest 42 = .ok (.iload_n 2, 1) := by decide +kernel
theorem dX7_findFewest_43 : decode cX7_findFewest 43 = .ok (.if_icmp .ge 18, 3) := by decide +kernel
theorem dX7_findFewest_46 : decode cX7_findFewest 46 = .ok (.aload_n 0, 1) := by decide +kernel
theorem dX7_findFewest_47 : decode cX7_findFewest 47 = .ok (.iload_n 3, 1) := by decide +kernel
theorem dX7_findFewest_48 : decode cX7_findFewest 48 = .ok (.invokevirtual 100, 3) := by decide +kernel
theorem dX7_findFewest_51 : decode cX7_findFewest 51 = .ok (.ifCond .eq 10, 3) := by decide +kernel
theorem dX7_findFewest_54 : decode cX7_findFewest 54 = .ok (.iload_n 3, 1) := by decide +kernel
theorem dX7_findFewest_55 : decode cX7_findFewest 55 = .ok (.istore_n 1, 1) := by decide +kernel
theorem dX7_findFewest_56 : decode cX7_findFewest 56 = .ok (.iload_n 3, 1) := by decide +kernel
theorem dX7_findFewest_57 : decode cX7_findFewest 57 = .ok (.invokestatic 88, 3) := by decide +kernel
theorem dX7_findFewest_60 : decode cX7_findFewest 60 = .ok (.istore_n 2, 1) := by decide +kernel
theorem dX7_findFewest_61 : decode cX7_findFewest 61 = .ok (.iinc 3 1, 3) := by decide +kernel
theorem dX7_findFewest_64 : decode cX7_findFewest 64 = .ok (.goto (-56), 3) := by decide +kernel
theorem dX7_findFewest_67 : decode cX7_findFewest 67 = .ok (.iload_n 1, 1) := by decide +kernel
theorem dX7_findFewest_68 : decode cX7_findFewest 68 = .ok (.ireturn, 1) := by decide +kernel
theorem dX7_fewestLetters_0 : decode cX7_fewestLetters 0 = .ok (.aload_n 0, 1) := by decide +kernel
theorem dX7_fewestLetters_1 : decode cX7_fewestLetters 1 = .ok (.getfield 70, 3) := by decide +kernel
theorem dX7_fewestLetters_4 : decode cX7_fewestLetters 4 = .ok (.ifCond .ne 16, 3) := by decide +kernel
theorem dX7_fewestLetters_7 : decode cX7_fewestLetters 7 = .ok (.aload_n 0, 1) := by decide +kernel
theorem dX7_fewestLetters_8 : decode cX7_fewestLetters 8 = .ok (.aload_n 0, 1) := by decide +kernel
theorem dX7_fewestLetters_9 : decode cX7_fewestLetters 9 = .ok (.invokevirtual 94, 3) := by decide +kernel
theorem dX7_fewestLetters_12 : decode cX7_fewestLetters 12 = .ok (.putfield 97, 3) := by decide +kernel
theorem dX7_fewestLetters_15 : decode cX7_fewestLetters 15 = .ok (.aload_n 0, 1) := by decide +kernel
theorem dX7_fewestLetters_16 : decode cX7_fewestLetters 16 = .ok (.iconst 1, 1) := by decide +kernel
theorem dX7_fewestLetters_17 : decode cX7_fewestLetters 17 = .ok (.putfield 70, 3) := by decide +kernel
theorem dX7_fewestLetters_20 : decode cX7_fewestLetters 20 = .ok (.aload_n 0, 1) := by decide +kernel
theorem dX7_fewestLetters_21 : decode cX7_fewestLetters 21 = .ok (.getfield 97, 3) := by decide +kernel
theorem dX7_fewestLetters_24 : decode cX7_fewestLetters 24 = .ok (.ireturn, 1) := by decide +kernel
theorem dX7_learn_0 : decode cX7_learn 0 = .ok (.aload_n 0, 1) := by decide +kernel
theorem dX7_learn_1 : decode cX7_learn 1 = .ok (.getfield 12, 3) := by decide +kernel
theorem dX7_learn_4 : decode cX7_learn 4 = .ok (.invokevirtual 30, 3) := by decide +kernel
theorem dX7_learn_7 : decode cX7_learn 7 = .ok (.aload_n 0, 1) := by decide +kernel
theorem dX7_learn_8 : decode cX7_learn 8 = .ok (.getfield 18, 3) := by decide +kernel
theorem dX7_learn_11 : decode cX7_learn 11 = .ok (.invokevirtual 30, 3) := by decide +kernel
theorem dX7_learn_14 : decode cX7_learn 14 = .ok (.aload_n 0, 1) := by decide +kernel
theorem dX7_learn_15 : decode cX7_learn 15 = .ok (.iconst 0, 1) := by decide +kernel
theorem dX7_learn_16 : decode cX7_learn 16 = .ok (.putfield 33, 3) := by decide +kernel
theorem dX7_learn_19 : decode cX7_learn 19 = .ok (.aload_n 0, 1) := by decide +kernel
theorem dX7_learn_20 : decode cX7_learn 20 = .ok (.iconst 0, 1) := by decide +kernel
theorem dX7_learn_21 : decode cX7_learn 21 = .ok (.putfield 37, 3) := by decide +kernel
theorem dX7_learn_24 : decode cX7_learn 24 = .ok (.iconst 0, 1) := by decide +kernel
theorem dX7_learn_25 : decode cX7_learn 25 = .ok (.istore_n 3, 1) := by decide +kernel
theorem dX7_learn_26 : decode cX7_learn 26 = .ok (.iload_n 3, 1) := by decide +kernel
theorem dX7_learn_27 : decode cX7_learn 27 = .ok (.iload_n 2, 1) := by decide +kernel
theorem dX7_learn_28 : decode cX7_learn 28 = .ok (.if_icmp .ge 93, 3) := by decide +kernel
theorem dX7_learn_31 : decode cX7_learn 31 = .ok (.iload_n 3, 1) := by decide +kernel
theorem dX7_learn_32 : decode cX7_learn 32 = .ok (.aload_n 1, 1) := by decide +kernel
theorem dX7_learn_33 : decode cX7_learn 33 = .ok (.arraylength, 1) := by decide +kernel
theorem dX7_learn_34 : decode cX7_learn 34 = .ok (.if_icmp .ge 87, 3) := by decide +kernel
theorem dX7_learn_37 : decode cX7_learn 37 = .ok (.aload_n 1, 1) := by decide +kernel
theorem dX7_learn_38 : decode cX7_learn 38 = .ok (.iload_n 3, 1) := by decide +kernel
theorem dX7_learn_39 : decode cX7_learn 39 = .ok (.aaload, 1) := by decide +kernel
theorem dX7_learn_40 : decode cX7_learn 40 = .ok (.aload_n 0, 1) := by decide +kernel
theorem dX7_learn_41 : decode cX7_learn 41 = .ok (.getfield 27, 3) := by decide +kernel
theorem dX7_learn_44 : decode cX7_learn 44 = .ok (.sipush 255, 3) := by decide +kernel
theorem dX7_learn_47 : decode cX7_learn 47 = .ok (.invokevirtual 40, 3) := by decide +kernel
theorem dX7_learn_50 : decode cX7_learn 50 = .ok (.aload_n 1, 1) := by decide +kernel
theorem dX7_learn_51 : decode cX7_learn 51 = .ok (.iload_n 3, 1) := by decide +kernel
theorem dX7_learn_52 : decode cX7_learn 52 = .ok (.aaload, 1) := by decide +kernel
theorem dX7_learn_53 : decode cX7_learn 53 = .ok (.getfield 46, 3) := by decide +kernel
theorem dX7_learn_56 : decode cX7_learn 56 = .ok (.iconst 1, 1) := by decide +kernel
theorem dX7_learn_57 : decode cX7_learn 57 = .ok (.if_icmp .ne 32, 3) := by decide +kernel
theorem dX7_learn_60 : decode cX7_learn 60 = .ok (.aload_n 0, 1) := by decide +kernel
theorem dX7_learn_61 : decode cX7_learn 61 = .ok (.getfield 12, 3) := by decide +kernel
theorem dX7_learn_64 : decode cX7_learn 64 = .ok (.aload_n 0, 1) := by decide +kernel
theorem dX7_learn_65 : decode cX7_learn 65 = .ok (.getfield 27, 3) := by decide +kernel
theorem dX7_learn_68 : decode cX7_learn 68 = .ok (.invokevirtual 49, 3) := by decide +kernel
theorem dX7_learn_71 : decode cX7_learn 71 = .ok (.aload_n 0, 1) := by decide +kernel
theorem dX7_learn_72 : decode cX7_learn 72 = .ok (.dup, 1) := by decide +kernel
theorem dX7_learn_73 : decode cX7_learn 73 = .ok (.getfield 33, 3) := by decide +kernel
theorem dX7_learn_76 : decode cX7_learn 76 = .ok (.aload_n 1, 1) := by decide +kernel
theorem dX7_learn_77 : decode cX7_learn 77 = .ok (.iload_n 3, 1) := by decide +kernel
theorem dX7_learn_78 : decode cX7_learn 78 = .ok (.aaload, 1) := by decide +kernel
theorem dX7_learn_79 : decode cX7_learn 79 = .ok (.invokevirtual 53, 3) := by decide +kernel
theorem dX7_learn_82 : decode cX7_learn 82 = .ok (.ior, 1) := by decide +kernel
theorem dX7_learn_83 : decode cX7_learn 83 = .ok (.putfield 33, 3) := by decide +kernel
theorem dX7_learn_86 : decode cX7_learn 86 = .ok (.goto 29, 3) := by decide +kernel
theorem dX7_learn_89 : decode cX7_learn 89 = .ok (.aload_n 0, 1) := by decide +kernel
theorem dX7_learn_90 : decode cX7_learn 90 = .ok (.getfield 18, 3) := by decide +kernel
theorem dX7_learn_93 : decode cX7_learn 93 = .ok (.aload_n 0, 1) := by decide +kernel
theorem dX7_learn_94 : decode cX7_learn 94 = .ok (.getfield 27, 3) := by decide +kernel
theorem dX7_learn_97 : decode cX7_learn 97 = .ok (.invokevirtual 49, 3) := by decide +kernel
theorem dX7_learn_100 : decode cX7_learn 100 = .ok (.aload_n 0, 1) := by decide +kernel
theorem dX7_learn_101 : decode cX7_learn 101 = .ok (.dup, 1) := by decide +kernel
theorem dX7_learn_102 : decode cX7_learn 102 = .ok (.getfield 37, 3) := by decide +kernel
theorem dX7_learn_105 : decode cX7_learn 105 = .ok (.aload_n 1, 1) := by decide +kernel
theorem dX7_learn_106 : decode cX7_learn 106 = .ok (.iload_n 3, 1) := by decide +kernel
theorem dX7_learn_107 : decode cX7_learn 107 = .ok (.aaload, 1) := by decide +kernel
theorem dX7_learn_108 : decode cX7_learn 108 = .ok (.invokevirtual 53, 3) := by decide +kernel
theorem dX7_learn_111 : decode cX7_learn 111 = .ok (.ior, 1) := by decide +kernel
theorem dX7_learn_112 : decode cX7_learn 112 = .ok (.putfield 37, 3) := by decide +kernel
theorem dX7_learn_115 : decode cX7_learn 115 = .ok (.iinc 3 1, 3) := by decide +kernel
theorem dX7_learn_118 : decode cX7_learn 118 = .ok (.goto (-92), 3) := by decide +kernel
theorem dX7_learn_121 : decode cX7_learn 121 = .ok (.aload_n 0, 1) := by decide +kernel
theorem dX7_learn_122 : decode cX7_learn 122 = .ok (.getfield 21, 3) := by decide +kernel
theorem dX7_learn_125 : decode cX7_learn 125 = .ok (.aload_n 0, 1) := by decide +kernel
theorem dX7_learn_126 : decode cX7_learn 126 = .ok (.getfield 12, 3) := by decide +kernel
theorem dX7_learn_129 : decode cX7_learn 129 = .ok (.invokevirtual 57, 3) := by decide +kernel
theorem dX7_learn_132 : decode cX7_learn 132 = .ok (.aload_n 0, 1) := by decide +kernel
theorem dX7_learn_133 : decode cX7_learn 133 = .ok (.getfield 21, 3) := by decide +kernel
theorem dX7_learn_136 : decode cX7_learn 136 = .ok (.aload_n 0, 1) := by decide +kernel
theorem dX7_learn_137 : decode cX7_learn 137 = .ok (.invokevirtual 60, 3) := by decide +kernel
theorem dX7_learn_140 : decode cX7_learn 140 = .ok (.invokevirtual 63, 3) := by decide +kernel
theorem dX7_learn_143 : decode cX7_learn 143 = .ok (.aload_n 0, 1) := by decide +kernel
theorem dX7_learn_144 : decode cX7_learn 144 = .ok (.getfield 24, 3) := by decide +kernel
theorem dX7_learn_147 : decode cX7_learn 147 = .ok (.aload_n 0, 1) := by decide +kernel
theorem dX7_learn_148 : decode cX7_learn 148 = .ok (.getfield 18, 3) := by decide +kernel
theorem dX7_learn_151 : decode cX7_learn 151 = .ok (.invokevirtual 57, 3) := by decide +kernel
theorem dX7_learn_154 : decode cX7_learn 154 = .ok (.aload_n 0, 1) := by decide +kernel
theorem dX7_learn_155 : decode cX7_learn 155 = .ok (.getfield 24, 3) := by decide +kernel
theorem dX7_learn_158 : decode cX7_learn 158 = .ok (.aload_n 0, 1) := by decide +kernel
theorem dX7_learn_159 : decode cX7_learn 159 = .ok (.invokevirtual 60, 3) := by decide +kernel
theorem dX7_learn_162 : decode cX7_learn 162 = .ok (.invokevirtual 63, 3) := by decide +kernel
theorem dX7_learn_165 : decode cX7_learn 165 = .ok (.aload_n 0, 1) := by decide +kernel
theorem dX7_learn_166 : decode cX7_learn 166 = .ok (.getfield 24, 3) := by decide +kernel
theorem dX7_learn_169 : decode cX7_learn 169 = .ok (.invokevirtual 67, 3) := by decide +kernel
theorem dX7_learn_172 : decode cX7_learn 172 = .ok (.aload_n 0, 1) := by decide +kernel
theorem dX7_learn_173 : decode cX7_learn 173 = .ok (.iconst 0, 1) := by decide +kernel
theorem dX7_learn_174 : decode cX7_learn 174 = .ok (.putfield 70, 3) := by decide +kernel
theorem dX7_learn_177 : decode cX7_learn 177 = .ok (.return_, 1) := by decide +kernel
set_option maxRecDepth 20000 in
theorem s_X7_sharedLetters {xs : Nat → Int32} {L d : Nat} {h : ev_H} (hS : SH h)   : EV xs L (d + 0) 0 0 M_X7_sharedLetters 434 h 0 [some (.ref 13)] [] (fun sz' h' r => ∃ x : Int32, r = [.int x]) := by
  refine r_aload_n rfl dX7_sharedLetters_0 rfl ?_
  obtain ⟨y52, y53, y54, y55, f51⟩ := hS.o13
  refine r_getv 5 rfl dX7_sharedLetters_1 (show 2 ≤ 13 ∧ 13 < 434 by decide) f51 fl_X7_33 rfl ?_
  refine r_aload_n rfl dX7_sharedLetters_4 rfl ?_
  refine r_getv 6 rfl dX7_sharedLetters_5 (show 2 ≤ 13 ∧ 13 < 434 by decide) f51 fl_X7_37 rfl ?_
  refine r_iand rfl dX7_sharedLetters_8 ?_
  exact r_ret dX7_sharedLetters_9 (rt_i rfl) ⟨_, rfl⟩
set_option maxRecDepth 20000 in
theorem s_X7_ownerOf {xs : Nat → Int32} {L d : Nat} {h : ev_H} (hS : SH h)  {l : Int32} : EV xs L (d + 0) 0 0 M_X7_ownerOf 434 h 0 [some (.ref 13), some (.int l), none, none] [] (fun sz' h' r => ∃ x : Int32, r = [.int x]) := by
  refine r_aload_n rfl dX7_ownerOf_0 rfl ?_
  obtain ⟨y52, y53, y54, y55, f51⟩ := hS.o13
  refine r_getv 5 rfl dX7_ownerOf_1 (show 2 ≤ 13 ∧ 13 < 434 by decide) f51 fl_X7_33 rfl ?_
  refine r_iload_n rfl dX7_ownerOf_4 rfl ?_
  refine r_ishr rfl dX7_ownerOf_5 ?_
  refine r_iconst (v := 1) rfl dX7_ownerOf_6 (by decide) ?_
  refine r_iand rfl dX7_ownerOf_7 ?_
  refine r_topi (fun x56 e57 => ?_)
  refine r_istore_n (ls' := [some (.ref 13), some (.int l), some (.int x56), none]) rfl dX7_ownerOf_8 (Nat.le_of_ble_eq_true rfl) rfl ?_
  refine r_aload_n rfl dX7_ownerOf_9 rfl ?_
  refine r_getv 6 rfl dX7_ownerOf_10 (show 2 ≤ 13 ∧ 13 < 434 by decide) f51 fl_X7_37 rfl ?_
  refine r_iload_n rfl dX7_ownerOf_13 rfl ?_
  refine r_ishr rfl dX7_ownerOf_14 ?_
  refine r_iconst (v := 1) rfl dX7_ownerOf_15 (by decide) ?_
  refine r_iand rfl dX7_ownerOf_16 ?_
  refine r_topi (fun x58 e59 => ?_)
  refine r_istore_n (ls' := [some (.ref 13), some (.int l), some (.int x56), some (.int x58)]) rfl dX7_ownerOf_17 (Nat.le_of_ble_eq_true rfl) rfl ?_
  refine r_iconst (v := 1) rfl dX7_ownerOf_18 (by decide) ?_
  refine r_iload_n rfl dX7_ownerOf_19 rfl ?_
  refine r_imul rfl dX7_ownerOf_20 ?_
  refine r_iconst (v := 2) rfl dX7_ownerOf_21 (by decide) ?_
  refine r_iload_n rfl dX7_ownerOf_22 rfl ?_
  refine r_imul rfl dX7_ownerOf_23 ?_
  refine r_iadd rfl dX7_ownerOf_24 ?_
  exact r_ret dX7_ownerOf_25 (rt_i rfl) ⟨_, rfl⟩
set_option maxRecDepth 20000 in
theorem s_X7_judge {xs : Nat → Int32} {L d : Nat} {h : ev_H} (hS : SH h) {a : Nat} (ha : wsAt a)  : EV xs L (d + 3) 0 0 M_X7_judge 434 h 0 [some (.ref 13), some (.ref a)] [] (fun sz' h' r => ∃ x : Int32, r = [.int x]) := by
  refine r_aload_n rfl dX7_judge_0 rfl ?_
  obtain ⟨g52, hw53⟩ := hS.ws ha
  refine cl_X7_74 rfl rfl dX7_judge_1 (show _ ∧ _ from ⟨ha.2.2.1, Nat.lt_of_succ_lt ha.2.2.2⟩).1 (show _ ∧ _ from ⟨ha.2.2.1, Nat.lt_of_succ_lt ha.2.2.2⟩).2 hw53.2.2.1 (Nat.le_of_ble_eq_true rfl) (s_X10_lettersLookedAt hw53) ?_
  rintro _ h54 _ ⟨rfl, e55, rfl⟩
  replace e55 := e55.symm
  subst e55
  refine r_aload_n rfl dX7_judge_4 rfl ?_
  obtain ⟨y57, y58, y59, y60, f56⟩ := hS.o13
  refine cl_X7_60 rfl rfl dX7_judge_5 (show 2 ≤ 13 ∧ 13 < 434 by decide).1 (show 2 ≤ 13 ∧ 13 < 434 by decide).2 f56 (Nat.le_of_ble_eq_true rfl) ((s_X7_sharedLetters hS ).sh hS) ?_
  rintro _ h61 _ ⟨⟨x63, rfl⟩, rfl, hS62, _⟩
  refine r_iconst (v := (-1)) rfl dX7_judge_8 (by decide) ?_
  refine r_ixor rfl dX7_judge_9 ?_
  refine r_iand rfl dX7_judge_10 ?_
  refine r_if_eq (tgt := 16) rfl rfl dX7_judge_11 (fun c64 => ?_) (fun c64 => ?_)
  · refine r_aload_n rfl dX7_judge_16 rfl ?_
    obtain ⟨y66, y67, y68, y69, f65⟩ := hS62.o13
    refine r_getv 0 rfl dX7_judge_17 (show 2 ≤ 13 ∧ 13 < 434 by decide) f65 fl_X7_12 rfl ?_
    refine r_aload_n rfl dX7_judge_20 rfl ?_
    obtain ⟨g71, hw72⟩ := hS62.ws wsAt_14
    obtain ⟨g74, hw75⟩ := hS62.ws ha
    refine cl_X7_77 rfl rfl dX7_judge_21 (show 2 ≤ 14 ∧ 14 < 434 by decide).1 (show 2 ≤ 14 ∧ 14 < 434 by decide).2 hw72.2.2.1 (Nat.le_of_ble_eq_true rfl) (s_X10_isWithin hw72 hw75) ?_
    rintro _ h76 _ ⟨rfl, e77, rfl⟩
    replace e77 := e77.symm
    subst e77
    refine r_if_ne (tgt := 29) rfl rfl dX7_judge_24 (fun c78 => ?_) (fun c78 => ?_)
    · refine r_aload_n rfl dX7_judge_29 rfl ?_
      refine r_getv 1 rfl dX7_judge_30 (show 2 ≤ 13 ∧ 13 < 434 by decide) f65 fl_X7_18 rfl ?_
      refine r_aload_n rfl dX7_judge_33 rfl ?_
      obtain ⟨g80, hw81⟩ := hS62.ws wsAt_16
      refine cl_X7_81 rfl rfl dX7_judge_34 (show 2 ≤ 16 ∧ 16 < 434 by decide).1 (show 2 ≤ 16 ∧ 16 < 434 by decide).2 hw81.2.2.1 (Nat.le_of_ble_eq_true rfl) (s_X10_sizeWith hw81 hw75) ?_
      rintro _ h82 _ ⟨rfl, e83, rfl⟩
      replace e83 := e83.symm
      subst e83
      refine r_if_eq (tgt := 44) rfl rfl dX7_judge_37 (fun c84 => ?_) (fun c84 => ?_)
      · refine r_iconst (v := 0) rfl dX7_judge_44 (by decide) ?_
        exact r_ret dX7_judge_45 (rt_i rfl) ⟨_, rfl⟩
      · refine r_iconst (v := 3) rfl dX7_judge_40 (by decide) ?_
        refine r_goto (pc' := 45) rfl dX7_judge_41 ?_
        exact r_ret dX7_judge_45 (rt_i rfl) ⟨_, rfl⟩
    · refine r_iconst (v := 2) rfl dX7_judge_27 (by decide) ?_
      exact r_ret dX7_judge_28 (rt_i rfl) ⟨_, rfl⟩
  · refine r_iconst (v := 1) rfl dX7_judge_14 (by decide) ?_
    exact r_ret dX7_judge_15 (rt_i rfl) ⟨_, rfl⟩
set_option maxRecDepth 20000 in
theorem s_X7_freeChoices {xs : Nat → Int32} {L d : Nat} {h : ev_H} (hS : SH h)   : EV xs L (d + 2) 0 0 M_X7_freeChoices 434 h 0 [some (.ref 13), none] [] (fun sz' h' r => ∃ x : Int32, r = [.int x]) := by
  refine r_aload_n rfl dX7_freeChoices_0 rfl ?_
  obtain ⟨y52, y53, y54, y55, f51⟩ := hS.o13
  refine r_getv 3 rfl dX7_freeChoices_1 (show 2 ≤ 13 ∧ 13 < 434 by decide) f51 fl_X7_24 rfl ?_
  obtain ⟨g57, hw58⟩ := hS.ws wsAt_20
  refine cl_X7_85 rfl rfl dX7_freeChoices_4 (show 2 ≤ 20 ∧ 20 < 434 by decide).1 (show 2 ≤ 20 ∧ 20 < 434 by decide).2 hw58.2.2.1 (Nat.le_of_ble_eq_true rfl) (s_X10_size hw58) ?_
  rintro _ h59 _ ⟨rfl, e60, rfl⟩
  replace e60 := e60.symm
  subst e60
  refine r_aload_n rfl dX7_freeChoices_7 rfl ?_
  refine r_getv 3 rfl dX7_freeChoices_8 (show 2 ≤ 13 ∧ 13 < 434 by decide) f51 fl_X7_24 rfl ?_
  refine r_aload_n rfl dX7_freeChoices_11 rfl ?_
  refine r_getv 2 rfl dX7_freeChoices_12 (show 2 ≤ 13 ∧ 13 < 434 by decide) f51 fl_X7_21 rfl ?_
  obtain ⟨g62, hw63⟩ := hS.ws wsAt_18
  refine cl_X7_81 rfl rfl dX7_freeChoices_15 (show 2 ≤ 20 ∧ 20 < 434 by decide).1 (show 2 ≤ 20 ∧ 20 < 434 by decide).2 hw58.2.2.1 (Nat.le_of_ble_eq_true rfl) (s_X10_sizeWith hw58 hw63) ?_
  rintro _ h64 _ ⟨rfl, e65, rfl⟩
  replace e65 := e65.symm
  subst e65
  refine r_isub rfl dX7_freeChoices_18 ?_
  refine r_topi (fun x66 e67 => ?_)
  refine r_istore_n (ls' := [some (.ref 13), some (.int x66)]) rfl dX7_freeChoices_19 (Nat.le_of_ble_eq_true rfl) rfl ?_
  refine r_iload_n rfl dX7_freeChoices_20 rfl ?_
  refine r_bipush (v := 8) rfl dX7_freeChoices_21 (by decide) ?_
  refine r_aload_n rfl dX7_freeChoices_23 rfl ?_
  refine cl_X7_60 rfl rfl dX7_freeChoices_24 (show 2 ≤ 13 ∧ 13 < 434 by decide).1 (show 2 ≤ 13 ∧ 13 < 434 by decide).2 f51 (Nat.le_of_ble_eq_true rfl) ((s_X7_sharedLetters hS ).sh hS) ?_
  rintro _ h68 _ ⟨⟨x70, rfl⟩, rfl, hS69, _⟩
  refine cl_X7_88 rfl rfl dX7_freeChoices_27 (Nat.le_of_ble_eq_true rfl) s_J6_bitCount_0f7a4 ?_
  rintro _ h71 _ ⟨rfl, e72, rfl⟩
  replace e72 := e72.symm
  subst e72
  refine r_isub rfl dX7_freeChoices_30 ?_
  refine r_ishr rfl dX7_freeChoices_31 ?_
  exact r_ret dX7_freeChoices_32 (rt_i rfl) ⟨_, rfl⟩
set_option maxRecDepth 20000 in
theorem s_X7_tellsApart {xs : Nat → Int32} {L d : Nat} {h : ev_H} (hS : SH h)  {m : Int32} : EV xs L (d + 3) 0 0 M_X7_tellsApart 434 h 0 [some (.ref 13), some (.int m)] [] (fun sz' h' r => ∃ x : Int32, r = [.int x]) := by
  refine r_aload_n rfl dX7_tellsApart_0 rfl ?_
  obtain ⟨y52, y53, y54, y55, f51⟩ := hS.o13
  refine r_getv 4 rfl dX7_tellsApart_1 (show 2 ≤ 13 ∧ 13 < 434 by decide) f51 fl_X7_27 rfl ?_
  refine r_aload_n rfl dX7_tellsApart_4 rfl ?_
  refine r_getv 0 rfl dX7_tellsApart_5 (show 2 ≤ 13 ∧ 13 < 434 by decide) f51 fl_X7_12 rfl ?_
  obtain ⟨g57, hw58⟩ := hS.ws wsAt_22
  obtain ⟨g60, hw61⟩ := hS.ws wsAt_14
  refine cl_X7_57 rfl rfl dX7_tellsApart_8 (show 2 ≤ 22 ∧ 22 < 434 by decide).1 (show 2 ≤ 22 ∧ 22 < 434 by decide).2 hw58.2.2.1 (Nat.le_of_ble_eq_true rfl) ((s_X10_become hw58 hw61 (by omega)).sh hS) ?_
  rintro _ h62 _ ⟨⟨rfl, -, rfl⟩, -, hS63, -⟩
  refine r_aload_n rfl dX7_tellsApart_11 rfl ?_
  obtain ⟨y65, y66, y67, y68, f64⟩ := hS63.o13
  refine r_getv 4 rfl dX7_tellsApart_12 (show 2 ≤ 13 ∧ 13 < 434 by decide) f64 fl_X7_27 rfl ?_
  refine r_iload_n rfl dX7_tellsApart_15 rfl ?_
  obtain ⟨g70, hw71⟩ := hS63.ws wsAt_22
  refine cl_X7_63 rfl rfl dX7_tellsApart_16 (show 2 ≤ 22 ∧ 22 < 434 by decide).1 (show 2 ≤ 22 ∧ 22 < 434 by decide).2 hw71.2.2.1 (Nat.le_of_ble_eq_true rfl) ((s_X10_spreadBut hw71).sh hS63) ?_
  rintro _ h72 _ ⟨⟨rfl, -, rfl⟩, -, hS73, -⟩
  refine r_aload_n rfl dX7_tellsApart_19 rfl ?_
  obtain ⟨y75, y76, y77, y78, f74⟩ := hS73.o13
  refine r_getv 4 rfl dX7_tellsApart_20 (show 2 ≤ 13 ∧ 13 < 434 by decide) f74 fl_X7_27 rfl ?_
  refine r_aload_n rfl dX7_tellsApart_23 rfl ?_
  refine r_getv 1 rfl dX7_tellsApart_24 (show 2 ≤ 13 ∧ 13 < 434 by decide) f74 fl_X7_18 rfl ?_
  obtain ⟨g80, hw81⟩ := hS73.ws wsAt_22
  obtain ⟨g83, hw84⟩ := hS73.ws wsAt_16
  refine cl_X7_81 rfl rfl dX7_tellsApart_27 (show 2 ≤ 22 ∧ 22 < 434 by decide).1 (show 2 ≤ 22 ∧ 22 < 434 by decide).2 hw81.2.2.1 (Nat.le_of_ble_eq_true rfl) (s_X10_sizeWith hw81 hw84) ?_
  rintro _ h85 _ ⟨rfl, e86, rfl⟩
  replace e86 := e86.symm
  subst e86
  refine r_if_ne (tgt := 37) rfl rfl dX7_tellsApart_30 (fun c87 => ?_) (fun c87 => ?_)
  · refine r_iconst (v := 0) rfl dX7_tellsApart_37 (by decide) ?_
    exact r_ret dX7_tellsApart_38 (rt_z rfl (Or.inl rfl)) ⟨_, rfl⟩
  · refine r_iconst (v := 1) rfl dX7_tellsApart_33 (by decide) ?_
    refine r_goto (pc' := 38) rfl dX7_tellsApart_34 ?_
    exact r_ret dX7_tellsApart_38 (rt_z rfl (Or.inr rfl)) ⟨_, rfl⟩
set_option maxRecDepth 20000 in
theorem s_X7_findFewest_loop {xs : Nat → Int32} {L d : Nat}  : ∀ (n k : Nat), k + n = 256 → ∀ (h : ev_H) (hS : SH h) (b : Int32) (z : Int32) (u : Option Value) , EV xs L (d + 4) 0 0 M_X7_findFewest 434 h 8 [some (.ref 13), some (.int b), some (.int z), some (.int (nI k)), u] [] (fun sz' h' r => ∃ x : Int32, r = [.int x]) := by
  intro n
  induction n with
  | zero =>
    intro k hk h hS b z u
    obtain rfl : k = 256 := by omega
    refine r_iload_n rfl dX7_findFewest_8 rfl ?_
    refine r_sipush (v := 255) rfl dX7_findFewest_9 (by decide) ?_
    refine r_icmp_gt (tgt := 67) rfl rfl dX7_findFewest_12 (fun _ => ?_) (fun c => absurd c (by decide))
    refine r_iload_n rfl dX7_findFewest_67 rfl ?_
    exact r_ret dX7_findFewest_68 (rt_i rfl) ⟨_, rfl⟩
  | succ n ih =>
    intro k hk h hS b z u
    refine r_iload_n rfl dX7_findFewest_8 rfl ?_
    refine r_sipush (v := 255) rfl dX7_findFewest_9 (by decide) ?_
    refine r_icmp_gt (tgt := 67) rfl rfl dX7_findFewest_12 (fun c => absurd c (show ¬ (255 : Int32) < nI k from nI_nlt (a := 255) (b := k) (by omega) (by decide))) (fun _ => ?_)
    refine r_iload_n rfl dX7_findFewest_15 rfl ?_
    refine r_aload_n rfl dX7_findFewest_16 rfl ?_
    obtain ⟨y602, y603, y604, y605, f601⟩ := hS.o13
    refine cl_X7_60 rfl rfl dX7_findFewest_17 (show 2 ≤ 13 ∧ 13 < 434 by decide).1 (show 2 ≤ 13 ∧ 13 < 434 by decide).2 f601 (Nat.le_of_ble_eq_true rfl) ((s_X7_sharedLetters hS ).sh hS) ?_
    rintro _ h606 _ ⟨⟨x608, rfl⟩, rfl, hS607, _⟩
    refine r_iconst (v := (-1)) rfl dX7_findFewest_20 (by decide) ?_
    refine r_ixor rfl dX7_findFewest_21 ?_
    refine r_iand rfl dX7_findFewest_22 ?_
    refine r_if_ne (tgt := 30) rfl rfl dX7_findFewest_23 (fun c609 => ?_) (fun c609 => ?_)
    · refine r_iconst (v := 0) rfl dX7_findFewest_30 (by decide) ?_
      refine r_istore (ls' := [some (.ref 13), some (.int b), some (.int z), some (.int (nI k)), some (.int 0)]) rfl dX7_findFewest_31 (Nat.le_of_ble_eq_true rfl) rfl ?_
      refine r_iload rfl dX7_findFewest_33 rfl ?_
      refine r_if_eq (tgt := 61) rfl rfl dX7_findFewest_35 (fun _ => ?_) (fun c => absurd c (by decide))
      obtain ⟨x610, e611⟩ : ∃ z : Int32, z = (nI k) + Int32.ofInt 1 := ⟨_, rfl⟩
      refine r_iinc (y := x610) (ls' := [some (.ref 13), some (.int b), some (.int z), some (.int x610), some (.int 0)]) rfl dX7_findFewest_61 rfl e611.symm (Nat.le_of_ble_eq_true rfl) rfl ?_
      refine r_goto (pc' := 8) rfl dX7_findFewest_64 ?_
      have z612 : x610 = nI (k + 1) := by rw [e611]; exact nI_1 k
      subst z612
      exact ih (k + 1) (by omega) h606 hS607 b z (some (.int 0))
    · refine r_iconst (v := 1) rfl dX7_findFewest_26 (by decide) ?_
      refine r_goto (pc' := 31) rfl dX7_findFewest_27 ?_
      refine r_istore (ls' := [some (.ref 13), some (.int b), some (.int z), some (.int (nI k)), some (.int 1)]) rfl dX7_findFewest_31 (Nat.le_of_ble_eq_true rfl) rfl ?_
      refine r_iload rfl dX7_findFewest_33 rfl ?_
      refine r_if_eq (tgt := 61) rfl rfl dX7_findFewest_35 (fun c => absurd c (by decide)) (fun _ => ?_)
      refine r_iload_n rfl dX7_findFewest_38 rfl ?_
      refine cl_X7_88 rfl rfl dX7_findFewest_39 (Nat.le_of_ble_eq_true rfl) s_J6_bitCount_0f7a4 ?_
      rintro _ h613 _ ⟨rfl, e614, rfl⟩
      replace e614 := e614.symm
      subst e614
      refine r_iload_n rfl dX7_findFewest_42 rfl ?_
      refine r_icmp_ge (tgt := 61) rfl rfl dX7_findFewest_43 (fun c615 => ?_) (fun c615 => ?_)
      · obtain ⟨x616, e617⟩ : ∃ z : Int32, z = (nI k) + Int32.ofInt 1 := ⟨_, rfl⟩
        refine r_iinc (y := x616) (ls' := [some (.ref 13), some (.int b), some (.int z), some (.int x616), some (.int 1)]) rfl dX7_findFewest_61 rfl e617.symm (Nat.le_of_ble_eq_true rfl) rfl ?_
        refine r_goto (pc' := 8) rfl dX7_findFewest_64 ?_
        have z618 : x616 = nI (k + 1) := by rw [e617]; exact nI_1 k
        subst z618
        exact ih (k + 1) (by omega) h606 hS607 b z (some (.int 1))
      · refine r_aload_n rfl dX7_findFewest_46 rfl ?_
        refine r_iload_n rfl dX7_findFewest_47 rfl ?_
        obtain ⟨y620, y621, y622, y623, f619⟩ := hS607.o13
        refine cl_X7_100 rfl rfl dX7_findFewest_48 (show 2 ≤ 13 ∧ 13 < 434 by decide).1 (show 2 ≤ 13 ∧ 13 < 434 by decide).2 f619 (Nat.le_of_ble_eq_true rfl) ((s_X7_tellsApart hS607 ).sh hS607) ?_
        rintro _ h624 _ ⟨⟨x626, rfl⟩, rfl, hS625, _⟩
        refine r_if_eq (tgt := 61) rfl rfl dX7_findFewest_51 (fun c627 => ?_) (fun c627 => ?_)
        · obtain ⟨x628, e629⟩ : ∃ z : Int32, z = (nI k) + Int32.ofInt 1 := ⟨_, rfl⟩
          refine r_iinc (y := x628) (ls' := [some (.ref 13), some (.int b), some (.int z), some (.int x628), some (.int 1)]) rfl dX7_findFewest_61 rfl e629.symm (Nat.le_of_ble_eq_true rfl) rfl ?_
          refine r_goto (pc' := 8) rfl dX7_findFewest_64 ?_
          have z630 : x628 = nI (k + 1) := by rw [e629]; exact nI_1 k
          subst z630
          exact ih (k + 1) (by omega) h624 hS625 b z (some (.int 1))
        · refine r_iload_n rfl dX7_findFewest_54 rfl ?_
          refine r_topi (fun x631 e632 => ?_)
          refine r_istore_n (ls' := [some (.ref 13), some (.int x631), some (.int z), some (.int (nI k)), some (.int 1)]) rfl dX7_findFewest_55 (Nat.le_of_ble_eq_true rfl) rfl ?_
          refine r_iload_n rfl dX7_findFewest_56 rfl ?_
          refine cl_X7_88 rfl rfl dX7_findFewest_57 (Nat.le_of_ble_eq_true rfl) s_J6_bitCount_0f7a4 ?_
          rintro _ h633 _ ⟨rfl, e634, rfl⟩
          replace e634 := e634.symm
          subst e634
          refine r_topi (fun x635 e636 => ?_)
          refine r_istore_n (ls' := [some (.ref 13), some (.int x631), some (.int x635), some (.int (nI k)), some (.int 1)]) rfl dX7_findFewest_60 (Nat.le_of_ble_eq_true rfl) rfl ?_
          obtain ⟨x637, e638⟩ : ∃ z : Int32, z = (nI k) + Int32.ofInt 1 := ⟨_, rfl⟩
          refine r_iinc (y := x637) (ls' := [some (.ref 13), some (.int x631), some (.int x635), some (.int x637), some (.int 1)]) rfl dX7_findFewest_61 rfl e638.symm (Nat.le_of_ble_eq_true rfl) rfl ?_
          refine r_goto (pc' := 8) rfl dX7_findFewest_64 ?_
          have z639 : x637 = nI (k + 1) := by rw [e638]; exact nI_1 k
          subst z639
          exact ih (k + 1) (by omega) h624 hS625 x631 x635 (some (.int 1))
set_option maxRecDepth 20000 in
theorem s_X7_findFewest {xs : Nat → Int32} {L d : Nat} {h : ev_H} (hS : SH h)   : EV xs L (d + 4) 0 0 M_X7_findFewest 434 h 0 [some (.ref 13), none, none, none, none] [] (fun sz' h' r => ∃ x : Int32, r = [.int x]) := by
  refine r_bipush (v := (-9)) rfl dX7_findFewest_0 (by decide) ?_
  refine r_istore_n (ls' := [some (.ref 13), some (.int (-9)), none, none, none]) rfl dX7_findFewest_2 (Nat.le_of_ble_eq_true rfl) rfl ?_
  refine r_bipush (v := 9) rfl dX7_findFewest_3 (by decide) ?_
  refine r_istore_n (ls' := [some (.ref 13), some (.int (-9)), some (.int 9), none, none]) rfl dX7_findFewest_5 (Nat.le_of_ble_eq_true rfl) rfl ?_
  refine r_iconst (v := 0) rfl dX7_findFewest_6 (by decide) ?_
  refine r_istore_n (ls' := [some (.ref 13), some (.int (-9)), some (.int 9), some (.int 0), none]) rfl dX7_findFewest_7 (Nat.le_of_ble_eq_true rfl) rfl ?_
  exact s_X7_findFewest_loop 256 0 rfl h hS (-9) 9 none
set_option maxRecDepth 20000 in
theorem s_X7_fewestLetters {xs : Nat → Int32} {L d : Nat} {h : ev_H} (hS : SH h)   : EV xs L (d + 5) 0 0 M_X7_fewestLetters 434 h 0 [some (.ref 13)] [] (fun sz' h' r => ∃ x : Int32, r = [.int x]) := by
  refine r_aload_n rfl dX7_fewestLetters_0 rfl ?_
  obtain ⟨y52, y53, y54, y55, f51⟩ := hS.o13
  refine r_getv 7 rfl dX7_fewestLetters_1 (show 2 ≤ 13 ∧ 13 < 434 by decide) f51 fl_X7_70 rfl ?_
  refine r_if_ne (tgt := 20) rfl rfl dX7_fewestLetters_4 (fun c56 => ?_) (fun c56 => ?_)
  · refine r_aload_n rfl dX7_fewestLetters_20 rfl ?_
    refine r_getv 8 rfl dX7_fewestLetters_21 (show 2 ≤ 13 ∧ 13 < 434 by decide) f51 fl_X7_97 rfl ?_
    exact r_ret dX7_fewestLetters_24 (rt_i rfl) ⟨_, rfl⟩
  · refine r_aload_n rfl dX7_fewestLetters_7 rfl ?_
    refine r_aload_n rfl dX7_fewestLetters_8 rfl ?_
    refine cl_X7_94 rfl rfl dX7_fewestLetters_9 (show 2 ≤ 13 ∧ 13 < 434 by decide).1 (show 2 ≤ 13 ∧ 13 < 434 by decide).2 f51 (Nat.le_of_ble_eq_true rfl) ((s_X7_findFewest hS ).sh hS) ?_
    rintro _ h57 _ ⟨⟨x59, rfl⟩, rfl, hS58, _⟩
    obtain ⟨y61, y62, y63, y64, f60⟩ := hS58.o13
    refine k_put 8 rfl dX7_fewestLetters_12 (show 2 ≤ 13 ∧ 13 < 434 by decide) hS58 f60 (fp_X7_97 rfl _) (Nat.le_of_ble_eq_true rfl) (fun h65 hS66 => ?_)
    refine r_aload_n rfl dX7_fewestLetters_15 rfl ?_
    refine r_iconst (v := 1) rfl dX7_fewestLetters_16 (by decide) ?_
    obtain ⟨y68, y69, y70, y71, f67⟩ := hS66.o13
    refine k_put 7 rfl dX7_fewestLetters_17 (show 2 ≤ 13 ∧ 13 < 434 by decide) hS66 f67 (fp_X7_70 rfl _ (Or.inr rfl)) (Nat.le_of_ble_eq_true rfl) (fun h72 hS73 => ?_)
    refine r_aload_n rfl dX7_fewestLetters_20 rfl ?_
    obtain ⟨y75, y76, y77, y78, f74⟩ := hS73.o13
    refine r_getv 8 rfl dX7_fewestLetters_21 (show 2 ≤ 13 ∧ 13 < 434 by decide) f74 fl_X7_97 rfl ?_
    exact r_ret dX7_fewestLetters_24 (rt_i rfl) ⟨_, rfl⟩
set_option maxRecDepth 20000 in
theorem s_X7_learn_loop {xs : Nat → Int32} {L d : Nat} {c : Int32} : ∀ (n k : Nat), k + n = 40 → ∀ (h : ev_H) (hS : SH h)  , EV xs L (d + 4) 0 0 M_X7_learn 434 h 26 [some (.ref 13), some (.ref 12), some (.int c), some (.int (nI k))] [] (fun sz' h' r => r = []) := by
  intro n
  induction n with
  | zero =>
    intro k hk h hS 
    obtain rfl : k = 40 := by omega
    refine r_iload_n rfl dX7_learn_26 rfl ?_
    refine r_iload_n rfl dX7_learn_27 rfl ?_
    refine r_icmp_ge (tgt := 121) rfl rfl dX7_learn_28 (fun c501 => ?_) (fun c501 => ?_)
    · refine r_aload_n rfl dX7_learn_121 rfl ?_
      obtain ⟨y503, y504, y505, y506, f502⟩ := hS.o13
      refine r_getv 2 rfl dX7_learn_122 (show 2 ≤ 13 ∧ 13 < 434 by decide) f502 fl_X7_21 rfl ?_
      refine r_aload_n rfl dX7_learn_125 rfl ?_
      refine r_getv 0 rfl dX7_learn_126 (show 2 ≤ 13 ∧ 13 < 434 by decide) f502 fl_X7_12 rfl ?_
      obtain ⟨g508, hw509⟩ := hS.ws wsAt_18
      obtain ⟨g511, hw512⟩ := hS.ws wsAt_14
      refine cl_X7_57 rfl rfl dX7_learn_129 (show 2 ≤ 18 ∧ 18 < 434 by decide).1 (show 2 ≤ 18 ∧ 18 < 434 by decide).2 hw509.2.2.1 (Nat.le_of_ble_eq_true rfl) ((s_X10_become hw509 hw512 (by omega)).sh hS) ?_
      rintro _ h513 _ ⟨⟨rfl, -, rfl⟩, -, hS514, -⟩
      refine r_aload_n rfl dX7_learn_132 rfl ?_
      obtain ⟨y516, y517, y518, y519, f515⟩ := hS514.o13
      refine r_getv 2 rfl dX7_learn_133 (show 2 ≤ 13 ∧ 13 < 434 by decide) f515 fl_X7_21 rfl ?_
      refine r_aload_n rfl dX7_learn_136 rfl ?_
      refine cl_X7_60 rfl rfl dX7_learn_137 (show 2 ≤ 13 ∧ 13 < 434 by decide).1 (show 2 ≤ 13 ∧ 13 < 434 by decide).2 f515 (Nat.le_of_ble_eq_true rfl) ((s_X7_sharedLetters hS514 ).sh hS514) ?_
      rintro _ h520 _ ⟨⟨x522, rfl⟩, rfl, hS521, _⟩
      obtain ⟨g524, hw525⟩ := hS521.ws wsAt_18
      refine cl_X7_63 rfl rfl dX7_learn_140 (show 2 ≤ 18 ∧ 18 < 434 by decide).1 (show 2 ≤ 18 ∧ 18 < 434 by decide).2 hw525.2.2.1 (Nat.le_of_ble_eq_true rfl) ((s_X10_spreadBut hw525).sh hS521) ?_
      rintro _ h526 _ ⟨⟨rfl, -, rfl⟩, -, hS527, -⟩
      refine r_aload_n rfl dX7_learn_143 rfl ?_
      obtain ⟨y529, y530, y531, y532, f528⟩ := hS527.o13
      refine r_getv 3 rfl dX7_learn_144 (show 2 ≤ 13 ∧ 13 < 434 by decide) f528 fl_X7_24 rfl ?_
      refine r_aload_n rfl dX7_learn_147 rfl ?_
      refine r_getv 1 rfl dX7_learn_148 (show 2 ≤ 13 ∧ 13 < 434 by decide) f528 fl_X7_18 rfl ?_
      obtain ⟨g534, hw535⟩ := hS527.ws wsAt_20
      obtain ⟨g537, hw538⟩ := hS527.ws wsAt_16
      refine cl_X7_57 rfl rfl dX7_learn_151 (show 2 ≤ 20 ∧ 20 < 434 by decide).1 (show 2 ≤ 20 ∧ 20 < 434 by decide).2 hw535.2.2.1 (Nat.le_of_ble_eq_true rfl) ((s_X10_become hw535 hw538 (by omega)).sh hS527) ?_
      rintro _ h539 _ ⟨⟨rfl, -, rfl⟩, -, hS540, -⟩
      refine r_aload_n rfl dX7_learn_154 rfl ?_
      obtain ⟨y542, y543, y544, y545, f541⟩ := hS540.o13
      refine r_getv 3 rfl dX7_learn_155 (show 2 ≤ 13 ∧ 13 < 434 by decide) f541 fl_X7_24 rfl ?_
      refine r_aload_n rfl dX7_learn_158 rfl ?_
      refine cl_X7_60 rfl rfl dX7_learn_159 (show 2 ≤ 13 ∧ 13 < 434 by decide).1 (show 2 ≤ 13 ∧ 13 < 434 by decide).2 f541 (Nat.le_of_ble_eq_true rfl) ((s_X7_sharedLetters hS540 ).sh hS540) ?_
      rintro _ h546 _ ⟨⟨x548, rfl⟩, rfl, hS547, _⟩
      obtain ⟨g550, hw551⟩ := hS547.ws wsAt_20
      refine cl_X7_63 rfl rfl dX7_learn_162 (show 2 ≤ 20 ∧ 20 < 434 by decide).1 (show 2 ≤ 20 ∧ 20 < 434 by decide).2 hw551.2.2.1 (Nat.le_of_ble_eq_true rfl) ((s_X10_spreadBut hw551).sh hS547) ?_
      rintro _ h552 _ ⟨⟨rfl, -, rfl⟩, -, hS553, -⟩
      refine r_aload_n rfl dX7_learn_165 rfl ?_
      obtain ⟨y555, y556, y557, y558, f554⟩ := hS553.o13
      refine r_getv 3 rfl dX7_learn_166 (show 2 ≤ 13 ∧ 13 < 434 by decide) f554 fl_X7_24 rfl ?_
      obtain ⟨g560, hw561⟩ := hS553.ws wsAt_20
      refine cl_X7_67 rfl rfl dX7_learn_169 (show 2 ≤ 20 ∧ 20 < 434 by decide).1 (show 2 ≤ 20 ∧ 20 < 434 by decide).2 hw561.2.2.1 (Nat.le_of_ble_eq_true rfl) ((s_X10_turn hw561).sh hS553) ?_
      rintro _ h562 _ ⟨⟨rfl, -, rfl⟩, -, hS563, -⟩
      refine r_aload_n rfl dX7_learn_172 rfl ?_
      refine r_iconst (v := 0) rfl dX7_learn_173 (by decide) ?_
      obtain ⟨y565, y566, y567, y568, f564⟩ := hS563.o13
      refine k_put 7 rfl dX7_learn_174 (show 2 ≤ 13 ∧ 13 < 434 by decide) hS563 f564 (fp_X7_70 rfl _ (Or.inl rfl)) (Nat.le_of_ble_eq_true rfl) (fun h569 hS570 => ?_)
      exact r_ret dX7_learn_177 (rt_v rfl) rfl
    · refine r_iload_n rfl dX7_learn_31 rfl ?_
      refine r_aload_n rfl dX7_learn_32 rfl ?_
      refine r_alen (v := 40) rfl dX7_learn_33 (show 2 ≤ 12 ∧ 12 < 434 by decide).1 (show 2 ≤ 12 ∧ 12 < 434 by decide).2 hS.o12 (by decide) (by decide) ?_
      refine r_icmp_ge (tgt := 121) rfl rfl dX7_learn_34 (fun _ => ?_) (fun c => absurd c (by decide))
      refine r_aload_n rfl dX7_learn_121 rfl ?_
      obtain ⟨y573, y574, y575, y576, f572⟩ := hS.o13
      refine r_getv 2 rfl dX7_learn_122 (show 2 ≤ 13 ∧ 13 < 434 by decide) f572 fl_X7_21 rfl ?_
      refine r_aload_n rfl dX7_learn_125 rfl ?_
      refine r_getv 0 rfl dX7_learn_126 (show 2 ≤ 13 ∧ 13 < 434 by decide) f572 fl_X7_12 rfl ?_
      obtain ⟨g578, hw579⟩ := hS.ws wsAt_18
      obtain ⟨g581, hw582⟩ := hS.ws wsAt_14
      refine cl_X7_57 rfl rfl dX7_learn_129 (show 2 ≤ 18 ∧ 18 < 434 by decide).1 (show 2 ≤ 18 ∧ 18 < 434 by decide).2 hw579.2.2.1 (Nat.le_of_ble_eq_true rfl) ((s_X10_become hw579 hw582 (by omega)).sh hS) ?_
      rintro _ h583 _ ⟨⟨rfl, -, rfl⟩, -, hS584, -⟩
      refine r_aload_n rfl dX7_learn_132 rfl ?_
      obtain ⟨y586, y587, y588, y589, f585⟩ := hS584.o13
      refine r_getv 2 rfl dX7_learn_133 (show 2 ≤ 13 ∧ 13 < 434 by decide) f585 fl_X7_21 rfl ?_
      refine r_aload_n rfl dX7_learn_136 rfl ?_
      refine cl_X7_60 rfl rfl dX7_learn_137 (show 2 ≤ 13 ∧ 13 < 434 by decide).1 (show 2 ≤ 13 ∧ 13 < 434 by decide).2 f585 (Nat.le_of_ble_eq_true rfl) ((s_X7_sharedLetters hS584 ).sh hS584) ?_
      rintro _ h590 _ ⟨⟨x592, rfl⟩, rfl, hS591, _⟩
      obtain ⟨g594, hw595⟩ := hS591.ws wsAt_18
      refine cl_X7_63 rfl rfl dX7_learn_140 (show 2 ≤ 18 ∧ 18 < 434 by decide).1 (show 2 ≤ 18 ∧ 18 < 434 by decide).2 hw595.2.2.1 (Nat.le_of_ble_eq_true rfl) ((s_X10_spreadBut hw595).sh hS591) ?_
      rintro _ h596 _ ⟨⟨rfl, -, rfl⟩, -, hS597, -⟩
      refine r_aload_n rfl dX7_learn_143 rfl ?_
      obtain ⟨y599, y600, y601, y602, f598⟩ := hS597.o13
      refine r_getv 3 rfl dX7_learn_144 (show 2 ≤ 13 ∧ 13 < 434 by decide) f598 fl_X7_24 rfl ?_
      refine r_aload_n rfl dX7_learn_147 rfl ?_
      refine r_getv 1 rfl dX7_learn_148 (show 2 ≤ 13 ∧ 13 < 434 by decide) f598 fl_X7_18 rfl ?_
      obtain ⟨g604, hw605⟩ := hS597.ws wsAt_20
      obtain ⟨g607, hw608⟩ := hS597.ws wsAt_16
      refine cl_X7_57 rfl rfl dX7_learn_151 (show 2 ≤ 20 ∧ 20 < 434 by decide).1 (show 2 ≤ 20 ∧ 20 < 434 by decide).2 hw605.2.2.1 (Nat.le_of_ble_eq_true rfl) ((s_X10_become hw605 hw608 (by omega)).sh hS597) ?_
      rintro _ h609 _ ⟨⟨rfl, -, rfl⟩, -, hS610, -⟩
      refine r_aload_n rfl dX7_learn_154 rfl ?_
      obtain ⟨y612, y613, y614, y615, f611⟩ := hS610.o13
      refine r_getv 3 rfl dX7_learn_155 (show 2 ≤ 13 ∧ 13 < 434 by decide) f611 fl_X7_24 rfl ?_
      refine r_aload_n rfl dX7_learn_158 rfl ?_
      refine cl_X7_60 rfl rfl dX7_learn_159 (show 2 ≤ 13 ∧ 13 < 434 by decide).1 (show 2 ≤ 13 ∧ 13 < 434 by decide).2 f611 (Nat.le_of_ble_eq_true rfl) ((s_X7_sharedLetters hS610 ).sh hS610) ?_
      rintro _ h616 _ ⟨⟨x618, rfl⟩, rfl, hS617, _⟩
      obtain ⟨g620, hw621⟩ := hS617.ws wsAt_20
      refine cl_X7_63 rfl rfl dX7_learn_162 (show 2 ≤ 20 ∧ 20 < 434 by decide).1 (show 2 ≤ 20 ∧ 20 < 434 by decide).2 hw621.2.2.1 (Nat.le_of_ble_eq_true rfl) ((s_X10_spreadBut hw621).sh hS617) ?_
      rintro _ h622 _ ⟨⟨rfl, -, rfl⟩, -, hS623, -⟩
      refine r_aload_n rfl dX7_learn_165 rfl ?_
      obtain ⟨y625, y626, y627, y628, f624⟩ := hS623.o13
      refine r_getv 3 rfl dX7_learn_166 (show 2 ≤ 13 ∧ 13 < 434 by decide) f624 fl_X7_24 rfl ?_
      obtain ⟨g630, hw631⟩ := hS623.ws wsAt_20
      refine cl_X7_67 rfl rfl dX7_learn_169 (show 2 ≤ 20 ∧ 20 < 434 by decide).1 (show 2 ≤ 20 ∧ 20 < 434 by decide).2 hw631.2.2.1 (Nat.le_of_ble_eq_true rfl) ((s_X10_turn hw631).sh hS623) ?_
      rintro _ h632 _ ⟨⟨rfl, -, rfl⟩, -, hS633, -⟩
      refine r_aload_n rfl dX7_learn_172 rfl ?_
      refine r_iconst (v := 0) rfl dX7_learn_173 (by decide) ?_
      obtain ⟨y635, y636, y637, y638, f634⟩ := hS633.o13
      refine k_put 7 rfl dX7_learn_174 (show 2 ≤ 13 ∧ 13 < 434 by decide) hS633 f634 (fp_X7_70 rfl _ (Or.inl rfl)) (Nat.le_of_ble_eq_true rfl) (fun h639 hS640 => ?_)
      exact r_ret dX7_learn_177 (rt_v rfl) rfl
  | succ n ih =>
    intro k hk h hS 
    refine r_iload_n rfl dX7_learn_26 rfl ?_
    refine r_iload_n rfl dX7_learn_27 rfl ?_
    refine r_icmp_ge (tgt := 121) rfl rfl dX7_learn_28 (fun c601 => ?_) (fun c601 => ?_)
    · refine r_aload_n rfl dX7_learn_121 rfl ?_
      obtain ⟨y603, y604, y605, y606, f602⟩ := hS.o13
      refine r_getv 2 rfl dX7_learn_122 (show 2 ≤ 13 ∧ 13 < 434 by decide) f602 fl_X7_21 rfl ?_
      refine r_aload_n rfl dX7_learn_125 rfl ?_
      refine r_getv 0 rfl dX7_learn_126 (show 2 ≤ 13 ∧ 13 < 434 by decide) f602 fl_X7_12 rfl ?_
      obtain ⟨g608, hw609⟩ := hS.ws wsAt_18
      obtain ⟨g611, hw612⟩ := hS.ws wsAt_14
      refine cl_X7_57 rfl rfl dX7_learn_129 (show 2 ≤ 18 ∧ 18 < 434 by decide).1 (show 2 ≤ 18 ∧ 18 < 434 by decide).2 hw609.2.2.1 (Nat.le_of_ble_eq_true rfl) ((s_X10_become hw609 hw612 (by omega)).sh hS) ?_
      rintro _ h613 _ ⟨⟨rfl, -, rfl⟩, -, hS614, -⟩
      refine r_aload_n rfl dX7_learn_132 rfl ?_
      obtain ⟨y616, y617, y618, y619, f615⟩ := hS614.o13
      refine r_getv 2 rfl dX7_learn_133 (show 2 ≤ 13 ∧ 13 < 434 by decide) f615 fl_X7_21 rfl ?_
      refine r_aload_n rfl dX7_learn_136 rfl ?_
      refine cl_X7_60 rfl rfl dX7_learn_137 (show 2 ≤ 13 ∧ 13 < 434 by decide).1 (show 2 ≤ 13 ∧ 13 < 434 by decide).2 f615 (Nat.le_of_ble_eq_true rfl) ((s_X7_sharedLetters hS614 ).sh hS614) ?_
      rintro _ h620 _ ⟨⟨x622, rfl⟩, rfl, hS621, _⟩
      obtain ⟨g624, hw625⟩ := hS621.ws wsAt_18
      refine cl_X7_63 rfl rfl dX7_learn_140 (show 2 ≤ 18 ∧ 18 < 434 by decide).1 (show 2 ≤ 18 ∧ 18 < 434 by decide).2 hw625.2.2.1 (Nat.le_of_ble_eq_true rfl) ((s_X10_spreadBut hw625).sh hS621) ?_
      rintro _ h626 _ ⟨⟨rfl, -, rfl⟩, -, hS627, -⟩
      refine r_aload_n rfl dX7_learn_143 rfl ?_
      obtain ⟨y629, y630, y631, y632, f628⟩ := hS627.o13
      refine r_getv 3 rfl dX7_learn_144 (show 2 ≤ 13 ∧ 13 < 434 by decide) f628 fl_X7_24 rfl ?_
      refine r_aload_n rfl dX7_learn_147 rfl ?_
      refine r_getv 1 rfl dX7_learn_148 (show 2 ≤ 13 ∧ 13 < 434 by decide) f628 fl_X7_18 rfl ?_
      obtain ⟨g634, hw635⟩ := hS627.ws wsAt_20
      obtain ⟨g637, hw638⟩ := hS627.ws wsAt_16
      refine cl_X7_57 rfl rfl dX7_learn_151 (show 2 ≤ 20 ∧ 20 < 434 by decide).1 (show 2 ≤ 20 ∧ 20 < 434 by decide).2 hw635.2.2.1 (Nat.le_of_ble_eq_true rfl) ((s_X10_become hw635 hw638 (by omega)).sh hS627) ?_
      rintro _ h639 _ ⟨⟨rfl, -, rfl⟩, -, hS640, -⟩
      refine r_aload_n rfl dX7_learn_154 rfl ?_
      obtain ⟨y642, y643, y644, y645, f641⟩ := hS640.o13
      refine r_getv 3 rfl dX7_learn_155 (show 2 ≤ 13 ∧ 13 < 434 by decide) f641 fl_X7_24 rfl ?_
      refine r_aload_n rfl dX7_learn_158 rfl ?_
      refine cl_X7_60 rfl rfl dX7_learn_159 (show 2 ≤ 13 ∧ 13 < 434 by decide).1 (show 2 ≤ 13 ∧ 13 < 434 by decide).2 f641 (Nat.le_of_ble_eq_true rfl) ((s_X7_sharedLetters hS640 ).sh hS640) ?_
      rintro _ h646 _ ⟨⟨x648, rfl⟩, rfl, hS647, _⟩
      obtain ⟨g650, hw651⟩ := hS647.ws wsAt_20
      refine cl_X7_63 rfl rfl dX7_learn_162 (show 2 ≤ 20 ∧ 20 < 434 by decide).1 (show 2 ≤ 20 ∧ 20 < 434 by decide).2 hw651.2.2.1 (Nat.le_of_ble_eq_true rfl) ((s_X10_spreadBut hw651).sh hS647) ?_
      rintro _ h652 _ ⟨⟨rfl, -, rfl⟩, -, hS653, -⟩
      refine r_aload_n rfl dX7_learn_165 rfl ?_
      obtain ⟨y655, y656, y657, y658, f654⟩ := hS653.o13
      refine r_getv 3 rfl dX7_learn_166 (show 2 ≤ 13 ∧ 13 < 434 by decide) f654 fl_X7_24 rfl ?_
      obtain ⟨g660, hw661⟩ := hS653.ws wsAt_20
      refine cl_X7_67 rfl rfl dX7_learn_169 (show 2 ≤ 20 ∧ 20 < 434 by decide).1 (show 2 ≤ 20 ∧ 20 < 434 by decide).2 hw661.2.2.1 (Nat.le_of_ble_eq_true rfl) ((s_X10_turn hw661).sh hS653) ?_
      rintro _ h662 _ ⟨⟨rfl, -, rfl⟩, -, hS663, -⟩
      refine r_aload_n rfl dX7_learn_172 rfl ?_
      refine r_iconst (v := 0) rfl dX7_learn_173 (by decide) ?_
      obtain ⟨y665, y666, y667, y668, f664⟩ := hS663.o13
      refine k_put 7 rfl dX7_learn_174 (show 2 ≤ 13 ∧ 13 < 434 by decide) hS663 f664 (fp_X7_70 rfl _ (Or.inl rfl)) (Nat.le_of_ble_eq_true rfl) (fun h669 hS670 => ?_)
      exact r_ret dX7_learn_177 (rt_v rfl) rfl
    · refine r_iload_n rfl dX7_learn_31 rfl ?_
      refine r_aload_n rfl dX7_learn_32 rfl ?_
      refine r_alen (v := 40) rfl dX7_learn_33 (show 2 ≤ 12 ∧ 12 < 434 by decide).1 (show 2 ≤ 12 ∧ 12 < 434 by decide).2 hS.o12 (by decide) (by decide) ?_
      refine r_icmp_ge (tgt := 121) rfl rfl dX7_learn_34 (fun c => absurd c (show ¬ (40 : Int32) ≤ nI k from nI_ge (a := k) (b := 40) (by omega) (by decide))) (fun _ => ?_)
      refine r_aload_n rfl dX7_learn_37 rfl ?_
      refine r_iload_n rfl dX7_learn_38 rfl ?_
      refine r_aald (jn := k) (v := .ref (100 + 8 * k)) rfl dX7_learn_39 (show 2 ≤ 12 ∧ 12 < 434 by decide).1 (show 2 ≤ 12 ∧ 12 < 434 by decide).2 hS.o12 (by decide) (vp_in_nI (by omega) (by decide)) (nI_clamp (by omega)) (by show va_rf (if _ < _ then _ else _) = _; rw [if_pos (show k < 40 by omega)]; rfl) ?_
      refine r_aload_n rfl dX7_learn_40 rfl ?_
      obtain ⟨y673, y674, y675, y676, f672⟩ := hS.o13
      refine r_getv 4 rfl dX7_learn_41 (show 2 ≤ 13 ∧ 13 < 434 by decide) f672 fl_X7_27 rfl ?_
      refine r_sipush (v := 255) rfl dX7_learn_44 (by decide) ?_
      obtain ⟨y678, y679, y680, y681, y682, y683, f677⟩ := hS.ln (show k < 40 by omega)
      refine cl_X7_40 rfl rfl dX7_learn_47 (show 2 ≤ 100 + 8 * k ∧ 100 + 8 * k < 434 by omega).1 (show 2 ≤ 100 + 8 * k ∧ 100 + 8 * k < 434 by omega).2 f677 (Nat.le_of_ble_eq_true rfl) ((s_X3_gatherWorlds hS (show k < 40 by omega) wsAt_22).sh hS) ?_
      rintro _ h684 _ ⟨rfl, rfl, hS685, _⟩
      refine r_aload_n rfl dX7_learn_50 rfl ?_
      refine r_iload_n rfl dX7_learn_51 rfl ?_
      refine r_aald (jn := k) (v := .ref (100 + 8 * k)) rfl dX7_learn_52 (show 2 ≤ 12 ∧ 12 < 434 by decide).1 (show 2 ≤ 12 ∧ 12 < 434 by decide).2 hS685.o12 (by decide) (vp_in_nI (by omega) (by decide)) (nI_clamp (by omega)) (by show va_rf (if _ < _ then _ else _) = _; rw [if_pos (show k < 40 by omega)]; rfl) ?_
      obtain ⟨y688, y689, y690, y691, y692, y693, f687⟩ := hS685.ln (show k < 40 by omega)
      refine r_getv 3 rfl dX7_learn_53 (show 2 ≤ 100 + 8 * k ∧ 100 + 8 * k < 434 by omega) f687 fl_X7_46 rfl ?_
      refine r_iconst (v := 1) rfl dX7_learn_56 (by decide) ?_
      refine r_icmp_ne (tgt := 89) rfl rfl dX7_learn_57 (fun c694 => ?_) (fun c694 => ?_)
      · refine r_aload_n rfl dX7_learn_89 rfl ?_
        obtain ⟨y696, y697, y698, y699, f695⟩ := hS685.o13
        refine r_getv 1 rfl dX7_learn_90 (show 2 ≤ 13 ∧ 13 < 434 by decide) f695 fl_X7_18 rfl ?_
        refine r_aload_n rfl dX7_learn_93 rfl ?_
        refine r_getv 4 rfl dX7_learn_94 (show 2 ≤ 13 ∧ 13 < 434 by decide) f695 fl_X7_27 rfl ?_
        obtain ⟨g701, hw702⟩ := hS685.ws wsAt_16
        obtain ⟨g704, hw705⟩ := hS685.ws wsAt_22
        refine cl_X7_49 rfl rfl dX7_learn_97 (show 2 ≤ 16 ∧ 16 < 434 by decide).1 (show 2 ≤ 16 ∧ 16 < 434 by decide).2 hw702.2.2.1 (Nat.le_of_ble_eq_true rfl) ((s_X10_meet hw702 hw705 (by omega)).sh hS685) ?_
        rintro _ h706 _ ⟨⟨rfl, -, rfl⟩, -, hS707, -⟩
        refine r_aload_n rfl dX7_learn_100 rfl ?_
        refine r_dup rfl dX7_learn_101 rfl ?_
        obtain ⟨y709, y710, y711, y712, f708⟩ := hS707.o13
        refine r_getv 6 rfl dX7_learn_102 (show 2 ≤ 13 ∧ 13 < 434 by decide) f708 fl_X7_37 rfl ?_
        refine r_aload_n rfl dX7_learn_105 rfl ?_
        refine r_iload_n rfl dX7_learn_106 rfl ?_
        refine r_aald (jn := k) (v := .ref (100 + 8 * k)) rfl dX7_learn_107 (show 2 ≤ 12 ∧ 12 < 434 by decide).1 (show 2 ≤ 12 ∧ 12 < 434 by decide).2 hS707.o12 (by decide) (vp_in_nI (by omega) (by decide)) (nI_clamp (by omega)) (by show va_rf (if _ < _ then _ else _) = _; rw [if_pos (show k < 40 by omega)]; rfl) ?_
        obtain ⟨y715, y716, y717, y718, y719, y720, f714⟩ := hS707.ln (show k < 40 by omega)
        refine cl_X7_53 rfl rfl dX7_learn_108 (show 2 ≤ 100 + 8 * k ∧ 100 + 8 * k < 434 by omega).1 (show 2 ≤ 100 + 8 * k ∧ 100 + 8 * k < 434 by omega).2 f714 (Nat.le_of_ble_eq_true rfl) ((s_X3_letters hS707 (show k < 40 by omega)).sh hS707) ?_
        rintro _ h721 _ ⟨⟨x723, rfl⟩, rfl, hS722, _⟩
        refine r_ior rfl dX7_learn_111 ?_
        refine r_topi (fun x724 e725 => ?_)
        obtain ⟨y727, y728, y729, y730, f726⟩ := hS722.o13
        refine k_put 6 rfl dX7_learn_112 (show 2 ≤ 13 ∧ 13 < 434 by decide) hS722 f726 (fp_X7_37 rfl _) (Nat.le_of_ble_eq_true rfl) (fun h731 hS732 => ?_)
        obtain ⟨x733, e734⟩ : ∃ z : Int32, z = (nI k) + Int32.ofInt 1 := ⟨_, rfl⟩
        refine r_iinc (y := x733) (ls' := [some (.ref 13), some (.ref 12), some (.int c), some (.int x733)]) rfl dX7_learn_115 rfl e734.symm (Nat.le_of_ble_eq_true rfl) rfl ?_
        refine r_goto (pc' := 26) rfl dX7_learn_118 ?_
        have z735 : x733 = nI (k + 1) := by rw [e734]; exact nI_1 k
        subst z735
        exact ih (k + 1) (by omega) h731 hS732
      · refine r_aload_n rfl dX7_learn_60 rfl ?_
        obtain ⟨y737, y738, y739, y740, f736⟩ := hS685.o13
        refine r_getv 0 rfl dX7_learn_61 (show 2 ≤ 13 ∧ 13 < 434 by decide) f736 fl_X7_12 rfl ?_
        refine r_aload_n rfl dX7_learn_64 rfl ?_
        refine r_getv 4 rfl dX7_learn_65 (show 2 ≤ 13 ∧ 13 < 434 by decide) f736 fl_X7_27 rfl ?_
        obtain ⟨g742, hw743⟩ := hS685.ws wsAt_14
        obtain ⟨g745, hw746⟩ := hS685.ws wsAt_22
        refine cl_X7_49 rfl rfl dX7_learn_68 (show 2 ≤ 14 ∧ 14 < 434 by decide).1 (show 2 ≤ 14 ∧ 14 < 434 by decide).2 hw743.2.2.1 (Nat.le_of_ble_eq_true rfl) ((s_X10_meet hw743 hw746 (by omega)).sh hS685) ?_
        rintro _ h747 _ ⟨⟨rfl, -, rfl⟩, -, hS748, -⟩
        refine r_aload_n rfl dX7_learn_71 rfl ?_
        refine r_dup rfl dX7_learn_72 rfl ?_
        obtain ⟨y750, y751, y752, y753, f749⟩ := hS748.o13
        refine r_getv 5 rfl dX7_learn_73 (show 2 ≤ 13 ∧ 13 < 434 by decide) f749 fl_X7_33 rfl ?_
        refine r_aload_n rfl dX7_learn_76 rfl ?_
        refine r_iload_n rfl dX7_learn_77 rfl ?_
        refine r_aald (jn := k) (v := .ref (100 + 8 * k)) rfl dX7_learn_78 (show 2 ≤ 12 ∧ 12 < 434 by decide).1 (show 2 ≤ 12 ∧ 12 < 434 by decide).2 hS748.o12 (by decide) (vp_in_nI (by omega) (by decide)) (nI_clamp (by omega)) (by show va_rf (if _ < _ then _ else _) = _; rw [if_pos (show k < 40 by omega)]; rfl) ?_
        obtain ⟨y756, y757, y758, y759, y760, y761, f755⟩ := hS748.ln (show k < 40 by omega)
        refine cl_X7_53 rfl rfl dX7_learn_79 (show 2 ≤ 100 + 8 * k ∧ 100 + 8 * k < 434 by omega).1 (show 2 ≤ 100 + 8 * k ∧ 100 + 8 * k < 434 by omega).2 f755 (Nat.le_of_ble_eq_true rfl) ((s_X3_letters hS748 (show k < 40 by omega)).sh hS748) ?_
        rintro _ h762 _ ⟨⟨x764, rfl⟩, rfl, hS763, _⟩
        refine r_ior rfl dX7_learn_82 ?_
        refine r_topi (fun x765 e766 => ?_)
        obtain ⟨y768, y769, y770, y771, f767⟩ := hS763.o13
        refine k_put 5 rfl dX7_learn_83 (show 2 ≤ 13 ∧ 13 < 434 by decide) hS763 f767 (fp_X7_33 rfl _) (Nat.le_of_ble_eq_true rfl) (fun h772 hS773 => ?_)
        refine r_goto (pc' := 115) rfl dX7_learn_86 ?_
        obtain ⟨x774, e775⟩ : ∃ z : Int32, z = (nI k) + Int32.ofInt 1 := ⟨_, rfl⟩
        refine r_iinc (y := x774) (ls' := [some (.ref 13), some (.ref 12), some (.int c), some (.int x774)]) rfl dX7_learn_115 rfl e775.symm (Nat.le_of_ble_eq_true rfl) rfl ?_
        refine r_goto (pc' := 26) rfl dX7_learn_118 ?_
        have z776 : x774 = nI (k + 1) := by rw [e775]; exact nI_1 k
        subst z776
        exact ih (k + 1) (by omega) h772 hS773
set_option maxRecDepth 20000 in
theorem s_X7_learn {xs : Nat → Int32} {L d : Nat} {h : ev_H} (hS : SH h)  {c : Int32} : EV xs L (d + 4) 0 0 M_X7_learn 434 h 0 [some (.ref 13), some (.ref 12), some (.int c), none] [] (fun sz' h' r => r = []) := by
  refine r_aload_n rfl dX7_learn_0 rfl ?_
  obtain ⟨y52, y53, y54, y55, f51⟩ := hS.o13
  refine r_getv 0 rfl dX7_learn_1 (show 2 ≤ 13 ∧ 13 < 434 by decide) f51 fl_X7_12 rfl ?_
  obtain ⟨g57, hw58⟩ := hS.ws wsAt_14
  refine cl_X7_30 rfl rfl dX7_learn_4 (show 2 ≤ 14 ∧ 14 < 434 by decide).1 (show 2 ≤ 14 ∧ 14 < 434 by decide).2 hw58.2.2.1 (Nat.le_of_ble_eq_true rfl) ((s_X10_fill hw58).sh hS) ?_
  rintro _ h59 _ ⟨⟨rfl, -, rfl⟩, -, hS60, -⟩
  refine r_aload_n rfl dX7_learn_7 rfl ?_
  obtain ⟨y62, y63, y64, y65, f61⟩ := hS60.o13
  refine r_getv 1 rfl dX7_learn_8 (show 2 ≤ 13 ∧ 13 < 434 by decide) f61 fl_X7_18 rfl ?_
  obtain ⟨g67, hw68⟩ := hS60.ws wsAt_16
  refine cl_X7_30 rfl rfl dX7_learn_11 (show 2 ≤ 16 ∧ 16 < 434 by decide).1 (show 2 ≤ 16 ∧ 16 < 434 by decide).2 hw68.2.2.1 (Nat.le_of_ble_eq_true rfl) ((s_X10_fill hw68).sh hS60) ?_
  rintro _ h69 _ ⟨⟨rfl, -, rfl⟩, -, hS70, -⟩
  refine r_aload_n rfl dX7_learn_14 rfl ?_
  refine r_iconst (v := 0) rfl dX7_learn_15 (by decide) ?_
  obtain ⟨y72, y73, y74, y75, f71⟩ := hS70.o13
  refine k_put 5 rfl dX7_learn_16 (show 2 ≤ 13 ∧ 13 < 434 by decide) hS70 f71 (fp_X7_33 rfl _) (Nat.le_of_ble_eq_true rfl) (fun h76 hS77 => ?_)
  refine r_aload_n rfl dX7_learn_19 rfl ?_
  refine r_iconst (v := 0) rfl dX7_learn_20 (by decide) ?_
  obtain ⟨y79, y80, y81, y82, f78⟩ := hS77.o13
  refine k_put 6 rfl dX7_learn_21 (show 2 ≤ 13 ∧ 13 < 434 by decide) hS77 f78 (fp_X7_37 rfl _) (Nat.le_of_ble_eq_true rfl) (fun h83 hS84 => ?_)
  refine r_iconst (v := 0) rfl dX7_learn_24 (by decide) ?_
  refine r_istore_n (ls' := [some (.ref 13), some (.ref 12), some (.int c), some (.int 0)]) rfl dX7_learn_25 (Nat.le_of_ble_eq_true rfl) rfl ?_
  exact s_X7_learn_loop 40 0 rfl h83 hS84
end
