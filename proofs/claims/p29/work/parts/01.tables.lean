-- ===== PART A: goes FIRST, ahead of the names: the tables' words, and 'selects' of the private methods out of them =====
/-- a private method of a class that the tables say can be made, by its rows of tables_1 -/
def lw_okq (q : MethodName × Nat) : Prop := (q.1.cls ≠ "java/lang/invoke/MethodHandle" ∧ q.1.cls ≠ "java/lang/invoke/VarHandle") ∧ Cond.instantiable q.1.cls q.2 ∈ tables_1 ∧ Cond.privateMethod q.1 ∈ tables_1 ∧ Cond.instanceMethod q.1 ∈ tables_1
theorem lw_p0 : lw_okq (⟨"LeftHands", "refused", "(I)I"⟩, 18) := ⟨⟨by decide +kernel, by decide +kernel⟩, List.mem_of_getElem? (i := 22) (by decide +kernel), List.mem_of_getElem? (i := 477) (by decide +kernel), List.mem_of_getElem? (i := 478) (by decide +kernel)⟩
theorem lw_p1 : lw_okq (⟨"LeftHands", "changed", "()V"⟩, 18) := ⟨⟨by decide +kernel, by decide +kernel⟩, List.mem_of_getElem? (i := 22) (by decide +kernel), List.mem_of_getElem? (i := 481) (by decide +kernel), List.mem_of_getElem? (i := 482) (by decide +kernel)⟩
theorem lw_p2 : lw_okq (⟨"LeftHands", "accepted", "(I)I"⟩, 18) := ⟨⟨by decide +kernel, by decide +kernel⟩, List.mem_of_getElem? (i := 22) (by decide +kernel), List.mem_of_getElem? (i := 501) (by decide +kernel), List.mem_of_getElem? (i := 502) (by decide +kernel)⟩
theorem lw_p3 : lw_okq (⟨"LeftHands", "whyNoLoad", "(IIIIII)I"⟩, 18) := ⟨⟨by decide +kernel, by decide +kernel⟩, List.mem_of_getElem? (i := 22) (by decide +kernel), List.mem_of_getElem? (i := 526) (by decide +kernel), List.mem_of_getElem? (i := 527) (by decide +kernel)⟩
theorem lw_p4 : lw_okq (⟨"LeftHands", "addFromTape", "(I)Z"⟩, 18) := ⟨⟨by decide +kernel, by decide +kernel⟩, List.mem_of_getElem? (i := 22) (by decide +kernel), List.mem_of_getElem? (i := 578) (by decide +kernel), List.mem_of_getElem? (i := 579) (by decide +kernel)⟩
theorem lw_p5 : lw_okq (⟨"LeftHands$LawReader", "step", "()V"⟩, 7) := ⟨⟨by decide +kernel, by decide +kernel⟩, List.mem_of_getElem? (i := 180) (by decide +kernel), List.mem_of_getElem? (i := 602) (by decide +kernel), List.mem_of_getElem? (i := 603) (by decide +kernel)⟩
theorem lw_p6 : lw_okq (⟨"LeftHands$LawReader", "readClause", "()V"⟩, 7) := ⟨⟨by decide +kernel, by decide +kernel⟩, List.mem_of_getElem? (i := 180) (by decide +kernel), List.mem_of_getElem? (i := 610) (by decide +kernel), List.mem_of_getElem? (i := 611) (by decide +kernel)⟩
theorem lw_p7 : lw_okq (⟨"LeftHands$LawReader", "isWord", "(Ljava/lang/String;)Z"⟩, 7) := ⟨⟨by decide +kernel, by decide +kernel⟩, List.mem_of_getElem? (i := 180) (by decide +kernel), List.mem_of_getElem? (i := 615) (by decide +kernel), List.mem_of_getElem? (i := 616) (by decide +kernel)⟩
theorem lw_p8 : lw_okq (⟨"LeftHands$LawReader", "fail", "()V"⟩, 7) := ⟨⟨by decide +kernel, by decide +kernel⟩, List.mem_of_getElem? (i := 180) (by decide +kernel), List.mem_of_getElem? (i := 669) (by decide +kernel), List.mem_of_getElem? (i := 670) (by decide +kernel)⟩
theorem lw_p9 : lw_okq (⟨"LeftHands$LawReader", "readJoined", "(II)V"⟩, 7) := ⟨⟨by decide +kernel, by decide +kernel⟩, List.mem_of_getElem? (i := 180) (by decide +kernel), List.mem_of_getElem? (i := 673) (by decide +kernel), List.mem_of_getElem? (i := 674) (by decide +kernel)⟩
theorem lw_p10 : lw_okq (⟨"LeftHands$LawReader", "readPlain", "(I)V"⟩, 7) := ⟨⟨by decide +kernel, by decide +kernel⟩, List.mem_of_getElem? (i := 180) (by decide +kernel), List.mem_of_getElem? (i := 677) (by decide +kernel), List.mem_of_getElem? (i := 678) (by decide +kernel)⟩
theorem lw_p11 : lw_okq (⟨"LeftHands$LawReader", "isSingle", "(C)Z"⟩, 7) := ⟨⟨by decide +kernel, by decide +kernel⟩, List.mem_of_getElem? (i := 180) (by decide +kernel), List.mem_of_getElem? (i := 682) (by decide +kernel), List.mem_of_getElem? (i := 683) (by decide +kernel)⟩
theorem lw_p12 : lw_okq (⟨"LeftHands$LawReader", "open", "(I)V"⟩, 7) := ⟨⟨by decide +kernel, by decide +kernel⟩, List.mem_of_getElem? (i := 180) (by decide +kernel), List.mem_of_getElem? (i := 686) (by decide +kernel), List.mem_of_getElem? (i := 687) (by decide +kernel)⟩
theorem lw_p13 : lw_okq (⟨"LeftHands$LawReader", "expect", "(C)V"⟩, 7) := ⟨⟨by decide +kernel, by decide +kernel⟩, List.mem_of_getElem? (i := 180) (by decide +kernel), List.mem_of_getElem? (i := 690) (by decide +kernel), List.mem_of_getElem? (i := 691) (by decide +kernel)⟩
theorem lw_p14 : lw_okq (⟨"LeftHands$LawReader", "comparisonHere", "()I"⟩, 7) := ⟨⟨by decide +kernel, by decide +kernel⟩, List.mem_of_getElem? (i := 180) (by decide +kernel), List.mem_of_getElem? (i := 694) (by decide +kernel), List.mem_of_getElem? (i := 695) (by decide +kernel)⟩
theorem lw_p15 : lw_okq (⟨"LeftHands$LawReader", "readPart", "(I)V"⟩, 7) := ⟨⟨by decide +kernel, by decide +kernel⟩, List.mem_of_getElem? (i := 180) (by decide +kernel), List.mem_of_getElem? (i := 702) (by decide +kernel), List.mem_of_getElem? (i := 703) (by decide +kernel)⟩
def lw_privs_1 : List (MethodName × Nat) := [(⟨"LeftHands", "refused", "(I)I"⟩, 18), (⟨"LeftHands", "changed", "()V"⟩, 18), (⟨"LeftHands", "accepted", "(I)I"⟩, 18), (⟨"LeftHands", "whyNoLoad", "(IIIIII)I"⟩, 18), (⟨"LeftHands", "addFromTape", "(I)Z"⟩, 18), (⟨"LeftHands$LawReader", "step", "()V"⟩, 7), (⟨"LeftHands$LawReader", "readClause", "()V"⟩, 7), (⟨"LeftHands$LawReader", "isWord", "(Ljava/lang/String;)Z"⟩, 7), (⟨"LeftHands$LawReader", "fail", "()V"⟩, 7), (⟨"LeftHands$LawReader", "readJoined", "(II)V"⟩, 7), (⟨"LeftHands$LawReader", "readPlain", "(I)V"⟩, 7), (⟨"LeftHands$LawReader", "isSingle", "(C)Z"⟩, 7), (⟨"LeftHands$LawReader", "open", "(I)V"⟩, 7), (⟨"LeftHands$LawReader", "expect", "(C)V"⟩, 7), (⟨"LeftHands$LawReader", "comparisonHere", "()I"⟩, 7), (⟨"LeftHands$LawReader", "readPart", "(I)V"⟩, 7)]
theorem lw_r1 : ∀ q ∈ lw_privs_1, lw_okq q := List.forall_mem_cons.mpr ⟨lw_p0, List.forall_mem_cons.mpr ⟨lw_p1, List.forall_mem_cons.mpr ⟨lw_p2, List.forall_mem_cons.mpr ⟨lw_p3, List.forall_mem_cons.mpr ⟨lw_p4, List.forall_mem_cons.mpr ⟨lw_p5, List.forall_mem_cons.mpr ⟨lw_p6, List.forall_mem_cons.mpr ⟨lw_p7, List.forall_mem_cons.mpr ⟨lw_p8, List.forall_mem_cons.mpr ⟨lw_p9, List.forall_mem_cons.mpr ⟨lw_p10, List.forall_mem_cons.mpr ⟨lw_p11, List.forall_mem_cons.mpr ⟨lw_p12, List.forall_mem_cons.mpr ⟨lw_p13, List.forall_mem_cons.mpr ⟨lw_p14, List.forall_mem_cons.mpr ⟨lw_p15, fun _ h => absurd h List.not_mem_nil⟩⟩⟩⟩⟩⟩⟩⟩⟩⟩⟩⟩⟩⟩⟩⟩
theorem lw_p16 : lw_okq (⟨"LeftHands$LawReader", "numberHere", "()I"⟩, 7) := ⟨⟨by decide +kernel, by decide +kernel⟩, List.mem_of_getElem? (i := 180) (by decide +kernel), List.mem_of_getElem? (i := 706) (by decide +kernel), List.mem_of_getElem? (i := 707) (by decide +kernel)⟩
theorem lw_p17 : lw_okq (⟨"LeftHands$LawReader", "wordHere", "()I"⟩, 7) := ⟨⟨by decide +kernel, by decide +kernel⟩, List.mem_of_getElem? (i := 180) (by decide +kernel), List.mem_of_getElem? (i := 710) (by decide +kernel), List.mem_of_getElem? (i := 711) (by decide +kernel)⟩
theorem lw_p18 : lw_okq (⟨"LeftHands$LawReader", "joinHere", "(I)I"⟩, 7) := ⟨⟨by decide +kernel, by decide +kernel⟩, List.mem_of_getElem? (i := 180) (by decide +kernel), List.mem_of_getElem? (i := 731) (by decide +kernel), List.mem_of_getElem? (i := 732) (by decide +kernel)⟩
theorem lw_p19 : lw_okq (⟨"LeftHands$Bazaar", "lawAt", "(I)LLeftHands$Law;"⟩, 15) := ⟨⟨by decide +kernel, by decide +kernel⟩, List.mem_of_getElem? (i := 30) (by decide +kernel), List.mem_of_getElem? (i := 742) (by decide +kernel), List.mem_of_getElem? (i := 743) (by decide +kernel)⟩
theorem lw_p20 : lw_okq (⟨"LeftHands$Ways", "standAfter", "(II)I"⟩, 1) := ⟨⟨by decide +kernel, by decide +kernel⟩, List.mem_of_getElem? (i := 212) (by decide +kernel), List.mem_of_getElem? (i := 777) (by decide +kernel), List.mem_of_getElem? (i := 778) (by decide +kernel)⟩
theorem lw_p21 : lw_okq (⟨"LeftHands", "dayNow", "()LLeftHands$Day;"⟩, 18) := ⟨⟨by decide +kernel, by decide +kernel⟩, List.mem_of_getElem? (i := 22) (by decide +kernel), List.mem_of_getElem? (i := 800) (by decide +kernel), List.mem_of_getElem? (i := 801) (by decide +kernel)⟩
theorem lw_p22 : lw_okq (⟨"LeftHands$Day", "handsToWant", "(I)I"⟩, 19) := ⟨⟨by decide +kernel, by decide +kernel⟩, List.mem_of_getElem? (i := 242) (by decide +kernel), List.mem_of_getElem? (i := 815) (by decide +kernel), List.mem_of_getElem? (i := 816) (by decide +kernel)⟩
theorem lw_p23 : lw_okq (⟨"LeftHands$Day", "begin", "()V"⟩, 19) := ⟨⟨by decide +kernel, by decide +kernel⟩, List.mem_of_getElem? (i := 242) (by decide +kernel), List.mem_of_getElem? (i := 824) (by decide +kernel), List.mem_of_getElem? (i := 825) (by decide +kernel)⟩
theorem lw_p24 : lw_okq (⟨"LeftHands$Day", "arrive", "(I)V"⟩, 19) := ⟨⟨by decide +kernel, by decide +kernel⟩, List.mem_of_getElem? (i := 242) (by decide +kernel), List.mem_of_getElem? (i := 831) (by decide +kernel), List.mem_of_getElem? (i := 832) (by decide +kernel)⟩
theorem lw_p25 : lw_okq (⟨"LeftHands$Day", "\x61dmit", "(II)V"⟩, 19) := ⟨⟨by decide +kernel, by decide +kernel⟩, List.mem_of_getElem? (i := 242) (by decide +kernel), List.mem_of_getElem? (i := 835) (by decide +kernel), List.mem_of_getElem? (i := 836) (by decide +kernel)⟩
theorem lw_p26 : lw_okq (⟨"LeftHands$Day", "canHold", "(II)Z"⟩, 19) := ⟨⟨by decide +kernel, by decide +kernel⟩, List.mem_of_getElem? (i := 242) (by decide +kernel), List.mem_of_getElem? (i := 839) (by decide +kernel), List.mem_of_getElem? (i := 840) (by decide +kernel)⟩
theorem lw_p27 : lw_okq (⟨"LeftHands$Day", "take", "(II)V"⟩, 19) := ⟨⟨by decide +kernel, by decide +kernel⟩, List.mem_of_getElem? (i := 242) (by decide +kernel), List.mem_of_getElem? (i := 843) (by decide +kernel), List.mem_of_getElem? (i := 844) (by decide +kernel)⟩
theorem lw_p28 : lw_okq (⟨"LeftHands$Day", "lineUp", "(I)V"⟩, 19) := ⟨⟨by decide +kernel, by decide +kernel⟩, List.mem_of_getElem? (i := 242) (by decide +kernel), List.mem_of_getElem? (i := 847) (by decide +kernel), List.mem_of_getElem? (i := 848) (by decide +kernel)⟩
theorem lw_p29 : lw_okq (⟨"LeftHands$Judge", "worth", "(LLeftHands$Law;II)J"⟩, 4) := ⟨⟨by decide +kernel, by decide +kernel⟩, List.mem_of_getElem? (i := 222) (by decide +kernel), List.mem_of_getElem? (i := 870) (by decide +kernel), List.mem_of_getElem? (i := 871) (by decide +kernel)⟩
theorem lw_p30 : lw_okq (⟨"LeftHands$Judge", "joined", "(IJJ)J"⟩, 4) := ⟨⟨by decide +kernel, by decide +kernel⟩, List.mem_of_getElem? (i := 222) (by decide +kernel), List.mem_of_getElem? (i := 877) (by decide +kernel), List.mem_of_getElem? (i := 878) (by decide +kernel)⟩
theorem lw_p31 : lw_okq (⟨"LeftHands$Day", "goOn", "(I)V"⟩, 19) := ⟨⟨by decide +kernel, by decide +kernel⟩, List.mem_of_getElem? (i := 242) (by decide +kernel), List.mem_of_getElem? (i := 883) (by decide +kernel), List.mem_of_getElem? (i := 884) (by decide +kernel)⟩
def lw_privs_2 : List (MethodName × Nat) := [(⟨"LeftHands$LawReader", "numberHere", "()I"⟩, 7), (⟨"LeftHands$LawReader", "wordHere", "()I"⟩, 7), (⟨"LeftHands$LawReader", "joinHere", "(I)I"⟩, 7), (⟨"LeftHands$Bazaar", "lawAt", "(I)LLeftHands$Law;"⟩, 15), (⟨"LeftHands$Ways", "standAfter", "(II)I"⟩, 1), (⟨"LeftHands", "dayNow", "()LLeftHands$Day;"⟩, 18), (⟨"LeftHands$Day", "handsToWant", "(I)I"⟩, 19), (⟨"LeftHands$Day", "begin", "()V"⟩, 19), (⟨"LeftHands$Day", "arrive", "(I)V"⟩, 19), (⟨"LeftHands$Day", "\x61dmit", "(II)V"⟩, 19), (⟨"LeftHands$Day", "canHold", "(II)Z"⟩, 19), (⟨"LeftHands$Day", "take", "(II)V"⟩, 19), (⟨"LeftHands$Day", "lineUp", "(I)V"⟩, 19), (⟨"LeftHands$Judge", "worth", "(LLeftHands$Law;II)J"⟩, 4), (⟨"LeftHands$Judge", "joined", "(IJJ)J"⟩, 4), (⟨"LeftHands$Day", "goOn", "(I)V"⟩, 19)]
theorem lw_r2 : ∀ q ∈ lw_privs_2, lw_okq q := List.forall_mem_cons.mpr ⟨lw_p16, List.forall_mem_cons.mpr ⟨lw_p17, List.forall_mem_cons.mpr ⟨lw_p18, List.forall_mem_cons.mpr ⟨lw_p19, List.forall_mem_cons.mpr ⟨lw_p20, List.forall_mem_cons.mpr ⟨lw_p21, List.forall_mem_cons.mpr ⟨lw_p22, List.forall_mem_cons.mpr ⟨lw_p23, List.forall_mem_cons.mpr ⟨lw_p24, List.forall_mem_cons.mpr ⟨lw_p25, List.forall_mem_cons.mpr ⟨lw_p26, List.forall_mem_cons.mpr ⟨lw_p27, List.forall_mem_cons.mpr ⟨lw_p28, List.forall_mem_cons.mpr ⟨lw_p29, List.forall_mem_cons.mpr ⟨lw_p30, List.forall_mem_cons.mpr ⟨lw_p31, fun _ h => absurd h List.not_mem_nil⟩⟩⟩⟩⟩⟩⟩⟩⟩⟩⟩⟩⟩⟩⟩⟩
theorem lw_p32 : lw_okq (⟨"LeftHands$Day", "giveUp", "(II)V"⟩, 19) := ⟨⟨by decide +kernel, by decide +kernel⟩, List.mem_of_getElem? (i := 242) (by decide +kernel), List.mem_of_getElem? (i := 887) (by decide +kernel), List.mem_of_getElem? (i := 888) (by decide +kernel)⟩
theorem lw_p33 : lw_okq (⟨"LeftHands$Day", "isStuck", "(I)Z"⟩, 19) := ⟨⟨by decide +kernel, by decide +kernel⟩, List.mem_of_getElem? (i := 242) (by decide +kernel), List.mem_of_getElem? (i := 912) (by decide +kernel), List.mem_of_getElem? (i := 913) (by decide +kernel)⟩
theorem lw_p34 : lw_okq (⟨"LeftHands$Day", "roundOf", "(II)I"⟩, 19) := ⟨⟨by decide +kernel, by decide +kernel⟩, List.mem_of_getElem? (i := 242) (by decide +kernel), List.mem_of_getElem? (i := 917) (by decide +kernel), List.mem_of_getElem? (i := 918) (by decide +kernel)⟩
theorem lw_p35 : lw_okq (⟨"LeftHands$Swapper", "tryNone", "()V"⟩, 6) := ⟨⟨by decide +kernel, by decide +kernel⟩, List.mem_of_getElem? (i := 313) (by decide +kernel), List.mem_of_getElem? (i := 931) (by decide +kernel), List.mem_of_getElem? (i := 932) (by decide +kernel)⟩
theorem lw_p36 : lw_okq (⟨"LeftHands$Day", "canComeBy", "(II)Z"⟩, 19) := ⟨⟨by decide +kernel, by decide +kernel⟩, List.mem_of_getElem? (i := 242) (by decide +kernel), List.mem_of_getElem? (i := 939) (by decide +kernel), List.mem_of_getElem? (i := 940) (by decide +kernel)⟩
theorem lw_p37 : lw_okq (⟨"LeftHands$Day", "isCarried", "(I)Z"⟩, 19) := ⟨⟨by decide +kernel, by decide +kernel⟩, List.mem_of_getElem? (i := 242) (by decide +kernel), List.mem_of_getElem? (i := 943) (by decide +kernel), List.mem_of_getElem? (i := 944) (by decide +kernel)⟩
theorem lw_p38 : lw_okq (⟨"LeftHands$Day", "lastStart", "()I"⟩, 19) := ⟨⟨by decide +kernel, by decide +kernel⟩, List.mem_of_getElem? (i := 242) (by decide +kernel), List.mem_of_getElem? (i := 947) (by decide +kernel), List.mem_of_getElem? (i := 948) (by decide +kernel)⟩
theorem lw_p39 : lw_okq (⟨"LeftHands$Swapper", "found", "(IIIII)V"⟩, 6) := ⟨⟨by decide +kernel, by decide +kernel⟩, List.mem_of_getElem? (i := 313) (by decide +kernel), List.mem_of_getElem? (i := 955) (by decide +kernel), List.mem_of_getElem? (i := 956) (by decide +kernel)⟩
theorem lw_p40 : lw_okq (⟨"LeftHands$Swapper", "tryOne", "()V"⟩, 6) := ⟨⟨by decide +kernel, by decide +kernel⟩, List.mem_of_getElem? (i := 313) (by decide +kernel), List.mem_of_getElem? (i := 959) (by decide +kernel), List.mem_of_getElem? (i := 960) (by decide +kernel)⟩
theorem lw_p41 : lw_okq (⟨"LeftHands$Swapper", "change", "(II)V"⟩, 6) := ⟨⟨by decide +kernel, by decide +kernel⟩, List.mem_of_getElem? (i := 313) (by decide +kernel), List.mem_of_getElem? (i := 963) (by decide +kernel), List.mem_of_getElem? (i := 964) (by decide +kernel)⟩
theorem lw_p42 : lw_okq (⟨"LeftHands$Swapper", "tryTwo", "()V"⟩, 6) := ⟨⟨by decide +kernel, by decide +kernel⟩, List.mem_of_getElem? (i := 313) (by decide +kernel), List.mem_of_getElem? (i := 970) (by decide +kernel), List.mem_of_getElem? (i := 971) (by decide +kernel)⟩
theorem lw_p43 : lw_okq (⟨"LeftHands$Sender", "search", "()V"⟩, 6) := ⟨⟨by decide +kernel, by decide +kernel⟩, List.mem_of_getElem? (i := 338) (by decide +kernel), List.mem_of_getElem? (i := 990) (by decide +kernel), List.mem_of_getElem? (i := 991) (by decide +kernel)⟩
theorem lw_p44 : lw_okq (⟨"LeftHands$Fees", "begin", "()V"⟩, 13) := ⟨⟨by decide +kernel, by decide +kernel⟩, List.mem_of_getElem? (i := 363) (by decide +kernel), List.mem_of_getElem? (i := 1011) (by decide +kernel), List.mem_of_getElem? (i := 1012) (by decide +kernel)⟩
theorem lw_p45 : lw_okq (⟨"LeftHands$Fees", "costBeside", "(II)I"⟩, 13) := ⟨⟨by decide +kernel, by decide +kernel⟩, List.mem_of_getElem? (i := 363) (by decide +kernel), List.mem_of_getElem? (i := 1019) (by decide +kernel), List.mem_of_getElem? (i := 1020) (by decide +kernel)⟩
theorem lw_p46 : lw_okq (⟨"LeftHands$Fees", "gets", "(III)I"⟩, 13) := ⟨⟨by decide +kernel, by decide +kernel⟩, List.mem_of_getElem? (i := 363) (by decide +kernel), List.mem_of_getElem? (i := 1026) (by decide +kernel), List.mem_of_getElem? (i := 1027) (by decide +kernel)⟩
theorem lw_p47 : lw_okq (⟨"LeftHands$Fees", "seekAnswer", "(I)V"⟩, 13) := ⟨⟨by decide +kernel, by decide +kernel⟩, List.mem_of_getElem? (i := 363) (by decide +kernel), List.mem_of_getElem? (i := 1053) (by decide +kernel), List.mem_of_getElem? (i := 1054) (by decide +kernel)⟩
def lw_privs_3 : List (MethodName × Nat) := [(⟨"LeftHands$Day", "giveUp", "(II)V"⟩, 19), (⟨"LeftHands$Day", "isStuck", "(I)Z"⟩, 19), (⟨"LeftHands$Day", "roundOf", "(II)I"⟩, 19), (⟨"LeftHands$Swapper", "tryNone", "()V"⟩, 6), (⟨"LeftHands$Day", "canComeBy", "(II)Z"⟩, 19), (⟨"LeftHands$Day", "isCarried", "(I)Z"⟩, 19), (⟨"LeftHands$Day", "lastStart", "()I"⟩, 19), (⟨"LeftHands$Swapper", "found", "(IIIII)V"⟩, 6), (⟨"LeftHands$Swapper", "tryOne", "()V"⟩, 6), (⟨"LeftHands$Swapper", "change", "(II)V"⟩, 6), (⟨"LeftHands$Swapper", "tryTwo", "()V"⟩, 6), (⟨"LeftHands$Sender", "search", "()V"⟩, 6), (⟨"LeftHands$Fees", "begin", "()V"⟩, 13), (⟨"LeftHands$Fees", "costBeside", "(II)I"⟩, 13), (⟨"LeftHands$Fees", "gets", "(III)I"⟩, 13), (⟨"LeftHands$Fees", "seekAnswer", "(I)V"⟩, 13)]
theorem lw_r3 : ∀ q ∈ lw_privs_3, lw_okq q := List.forall_mem_cons.mpr ⟨lw_p32, List.forall_mem_cons.mpr ⟨lw_p33, List.forall_mem_cons.mpr ⟨lw_p34, List.forall_mem_cons.mpr ⟨lw_p35, List.forall_mem_cons.mpr ⟨lw_p36, List.forall_mem_cons.mpr ⟨lw_p37, List.forall_mem_cons.mpr ⟨lw_p38, List.forall_mem_cons.mpr ⟨lw_p39, List.forall_mem_cons.mpr ⟨lw_p40, List.forall_mem_cons.mpr ⟨lw_p41, List.forall_mem_cons.mpr ⟨lw_p42, List.forall_mem_cons.mpr ⟨lw_p43, List.forall_mem_cons.mpr ⟨lw_p44, List.forall_mem_cons.mpr ⟨lw_p45, List.forall_mem_cons.mpr ⟨lw_p46, List.forall_mem_cons.mpr ⟨lw_p47, fun _ h => absurd h List.not_mem_nil⟩⟩⟩⟩⟩⟩⟩⟩⟩⟩⟩⟩⟩⟩⟩⟩
theorem lw_p48 : lw_okq (⟨"LeftHands$Fees", "incomeBy", "(II)I"⟩, 13) := ⟨⟨by decide +kernel, by decide +kernel⟩, List.mem_of_getElem? (i := 363) (by decide +kernel), List.mem_of_getElem? (i := 1057) (by decide +kernel), List.mem_of_getElem? (i := 1058) (by decide +kernel)⟩
theorem lw_p49 : lw_okq (⟨"LeftHands$Ways", "fitsSigns", "(I)Z"⟩, 1) := ⟨⟨by decide +kernel, by decide +kernel⟩, List.mem_of_getElem? (i := 212) (by decide +kernel), List.mem_of_getElem? (i := 1115) (by decide +kernel), List.mem_of_getElem? (i := 1116) (by decide +kernel)⟩
theorem lw_p50 : lw_okq (⟨"LeftHands", "imageOf", "(I)LLeftHands$Bazaar;"⟩, 18) := ⟨⟨by decide +kernel, by decide +kernel⟩, List.mem_of_getElem? (i := 22) (by decide +kernel), List.mem_of_getElem? (i := 1149) (by decide +kernel), List.mem_of_getElem? (i := 1150) (by decide +kernel)⟩
theorem lw_p51 : lw_okq (⟨"LeftHandsModel", "tell", "(I)I"⟩, 52) := ⟨⟨by decide +kernel, by decide +kernel⟩, List.mem_of_getElem? (i := 1173) (by decide +kernel), List.mem_of_getElem? (i := 1355) (by decide +kernel), List.mem_of_getElem? (i := 1356) (by decide +kernel)⟩
theorem lw_p52 : lw_okq (⟨"LeftHandsModel", "isStand", "(I)Z"⟩, 52) := ⟨⟨by decide +kernel, by decide +kernel⟩, List.mem_of_getElem? (i := 1173) (by decide +kernel), List.mem_of_getElem? (i := 1378) (by decide +kernel), List.mem_of_getElem? (i := 1379) (by decide +kernel)⟩
theorem lw_p53 : lw_okq (⟨"LeftHandsModel", "change", "(II)I"⟩, 52) := ⟨⟨by decide +kernel, by decide +kernel⟩, List.mem_of_getElem? (i := 1173) (by decide +kernel), List.mem_of_getElem? (i := 1382) (by decide +kernel), List.mem_of_getElem? (i := 1383) (by decide +kernel)⟩
theorem lw_p54 : lw_okq (⟨"LeftHandsModel", "was", "(I)I"⟩, 52) := ⟨⟨by decide +kernel, by decide +kernel⟩, List.mem_of_getElem? (i := 1173) (by decide +kernel), List.mem_of_getElem? (i := 1386) (by decide +kernel), List.mem_of_getElem? (i := 1387) (by decide +kernel)⟩
theorem lw_p55 : lw_okq (⟨"LeftHandsModel", "nextOf", "(II)I"⟩, 52) := ⟨⟨by decide +kernel, by decide +kernel⟩, List.mem_of_getElem? (i := 1173) (by decide +kernel), List.mem_of_getElem? (i := 1395) (by decide +kernel), List.mem_of_getElem? (i := 1396) (by decide +kernel)⟩
theorem lw_p56 : lw_okq (⟨"LeftHandsModel", "ofStand", "(II)I"⟩, 52) := ⟨⟨by decide +kernel, by decide +kernel⟩, List.mem_of_getElem? (i := 1173) (by decide +kernel), List.mem_of_getElem? (i := 1399) (by decide +kernel), List.mem_of_getElem? (i := 1400) (by decide +kernel)⟩
theorem lw_p57 : lw_okq (⟨"LeftHandsModel", "addLoad", "(IIIIII)V"⟩, 52) := ⟨⟨by decide +kernel, by decide +kernel⟩, List.mem_of_getElem? (i := 1173) (by decide +kernel), List.mem_of_getElem? (i := 1414) (by decide +kernel), List.mem_of_getElem? (i := 1415) (by decide +kernel)⟩
theorem lw_p58 : lw_okq (⟨"LeftHandsModel", "isLoad", "(I)Z"⟩, 52) := ⟨⟨by decide +kernel, by decide +kernel⟩, List.mem_of_getElem? (i := 1173) (by decide +kernel), List.mem_of_getElem? (i := 1422) (by decide +kernel), List.mem_of_getElem? (i := 1423) (by decide +kernel)⟩
theorem lw_p59 : lw_okq (⟨"LeftHandsModel", "ofLoad", "(II)I"⟩, 52) := ⟨⟨by decide +kernel, by decide +kernel⟩, List.mem_of_getElem? (i := 1173) (by decide +kernel), List.mem_of_getElem? (i := 1427) (by decide +kernel), List.mem_of_getElem? (i := 1428) (by decide +kernel)⟩
theorem lw_p60 : lw_okq (⟨"LeftHandsModel", "four", "(I)V"⟩, 52) := ⟨⟨by decide +kernel, by decide +kernel⟩, List.mem_of_getElem? (i := 1173) (by decide +kernel), List.mem_of_getElem? (i := 1452) (by decide +kernel), List.mem_of_getElem? (i := 1453) (by decide +kernel)⟩
theorem lw_p61 : lw_okq (⟨"LeftHandsModel", "begin", "()V"⟩, 52) := ⟨⟨by decide +kernel, by decide +kernel⟩, List.mem_of_getElem? (i := 1173) (by decide +kernel), List.mem_of_getElem? (i := 1468) (by decide +kernel), List.mem_of_getElem? (i := 1469) (by decide +kernel)⟩
theorem lw_p62 : lw_okq (⟨"LeftHandsModel", "next", "()V"⟩, 52) := ⟨⟨by decide +kernel, by decide +kernel⟩, List.mem_of_getElem? (i := 1173) (by decide +kernel), List.mem_of_getElem? (i := 1472) (by decide +kernel), List.mem_of_getElem? (i := 1473) (by decide +kernel)⟩
theorem lw_p63 : lw_okq (⟨"LeftHandsModel", "readClause", "()V"⟩, 52) := ⟨⟨by decide +kernel, by decide +kernel⟩, List.mem_of_getElem? (i := 1173) (by decide +kernel), List.mem_of_getElem? (i := 1487) (by decide +kernel), List.mem_of_getElem? (i := 1488) (by decide +kernel)⟩
def lw_privs_4 : List (MethodName × Nat) := [(⟨"LeftHands$Fees", "incomeBy", "(II)I"⟩, 13), (⟨"LeftHands$Ways", "fitsSigns", "(I)Z"⟩, 1), (⟨"LeftHands", "imageOf", "(I)LLeftHands$Bazaar;"⟩, 18), (⟨"LeftHandsModel", "tell", "(I)I"⟩, 52), (⟨"LeftHandsModel", "isStand", "(I)Z"⟩, 52), (⟨"LeftHandsModel", "change", "(II)I"⟩, 52), (⟨"LeftHandsModel", "was", "(I)I"⟩, 52), (⟨"LeftHandsModel", "nextOf", "(II)I"⟩, 52), (⟨"LeftHandsModel", "ofStand", "(II)I"⟩, 52), (⟨"LeftHandsModel", "addLoad", "(IIIIII)V"⟩, 52), (⟨"LeftHandsModel", "isLoad", "(I)Z"⟩, 52), (⟨"LeftHandsModel", "ofLoad", "(II)I"⟩, 52), (⟨"LeftHandsModel", "four", "(I)V"⟩, 52), (⟨"LeftHandsModel", "begin", "()V"⟩, 52), (⟨"LeftHandsModel", "next", "()V"⟩, 52), (⟨"LeftHandsModel", "readClause", "()V"⟩, 52)]
theorem lw_r4 : ∀ q ∈ lw_privs_4, lw_okq q := List.forall_mem_cons.mpr ⟨lw_p48, List.forall_mem_cons.mpr ⟨lw_p49, List.forall_mem_cons.mpr ⟨lw_p50, List.forall_mem_cons.mpr ⟨lw_p51, List.forall_mem_cons.mpr ⟨lw_p52, List.forall_mem_cons.mpr ⟨lw_p53, List.forall_mem_cons.mpr ⟨lw_p54, List.forall_mem_cons.mpr ⟨lw_p55, List.forall_mem_cons.mpr ⟨lw_p56, List.forall_mem_cons.mpr ⟨lw_p57, List.forall_mem_cons.mpr ⟨lw_p58, List.forall_mem_cons.mpr ⟨lw_p59, List.forall_mem_cons.mpr ⟨lw_p60, List.forall_mem_cons.mpr ⟨lw_p61, List.forall_mem_cons.mpr ⟨lw_p62, List.forall_mem_cons.mpr ⟨lw_p63, fun _ h => absurd h List.not_mem_nil⟩⟩⟩⟩⟩⟩⟩⟩⟩⟩⟩⟩⟩⟩⟩⟩
theorem lw_p64 : lw_okq (⟨"LeftHandsModel", "isWord", "(J)Z"⟩, 52) := ⟨⟨by decide +kernel, by decide +kernel⟩, List.mem_of_getElem? (i := 1173) (by decide +kernel), List.mem_of_getElem? (i := 1491) (by decide +kernel), List.mem_of_getElem? (i := 1492) (by decide +kernel)⟩
theorem lw_p65 : lw_okq (⟨"LeftHandsModel", "must", "(Z)V"⟩, 52) := ⟨⟨by decide +kernel, by decide +kernel⟩, List.mem_of_getElem? (i := 1173) (by decide +kernel), List.mem_of_getElem? (i := 1495) (by decide +kernel), List.mem_of_getElem? (i := 1496) (by decide +kernel)⟩
theorem lw_p66 : lw_okq (⟨"LeftHandsModel", "readExpression", "(Z)V"⟩, 52) := ⟨⟨by decide +kernel, by decide +kernel⟩, List.mem_of_getElem? (i := 1173) (by decide +kernel), List.mem_of_getElem? (i := 1499) (by decide +kernel), List.mem_of_getElem? (i := 1500) (by decide +kernel)⟩
theorem lw_p67 : lw_okq (⟨"LeftHandsModel", "readPlain", "()I"⟩, 52) := ⟨⟨by decide +kernel, by decide +kernel⟩, List.mem_of_getElem? (i := 1173) (by decide +kernel), List.mem_of_getElem? (i := 1503) (by decide +kernel), List.mem_of_getElem? (i := 1504) (by decide +kernel)⟩
theorem lw_p68 : lw_okq (⟨"LeftHandsModel", "push", "(II)V"⟩, 52) := ⟨⟨by decide +kernel, by decide +kernel⟩, List.mem_of_getElem? (i := 1173) (by decide +kernel), List.mem_of_getElem? (i := 1508) (by decide +kernel), List.mem_of_getElem? (i := 1509) (by decide +kernel)⟩
theorem lw_p69 : lw_okq (⟨"LeftHandsModel", "isSign", "(I)Z"⟩, 52) := ⟨⟨by decide +kernel, by decide +kernel⟩, List.mem_of_getElem? (i := 1173) (by decide +kernel), List.mem_of_getElem? (i := 1512) (by decide +kernel), List.mem_of_getElem? (i := 1513) (by decide +kernel)⟩
theorem lw_p70 : lw_okq (⟨"LeftHandsModel", "openBracket", "(I)V"⟩, 52) := ⟨⟨by decide +kernel, by decide +kernel⟩, List.mem_of_getElem? (i := 1173) (by decide +kernel), List.mem_of_getElem? (i := 1516) (by decide +kernel), List.mem_of_getElem? (i := 1517) (by decide +kernel)⟩
theorem lw_p71 : lw_okq (⟨"LeftHandsModel", "readPart", "()I"⟩, 52) := ⟨⟨by decide +kernel, by decide +kernel⟩, List.mem_of_getElem? (i := 1173) (by decide +kernel), List.mem_of_getElem? (i := 1520) (by decide +kernel), List.mem_of_getElem? (i := 1521) (by decide +kernel)⟩
theorem lw_p72 : lw_okq (⟨"LeftHandsModel", "partAt", "()I"⟩, 52) := ⟨⟨by decide +kernel, by decide +kernel⟩, List.mem_of_getElem? (i := 1173) (by decide +kernel), List.mem_of_getElem? (i := 1524) (by decide +kernel), List.mem_of_getElem? (i := 1525) (by decide +kernel)⟩
theorem lw_p73 : lw_okq (⟨"LeftHandsModel", "leaf", "(ZII)V"⟩, 52) := ⟨⟨by decide +kernel, by decide +kernel⟩, List.mem_of_getElem? (i := 1173) (by decide +kernel), List.mem_of_getElem? (i := 1529) (by decide +kernel), List.mem_of_getElem? (i := 1530) (by decide +kernel)⟩
theorem lw_p74 : lw_okq (⟨"LeftHandsModel", "emit", "(II)V"⟩, 52) := ⟨⟨by decide +kernel, by decide +kernel⟩, List.mem_of_getElem? (i := 1173) (by decide +kernel), List.mem_of_getElem? (i := 1533) (by decide +kernel), List.mem_of_getElem? (i := 1534) (by decide +kernel)⟩
theorem lw_p75 : lw_okq (⟨"LeftHandsModel", "behindSum", "(Z)I"⟩, 52) := ⟨⟨by decide +kernel, by decide +kernel⟩, List.mem_of_getElem? (i := 1173) (by decide +kernel), List.mem_of_getElem? (i := 1537) (by decide +kernel), List.mem_of_getElem? (i := 1538) (by decide +kernel)⟩
theorem lw_p76 : lw_okq (⟨"LeftHandsModel", "settle", "(I)V"⟩, 52) := ⟨⟨by decide +kernel, by decide +kernel⟩, List.mem_of_getElem? (i := 1173) (by decide +kernel), List.mem_of_getElem? (i := 1544) (by decide +kernel), List.mem_of_getElem? (i := 1545) (by decide +kernel)⟩
theorem lw_p77 : lw_okq (⟨"LeftHandsModel", "inner", "()I"⟩, 52) := ⟨⟨by decide +kernel, by decide +kernel⟩, List.mem_of_getElem? (i := 1173) (by decide +kernel), List.mem_of_getElem? (i := 1548) (by decide +kernel), List.mem_of_getElem? (i := 1549) (by decide +kernel)⟩
theorem lw_p78 : lw_okq (⟨"LeftHandsModel", "isCompared", "()Z"⟩, 52) := ⟨⟨by decide +kernel, by decide +kernel⟩, List.mem_of_getElem? (i := 1173) (by decide +kernel), List.mem_of_getElem? (i := 1552) (by decide +kernel), List.mem_of_getElem? (i := 1553) (by decide +kernel)⟩
theorem lw_p79 : lw_okq (⟨"LeftHandsModel", "behindTest", "()I"⟩, 52) := ⟨⟨by decide +kernel, by decide +kernel⟩, List.mem_of_getElem? (i := 1173) (by decide +kernel), List.mem_of_getElem? (i := 1560) (by decide +kernel), List.mem_of_getElem? (i := 1561) (by decide +kernel)⟩
def lw_privs_5 : List (MethodName × Nat) := [(⟨"LeftHandsModel", "isWord", "(J)Z"⟩, 52), (⟨"LeftHandsModel", "must", "(Z)V"⟩, 52), (⟨"LeftHandsModel", "readExpression", "(Z)V"⟩, 52), (⟨"LeftHandsModel", "readPlain", "()I"⟩, 52), (⟨"LeftHandsModel", "push", "(II)V"⟩, 52), (⟨"LeftHandsModel", "isSign", "(I)Z"⟩, 52), (⟨"LeftHandsModel", "openBracket", "(I)V"⟩, 52), (⟨"LeftHandsModel", "readPart", "()I"⟩, 52), (⟨"LeftHandsModel", "partAt", "()I"⟩, 52), (⟨"LeftHandsModel", "leaf", "(ZII)V"⟩, 52), (⟨"LeftHandsModel", "emit", "(II)V"⟩, 52), (⟨"LeftHandsModel", "behindSum", "(Z)I"⟩, 52), (⟨"LeftHandsModel", "settle", "(I)V"⟩, 52), (⟨"LeftHandsModel", "inner", "()I"⟩, 52), (⟨"LeftHandsModel", "isCompared", "()Z"⟩, 52), (⟨"LeftHandsModel", "behindTest", "()I"⟩, 52)]
theorem lw_r5 : ∀ q ∈ lw_privs_5, lw_okq q := List.forall_mem_cons.mpr ⟨lw_p64, List.forall_mem_cons.mpr ⟨lw_p65, List.forall_mem_cons.mpr ⟨lw_p66, List.forall_mem_cons.mpr ⟨lw_p67, List.forall_mem_cons.mpr ⟨lw_p68, List.forall_mem_cons.mpr ⟨lw_p69, List.forall_mem_cons.mpr ⟨lw_p70, List.forall_mem_cons.mpr ⟨lw_p71, List.forall_mem_cons.mpr ⟨lw_p72, List.forall_mem_cons.mpr ⟨lw_p73, List.forall_mem_cons.mpr ⟨lw_p74, List.forall_mem_cons.mpr ⟨lw_p75, List.forall_mem_cons.mpr ⟨lw_p76, List.forall_mem_cons.mpr ⟨lw_p77, List.forall_mem_cons.mpr ⟨lw_p78, List.forall_mem_cons.mpr ⟨lw_p79, fun _ h => absurd h List.not_mem_nil⟩⟩⟩⟩⟩⟩⟩⟩⟩⟩⟩⟩⟩⟩⟩⟩
theorem lw_p80 : lw_okq (⟨"LeftHandsModel", "findWay", "(I)I"⟩, 52) := ⟨⟨by decide +kernel, by decide +kernel⟩, List.mem_of_getElem? (i := 1173) (by decide +kernel), List.mem_of_getElem? (i := 1575) (by decide +kernel), List.mem_of_getElem? (i := 1576) (by decide +kernel)⟩
theorem lw_p81 : lw_okq (⟨"LeftHandsModel", "areStands", "(I)Z"⟩, 52) := ⟨⟨by decide +kernel, by decide +kernel⟩, List.mem_of_getElem? (i := 1173) (by decide +kernel), List.mem_of_getElem? (i := 1583) (by decide +kernel), List.mem_of_getElem? (i := 1584) (by decide +kernel)⟩
theorem lw_p82 : lw_okq (⟨"LeftHandsModel", "runDay", "()V"⟩, 52) := ⟨⟨by decide +kernel, by decide +kernel⟩, List.mem_of_getElem? (i := 1173) (by decide +kernel), List.mem_of_getElem? (i := 1591) (by decide +kernel), List.mem_of_getElem? (i := 1592) (by decide +kernel)⟩
theorem lw_p83 : lw_okq (⟨"LeftHandsModel", "asIs", "()V"⟩, 52) := ⟨⟨by decide +kernel, by decide +kernel⟩, List.mem_of_getElem? (i := 1173) (by decide +kernel), List.mem_of_getElem? (i := 1595) (by decide +kernel), List.mem_of_getElem? (i := 1596) (by decide +kernel)⟩
theorem lw_p84 : lw_okq (⟨"LeftHandsModel", "run", "()V"⟩, 52) := ⟨⟨by decide +kernel, by decide +kernel⟩, List.mem_of_getElem? (i := 1173) (by decide +kernel), List.mem_of_getElem? (i := 1599) (by decide +kernel), List.mem_of_getElem? (i := 1600) (by decide +kernel)⟩
theorem lw_p85 : lw_okq (⟨"LeftHandsModel", "bring", "(I)V"⟩, 52) := ⟨⟨by decide +kernel, by decide +kernel⟩, List.mem_of_getElem? (i := 1173) (by decide +kernel), List.mem_of_getElem? (i := 1603) (by decide +kernel), List.mem_of_getElem? (i := 1604) (by decide +kernel)⟩
theorem lw_p86 : lw_okq (⟨"LeftHandsModel", "takesPart", "(I)Z"⟩, 52) := ⟨⟨by decide +kernel, by decide +kernel⟩, List.mem_of_getElem? (i := 1173) (by decide +kernel), List.mem_of_getElem? (i := 1607) (by decide +kernel), List.mem_of_getElem? (i := 1608) (by decide +kernel)⟩
theorem lw_p87 : lw_okq (⟨"LeftHandsModel", "canHold", "(II)Z"⟩, 52) := ⟨⟨by decide +kernel, by decide +kernel⟩, List.mem_of_getElem? (i := 1173) (by decide +kernel), List.mem_of_getElem? (i := 1611) (by decide +kernel), List.mem_of_getElem? (i := 1612) (by decide +kernel)⟩
theorem lw_p88 : lw_okq (⟨"LeftHandsModel", "tells", "(IIIIIJ)J"⟩, 52) := ⟨⟨by decide +kernel, by decide +kernel⟩, List.mem_of_getElem? (i := 1173) (by decide +kernel), List.mem_of_getElem? (i := 1615) (by decide +kernel), List.mem_of_getElem? (i := 1616) (by decide +kernel)⟩
theorem lw_p89 : lw_okq (⟨"LeftHandsModel", "isSo", "(I)Z"⟩, 52) := ⟨⟨by decide +kernel, by decide +kernel⟩, List.mem_of_getElem? (i := 1173) (by decide +kernel), List.mem_of_getElem? (i := 1619) (by decide +kernel), List.mem_of_getElem? (i := 1620) (by decide +kernel)⟩
theorem lw_p90 : lw_okq (⟨"LeftHandsModel", "reckonAll", "(II)V"⟩, 52) := ⟨⟨by decide +kernel, by decide +kernel⟩, List.mem_of_getElem? (i := 1173) (by decide +kernel), List.mem_of_getElem? (i := 1623) (by decide +kernel), List.mem_of_getElem? (i := 1624) (by decide +kernel)⟩
theorem lw_p91 : lw_okq (⟨"LeftHandsModel", "reckon", "(IJJ)J"⟩, 52) := ⟨⟨by decide +kernel, by decide +kernel⟩, List.mem_of_getElem? (i := 1173) (by decide +kernel), List.mem_of_getElem? (i := 1627) (by decide +kernel), List.mem_of_getElem? (i := 1628) (by decide +kernel)⟩
theorem lw_p92 : lw_okq (⟨"LeftHandsModel", "first", "()I"⟩, 52) := ⟨⟨by decide +kernel, by decide +kernel⟩, List.mem_of_getElem? (i := 1173) (by decide +kernel), List.mem_of_getElem? (i := 1633) (by decide +kernel), List.mem_of_getElem? (i := 1634) (by decide +kernel)⟩
theorem lw_p93 : lw_okq (⟨"LeftHandsModel", "goOn", "(II)V"⟩, 52) := ⟨⟨by decide +kernel, by decide +kernel⟩, List.mem_of_getElem? (i := 1173) (by decide +kernel), List.mem_of_getElem? (i := 1637) (by decide +kernel), List.mem_of_getElem? (i := 1638) (by decide +kernel)⟩
theorem lw_p94 : lw_okq (⟨"LeftHandsModel", "isBarred", "(IIII)Z"⟩, 52) := ⟨⟨by decide +kernel, by decide +kernel⟩, List.mem_of_getElem? (i := 1173) (by decide +kernel), List.mem_of_getElem? (i := 1641) (by decide +kernel), List.mem_of_getElem? (i := 1642) (by decide +kernel)⟩
theorem lw_p95 : lw_okq (⟨"LeftHandsModel", "isStuck", "(I)Z"⟩, 52) := ⟨⟨by decide +kernel, by decide +kernel⟩, List.mem_of_getElem? (i := 1173) (by decide +kernel), List.mem_of_getElem? (i := 1660) (by decide +kernel), List.mem_of_getElem? (i := 1661) (by decide +kernel)⟩
def lw_privs_6 : List (MethodName × Nat) := [(⟨"LeftHandsModel", "findWay", "(I)I"⟩, 52), (⟨"LeftHandsModel", "areStands", "(I)Z"⟩, 52), (⟨"LeftHandsModel", "runDay", "()V"⟩, 52), (⟨"LeftHandsModel", "asIs", "()V"⟩, 52), (⟨"LeftHandsModel", "run", "()V"⟩, 52), (⟨"LeftHandsModel", "bring", "(I)V"⟩, 52), (⟨"LeftHandsModel", "takesPart", "(I)Z"⟩, 52), (⟨"LeftHandsModel", "canHold", "(II)Z"⟩, 52), (⟨"LeftHandsModel", "tells", "(IIIIIJ)J"⟩, 52), (⟨"LeftHandsModel", "isSo", "(I)Z"⟩, 52), (⟨"LeftHandsModel", "reckonAll", "(II)V"⟩, 52), (⟨"LeftHandsModel", "reckon", "(IJJ)J"⟩, 52), (⟨"LeftHandsModel", "first", "()I"⟩, 52), (⟨"LeftHandsModel", "goOn", "(II)V"⟩, 52), (⟨"LeftHandsModel", "isBarred", "(IIII)Z"⟩, 52), (⟨"LeftHandsModel", "isStuck", "(I)Z"⟩, 52)]
theorem lw_r6 : ∀ q ∈ lw_privs_6, lw_okq q := List.forall_mem_cons.mpr ⟨lw_p80, List.forall_mem_cons.mpr ⟨lw_p81, List.forall_mem_cons.mpr ⟨lw_p82, List.forall_mem_cons.mpr ⟨lw_p83, List.forall_mem_cons.mpr ⟨lw_p84, List.forall_mem_cons.mpr ⟨lw_p85, List.forall_mem_cons.mpr ⟨lw_p86, List.forall_mem_cons.mpr ⟨lw_p87, List.forall_mem_cons.mpr ⟨lw_p88, List.forall_mem_cons.mpr ⟨lw_p89, List.forall_mem_cons.mpr ⟨lw_p90, List.forall_mem_cons.mpr ⟨lw_p91, List.forall_mem_cons.mpr ⟨lw_p92, List.forall_mem_cons.mpr ⟨lw_p93, List.forall_mem_cons.mpr ⟨lw_p94, List.forall_mem_cons.mpr ⟨lw_p95, fun _ h => absurd h List.not_mem_nil⟩⟩⟩⟩⟩⟩⟩⟩⟩⟩⟩⟩⟩⟩⟩⟩
theorem lw_p96 : lw_okq (⟨"LeftHandsModel", "findSwaps", "(II)V"⟩, 52) := ⟨⟨by decide +kernel, by decide +kernel⟩, List.mem_of_getElem? (i := 1173) (by decide +kernel), List.mem_of_getElem? (i := 1668) (by decide +kernel), List.mem_of_getElem? (i := 1669) (by decide +kernel)⟩
theorem lw_p97 : lw_okq (⟨"LeftHandsModel", "swapAt", "(II)V"⟩, 52) := ⟨⟨by decide +kernel, by decide +kernel⟩, List.mem_of_getElem? (i := 1173) (by decide +kernel), List.mem_of_getElem? (i := 1672) (by decide +kernel), List.mem_of_getElem? (i := 1673) (by decide +kernel)⟩
theorem lw_p98 : lw_okq (⟨"LeftHandsModel", "allCome", "(II)Z"⟩, 52) := ⟨⟨by decide +kernel, by decide +kernel⟩, List.mem_of_getElem? (i := 1173) (by decide +kernel), List.mem_of_getElem? (i := 1676) (by decide +kernel), List.mem_of_getElem? (i := 1677) (by decide +kernel)⟩
theorem lw_p99 : lw_okq (⟨"LeftHandsModel", "nobodyOut", "()Z"⟩, 52) := ⟨⟨by decide +kernel, by decide +kernel⟩, List.mem_of_getElem? (i := 1173) (by decide +kernel), List.mem_of_getElem? (i := 1692) (by decide +kernel), List.mem_of_getElem? (i := 1693) (by decide +kernel)⟩
theorem lw_p100 : lw_okq (⟨"LeftHandsModel", "costOf", "(I)I"⟩, 52) := ⟨⟨by decide +kernel, by decide +kernel⟩, List.mem_of_getElem? (i := 1173) (by decide +kernel), List.mem_of_getElem? (i := 1700) (by decide +kernel), List.mem_of_getElem? (i := 1701) (by decide +kernel)⟩
theorem lw_p101 : lw_okq (⟨"LeftHandsModel", "feeOf", "(II)I"⟩, 52) := ⟨⟨by decide +kernel, by decide +kernel⟩, List.mem_of_getElem? (i := 1173) (by decide +kernel), List.mem_of_getElem? (i := 1704) (by decide +kernel), List.mem_of_getElem? (i := 1705) (by decide +kernel)⟩
theorem lw_p102 : lw_okq (⟨"LeftHandsModel", "isSent", "(I)Z"⟩, 52) := ⟨⟨by decide +kernel, by decide +kernel⟩, List.mem_of_getElem? (i := 1173) (by decide +kernel), List.mem_of_getElem? (i := 1713) (by decide +kernel), List.mem_of_getElem? (i := 1714) (by decide +kernel)⟩
theorem lw_p103 : lw_okq (⟨"LeftHandsModel", "incomeOf", "(I)I"⟩, 52) := ⟨⟨by decide +kernel, by decide +kernel⟩, List.mem_of_getElem? (i := 1173) (by decide +kernel), List.mem_of_getElem? (i := 1721) (by decide +kernel), List.mem_of_getElem? (i := 1722) (by decide +kernel)⟩
theorem lw_p104 : lw_okq (⟨"LeftHandsModel", "answerOf", "(I)I"⟩, 52) := ⟨⟨by decide +kernel, by decide +kernel⟩, List.mem_of_getElem? (i := 1173) (by decide +kernel), List.mem_of_getElem? (i := 1729) (by decide +kernel), List.mem_of_getElem? (i := 1730) (by decide +kernel)⟩
theorem lw_p105 : lw_okq (⟨"LeftHandsModel", "after", "(II)I"⟩, 52) := ⟨⟨by decide +kernel, by decide +kernel⟩, List.mem_of_getElem? (i := 1173) (by decide +kernel), List.mem_of_getElem? (i := 1757) (by decide +kernel), List.mem_of_getElem? (i := 1758) (by decide +kernel)⟩
theorem lw_p106 : lw_okq (⟨"LeftHandsModel", "draw3", "(I)I"⟩, 52) := ⟨⟨by decide +kernel, by decide +kernel⟩, List.mem_of_getElem? (i := 1173) (by decide +kernel), List.mem_of_getElem? (i := 1769) (by decide +kernel), List.mem_of_getElem? (i := 1770) (by decide +kernel)⟩
theorem lw_p107 : lw_okq (⟨"LeftHandsModel", "byNoon", "()I"⟩, 52) := ⟨⟨by decide +kernel, by decide +kernel⟩, List.mem_of_getElem? (i := 1173) (by decide +kernel), List.mem_of_getElem? (i := 1776) (by decide +kernel), List.mem_of_getElem? (i := 1777) (by decide +kernel)⟩
def lw_privs_7 : List (MethodName × Nat) := [(⟨"LeftHandsModel", "findSwaps", "(II)V"⟩, 52), (⟨"LeftHandsModel", "swapAt", "(II)V"⟩, 52), (⟨"LeftHandsModel", "allCome", "(II)Z"⟩, 52), (⟨"LeftHandsModel", "nobodyOut", "()Z"⟩, 52), (⟨"LeftHandsModel", "costOf", "(I)I"⟩, 52), (⟨"LeftHandsModel", "feeOf", "(II)I"⟩, 52), (⟨"LeftHandsModel", "isSent", "(I)Z"⟩, 52), (⟨"LeftHandsModel", "incomeOf", "(I)I"⟩, 52), (⟨"LeftHandsModel", "answerOf", "(I)I"⟩, 52), (⟨"LeftHandsModel", "after", "(II)I"⟩, 52), (⟨"LeftHandsModel", "draw3", "(I)I"⟩, 52), (⟨"LeftHandsModel", "byNoon", "()I"⟩, 52)]
theorem lw_r7 : ∀ q ∈ lw_privs_7, lw_okq q := List.forall_mem_cons.mpr ⟨lw_p96, List.forall_mem_cons.mpr ⟨lw_p97, List.forall_mem_cons.mpr ⟨lw_p98, List.forall_mem_cons.mpr ⟨lw_p99, List.forall_mem_cons.mpr ⟨lw_p100, List.forall_mem_cons.mpr ⟨lw_p101, List.forall_mem_cons.mpr ⟨lw_p102, List.forall_mem_cons.mpr ⟨lw_p103, List.forall_mem_cons.mpr ⟨lw_p104, List.forall_mem_cons.mpr ⟨lw_p105, List.forall_mem_cons.mpr ⟨lw_p106, List.forall_mem_cons.mpr ⟨lw_p107, fun _ h => absurd h List.not_mem_nil⟩⟩⟩⟩⟩⟩⟩⟩⟩⟩⟩⟩
def lw_privs : List (MethodName × Nat) := lw_privs_1 ++ (lw_privs_2 ++ (lw_privs_3 ++ (lw_privs_4 ++ (lw_privs_5 ++ (lw_privs_6 ++ (lw_privs_7))))))
def lw_tbl : List Cond := k2_sels lw_privs ++ tables_1
theorem lw_privs_ok : ∀ q ∈ lw_privs, lw_okq q := by
  show ∀ q ∈ lw_privs_1 ++ (lw_privs_2 ++ (lw_privs_3 ++ (lw_privs_4 ++ (lw_privs_5 ++ (lw_privs_6 ++ (lw_privs_7)))))), lw_okq q
  exact List.forall_mem_append.mpr ⟨lw_r1, List.forall_mem_append.mpr ⟨lw_r2, List.forall_mem_append.mpr ⟨lw_r3, List.forall_mem_append.mpr ⟨lw_r4, List.forall_mem_append.mpr ⟨lw_r5, List.forall_mem_append.mpr ⟨lw_r6, lw_r7⟩⟩⟩⟩⟩⟩
def RX0 : String := "LeftHands$Bazaar"
def TX0 : u_T := fun k => match k with
  | 0 => ("LeftHands$Bazaar", "stands", "I", false)
  | 1 => ("LeftHands$Bazaar", "left", "[I", true)
  | 2 => ("LeftHands$Bazaar", "strength", "[I", true)
  | 3 => ("LeftHands$Bazaar", "fee", "[I", true)
  | 4 => ("LeftHands$Bazaar", "loads", "I", false)
  | 5 => ("LeftHands$Bazaar", "facts", "[I", true)
  | 6 => ("LeftHands$Bazaar", "laws", "I", false)
  | 7 => ("LeftHands$Bazaar", "lawRow", "[LLeftHands$Law;", true)
  | 8 => ("LeftHands$Bazaar", "noLaw", "LLeftHands$Law;", true)
  | 9 => ("LeftHands$Bazaar", "inForce", "I", false)
  | 10 => ("LeftHands$Bazaar", "noon", "I", false)
  | 11 => ("LeftHands$Bazaar", "hands", "I", false)
  | 12 => ("LeftHands$Bazaar", "signs", "I", false)
  | 13 => ("LeftHands$Bazaar", "signStand", "[I", true)
  | _ => ("LeftHands$Bazaar", "signHands", "[I", true)
def tyX0 : Nat → FieldType := fun k => match k with
  | 0 => .int
  | 1 => .array .int
  | 2 => .array .int
  | 3 => .array .int
  | 4 => .int
  | 5 => .array .int
  | 6 => .int
  | 7 => .array (.object "LeftHands$Law")
  | 8 => .object "LeftHands$Law"
  | 9 => .int
  | 10 => .int
  | 11 => .int
  | 12 => .int
  | 13 => .array .int
  | _ => .array .int
theorem nmX0 : ∀ a, a < 15 → ∀ b, b < 15 → a ≠ b → (TX0 a).2.1 ≠ (TX0 b).2.1 := by decide +kernel
theorem tyX0_ok : ∀ k, k < 15 → parseFieldDescriptor (TX0 k).2.2.1 = some (tyX0 k) := by decide +kernel
abbrev cX0_init : ByteArray := prog_2_method_1_code
def yX0_init : MethodName := ⟨RX0, "<init>", "()V"⟩
abbrev cX0_become : ByteArray := prog_2_method_2_code
def yX0_become : MethodName := ⟨RX0, "become", "(LLeftHands$Bazaar;)V"⟩
abbrev cX0_hasStand : ByteArray := prog_2_method_3_code
def yX0_hasStand : MethodName := ⟨RX0, "hasStand", "(I)Z"⟩
abbrev cX0_hasLoad : ByteArray := prog_2_method_4_code
def yX0_hasLoad : MethodName := ⟨RX0, "hasLoad", "(I)Z"⟩
abbrev cX0_addStand : ByteArray := prog_2_method_5_code
def yX0_addStand : MethodName := ⟨RX0, "addStand", "(III)I"⟩
abbrev cX0_addLoad : ByteArray := prog_2_method_6_code
def yX0_addLoad : MethodName := ⟨RX0, "addLoad", "(IIIIII)I"⟩
abbrev cX0_removeLoad : ByteArray := prog_2_method_7_code
def yX0_removeLoad : MethodName := ⟨RX0, "removeLoad", "(I)V"⟩
abbrev cX0_addLaw : ByteArray := prog_2_method_8_code
def yX0_addLaw : MethodName := ⟨RX0, "addLaw", "(LLeftHands$Law;)I"⟩
abbrev cX0_lawInForce : ByteArray := prog_2_method_9_code
def yX0_lawInForce : MethodName := ⟨RX0, "lawInForce", "()LLeftHands$Law;"⟩
abbrev cX0_lawAt : ByteArray := prog_2_method_10_code
def yX0_lawAt : MethodName := ⟨RX0, "lawAt", "(I)LLeftHands$Law;"⟩
abbrev cX0_about : ByteArray := prog_2_method_11_code
def yX0_about : MethodName := ⟨RX0, "about", "(II)I"⟩
abbrev cX0_next : ByteArray := prog_2_method_12_code
def yX0_next : MethodName := ⟨RX0, "next", "(I)I"⟩
abbrev cX0_nextPast : ByteArray := prog_2_method_13_code
def yX0_nextPast : MethodName := ⟨RX0, "nextPast", "(II)I"⟩
abbrev cX0_handsOf : ByteArray := prog_2_method_14_code
def yX0_handsOf : MethodName := ⟨RX0, "handsOf", "(I)I"⟩
def RX1 : String := "LeftHands$Day"
def TX1 : u_T := fun k => match k with
  | 0 => ("LeftHands$Day", "bazaar", "LLeftHands$Bazaar;", true)
  | 1 => ("LeftHands$Day", "judge", "LLeftHands$Judge;", true)
  | 2 => ("LeftHands$Day", "strength", "[I", true)
  | 3 => ("LeftHands$Day", "fee", "[I", true)
  | 4 => ("LeftHands$Day", "start", "[I", true)
  | 5 => ("LeftHands$Day", "next", "[I", true)
  | 6 => ("LeftHands$Day", "hands", "[I", true)
  | 7 => ("LeftHands$Day", "handsLeft", "[I", true)
  | 8 => ("LeftHands$Day", "at", "[I", true)
  | 9 => ("LeftHands$Day", "come", "[I", true)
  | 10 => ("LeftHands$Day", "waited", "[I", true)
  | 11 => ("LeftHands$Day", "waits", "[I", true)
  | 12 => ("LeftHands$Day", "heldLoads", "[I", true)
  | 13 => ("LeftHands$Day", "heldWeight", "[I", true)
  | 14 => ("LeftHands$Day", "rank", "[J", true)
  | 15 => ("LeftHands$Day", "turns", "[I", true)
  | 16 => ("LeftHands$Day", "lined", "I", false)
  | 17 => ("LeftHands$Day", "places", "[I", true)
  | _ => ("LeftHands$Day", "moved", "Z", false)
def tyX1 : Nat → FieldType := fun k => match k with
  | 0 => .object "LeftHands$Bazaar"
  | 1 => .object "LeftHands$Judge"
  | 2 => .array .int
  | 3 => .array .int
  | 4 => .array .int
  | 5 => .array .int
  | 6 => .array .int
  | 7 => .array .int
  | 8 => .array .int
  | 9 => .array .int
  | 10 => .array .int
  | 11 => .array .int
  | 12 => .array .int
  | 13 => .array .int
  | 14 => .array .long
  | 15 => .array .int
  | 16 => .int
  | 17 => .array .int
  | _ => .boolean
theorem nmX1 : ∀ a, a < 19 → ∀ b, b < 19 → a ≠ b → (TX1 a).2.1 ≠ (TX1 b).2.1 := by decide +kernel
theorem tyX1_ok : ∀ k, k < 19 → parseFieldDescriptor (TX1 k).2.2.1 = some (tyX1 k) := by decide +kernel
abbrev cX1_init : ByteArray := prog_3_method_1_code
def yX1_init : MethodName := ⟨RX1, "<init>", "(LLeftHands$Bazaar;LLeftHands$Judge;)V"⟩
abbrev cX1_layOut : ByteArray := prog_3_method_2_code
def yX1_layOut : MethodName := ⟨RX1, "layOut", "(I)V"⟩
abbrev cX1_handsToWant : ByteArray := prog_3_method_3_code
def yX1_handsToWant : MethodName := ⟨RX1, "handsToWant", "(I)I"⟩
abbrev cX1_runWhole : ByteArray := prog_3_method_4_code
def yX1_runWhole : MethodName := ⟨RX1, "runWhole", "()V"⟩
abbrev cX1_comesBy : ByteArray := prog_3_method_5_code
def yX1_comesBy : MethodName := ⟨RX1, "comesBy", "(II)Z"⟩
abbrev cX1_lastStart : ByteArray := prog_3_method_6_code
def yX1_lastStart : MethodName := ⟨RX1, "lastStart", "()I"⟩
abbrev cX1_canComeBy : ByteArray := prog_3_method_7_code
def yX1_canComeBy : MethodName := ⟨RX1, "canComeBy", "(II)Z"⟩
abbrev cX1_isCarried : ByteArray := prog_3_method_8_code
def yX1_isCarried : MethodName := ⟨RX1, "isCarried", "(I)Z"⟩
abbrev cX1_begin : ByteArray := prog_3_method_9_code
def yX1_begin : MethodName := ⟨RX1, "begin", "()V"⟩
abbrev cX1_arrive : ByteArray := prog_3_method_10_code
def yX1_arrive : MethodName := ⟨RX1, "arrive", "(I)V"⟩
abbrev cX1_admit : ByteArray := prog_3_method_11_code
def yX1_admit : MethodName := ⟨RX1, "\x61dmit", "(II)V"⟩
abbrev cX1_canHold : ByteArray := prog_3_method_12_code
def yX1_canHold : MethodName := ⟨RX1, "canHold", "(II)Z"⟩
abbrev cX1_take : ByteArray := prog_3_method_13_code
def yX1_take : MethodName := ⟨RX1, "take", "(II)V"⟩
abbrev cX1_giveUp : ByteArray := prog_3_method_14_code
def yX1_giveUp : MethodName := ⟨RX1, "giveUp", "(II)V"⟩
abbrev cX1_lineUp : ByteArray := prog_3_method_15_code
def yX1_lineUp : MethodName := ⟨RX1, "lineUp", "(I)V"⟩
abbrev cX1_goOn : ByteArray := prog_3_method_16_code
def yX1_goOn : MethodName := ⟨RX1, "goOn", "(I)V"⟩
abbrev cX1_placeBehind : ByteArray := prog_3_method_17_code
def yX1_placeBehind : MethodName := ⟨RX1, "placeBehind", "(II)I"⟩
abbrev cX1_comeByNoon : ByteArray := prog_3_method_18_code
def yX1_comeByNoon : MethodName := ⟨RX1, "comeByNoon", "()I"⟩
abbrev cX1_failures : ByteArray := prog_3_method_19_code
def yX1_failures : MethodName := ⟨RX1, "failures", "()I"⟩
abbrev cX1_chokingRound : ByteArray := prog_3_method_20_code
def yX1_chokingRound : MethodName := ⟨RX1, "chokingRound", "()I"⟩
abbrev cX1_isStuck : ByteArray := prog_3_method_21_code
def yX1_isStuck : MethodName := ⟨RX1, "isStuck", "(I)Z"⟩
abbrev cX1_roundOf : ByteArray := prog_3_method_22_code
def yX1_roundOf : MethodName := ⟨RX1, "roundOf", "(II)I"⟩
def RX2 : String := "LeftHands$Fees"
def TX2 : u_T := fun k => match k with
  | 0 => ("LeftHands$Fees", "bazaar", "LLeftHands$Bazaar;", true)
  | 1 => ("LeftHands$Fees", "judge", "LLeftHands$Judge;", true)
  | 2 => ("LeftHands$Fees", "asks", "[I", true)
  | 3 => ("LeftHands$Fees", "others", "[I", true)
  | 4 => ("LeftHands$Fees", "told", "[I", true)
  | 5 => ("LeftHands$Fees", "toldFresh", "Z", false)
  | 6 => ("LeftHands$Fees", "telling", "Z", false)
  | 7 => ("LeftHands$Fees", "best", "I", false)
  | 8 => ("LeftHands$Fees", "bestIncome", "I", false)
  | 9 => ("LeftHands$Fees", "income", "I", false)
  | 10 => ("LeftHands$Fees", "settledKnown", "Z", false)
  | 11 => ("LeftHands$Fees", "rounds", "I", false)
  | _ => ("LeftHands$Fees", "settledFees", "[I", true)
def tyX2 : Nat → FieldType := fun k => match k with
  | 0 => .object "LeftHands$Bazaar"
  | 1 => .object "LeftHands$Judge"
  | 2 => .array .int
  | 3 => .array .int
  | 4 => .array .int
  | 5 => .boolean
  | 6 => .boolean
  | 7 => .int
  | 8 => .int
  | 9 => .int
  | 10 => .boolean
  | 11 => .int
  | _ => .array .int
theorem nmX2 : ∀ a, a < 13 → ∀ b, b < 13 → a ≠ b → (TX2 a).2.1 ≠ (TX2 b).2.1 := by decide +kernel
theorem tyX2_ok : ∀ k, k < 13 → parseFieldDescriptor (TX2 k).2.2.1 = some (tyX2 k) := by decide +kernel
abbrev cX2_init : ByteArray := prog_4_method_1_code
def yX2_init : MethodName := ⟨RX2, "<init>", "(LLeftHands$Bazaar;LLeftHands$Judge;)V"⟩
abbrev cX2_forget : ByteArray := prog_4_method_2_code
def yX2_forget : MethodName := ⟨RX2, "forget", "()V"⟩
abbrev cX2_costOf : ByteArray := prog_4_method_3_code
def yX2_costOf : MethodName := ⟨RX2, "costOf", "(I)I"⟩
abbrev cX2_incomeOf : ByteArray := prog_4_method_4_code
def yX2_incomeOf : MethodName := ⟨RX2, "incomeOf", "(I)I"⟩
abbrev cX2_answerOf : ByteArray := prog_4_method_5_code
def yX2_answerOf : MethodName := ⟨RX2, "answerOf", "(II)I"⟩
abbrev cX2_firstRestless : ByteArray := prog_4_method_6_code
def yX2_firstRestless : MethodName := ⟨RX2, "firstRestless", "()I"⟩
abbrev cX2_settle : ByteArray := prog_4_method_7_code
def yX2_settle : MethodName := ⟨RX2, "settle", "()V"⟩
abbrev cX2_settled : ByteArray := prog_4_method_8_code
def yX2_settled : MethodName := ⟨RX2, "settled", "(I)I"⟩
abbrev cX2_begin : ByteArray := prog_4_method_9_code
def yX2_begin : MethodName := ⟨RX2, "begin", "()V"⟩
abbrev cX2_seekAnswer : ByteArray := prog_4_method_10_code
def yX2_seekAnswer : MethodName := ⟨RX2, "seekAnswer", "(I)V"⟩
abbrev cX2_incomeBy : ByteArray := prog_4_method_11_code
def yX2_incomeBy : MethodName := ⟨RX2, "incomeBy", "(II)I"⟩
abbrev cX2_costBeside : ByteArray := prog_4_method_12_code
def yX2_costBeside : MethodName := ⟨RX2, "costBeside", "(II)I"⟩
abbrev cX2_gets : ByteArray := prog_4_method_13_code
def yX2_gets : MethodName := ⟨RX2, "gets", "(III)I"⟩
def RX3 : String := "LeftHands$Judge"
def TX3 : u_T := fun k => match k with
  | 0 => ("LeftHands$Judge", "bazaar", "LLeftHands$Bazaar;", true)
  | 1 => ("LeftHands$Judge", "words", "[J", true)
  | 2 => ("LeftHands$Judge", "stack", "[J", true)
  | _ => ("LeftHands$Judge", "broken", "Z", false)
def tyX3 : Nat → FieldType := fun k => match k with
  | 0 => .object "LeftHands$Bazaar"
  | 1 => .array .long
  | 2 => .array .long
  | _ => .boolean
theorem nmX3 : ∀ a, a < 4 → ∀ b, b < 4 → a ≠ b → (TX3 a).2.1 ≠ (TX3 b).2.1 := by decide +kernel
theorem tyX3_ok : ∀ k, k < 4 → parseFieldDescriptor (TX3 k).2.2.1 = some (tyX3 k) := by decide +kernel
abbrev cX3_init : ByteArray := prog_5_method_1_code
def yX3_init : MethodName := ⟨RX3, "<init>", "(LLeftHands$Bazaar;)V"⟩
abbrev cX3_nameOf : ByteArray := prog_5_method_2_code
def yX3_nameOf : MethodName := ⟨RX3, "nameOf", "(I)Ljava/lang/String;"⟩
abbrev cX3_tells : ByteArray := prog_5_method_3_code
def yX3_tells : MethodName := ⟨RX3, "tells", "(IIIIIII)J"⟩
abbrev cX3_worth : ByteArray := prog_5_method_4_code
def yX3_worth : MethodName := ⟨RX3, "worth", "(LLeftHands$Law;II)J"⟩
abbrev cX3_joined : ByteArray := prog_5_method_5_code
def yX3_joined : MethodName := ⟨RX3, "joined", "(IJJ)J"⟩
def RX4 : String := "LeftHands$Law"
def TX4 : u_T := fun k => match k with
  | 0 => ("LeftHands$Law", "length", "I", false)
  | 1 => ("LeftHands$Law", "kinds", "[I", true)
  | 2 => ("LeftHands$Law", "values", "[I", true)
  | 3 => ("LeftHands$Law", "clauses", "I", false)
  | 4 => ("LeftHands$Law", "spoken", "I", false)
  | 5 => ("LeftHands$Law", "heads", "[I", true)
  | 6 => ("LeftHands$Law", "sumFrom", "[I", true)
  | 7 => ("LeftHands$Law", "testFrom", "[I", true)
  | _ => ("LeftHands$Law", "till", "[I", true)
def tyX4 : Nat → FieldType := fun k => match k with
  | 0 => .int
  | 1 => .array .int
  | 2 => .array .int
  | 3 => .int
  | 4 => .int
  | 5 => .array .int
  | 6 => .array .int
  | 7 => .array .int
  | _ => .array .int
theorem nmX4 : ∀ a, a < 9 → ∀ b, b < 9 → a ≠ b → (TX4 a).2.1 ≠ (TX4 b).2.1 := by decide +kernel
theorem tyX4_ok : ∀ k, k < 9 → parseFieldDescriptor (TX4 k).2.2.1 = some (tyX4 k) := by decide +kernel
abbrev cX4_init : ByteArray := prog_6_method_1_code
def yX4_init : MethodName := ⟨RX4, "<init>", "()V"⟩
abbrev cX4_become : ByteArray := prog_6_method_2_code
def yX4_become : MethodName := ⟨RX4, "become", "(LLeftHands$Law;)V"⟩
abbrev cX4_wipe : ByteArray := prog_6_method_3_code
def yX4_wipe : MethodName := ⟨RX4, "wipe", "()V"⟩
abbrev cX4_speaksOf : ByteArray := prog_6_method_4_code
def yX4_speaksOf : MethodName := ⟨RX4, "speaksOf", "(I)Z"⟩
abbrev cX4_asksOfTime : ByteArray := prog_6_method_5_code
def yX4_asksOfTime : MethodName := ⟨RX4, "asksOfTime", "()Z"⟩
abbrev cX4_add : ByteArray := prog_6_method_6_code
def yX4_add : MethodName := ⟨RX4, "add", "(II)I"⟩
abbrev cX4_aimAtEnd : ByteArray := prog_6_method_7_code
def yX4_aimAtEnd : MethodName := ⟨RX4, "aimAtEnd", "(I)V"⟩
def RX5 : String := "LeftHands$LawReader"
def TX5 : u_T := fun k => match k with
  | 0 => ("LeftHands$LawReader", "tape", "LLeftHands$Tape;", true)
  | 1 => ("LeftHands$LawReader", "draft", "LLeftHands$Law;", true)
  | 2 => ("LeftHands$LawReader", "fault", "I", false)
  | 3 => ("LeftHands$LawReader", "kind", "I", false)
  | 4 => ("LeftHands$LawReader", "place", "I", false)
  | 5 => ("LeftHands$LawReader", "behind", "I", false)
  | _ => ("LeftHands$LawReader", "parts", "I", false)
def tyX5 : Nat → FieldType := fun k => match k with
  | 0 => .object "LeftHands$Tape"
  | 1 => .object "LeftHands$Law"
  | 2 => .int
  | 3 => .int
  | 4 => .int
  | 5 => .int
  | _ => .int
theorem nmX5 : ∀ a, a < 7 → ∀ b, b < 7 → a ≠ b → (TX5 a).2.1 ≠ (TX5 b).2.1 := by decide +kernel
theorem tyX5_ok : ∀ k, k < 7 → parseFieldDescriptor (TX5 k).2.2.1 = some (tyX5 k) := by decide +kernel
abbrev cX5_init : ByteArray := prog_7_method_1_code
def yX5_init : MethodName := ⟨RX5, "<init>", "(LLeftHands$Tape;)V"⟩
abbrev cX5_read : ByteArray := prog_7_method_2_code
def yX5_read : MethodName := ⟨RX5, "read", "()Z"⟩
abbrev cX5_readClause : ByteArray := prog_7_method_3_code
def yX5_readClause : MethodName := ⟨RX5, "readClause", "()V"⟩
abbrev cX5_readJoined : ByteArray := prog_7_method_4_code
def yX5_readJoined : MethodName := ⟨RX5, "readJoined", "(II)V"⟩
abbrev cX5_joinHere : ByteArray := prog_7_method_5_code
def yX5_joinHere : MethodName := ⟨RX5, "joinHere", "(I)I"⟩
abbrev cX5_readPlain : ByteArray := prog_7_method_6_code
def yX5_readPlain : MethodName := ⟨RX5, "readPlain", "(I)V"⟩
abbrev cX5_comparisonHere : ByteArray := prog_7_method_7_code
def yX5_comparisonHere : MethodName := ⟨RX5, "comparisonHere", "()I"⟩
abbrev cX5_readPart : ByteArray := prog_7_method_8_code
def yX5_readPart : MethodName := ⟨RX5, "readPart", "(I)V"⟩
abbrev cX5_open : ByteArray := prog_7_method_9_code
def yX5_open : MethodName := ⟨RX5, "open", "(I)V"⟩
abbrev cX5_expect : ByteArray := prog_7_method_10_code
def yX5_expect : MethodName := ⟨RX5, "expect", "(C)V"⟩
abbrev cX5_fail : ByteArray := prog_7_method_11_code
def yX5_fail : MethodName := ⟨RX5, "fail", "()V"⟩
abbrev cX5_step : ByteArray := prog_7_method_12_code
def yX5_step : MethodName := ⟨RX5, "step", "()V"⟩
abbrev cX5_kindOf : ByteArray := prog_7_method_13_code
def yX5_kindOf : MethodName := ⟨RX5, "kindOf", "(I)I"⟩
abbrev cX5_isSingle : ByteArray := prog_7_method_14_code
def yX5_isSingle : MethodName := ⟨RX5, "isSingle", "(C)Z"⟩
abbrev cX5_isWord : ByteArray := prog_7_method_15_code
def yX5_isWord : MethodName := ⟨RX5, "isWord", "(Ljava/lang/String;)Z"⟩
abbrev cX5_numberHere : ByteArray := prog_7_method_16_code
def yX5_numberHere : MethodName := ⟨RX5, "numberHere", "()I"⟩
abbrev cX5_wordHere : ByteArray := prog_7_method_17_code
def yX5_wordHere : MethodName := ⟨RX5, "wordHere", "()I"⟩
def RX6 : String := "LeftHands$Sender"
def TX6 : u_T := fun k => match k with
  | 0 => ("LeftHands$Sender", "bazaar", "LLeftHands$Bazaar;", true)
  | 1 => ("LeftHands$Sender", "day", "LLeftHands$Day;", true)
  | 2 => ("LeftHands$Sender", "known", "Z", false)
  | 3 => ("LeftHands$Sender", "fewest", "I", false)
  | 4 => ("LeftHands$Sender", "lowest", "I", false)
  | _ => ("LeftHands$Sender", "sets", "I", false)
def tyX6 : Nat → FieldType := fun k => match k with
  | 0 => .object "LeftHands$Bazaar"
  | 1 => .object "LeftHands$Day"
  | 2 => .boolean
  | 3 => .int
  | 4 => .int
  | _ => .int
theorem nmX6 : ∀ a, a < 6 → ∀ b, b < 6 → a ≠ b → (TX6 a).2.1 ≠ (TX6 b).2.1 := by decide +kernel
theorem tyX6_ok : ∀ k, k < 6 → parseFieldDescriptor (TX6 k).2.2.1 = some (tyX6 k) := by decide +kernel
abbrev cX6_init : ByteArray := prog_8_method_1_code
def yX6_init : MethodName := ⟨RX6, "<init>", "(LLeftHands$Bazaar;LLeftHands$Day;)V"⟩
abbrev cX6_forget : ByteArray := prog_8_method_2_code
def yX6_forget : MethodName := ⟨RX6, "forget", "()V"⟩
abbrev cX6_told : ByteArray := prog_8_method_3_code
def yX6_told : MethodName := ⟨RX6, "told", "(I)I"⟩
abbrev cX6_search : ByteArray := prog_8_method_4_code
def yX6_search : MethodName := ⟨RX6, "search", "()V"⟩
def RX7 : String := "LeftHands$Swapper"
def TX7 : u_T := fun k => match k with
  | 0 => ("LeftHands$Swapper", "bazaar", "LLeftHands$Bazaar;", true)
  | 1 => ("LeftHands$Swapper", "day", "LLeftHands$Day;", true)
  | 2 => ("LeftHands$Swapper", "loads", "I", false)
  | 3 => ("LeftHands$Swapper", "fewest", "I", false)
  | 4 => ("LeftHands$Swapper", "rows", "I", false)
  | _ => ("LeftHands$Swapper", "first", "[I", true)
def tyX7 : Nat → FieldType := fun k => match k with
  | 0 => .object "LeftHands$Bazaar"
  | 1 => .object "LeftHands$Day"
  | 2 => .int
  | 3 => .int
  | 4 => .int
  | _ => .array .int
theorem nmX7 : ∀ a, a < 6 → ∀ b, b < 6 → a ≠ b → (TX7 a).2.1 ≠ (TX7 b).2.1 := by decide +kernel
theorem tyX7_ok : ∀ k, k < 6 → parseFieldDescriptor (TX7 k).2.2.1 = some (tyX7 k) := by decide +kernel
abbrev cX7_init : ByteArray := prog_9_method_1_code
def yX7_init : MethodName := ⟨RX7, "<init>", "(LLeftHands$Bazaar;LLeftHands$Day;)V"⟩
abbrev cX7_forget : ByteArray := prog_9_method_2_code
def yX7_forget : MethodName := ⟨RX7, "forget", "()V"⟩
abbrev cX7_told : ByteArray := prog_9_method_3_code
def yX7_told : MethodName := ⟨RX7, "told", "(II)I"⟩
abbrev cX7_tryNone : ByteArray := prog_9_method_4_code
def yX7_tryNone : MethodName := ⟨RX7, "tryNone", "()V"⟩
abbrev cX7_tryOne : ByteArray := prog_9_method_5_code
def yX7_tryOne : MethodName := ⟨RX7, "tryOne", "()V"⟩
abbrev cX7_tryTwo : ByteArray := prog_9_method_6_code
def yX7_tryTwo : MethodName := ⟨RX7, "tryTwo", "()V"⟩
abbrev cX7_rowsLike : ByteArray := prog_9_method_7_code
def yX7_rowsLike : MethodName := ⟨RX7, "rowsLike", "(IIII)I"⟩
abbrev cX7_change : ByteArray := prog_9_method_8_code
def yX7_change : MethodName := ⟨RX7, "change", "(II)V"⟩
abbrev cX7_found : ByteArray := prog_9_method_9_code
def yX7_found : MethodName := ⟨RX7, "found", "(IIIII)V"⟩
def RX8 : String := "LeftHands$Tape"
def TX8 : u_T := fun k => match k with
  | 0 => ("LeftHands$Tape", "bytes", "[I", true)
  | _ => ("LeftHands$Tape", "length", "I", false)
def tyX8 : Nat → FieldType := fun k => match k with
  | 0 => .array .int
  | _ => .int
theorem nmX8 : ∀ a, a < 2 → ∀ b, b < 2 → a ≠ b → (TX8 a).2.1 ≠ (TX8 b).2.1 := by decide +kernel
theorem tyX8_ok : ∀ k, k < 2 → parseFieldDescriptor (TX8 k).2.2.1 = some (tyX8 k) := by decide +kernel
abbrev cX8_init : ByteArray := prog_10_method_1_code
def yX8_init : MethodName := ⟨RX8, "<init>", "()V"⟩
abbrev cX8_append : ByteArray := prog_10_method_2_code
def yX8_append : MethodName := ⟨RX8, "append", "(I)V"⟩
abbrev cX8_at : ByteArray := prog_10_method_3_code
def yX8_at : MethodName := ⟨RX8, "at", "(I)I"⟩
def RX9 : String := "LeftHands$Ways"
def TX9 : u_T := fun k => match k with
  | _ => ("LeftHands$Ways", "bazaar", "LLeftHands$Bazaar;", true)
def tyX9 : Nat → FieldType := fun k => match k with
  | _ => .object "LeftHands$Bazaar"
theorem nmX9 : ∀ a, a < 1 → ∀ b, b < 1 → a ≠ b → (TX9 a).2.1 ≠ (TX9 b).2.1 := by decide +kernel
theorem tyX9_ok : ∀ k, k < 1 → parseFieldDescriptor (TX9 k).2.2.1 = some (tyX9 k) := by decide +kernel
abbrev cX9_init : ByteArray := prog_11_method_1_code
def yX9_init : MethodName := ⟨RX9, "<init>", "(LLeftHands$Bazaar;)V"⟩
abbrev cX9_standOf : ByteArray := prog_11_method_2_code
def yX9_standOf : MethodName := ⟨RX9, "standOf", "(II)I"⟩
abbrev cX9_comersTo : ByteArray := prog_11_method_3_code
def yX9_comersTo : MethodName := ⟨RX9, "comersTo", "(II)I"⟩
abbrev cX9_suspects : ByteArray := prog_11_method_4_code
def yX9_suspects : MethodName := ⟨RX9, "suspects", "()I"⟩
abbrev cX9_fitsSigns : ByteArray := prog_11_method_5_code
def yX9_fitsSigns : MethodName := ⟨RX9, "fitsSigns", "(I)Z"⟩
abbrev cX9_meeting : ByteArray := prog_11_method_6_code
def yX9_meeting : MethodName := ⟨RX9, "meeting", "(III)I"⟩
abbrev cX9_minutesInPieces : ByteArray := prog_11_method_7_code
def yX9_minutesInPieces : MethodName := ⟨RX9, "minutesInPieces", "(I)I"⟩
abbrev cX9_standAfter : ByteArray := prog_11_method_8_code
def yX9_standAfter : MethodName := ⟨RX9, "standAfter", "(II)I"⟩
def RX10 : String := "LeftHands"
def TX10 : u_T := fun k => match k with
  | 0 => ("LeftHands", "now", "LLeftHands$Bazaar;", true)
  | 1 => ("LeftHands", "images", "[LLeftHands$Bazaar;", true)
  | 2 => ("LeftHands", "imageKept", "[Z", true)
  | 3 => ("LeftHands", "tape", "LLeftHands$Tape;", true)
  | 4 => ("LeftHands", "reader", "LLeftHands$LawReader;", true)
  | 5 => ("LeftHands", "ways", "LLeftHands$Ways;", true)
  | 6 => ("LeftHands", "today", "LLeftHands$Day;", true)
  | 7 => ("LeftHands", "trial", "LLeftHands$Day;", true)
  | 8 => ("LeftHands", "swapper", "LLeftHands$Swapper;", true)
  | 9 => ("LeftHands", "sender", "LLeftHands$Sender;", true)
  | 10 => ("LeftHands", "fees", "LLeftHands$Fees;", true)
  | 11 => ("LeftHands", "drawnCome", "[I", true)
  | 12 => ("LeftHands", "drawnStart", "[I", true)
  | 13 => ("LeftHands", "refusals", "[I", true)
  | 14 => ("LeftHands", "todayKnown", "Z", false)
  | 15 => ("LeftHands", "drawnLoads", "I", false)
  | 16 => ("LeftHands", "droppedLately", "I", false)
  | _ => ("LeftHands", "statusNow", "I", false)
def tyX10 : Nat → FieldType := fun k => match k with
  | 0 => .object "LeftHands$Bazaar"
  | 1 => .array (.object "LeftHands$Bazaar")
  | 2 => .array .boolean
  | 3 => .object "LeftHands$Tape"
  | 4 => .object "LeftHands$LawReader"
  | 5 => .object "LeftHands$Ways"
  | 6 => .object "LeftHands$Day"
  | 7 => .object "LeftHands$Day"
  | 8 => .object "LeftHands$Swapper"
  | 9 => .object "LeftHands$Sender"
  | 10 => .object "LeftHands$Fees"
  | 11 => .array .int
  | 12 => .array .int
  | 13 => .array .int
  | 14 => .boolean
  | 15 => .int
  | 16 => .int
  | _ => .int
theorem nmX10 : ∀ a, a < 18 → ∀ b, b < 18 → a ≠ b → (TX10 a).2.1 ≠ (TX10 b).2.1 := by decide +kernel
theorem tyX10_ok : ∀ k, k < 18 → parseFieldDescriptor (TX10 k).2.2.1 = some (tyX10 k) := by decide +kernel
abbrev cX10_init : ByteArray := prog_1_method_1_code
def yX10_init : MethodName := ⟨RX10, "<init>", "()V"⟩
abbrev cX10_stand : ByteArray := prog_1_method_2_code
def yX10_stand : MethodName := ⟨RX10, "stand", "(III)I"⟩
abbrev cX10_put : ByteArray := prog_1_method_3_code
def yX10_put : MethodName := ⟨RX10, "put", "(III)I"⟩
abbrev cX10_of : ByteArray := prog_1_method_4_code
def yX10_of : MethodName := ⟨RX10, "of", "(II)I"⟩
abbrev cX10_load : ByteArray := prog_1_method_5_code
def yX10_load : MethodName := ⟨RX10, "load", "(IIIIII)I"⟩
abbrev cX10_fact : ByteArray := prog_1_method_6_code
def yX10_fact : MethodName := ⟨RX10, "fact", "(II)I"⟩
abbrev cX10_drop : ByteArray := prog_1_method_7_code
def yX10_drop : MethodName := ⟨RX10, "drop", "(I)I"⟩
abbrev cX10_terms : ByteArray := prog_1_method_8_code
def yX10_terms : MethodName := ⟨RX10, "terms", "(II)I"⟩
abbrev cX10_feed : ByteArray := prog_1_method_9_code
def yX10_feed : MethodName := ⟨RX10, "feed", "(IIIII)I"⟩
abbrev cX10_end : ByteArray := prog_1_method_10_code
def yX10_end : MethodName := ⟨RX10, "end", "(I)I"⟩
abbrev cX10_row : ByteArray := prog_1_method_11_code
def yX10_row : MethodName := ⟨RX10, "row", "()I"⟩
abbrev cX10_dropped : ByteArray := prog_1_method_12_code
def yX10_dropped : MethodName := ⟨RX10, "dropped", "()I"⟩
abbrev cX10_law : ByteArray := prog_1_method_13_code
def yX10_law : MethodName := ⟨RX10, "law", "()I"⟩
abbrev cX10_fault : ByteArray := prog_1_method_14_code
def yX10_fault : MethodName := ⟨RX10, "fault", "()I"⟩
abbrev cX10_force : ByteArray := prog_1_method_15_code
def yX10_force : MethodName := ⟨RX10, "force", "(I)I"⟩
abbrev cX10_way : ByteArray := prog_1_method_16_code
def yX10_way : MethodName := ⟨RX10, "way", "(II)I"⟩
abbrev cX10_enter : ByteArray := prog_1_method_17_code
def yX10_enter : MethodName := ⟨RX10, "enter", "(II)I"⟩
abbrev cX10_day : ByteArray := prog_1_method_18_code
def yX10_day : MethodName := ⟨RX10, "day", "(II)I"⟩
abbrev cX10_where : ByteArray := prog_1_method_19_code
def yX10_where : MethodName := ⟨RX10, "where", "(II)I"⟩
abbrev cX10_held : ByteArray := prog_1_method_20_code
def yX10_held : MethodName := ⟨RX10, "held", "(III)I"⟩
abbrev cX10_choke : ByteArray := prog_1_method_21_code
def yX10_choke : MethodName := ⟨RX10, "choke", "()I"⟩
abbrev cX10_swaps : ByteArray := prog_1_method_22_code
def yX10_swaps : MethodName := ⟨RX10, "swaps", "(II)I"⟩
abbrev cX10_swap : ByteArray := prog_1_method_23_code
def yX10_swap : MethodName := ⟨RX10, "swap", "(II)I"⟩
abbrev cX10_home : ByteArray := prog_1_method_24_code
def yX10_home : MethodName := ⟨RX10, "home", "(I)I"⟩
abbrev cX10_cost : ByteArray := prog_1_method_25_code
def yX10_cost : MethodName := ⟨RX10, "cost", "(I)I"⟩
abbrev cX10_sent : ByteArray := prog_1_method_26_code
def yX10_sent : MethodName := ⟨RX10, "sent", "(I)I"⟩
abbrev cX10_income : ByteArray := prog_1_method_27_code
def yX10_income : MethodName := ⟨RX10, "income", "(I)I"⟩
abbrev cX10_answer : ByteArray := prog_1_method_28_code
def yX10_answer : MethodName := ⟨RX10, "answer", "(II)I"⟩
abbrev cX10_restless : ByteArray := prog_1_method_29_code
def yX10_restless : MethodName := ⟨RX10, "restless", "()I"⟩
abbrev cX10_rests : ByteArray := prog_1_method_30_code
def yX10_rests : MethodName := ⟨RX10, "rests", "(I)I"⟩
abbrev cX10_pieces : ByteArray := prog_1_method_31_code
def yX10_pieces : MethodName := ⟨RX10, "pieces", "(I)I"⟩
abbrev cX10_sign : ByteArray := prog_1_method_32_code
def yX10_sign : MethodName := ⟨RX10, "sign", "(II)I"⟩
abbrev cX10_clear : ByteArray := prog_1_method_33_code
def yX10_clear : MethodName := ⟨RX10, "clear", "()I"⟩
abbrev cX10_thieves : ByteArray := prog_1_method_34_code
def yX10_thieves : MethodName := ⟨RX10, "thieves", "()I"⟩
abbrev cX10_meet : ByteArray := prog_1_method_35_code
def yX10_meet : MethodName := ⟨RX10, "meet", "(III)I"⟩
abbrev cX10_draw : ByteArray := prog_1_method_36_code
def yX10_draw : MethodName := ⟨RX10, "draw", "(I)I"⟩
abbrev cX10_drawn : ByteArray := prog_1_method_37_code
def yX10_drawn : MethodName := ⟨RX10, "drawn", "(II)I"⟩
abbrev cX10_image : ByteArray := prog_1_method_38_code
def yX10_image : MethodName := ⟨RX10, "image", "(I)I"⟩
abbrev cX10_back : ByteArray := prog_1_method_39_code
def yX10_back : MethodName := ⟨RX10, "back", "(I)I"⟩
abbrev cX10_count : ByteArray := prog_1_method_40_code
def yX10_count : MethodName := ⟨RX10, "count", "(I)I"⟩
abbrev cX10_status : ByteArray := prog_1_method_41_code
def yX10_status : MethodName := ⟨RX10, "status", "()I"⟩
abbrev cX10_refused : ByteArray := prog_1_method_42_code
def yX10_refused : MethodName := ⟨RX10, "refused", "(I)I"⟩
abbrev cX10_accepted : ByteArray := prog_1_method_43_code
def yX10_accepted : MethodName := ⟨RX10, "accepted", "(I)I"⟩
abbrev cX10_changed : ByteArray := prog_1_method_44_code
def yX10_changed : MethodName := ⟨RX10, "changed", "()V"⟩
abbrev cX10_dayNow : ByteArray := prog_1_method_45_code
def yX10_dayNow : MethodName := ⟨RX10, "dayNow", "()LLeftHands$Day;"⟩
abbrev cX10_imageOf : ByteArray := prog_1_method_46_code
def yX10_imageOf : MethodName := ⟨RX10, "imageOf", "(I)LLeftHands$Bazaar;"⟩
abbrev cX10_whyNoLoad : ByteArray := prog_1_method_47_code
def yX10_whyNoLoad : MethodName := ⟨RX10, "whyNoLoad", "(IIIIII)I"⟩
abbrev cX10_addFromTape : ByteArray := prog_1_method_48_code
def yX10_addFromTape : MethodName := ⟨RX10, "addFromTape", "(I)Z"⟩
abbrev cX10_drawAfter : ByteArray := prog_1_method_49_code
def yX10_drawAfter : MethodName := ⟨RX10, "drawAfter", "(I)I"⟩
abbrev cX10_isStrength : ByteArray := prog_1_method_50_code
def yX10_isStrength : MethodName := ⟨RX10, "isStrength", "(I)Z"⟩
abbrev cX10_isFee : ByteArray := prog_1_method_51_code
def yX10_isFee : MethodName := ⟨RX10, "isFee", "(I)Z"⟩
abbrev cX10_within : ByteArray := prog_1_method_52_code
def yX10_within : MethodName := ⟨RX10, "within", "(III)Z"⟩
abbrev cX10_hasBit : ByteArray := prog_1_method_53_code
def yX10_hasBit : MethodName := ⟨RX10, "hasBit", "(II)Z"⟩
abbrev cX10_areBits : ByteArray := prog_1_method_54_code
def yX10_areBits : MethodName := ⟨RX10, "areBits", "(II)Z"⟩
abbrev cX10_exchange : ByteArray := prog_1_method_55_code
def yX10_exchange : MethodName := ⟨RX10, "exchange", "([III)V"⟩
def RX11 : String := "LeftHandsModel"
def TX11 : u_T := fun k => match k with
  | 0 => ("LeftHandsModel", "thrown", "I", false)
  | 1 => ("LeftHandsModel", "status", "I", false)
  | 2 => ("LeftHandsModel", "refusals", "[I", true)
  | 3 => ("LeftHandsModel", "row", "[I", true)
  | 4 => ("LeftHandsModel", "images", "[I", true)
  | 5 => ("LeftHandsModel", "isKept", "[Z", true)
  | 6 => ("LeftHandsModel", "dropped", "I", false)
  | 7 => ("LeftHandsModel", "tape", "[I", true)
  | 8 => ("LeftHandsModel", "taped", "I", false)
  | 9 => ("LeftHandsModel", "from", "I", false)
  | 10 => ("LeftHandsModel", "to", "I", false)
  | 11 => ("LeftHandsModel", "sort", "I", false)
  | 12 => ("LeftHandsModel", "worth", "J", false)
  | 13 => ("LeftHandsModel", "fault", "I", false)
  | 14 => ("LeftHandsModel", "bad", "Z", false)
  | 15 => ("LeftHandsModel", "nClauses", "I", false)
  | 16 => ("LeftHandsModel", "nClause", "[I", true)
  | 17 => ("LeftHandsModel", "nCode", "I", false)
  | 18 => ("LeftHandsModel", "nOp", "[I", true)
  | 19 => ("LeftHandsModel", "nArg", "[I", true)
  | 20 => ("LeftHandsModel", "nLeaves", "I", false)
  | 21 => ("LeftHandsModel", "pile", "[I", true)
  | 22 => ("LeftHandsModel", "pileAt", "[I", true)
  | 23 => ("LeftHandsModel", "piled", "I", false)
  | 24 => ("LeftHandsModel", "opened", "I", false)
  | 25 => ("LeftHandsModel", "words", "[J", true)
  | 26 => ("LeftHandsModel", "headWords", "[J", true)
  | 27 => ("LeftHandsModel", "law", "I", false)
  | 28 => ("LeftHandsModel", "set", "[J", true)
  | 29 => ("LeftHandsModel", "rest", "[J", true)
  | 30 => ("LeftHandsModel", "broken", "Z", false)
  | 31 => ("LeftHandsModel", "value", "J", false)
  | 32 => ("LeftHandsModel", "sum", "J", false)
  | 33 => ("LeftHandsModel", "strengths", "[I", true)
  | 34 => ("LeftHandsModel", "fees", "[I", true)
  | 35 => ("LeftHandsModel", "starts", "[I", true)
  | 36 => ("LeftHandsModel", "home", "I", false)
  | 37 => ("LeftHandsModel", "stands", "[I", true)
  | 38 => ("LeftHandsModel", "at", "[I", true)
  | 39 => ("LeftHandsModel", "waits", "[I", true)
  | 40 => ("LeftHandsModel", "waited", "[I", true)
  | 41 => ("LeftHandsModel", "came", "[I", true)
  | 42 => ("LeftHandsModel", "ranks", "[I", true)
  | 43 => ("LeftHandsModel", "gone", "[Z", true)
  | 44 => ("LeftHandsModel", "places", "[I", true)
  | 45 => ("LeftHandsModel", "swapWays", "I", false)
  | 46 => ("LeftHandsModel", "swapFirst", "I", false)
  | 47 => ("LeftHandsModel", "most", "I", false)
  | 48 => ("LeftHandsModel", "state", "J", false)
  | 49 => ("LeftHandsModel", "drawnCame", "[I", true)
  | 50 => ("LeftHandsModel", "drawnStart", "[I", true)
  | _ => ("LeftHandsModel", "drawnLoads", "I", false)
def tyX11 : Nat → FieldType := fun k => match k with
  | 0 => .int
  | 1 => .int
  | 2 => .array .int
  | 3 => .array .int
  | 4 => .array .int
  | 5 => .array .boolean
  | 6 => .int
  | 7 => .array .int
  | 8 => .int
  | 9 => .int
  | 10 => .int
  | 11 => .int
  | 12 => .long
  | 13 => .int
  | 14 => .boolean
  | 15 => .int
  | 16 => .array .int
  | 17 => .int
  | 18 => .array .int
  | 19 => .array .int
  | 20 => .int
  | 21 => .array .int
  | 22 => .array .int
  | 23 => .int
  | 24 => .int
  | 25 => .array .long
  | 26 => .array .long
  | 27 => .int
  | 28 => .array .long
  | 29 => .array .long
  | 30 => .boolean
  | 31 => .long
  | 32 => .long
  | 33 => .array .int
  | 34 => .array .int
  | 35 => .array .int
  | 36 => .int
  | 37 => .array .int
  | 38 => .array .int
  | 39 => .array .int
  | 40 => .array .int
  | 41 => .array .int
  | 42 => .array .int
  | 43 => .array .boolean
  | 44 => .array .int
  | 45 => .int
  | 46 => .int
  | 47 => .int
  | 48 => .long
  | 49 => .array .int
  | 50 => .array .int
  | _ => .int
theorem nmX11 : ∀ a, a < 52 → ∀ b, b < 52 → a ≠ b → (TX11 a).2.1 ≠ (TX11 b).2.1 := by decide +kernel
theorem tyX11_ok : ∀ k, k < 52 → parseFieldDescriptor (TX11 k).2.2.1 = some (tyX11 k) := by decide +kernel
abbrev cX11_init : ByteArray := prog_13_method_1_code
def yX11_init : MethodName := ⟨RX11, "<init>", "()V"⟩
abbrev cX11_in : ByteArray := prog_13_method_3_code
def yX11_in : MethodName := ⟨RX11, "in", "(JJJ)Z"⟩
abbrev cX11_is : ByteArray := prog_13_method_4_code
def yX11_is : MethodName := ⟨RX11, "is", "(II)Z"⟩
abbrev cX11_bits : ByteArray := prog_13_method_5_code
def yX11_bits : MethodName := ⟨RX11, "bits", "(I)I"⟩
abbrev cX11_tell : ByteArray := prog_13_method_6_code
def yX11_tell : MethodName := ⟨RX11, "tell", "(I)I"⟩
abbrev cX11_was : ByteArray := prog_13_method_7_code
def yX11_was : MethodName := ⟨RX11, "was", "(I)I"⟩
abbrev cX11_change : ByteArray := prog_13_method_8_code
def yX11_change : MethodName := ⟨RX11, "change", "(II)I"⟩
abbrev cX11_image : ByteArray := prog_13_method_9_code
def yX11_image : MethodName := ⟨RX11, "image", "(I)I"⟩
abbrev cX11_back : ByteArray := prog_13_method_10_code
def yX11_back : MethodName := ⟨RX11, "back", "(I)I"⟩
abbrev cX11_isStand : ByteArray := prog_13_method_11_code
def yX11_isStand : MethodName := ⟨RX11, "isStand", "(I)Z"⟩
abbrev cX11_isLoad : ByteArray := prog_13_method_12_code
def yX11_isLoad : MethodName := ⟨RX11, "isLoad", "(I)Z"⟩
abbrev cX11_ofStand : ByteArray := prog_13_method_13_code
def yX11_ofStand : MethodName := ⟨RX11, "ofStand", "(II)I"⟩
abbrev cX11_ofLoad : ByteArray := prog_13_method_14_code
def yX11_ofLoad : MethodName := ⟨RX11, "ofLoad", "(II)I"⟩
abbrev cX11_fits : ByteArray := prog_13_method_15_code
def yX11_fits : MethodName := ⟨RX11, "fits", "(II)Z"⟩
abbrev cX11_stand : ByteArray := prog_13_method_16_code
def yX11_stand : MethodName := ⟨RX11, "stand", "(III)I"⟩
abbrev cX11_put : ByteArray := prog_13_method_17_code
def yX11_put : MethodName := ⟨RX11, "put", "(III)I"⟩
abbrev cX11_nextOf : ByteArray := prog_13_method_18_code
def yX11_nextOf : MethodName := ⟨RX11, "nextOf", "(II)I"⟩
abbrev cX11_of : ByteArray := prog_13_method_19_code
def yX11_of : MethodName := ⟨RX11, "of", "(II)I"⟩
abbrev cX11_isLoadLike : ByteArray := prog_13_method_20_code
def yX11_isLoadLike : MethodName := ⟨RX11, "isLoadLike", "(IIII)Z"⟩
abbrev cX11_addLoad : ByteArray := prog_13_method_21_code
def yX11_addLoad : MethodName := ⟨RX11, "addLoad", "(IIIIII)V"⟩
abbrev cX11_load : ByteArray := prog_13_method_22_code
def yX11_load : MethodName := ⟨RX11, "load", "(IIIIII)I"⟩
abbrev cX11_fact : ByteArray := prog_13_method_23_code
def yX11_fact : MethodName := ⟨RX11, "fact", "(II)I"⟩
abbrev cX11_drop : ByteArray := prog_13_method_24_code
def yX11_drop : MethodName := ⟨RX11, "drop", "(I)I"⟩
abbrev cX11_terms : ByteArray := prog_13_method_25_code
def yX11_terms : MethodName := ⟨RX11, "terms", "(II)I"⟩
abbrev cX11_row : ByteArray := prog_13_method_26_code
def yX11_row : MethodName := ⟨RX11, "row", "()I"⟩
abbrev cX11_dropped : ByteArray := prog_13_method_27_code
def yX11_dropped : MethodName := ⟨RX11, "dropped", "()I"⟩
abbrev cX11_four : ByteArray := prog_13_method_28_code
def yX11_four : MethodName := ⟨RX11, "four", "(I)V"⟩
abbrev cX11_feed : ByteArray := prog_13_method_29_code
def yX11_feed : MethodName := ⟨RX11, "feed", "(IIIII)I"⟩
abbrev cX11_end : ByteArray := prog_13_method_30_code
def yX11_end : MethodName := ⟨RX11, "end", "(I)I"⟩
abbrev cX11_isSmall : ByteArray := prog_13_method_31_code
def yX11_isSmall : MethodName := ⟨RX11, "isSmall", "(I)Z"⟩
abbrev cX11_isDigit : ByteArray := prog_13_method_32_code
def yX11_isDigit : MethodName := ⟨RX11, "isDigit", "(I)Z"⟩
abbrev cX11_begin : ByteArray := prog_13_method_33_code
def yX11_begin : MethodName := ⟨RX11, "begin", "()V"⟩
abbrev cX11_next : ByteArray := prog_13_method_34_code
def yX11_next : MethodName := ⟨RX11, "next", "()V"⟩
abbrev cX11_isWord : ByteArray := prog_13_method_35_code
def yX11_isWord : MethodName := ⟨RX11, "isWord", "(J)Z"⟩
abbrev cX11_isSign : ByteArray := prog_13_method_36_code
def yX11_isSign : MethodName := ⟨RX11, "isSign", "(I)Z"⟩
abbrev cX11_must : ByteArray := prog_13_method_37_code
def yX11_must : MethodName := ⟨RX11, "must", "(Z)V"⟩
abbrev cX11_fault : ByteArray := prog_13_method_39_code
def yX11_fault : MethodName := ⟨RX11, "fault", "()I"⟩
abbrev cX11_emit : ByteArray := prog_13_method_40_code
def yX11_emit : MethodName := ⟨RX11, "emit", "(II)V"⟩
abbrev cX11_push : ByteArray := prog_13_method_41_code
def yX11_push : MethodName := ⟨RX11, "push", "(II)V"⟩
abbrev cX11_binds : ByteArray := prog_13_method_42_code
def yX11_binds : MethodName := ⟨RX11, "binds", "(I)I"⟩
abbrev cX11_settle : ByteArray := prog_13_method_43_code
def yX11_settle : MethodName := ⟨RX11, "settle", "(I)V"⟩
abbrev cX11_inner : ByteArray := prog_13_method_44_code
def yX11_inner : MethodName := ⟨RX11, "inner", "()I"⟩
abbrev cX11_isCompared : ByteArray := prog_13_method_45_code
def yX11_isCompared : MethodName := ⟨RX11, "isCompared", "()Z"⟩
abbrev cX11_partAt : ByteArray := prog_13_method_46_code
def yX11_partAt : MethodName := ⟨RX11, "partAt", "()I"⟩
abbrev cX11_openBracket : ByteArray := prog_13_method_47_code
def yX11_openBracket : MethodName := ⟨RX11, "openBracket", "(I)V"⟩
abbrev cX11_leaf : ByteArray := prog_13_method_48_code
def yX11_leaf : MethodName := ⟨RX11, "leaf", "(ZII)V"⟩
abbrev cX11_readPart : ByteArray := prog_13_method_49_code
def yX11_readPart : MethodName := ⟨RX11, "readPart", "()I"⟩
abbrev cX11_readPlain : ByteArray := prog_13_method_50_code
def yX11_readPlain : MethodName := ⟨RX11, "readPlain", "()I"⟩
abbrev cX11_behindSum : ByteArray := prog_13_method_51_code
def yX11_behindSum : MethodName := ⟨RX11, "behindSum", "(Z)I"⟩
abbrev cX11_behindTest : ByteArray := prog_13_method_52_code
def yX11_behindTest : MethodName := ⟨RX11, "behindTest", "()I"⟩
abbrev cX11_readExpression : ByteArray := prog_13_method_53_code
def yX11_readExpression : MethodName := ⟨RX11, "readExpression", "(Z)V"⟩
abbrev cX11_readClause : ByteArray := prog_13_method_54_code
def yX11_readClause : MethodName := ⟨RX11, "readClause", "()V"⟩
abbrev cX11_law : ByteArray := prog_13_method_55_code
def yX11_law : MethodName := ⟨RX11, "law", "()I"⟩
abbrev cX11_force : ByteArray := prog_13_method_56_code
def yX11_force : MethodName := ⟨RX11, "force", "(I)I"⟩
abbrev cX11_reckon : ByteArray := prog_13_method_57_code
def yX11_reckon : MethodName := ⟨RX11, "reckon", "(IJJ)J"⟩
abbrev cX11_reckonAll : ByteArray := prog_13_method_58_code
def yX11_reckonAll : MethodName := ⟨RX11, "reckonAll", "(II)V"⟩
abbrev cX11_isSo : ByteArray := prog_13_method_59_code
def yX11_isSo : MethodName := ⟨RX11, "isSo", "(I)Z"⟩
abbrev cX11_asIs : ByteArray := prog_13_method_60_code
def yX11_asIs : MethodName := ⟨RX11, "asIs", "()V"⟩
abbrev cX11_tells : ByteArray := prog_13_method_61_code
def yX11_tells : MethodName := ⟨RX11, "tells", "(IIIIIJ)J"⟩
abbrev cX11_feeOf : ByteArray := prog_13_method_62_code
def yX11_feeOf : MethodName := ⟨RX11, "feeOf", "(II)I"⟩
abbrev cX11_isBarred : ByteArray := prog_13_method_63_code
def yX11_isBarred : MethodName := ⟨RX11, "isBarred", "(IIII)Z"⟩
abbrev cX11_findWay : ByteArray := prog_13_method_64_code
def yX11_findWay : MethodName := ⟨RX11, "findWay", "(I)I"⟩
abbrev cX11_way : ByteArray := prog_13_method_65_code
def yX11_way : MethodName := ⟨RX11, "way", "(II)I"⟩
abbrev cX11_areStands : ByteArray := prog_13_method_66_code
def yX11_areStands : MethodName := ⟨RX11, "areStands", "(I)Z"⟩
abbrev cX11_enter : ByteArray := prog_13_method_67_code
def yX11_enter : MethodName := ⟨RX11, "enter", "(II)I"⟩
abbrev cX11_takesPart : ByteArray := prog_13_method_68_code
def yX11_takesPart : MethodName := ⟨RX11, "takesPart", "(I)Z"⟩
abbrev cX11_canHold : ByteArray := prog_13_method_69_code
def yX11_canHold : MethodName := ⟨RX11, "canHold", "(II)Z"⟩
abbrev cX11_run : ByteArray := prog_13_method_70_code
def yX11_run : MethodName := ⟨RX11, "run", "()V"⟩
abbrev cX11_first : ByteArray := prog_13_method_71_code
def yX11_first : MethodName := ⟨RX11, "first", "()I"⟩
abbrev cX11_bring : ByteArray := prog_13_method_72_code
def yX11_bring : MethodName := ⟨RX11, "bring", "(I)V"⟩
abbrev cX11_goOn : ByteArray := prog_13_method_73_code
def yX11_goOn : MethodName := ⟨RX11, "goOn", "(II)V"⟩
abbrev cX11_runDay : ByteArray := prog_13_method_74_code
def yX11_runDay : MethodName := ⟨RX11, "runDay", "()V"⟩
abbrev cX11_day : ByteArray := prog_13_method_75_code
def yX11_day : MethodName := ⟨RX11, "day", "(II)I"⟩
abbrev cX11_isMinute : ByteArray := prog_13_method_76_code
def yX11_isMinute : MethodName := ⟨RX11, "isMinute", "(I)Z"⟩
abbrev cX11_where : ByteArray := prog_13_method_77_code
def yX11_where : MethodName := ⟨RX11, "where", "(II)I"⟩
abbrev cX11_held : ByteArray := prog_13_method_78_code
def yX11_held : MethodName := ⟨RX11, "held", "(III)I"⟩
abbrev cX11_isStuck : ByteArray := prog_13_method_79_code
def yX11_isStuck : MethodName := ⟨RX11, "isStuck", "(I)Z"⟩
abbrev cX11_choke : ByteArray := prog_13_method_80_code
def yX11_choke : MethodName := ⟨RX11, "choke", "()I"⟩
abbrev cX11_swapAt : ByteArray := prog_13_method_81_code
def yX11_swapAt : MethodName := ⟨RX11, "swapAt", "(II)V"⟩
abbrev cX11_allCome : ByteArray := prog_13_method_82_code
def yX11_allCome : MethodName := ⟨RX11, "allCome", "(II)Z"⟩
abbrev cX11_findSwaps : ByteArray := prog_13_method_83_code
def yX11_findSwaps : MethodName := ⟨RX11, "findSwaps", "(II)V"⟩
abbrev cX11_swaps : ByteArray := prog_13_method_84_code
def yX11_swaps : MethodName := ⟨RX11, "swaps", "(II)I"⟩
abbrev cX11_swap : ByteArray := prog_13_method_85_code
def yX11_swap : MethodName := ⟨RX11, "swap", "(II)I"⟩
abbrev cX11_nobodyOut : ByteArray := prog_13_method_86_code
def yX11_nobodyOut : MethodName := ⟨RX11, "nobodyOut", "()Z"⟩
abbrev cX11_home : ByteArray := prog_13_method_87_code
def yX11_home : MethodName := ⟨RX11, "home", "(I)I"⟩
abbrev cX11_costOf : ByteArray := prog_13_method_88_code
def yX11_costOf : MethodName := ⟨RX11, "costOf", "(I)I"⟩
abbrev cX11_cost : ByteArray := prog_13_method_89_code
def yX11_cost : MethodName := ⟨RX11, "cost", "(I)I"⟩
abbrev cX11_isSent : ByteArray := prog_13_method_90_code
def yX11_isSent : MethodName := ⟨RX11, "isSent", "(I)Z"⟩
abbrev cX11_sent : ByteArray := prog_13_method_91_code
def yX11_sent : MethodName := ⟨RX11, "sent", "(I)I"⟩
abbrev cX11_incomeOf : ByteArray := prog_13_method_92_code
def yX11_incomeOf : MethodName := ⟨RX11, "incomeOf", "(I)I"⟩
abbrev cX11_income : ByteArray := prog_13_method_93_code
def yX11_income : MethodName := ⟨RX11, "income", "(I)I"⟩
abbrev cX11_answerOf : ByteArray := prog_13_method_94_code
def yX11_answerOf : MethodName := ⟨RX11, "answerOf", "(I)I"⟩
abbrev cX11_answer : ByteArray := prog_13_method_95_code
def yX11_answer : MethodName := ⟨RX11, "answer", "(II)I"⟩
abbrev cX11_restless : ByteArray := prog_13_method_96_code
def yX11_restless : MethodName := ⟨RX11, "restless", "()I"⟩
abbrev cX11_rests : ByteArray := prog_13_method_97_code
def yX11_rests : MethodName := ⟨RX11, "rests", "(I)I"⟩
abbrev cX11_pieces : ByteArray := prog_13_method_98_code
def yX11_pieces : MethodName := ⟨RX11, "pieces", "(I)I"⟩
abbrev cX11_sign : ByteArray := prog_13_method_99_code
def yX11_sign : MethodName := ⟨RX11, "sign", "(II)I"⟩
abbrev cX11_clear : ByteArray := prog_13_method_100_code
def yX11_clear : MethodName := ⟨RX11, "clear", "()I"⟩
abbrev cX11_after : ByteArray := prog_13_method_101_code
def yX11_after : MethodName := ⟨RX11, "after", "(II)I"⟩
abbrev cX11_thieves : ByteArray := prog_13_method_102_code
def yX11_thieves : MethodName := ⟨RX11, "thieves", "()I"⟩
abbrev cX11_meet : ByteArray := prog_13_method_103_code
def yX11_meet : MethodName := ⟨RX11, "meet", "(III)I"⟩
abbrev cX11_draw3 : ByteArray := prog_13_method_104_code
def yX11_draw3 : MethodName := ⟨RX11, "draw3", "(I)I"⟩
abbrev cX11_byNoon : ByteArray := prog_13_method_105_code
def yX11_byNoon : MethodName := ⟨RX11, "byNoon", "()I"⟩
abbrev cX11_draw : ByteArray := prog_13_method_106_code
def yX11_draw : MethodName := ⟨RX11, "draw", "(I)I"⟩
abbrev cX11_drawn : ByteArray := prog_13_method_107_code
def yX11_drawn : MethodName := ⟨RX11, "drawn", "(II)I"⟩
abbrev cX11_count : ByteArray := prog_13_method_108_code
def yX11_count : MethodName := ⟨RX11, "count", "(I)I"⟩
abbrev cX11_status : ByteArray := prog_13_method_109_code
def yX11_status : MethodName := ⟨RX11, "status", "()I"⟩
def RJ6 : String := "java/lang/Integer"
abbrev cJ6_bitCount_0f7a4 : ByteArray := prog_14_method_49_code
def yJ6_bitCount_0f7a4 : MethodName := ⟨RJ6, "bitCount", "(I)I"⟩
def RJ9 : String := "java/lang/Math"
abbrev cJ9_max_7cf53 : ByteArray := prog_15_method_65_code
def yJ9_max_7cf53 : MethodName := ⟨RJ9, "max", "(II)I"⟩
abbrev cJ9_max_f86c9 : ByteArray := prog_15_method_66_code
def yJ9_max_f86c9 : MethodName := ⟨RJ9, "max", "(JJ)J"⟩
abbrev cJ9_min_7cf53 : ByteArray := prog_15_method_69_code
def yJ9_min_7cf53 : MethodName := ⟨RJ9, "min", "(II)I"⟩
abbrev cJ9_min_f86c9 : ByteArray := prog_15_method_70_code
def yJ9_min_f86c9 : MethodName := ⟨RJ9, "min", "(JJ)J"⟩
def RJ0 : String := "java/lang/String"
abbrev cJ0_length_8abf5 : ByteArray := prog_16_method_54_code
def yJ0_length_8abf5 : MethodName := ⟨RJ0, "length", "()I"⟩
abbrev cJ0_charAt_5068e : ByteArray := prog_16_method_56_code
def yJ0_charAt_5068e : MethodName := ⟨RJ0, "charAt", "(I)C"⟩
abbrev cJ0_coder_7d493 : ByteArray := prog_16_method_152_code
def yJ0_coder_7d493 : MethodName := ⟨RJ0, "coder", "()B"⟩
abbrev cJ0_isLatin1_aae02 : ByteArray := prog_16_method_154_code
def yJ0_isLatin1_aae02 : MethodName := ⟨RJ0, "isLatin1", "()Z"⟩
abbrev cJ0_checkIndex_df160 : ByteArray := prog_16_method_155_code
def yJ0_checkIndex_df160 : MethodName := ⟨RJ0, "checkIndex", "(II)V"⟩
def RJ1 : String := "java/lang/StringLatin1"
abbrev cJ1_charAt_3b067 : ByteArray := prog_17_method_2_code
def yJ1_charAt_3b067 : MethodName := ⟨RJ1, "charAt", "([BI)C"⟩
def RJ2 : String := "java/lang/StringUTF16"
abbrev cJ2_getChar_3b067 : ByteArray := prog_18_method_5_code
def yJ2_getChar_3b067 : MethodName := ⟨RJ2, "getChar", "([BI)C"⟩
abbrev cJ2_length_9d52b : ByteArray := prog_18_method_6_code
def yJ2_length_9d52b : MethodName := ⟨RJ2, "length", "([B)I"⟩
abbrev cJ2_charAt_3b067 : ByteArray := prog_18_method_83_code
def yJ2_charAt_3b067 : MethodName := ⟨RJ2, "charAt", "([BI)C"⟩
abbrev cJ2_checkIndex_2214a : ByteArray := prog_18_method_91_code
def yJ2_checkIndex_2214a : MethodName := ⟨RJ2, "checkIndex", "(I[B)V"⟩
def RJ10 : String := "java/lang/System"
def RJ7 : String := "java/util/Arrays"
abbrev cJ7_fill_53178 : ByteArray := prog_20_method_103_code
def yJ7_fill_53178 : MethodName := ⟨RJ7, "fill", "([II)V"⟩
def RJ3 : String := "jdk/internal/util/Preconditions"
abbrev cJ3_checkIndex_8e157 : ByteArray := prog_21_method_11_code
def yJ3_checkIndex_8e157 : MethodName := ⟨RJ3, "checkIndex", "(IILjava/util/function/BiFunction;)I"⟩
abbrev cL_law : ByteArray := code
abbrev vwCl : List vw_C := [(RX0, TX0, 15), (RX1, TX1, 19), (RX2, TX2, 13), (RX3, TX3, 4), (RX4, TX4, 9), (RX5, TX5, 7), (RX6, TX6, 6), (RX7, TX7, 6), (RX8, TX8, 2), (RX9, TX9, 1), (RX10, TX10, 18), (RX11, TX11, 52)]
abbrev en_cl : List vw_C := vwCl
def en_tyf (a : Nat) : Nat → FieldType := match a with
  | 0 => tyX0
  | 1 => tyX1
  | 2 => tyX2
  | 3 => tyX3
  | 4 => tyX4
  | 5 => tyX5
  | 6 => tyX6
  | 7 => tyX7
  | 8 => tyX8
  | 9 => tyX9
  | 10 => tyX10
  | _ => tyX11
def en_dflt (a : Nat) : List Value := match a with
  | 0 => [.int 0, .null, .null, .null, .int 0, .null, .int 0, .null, .null, .int 0, .int 0, .int 0, .int 0, .null, .null]
  | 1 => [.null, .null, .null, .null, .null, .null, .null, .null, .null, .null, .null, .null, .null, .null, .null, .null, .int 0, .null, .int 0]
  | 2 => [.null, .null, .null, .null, .null, .int 0, .int 0, .int 0, .int 0, .int 0, .int 0, .int 0, .null]
  | 3 => [.null, .null, .null, .int 0]
  | 4 => [.int 0, .null, .null, .int 0, .int 0, .null, .null, .null, .null]
  | 5 => [.null, .null, .int 0, .int 0, .int 0, .int 0, .int 0]
  | 6 => [.null, .null, .int 0, .int 0, .int 0, .int 0]
  | 7 => [.null, .null, .int 0, .int 0, .int 0, .null]
  | 8 => [.null, .int 0]
  | 9 => [.null]
  | 10 => [.null, .null, .null, .null, .null, .null, .null, .null, .null, .null, .null, .null, .null, .null, .int 0, .int 0, .int 0, .int 0]
  | _ => [.int 0, .int 0, .null, .null, .null, .null, .int 0, .null, .int 0, .int 0, .int 0, .int 0, .long 0, .int 0, .int 0, .int 0, .null, .int 0, .null, .null, .int 0, .null, .null, .int 0, .int 0, .null, .null, .int 0, .null, .null, .int 0, .long 0, .long 0, .null, .null, .null, .int 0, .null, .null, .null, .null, .null, .null, .null, .null, .int 0, .int 0, .int 0, .long 0, .null, .null, .int 0]
def R_law0 : String := "LeftHandsLaw"
abbrev en_I0 : Type := MethodName × ByteArray × Nat × Option FieldType × Nat × Nat
def en_IS_0 : List en_I0 := [(⟨R_law0, "law", "([I)Z"⟩, cL_law, 4, some .boolean, 100, 1), (yX0_init, cX0_init, 2, none, 0, 0), (yX0_become, cX0_become, 3, none, 0, 0), (yX0_hasStand, cX0_hasStand, 2, some .boolean, 0, 0), (yX0_hasLoad, cX0_hasLoad, 2, some .boolean, 0, 0), (yX0_addStand, cX0_addStand, 4, some .int, 0, 0), (yX0_addLoad, cX0_addLoad, 8, some .int, 0, 0), (yX0_removeLoad, cX0_removeLoad, 3, none, 0, 0), (yX0_addLaw, cX0_addLaw, 2, some .int, 0, 0), (yX0_lawInForce, cX0_lawInForce, 1, some (.object "LeftHands$Law"), 0, 0), (yX0_lawAt, cX0_lawAt, 3, some (.object "LeftHands$Law"), 0, 0), (yX0_about, cX0_about, 3, some .int, 0, 0), (yX0_next, cX0_next, 2, some .int, 0, 0), (yX0_nextPast, cX0_nextPast, 5, some .int, 0, 0), (yX0_handsOf, cX0_handsOf, 5, some .int, 0, 0), (yX1_init, cX1_init, 3, none, 1, 0), (yX1_layOut, cX1_layOut, 3, none, 1, 0), (yX1_handsToWant, cX1_handsToWant, 5, some .int, 1, 0), (yX1_runWhole, cX1_runWhole, 2, none, 1, 0), (yX1_comesBy, cX1_comesBy, 8, some .boolean, 1, 0), (yX1_lastStart, cX1_lastStart, 3, some .int, 1, 0), (yX1_canComeBy, cX1_canComeBy, 4, some .boolean, 1, 0), (yX1_isCarried, cX1_isCarried, 5, some .boolean, 1, 0), (yX1_begin, cX1_begin, 1, none, 1, 0), (yX1_arrive, cX1_arrive, 3, none, 1, 0), (yX1_admit, cX1_admit, 4, none, 1, 0), (yX1_canHold, cX1_canHold, 3, some .boolean, 1, 0), (yX1_take, cX1_take, 3, none, 1, 0), (yX1_giveUp, cX1_giveUp, 3, none, 1, 0), (yX1_lineUp, cX1_lineUp, 6, none, 1, 0), (yX1_goOn, cX1_goOn, 9, none, 1, 0), (yX1_placeBehind, cX1_placeBehind, 3, some .int, 1, 0), (yX1_comeByNoon, cX1_comeByNoon, 3, some .int, 1, 0), (yX1_failures, cX1_failures, 3, some .int, 1, 0), (yX1_chokingRound, cX1_chokingRound, 4, some .int, 1, 0), (yX1_isStuck, cX1_isStuck, 5, some .boolean, 1, 0), (yX1_roundOf, cX1_roundOf, 6, some .int, 1, 0), (yX2_init, cX2_init, 3, none, 2, 0), (yX2_forget, cX2_forget, 1, none, 2, 0), (yX2_costOf, cX2_costOf, 2, some .int, 2, 0)]
def en_IS_1 : List en_I0 := [(yX2_incomeOf, cX2_incomeOf, 2, some .int, 2, 0), (yX2_answerOf, cX2_answerOf, 3, some .int, 2, 0), (yX2_firstRestless, cX2_firstRestless, 2, some .int, 2, 0), (yX2_settle, cX2_settle, 3, none, 2, 0), (yX2_settled, cX2_settled, 2, some .int, 2, 0), (yX2_begin, cX2_begin, 1, none, 2, 0), (yX2_seekAnswer, cX2_seekAnswer, 4, none, 2, 0), (yX2_incomeBy, cX2_incomeBy, 6, some .int, 2, 0), (yX2_costBeside, cX2_costBeside, 8, some .int, 2, 0), (yX2_gets, cX2_gets, 7, some .int, 2, 0), (yX3_init, cX3_init, 2, none, 3, 0), (yX3_nameOf, cX3_nameOf, 1, some (.object "java/lang/String"), 3, 1), (yX3_tells, cX3_tells, 13, some .long, 3, 0), (yX3_worth, cX3_worth, 10, some .long, 3, 0), (yX3_joined, cX3_joined, 8, some .long, 3, 0), (yX4_init, cX4_init, 1, none, 4, 0), (yX4_become, cX4_become, 2, none, 4, 0), (yX4_wipe, cX4_wipe, 1, none, 4, 0), (yX4_speaksOf, cX4_speaksOf, 2, some .boolean, 4, 0), (yX4_asksOfTime, cX4_asksOfTime, 2, some .boolean, 4, 0), (yX4_add, cX4_add, 3, some .int, 4, 0), (yX4_aimAtEnd, cX4_aimAtEnd, 2, none, 4, 0), (yX5_init, cX5_init, 2, none, 5, 0), (yX5_read, cX5_read, 2, some .boolean, 5, 0), (yX5_readClause, cX5_readClause, 3, none, 5, 0), (yX5_readJoined, cX5_readJoined, 6, none, 5, 0), (yX5_joinHere, cX5_joinHere, 2, some .int, 5, 0), (yX5_readPlain, cX5_readPlain, 4, none, 5, 0), (yX5_comparisonHere, cX5_comparisonHere, 1, some .int, 5, 0), (yX5_readPart, cX5_readPart, 4, none, 5, 0), (yX5_open, cX5_open, 2, none, 5, 0), (yX5_expect, cX5_expect, 2, none, 5, 0), (yX5_fail, cX5_fail, 1, none, 5, 0), (yX5_step, cX5_step, 2, none, 5, 0), (yX5_kindOf, cX5_kindOf, 1, some .int, 5, 1), (yX5_isSingle, cX5_isSingle, 2, some .boolean, 5, 0), (yX5_isWord, cX5_isWord, 3, some .boolean, 5, 0), (yX5_numberHere, cX5_numberHere, 3, some .int, 5, 0), (yX5_wordHere, cX5_wordHere, 2, some .int, 5, 0), (yX6_init, cX6_init, 3, none, 6, 0)]
def en_IS_2 : List en_I0 := [(yX6_forget, cX6_forget, 1, none, 6, 0), (yX6_told, cX6_told, 2, some .int, 6, 0), (yX6_search, cX6_search, 5, none, 6, 0), (yX7_init, cX7_init, 3, none, 7, 0), (yX7_forget, cX7_forget, 1, none, 7, 0), (yX7_told, cX7_told, 3, some .int, 7, 0), (yX7_tryNone, cX7_tryNone, 1, none, 7, 0), (yX7_tryOne, cX7_tryOne, 3, none, 7, 0), (yX7_tryTwo, cX7_tryTwo, 6, none, 7, 0), (yX7_rowsLike, cX7_rowsLike, 4, some .int, 7, 1), (yX7_change, cX7_change, 3, none, 7, 0), (yX7_found, cX7_found, 6, none, 7, 0), (yX8_init, cX8_init, 1, none, 8, 0), (yX8_append, cX8_append, 3, none, 8, 0), (yX8_at, cX8_at, 2, some .int, 8, 0), (yX9_init, cX9_init, 2, none, 9, 0), (yX9_standOf, cX9_standOf, 3, some .int, 9, 0), (yX9_comersTo, cX9_comersTo, 7, some .int, 9, 0), (yX9_suspects, cX9_suspects, 3, some .int, 9, 0), (yX9_fitsSigns, cX9_fitsSigns, 3, some .boolean, 9, 0), (yX9_meeting, cX9_meeting, 7, some .int, 9, 0), (yX9_minutesInPieces, cX9_minutesInPieces, 6, some .int, 9, 0), (yX9_standAfter, cX9_standAfter, 5, some .int, 9, 0), (yX10_init, cX10_init, 2, none, 10, 0), (yX10_stand, cX10_stand, 4, some .int, 10, 0), (yX10_put, cX10_put, 7, some .int, 10, 0), (yX10_of, cX10_of, 3, some .int, 10, 0), (yX10_load, cX10_load, 8, some .int, 10, 0), (yX10_fact, cX10_fact, 3, some .int, 10, 0), (yX10_drop, cX10_drop, 2, some .int, 10, 0), (yX10_terms, cX10_terms, 4, some .int, 10, 0), (yX10_feed, cX10_feed, 6, some .int, 10, 0), (yX10_end, cX10_end, 2, some .int, 10, 0), (yX10_row, cX10_row, 5, some .int, 10, 0), (yX10_dropped, cX10_dropped, 1, some .int, 10, 0), (yX10_law, cX10_law, 2, some .int, 10, 0), (yX10_fault, cX10_fault, 1, some .int, 10, 0), (yX10_force, cX10_force, 3, some .int, 10, 0), (yX10_way, cX10_way, 3, some .int, 10, 0), (yX10_enter, cX10_enter, 3, some .int, 10, 0)]
def en_IS_3 : List en_I0 := [(yX10_day, cX10_day, 5, some .int, 10, 0), (yX10_where, cX10_where, 3, some .int, 10, 0), (yX10_held, cX10_held, 7, some .int, 10, 0), (yX10_choke, cX10_choke, 1, some .int, 10, 0), (yX10_swaps, cX10_swaps, 3, some .int, 10, 0), (yX10_swap, cX10_swap, 3, some .int, 10, 0), (yX10_home, cX10_home, 2, some .int, 10, 0), (yX10_cost, cX10_cost, 2, some .int, 10, 0), (yX10_sent, cX10_sent, 3, some .int, 10, 0), (yX10_income, cX10_income, 2, some .int, 10, 0), (yX10_answer, cX10_answer, 3, some .int, 10, 0), (yX10_restless, cX10_restless, 1, some .int, 10, 0), (yX10_rests, cX10_rests, 2, some .int, 10, 0), (yX10_pieces, cX10_pieces, 2, some .int, 10, 0), (yX10_sign, cX10_sign, 3, some .int, 10, 0), (yX10_clear, cX10_clear, 2, some .int, 10, 0), (yX10_thieves, cX10_thieves, 1, some .int, 10, 0), (yX10_meet, cX10_meet, 4, some .int, 10, 0), (yX10_draw, cX10_draw, 4, some .int, 10, 0), (yX10_drawn, cX10_drawn, 3, some .int, 10, 0), (yX10_image, cX10_image, 3, some .int, 10, 0), (yX10_back, cX10_back, 3, some .int, 10, 0), (yX10_count, cX10_count, 2, some .int, 10, 0), (yX10_status, cX10_status, 1, some .int, 10, 0), (yX10_refused, cX10_refused, 2, some .int, 10, 0), (yX10_accepted, cX10_accepted, 2, some .int, 10, 0), (yX10_changed, cX10_changed, 1, none, 10, 0), (yX10_dayNow, cX10_dayNow, 1, some (.object "LeftHands$Day"), 10, 0), (yX10_imageOf, cX10_imageOf, 2, some (.object "LeftHands$Bazaar"), 10, 0), (yX10_whyNoLoad, cX10_whyNoLoad, 7, some .int, 10, 0), (yX10_addFromTape, cX10_addFromTape, 8, some .boolean, 10, 0), (yX10_drawAfter, cX10_drawAfter, 1, some .int, 10, 1), (yX10_isStrength, cX10_isStrength, 1, some .boolean, 10, 1), (yX10_isFee, cX10_isFee, 1, some .boolean, 10, 1), (yX10_within, cX10_within, 3, some .boolean, 10, 1), (yX10_hasBit, cX10_hasBit, 2, some .boolean, 10, 1), (yX10_areBits, cX10_areBits, 2, some .boolean, 10, 1), (yX10_exchange, cX10_exchange, 4, none, 10, 1), (yX11_init, cX11_init, 1, none, 11, 0), (yX11_in, cX11_in, 6, some .boolean, 11, 1)]
def en_IS_4 : List en_I0 := [(yX11_is, cX11_is, 2, some .boolean, 11, 1), (yX11_bits, cX11_bits, 3, some .int, 11, 1), (yX11_tell, cX11_tell, 2, some .int, 11, 0), (yX11_was, cX11_was, 2, some .int, 11, 0), (yX11_change, cX11_change, 4, some .int, 11, 0), (yX11_image, cX11_image, 3, some .int, 11, 0), (yX11_back, cX11_back, 3, some .int, 11, 0), (yX11_isStand, cX11_isStand, 2, some .boolean, 11, 0), (yX11_isLoad, cX11_isLoad, 2, some .boolean, 11, 0), (yX11_ofStand, cX11_ofStand, 3, some .int, 11, 0), (yX11_ofLoad, cX11_ofLoad, 3, some .int, 11, 0), (yX11_fits, cX11_fits, 2, some .boolean, 11, 1), (yX11_stand, cX11_stand, 5, some .int, 11, 0), (yX11_put, cX11_put, 4, some .int, 11, 0), (yX11_nextOf, cX11_nextOf, 5, some .int, 11, 0), (yX11_of, cX11_of, 3, some .int, 11, 0), (yX11_isLoadLike, cX11_isLoadLike, 4, some .boolean, 11, 1), (yX11_addLoad, cX11_addLoad, 8, none, 11, 0), (yX11_load, cX11_load, 7, some .int, 11, 0), (yX11_fact, cX11_fact, 3, some .int, 11, 0), (yX11_drop, cX11_drop, 3, some .int, 11, 0), (yX11_terms, cX11_terms, 4, some .int, 11, 0), (yX11_row, cX11_row, 5, some .int, 11, 0), (yX11_dropped, cX11_dropped, 1, some .int, 11, 0), (yX11_four, cX11_four, 3, none, 11, 0), (yX11_feed, cX11_feed, 6, some .int, 11, 0), (yX11_end, cX11_end, 2, some .int, 11, 0), (yX11_isSmall, cX11_isSmall, 1, some .boolean, 11, 1), (yX11_isDigit, cX11_isDigit, 1, some .boolean, 11, 1), (yX11_begin, cX11_begin, 1, none, 11, 0), (yX11_next, cX11_next, 1, none, 11, 0), (yX11_isWord, cX11_isWord, 3, some .boolean, 11, 0), (yX11_isSign, cX11_isSign, 2, some .boolean, 11, 0), (yX11_must, cX11_must, 2, none, 11, 0), (yX11_fault, cX11_fault, 1, some .int, 11, 0), (yX11_emit, cX11_emit, 3, none, 11, 0), (yX11_push, cX11_push, 3, none, 11, 0), (yX11_binds, cX11_binds, 1, some .int, 11, 1), (yX11_settle, cX11_settle, 2, none, 11, 0), (yX11_inner, cX11_inner, 3, some .int, 11, 0)]
def en_IS_5 : List en_I0 := [(yX11_isCompared, cX11_isCompared, 2, some .boolean, 11, 0), (yX11_partAt, cX11_partAt, 3, some .int, 11, 0), (yX11_openBracket, cX11_openBracket, 2, none, 11, 0), (yX11_leaf, cX11_leaf, 4, none, 11, 0), (yX11_readPart, cX11_readPart, 3, some .int, 11, 0), (yX11_readPlain, cX11_readPlain, 1, some .int, 11, 0), (yX11_behindSum, cX11_behindSum, 4, some .int, 11, 0), (yX11_behindTest, cX11_behindTest, 2, some .int, 11, 0), (yX11_readExpression, cX11_readExpression, 3, none, 11, 0), (yX11_readClause, cX11_readClause, 4, none, 11, 0), (yX11_law, cX11_law, 3, some .int, 11, 0), (yX11_force, cX11_force, 2, some .int, 11, 0), (yX11_reckon, cX11_reckon, 6, some .long, 11, 0), (yX11_reckonAll, cX11_reckonAll, 7, none, 11, 0), (yX11_isSo, cX11_isSo, 2, some .boolean, 11, 0), (yX11_asIs, cX11_asIs, 2, none, 11, 0), (yX11_tells, cX11_tells, 13, some .long, 11, 0), (yX11_feeOf, cX11_feeOf, 5, some .int, 11, 0), (yX11_isBarred, cX11_isBarred, 5, some .boolean, 11, 0), (yX11_findWay, cX11_findWay, 4, some .int, 11, 0), (yX11_way, cX11_way, 4, some .int, 11, 0), (yX11_areStands, cX11_areStands, 2, some .boolean, 11, 0), (yX11_enter, cX11_enter, 7, some .int, 11, 0), (yX11_takesPart, cX11_takesPart, 2, some .boolean, 11, 0), (yX11_canHold, cX11_canHold, 6, some .boolean, 11, 0), (yX11_run, cX11_run, 4, none, 11, 0), (yX11_first, cX11_first, 3, some .int, 11, 0), (yX11_bring, cX11_bring, 5, none, 11, 0), (yX11_goOn, cX11_goOn, 4, none, 11, 0), (yX11_runDay, cX11_runDay, 1, none, 11, 0), (yX11_day, cX11_day, 5, some .int, 11, 0), (yX11_isMinute, cX11_isMinute, 1, some .boolean, 11, 1), (yX11_where, cX11_where, 3, some .int, 11, 0), (yX11_held, cX11_held, 6, some .int, 11, 0), (yX11_isStuck, cX11_isStuck, 5, some .boolean, 11, 0), (yX11_choke, cX11_choke, 5, some .int, 11, 0), (yX11_swapAt, cX11_swapAt, 5, none, 11, 0), (yX11_allCome, cX11_allCome, 5, some .boolean, 11, 0), (yX11_findSwaps, cX11_findSwaps, 10, none, 11, 0), (yX11_swaps, cX11_swaps, 6, some .int, 11, 0)]
def en_IS_6 : List en_I0 := [(yX11_swap, cX11_swap, 5, some .int, 11, 0), (yX11_nobodyOut, cX11_nobodyOut, 3, some .boolean, 11, 0), (yX11_home, cX11_home, 6, some .int, 11, 0), (yX11_costOf, cX11_costOf, 5, some .int, 11, 0), (yX11_cost, cX11_cost, 2, some .int, 11, 0), (yX11_isSent, cX11_isSent, 3, some .boolean, 11, 0), (yX11_sent, cX11_sent, 2, some .int, 11, 0), (yX11_incomeOf, cX11_incomeOf, 6, some .int, 11, 0), (yX11_income, cX11_income, 2, some .int, 11, 0), (yX11_answerOf, cX11_answerOf, 6, some .int, 11, 0), (yX11_answer, cX11_answer, 4, some .int, 11, 0), (yX11_restless, cX11_restless, 4, some .int, 11, 0), (yX11_rests, cX11_rests, 7, some .int, 11, 0), (yX11_pieces, cX11_pieces, 5, some .int, 11, 0), (yX11_sign, cX11_sign, 4, some .int, 11, 0), (yX11_clear, cX11_clear, 2, some .int, 11, 0), (yX11_after, cX11_after, 5, some .int, 11, 0), (yX11_thieves, cX11_thieves, 5, some .int, 11, 0), (yX11_meet, cX11_meet, 6, some .int, 11, 0), (yX11_draw3, cX11_draw3, 2, some .int, 11, 0), (yX11_byNoon, cX11_byNoon, 3, some .int, 11, 0), (yX11_draw, cX11_draw, 3, some .int, 11, 0), (yX11_drawn, cX11_drawn, 3, some .int, 11, 0), (yX11_count, cX11_count, 4, some .int, 11, 0), (yX11_status, cX11_status, 1, some .int, 11, 0), (yJ6_bitCount_0f7a4, cJ6_bitCount_0f7a4, 1, some .int, 100, 1), (yJ7_fill_53178, cJ7_fill_53178, 4, none, 100, 1)]
def en_IS : List en_I0 := en_IS_0 ++ (en_IS_1 ++ (en_IS_2 ++ (en_IS_3 ++ (en_IS_4 ++ (en_IS_5 ++ (en_IS_6))))))
def en_ps : List (Nat × Nat × Nat × Nat) := [(0, 0, 0, 0), (33, 32, 0, 2), (1155, 1153, 1262, 2), (511, 509, 618, 2), (540, 538, 647, 2), (499, 497, 606, 2), (532, 530, 639, 2), (552, 550, 659, 2), (740, 738, 847, 2), (853, 851, 960, 2), (744, 743, 19, 2), (544, 542, 651, 2), (519, 517, 626, 2), (811, 809, 918, 2), (766, 764, 873, 2), (245, 244, 0, 8), (806, 804, 913, 8), (817, 816, 22, 8), (822, 820, 929, 8), (937, 935, 1044, 8), (949, 948, 38, 8), (941, 940, 36, 8), (945, 944, 37, 8), (826, 825, 23, 8), (833, 832, 24, 8), (837, 836, 25, 8), (841, 840, 26, 8), (845, 844, 27, 8), (889, 888, 32, 8), (849, 848, 28, 8), (885, 884, 31, 8), (898, 896, 1005, 8), (1139, 1137, 1246, 8), (1167, 1165, 1274, 8), (910, 908, 1017, 8), (914, 913, 33, 8), (919, 918, 34, 8), (366, 365, 0, 11), (495, 493, 602, 11), (1009, 1007, 1116, 11), (1051, 1049, 1158, 11), (1067, 1065, 1174, 11), (1075, 1073, 1182, 11), (1083, 1081, 1190, 11), (1087, 1085, 1194, 11), (1013, 1012, 44, 11), (1055, 1054, 47, 11), (1059, 1058, 48, 11), (1021, 1020, 45, 11), (1028, 1027, 46, 11), (225, 224, 0, 7), (715, 714, 0, 7), (862, 860, 969, 7), (872, 871, 29, 7), (879, 878, 30, 7), (40, 39, 0, 3), (748, 746, 855, 3), (600, 598, 707, 3), (857, 855, 964, 3), (953, 951, 1060, 3), (700, 698, 807, 3), (729, 727, 836, 3), (183, 182, 0, 5), (596, 594, 703, 5), (612, 611, 6, 5), (675, 674, 9, 5), (733, 732, 18, 5), (679, 678, 10, 5), (696, 695, 14, 5), (704, 703, 15, 5), (688, 687, 12, 5), (692, 691, 13, 5), (671, 670, 8, 5), (604, 603, 5, 5), (608, 607, 0, 5), (684, 683, 11, 5), (617, 616, 7, 5), (708, 707, 16, 5), (712, 711, 17, 5), (341, 340, 0, 10), (491, 489, 598, 10), (988, 986, 1095, 10), (992, 991, 43, 10), (316, 315, 0, 9), (487, 485, 594, 9), (928, 926, 1035, 9), (933, 932, 35, 9), (961, 960, 40, 9), (972, 971, 42, 9), (975, 974, 0, 9), (965, 964, 41, 9), (957, 956, 39, 9), (167, 166, 0, 4), (568, 566, 675, 4), (584, 582, 691, 4), (215, 214, 0, 6), (772, 770, 879, 6), (791, 789, 898, 6), (1113, 1111, 1220, 6), (1117, 1116, 49, 6), (1125, 1123, 1232, 6), (1095, 1093, 1202, 6), (779, 778, 20, 6), (25, 24, 0, 1), (466, 464, 573, 1), (507, 505, 614, 1), (515, 513, 622, 1), (524, 522, 631, 1), (536, 534, 643, 1), (548, 546, 655, 1), (560, 558, 667, 1), (564, 562, 671, 1), (572, 570, 679, 1), (576, 574, 683, 1), (588, 586, 695, 1), (592, 590, 699, 1), (754, 752, 861, 1), (758, 756, 865, 1), (762, 760, 869, 1), (784, 782, 891, 1), (798, 796, 905, 1), (894, 892, 1001, 1), (902, 900, 1009, 1), (906, 904, 1013, 1), (924, 922, 1031, 1), (979, 977, 1086, 1), (984, 982, 1091, 1), (1005, 1003, 1112, 1), (1043, 1041, 1150, 1), (1047, 1045, 1154, 1), (1063, 1061, 1170, 1), (1071, 1069, 1178, 1), (1079, 1077, 1186, 1), (1091, 1089, 1198, 1), (1101, 1099, 1208, 1), (1105, 1103, 1212, 1), (1109, 1107, 1216, 1), (1121, 1119, 1228, 1), (1129, 1127, 1236, 1), (1143, 1141, 1250, 1), (1147, 1145, 1254, 1), (1159, 1157, 1266, 1), (1163, 1161, 1270, 1), (1171, 1169, 1278, 1), (479, 478, 0, 1), (503, 502, 2, 1), (483, 482, 1, 1), (802, 801, 21, 1), (1151, 1150, 50, 1), (528, 527, 3, 1), (580, 579, 4, 1), (1133, 1132, 0, 1), (472, 471, 0, 1), (475, 474, 0, 1), (469, 468, 0, 1), (794, 793, 0, 1), (787, 786, 0, 1), (968, 967, 0, 1), (1176, 1175, 0, 12), (1353, 1352, 0, 12), (1404, 1403, 0, 12), (1690, 1689, 0, 12), (1357, 1356, 51, 12), (1388, 1387, 54, 12), (1384, 1383, 53, 12), (1350, 1348, 1457, 12), (1361, 1359, 1468, 12), (1380, 1379, 52, 12), (1424, 1423, 58, 12), (1401, 1400, 56, 12), (1429, 1428, 59, 12), (1368, 1367, 0, 12), (1365, 1363, 1472, 12), (1376, 1374, 1483, 12), (1397, 1396, 55, 12), (1392, 1390, 1499, 12), (1411, 1410, 0, 12), (1416, 1415, 57, 12), (1408, 1406, 1515, 12), (1420, 1418, 1527, 12), (1433, 1431, 1540, 12), (1437, 1435, 1544, 12), (1442, 1440, 1549, 12), (1446, 1444, 1553, 12), (1454, 1453, 60, 12), (1450, 1448, 1557, 12), (1458, 1456, 1565, 12), (1477, 1476, 0, 12), (1480, 1479, 0, 12), (1470, 1469, 61, 12), (1474, 1473, 62, 12), (1493, 1492, 64, 12), (1514, 1513, 69, 12), (1497, 1496, 65, 12), (1462, 1460, 1569, 12), (1535, 1534, 74, 12), (1510, 1509, 68, 12), (1542, 1541, 0, 12), (1546, 1545, 76, 12), (1550, 1549, 77, 12), (1554, 1553, 78, 12), (1526, 1525, 72, 12), (1518, 1517, 70, 12), (1531, 1530, 73, 12), (1522, 1521, 71, 12), (1505, 1504, 67, 12), (1539, 1538, 75, 12), (1562, 1561, 79, 12), (1501, 1500, 66, 12), (1489, 1488, 63, 12), (1466, 1464, 1573, 12), (1569, 1567, 1676, 12), (1629, 1628, 91, 12), (1625, 1624, 90, 12), (1621, 1620, 89, 12), (1597, 1596, 83, 12), (1617, 1616, 88, 12), (1706, 1705, 101, 12), (1643, 1642, 94, 12), (1577, 1576, 80, 12), (1573, 1571, 1680, 12), (1585, 1584, 81, 12), (1581, 1579, 1688, 12), (1609, 1608, 86, 12), (1613, 1612, 87, 12), (1601, 1600, 84, 12), (1635, 1634, 92, 12), (1605, 1604, 85, 12), (1639, 1638, 93, 12), (1593, 1592, 82, 12), (1589, 1587, 1696, 12), (1650, 1649, 0, 12), (1647, 1645, 1754, 12), (1654, 1652, 1761, 12), (1662, 1661, 95, 12), (1658, 1656, 1765, 12), (1674, 1673, 97, 12), (1678, 1677, 98, 12), (1670, 1669, 96, 12), (1666, 1664, 1773, 12), (1682, 1680, 1789, 12), (1694, 1693, 99, 12), (1686, 1684, 1793, 12), (1702, 1701, 100, 12), (1698, 1696, 1805, 12), (1715, 1714, 102, 12), (1711, 1709, 1818, 12), (1723, 1722, 103, 12), (1719, 1717, 1826, 12), (1731, 1730, 104, 12), (1727, 1725, 1834, 12), (1735, 1733, 1842, 12), (1739, 1737, 1846, 12), (1743, 1741, 1850, 12), (1747, 1745, 1854, 12), (1751, 1749, 1858, 12), (1759, 1758, 105, 12), (1755, 1753, 1862, 12), (1763, 1761, 1870, 12), (1771, 1770, 106, 12), (1778, 1777, 107, 12), (1767, 1765, 1874, 12), (1782, 1780, 1889, 12), (1786, 1784, 1893, 12), (1790, 1788, 1897, 12), (996, 995, 0, 20), (829, 828, 0, 18)]
def en_str : List (String × Nat × String) := [("LeftHands$LawReader", 51, "first"), ("LeftHands$LawReader", 57, "fee"), ("LeftHands$LawReader", 59, "bars"), ("LeftHands$LawReader", 111, "not"), ("LeftHands$Judge", 22, "load"), ("LeftHands$Judge", 24, "weight"), ("LeftHands$Judge", 26, "haste"), ("LeftHands$Judge", 28, "stand"), ("LeftHands$Judge", 30, "left"), ("LeftHands$Judge", 32, "minute"), ("LeftHands$Judge", 34, "waits"), ("LeftHands$Judge", 36, "strength"), ("LeftHands$Judge", 38, "asks"), ("LeftHands$Judge", 40, ""), ("LeftHands$LawReader", 107, "or"), ("LeftHands$LawReader", 109, "and"), ("LeftHands$LawReader", 84, "if")]
def en_nest : List (String × Nat × MethodName × String) := [("LeftHands$Bazaar", 30, ⟨"LeftHands$Law", "<init>", "()V"⟩, "LeftHands"), ("LeftHands", 26, ⟨"LeftHands$Tape", "<init>", "()V"⟩, "LeftHands"), ("LeftHands$LawReader", 11, ⟨"LeftHands$Law", "<init>", "()V"⟩, "LeftHands"), ("LeftHands$Ways", 21, ⟨"LeftHands", "within", "(III)Z"⟩, "LeftHands"), ("LeftHands$Ways", 36, ⟨"LeftHands", "hasBit", "(II)Z"⟩, "LeftHands"), ("LeftHands$Bazaar", 88, ⟨"LeftHands", "hasBit", "(II)Z"⟩, "LeftHands"), ("LeftHands$Law", 46, ⟨"LeftHands", "hasBit", "(II)Z"⟩, "LeftHands"), ("LeftHands$Day", 133, ⟨"LeftHands", "hasBit", "(II)Z"⟩, "LeftHands"), ("LeftHands$Swapper", 75, ⟨"LeftHands", "exchange", "([III)V"⟩, "LeftHands"), ("LeftHands$Fees", 122, ⟨"LeftHands", "isFee", "(I)Z"⟩, "LeftHands")]
-- places of the class words
def en_cps : List (Nat × Nat) := [(30, 2), (242, 8), (363, 11), (222, 7), (37, 3), (180, 5), (338, 10), (313, 9), (164, 4), (212, 6), (22, 1), (1173, 12)]
def en_lps : List (List Nat) := [[131, 133, 135, 137, 139, 141, 143, 145, 147, 149, 151, 153, 155, 157, 159], [273, 275, 277, 279, 281, 283, 285, 287, 289, 291, 293, 295, 297, 299, 301, 303, 305, 307, 309], [381, 383, 385, 387, 389, 391, 393, 395, 397, 399, 401, 403, 405], [231, 233, 235, 237], [65, 67, 69, 71, 73, 75, 77, 79, 81], [196, 198, 200, 202, 204, 206, 208], [349, 351, 353, 355, 357, 359], [324, 326, 328, 330, 332, 334], [173, 175], [218], [426, 428, 430, 432, 434, 436, 438, 440, 442, 444, 446, 448, 450, 452, 454, 456, 458, 460], [1242, 1244, 1246, 1248, 1250, 1252, 1254, 1256, 1258, 1260, 1262, 1264, 1266, 1268, 1270, 1272, 1274, 1276, 1278, 1280, 1282, 1284, 1286, 1288, 1290, 1292, 1294, 1296, 1298, 1300, 1302, 1304, 1306, 1308, 1310, 1312, 1314, 1316, 1318, 1320, 1322, 1324, 1326, 1328, 1330, 1332, 1334, 1336, 1338, 1340, 1342, 1344]]
def en_nps : List Nat := [38, 165, 186, 774, 792, 812, 858, 920, 966, 1030]
def sn_pc : MethodName := ⟨"jdk/internal/util/Preconditions", "checkIndex", "(IILjava/util/function/BiFunction;)I"⟩
def sn_ck : MethodName := ⟨"java/lang/String", "checkIndex", "(II)V"⟩
def sn_lc : MethodName := ⟨"java/lang/StringLatin1", "charAt", "([BI)C"⟩
def sn_il : MethodName := ⟨"java/lang/String", "isLatin1", "()Z"⟩
def sn_ca : MethodName := ⟨"java/lang/String", "charAt", "(I)C"⟩
def sn_co : MethodName := ⟨"java/lang/String", "coder", "()B"⟩
def sn_le : MethodName := ⟨"java/lang/String", "length", "()I"⟩
def en_tl : List Nat := [5, 3, 4, 3, 4, 6, 5, 5, 4, 6, 5, 8, 4, 0, 2, 3, 2]
def en_txt : List (List Int32) := [[102, 105, 114, 115, 116], [102, 101, 101], [98, 97, 114, 115], [110, 111, 116], [108, 111, 97, 100], [119, 101, 105, 103, 104, 116], [104, 97, 115, 116, 101], [115, 116, 97, 110, 100], [108, 101, 102, 116], [109, 105, 110, 117, 116, 101], [119, 97, 105, 116, 115], [115, 116, 114, 101, 110, 103, 116, 104], [97, 115, 107, 115], [], [111, 114], [97, 110, 100], [105, 102]]
