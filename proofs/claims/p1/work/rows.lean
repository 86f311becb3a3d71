section
-- ===== PART A: goes FIRST, ahead of the names: the tables' words, and 'selects' of the private methods out of them =====
/-- a private method of a class that the tables say can be made, by its rows of tables_1 -/
def lw_okq (q : MethodName × Nat) : Prop := (q.1.cls ≠ "java/lang/invoke/MethodHandle" ∧ q.1.cls ≠ "java/lang/invoke/VarHandle") ∧ Cond.instantiable q.1.cls q.2 ∈ tables_1 ∧ Cond.privateMethod q.1 ∈ tables_1 ∧ Cond.instanceMethod q.1 ∈ tables_1
theorem lw_p0 : lw_okq (⟨"LeftHands", "refused", "(I)I"⟩, 18) := ⟨⟨by decide +kernel, by decide +kernel⟩, List.mem_of_getElem? (i := 22) (by decide +kernel), List.mem_of_getElem? (i := 477) (by decide +kernel), List.mem_of_getElem? (i := 478) (by decide +kernel)⟩
theorem lw_p1 : lw_okq (⟨"LeftHands", "changed", "()V"⟩, 18) := ⟨⟨by decide +kernel, by decide +kernel⟩, List.mem_of_getElem? (i := 22) (by decide +kernel), List.mem_of_getElem? (i := 481) (by decide +kernel), List.mem_of_getElem? (i := 482) (by decide +kernel)⟩
theorem lw_p2 : lw_okq (⟨"LeftHands", "accepted", "(I)I"⟩, 18) := ⟨⟨by decide +kernel, by decide +kernel⟩, List.mem_of_getElem? (i := 22) (by decide +kernel), List.mem_of_getElem? (i := 501) (by decide +kernel), List.mem_of_getElem? (i := 502) (by decide +kernel)⟩
theorem lw_p3 : lw_okq (⟨"LeftHands", "whyNoLoad", "(IIIIII)I"⟩, 18) := ⟨⟨by decide +kernel, by decide +kernel⟩, List.mem_of_getElem? (i := 22) (by decide +kernel), List.mem_of_getElem? (i := 526) (by decide +kernel), List.mem_of_getElem? (i := 527) (by decide +kernel)⟩
theorem lw_p4 : lw_okq (⟨"LeftHands", "addFromTape", "(I)Z"⟩, 18) := ⟨⟨by decide +kernel, by decide +kernel⟩, List.mem_of_getElem? (i := 22) (by decide +kernel), List.mem_of_getElem? (i := 578) (by decide +kernel), List.mem_of_getElem? (i := 579) (by decide +kernel)⟩
theorem lw_p5 : lw_okq (⟨"LeftHands$LawReader", "step", "()V"⟩, 7) := ⟨⟨by decide +kernel, by decide +kernel⟩, List.mem_of_getElem? (i := 180) (by decide +kernel), List.mem_of_getElem? (i := 602) (by decide +kernel), List.mem_of_getElem? (i := 603) (by decide +kernel)⟩
theorem lw_p6 : lw_okq (⟨"LeftHands$LawReader", "readClause", "()V"⟩, 7) := ⟨⟨by decide +kernel, by decide +kernel⟩, List.mem_of_getElem? (i := 180) (by decide +kernel), List.mem_of_getElem? (i := 610) (by decide +kernel), List.mem_of_getElem? (i := 611) (by decide +kernel)⟩
theorem lw_p7 : lw_okq (⟨"LeftHands$LawReader", "isWord", "(Ljava/lang/String;)Z"⟩, 7) := ⟨⟨by decide +kernel, by decide +kernel⟩, List.mem_of_getElem? (i := 180) (by decide +kernel), List.mem_of_getElem? (i := 615) (by decide +kernel), List.mem_of_getElem? (i := 616) (by decide +kernel)⟩
theorem lw_p8 : lw_okq (⟨"LeftHands$LawReader", "fail", "()V"⟩, 7) := ⟨⟨by decide +kernel, by decide +kernel⟩, List.mem_of_getElem? (i := 180) (by decide +kernel), List.mem_of_getElem? (i := 669) (by decide +kernel), List.mem_of_getElem? (i := 670) (by decide +kernel)⟩
theorem lw_p9 : lw_okq (⟨"LeftHands$LawReader", "readJoined", "(II)V"⟩, 7) := ⟨⟨by decide +kernel, by decide +kernel⟩, List.mem_of_getElem? (i := 180) (by decide +kernel), List.mem_of_getElem? (i := 673) (by decide +kernel), List.mem_of_getElem? (i := 674) (by decide +kernel)⟩
theorem lw_p10 : lw_okq (⟨"LeftHands$LawReader", "readPlain", "(I)V"⟩, 7) := ⟨⟨by decide +kernel, by decide +kernel⟩, List.mem_of_getElem? (i := 180) (by decide +kernel), List.mem_of_getElem? (i := 677) (by decide +kernel), List.mem_of_getElem? (i := 678) (by decide +kernel)⟩
theorem lw_p11 : lw_okq (⟨"LeftHands$LawReader", "isSingle", "(C)Z"⟩, 7) := ⟨⟨by decide +kernel, by decide +kernel⟩, List.mem_of_getElem? (i := 180) (by decide +kernel), List.mem_of_getElem? (i := 682) (by decide +kernel), List.mem_of_getElem? (i := 683) (by decide +kernel)⟩
theorem lw_p12 : lw_okq (⟨"LeftHands$LawReader", "open", "(I)V"⟩, 7) := ⟨⟨by decide +kernel, by decide +kernel⟩, List.mem_of_getElem? (i := 180) (by decide +kernel), List.mem_of_getElem? (i := 686) (by decide +kernel), List.mem_of_getElem? (i := 687) (by decide +kernel)⟩
theorem lw_p13 : lw_okq (⟨"LeftHands$LawReader", "expect", "(C)V"⟩, 7) := ⟨⟨by decide +kernel, by decide +kernel⟩, List.mem_of_getElem? (i := 180) (by decide +kernel), List.mem_of_getElem? (i := 690) (by decide +kernel), List.mem_of_getElem? (i := 691) (by decide +kernel)⟩
theorem lw_p14 : lw_okq (⟨"LeftHands$LawReader", "comparisonHere", "()I"⟩, 7) := ⟨⟨by decide +kernel, by decide +kernel⟩, List.mem_of_getElem? (i := 180) (by decide +kernel), List.mem_of_getElem? (i := 694) (by decide +kernel), List.mem_of_getElem? (i := 695) (by decide +kernel)⟩
theorem lw_p15 : lw_okq (⟨"LeftHands$LawReader", "readPart", "(I)V"⟩, 7) := ⟨⟨by decide +kernel, by decide +kernel⟩, List.mem_of_getElem? (i := 180) (by decide +kernel), List.mem_of_getElem? (i := 702) (by decide +kernel), List.mem_of_getElem? (i := 703) (by decide +kernel)⟩
def lw_privs_1 : List (MethodName × Nat) := [(⟨"LeftHands", "refused", "(I)I"⟩, 18), (⟨"LeftHands", "changed", "()V"⟩, 18), (⟨"LeftHands", "accepted", "(I)I"⟩, 18), (⟨"LeftHands", "whyNoLoad", "(IIIIII)I"⟩, 18), (⟨"LeftHands", "addFromTape", "(I)Z"⟩, 18), (⟨"LeftHands$LawReader", "step", "()V"⟩, 7), (⟨"LeftHands$LawReader", "readClause", "()V"⟩, 7), (⟨"LeftHands$LawReader", "isWord", "(Ljava/lang/String;)Z"⟩, 7), (⟨"LeftHands$LawReader", "fail", "()V"⟩, 7), (⟨"LeftHands$LawReader", "readJoined", "(II)V"⟩, 7), (⟨"LeftHands$LawReader", "readPlain", "(I)V"⟩, 7), (⟨"LeftHands$LawReader", "isSingle", "(C)Z"⟩, 7), (⟨"LeftHands$LawReader", "open", "(I)V"⟩, 7), (⟨"LeftHands$LawReader", "expect", "(C)V"⟩, 7), (⟨"LeftHands$LawReader", "comparisonHere", "()I"⟩, 7), (⟨"LeftHands$LawReader", "readPart", "(I)V"⟩, 7)]
theorem lw_r1 : ∀ q ∈ lw_privs_1, lw_okq q := List.forall_mem_cons.mpr ⟨lw_p0, List.forall_mem_cons.mpr ⟨lw_p1, List.forall_mem_cons.mpr ⟨lw_p2, List.forall_mem_cons.mpr ⟨lw_p3, List.forall_mem_cons.mpr ⟨lw_p4, List.forall_mem_cons.mpr ⟨lw_p5, List.forall_mem_cons.mpr ⟨lw_p6, List.forall_mem_cons.mpr ⟨lw_p7, List.forall_mem_cons.mpr ⟨lw_p8, List.forall_mem_cons.mpr ⟨lw_p9, List.forall_mem_cons.mpr ⟨lw_p10, List.forall_mem_cons.mpr ⟨lw_p11, List.forall_mem_cons.mpr ⟨lw_p12, List.forall_mem_cons.mpr ⟨lw_p13, List.forall_mem_cons.mpr ⟨lw_p14, List.forall_mem_cons.mpr ⟨lw_p15, fun _ h => absurd h List.not_mem_nil⟩⟩⟩⟩⟩⟩⟩⟩⟩⟩⟩⟩⟩⟩⟩⟩
theorem lw_p16 : lw_okq (⟨"LeftHands$LawReader", "numberHere", "()I"⟩, 7) := ⟨⟨by decide +kernel, by decide +kernel⟩, List.mem_of_getElem? (i := 180) (by decide +kernel), List.mem_of_getElem? (i := 706) (by decide +kernel), List.mem_of_getElem? (i := 707) (by decide +kernel)⟩
theorem lw_p17 : lw_okq (⟨"LeftHands$LawReader", "wordHere", "()I"⟩, 7) := ⟨⟨by decide +kernel, by decide +kernel⟩, List.mem_of_getElem? (i := 180) (by decide +kernel), List.mem_of_getElem? (i := 710) (by decide +kernel), List.mem_of_getElem? (i := 711) (by decide +kernel)⟩
theorem lw_p18 : lw_okq (⟨"LeftHands$LawReader", "joinHere", "(I)I"⟩, 7) := ⟨⟨by decide +kernel, by decide +kernel⟩, List.mem_of_getElem? (i := 180) (by decide +kernel), List.mem_of_getElem? (i := 731) (by decide +kernel), List.mem_of_getElem? (i := 732) (by decide +kernel)⟩
theorem lw_p19 : lw_okq (⟨"LeftHands$Bazaar", "lawAt", "(I)LLeftHands$Law;"⟩, 15) := ⟨⟨by decide +kernel, by decide +kernel⟩, List.mem_of_getElem? (i := 30) (by decide +kernel), List.mem_of_getElem? (i := 742) (by decide +kernel), List.mem_of_getElem? (i := 743) (by decide +kernel)⟩
theorem lw_p20 : lw_okq (⟨"LeftHands$Ways", "standAfter", "(II)I"⟩, 1) := ⟨⟨by decide +kernel, by decide +kernel⟩, List.mem_of_getElem? (i := 212) (by decide +kernel), List.mem_of_getElem? (i := 777) (by decide +kernel), List.mem_of_getElem? (i := 778) (by decide +kernel)⟩
theorem lw_p21 : lw_okq (⟨"LeftHands", "dayNow", "()LLeftHands$Day;"⟩, 18) := ⟨⟨by decide +kernel, by decide +kernel⟩, List.mem_of_getElem? (i := 22) (by decide +kernel), List.mem_of_getElem? (i := 800) (by decide +kernel), List.mem_of_getElem? (i := 801) (by decide +kernel)⟩
theorem lw_p22 : lw_okq (⟨"LeftHands$Day", "handsToWant", "(I)I"⟩, 19) := ⟨⟨by decide +kernel, by decide +kernel⟩, List.mem_of_getElem? (i := 242) (by decide +kernel), List.mem_of_getElem? (i := 815) (by decide +kernel), List.mem_of_getElem? (i := 816) (by decide +kernel)⟩
theorem lw_p23 : lw_okq (⟨"LeftHands$Day", "begin", "()V"⟩, 19) := ⟨⟨by decide +kernel, by decide +kernel⟩, List.mem_of_getElem? (i := 242) (by decide +kernel), List.mem_of_getElem? (i := 824) (by decide +kernel), List.mem_of_getElem? (i := 825) (by decide +kernel)⟩
theorem lw_p24 : lw_okq (⟨"LeftHands$Day", "arrive", "(I)V"⟩, 19) := ⟨⟨by decide +kernel, by decide +kernel⟩, List.mem_of_getElem? (i := 242) (by decide +kernel), List.mem_of_getElem? (i := 831) (by decide +kernel), List.mem_of_getElem? (i := 832) (by decide +kernel)⟩
theorem lw_p25 : lw_okq (⟨"LeftHands$Day", "admit", "(II)V"⟩, 19) := ⟨⟨by decide +kernel, by decide +kernel⟩, List.mem_of_getElem? (i := 242) (by decide +kernel), List.mem_of_getElem? (i := 835) (by decide +kernel), List.mem_of_getElem? (i := 836) (by decide +kernel)⟩
theorem lw_p26 : lw_okq (⟨"LeftHands$Day", "canHold", "(II)Z"⟩, 19) := ⟨⟨by decide +kernel, by decide +kernel⟩, List.mem_of_getElem? (i := 242) (by decide +kernel), List.mem_of_getElem? (i := 839) (by decide +kernel), List.mem_of_getElem? (i := 840) (by decide +kernel)⟩
theorem lw_p27 : lw_okq (⟨"LeftHands$Day", "take", "(II)V"⟩, 19) := ⟨⟨by decide +kernel, by decide +kernel⟩, List.mem_of_getElem? (i := 242) (by decide +kernel), List.mem_of_getElem? (i := 843) (by decide +kernel), List.mem_of_getElem? (i := 844) (by decide +kernel)⟩
theorem lw_p28 : lw_okq (⟨"LeftHands$Day", "lineUp", "(I)V"⟩, 19) := ⟨⟨by decide +kernel, by decide +kernel⟩, List.mem_of_getElem? (i := 242) (by decide +kernel), List.mem_of_getElem? (i := 847) (by decide +kernel), List.mem_of_getElem? (i := 848) (by decide +kernel)⟩
theorem lw_p29 : lw_okq (⟨"LeftHands$Judge", "worth", "(LLeftHands$Law;II)J"⟩, 4) := ⟨⟨by decide +kernel, by decide +kernel⟩, List.mem_of_getElem? (i := 222) (by decide +kernel), List.mem_of_getElem? (i := 870) (by decide +kernel), List.mem_of_getElem? (i := 871) (by decide +kernel)⟩
theorem lw_p30 : lw_okq (⟨"LeftHands$Judge", "joined", "(IJJ)J"⟩, 4) := ⟨⟨by decide +kernel, by decide +kernel⟩, List.mem_of_getElem? (i := 222) (by decide +kernel), List.mem_of_getElem? (i := 877) (by decide +kernel), List.mem_of_getElem? (i := 878) (by decide +kernel)⟩
theorem lw_p31 : lw_okq (⟨"LeftHands$Day", "goOn", "(I)V"⟩, 19) := ⟨⟨by decide +kernel, by decide +kernel⟩, List.mem_of_getElem? (i := 242) (by decide +kernel), List.mem_of_getElem? (i := 883) (by decide +kernel), List.mem_of_getElem? (i := 884) (by decide +kernel)⟩
def lw_privs_2 : List (MethodName × Nat) := [(⟨"LeftHands$LawReader", "numberHere", "()I"⟩, 7), (⟨"LeftHands$LawReader", "wordHere", "()I"⟩, 7), (⟨"LeftHands$LawReader", "joinHere", "(I)I"⟩, 7), (⟨"LeftHands$Bazaar", "lawAt", "(I)LLeftHands$Law;"⟩, 15), (⟨"LeftHands$Ways", "standAfter", "(II)I"⟩, 1), (⟨"LeftHands", "dayNow", "()LLeftHands$Day;"⟩, 18), (⟨"LeftHands$Day", "handsToWant", "(I)I"⟩, 19), (⟨"LeftHands$Day", "begin", "()V"⟩, 19), (⟨"LeftHands$Day", "arrive", "(I)V"⟩, 19), (⟨"LeftHands$Day", "admit", "(II)V"⟩, 19), (⟨"LeftHands$Day", "canHold", "(II)Z"⟩, 19), (⟨"LeftHands$Day", "take", "(II)V"⟩, 19), (⟨"LeftHands$Day", "lineUp", "(I)V"⟩, 19), (⟨"LeftHands$Judge", "worth", "(LLeftHands$Law;II)J"⟩, 4), (⟨"LeftHands$Judge", "joined", "(IJJ)J"⟩, 4), (⟨"LeftHands$Day", "goOn", "(I)V"⟩, 19)]
theorem lw_r2 : ∀ q ∈ lw_privs_2, lw_okq q := List.forall_mem_cons.mpr ⟨lw_p16, List.forall_mem_cons.mpr ⟨lw_p17, List.forall_mem_cons.mpr ⟨lw_p18, List.forall_mem_cons.mpr ⟨lw_p19, List.forall_mem_cons.mpr ⟨lw_p20, List.forall_mem_cons.mpr ⟨lw_p21, List.forall_mem_cons.mpr ⟨lw_p22, List.forall_mem_cons.mpr ⟨lw_p23, List.forall_mem_cons.mpr ⟨lw_p24, List.forall_mem_cons.mpr ⟨lw_p25, List.forall_mem_cons.mpr ⟨lw_p26, List.forall_mem_cons.mpr ⟨lw_p27, List.forall_mem_cons.mpr ⟨lw_p28, List.forall_mem_cons.mpr ⟨lw_p29, List.forall_mem_cons.mpr ⟨lw_p30, List.forall_mem_cons.mpr ⟨lw_p31, fun _ h => absurd h List.not_mem_nil⟩⟩⟩⟩⟩⟩⟩⟩⟩⟩⟩⟩⟩⟩⟩⟩
theorem lw_p32 : lw_okq (⟨"LeftHands$Day", "giveUp", "(II)V"⟩, 19) := ⟨⟨by decide +kernel, by decide +kernel⟩, List.mem_of_getElem? (i := 242) (by decide +kernel), List.mem_of_getElem? (i := 887) (by decide +kernel), List.mem_of_getElem? (i := 888) (by decide +kernel)⟩
theorem lw_p33 : lw_okq (⟨"LeftHands$Day", "isStuck", "(I)Z"⟩, 19) := ⟨⟨by decide +kernel, by decide +kernel⟩, List.mem_of_getElem? (i := 242) (by decide +kernel), List.mem_of_getElem? (i := 912) (by decide +kernel), List.mem_of_getElem? (i := 913) (by decide +kernel)⟩
theorem lw_p34 : lw_okq (⟨"LeftHands$Day", "roundOf", "(II)I"⟩, 19) := ⟨⟨by decide +kernel, by decide +kernel⟩, List.mem_of_getElem? (i := 242) (by decide +kernel), List.mem_of_getElem? (i := 917) (by decide +kernel), List.mem_of_getElem? (i := 918) (by decide +kernel)⟩
theorem lw_p35 : lw_okq (⟨"LeftHands$Swapper", "tryNone", "()V"⟩, 6) := ⟨⟨by decide +kernel, by decide +kernel⟩, List.mem_of_getElem? (i := 313) (by decide +kernel), List.mem_of_getElem? (i := 931) (by decide +kernel), List.mem_of_getElem? (i := 932) (by decide +kernel)⟩
theorem lw_p36 : lw_okq (⟨"LeftHands$Day", "canComeBy", "(II)Z"⟩, 19) := ⟨⟨by decide +kernel, by decide +kernel⟩, List.mem_of_getElem? (i := 242) (by decide +kernel), List.mem_of_getElem? (i := 939) (by decide +kernel), List.mem_of_getElem? (i := 940) (by decide +kernel)⟩
theorem lw_p37 : lw_okq (⟨"LeftHands$Day", "isCarried", "(I)Z"⟩, 19) := ⟨⟨by decide +kernel, by decide +kernel⟩, List.mem_of_getElem? (i := 242) (by decide +kernel), List.mem_of_getElem? (i := 943) (by decide +kernel), List.mem_of_getElem? (i := 944) (by decide +kernel)⟩
theorem lw_p38 : lw_okq (⟨"LeftHands$Day", "lastStart", "()I"⟩, 19) := ⟨⟨by decide +kernel, by decide +kernel⟩, List.mem_of_getElem? (i := 242) (by decide +kernel), List.mem_of_getElem? (i := 947) (by decide +kernel), List.mem_of_getElem? (i := 948) (by decide +kernel)⟩
theorem lw_p39 : lw_okq (⟨"LeftHands$Swapper", "found", "(IIIII)V"⟩, 6) := ⟨⟨by decide +kernel, by decide +kernel⟩, List.mem_of_getElem? (i := 313) (by decide +kernel), List.mem_of_getElem? (i := 955) (by decide +kernel), List.mem_of_getElem? (i := 956) (by decide +kernel)⟩
theorem lw_p40 : lw_okq (⟨"LeftHands$Swapper", "tryOne", "()V"⟩, 6) := ⟨⟨by decide +kernel, by decide +kernel⟩, List.mem_of_getElem? (i := 313) (by decide +kernel), List.mem_of_getElem? (i := 959) (by decide +kernel), List.mem_of_getElem? (i := 960) (by decide +kernel)⟩
theorem lw_p41 : lw_okq (⟨"LeftHands$Swapper", "change", "(II)V"⟩, 6) := ⟨⟨by decide +kernel, by decide +kernel⟩, List.mem_of_getElem? (i := 313) (by decide +kernel), List.mem_of_getElem? (i := 963) (by decide +kernel), List.mem_of_getElem? (i := 964) (by decide +kernel)⟩
theorem lw_p42 : lw_okq (⟨"LeftHands$Swapper", "tryTwo", "()V"⟩, 6) := ⟨⟨by decide +kernel, by decide +kernel⟩, List.mem_of_getElem? (i := 313) (by decide +kernel), List.mem_of_getElem? (i := 970) (by decide +kernel), List.mem_of_getElem? (i := 971) (by decide +kernel)⟩
theorem lw_p43 : lw_okq (⟨"LeftHands$Sender", "search", "()V"⟩, 6) := ⟨⟨by decide +kernel, by decide +kernel⟩, List.mem_of_getElem? (i := 338) (by decide +kernel), List.mem_of_getElem? (i := 990) (by decide +kernel), List.mem_of_getElem? (i := 991) (by decide +kernel)⟩
theorem lw_p44 : lw_okq (⟨"LeftHands$Fees", "begin", "()V"⟩, 13) := ⟨⟨by decide +kernel, by decide +kernel⟩, List.mem_of_getElem? (i := 363) (by decide +kernel), List.mem_of_getElem? (i := 1011) (by decide +kernel), List.mem_of_getElem? (i := 1012) (by decide +kernel)⟩
theorem lw_p45 : lw_okq (⟨"LeftHands$Fees", "costBeside", "(II)I"⟩, 13) := ⟨⟨by decide +kernel, by decide +kernel⟩, List.mem_of_getElem? (i := 363) (by decide +kernel), List.mem_of_getElem? (i := 1019) (by decide +kernel), List.mem_of_getElem? (i := 1020) (by decide +kernel)⟩
theorem lw_p46 : lw_okq (⟨"LeftHands$Fees", "gets", "(III)I"⟩, 13) := ⟨⟨by decide +kernel, by decide +kernel⟩, List.mem_of_getElem? (i := 363) (by decide +kernel), List.mem_of_getElem? (i := 1026) (by decide +kernel), List.mem_of_getElem? (i := 1027) (by decide +kernel)⟩
theorem lw_p47 : lw_okq (⟨"LeftHands$Fees", "seekAnswer", "(I)V"⟩, 13) := ⟨⟨by decide +kernel, by decide +kernel⟩, List.mem_of_getElem? (i := 363) (by decide +kernel), List.mem_of_getElem? (i := 1053) (by decide +kernel), List.mem_of_getElem? (i := 1054) (by decide +kernel)⟩
def lw_privs_3 : List (MethodName × Nat) := [(⟨"LeftHands$Day", "giveUp", "(II)V"⟩, 19), (⟨"LeftHands$Day", "isStuck", "(I)Z"⟩, 19), (⟨"LeftHands$Day", "roundOf", "(II)I"⟩, 19), (⟨"LeftHands$Swapper", "tryNone", "()V"⟩, 6), (⟨"LeftHands$Day", "canComeBy", "(II)Z"⟩, 19), (⟨"LeftHands$Day", "isCarried", "(I)Z"⟩, 19), (⟨"LeftHands$Day", "lastStart", "()I"⟩, 19), (⟨"LeftHands$Swapper", "found", "(IIIII)V"⟩, 6), (⟨"LeftHands$Swapper", "tryOne", "()V"⟩, 6), (⟨"LeftHands$Swapper", "change", "(II)V"⟩, 6), (⟨"LeftHands$Swapper", "tryTwo", "()V"⟩, 6), (⟨"LeftHands$Sender", "search", "()V"⟩, 6), (⟨"LeftHands$Fees", "begin", "()V"⟩, 13), (⟨"LeftHands$Fees", "costBeside", "(II)I"⟩, 13), (⟨"LeftHands$Fees", "gets", "(III)I"⟩, 13), (⟨"LeftHands$Fees", "seekAnswer", "(I)V"⟩, 13)]
theorem lw_r3 : ∀ q ∈ lw_privs_3, lw_okq q := List.forall_mem_cons.mpr ⟨lw_p32, List.forall_mem_cons.mpr ⟨lw_p33, List.forall_mem_cons.mpr ⟨lw_p34, List.forall_mem_cons.mpr ⟨lw_p35, List.forall_mem_cons.mpr ⟨lw_p36, List.forall_mem_cons.mpr ⟨lw_p37, List.forall_mem_cons.mpr ⟨lw_p38, List.forall_mem_cons.mpr ⟨lw_p39, List.forall_mem_cons.mpr ⟨lw_p40, List.forall_mem_cons.mpr ⟨lw_p41, List.forall_mem_cons.mpr ⟨lw_p42, List.forall_mem_cons.mpr ⟨lw_p43, List.forall_mem_cons.mpr ⟨lw_p44, List.forall_mem_cons.mpr ⟨lw_p45, List.forall_mem_cons.mpr ⟨lw_p46, List.forall_mem_cons.mpr ⟨lw_p47, fun _ h => absurd h List.not_mem_nil⟩⟩⟩⟩⟩⟩⟩⟩⟩⟩⟩⟩⟩⟩⟩⟩
theorem lw_p48 : lw_okq (⟨"LeftHands$Fees", "incomeBy", "(II)I"⟩, 13) := ⟨⟨by decide +kernel, by decide +kernel⟩, List.mem_of_getElem? (i := 363) (by decide +kernel), List.mem_of_getElem? (i := 1057) (by decide +kernel), List.mem_of_getElem? (i := 1058) (by decide +kernel)⟩
theorem lw_p49 : lw_okq (⟨"LeftHands$Ways", "fitsSigns", "(I)Z"⟩, 1) := ⟨⟨by decide +kernel, by decide +kernel⟩, List.mem_of_getElem? (i := 212) (by decide +kernel), List.mem_of_getElem? (i := 1115) (by decide +kernel), List.mem_of_getElem? (i := 1116) (by decide +kernel)⟩
theorem lw_p50 : lw_okq (⟨"LeftHands", "imageOf", "(I)LLeftHands$Bazaar;"⟩, 18) := ⟨⟨by decide +kernel, by decide +kernel⟩, List.mem_of_getElem? (i := 22) (by decide +kernel), List.mem_of_getElem? (i := 1149) (by decide +kernel), List.mem_of_getElem? (i := 1150) (by decide +kernel)⟩
theorem lw_p51 : lw_okq (⟨"LeftHandsModel", "tell", "(I)I"⟩, 52) := ⟨⟨by decide +kernel, by decide +kernel⟩, List.mem_of_getElem? (i := 1173) (by decide +kernel), List.mem_of_getElem? (i := 1355) (by decide +kernel), List.mem_of_getElem? (i := 1356) (by decide +kernel)⟩
theorem lw_p52 : lw_okq (⟨"LeftHandsModel", "isStand", "(I)Z"⟩, 52) := ⟨⟨by decide +kernel, by decide +kernel⟩, List.mem_of_getElem? (i := 1173) (by decide +kernel), List.mem_of_getElem? (i := 1378) (by decide +kernel), List.mem_of_getElem? (i := 1379) (by decide +kernel)⟩
theorem lw_p53 : lw_okq (⟨"LeftHandsModel", "change", "(II)I"⟩, 52) := ⟨⟨by decide +kernel, by decide +kernel⟩, List.mem_of_getElem? (i := 1173) (by decide +kernel), List.mem_of_getElem? (i := 1382) (by decide +kernel), List.mem_of_getElem? (i := 1383) (by decide +kernel)⟩
theorem lw_p54 : lw_okq (⟨"LeftHandsModel", "was", "(I)I"⟩, 52) := ⟨⟨by decide +kernel, by decide +kernel⟩, List.mem_of_getElem? (i := 1173) (by decide +kernel), List.mem_of_getElem? (i := 1386) (by decide +kernel), List.mem_of_getElem? (i := 1387) (by decide +kernel)⟩
theorem lw_p55 : lw_okq (⟨"LeftHandsModel", "nextOf", "(II)I"⟩, 52) := ⟨⟨by decide +kernel, by decide +kernel⟩, List.mem_of_getElem? (i := 1173) (by decide +kernel), List.mem_of_getElem? (i := 1395) (by decide +kernel), List.mem_of_getElem? (i := 1396) (by decide +kernel)⟩
theorem lw_p56 : lw_okq (⟨"LeftHandsModel", "ofStand", "(II)I"⟩, 52) := ⟨⟨by decide +kernel, by decide +kernel⟩, List.mem_of_getElem? (i := 1173) (by decide +kernel), List.mem_of_getElem? (i := 1399) (by decide +kernel), List.mem_of_getElem? (i := 1400) (by decide +kernel)⟩
theorem lw_p57 : lw_okq (⟨"LeftHandsModel", "addLoad", "(IIIIII)V"⟩, 52) := ⟨⟨by decide +kernel, by decide +kernel⟩, List.mem_of_getElem? (i := 1173) (by decide +kernel), List.mem_of_getElem? (i := 1414) (by decide +kernel), List.mem_of_getElem? (i := 1415) (by decide +kernel)⟩
theorem lw_p58 : lw_okq (⟨"LeftHandsModel", "isLoad", "(I)Z"⟩, 52) := ⟨⟨by decide +kernel, by decide +kernel⟩, List.mem_of_getElem? (i := 1173) (by decide +kernel), List.mem_of_getElem? (i := 1422) (by decide +kernel), List.mem_of_getElem? (i := 1423) (by decide +kernel)⟩
theorem lw_p59 : lw_okq (⟨"LeftHandsModel", "ofLoad", "(II)I"⟩, 52) := ⟨⟨by decide +kernel, by decide +kernel⟩, List.mem_of_getElem? (i := 1173) (by decide +kernel), List.mem_of_getElem? (i := 1427) (by decide +kernel), List.mem_of_getElem? (i := 1428) (by decide +kernel)⟩
theorem lw_p60 : lw_okq (⟨"LeftHandsModel", "four", "(I)V"⟩, 52) := ⟨⟨by decide +kernel, by decide +kernel⟩, List.mem_of_getElem? (i := 1173) (by decide +kernel), List.mem_of_getElem? (i := 1452) (by decide +kernel), List.mem_of_getElem? (i := 1453) (by decide +kernel)⟩
theorem lw_p61 : lw_okq (⟨"LeftHandsModel", "begin", "()V"⟩, 52) := ⟨⟨by decide +kernel, by decide +kernel⟩, List.mem_of_getElem? (i := 1173) (by decide +kernel), List.mem_of_getElem? (i := 1468) (by decide +kernel), List.mem_of_getElem? (i := 1469) (by decide +kernel)⟩
theorem lw_p62 : lw_okq (⟨"LeftHandsModel", "next", "()V"⟩, 52) := ⟨⟨by decide +kernel, by decide +kernel⟩, List.mem_of_getElem? (i := 1173) (by decide +kernel), List.mem_of_getElem? (i := 1472) (by decide +kernel), List.mem_of_getElem? (i := 1473) (by decide +kernel)⟩
theorem lw_p63 : lw_okq (⟨"LeftHandsModel", "readClause", "()V"⟩, 52) := ⟨⟨by decide +kernel, by decide +kernel⟩, List.mem_of_getElem? (i := 1173) (by decide +kernel), List.mem_of_getElem? (i := 1487) (by decide +kernel), List.mem_of_getElem? (i := 1488) (by decide +kernel)⟩
def lw_privs_4 : List (MethodName × Nat) := [(⟨"LeftHands$Fees", "incomeBy", "(II)I"⟩, 13), (⟨"LeftHands$Ways", "fitsSigns", "(I)Z"⟩, 1), (⟨"LeftHands", "imageOf", "(I)LLeftHands$Bazaar;"⟩, 18), (⟨"LeftHandsModel", "tell", "(I)I"⟩, 52), (⟨"LeftHandsModel", "isStand", "(I)Z"⟩, 52), (⟨"LeftHandsModel", "change", "(II)I"⟩, 52), (⟨"LeftHandsModel", "was", "(I)I"⟩, 52), (⟨"LeftHandsModel", "nextOf", "(II)I"⟩, 52), (⟨"LeftHandsModel", "ofStand", "(II)I"⟩, 52), (⟨"LeftHandsModel", "addLoad", "(IIIIII)V"⟩, 52), (⟨"LeftHandsModel", "isLoad", "(I)Z"⟩, 52), (⟨"LeftHandsModel", "ofLoad", "(II)I"⟩, 52), (⟨"LeftHandsModel", "four", "(I)V"⟩, 52), (⟨"LeftHandsModel", "begin", "()V"⟩, 52), (⟨"LeftHandsModel", "next", "()V"⟩, 52), (⟨"LeftHandsModel", "readClause", "()V"⟩, 52)]
theorem lw_r4 : ∀ q ∈ lw_privs_4, lw_okq q := List.forall_mem_cons.mpr ⟨lw_p48, List.forall_mem_cons.mpr ⟨lw_p49, List.forall_mem_cons.mpr ⟨lw_p50, List.forall_mem_cons.mpr ⟨lw_p51, List.forall_mem_cons.mpr ⟨lw_p52, List.forall_mem_cons.mpr ⟨lw_p53, List.forall_mem_cons.mpr ⟨lw_p54, List.forall_mem_cons.mpr ⟨lw_p55, List.forall_mem_cons.mpr ⟨lw_p56, List.forall_mem_cons.mpr ⟨lw_p57, List.forall_mem_cons.mpr ⟨lw_p58, List.forall_mem_cons.mpr ⟨lw_p59, List.forall_mem_cons.mpr ⟨lw_p60, List.forall_mem_cons.mpr ⟨lw_p61, List.forall_mem_cons.mpr ⟨lw_p62, List.forall_mem_cons.mpr ⟨lw_p63, fun _ h => absurd h List.not_mem_nil⟩⟩⟩⟩⟩⟩⟩⟩⟩⟩⟩⟩⟩⟩⟩⟩
theorem lw_p64 : lw_okq (⟨"LeftHandsModel", "isWord", "(J)Z"⟩, 52) := ⟨⟨by decide +kernel, by decide +kernel⟩, List.mem_of_getElem? (i := 1173) (by decide +kernel), List.mem_of_getElem? (i := 1491) (by decide +kernel), List.mem_of_getElem? (i := 1492) (by decide +kernel)⟩
theorem lw_p65 : lw_okq (⟨"LeftHandsModel", "must", "(Z)V"⟩, 52) := ⟨⟨by decide +kernel, by decide +kernel⟩, List.mem_of_getElem? (i := 1173) (by decide +kernel), List.mem_of_getElem? (i := 1495) (by decide +kernel), List.mem_of_getElem? (i := 1496) (by decide +kernel)⟩
theorem lw_p66 : lw_okq (⟨"LeftHandsModel", "readExpression", "(Z)V"⟩, 52) := ⟨⟨by decide +kernel, by decide +kernel⟩, List.mem_of_getElem? (i := 1173) (by decide +kernel), List.mem_of_getElem? (i := 1499) (by decide +kernel), List.mem_of_getElem? (i := 1500) (by decide +kernel)⟩
theorem lw_p67 : lw_okq (⟨"LeftHandsModel", "readPlain", "()I"⟩, 52) := ⟨⟨by decide +kernel, by decide +kernel⟩, List.mem_of_getElem? (i := 1173) (by decide +kernel), List.mem_of_getElem? (i := 1503) (by decide +kernel), List.mem_of_getElem? (i := 1504) (by decide +kernel)⟩
theorem lw_p68 : lw_okq (⟨"LeftHandsModel", "push", "(II)V"⟩, 52) := ⟨⟨by decide +kernel, by decide +kernel⟩, List.mem_of_getElem? (i := 1173) (by decide +kernel), List.mem_of_getElem? (i := 1508) (by decide +kernel), List.mem_of_getElem? (i := 1509) (by decide +kernel)⟩
theorem lw_p69 : lw_okq (⟨"LeftHandsModel", "isSign", "(I)Z"⟩, 52) := ⟨⟨by decide +kernel, by decide +kernel⟩, List.mem_of_getElem? (i := 1173) (by decide +kernel), List.mem_of_getElem? (i := 1512) (by decide +kernel), List.mem_of_getElem? (i := 1513) (by decide +kernel)⟩
theorem lw_p70 : lw_okq (⟨"LeftHandsModel", "openBracket", "(I)V"⟩, 52) := ⟨⟨by decide +kernel, by decide +kernel⟩, List.mem_of_getElem? (i := 1173) (by decide +kernel), List.mem_of_getElem? (i := 1516) (by decide +kernel), List.mem_of_getElem? (i := 1517) (by decide +kernel)⟩
theorem lw_p71 : lw_okq (⟨"LeftHandsModel", "readPart", "()I"⟩, 52) := ⟨⟨by decide +kernel, by decide +kernel⟩, List.mem_of_getElem? (i := 1173) (by decide +kernel), List.mem_of_getElem? (i := 1520) (by decide +kernel), List.mem_of_getElem? (i := 1521) (by decide +kernel)⟩
theorem lw_p72 : lw_okq (⟨"LeftHandsModel", "partAt", "()I"⟩, 52) := ⟨⟨by decide +kernel, by decide +kernel⟩, List.mem_of_getElem? (i := 1173) (by decide +kernel), List.mem_of_getElem? (i := 1524) (by decide +kernel), List.mem_of_getElem? (i := 1525) (by decide +kernel)⟩
theorem lw_p73 : lw_okq (⟨"LeftHandsModel", "leaf", "(ZII)V"⟩, 52) := ⟨⟨by decide +kernel, by decide +kernel⟩, List.mem_of_getElem? (i := 1173) (by decide +kernel), List.mem_of_getElem? (i := 1529) (by decide +kernel), List.mem_of_getElem? (i := 1530) (by decide +kernel)⟩
theorem lw_p74 : lw_okq (⟨"LeftHandsModel", "emit", "(II)V"⟩, 52) := ⟨⟨by decide +kernel, by decide +kernel⟩, List.mem_of_getElem? (i := 1173) (by decide +kernel), List.mem_of_getElem? (i := 1533) (by decide +kernel), List.mem_of_getElem? (i := 1534) (by decide +kernel)⟩
theorem lw_p75 : lw_okq (⟨"LeftHandsModel", "behindSum", "(Z)I"⟩, 52) := ⟨⟨by decide +kernel, by decide +kernel⟩, List.mem_of_getElem? (i := 1173) (by decide +kernel), List.mem_of_getElem? (i := 1537) (by decide +kernel), List.mem_of_getElem? (i := 1538) (by decide +kernel)⟩
theorem lw_p76 : lw_okq (⟨"LeftHandsModel", "settle", "(I)V"⟩, 52) := ⟨⟨by decide +kernel, by decide +kernel⟩, List.mem_of_getElem? (i := 1173) (by decide +kernel), List.mem_of_getElem? (i := 1544) (by decide +kernel), List.mem_of_getElem? (i := 1545) (by decide +kernel)⟩
theorem lw_p77 : lw_okq (⟨"LeftHandsModel", "inner", "()I"⟩, 52) := ⟨⟨by decide +kernel, by decide +kernel⟩, List.mem_of_getElem? (i := 1173) (by decide +kernel), List.mem_of_getElem? (i := 1548) (by decide +kernel), List.mem_of_getElem? (i := 1549) (by decide +kernel)⟩
theorem lw_p78 : lw_okq (⟨"LeftHandsModel", "isCompared", "()Z"⟩, 52) := ⟨⟨by decide +kernel, by decide +kernel⟩, List.mem_of_getElem? (i := 1173) (by decide +kernel), List.mem_of_getElem? (i := 1552) (by decide +kernel), List.mem_of_getElem? (i := 1553) (by decide +kernel)⟩
theorem lw_p79 : lw_okq (⟨"LeftHandsModel", "behindTest", "()I"⟩, 52) := ⟨⟨by decide +kernel, by decide +kernel⟩, List.mem_of_getElem? (i := 1173) (by decide +kernel), List.mem_of_getElem? (i := 1560) (by decide +kernel), List.mem_of_getElem? (i := 1561) (by decide +kernel)⟩
def lw_privs_5 : List (MethodName × Nat) := [(⟨"LeftHandsModel", "isWord", "(J)Z"⟩, 52), (⟨"LeftHandsModel", "must", "(Z)V"⟩, 52), (⟨"LeftHandsModel", "readExpression", "(Z)V"⟩, 52), (⟨"LeftHandsModel", "readPlain", "()I"⟩, 52), (⟨"LeftHandsModel", "push", "(II)V"⟩, 52), (⟨"LeftHandsModel", "isSign", "(I)Z"⟩, 52), (⟨"LeftHandsModel", "openBracket", "(I)V"⟩, 52), (⟨"LeftHandsModel", "readPart", "()I"⟩, 52), (⟨"LeftHandsModel", "partAt", "()I"⟩, 52), (⟨"LeftHandsModel", "leaf", "(ZII)V"⟩, 52), (⟨"LeftHandsModel", "emit", "(II)V"⟩, 52), (⟨"LeftHandsModel", "behindSum", "(Z)I"⟩, 52), (⟨"LeftHandsModel", "settle", "(I)V"⟩, 52), (⟨"LeftHandsModel", "inner", "()I"⟩, 52), (⟨"LeftHandsModel", "isCompared", "()Z"⟩, 52), (⟨"LeftHandsModel", "behindTest", "()I"⟩, 52)]
theorem lw_r5 : ∀ q ∈ lw_privs_5, lw_okq q := List.forall_mem_cons.mpr ⟨lw_p64, List.forall_mem_cons.mpr ⟨lw_p65, List.forall_mem_cons.mpr ⟨lw_p66, List.forall_mem_cons.mpr ⟨lw_p67, List.forall_mem_cons.mpr ⟨lw_p68, List.forall_mem_cons.mpr ⟨lw_p69, List.forall_mem_cons.mpr ⟨lw_p70, List.forall_mem_cons.mpr ⟨lw_p71, List.forall_mem_cons.mpr ⟨lw_p72, List.forall_mem_cons.mpr ⟨lw_p73, List.forall_mem_cons.mpr ⟨lw_p74, List.forall_mem_cons.mpr ⟨lw_p75, List.forall_mem_cons.mpr ⟨lw_p76, List.forall_mem_cons.mpr ⟨lw_p77, List.forall_mem_cons.mpr ⟨lw_p78, List.forall_mem_cons.mpr ⟨lw_p79, fun _ h => absurd h List.not_mem_nil⟩⟩⟩⟩⟩⟩⟩⟩⟩⟩⟩⟩⟩⟩⟩⟩
theorem lw_p80 : lw_okq (⟨"LeftHandsModel", "findWay", "(I)I"⟩, 52) := ⟨⟨by decide +kernel, by decide +kernel⟩, List.mem_of_getElem? (i := 1173) (by decide +kernel), List.mem_of_getElem? (i := 1575) (by decide +kernel), List.mem_of_getElem? (i := 1576) (by decide +kernel)⟩
theorem lw_p81 : lw_okq (⟨"LeftHandsModel", "areStands", "(I)Z"⟩, 52) := ⟨⟨by decide +kernel, by decide +kernel⟩, List.mem_of_getElem? (i := 1173) (by decide +kernel), List.mem_of_getElem? (i := 1583) (by decide +kernel), List.mem_of_getElem? (i := 1584) (by decide +kernel)⟩
theorem lw_p82 : lw_okq (⟨"LeftHandsModel", "runDay", "()V"⟩, 52) := ⟨⟨by decide +kernel, by decide +kernel⟩, List.mem_of_getElem? (i := 1173) (by decide +kernel), List.mem_of_getElem? (i := 1591) (by decide +kernel), List.mem_of_getElem? (i := 1592) (by decide +kernel)⟩
theorem lw_p83 : lw_okq (⟨"LeftHandsModel", "asIs", "()V"⟩, 52) := ⟨⟨by decide +kernel, by decide +kernel⟩, List.mem_of_getElem? (i := 1173) (by decide +kernel), List.mem_of_getElem? (i := 1595) (by decide +kernel), List.mem_of_getElem? (i := 1596) (by decide +kernel)⟩
theorem lw_p84 : lw_okq (⟨"LeftHandsModel", "run", "()V"⟩, 52) := ⟨⟨by decide +kernel, by decide +kernel⟩, List.mem_of_getElem? (i := 1173) (by decide +kernel), List.mem_of_getElem? (i := 1599) (by decide +kernel), List.mem_of_getElem? (i := 1600) (by decide +kernel)⟩
theorem lw_p85 : lw_okq (⟨"LeftHandsModel", "bring", "(I)V"⟩, 52) := ⟨⟨by decide +kernel, by decide +kernel⟩, List.mem_of_getElem? (i := 1173) (by decide +kernel), List.mem_of_getElem? (i := 1603) (by decide +kernel), List.mem_of_getElem? (i := 1604) (by decide +kernel)⟩
theorem lw_p86 : lw_okq (⟨"LeftHandsModel", "takesPart", "(I)Z"⟩, 52) := ⟨⟨by decide +kernel, by decide +kernel⟩, List.mem_of_getElem? (i := 1173) (by decide +kernel), List.mem_of_getElem? (i := 1607) (by decide +kernel), List.mem_of_getElem? (i := 1608) (by decide +kernel)⟩
theorem lw_p87 : lw_okq (⟨"LeftHandsModel", "canHold", "(II)Z"⟩, 52) := ⟨⟨by decide +kernel, by decide +kernel⟩, List.mem_of_getElem? (i := 1173) (by decide +kernel), List.mem_of_getElem? (i := 1611) (by decide +kernel), List.mem_of_getElem? (i := 1612) (by decide +kernel)⟩
theorem lw_p88 : lw_okq (⟨"LeftHandsModel", "tells", "(IIIIIJ)J"⟩, 52) := ⟨⟨by decide +kernel, by decide +kernel⟩, List.mem_of_getElem? (i := 1173) (by decide +kernel), List.mem_of_getElem? (i := 1615) (by decide +kernel), List.mem_of_getElem? (i := 1616) (by decide +kernel)⟩
theorem lw_p89 : lw_okq (⟨"LeftHandsModel", "isSo", "(I)Z"⟩, 52) := ⟨⟨by decide +kernel, by decide +kernel⟩, List.mem_of_getElem? (i := 1173) (by decide +kernel), List.mem_of_getElem? (i := 1619) (by decide +kernel), List.mem_of_getElem? (i := 1620) (by decide +kernel)⟩
theorem lw_p90 : lw_okq (⟨"LeftHandsModel", "reckonAll", "(II)V"⟩, 52) := ⟨⟨by decide +kernel, by decide +kernel⟩, List.mem_of_getElem? (i := 1173) (by decide +kernel), List.mem_of_getElem? (i := 1623) (by decide +kernel), List.mem_of_getElem? (i := 1624) (by decide +kernel)⟩
theorem lw_p91 : lw_okq (⟨"LeftHandsModel", "reckon", "(IJJ)J"⟩, 52) := ⟨⟨by decide +kernel, by decide +kernel⟩, List.mem_of_getElem? (i := 1173) (by decide +kernel), List.mem_of_getElem? (i := 1627) (by decide +kernel), List.mem_of_getElem? (i := 1628) (by decide +kernel)⟩
theorem lw_p92 : lw_okq (⟨"LeftHandsModel", "first", "()I"⟩, 52) := ⟨⟨by decide +kernel, by decide +kernel⟩, List.mem_of_getElem? (i := 1173) (by decide +kernel), List.mem_of_getElem? (i := 1633) (by decide +kernel), List.mem_of_getElem? (i := 1634) (by decide +kernel)⟩
theorem lw_p93 : lw_okq (⟨"LeftHandsModel", "goOn", "(II)V"⟩, 52) := ⟨⟨by decide +kernel, by decide +kernel⟩, List.mem_of_getElem? (i := 1173) (by decide +kernel), List.mem_of_getElem? (i := 1637) (by decide +kernel), List.mem_of_getElem? (i := 1638) (by decide +kernel)⟩
theorem lw_p94 : lw_okq (⟨"LeftHandsModel", "isBarred", "(IIII)Z"⟩, 52) := ⟨⟨by decide +kernel, by decide +kernel⟩, List.mem_of_getElem? (i := 1173) (by decide +kernel), List.mem_of_getElem? (i := 1641) (by decide +kernel), List.mem_of_getElem? (i := 1642) (by decide +kernel)⟩
theorem lw_p95 : lw_okq (⟨"LeftHandsModel", "isStuck", "(I)Z"⟩, 52) := ⟨⟨by decide +kernel, by decide +kernel⟩, List.mem_of_getElem? (i := 1173) (by decide +kernel), List.mem_of_getElem? (i := 1660) (by decide +kernel), List.mem_of_getElem? (i := 1661) (by decide +kernel)⟩
def lw_privs_6 : List (MethodName × Nat) := [(⟨"LeftHandsModel", "findWay", "(I)I"⟩, 52), (⟨"LeftHandsModel", "areStands", "(I)Z"⟩, 52), (⟨"LeftHandsModel", "runDay", "()V"⟩, 52), (⟨"LeftHandsModel", "asIs", "()V"⟩, 52), (⟨"LeftHandsModel", "run", "()V"⟩, 52), (⟨"LeftHandsModel", "bring", "(I)V"⟩, 52), (⟨"LeftHandsModel", "takesPart", "(I)Z"⟩, 52), (⟨"LeftHandsModel", "canHold", "(II)Z"⟩, 52), (⟨"LeftHandsModel", "tells", "(IIIIIJ)J"⟩, 52), (⟨"LeftHandsModel", "isSo", "(I)Z"⟩, 52), (⟨"LeftHandsModel", "reckonAll", "(II)V"⟩, 52), (⟨"LeftHandsModel", "reckon", "(IJJ)J"⟩, 52), (⟨"LeftHandsModel", "first", "()I"⟩, 52), (⟨"LeftHandsModel", "goOn", "(II)V"⟩, 52), (⟨"LeftHandsModel", "isBarred", "(IIII)Z"⟩, 52), (⟨"LeftHandsModel", "isStuck", "(I)Z"⟩, 52)]
theorem lw_r6 : ∀ q ∈ lw_privs_6, lw_okq q := List.forall_mem_cons.mpr ⟨lw_p80, List.forall_mem_cons.mpr ⟨lw_p81, List.forall_mem_cons.mpr ⟨lw_p82, List.forall_mem_cons.mpr ⟨lw_p83, List.forall_mem_cons.mpr ⟨lw_p84, List.forall_mem_cons.mpr ⟨lw_p85, List.forall_mem_cons.mpr ⟨lw_p86, List.forall_mem_cons.mpr ⟨lw_p87, List.forall_mem_cons.mpr ⟨lw_p88, List.forall_mem_cons.mpr ⟨lw_p89, List.forall_mem_cons.mpr ⟨lw_p90, List.forall_mem_cons.mpr ⟨lw_p91, List.forall_mem_cons.mpr ⟨lw_p92, List.forall_mem_cons.mpr ⟨lw_p93, List.forall_mem_cons.mpr ⟨lw_p94, List.forall_mem_cons.mpr ⟨lw_p95, fun _ h => absurd h List.not_mem_nil⟩⟩⟩⟩⟩⟩⟩⟩⟩⟩⟩⟩⟩⟩⟩⟩
theorem lw_p96 : lw_okq (⟨"LeftHandsModel", "findSwaps", "(II)V"⟩, 52) := ⟨⟨by decide +kernel, by decide +kernel⟩, List.mem_of_getElem? (i := 1173) (by decide +kernel), List.mem_of_getElem? (i := 1668) (by decide +kernel), List.mem_of_getElem? (i := 1669) (by decide +kernel)⟩
theorem lw_p97 : lw_okq (⟨"LeftHandsModel", "swapAt", "(II)V"⟩, 52) := ⟨⟨by decide +kernel, by decide +kernel⟩, List.mem_of_getElem? (i := 1173) (by decide +kernel), List.mem_of_getElem? (i := 1672) (by decide +kernel), List.mem_of_getElem? (i := 1673) (by decide +kernel)⟩
theorem lw_p98 : lw_okq (⟨"LeftHandsModel", "allCome", "(II)Z"⟩, 52) := ⟨⟨by decide +kernel, by decide +kernel⟩, List.mem_of_getElem? (i := 1173) (by decide +kernel), List.mem_of_getElem? (i := 1676) (by decide +kernel), List.mem_of_getElem? (i := 1677) (by decide +kernel)⟩
theorem lw_p99 : lw_okq (⟨"LeftHandsModel", "nobodyOut", "()Z"⟩, 52) := ⟨⟨by decide +kernel, by decide +kernel⟩, List.mem_of_getElem? (i := 1173) (by decide +kernel), List.mem_of_getElem? (i := 1692) (by decide +kernel), List.mem_of_getElem? (i := 1693) (by decide +kernel)⟩
theorem lw_p100 : lw_okq (⟨"LeftHandsModel", "costOf", "(I)I"⟩, 52) := ⟨⟨by decide +kernel, by decide +kernel⟩, List.mem_of_getElem? (i := 1173) (by decide +kernel), List.mem_of_getElem? (i := 1700) (by decide +kernel), List.mem_of_getElem? (i := 1701) (by decide +kernel)⟩
theorem lw_p101 : lw_okq (⟨"LeftHandsModel", "feeOf", "(II)I"⟩, 52) := ⟨⟨by decide +kernel, by decide +kernel⟩, List.mem_of_getElem? (i := 1173) (by decide +kernel), List.mem_of_getElem? (i := 1704) (by decide +kernel), List.mem_of_getElem? (i := 1705) (by decide +kernel)⟩
theorem lw_p102 : lw_okq (⟨"LeftHandsModel", "isSent", "(I)Z"⟩, 52) := ⟨⟨by decide +kernel, by decide +kernel⟩, List.mem_of_getElem? (i := 1173) (by decide +kernel), List.mem_of_getElem? (i := 1713) (by decide +kernel), List.mem_of_getElem? (i := 1714) (by decide +kernel)⟩
theorem lw_p103 : lw_okq (⟨"LeftHandsModel", "incomeOf", "(I)I"⟩, 52) := ⟨⟨by decide +kernel, by decide +kernel⟩, List.mem_of_getElem? (i := 1173) (by decide +kernel), List.mem_of_getElem? (i := 1721) (by decide +kernel), List.mem_of_getElem? (i := 1722) (by decide +kernel)⟩
theorem lw_p104 : lw_okq (⟨"LeftHandsModel", "answerOf", "(I)I"⟩, 52) := ⟨⟨by decide +kernel, by decide +kernel⟩, List.mem_of_getElem? (i := 1173) (by decide +kernel), List.mem_of_getElem? (i := 1729) (by decide +kernel), List.mem_of_getElem? (i := 1730) (by decide +kernel)⟩
theorem lw_p105 : lw_okq (⟨"LeftHandsModel", "after", "(II)I"⟩, 52) := ⟨⟨by decide +kernel, by decide +kernel⟩, List.mem_of_getElem? (i := 1173) (by decide +kernel), List.mem_of_getElem? (i := 1757) (by decide +kernel), List.mem_of_getElem? (i := 1758) (by decide +kernel)⟩
theorem lw_p106 : lw_okq (⟨"LeftHandsModel", "draw3", "(I)I"⟩, 52) := ⟨⟨by decide +kernel, by decide +kernel⟩, List.mem_of_getElem? (i := 1173) (by decide +kernel), List.mem_of_getElem? (i := 1769) (by decide +kernel), List.mem_of_getElem? (i := 1770) (by decide +kernel)⟩
theorem lw_p107 : lw_okq (⟨"LeftHandsModel", "byNoon", "()I"⟩, 52) := ⟨⟨by decide +kernel, by decide +kernel⟩, List.mem_of_getElem? (i := 1173) (by decide +kernel), List.mem_of_getElem? (i := 1776) (by decide +kernel), List.mem_of_getElem? (i := 1777) (by decide +kernel)⟩
def lw_privs_7 : List (MethodName × Nat) := [(⟨"LeftHandsModel", "findSwaps", "(II)V"⟩, 52), (⟨"LeftHandsModel", "swapAt", "(II)V"⟩, 52), (⟨"LeftHandsModel", "allCome", "(II)Z"⟩, 52), (⟨"LeftHandsModel", "nobodyOut", "()Z"⟩, 52), (⟨"LeftHandsModel", "costOf", "(I)I"⟩, 52), (⟨"LeftHandsModel", "feeOf", "(II)I"⟩, 52), (⟨"LeftHandsModel", "isSent", "(I)Z"⟩, 52), (⟨"LeftHandsModel", "incomeOf", "(I)I"⟩, 52), (⟨"LeftHandsModel", "answerOf", "(I)I"⟩, 52), (⟨"LeftHandsModel", "after", "(II)I"⟩, 52), (⟨"LeftHandsModel", "draw3", "(I)I"⟩, 52), (⟨"LeftHandsModel", "byNoon", "()I"⟩, 52)]
theorem lw_r7 : ∀ q ∈ lw_privs_7, lw_okq q := List.forall_mem_cons.mpr ⟨lw_p96, List.forall_mem_cons.mpr ⟨lw_p97, List.forall_mem_cons.mpr ⟨lw_p98, List.forall_mem_cons.mpr ⟨lw_p99, List.forall_mem_cons.mpr ⟨lw_p100, List.forall_mem_cons.mpr ⟨lw_p101, List.forall_mem_cons.mpr ⟨lw_p102, List.forall_mem_cons.mpr ⟨lw_p103, List.forall_mem_cons.mpr ⟨lw_p104, List.forall_mem_cons.mpr ⟨lw_p105, List.forall_mem_cons.mpr ⟨lw_p106, List.forall_mem_cons.mpr ⟨lw_p107, fun _ h => absurd h List.not_mem_nil⟩⟩⟩⟩⟩⟩⟩⟩⟩⟩⟩⟩
def lw_privs : List (MethodName × Nat) := lw_privs_1 ++ (lw_privs_2 ++ (lw_privs_3 ++ (lw_privs_4 ++ (lw_privs_5 ++ (lw_privs_6 ++ (lw_privs_7))))))
def lw_tbl : List Cond := k2_sels lw_privs ++ tables_1
theorem lw_privs_ok : ∀ q ∈ lw_privs, lw_okq q := by
  show ∀ q ∈ lw_privs_1 ++ (lw_privs_2 ++ (lw_privs_3 ++ (lw_privs_4 ++ (lw_privs_5 ++ (lw_privs_6 ++ (lw_privs_7)))))), lw_okq q
  exact List.forall_mem_append.mpr ⟨lw_r1, List.forall_mem_append.mpr ⟨lw_r2, List.forall_mem_append.mpr ⟨lw_r3, List.forall_mem_append.mpr ⟨lw_r4, List.forall_mem_append.mpr ⟨lw_r5, List.forall_mem_append.mpr ⟨lw_r6, lw_r7⟩⟩⟩⟩⟩⟩
def RX0 : String := "LeftHands$Bazaar"
def TX0 : u_T := fun k => match k with
  | 0 => ("LeftHands$Bazaar", "stands", "I", false)
  | 1 => ("LeftHands$Bazaar", "left", "[I", true)
  | 2 => ("LeftHands$Bazaar", "strength", "[I", true)
  | 3 => ("LeftHands$Bazaar", "fee", "[I", true)
  | 4 => ("LeftHands$Bazaar", "loads", "I", false)
  | 5 => ("LeftHands$Bazaar", "facts", "[I", true)
  | 6 => ("LeftHands$Bazaar", "laws", "I", false)
  | 7 => ("LeftHands$Bazaar", "lawRow", "[LLeftHands$Law;", true)
  | 8 => ("LeftHands$Bazaar", "noLaw", "LLeftHands$Law;", true)
  | 9 => ("LeftHands$Bazaar", "inForce", "I", false)
  | 10 => ("LeftHands$Bazaar", "noon", "I", false)
  | 11 => ("LeftHands$Bazaar", "hands", "I", false)
  | 12 => ("LeftHands$Bazaar", "signs", "I", false)
  | 13 => ("LeftHands$Bazaar", "signStand", "[I", true)
  | _ => ("LeftHands$Bazaar", "signHands", "[I", true)
def tyX0 : Nat → FieldType := fun k => match k with
  | 0 => .int
  | 1 => .array .int
  | 2 => .array .int
  | 3 => .array .int
  | 4 => .int
  | 5 => .array .int
  | 6 => .int
  | 7 => .array (.object "LeftHands$Law")
  | 8 => .object "LeftHands$Law"
  | 9 => .int
  | 10 => .int
  | 11 => .int
  | 12 => .int
  | 13 => .array .int
  | _ => .array .int
theorem nmX0 : ∀ a, a < 15 → ∀ b, b < 15 → a ≠ b → (TX0 a).2.1 ≠ (TX0 b).2.1 := by decide +kernel
theorem tyX0_ok : ∀ k, k < 15 → parseFieldDescriptor (TX0 k).2.2.1 = some (tyX0 k) := by decide +kernel
abbrev cX0_init : ByteArray := prog_2_method_1_code
def yX0_init : MethodName := ⟨RX0, "<init>", "()V"⟩
abbrev cX0_become : ByteArray := prog_2_method_2_code
def yX0_become : MethodName := ⟨RX0, "become", "(LLeftHands$Bazaar;)V"⟩
abbrev cX0_hasStand : ByteArray := prog_2_method_3_code
def yX0_hasStand : MethodName := ⟨RX0, "hasStand", "(I)Z"⟩
abbrev cX0_hasLoad : ByteArray := prog_2_method_4_code
def yX0_hasLoad : MethodName := ⟨RX0, "hasLoad", "(I)Z"⟩
abbrev cX0_addStand : ByteArray := prog_2_method_5_code
def yX0_addStand : MethodName := ⟨RX0, "addStand", "(III)I"⟩
abbrev cX0_addLoad : ByteArray := prog_2_method_6_code
def yX0_addLoad : MethodName := ⟨RX0, "addLoad", "(IIIIII)I"⟩
abbrev cX0_removeLoad : ByteArray := prog_2_method_7_code
def yX0_removeLoad : MethodName := ⟨RX0, "removeLoad", "(I)V"⟩
abbrev cX0_addLaw : ByteArray := prog_2_method_8_code
def yX0_addLaw : MethodName := ⟨RX0, "addLaw", "(LLeftHands$Law;)I"⟩
abbrev cX0_lawInForce : ByteArray := prog_2_method_9_code
def yX0_lawInForce : MethodName := ⟨RX0, "lawInForce", "()LLeftHands$Law;"⟩
abbrev cX0_lawAt : ByteArray := prog_2_method_10_code
def yX0_lawAt : MethodName := ⟨RX0, "lawAt", "(I)LLeftHands$Law;"⟩
abbrev cX0_about : ByteArray := prog_2_method_11_code
def yX0_about : MethodName := ⟨RX0, "about", "(II)I"⟩
abbrev cX0_next : ByteArray := prog_2_method_12_code
def yX0_next : MethodName := ⟨RX0, "next", "(I)I"⟩
abbrev cX0_nextPast : ByteArray := prog_2_method_13_code
def yX0_nextPast : MethodName := ⟨RX0, "nextPast", "(II)I"⟩
abbrev cX0_handsOf : ByteArray := prog_2_method_14_code
def yX0_handsOf : MethodName := ⟨RX0, "handsOf", "(I)I"⟩
def RX1 : String := "LeftHands$Day"
def TX1 : u_T := fun k => match k with
  | 0 => ("LeftHands$Day", "bazaar", "LLeftHands$Bazaar;", true)
  | 1 => ("LeftHands$Day", "judge", "LLeftHands$Judge;", true)
  | 2 => ("LeftHands$Day", "strength", "[I", true)
  | 3 => ("LeftHands$Day", "fee", "[I", true)
  | 4 => ("LeftHands$Day", "start", "[I", true)
  | 5 => ("LeftHands$Day", "next", "[I", true)
  | 6 => ("LeftHands$Day", "hands", "[I", true)
  | 7 => ("LeftHands$Day", "handsLeft", "[I", true)
  | 8 => ("LeftHands$Day", "at", "[I", true)
  | 9 => ("LeftHands$Day", "come", "[I", true)
  | 10 => ("LeftHands$Day", "waited", "[I", true)
  | 11 => ("LeftHands$Day", "waits", "[I", true)
  | 12 => ("LeftHands$Day", "heldLoads", "[I", true)
  | 13 => ("LeftHands$Day", "heldWeight", "[I", true)
  | 14 => ("LeftHands$Day", "rank", "[J", true)
  | 15 => ("LeftHands$Day", "turns", "[I", true)
  | 16 => ("LeftHands$Day", "lined", "I", false)
  | 17 => ("LeftHands$Day", "places", "[I", true)
  | _ => ("LeftHands$Day", "moved", "Z", false)
def tyX1 : Nat → FieldType := fun k => match k with
  | 0 => .object "LeftHands$Bazaar"
  | 1 => .object "LeftHands$Judge"
  | 2 => .array .int
  | 3 => .array .int
  | 4 => .array .int
  | 5 => .array .int
  | 6 => .array .int
  | 7 => .array .int
  | 8 => .array .int
  | 9 => .array .int
  | 10 => .array .int
  | 11 => .array .int
  | 12 => .array .int
  | 13 => .array .int
  | 14 => .array .long
  | 15 => .array .int
  | 16 => .int
  | 17 => .array .int
  | _ => .boolean
theorem nmX1 : ∀ a, a < 19 → ∀ b, b < 19 → a ≠ b → (TX1 a).2.1 ≠ (TX1 b).2.1 := by decide +kernel
theorem tyX1_ok : ∀ k, k < 19 → parseFieldDescriptor (TX1 k).2.2.1 = some (tyX1 k) := by decide +kernel
abbrev cX1_init : ByteArray := prog_3_method_1_code
def yX1_init : MethodName := ⟨RX1, "<init>", "(LLeftHands$Bazaar;LLeftHands$Judge;)V"⟩
abbrev cX1_layOut : ByteArray := prog_3_method_2_code
def yX1_layOut : MethodName := ⟨RX1, "layOut", "(I)V"⟩
abbrev cX1_handsToWant : ByteArray := prog_3_method_3_code
def yX1_handsToWant : MethodName := ⟨RX1, "handsToWant", "(I)I"⟩
abbrev cX1_runWhole : ByteArray := prog_3_method_4_code
def yX1_runWhole : MethodName := ⟨RX1, "runWhole", "()V"⟩
abbrev cX1_comesBy : ByteArray := prog_3_method_5_code
def yX1_comesBy : MethodName := ⟨RX1, "comesBy", "(II)Z"⟩
abbrev cX1_lastStart : ByteArray := prog_3_method_6_code
def yX1_lastStart : MethodName := ⟨RX1, "lastStart", "()I"⟩
abbrev cX1_canComeBy : ByteArray := prog_3_method_7_code
def yX1_canComeBy : MethodName := ⟨RX1, "canComeBy", "(II)Z"⟩
abbrev cX1_isCarried : ByteArray := prog_3_method_8_code
def yX1_isCarried : MethodName := ⟨RX1, "isCarried", "(I)Z"⟩
abbrev cX1_begin : ByteArray := prog_3_method_9_code
def yX1_begin : MethodName := ⟨RX1, "begin", "()V"⟩
abbrev cX1_arrive : ByteArray := prog_3_method_10_code
def yX1_arrive : MethodName := ⟨RX1, "arrive", "(I)V"⟩
abbrev cX1_admit : ByteArray := prog_3_method_11_code
def yX1_admit : MethodName := ⟨RX1, "admit", "(II)V"⟩
abbrev cX1_canHold : ByteArray := prog_3_method_12_code
def yX1_canHold : MethodName := ⟨RX1, "canHold", "(II)Z"⟩
abbrev cX1_take : ByteArray := prog_3_method_13_code
def yX1_take : MethodName := ⟨RX1, "take", "(II)V"⟩
abbrev cX1_giveUp : ByteArray := prog_3_method_14_code
def yX1_giveUp : MethodName := ⟨RX1, "giveUp", "(II)V"⟩
abbrev cX1_lineUp : ByteArray := prog_3_method_15_code
def yX1_lineUp : MethodName := ⟨RX1, "lineUp", "(I)V"⟩
abbrev cX1_goOn : ByteArray := prog_3_method_16_code
def yX1_goOn : MethodName := ⟨RX1, "goOn", "(I)V"⟩
abbrev cX1_placeBehind : ByteArray := prog_3_method_17_code
def yX1_placeBehind : MethodName := ⟨RX1, "placeBehind", "(II)I"⟩
abbrev cX1_comeByNoon : ByteArray := prog_3_method_18_code
def yX1_comeByNoon : MethodName := ⟨RX1, "comeByNoon", "()I"⟩
abbrev cX1_failures : ByteArray := prog_3_method_19_code
def yX1_failures : MethodName := ⟨RX1, "failures", "()I"⟩
abbrev cX1_chokingRound : ByteArray := prog_3_method_20_code
def yX1_chokingRound : MethodName := ⟨RX1, "chokingRound", "()I"⟩
abbrev cX1_isStuck : ByteArray := prog_3_method_21_code
def yX1_isStuck : MethodName := ⟨RX1, "isStuck", "(I)Z"⟩
abbrev cX1_roundOf : ByteArray := prog_3_method_22_code
def yX1_roundOf : MethodName := ⟨RX1, "roundOf", "(II)I"⟩
def RX2 : String := "LeftHands$Fees"
def TX2 : u_T := fun k => match k with
  | 0 => ("LeftHands$Fees", "bazaar", "LLeftHands$Bazaar;", true)
  | 1 => ("LeftHands$Fees", "judge", "LLeftHands$Judge;", true)
  | 2 => ("LeftHands$Fees", "asks", "[I", true)
  | 3 => ("LeftHands$Fees", "others", "[I", true)
  | 4 => ("LeftHands$Fees", "told", "[I", true)
  | 5 => ("LeftHands$Fees", "toldFresh", "Z", false)
  | 6 => ("LeftHands$Fees", "telling", "Z", false)
  | 7 => ("LeftHands$Fees", "best", "I", false)
  | 8 => ("LeftHands$Fees", "bestIncome", "I", false)
  | 9 => ("LeftHands$Fees", "income", "I", false)
  | 10 => ("LeftHands$Fees", "settledKnown", "Z", false)
  | 11 => ("LeftHands$Fees", "rounds", "I", false)
  | _ => ("LeftHands$Fees", "settledFees", "[I", true)
def tyX2 : Nat → FieldType := fun k => match k with
  | 0 => .object "LeftHands$Bazaar"
  | 1 => .object "LeftHands$Judge"
  | 2 => .array .int
  | 3 => .array .int
  | 4 => .array .int
  | 5 => .boolean
  | 6 => .boolean
  | 7 => .int
  | 8 => .int
  | 9 => .int
  | 10 => .boolean
  | 11 => .int
  | _ => .array .int
theorem nmX2 : ∀ a, a < 13 → ∀ b, b < 13 → a ≠ b → (TX2 a).2.1 ≠ (TX2 b).2.1 := by decide +kernel
theorem tyX2_ok : ∀ k, k < 13 → parseFieldDescriptor (TX2 k).2.2.1 = some (tyX2 k) := by decide +kernel
abbrev cX2_init : ByteArray := prog_4_method_1_code
def yX2_init : MethodName := ⟨RX2, "<init>", "(LLeftHands$Bazaar;LLeftHands$Judge;)V"⟩
abbrev cX2_forget : ByteArray := prog_4_method_2_code
def yX2_forget : MethodName := ⟨RX2, "forget", "()V"⟩
abbrev cX2_costOf : ByteArray := prog_4_method_3_code
def yX2_costOf : MethodName := ⟨RX2, "costOf", "(I)I"⟩
abbrev cX2_incomeOf : ByteArray := prog_4_method_4_code
def yX2_incomeOf : MethodName := ⟨RX2, "incomeOf", "(I)I"⟩
abbrev cX2_answerOf : ByteArray := prog_4_method_5_code
def yX2_answerOf : MethodName := ⟨RX2, "answerOf", "(II)I"⟩
abbrev cX2_firstRestless : ByteArray := prog_4_method_6_code
def yX2_firstRestless : MethodName := ⟨RX2, "firstRestless", "()I"⟩
abbrev cX2_settle : ByteArray := prog_4_method_7_code
def yX2_settle : MethodName := ⟨RX2, "settle", "()V"⟩
abbrev cX2_settled : ByteArray := prog_4_method_8_code
def yX2_settled : MethodName := ⟨RX2, "settled", "(I)I"⟩
abbrev cX2_begin : ByteArray := prog_4_method_9_code
def yX2_begin : MethodName := ⟨RX2, "begin", "()V"⟩
abbrev cX2_seekAnswer : ByteArray := prog_4_method_10_code
def yX2_seekAnswer : MethodName := ⟨RX2, "seekAnswer", "(I)V"⟩
abbrev cX2_incomeBy : ByteArray := prog_4_method_11_code
def yX2_incomeBy : MethodName := ⟨RX2, "incomeBy", "(II)I"⟩
abbrev cX2_costBeside : ByteArray := prog_4_method_12_code
def yX2_costBeside : MethodName := ⟨RX2, "costBeside", "(II)I"⟩
abbrev cX2_gets : ByteArray := prog_4_method_13_code
def yX2_gets : MethodName := ⟨RX2, "gets", "(III)I"⟩
def RX3 : String := "LeftHands$Judge"
def TX3 : u_T := fun k => match k with
  | 0 => ("LeftHands$Judge", "bazaar", "LLeftHands$Bazaar;", true)
  | 1 => ("LeftHands$Judge", "words", "[J", true)
  | 2 => ("LeftHands$Judge", "stack", "[J", true)
  | _ => ("LeftHands$Judge", "broken", "Z", false)
def tyX3 : Nat → FieldType := fun k => match k with
  | 0 => .object "LeftHands$Bazaar"
  | 1 => .array .long
  | 2 => .array .long
  | _ => .boolean
theorem nmX3 : ∀ a, a < 4 → ∀ b, b < 4 → a ≠ b → (TX3 a).2.1 ≠ (TX3 b).2.1 := by decide +kernel
theorem tyX3_ok : ∀ k, k < 4 → parseFieldDescriptor (TX3 k).2.2.1 = some (tyX3 k) := by decide +kernel
abbrev cX3_init : ByteArray := prog_5_method_1_code
def yX3_init : MethodName := ⟨RX3, "<init>", "(LLeftHands$Bazaar;)V"⟩
abbrev cX3_nameOf : ByteArray := prog_5_method_2_code
def yX3_nameOf : MethodName := ⟨RX3, "nameOf", "(I)Ljava/lang/String;"⟩
abbrev cX3_tells : ByteArray := prog_5_method_3_code
def yX3_tells : MethodName := ⟨RX3, "tells", "(IIIIIII)J"⟩
abbrev cX3_worth : ByteArray := prog_5_method_4_code
def yX3_worth : MethodName := ⟨RX3, "worth", "(LLeftHands$Law;II)J"⟩
abbrev cX3_joined : ByteArray := prog_5_method_5_code
def yX3_joined : MethodName := ⟨RX3, "joined", "(IJJ)J"⟩
def RX4 : String := "LeftHands$Law"
def TX4 : u_T := fun k => match k with
  | 0 => ("LeftHands$Law", "length", "I", false)
  | 1 => ("LeftHands$Law", "kinds", "[I", true)
  | 2 => ("LeftHands$Law", "values", "[I", true)
  | 3 => ("LeftHands$Law", "clauses", "I", false)
  | 4 => ("LeftHands$Law", "spoken", "I", false)
  | 5 => ("LeftHands$Law", "heads", "[I", true)
  | 6 => ("LeftHands$Law", "sumFrom", "[I", true)
  | 7 => ("LeftHands$Law", "testFrom", "[I", true)
  | _ => ("LeftHands$Law", "till", "[I", true)
def tyX4 : Nat → FieldType := fun k => match k with
  | 0 => .int
  | 1 => .array .int
  | 2 => .array .int
  | 3 => .int
  | 4 => .int
  | 5 => .array .int
  | 6 => .array .int
  | 7 => .array .int
  | _ => .array .int
theorem nmX4 : ∀ a, a < 9 → ∀ b, b < 9 → a ≠ b → (TX4 a).2.1 ≠ (TX4 b).2.1 := by decide +kernel
theorem tyX4_ok : ∀ k, k < 9 → parseFieldDescriptor (TX4 k).2.2.1 = some (tyX4 k) := by decide +kernel
abbrev cX4_init : ByteArray := prog_6_method_1_code
def yX4_init : MethodName := ⟨RX4, "<init>", "()V"⟩
abbrev cX4_become : ByteArray := prog_6_method_2_code
def yX4_become : MethodName := ⟨RX4, "become", "(LLeftHands$Law;)V"⟩
abbrev cX4_wipe : ByteArray := prog_6_method_3_code
def yX4_wipe : MethodName := ⟨RX4, "wipe", "()V"⟩
abbrev cX4_speaksOf : ByteArray := prog_6_method_4_code
def yX4_speaksOf : MethodName := ⟨RX4, "speaksOf", "(I)Z"⟩
abbrev cX4_asksOfTime : ByteArray := prog_6_method_5_code
def yX4_asksOfTime : MethodName := ⟨RX4, "asksOfTime", "()Z"⟩
abbrev cX4_add : ByteArray := prog_6_method_6_code
def yX4_add : MethodName := ⟨RX4, "add", "(II)I"⟩
abbrev cX4_aimAtEnd : ByteArray := prog_6_method_7_code
def yX4_aimAtEnd : MethodName := ⟨RX4, "aimAtEnd", "(I)V"⟩
def RX5 : String := "LeftHands$LawReader"
def TX5 : u_T := fun k => match k with
  | 0 => ("LeftHands$LawReader", "tape", "LLeftHands$Tape;", true)
  | 1 => ("LeftHands$LawReader", "draft", "LLeftHands$Law;", true)
  | 2 => ("LeftHands$LawReader", "fault", "I", false)
  | 3 => ("LeftHands$LawReader", "kind", "I", false)
  | 4 => ("LeftHands$LawReader", "place", "I", false)
  | 5 => ("LeftHands$LawReader", "behind", "I", false)
  | _ => ("LeftHands$LawReader", "parts", "I", false)
def tyX5 : Nat → FieldType := fun k => match k with
  | 0 => .object "LeftHands$Tape"
  | 1 => .object "LeftHands$Law"
  | 2 => .int
  | 3 => .int
  | 4 => .int
  | 5 => .int
  | _ => .int
theorem nmX5 : ∀ a, a < 7 → ∀ b, b < 7 → a ≠ b → (TX5 a).2.1 ≠ (TX5 b).2.1 := by decide +kernel
theorem tyX5_ok : ∀ k, k < 7 → parseFieldDescriptor (TX5 k).2.2.1 = some (tyX5 k) := by decide +kernel
abbrev cX5_init : ByteArray := prog_7_method_1_code
def yX5_init : MethodName := ⟨RX5, "<init>", "(LLeftHands$Tape;)V"⟩
abbrev cX5_read : ByteArray := prog_7_method_2_code
def yX5_read : MethodName := ⟨RX5, "read", "()Z"⟩
abbrev cX5_readClause : ByteArray := prog_7_method_3_code
def yX5_readClause : MethodName := ⟨RX5, "readClause", "()V"⟩
abbrev cX5_readJoined : ByteArray := prog_7_method_4_code
def yX5_readJoined : MethodName := ⟨RX5, "readJoined", "(II)V"⟩
abbrev cX5_joinHere : ByteArray := prog_7_method_5_code
def yX5_joinHere : MethodName := ⟨RX5, "joinHere", "(I)I"⟩
abbrev cX5_readPlain : ByteArray := prog_7_method_6_code
def yX5_readPlain : MethodName := ⟨RX5, "readPlain", "(I)V"⟩
abbrev cX5_comparisonHere : ByteArray := prog_7_method_7_code
def yX5_comparisonHere : MethodName := ⟨RX5, "comparisonHere", "()I"⟩
abbrev cX5_readPart : ByteArray := prog_7_method_8_code
def yX5_readPart : MethodName := ⟨RX5, "readPart", "(I)V"⟩
abbrev cX5_open : ByteArray := prog_7_method_9_code
def yX5_open : MethodName := ⟨RX5, "open", "(I)V"⟩
abbrev cX5_expect : ByteArray := prog_7_method_10_code
def yX5_expect : MethodName := ⟨RX5, "expect", "(C)V"⟩
abbrev cX5_fail : ByteArray := prog_7_method_11_code
def yX5_fail : MethodName := ⟨RX5, "fail", "()V"⟩
abbrev cX5_step : ByteArray := prog_7_method_12_code
def yX5_step : MethodName := ⟨RX5, "step", "()V"⟩
abbrev cX5_kindOf : ByteArray := prog_7_method_13_code
def yX5_kindOf : MethodName := ⟨RX5, "kindOf", "(I)I"⟩
abbrev cX5_isSingle : ByteArray := prog_7_method_14_code
def yX5_isSingle : MethodName := ⟨RX5, "isSingle", "(C)Z"⟩
abbrev cX5_isWord : ByteArray := prog_7_method_15_code
def yX5_isWord : MethodName := ⟨RX5, "isWord", "(Ljava/lang/String;)Z"⟩
abbrev cX5_numberHere : ByteArray := prog_7_method_16_code
def yX5_numberHere : MethodName := ⟨RX5, "numberHere", "()I"⟩
abbrev cX5_wordHere : ByteArray := prog_7_method_17_code
def yX5_wordHere : MethodName := ⟨RX5, "wordHere", "()I"⟩
def RX6 : String := "LeftHands$Sender"
def TX6 : u_T := fun k => match k with
  | 0 => ("LeftHands$Sender", "bazaar", "LLeftHands$Bazaar;", true)
  | 1 => ("LeftHands$Sender", "day", "LLeftHands$Day;", true)
  | 2 => ("LeftHands$Sender", "known", "Z", false)
  | 3 => ("LeftHands$Sender", "fewest", "I", false)
  | 4 => ("LeftHands$Sender", "lowest", "I", false)
  | _ => ("LeftHands$Sender", "sets", "I", false)
def tyX6 : Nat → FieldType := fun k => match k with
  | 0 => .object "LeftHands$Bazaar"
  | 1 => .object "LeftHands$Day"
  | 2 => .boolean
  | 3 => .int
  | 4 => .int
  | _ => .int
theorem nmX6 : ∀ a, a < 6 → ∀ b, b < 6 → a ≠ b → (TX6 a).2.1 ≠ (TX6 b).2.1 := by decide +kernel
theorem tyX6_ok : ∀ k, k < 6 → parseFieldDescriptor (TX6 k).2.2.1 = some (tyX6 k) := by decide +kernel
abbrev cX6_init : ByteArray := prog_8_method_1_code
def yX6_init : MethodName := ⟨RX6, "<init>", "(LLeftHands$Bazaar;LLeftHands$Day;)V"⟩
abbrev cX6_forget : ByteArray := prog_8_method_2_code
def yX6_forget : MethodName := ⟨RX6, "forget", "()V"⟩
abbrev cX6_told : ByteArray := prog_8_method_3_code
def yX6_told : MethodName := ⟨RX6, "told", "(I)I"⟩
abbrev cX6_search : ByteArray := prog_8_method_4_code
def yX6_search : MethodName := ⟨RX6, "search", "()V"⟩
def RX7 : String := "LeftHands$Swapper"
def TX7 : u_T := fun k => match k with
  | 0 => ("LeftHands$Swapper", "bazaar", "LLeftHands$Bazaar;", true)
  | 1 => ("LeftHands$Swapper", "day", "LLeftHands$Day;", true)
  | 2 => ("LeftHands$Swapper", "loads", "I", false)
  | 3 => ("LeftHands$Swapper", "fewest", "I", false)
  | 4 => ("LeftHands$Swapper", "rows", "I", false)
  | _ => ("LeftHands$Swapper", "first", "[I", true)
def tyX7 : Nat → FieldType := fun k => match k with
  | 0 => .object "LeftHands$Bazaar"
  | 1 => .object "LeftHands$Day"
  | 2 => .int
  | 3 => .int
  | 4 => .int
  | _ => .array .int
theorem nmX7 : ∀ a, a < 6 → ∀ b, b < 6 → a ≠ b → (TX7 a).2.1 ≠ (TX7 b).2.1 := by decide +kernel
theorem tyX7_ok : ∀ k, k < 6 → parseFieldDescriptor (TX7 k).2.2.1 = some (tyX7 k) := by decide +kernel
abbrev cX7_init : ByteArray := prog_9_method_1_code
def yX7_init : MethodName := ⟨RX7, "<init>", "(LLeftHands$Bazaar;LLeftHands$Day;)V"⟩
abbrev cX7_forget : ByteArray := prog_9_method_2_code
def yX7_forget : MethodName := ⟨RX7, "forget", "()V"⟩
abbrev cX7_told : ByteArray := prog_9_method_3_code
def yX7_told : MethodName := ⟨RX7, "told", "(II)I"⟩
abbrev cX7_tryNone : ByteArray := prog_9_method_4_code
def yX7_tryNone : MethodName := ⟨RX7, "tryNone", "()V"⟩
abbrev cX7_tryOne : ByteArray := prog_9_method_5_code
def yX7_tryOne : MethodName := ⟨RX7, "tryOne", "()V"⟩
abbrev cX7_tryTwo : ByteArray := prog_9_method_6_code
def yX7_tryTwo : MethodName := ⟨RX7, "tryTwo", "()V"⟩
abbrev cX7_rowsLike : ByteArray := prog_9_method_7_code
def yX7_rowsLike : MethodName := ⟨RX7, "rowsLike", "(IIII)I"⟩
abbrev cX7_change : ByteArray := prog_9_method_8_code
def yX7_change : MethodName := ⟨RX7, "change", "(II)V"⟩
abbrev cX7_found : ByteArray := prog_9_method_9_code
def yX7_found : MethodName := ⟨RX7, "found", "(IIIII)V"⟩
def RX8 : String := "LeftHands$Tape"
def TX8 : u_T := fun k => match k with
  | 0 => ("LeftHands$Tape", "bytes", "[I", true)
  | _ => ("LeftHands$Tape", "length", "I", false)
def tyX8 : Nat → FieldType := fun k => match k with
  | 0 => .array .int
  | _ => .int
theorem nmX8 : ∀ a, a < 2 → ∀ b, b < 2 → a ≠ b → (TX8 a).2.1 ≠ (TX8 b).2.1 := by decide +kernel
theorem tyX8_ok : ∀ k, k < 2 → parseFieldDescriptor (TX8 k).2.2.1 = some (tyX8 k) := by decide +kernel
abbrev cX8_init : ByteArray := prog_10_method_1_code
def yX8_init : MethodName := ⟨RX8, "<init>", "()V"⟩
abbrev cX8_append : ByteArray := prog_10_method_2_code
def yX8_append : MethodName := ⟨RX8, "append", "(I)V"⟩
abbrev cX8_at : ByteArray := prog_10_method_3_code
def yX8_at : MethodName := ⟨RX8, "at", "(I)I"⟩
def RX9 : String := "LeftHands$Ways"
def TX9 : u_T := fun k => match k with
  | _ => ("LeftHands$Ways", "bazaar", "LLeftHands$Bazaar;", true)
def tyX9 : Nat → FieldType := fun k => match k with
  | _ => .object "LeftHands$Bazaar"
theorem nmX9 : ∀ a, a < 1 → ∀ b, b < 1 → a ≠ b → (TX9 a).2.1 ≠ (TX9 b).2.1 := by decide +kernel
theorem tyX9_ok : ∀ k, k < 1 → parseFieldDescriptor (TX9 k).2.2.1 = some (tyX9 k) := by decide +kernel
abbrev cX9_init : ByteArray := prog_11_method_1_code
def yX9_init : MethodName := ⟨RX9, "<init>", "(LLeftHands$Bazaar;)V"⟩
abbrev cX9_standOf : ByteArray := prog_11_method_2_code
def yX9_standOf : MethodName := ⟨RX9, "standOf", "(II)I"⟩
abbrev cX9_comersTo : ByteArray := prog_11_method_3_code
def yX9_comersTo : MethodName := ⟨RX9, "comersTo", "(II)I"⟩
abbrev cX9_suspects : ByteArray := prog_11_method_4_code
def yX9_suspects : MethodName := ⟨RX9, "suspects", "()I"⟩
abbrev cX9_fitsSigns : ByteArray := prog_11_method_5_code
def yX9_fitsSigns : MethodName := ⟨RX9, "fitsSigns", "(I)Z"⟩
abbrev cX9_meeting : ByteArray := prog_11_method_6_code
def yX9_meeting : MethodName := ⟨RX9, "meeting", "(III)I"⟩
abbrev cX9_minutesInPieces : ByteArray := prog_11_method_7_code
def yX9_minutesInPieces : MethodName := ⟨RX9, "minutesInPieces", "(I)I"⟩
abbrev cX9_standAfter : ByteArray := prog_11_method_8_code
def yX9_standAfter : MethodName := ⟨RX9, "standAfter", "(II)I"⟩
def RX10 : String := "LeftHands"
def TX10 : u_T := fun k => match k with
  | 0 => ("LeftHands", "now", "LLeftHands$Bazaar;", true)
  | 1 => ("LeftHands", "images", "[LLeftHands$Bazaar;", true)
  | 2 => ("LeftHands", "imageKept", "[Z", true)
  | 3 => ("LeftHands", "tape", "LLeftHands$Tape;", true)
  | 4 => ("LeftHands", "reader", "LLeftHands$LawReader;", true)
  | 5 => ("LeftHands", "ways", "LLeftHands$Ways;", true)
  | 6 => ("LeftHands", "today", "LLeftHands$Day;", true)
  | 7 => ("LeftHands", "trial", "LLeftHands$Day;", true)
  | 8 => ("LeftHands", "swapper", "LLeftHands$Swapper;", true)
  | 9 => ("LeftHands", "sender", "LLeftHands$Sender;", true)
  | 10 => ("LeftHands", "fees", "LLeftHands$Fees;", true)
  | 11 => ("LeftHands", "drawnCome", "[I", true)
  | 12 => ("LeftHands", "drawnStart", "[I", true)
  | 13 => ("LeftHands", "refusals", "[I", true)
  | 14 => ("LeftHands", "todayKnown", "Z", false)
  | 15 => ("LeftHands", "drawnLoads", "I", false)
  | 16 => ("LeftHands", "droppedLately", "I", false)
  | _ => ("LeftHands", "statusNow", "I", false)
def tyX10 : Nat → FieldType := fun k => match k with
  | 0 => .object "LeftHands$Bazaar"
  | 1 => .array (.object "LeftHands$Bazaar")
  | 2 => .array .boolean
  | 3 => .object "LeftHands$Tape"
  | 4 => .object "LeftHands$LawReader"
  | 5 => .object "LeftHands$Ways"
  | 6 => .object "LeftHands$Day"
  | 7 => .object "LeftHands$Day"
  | 8 => .object "LeftHands$Swapper"
  | 9 => .object "LeftHands$Sender"
  | 10 => .object "LeftHands$Fees"
  | 11 => .array .int
  | 12 => .array .int
  | 13 => .array .int
  | 14 => .boolean
  | 15 => .int
  | 16 => .int
  | _ => .int
theorem nmX10 : ∀ a, a < 18 → ∀ b, b < 18 → a ≠ b → (TX10 a).2.1 ≠ (TX10 b).2.1 := by decide +kernel
theorem tyX10_ok : ∀ k, k < 18 → parseFieldDescriptor (TX10 k).2.2.1 = some (tyX10 k) := by decide +kernel
abbrev cX10_init : ByteArray := prog_1_method_1_code
def yX10_init : MethodName := ⟨RX10, "<init>", "()V"⟩
abbrev cX10_stand : ByteArray := prog_1_method_2_code
def yX10_stand : MethodName := ⟨RX10, "stand", "(III)I"⟩
abbrev cX10_put : ByteArray := prog_1_method_3_code
def yX10_put : MethodName := ⟨RX10, "put", "(III)I"⟩
abbrev cX10_of : ByteArray := prog_1_method_4_code
def yX10_of : MethodName := ⟨RX10, "of", "(II)I"⟩
abbrev cX10_load : ByteArray := prog_1_method_5_code
def yX10_load : MethodName := ⟨RX10, "load", "(IIIIII)I"⟩
abbrev cX10_fact : ByteArray := prog_1_method_6_code
def yX10_fact : MethodName := ⟨RX10, "fact", "(II)I"⟩
abbrev cX10_drop : ByteArray := prog_1_method_7_code
def yX10_drop : MethodName := ⟨RX10, "drop", "(I)I"⟩
abbrev cX10_terms : ByteArray := prog_1_method_8_code
def yX10_terms : MethodName := ⟨RX10, "terms", "(II)I"⟩
abbrev cX10_feed : ByteArray := prog_1_method_9_code
def yX10_feed : MethodName := ⟨RX10, "feed", "(IIIII)I"⟩
abbrev cX10_end : ByteArray := prog_1_method_10_code
def yX10_end : MethodName := ⟨RX10, "end", "(I)I"⟩
abbrev cX10_row : ByteArray := prog_1_method_11_code
def yX10_row : MethodName := ⟨RX10, "row", "()I"⟩
abbrev cX10_dropped : ByteArray := prog_1_method_12_code
def yX10_dropped : MethodName := ⟨RX10, "dropped", "()I"⟩
abbrev cX10_law : ByteArray := prog_1_method_13_code
def yX10_law : MethodName := ⟨RX10, "law", "()I"⟩
abbrev cX10_fault : ByteArray := prog_1_method_14_code
def yX10_fault : MethodName := ⟨RX10, "fault", "()I"⟩
abbrev cX10_force : ByteArray := prog_1_method_15_code
def yX10_force : MethodName := ⟨RX10, "force", "(I)I"⟩
abbrev cX10_way : ByteArray := prog_1_method_16_code
def yX10_way : MethodName := ⟨RX10, "way", "(II)I"⟩
abbrev cX10_enter : ByteArray := prog_1_method_17_code
def yX10_enter : MethodName := ⟨RX10, "enter", "(II)I"⟩
abbrev cX10_day : ByteArray := prog_1_method_18_code
def yX10_day : MethodName := ⟨RX10, "day", "(II)I"⟩
abbrev cX10_where : ByteArray := prog_1_method_19_code
def yX10_where : MethodName := ⟨RX10, "where", "(II)I"⟩
abbrev cX10_held : ByteArray := prog_1_method_20_code
def yX10_held : MethodName := ⟨RX10, "held", "(III)I"⟩
abbrev cX10_choke : ByteArray := prog_1_method_21_code
def yX10_choke : MethodName := ⟨RX10, "choke", "()I"⟩
abbrev cX10_swaps : ByteArray := prog_1_method_22_code
def yX10_swaps : MethodName := ⟨RX10, "swaps", "(II)I"⟩
abbrev cX10_swap : ByteArray := prog_1_method_23_code
def yX10_swap : MethodName := ⟨RX10, "swap", "(II)I"⟩
abbrev cX10_home : ByteArray := prog_1_method_24_code
def yX10_home : MethodName := ⟨RX10, "home", "(I)I"⟩
abbrev cX10_cost : ByteArray := prog_1_method_25_code
def yX10_cost : MethodName := ⟨RX10, "cost", "(I)I"⟩
abbrev cX10_sent : ByteArray := prog_1_method_26_code
def yX10_sent : MethodName := ⟨RX10, "sent", "(I)I"⟩
abbrev cX10_income : ByteArray := prog_1_method_27_code
def yX10_income : MethodName := ⟨RX10, "income", "(I)I"⟩
abbrev cX10_answer : ByteArray := prog_1_method_28_code
def yX10_answer : MethodName := ⟨RX10, "answer", "(II)I"⟩
abbrev cX10_restless : ByteArray := prog_1_method_29_code
def yX10_restless : MethodName := ⟨RX10, "restless", "()I"⟩
abbrev cX10_rests : ByteArray := prog_1_method_30_code
def yX10_rests : MethodName := ⟨RX10, "rests", "(I)I"⟩
abbrev cX10_pieces : ByteArray := prog_1_method_31_code
def yX10_pieces : MethodName := ⟨RX10, "pieces", "(I)I"⟩
abbrev cX10_sign : ByteArray := prog_1_method_32_code
def yX10_sign : MethodName := ⟨RX10, "sign", "(II)I"⟩
abbrev cX10_clear : ByteArray := prog_1_method_33_code
def yX10_clear : MethodName := ⟨RX10, "clear", "()I"⟩
abbrev cX10_thieves : ByteArray := prog_1_method_34_code
def yX10_thieves : MethodName := ⟨RX10, "thieves", "()I"⟩
abbrev cX10_meet : ByteArray := prog_1_method_35_code
def yX10_meet : MethodName := ⟨RX10, "meet", "(III)I"⟩
abbrev cX10_draw : ByteArray := prog_1_method_36_code
def yX10_draw : MethodName := ⟨RX10, "draw", "(I)I"⟩
abbrev cX10_drawn : ByteArray := prog_1_method_37_code
def yX10_drawn : MethodName := ⟨RX10, "drawn", "(II)I"⟩
abbrev cX10_image : ByteArray := prog_1_method_38_code
def yX10_image : MethodName := ⟨RX10, "image", "(I)I"⟩
abbrev cX10_back : ByteArray := prog_1_method_39_code
def yX10_back : MethodName := ⟨RX10, "back", "(I)I"⟩
abbrev cX10_count : ByteArray := prog_1_method_40_code
def yX10_count : MethodName := ⟨RX10, "count", "(I)I"⟩
abbrev cX10_status : ByteArray := prog_1_method_41_code
def yX10_status : MethodName := ⟨RX10, "status", "()I"⟩
abbrev cX10_refused : ByteArray := prog_1_method_42_code
def yX10_refused : MethodName := ⟨RX10, "refused", "(I)I"⟩
abbrev cX10_accepted : ByteArray := prog_1_method_43_code
def yX10_accepted : MethodName := ⟨RX10, "accepted", "(I)I"⟩
abbrev cX10_changed : ByteArray := prog_1_method_44_code
def yX10_changed : MethodName := ⟨RX10, "changed", "()V"⟩
abbrev cX10_dayNow : ByteArray := prog_1_method_45_code
def yX10_dayNow : MethodName := ⟨RX10, "dayNow", "()LLeftHands$Day;"⟩
abbrev cX10_imageOf : ByteArray := prog_1_method_46_code
def yX10_imageOf : MethodName := ⟨RX10, "imageOf", "(I)LLeftHands$Bazaar;"⟩
abbrev cX10_whyNoLoad : ByteArray := prog_1_method_47_code
def yX10_whyNoLoad : MethodName := ⟨RX10, "whyNoLoad", "(IIIIII)I"⟩
abbrev cX10_addFromTape : ByteArray := prog_1_method_48_code
def yX10_addFromTape : MethodName := ⟨RX10, "addFromTape", "(I)Z"⟩
abbrev cX10_drawAfter : ByteArray := prog_1_method_49_code
def yX10_drawAfter : MethodName := ⟨RX10, "drawAfter", "(I)I"⟩
abbrev cX10_isStrength : ByteArray := prog_1_method_50_code
def yX10_isStrength : MethodName := ⟨RX10, "isStrength", "(I)Z"⟩
abbrev cX10_isFee : ByteArray := prog_1_method_51_code
def yX10_isFee : MethodName := ⟨RX10, "isFee", "(I)Z"⟩
abbrev cX10_within : ByteArray := prog_1_method_52_code
def yX10_within : MethodName := ⟨RX10, "within", "(III)Z"⟩
abbrev cX10_hasBit : ByteArray := prog_1_method_53_code
def yX10_hasBit : MethodName := ⟨RX10, "hasBit", "(II)Z"⟩
abbrev cX10_areBits : ByteArray := prog_1_method_54_code
def yX10_areBits : MethodName := ⟨RX10, "areBits", "(II)Z"⟩
abbrev cX10_exchange : ByteArray := prog_1_method_55_code
def yX10_exchange : MethodName := ⟨RX10, "exchange", "([III)V"⟩
def RX11 : String := "LeftHandsModel"
def TX11 : u_T := fun k => match k with
  | 0 => ("LeftHandsModel", "thrown", "I", false)
  | 1 => ("LeftHandsModel", "status", "I", false)
  | 2 => ("LeftHandsModel", "refusals", "[I", true)
  | 3 => ("LeftHandsModel", "row", "[I", true)
  | 4 => ("LeftHandsModel", "images", "[I", true)
  | 5 => ("LeftHandsModel", "isKept", "[Z", true)
  | 6 => ("LeftHandsModel", "dropped", "I", false)
  | 7 => ("LeftHandsModel", "tape", "[I", true)
  | 8 => ("LeftHandsModel", "taped", "I", false)
  | 9 => ("LeftHandsModel", "from", "I", false)
  | 10 => ("LeftHandsModel", "to", "I", false)
  | 11 => ("LeftHandsModel", "sort", "I", false)
  | 12 => ("LeftHandsModel", "worth", "J", false)
  | 13 => ("LeftHandsModel", "fault", "I", false)
  | 14 => ("LeftHandsModel", "bad", "Z", false)
  | 15 => ("LeftHandsModel", "nClauses", "I", false)
  | 16 => ("LeftHandsModel", "nClause", "[I", true)
  | 17 => ("LeftHandsModel", "nCode", "I", false)
  | 18 => ("LeftHandsModel", "nOp", "[I", true)
  | 19 => ("LeftHandsModel", "nArg", "[I", true)
  | 20 => ("LeftHandsModel", "nLeaves", "I", false)
  | 21 => ("LeftHandsModel", "pile", "[I", true)
  | 22 => ("LeftHandsModel", "pileAt", "[I", true)
  | 23 => ("LeftHandsModel", "piled", "I", false)
  | 24 => ("LeftHandsModel", "opened", "I", false)
  | 25 => ("LeftHandsModel", "words", "[J", true)
  | 26 => ("LeftHandsModel", "headWords", "[J", true)
  | 27 => ("LeftHandsModel", "law", "I", false)
  | 28 => ("LeftHandsModel", "set", "[J", true)
  | 29 => ("LeftHandsModel", "rest", "[J", true)
  | 30 => ("LeftHandsModel", "broken", "Z", false)
  | 31 => ("LeftHandsModel", "value", "J", false)
  | 32 => ("LeftHandsModel", "sum", "J", false)
  | 33 => ("LeftHandsModel", "strengths", "[I", true)
  | 34 => ("LeftHandsModel", "fees", "[I", true)
  | 35 => ("LeftHandsModel", "starts", "[I", true)
  | 36 => ("LeftHandsModel", "home", "I", false)
  | 37 => ("LeftHandsModel", "stands", "[I", true)
  | 38 => ("LeftHandsModel", "at", "[I", true)
  | 39 => ("LeftHandsModel", "waits", "[I", true)
  | 40 => ("LeftHandsModel", "waited", "[I", true)
  | 41 => ("LeftHandsModel", "came", "[I", true)
  | 42 => ("LeftHandsModel", "ranks", "[I", true)
  | 43 => ("LeftHandsModel", "gone", "[Z", true)
  | 44 => ("LeftHandsModel", "places", "[I", true)
  | 45 => ("LeftHandsModel", "swapWays", "I", false)
  | 46 => ("LeftHandsModel", "swapFirst", "I", false)
  | 47 => ("LeftHandsModel", "most", "I", false)
  | 48 => ("LeftHandsModel", "state", "J", false)
  | 49 => ("LeftHandsModel", "drawnCame", "[I", true)
  | 50 => ("LeftHandsModel", "drawnStart", "[I", true)
  | _ => ("LeftHandsModel", "drawnLoads", "I", false)
def tyX11 : Nat → FieldType := fun k => match k with
  | 0 => .int
  | 1 => .int
  | 2 => .array .int
  | 3 => .array .int
  | 4 => .array .int
  | 5 => .array .boolean
  | 6 => .int
  | 7 => .array .int
  | 8 => .int
  | 9 => .int
  | 10 => .int
  | 11 => .int
  | 12 => .long
  | 13 => .int
  | 14 => .boolean
  | 15 => .int
  | 16 => .array .int
  | 17 => .int
  | 18 => .array .int
  | 19 => .array .int
  | 20 => .int
  | 21 => .array .int
  | 22 => .array .int
  | 23 => .int
  | 24 => .int
  | 25 => .array .long
  | 26 => .array .long
  | 27 => .int
  | 28 => .array .long
  | 29 => .array .long
  | 30 => .boolean
  | 31 => .long
  | 32 => .long
  | 33 => .array .int
  | 34 => .array .int
  | 35 => .array .int
  | 36 => .int
  | 37 => .array .int
  | 38 => .array .int
  | 39 => .array .int
  | 40 => .array .int
  | 41 => .array .int
  | 42 => .array .int
  | 43 => .array .boolean
  | 44 => .array .int
  | 45 => .int
  | 46 => .int
  | 47 => .int
  | 48 => .long
  | 49 => .array .int
  | 50 => .array .int
  | _ => .int
theorem nmX11 : ∀ a, a < 52 → ∀ b, b < 52 → a ≠ b → (TX11 a).2.1 ≠ (TX11 b).2.1 := by decide +kernel
theorem tyX11_ok : ∀ k, k < 52 → parseFieldDescriptor (TX11 k).2.2.1 = some (tyX11 k) := by decide +kernel
abbrev cX11_init : ByteArray := prog_13_method_1_code
def yX11_init : MethodName := ⟨RX11, "<init>", "()V"⟩
abbrev cX11_in : ByteArray := prog_13_method_3_code
def yX11_in : MethodName := ⟨RX11, "in", "(JJJ)Z"⟩
abbrev cX11_is : ByteArray := prog_13_method_4_code
def yX11_is : MethodName := ⟨RX11, "is", "(II)Z"⟩
abbrev cX11_bits : ByteArray := prog_13_method_5_code
def yX11_bits : MethodName := ⟨RX11, "bits", "(I)I"⟩
abbrev cX11_tell : ByteArray := prog_13_method_6_code
def yX11_tell : MethodName := ⟨RX11, "tell", "(I)I"⟩
abbrev cX11_was : ByteArray := prog_13_method_7_code
def yX11_was : MethodName := ⟨RX11, "was", "(I)I"⟩
abbrev cX11_change : ByteArray := prog_13_method_8_code
def yX11_change : MethodName := ⟨RX11, "change", "(II)I"⟩
abbrev cX11_image : ByteArray := prog_13_method_9_code
def yX11_image : MethodName := ⟨RX11, "image", "(I)I"⟩
abbrev cX11_back : ByteArray := prog_13_method_10_code
def yX11_back : MethodName := ⟨RX11, "back", "(I)I"⟩
abbrev cX11_isStand : ByteArray := prog_13_method_11_code
def yX11_isStand : MethodName := ⟨RX11, "isStand", "(I)Z"⟩
abbrev cX11_isLoad : ByteArray := prog_13_method_12_code
def yX11_isLoad : MethodName := ⟨RX11, "isLoad", "(I)Z"⟩
abbrev cX11_ofStand : ByteArray := prog_13_method_13_code
def yX11_ofStand : MethodName := ⟨RX11, "ofStand", "(II)I"⟩
abbrev cX11_ofLoad : ByteArray := prog_13_method_14_code
def yX11_ofLoad : MethodName := ⟨RX11, "ofLoad", "(II)I"⟩
abbrev cX11_fits : ByteArray := prog_13_method_15_code
def yX11_fits : MethodName := ⟨RX11, "fits", "(II)Z"⟩
abbrev cX11_stand : ByteArray := prog_13_method_16_code
def yX11_stand : MethodName := ⟨RX11, "stand", "(III)I"⟩
abbrev cX11_put : ByteArray := prog_13_method_17_code
def yX11_put : MethodName := ⟨RX11, "put", "(III)I"⟩
abbrev cX11_nextOf : ByteArray := prog_13_method_18_code
def yX11_nextOf : MethodName := ⟨RX11, "nextOf", "(II)I"⟩
abbrev cX11_of : ByteArray := prog_13_method_19_code
def yX11_of : MethodName := ⟨RX11, "of", "(II)I"⟩
abbrev cX11_isLoadLike : ByteArray := prog_13_method_20_code
def yX11_isLoadLike : MethodName := ⟨RX11, "isLoadLike", "(IIII)Z"⟩
abbrev cX11_addLoad : ByteArray := prog_13_method_21_code
def yX11_addLoad : MethodName := ⟨RX11, "addLoad", "(IIIIII)V"⟩
abbrev cX11_load : ByteArray := prog_13_method_22_code
def yX11_load : MethodName := ⟨RX11, "load", "(IIIIII)I"⟩
abbrev cX11_fact : ByteArray := prog_13_method_23_code
def yX11_fact : MethodName := ⟨RX11, "fact", "(II)I"⟩
abbrev cX11_drop : ByteArray := prog_13_method_24_code
def yX11_drop : MethodName := ⟨RX11, "drop", "(I)I"⟩
abbrev cX11_terms : ByteArray := prog_13_method_25_code
def yX11_terms : MethodName := ⟨RX11, "terms", "(II)I"⟩
abbrev cX11_row : ByteArray := prog_13_method_26_code
def yX11_row : MethodName := ⟨RX11, "row", "()I"⟩
abbrev cX11_dropped : ByteArray := prog_13_method_27_code
def yX11_dropped : MethodName := ⟨RX11, "dropped", "()I"⟩
abbrev cX11_four : ByteArray := prog_13_method_28_code
def yX11_four : MethodName := ⟨RX11, "four", "(I)V"⟩
abbrev cX11_feed : ByteArray := prog_13_method_29_code
def yX11_feed : MethodName := ⟨RX11, "feed", "(IIIII)I"⟩
abbrev cX11_end : ByteArray := prog_13_method_30_code
def yX11_end : MethodName := ⟨RX11, "end", "(I)I"⟩
abbrev cX11_isSmall : ByteArray := prog_13_method_31_code
def yX11_isSmall : MethodName := ⟨RX11, "isSmall", "(I)Z"⟩
abbrev cX11_isDigit : ByteArray := prog_13_method_32_code
def yX11_isDigit : MethodName := ⟨RX11, "isDigit", "(I)Z"⟩
abbrev cX11_begin : ByteArray := prog_13_method_33_code
def yX11_begin : MethodName := ⟨RX11, "begin", "()V"⟩
abbrev cX11_next : ByteArray := prog_13_method_34_code
def yX11_next : MethodName := ⟨RX11, "next", "()V"⟩
abbrev cX11_isWord : ByteArray := prog_13_method_35_code
def yX11_isWord : MethodName := ⟨RX11, "isWord", "(J)Z"⟩
abbrev cX11_isSign : ByteArray := prog_13_method_36_code
def yX11_isSign : MethodName := ⟨RX11, "isSign", "(I)Z"⟩
abbrev cX11_must : ByteArray := prog_13_method_37_code
def yX11_must : MethodName := ⟨RX11, "must", "(Z)V"⟩
abbrev cX11_fault : ByteArray := prog_13_method_39_code
def yX11_fault : MethodName := ⟨RX11, "fault", "()I"⟩
abbrev cX11_emit : ByteArray := prog_13_method_40_code
def yX11_emit : MethodName := ⟨RX11, "emit", "(II)V"⟩
abbrev cX11_push : ByteArray := prog_13_method_41_code
def yX11_push : MethodName := ⟨RX11, "push", "(II)V"⟩
abbrev cX11_binds : ByteArray := prog_13_method_42_code
def yX11_binds : MethodName := ⟨RX11, "binds", "(I)I"⟩
abbrev cX11_settle : ByteArray := prog_13_method_43_code
def yX11_settle : MethodName := ⟨RX11, "settle", "(I)V"⟩
abbrev cX11_inner : ByteArray := prog_13_method_44_code
def yX11_inner : MethodName := ⟨RX11, "inner", "()I"⟩
abbrev cX11_isCompared : ByteArray := prog_13_method_45_code
def yX11_isCompared : MethodName := ⟨RX11, "isCompared", "()Z"⟩
abbrev cX11_partAt : ByteArray := prog_13_method_46_code
def yX11_partAt : MethodName := ⟨RX11, "partAt", "()I"⟩
abbrev cX11_openBracket : ByteArray := prog_13_method_47_code
def yX11_openBracket : MethodName := ⟨RX11, "openBracket", "(I)V"⟩
abbrev cX11_leaf : ByteArray := prog_13_method_48_code
def yX11_leaf : MethodName := ⟨RX11, "leaf", "(ZII)V"⟩
abbrev cX11_readPart : ByteArray := prog_13_method_49_code
def yX11_readPart : MethodName := ⟨RX11, "readPart", "()I"⟩
abbrev cX11_readPlain : ByteArray := prog_13_method_50_code
def yX11_readPlain : MethodName := ⟨RX11, "readPlain", "()I"⟩
abbrev cX11_behindSum : ByteArray := prog_13_method_51_code
def yX11_behindSum : MethodName := ⟨RX11, "behindSum", "(Z)I"⟩
abbrev cX11_behindTest : ByteArray := prog_13_method_52_code
def yX11_behindTest : MethodName := ⟨RX11, "behindTest", "()I"⟩
abbrev cX11_readExpression : ByteArray := prog_13_method_53_code
def yX11_readExpression : MethodName := ⟨RX11, "readExpression", "(Z)V"⟩
abbrev cX11_readClause : ByteArray := prog_13_method_54_code
def yX11_readClause : MethodName := ⟨RX11, "readClause", "()V"⟩
abbrev cX11_law : ByteArray := prog_13_method_55_code
def yX11_law : MethodName := ⟨RX11, "law", "()I"⟩
abbrev cX11_force : ByteArray := prog_13_method_56_code
def yX11_force : MethodName := ⟨RX11, "force", "(I)I"⟩
abbrev cX11_reckon : ByteArray := prog_13_method_57_code
def yX11_reckon : MethodName := ⟨RX11, "reckon", "(IJJ)J"⟩
abbrev cX11_reckonAll : ByteArray := prog_13_method_58_code
def yX11_reckonAll : MethodName := ⟨RX11, "reckonAll", "(II)V"⟩
abbrev cX11_isSo : ByteArray := prog_13_method_59_code
def yX11_isSo : MethodName := ⟨RX11, "isSo", "(I)Z"⟩
abbrev cX11_asIs : ByteArray := prog_13_method_60_code
def yX11_asIs : MethodName := ⟨RX11, "asIs", "()V"⟩
abbrev cX11_tells : ByteArray := prog_13_method_61_code
def yX11_tells : MethodName := ⟨RX11, "tells", "(IIIIIJ)J"⟩
abbrev cX11_feeOf : ByteArray := prog_13_method_62_code
def yX11_feeOf : MethodName := ⟨RX11, "feeOf", "(II)I"⟩
abbrev cX11_isBarred : ByteArray := prog_13_method_63_code
def yX11_isBarred : MethodName := ⟨RX11, "isBarred", "(IIII)Z"⟩
abbrev cX11_findWay : ByteArray := prog_13_method_64_code
def yX11_findWay : MethodName := ⟨RX11, "findWay", "(I)I"⟩
abbrev cX11_way : ByteArray := prog_13_method_65_code
def yX11_way : MethodName := ⟨RX11, "way", "(II)I"⟩
abbrev cX11_areStands : ByteArray := prog_13_method_66_code
def yX11_areStands : MethodName := ⟨RX11, "areStands", "(I)Z"⟩
abbrev cX11_enter : ByteArray := prog_13_method_67_code
def yX11_enter : MethodName := ⟨RX11, "enter", "(II)I"⟩
abbrev cX11_takesPart : ByteArray := prog_13_method_68_code
def yX11_takesPart : MethodName := ⟨RX11, "takesPart", "(I)Z"⟩
abbrev cX11_canHold : ByteArray := prog_13_method_69_code
def yX11_canHold : MethodName := ⟨RX11, "canHold", "(II)Z"⟩
abbrev cX11_run : ByteArray := prog_13_method_70_code
def yX11_run : MethodName := ⟨RX11, "run", "()V"⟩
abbrev cX11_first : ByteArray := prog_13_method_71_code
def yX11_first : MethodName := ⟨RX11, "first", "()I"⟩
abbrev cX11_bring : ByteArray := prog_13_method_72_code
def yX11_bring : MethodName := ⟨RX11, "bring", "(I)V"⟩
abbrev cX11_goOn : ByteArray := prog_13_method_73_code
def yX11_goOn : MethodName := ⟨RX11, "goOn", "(II)V"⟩
abbrev cX11_runDay : ByteArray := prog_13_method_74_code
def yX11_runDay : MethodName := ⟨RX11, "runDay", "()V"⟩
abbrev cX11_day : ByteArray := prog_13_method_75_code
def yX11_day : MethodName := ⟨RX11, "day", "(II)I"⟩
abbrev cX11_isMinute : ByteArray := prog_13_method_76_code
def yX11_isMinute : MethodName := ⟨RX11, "isMinute", "(I)Z"⟩
abbrev cX11_where : ByteArray := prog_13_method_77_code
def yX11_where : MethodName := ⟨RX11, "where", "(II)I"⟩
abbrev cX11_held : ByteArray := prog_13_method_78_code
def yX11_held : MethodName := ⟨RX11, "held", "(III)I"⟩
abbrev cX11_isStuck : ByteArray := prog_13_method_79_code
def yX11_isStuck : MethodName := ⟨RX11, "isStuck", "(I)Z"⟩
abbrev cX11_choke : ByteArray := prog_13_method_80_code
def yX11_choke : MethodName := ⟨RX11, "choke", "()I"⟩
abbrev cX11_swapAt : ByteArray := prog_13_method_81_code
def yX11_swapAt : MethodName := ⟨RX11, "swapAt", "(II)V"⟩
abbrev cX11_allCome : ByteArray := prog_13_method_82_code
def yX11_allCome : MethodName := ⟨RX11, "allCome", "(II)Z"⟩
abbrev cX11_findSwaps : ByteArray := prog_13_method_83_code
def yX11_findSwaps : MethodName := ⟨RX11, "findSwaps", "(II)V"⟩
abbrev cX11_swaps : ByteArray := prog_13_method_84_code
def yX11_swaps : MethodName := ⟨RX11, "swaps", "(II)I"⟩
abbrev cX11_swap : ByteArray := prog_13_method_85_code
def yX11_swap : MethodName := ⟨RX11, "swap", "(II)I"⟩
abbrev cX11_nobodyOut : ByteArray := prog_13_method_86_code
def yX11_nobodyOut : MethodName := ⟨RX11, "nobodyOut", "()Z"⟩
abbrev cX11_home : ByteArray := prog_13_method_87_code
def yX11_home : MethodName := ⟨RX11, "home", "(I)I"⟩
abbrev cX11_costOf : ByteArray := prog_13_method_88_code
def yX11_costOf : MethodName := ⟨RX11, "costOf", "(I)I"⟩
abbrev cX11_cost : ByteArray := prog_13_method_89_code
def yX11_cost : MethodName := ⟨RX11, "cost", "(I)I"⟩
abbrev cX11_isSent : ByteArray := prog_13_method_90_code
def yX11_isSent : MethodName := ⟨RX11, "isSent", "(I)Z"⟩
abbrev cX11_sent : ByteArray := prog_13_method_91_code
def yX11_sent : MethodName := ⟨RX11, "sent", "(I)I"⟩
abbrev cX11_incomeOf : ByteArray := prog_13_method_92_code
def yX11_incomeOf : MethodName := ⟨RX11, "incomeOf", "(I)I"⟩
abbrev cX11_income : ByteArray := prog_13_method_93_code
def yX11_income : MethodName := ⟨RX11, "income", "(I)I"⟩
abbrev cX11_answerOf : ByteArray := prog_13_method_94_code
def yX11_answerOf : MethodName := ⟨RX11, "answerOf", "(I)I"⟩
abbrev cX11_answer : ByteArray := prog_13_method_95_code
def yX11_answer : MethodName := ⟨RX11, "answer", "(II)I"⟩
abbrev cX11_restless : ByteArray := prog_13_method_96_code
def yX11_restless : MethodName := ⟨RX11, "restless", "()I"⟩
abbrev cX11_rests : ByteArray := prog_13_method_97_code
def yX11_rests : MethodName := ⟨RX11, "rests", "(I)I"⟩
abbrev cX11_pieces : ByteArray := prog_13_method_98_code
def yX11_pieces : MethodName := ⟨RX11, "pieces", "(I)I"⟩
abbrev cX11_sign : ByteArray := prog_13_method_99_code
def yX11_sign : MethodName := ⟨RX11, "sign", "(II)I"⟩
abbrev cX11_clear : ByteArray := prog_13_method_100_code
def yX11_clear : MethodName := ⟨RX11, "clear", "()I"⟩
abbrev cX11_after : ByteArray := prog_13_method_101_code
def yX11_after : MethodName := ⟨RX11, "after", "(II)I"⟩
abbrev cX11_thieves : ByteArray := prog_13_method_102_code
def yX11_thieves : MethodName := ⟨RX11, "thieves", "()I"⟩
abbrev cX11_meet : ByteArray := prog_13_method_103_code
def yX11_meet : MethodName := ⟨RX11, "meet", "(III)I"⟩
abbrev cX11_draw3 : ByteArray := prog_13_method_104_code
def yX11_draw3 : MethodName := ⟨RX11, "draw3", "(I)I"⟩
abbrev cX11_byNoon : ByteArray := prog_13_method_105_code
def yX11_byNoon : MethodName := ⟨RX11, "byNoon", "()I"⟩
abbrev cX11_draw : ByteArray := prog_13_method_106_code
def yX11_draw : MethodName := ⟨RX11, "draw", "(I)I"⟩
abbrev cX11_drawn : ByteArray := prog_13_method_107_code
def yX11_drawn : MethodName := ⟨RX11, "drawn", "(II)I"⟩
abbrev cX11_count : ByteArray := prog_13_method_108_code
def yX11_count : MethodName := ⟨RX11, "count", "(I)I"⟩
abbrev cX11_status : ByteArray := prog_13_method_109_code
def yX11_status : MethodName := ⟨RX11, "status", "()I"⟩
def RJ6 : String := "java/lang/Integer"
abbrev cJ6_bitCount_0f7a4 : ByteArray := prog_14_method_49_code
def yJ6_bitCount_0f7a4 : MethodName := ⟨RJ6, "bitCount", "(I)I"⟩
def RJ9 : String := "java/lang/Math"
abbrev cJ9_max_7cf53 : ByteArray := prog_15_method_65_code
def yJ9_max_7cf53 : MethodName := ⟨RJ9, "max", "(II)I"⟩
abbrev cJ9_max_f86c9 : ByteArray := prog_15_method_66_code
def yJ9_max_f86c9 : MethodName := ⟨RJ9, "max", "(JJ)J"⟩
abbrev cJ9_min_7cf53 : ByteArray := prog_15_method_69_code
def yJ9_min_7cf53 : MethodName := ⟨RJ9, "min", "(II)I"⟩
abbrev cJ9_min_f86c9 : ByteArray := prog_15_method_70_code
def yJ9_min_f86c9 : MethodName := ⟨RJ9, "min", "(JJ)J"⟩
def RJ0 : String := "java/lang/String"
abbrev cJ0_length_8abf5 : ByteArray := prog_16_method_54_code
def yJ0_length_8abf5 : MethodName := ⟨RJ0, "length", "()I"⟩
abbrev cJ0_charAt_5068e : ByteArray := prog_16_method_56_code
def yJ0_charAt_5068e : MethodName := ⟨RJ0, "charAt", "(I)C"⟩
abbrev cJ0_coder_7d493 : ByteArray := prog_16_method_152_code
def yJ0_coder_7d493 : MethodName := ⟨RJ0, "coder", "()B"⟩
abbrev cJ0_isLatin1_aae02 : ByteArray := prog_16_method_154_code
def yJ0_isLatin1_aae02 : MethodName := ⟨RJ0, "isLatin1", "()Z"⟩
abbrev cJ0_checkIndex_df160 : ByteArray := prog_16_method_155_code
def yJ0_checkIndex_df160 : MethodName := ⟨RJ0, "checkIndex", "(II)V"⟩
def RJ1 : String := "java/lang/StringLatin1"
abbrev cJ1_charAt_3b067 : ByteArray := prog_17_method_2_code
def yJ1_charAt_3b067 : MethodName := ⟨RJ1, "charAt", "([BI)C"⟩
def RJ2 : String := "java/lang/StringUTF16"
abbrev cJ2_getChar_3b067 : ByteArray := prog_18_method_5_code
def yJ2_getChar_3b067 : MethodName := ⟨RJ2, "getChar", "([BI)C"⟩
abbrev cJ2_length_9d52b : ByteArray := prog_18_method_6_code
def yJ2_length_9d52b : MethodName := ⟨RJ2, "length", "([B)I"⟩
abbrev cJ2_charAt_3b067 : ByteArray := prog_18_method_83_code
def yJ2_charAt_3b067 : MethodName := ⟨RJ2, "charAt", "([BI)C"⟩
abbrev cJ2_checkIndex_2214a : ByteArray := prog_18_method_91_code
def yJ2_checkIndex_2214a : MethodName := ⟨RJ2, "checkIndex", "(I[B)V"⟩
def RJ10 : String := "java/lang/System"
def RJ7 : String := "java/util/Arrays"
abbrev cJ7_fill_53178 : ByteArray := prog_20_method_103_code
def yJ7_fill_53178 : MethodName := ⟨RJ7, "fill", "([II)V"⟩
def RJ3 : String := "jdk/internal/util/Preconditions"
abbrev cJ3_checkIndex_8e157 : ByteArray := prog_21_method_11_code
def yJ3_checkIndex_8e157 : MethodName := ⟨RJ3, "checkIndex", "(IILjava/util/function/BiFunction;)I"⟩
abbrev cL_law : ByteArray := code
abbrev vwCl : List vw_C := [(RX0, TX0, 15), (RX1, TX1, 19), (RX2, TX2, 13), (RX3, TX3, 4), (RX4, TX4, 9), (RX5, TX5, 7), (RX6, TX6, 6), (RX7, TX7, 6), (RX8, TX8, 2), (RX9, TX9, 1), (RX10, TX10, 18), (RX11, TX11, 52)]
abbrev en_cl : List vw_C := vwCl
def en_tyf (a : Nat) : Nat → FieldType := match a with
  | 0 => tyX0
  | 1 => tyX1
  | 2 => tyX2
  | 3 => tyX3
  | 4 => tyX4
  | 5 => tyX5
  | 6 => tyX6
  | 7 => tyX7
  | 8 => tyX8
  | 9 => tyX9
  | 10 => tyX10
  | _ => tyX11
def en_dflt (a : Nat) : List Value := match a with
  | 0 => [.int 0, .null, .null, .null, .int 0, .null, .int 0, .null, .null, .int 0, .int 0, .int 0, .int 0, .null, .null]
  | 1 => [.null, .null, .null, .null, .null, .null, .null, .null, .null, .null, .null, .null, .null, .null, .null, .null, .int 0, .null, .int 0]
  | 2 => [.null, .null, .null, .null, .null, .int 0, .int 0, .int 0, .int 0, .int 0, .int 0, .int 0, .null]
  | 3 => [.null, .null, .null, .int 0]
  | 4 => [.int 0, .null, .null, .int 0, .int 0, .null, .null, .null, .null]
  | 5 => [.null, .null, .int 0, .int 0, .int 0, .int 0, .int 0]
  | 6 => [.null, .null, .int 0, .int 0, .int 0, .int 0]
  | 7 => [.null, .null, .int 0, .int 0, .int 0, .null]
  | 8 => [.null, .int 0]
  | 9 => [.null]
  | 10 => [.null, .null, .null, .null, .null, .null, .null, .null, .null, .null, .null, .null, .null, .null, .int 0, .int 0, .int 0, .int 0]
  | _ => [.int 0, .int 0, .null, .null, .null, .null, .int 0, .null, .int 0, .int 0, .int 0, .int 0, .long 0, .int 0, .int 0, .int 0, .null, .int 0, .null, .null, .int 0, .null, .null, .int 0, .int 0, .null, .null, .int 0, .null, .null, .int 0, .long 0, .long 0, .null, .null, .null, .int 0, .null, .null, .null, .null, .null, .null, .null, .null, .int 0, .int 0, .int 0, .long 0, .null, .null, .int 0]
def R_law0 : String := "LeftHandsLaw"
abbrev en_I0 : Type := MethodName × ByteArray × Nat × Option FieldType × Nat × Nat
def en_IS_0 : List en_I0 := [(⟨R_law0, "law", "([I)Z"⟩, cL_law, 4, some .boolean, 100, 1), (yX0_init, cX0_init, 2, none, 0, 0), (yX0_become, cX0_become, 3, none, 0, 0), (yX0_hasStand, cX0_hasStand, 2, some .boolean, 0, 0), (yX0_hasLoad, cX0_hasLoad, 2, some .boolean, 0, 0), (yX0_addStand, cX0_addStand, 4, some .int, 0, 0), (yX0_addLoad, cX0_addLoad, 8, some .int, 0, 0), (yX0_removeLoad, cX0_removeLoad, 3, none, 0, 0), (yX0_addLaw, cX0_addLaw, 2, some .int, 0, 0), (yX0_lawInForce, cX0_lawInForce, 1, some (.object "LeftHands$Law"), 0, 0), (yX0_lawAt, cX0_lawAt, 3, some (.object "LeftHands$Law"), 0, 0), (yX0_about, cX0_about, 3, some .int, 0, 0), (yX0_next, cX0_next, 2, some .int, 0, 0), (yX0_nextPast, cX0_nextPast, 5, some .int, 0, 0), (yX0_handsOf, cX0_handsOf, 5, some .int, 0, 0), (yX1_init, cX1_init, 3, none, 1, 0), (yX1_layOut, cX1_layOut, 3, none, 1, 0), (yX1_handsToWant, cX1_handsToWant, 5, some .int, 1, 0), (yX1_runWhole, cX1_runWhole, 2, none, 1, 0), (yX1_comesBy, cX1_comesBy, 8, some .boolean, 1, 0), (yX1_lastStart, cX1_lastStart, 3, some .int, 1, 0), (yX1_canComeBy, cX1_canComeBy, 4, some .boolean, 1, 0), (yX1_isCarried, cX1_isCarried, 5, some .boolean, 1, 0), (yX1_begin, cX1_begin, 1, none, 1, 0), (yX1_arrive, cX1_arrive, 3, none, 1, 0), (yX1_admit, cX1_admit, 4, none, 1, 0), (yX1_canHold, cX1_canHold, 3, some .boolean, 1, 0), (yX1_take, cX1_take, 3, none, 1, 0), (yX1_giveUp, cX1_giveUp, 3, none, 1, 0), (yX1_lineUp, cX1_lineUp, 6, none, 1, 0), (yX1_goOn, cX1_goOn, 9, none, 1, 0), (yX1_placeBehind, cX1_placeBehind, 3, some .int, 1, 0), (yX1_comeByNoon, cX1_comeByNoon, 3, some .int, 1, 0), (yX1_failures, cX1_failures, 3, some .int, 1, 0), (yX1_chokingRound, cX1_chokingRound, 4, some .int, 1, 0), (yX1_isStuck, cX1_isStuck, 5, some .boolean, 1, 0), (yX1_roundOf, cX1_roundOf, 6, some .int, 1, 0), (yX2_init, cX2_init, 3, none, 2, 0), (yX2_forget, cX2_forget, 1, none, 2, 0), (yX2_costOf, cX2_costOf, 2, some .int, 2, 0)]
def en_IS_1 : List en_I0 := [(yX2_incomeOf, cX2_incomeOf, 2, some .int, 2, 0), (yX2_answerOf, cX2_answerOf, 3, some .int, 2, 0), (yX2_firstRestless, cX2_firstRestless, 2, some .int, 2, 0), (yX2_settle, cX2_settle, 3, none, 2, 0), (yX2_settled, cX2_settled, 2, some .int, 2, 0), (yX2_begin, cX2_begin, 1, none, 2, 0), (yX2_seekAnswer, cX2_seekAnswer, 4, none, 2, 0), (yX2_incomeBy, cX2_incomeBy, 6, some .int, 2, 0), (yX2_costBeside, cX2_costBeside, 8, some .int, 2, 0), (yX2_gets, cX2_gets, 7, some .int, 2, 0), (yX3_init, cX3_init, 2, none, 3, 0), (yX3_nameOf, cX3_nameOf, 1, some (.object "java/lang/String"), 3, 1), (yX3_tells, cX3_tells, 13, some .long, 3, 0), (yX3_worth, cX3_worth, 10, some .long, 3, 0), (yX3_joined, cX3_joined, 8, some .long, 3, 0), (yX4_init, cX4_init, 1, none, 4, 0), (yX4_become, cX4_become, 2, none, 4, 0), (yX4_wipe, cX4_wipe, 1, none, 4, 0), (yX4_speaksOf, cX4_speaksOf, 2, some .boolean, 4, 0), (yX4_asksOfTime, cX4_asksOfTime, 2, some .boolean, 4, 0), (yX4_add, cX4_add, 3, some .int, 4, 0), (yX4_aimAtEnd, cX4_aimAtEnd, 2, none, 4, 0), (yX5_init, cX5_init, 2, none, 5, 0), (yX5_read, cX5_read, 2, some .boolean, 5, 0), (yX5_readClause, cX5_readClause, 3, none, 5, 0), (yX5_readJoined, cX5_readJoined, 6, none, 5, 0), (yX5_joinHere, cX5_joinHere, 2, some .int, 5, 0), (yX5_readPlain, cX5_readPlain, 4, none, 5, 0), (yX5_comparisonHere, cX5_comparisonHere, 1, some .int, 5, 0), (yX5_readPart, cX5_readPart, 4, none, 5, 0), (yX5_open, cX5_open, 2, none, 5, 0), (yX5_expect, cX5_expect, 2, none, 5, 0), (yX5_fail, cX5_fail, 1, none, 5, 0), (yX5_step, cX5_step, 2, none, 5, 0), (yX5_kindOf, cX5_kindOf, 1, some .int, 5, 1), (yX5_isSingle, cX5_isSingle, 2, some .boolean, 5, 0), (yX5_isWord, cX5_isWord, 3, some .boolean, 5, 0), (yX5_numberHere, cX5_numberHere, 3, some .int, 5, 0), (yX5_wordHere, cX5_wordHere, 2, some .int, 5, 0), (yX6_init, cX6_init, 3, none, 6, 0)]
def en_IS_2 : List en_I0 := [(yX6_forget, cX6_forget, 1, none, 6, 0), (yX6_told, cX6_told, 2, some .int, 6, 0), (yX6_search, cX6_search, 5, none, 6, 0), (yX7_init, cX7_init, 3, none, 7, 0), (yX7_forget, cX7_forget, 1, none, 7, 0), (yX7_told, cX7_told, 3, some .int, 7, 0), (yX7_tryNone, cX7_tryNone, 1, none, 7, 0), (yX7_tryOne, cX7_tryOne, 3, none, 7, 0), (yX7_tryTwo, cX7_tryTwo, 6, none, 7, 0), (yX7_rowsLike, cX7_rowsLike, 4, some .int, 7, 1), (yX7_change, cX7_change, 3, none, 7, 0), (yX7_found, cX7_found, 6, none, 7, 0), (yX8_init, cX8_init, 1, none, 8, 0), (yX8_append, cX8_append, 3, none, 8, 0), (yX8_at, cX8_at, 2, some .int, 8, 0), (yX9_init, cX9_init, 2, none, 9, 0), (yX9_standOf, cX9_standOf, 3, some .int, 9, 0), (yX9_comersTo, cX9_comersTo, 7, some .int, 9, 0), (yX9_suspects, cX9_suspects, 3, some .int, 9, 0), (yX9_fitsSigns, cX9_fitsSigns, 3, some .boolean, 9, 0), (yX9_meeting, cX9_meeting, 7, some .int, 9, 0), (yX9_minutesInPieces, cX9_minutesInPieces, 6, some .int, 9, 0), (yX9_standAfter, cX9_standAfter, 5, some .int, 9, 0), (yX10_init, cX10_init, 2, none, 10, 0), (yX10_stand, cX10_stand, 4, some .int, 10, 0), (yX10_put, cX10_put, 7, some .int, 10, 0), (yX10_of, cX10_of, 3, some .int, 10, 0), (yX10_load, cX10_load, 8, some .int, 10, 0), (yX10_fact, cX10_fact, 3, some .int, 10, 0), (yX10_drop, cX10_drop, 2, some .int, 10, 0), (yX10_terms, cX10_terms, 4, some .int, 10, 0), (yX10_feed, cX10_feed, 6, some .int, 10, 0), (yX10_end, cX10_end, 2, some .int, 10, 0), (yX10_row, cX10_row, 5, some .int, 10, 0), (yX10_dropped, cX10_dropped, 1, some .int, 10, 0), (yX10_law, cX10_law, 2, some .int, 10, 0), (yX10_fault, cX10_fault, 1, some .int, 10, 0), (yX10_force, cX10_force, 3, some .int, 10, 0), (yX10_way, cX10_way, 3, some .int, 10, 0), (yX10_enter, cX10_enter, 3, some .int, 10, 0)]
def en_IS_3 : List en_I0 := [(yX10_day, cX10_day, 5, some .int, 10, 0), (yX10_where, cX10_where, 3, some .int, 10, 0), (yX10_held, cX10_held, 7, some .int, 10, 0), (yX10_choke, cX10_choke, 1, some .int, 10, 0), (yX10_swaps, cX10_swaps, 3, some .int, 10, 0), (yX10_swap, cX10_swap, 3, some .int, 10, 0), (yX10_home, cX10_home, 2, some .int, 10, 0), (yX10_cost, cX10_cost, 2, some .int, 10, 0), (yX10_sent, cX10_sent, 3, some .int, 10, 0), (yX10_income, cX10_income, 2, some .int, 10, 0), (yX10_answer, cX10_answer, 3, some .int, 10, 0), (yX10_restless, cX10_restless, 1, some .int, 10, 0), (yX10_rests, cX10_rests, 2, some .int, 10, 0), (yX10_pieces, cX10_pieces, 2, some .int, 10, 0), (yX10_sign, cX10_sign, 3, some .int, 10, 0), (yX10_clear, cX10_clear, 2, some .int, 10, 0), (yX10_thieves, cX10_thieves, 1, some .int, 10, 0), (yX10_meet, cX10_meet, 4, some .int, 10, 0), (yX10_draw, cX10_draw, 4, some .int, 10, 0), (yX10_drawn, cX10_drawn, 3, some .int, 10, 0), (yX10_image, cX10_image, 3, some .int, 10, 0), (yX10_back, cX10_back, 3, some .int, 10, 0), (yX10_count, cX10_count, 2, some .int, 10, 0), (yX10_status, cX10_status, 1, some .int, 10, 0), (yX10_refused, cX10_refused, 2, some .int, 10, 0), (yX10_accepted, cX10_accepted, 2, some .int, 10, 0), (yX10_changed, cX10_changed, 1, none, 10, 0), (yX10_dayNow, cX10_dayNow, 1, some (.object "LeftHands$Day"), 10, 0), (yX10_imageOf, cX10_imageOf, 2, some (.object "LeftHands$Bazaar"), 10, 0), (yX10_whyNoLoad, cX10_whyNoLoad, 7, some .int, 10, 0), (yX10_addFromTape, cX10_addFromTape, 8, some .boolean, 10, 0), (yX10_drawAfter, cX10_drawAfter, 1, some .int, 10, 1), (yX10_isStrength, cX10_isStrength, 1, some .boolean, 10, 1), (yX10_isFee, cX10_isFee, 1, some .boolean, 10, 1), (yX10_within, cX10_within, 3, some .boolean, 10, 1), (yX10_hasBit, cX10_hasBit, 2, some .boolean, 10, 1), (yX10_areBits, cX10_areBits, 2, some .boolean, 10, 1), (yX10_exchange, cX10_exchange, 4, none, 10, 1), (yX11_init, cX11_init, 1, none, 11, 0), (yX11_in, cX11_in, 6, some .boolean, 11, 1)]
def en_IS_4 : List en_I0 := [(yX11_is, cX11_is, 2, some .boolean, 11, 1), (yX11_bits, cX11_bits, 3, some .int, 11, 1), (yX11_tell, cX11_tell, 2, some .int, 11, 0), (yX11_was, cX11_was, 2, some .int, 11, 0), (yX11_change, cX11_change, 4, some .int, 11, 0), (yX11_image, cX11_image, 3, some .int, 11, 0), (yX11_back, cX11_back, 3, some .int, 11, 0), (yX11_isStand, cX11_isStand, 2, some .boolean, 11, 0), (yX11_isLoad, cX11_isLoad, 2, some .boolean, 11, 0), (yX11_ofStand, cX11_ofStand, 3, some .int, 11, 0), (yX11_ofLoad, cX11_ofLoad, 3, some .int, 11, 0), (yX11_fits, cX11_fits, 2, some .boolean, 11, 1), (yX11_stand, cX11_stand, 5, some .int, 11, 0), (yX11_put, cX11_put, 4, some .int, 11, 0), (yX11_nextOf, cX11_nextOf, 5, some .int, 11, 0), (yX11_of, cX11_of, 3, some .int, 11, 0), (yX11_isLoadLike, cX11_isLoadLike, 4, some .boolean, 11, 1), (yX11_addLoad, cX11_addLoad, 8, none, 11, 0), (yX11_load, cX11_load, 7, some .int, 11, 0), (yX11_fact, cX11_fact, 3, some .int, 11, 0), (yX11_drop, cX11_drop, 3, some .int, 11, 0), (yX11_terms, cX11_terms, 4, some .int, 11, 0), (yX11_row, cX11_row, 5, some .int, 11, 0), (yX11_dropped, cX11_dropped, 1, some .int, 11, 0), (yX11_four, cX11_four, 3, none, 11, 0), (yX11_feed, cX11_feed, 6, some .int, 11, 0), (yX11_end, cX11_end, 2, some .int, 11, 0), (yX11_isSmall, cX11_isSmall, 1, some .boolean, 11, 1), (yX11_isDigit, cX11_isDigit, 1, some .boolean, 11, 1), (yX11_begin, cX11_begin, 1, none, 11, 0), (yX11_next, cX11_next, 1, none, 11, 0), (yX11_isWord, cX11_isWord, 3, some .boolean, 11, 0), (yX11_isSign, cX11_isSign, 2, some .boolean, 11, 0), (yX11_must, cX11_must, 2, none, 11, 0), (yX11_fault, cX11_fault, 1, some .int, 11, 0), (yX11_emit, cX11_emit, 3, none, 11, 0), (yX11_push, cX11_push, 3, none, 11, 0), (yX11_binds, cX11_binds, 1, some .int, 11, 1), (yX11_settle, cX11_settle, 2, none, 11, 0), (yX11_inner, cX11_inner, 3, some .int, 11, 0)]
def en_IS_5 : List en_I0 := [(yX11_isCompared, cX11_isCompared, 2, some .boolean, 11, 0), (yX11_partAt, cX11_partAt, 3, some .int, 11, 0), (yX11_openBracket, cX11_openBracket, 2, none, 11, 0), (yX11_leaf, cX11_leaf, 4, none, 11, 0), (yX11_readPart, cX11_readPart, 3, some .int, 11, 0), (yX11_readPlain, cX11_readPlain, 1, some .int, 11, 0), (yX11_behindSum, cX11_behindSum, 4, some .int, 11, 0), (yX11_behindTest, cX11_behindTest, 2, some .int, 11, 0), (yX11_readExpression, cX11_readExpression, 3, none, 11, 0), (yX11_readClause, cX11_readClause, 4, none, 11, 0), (yX11_law, cX11_law, 3, some .int, 11, 0), (yX11_force, cX11_force, 2, some .int, 11, 0), (yX11_reckon, cX11_reckon, 6, some .long, 11, 0), (yX11_reckonAll, cX11_reckonAll, 7, none, 11, 0), (yX11_isSo, cX11_isSo, 2, some .boolean, 11, 0), (yX11_asIs, cX11_asIs, 2, none, 11, 0), (yX11_tells, cX11_tells, 13, some .long, 11, 0), (yX11_feeOf, cX11_feeOf, 5, some .int, 11, 0), (yX11_isBarred, cX11_isBarred, 5, some .boolean, 11, 0), (yX11_findWay, cX11_findWay, 4, some .int, 11, 0), (yX11_way, cX11_way, 4, some .int, 11, 0), (yX11_areStands, cX11_areStands, 2, some .boolean, 11, 0), (yX11_enter, cX11_enter, 7, some .int, 11, 0), (yX11_takesPart, cX11_takesPart, 2, some .boolean, 11, 0), (yX11_canHold, cX11_canHold, 6, some .boolean, 11, 0), (yX11_run, cX11_run, 4, none, 11, 0), (yX11_first, cX11_first, 3, some .int, 11, 0), (yX11_bring, cX11_bring, 5, none, 11, 0), (yX11_goOn, cX11_goOn, 4, none, 11, 0), (yX11_runDay, cX11_runDay, 1, none, 11, 0), (yX11_day, cX11_day, 5, some .int, 11, 0), (yX11_isMinute, cX11_isMinute, 1, some .boolean, 11, 1), (yX11_where, cX11_where, 3, some .int, 11, 0), (yX11_held, cX11_held, 6, some .int, 11, 0), (yX11_isStuck, cX11_isStuck, 5, some .boolean, 11, 0), (yX11_choke, cX11_choke, 5, some .int, 11, 0), (yX11_swapAt, cX11_swapAt, 5, none, 11, 0), (yX11_allCome, cX11_allCome, 5, some .boolean, 11, 0), (yX11_findSwaps, cX11_findSwaps, 10, none, 11, 0), (yX11_swaps, cX11_swaps, 6, some .int, 11, 0)]
def en_IS_6 : List en_I0 := [(yX11_swap, cX11_swap, 5, some .int, 11, 0), (yX11_nobodyOut, cX11_nobodyOut, 3, some .boolean, 11, 0), (yX11_home, cX11_home, 6, some .int, 11, 0), (yX11_costOf, cX11_costOf, 5, some .int, 11, 0), (yX11_cost, cX11_cost, 2, some .int, 11, 0), (yX11_isSent, cX11_isSent, 3, some .boolean, 11, 0), (yX11_sent, cX11_sent, 2, some .int, 11, 0), (yX11_incomeOf, cX11_incomeOf, 6, some .int, 11, 0), (yX11_income, cX11_income, 2, some .int, 11, 0), (yX11_answerOf, cX11_answerOf, 6, some .int, 11, 0), (yX11_answer, cX11_answer, 4, some .int, 11, 0), (yX11_restless, cX11_restless, 4, some .int, 11, 0), (yX11_rests, cX11_rests, 7, some .int, 11, 0), (yX11_pieces, cX11_pieces, 5, some .int, 11, 0), (yX11_sign, cX11_sign, 4, some .int, 11, 0), (yX11_clear, cX11_clear, 2, some .int, 11, 0), (yX11_after, cX11_after, 5, some .int, 11, 0), (yX11_thieves, cX11_thieves, 5, some .int, 11, 0), (yX11_meet, cX11_meet, 6, some .int, 11, 0), (yX11_draw3, cX11_draw3, 2, some .int, 11, 0), (yX11_byNoon, cX11_byNoon, 3, some .int, 11, 0), (yX11_draw, cX11_draw, 3, some .int, 11, 0), (yX11_drawn, cX11_drawn, 3, some .int, 11, 0), (yX11_count, cX11_count, 4, some .int, 11, 0), (yX11_status, cX11_status, 1, some .int, 11, 0), (yJ6_bitCount_0f7a4, cJ6_bitCount_0f7a4, 1, some .int, 100, 1), (yJ7_fill_53178, cJ7_fill_53178, 4, none, 100, 1)]
def en_IS : List en_I0 := en_IS_0 ++ (en_IS_1 ++ (en_IS_2 ++ (en_IS_3 ++ (en_IS_4 ++ (en_IS_5 ++ (en_IS_6))))))
def en_ps : List (Nat × Nat × Nat × Nat) := [(0, 0, 0, 0), (33, 32, 0, 2), (1155, 1153, 1262, 2), (511, 509, 618, 2), (540, 538, 647, 2), (499, 497, 606, 2), (532, 530, 639, 2), (552, 550, 659, 2), (740, 738, 847, 2), (853, 851, 960, 2), (744, 743, 19, 2), (544, 542, 651, 2), (519, 517, 626, 2), (811, 809, 918, 2), (766, 764, 873, 2), (245, 244, 0, 8), (806, 804, 913, 8), (817, 816, 22, 8), (822, 820, 929, 8), (937, 935, 1044, 8), (949, 948, 38, 8), (941, 940, 36, 8), (945, 944, 37, 8), (826, 825, 23, 8), (833, 832, 24, 8), (837, 836, 25, 8), (841, 840, 26, 8), (845, 844, 27, 8), (889, 888, 32, 8), (849, 848, 28, 8), (885, 884, 31, 8), (898, 896, 1005, 8), (1139, 1137, 1246, 8), (1167, 1165, 1274, 8), (910, 908, 1017, 8), (914, 913, 33, 8), (919, 918, 34, 8), (366, 365, 0, 11), (495, 493, 602, 11), (1009, 1007, 1116, 11), (1051, 1049, 1158, 11), (1067, 1065, 1174, 11), (1075, 1073, 1182, 11), (1083, 1081, 1190, 11), (1087, 1085, 1194, 11), (1013, 1012, 44, 11), (1055, 1054, 47, 11), (1059, 1058, 48, 11), (1021, 1020, 45, 11), (1028, 1027, 46, 11), (225, 224, 0, 7), (715, 714, 0, 7), (862, 860, 969, 7), (872, 871, 29, 7), (879, 878, 30, 7), (40, 39, 0, 3), (748, 746, 855, 3), (600, 598, 707, 3), (857, 855, 964, 3), (953, 951, 1060, 3), (700, 698, 807, 3), (729, 727, 836, 3), (183, 182, 0, 5), (596, 594, 703, 5), (612, 611, 6, 5), (675, 674, 9, 5), (733, 732, 18, 5), (679, 678, 10, 5), (696, 695, 14, 5), (704, 703, 15, 5), (688, 687, 12, 5), (692, 691, 13, 5), (671, 670, 8, 5), (604, 603, 5, 5), (608, 607, 0, 5), (684, 683, 11, 5), (617, 616, 7, 5), (708, 707, 16, 5), (712, 711, 17, 5), (341, 340, 0, 10), (491, 489, 598, 10), (988, 986, 1095, 10), (992, 991, 43, 10), (316, 315, 0, 9), (487, 485, 594, 9), (928, 926, 1035, 9), (933, 932, 35, 9), (961, 960, 40, 9), (972, 971, 42, 9), (975, 974, 0, 9), (965, 964, 41, 9), (957, 956, 39, 9), (167, 166, 0, 4), (568, 566, 675, 4), (584, 582, 691, 4), (215, 214, 0, 6), (772, 770, 879, 6), (791, 789, 898, 6), (1113, 1111, 1220, 6), (1117, 1116, 49, 6), (1125, 1123, 1232, 6), (1095, 1093, 1202, 6), (779, 778, 20, 6), (25, 24, 0, 1), (466, 464, 573, 1), (507, 505, 614, 1), (515, 513, 622, 1), (524, 522, 631, 1), (536, 534, 643, 1), (548, 546, 655, 1), (560, 558, 667, 1), (564, 562, 671, 1), (572, 570, 679, 1), (576, 574, 683, 1), (588, 586, 695, 1), (592, 590, 699, 1), (754, 752, 861, 1), (758, 756, 865, 1), (762, 760, 869, 1), (784, 782, 891, 1), (798, 796, 905, 1), (894, 892, 1001, 1), (902, 900, 1009, 1), (906, 904, 1013, 1), (924, 922, 1031, 1), (979, 977, 1086, 1), (984, 982, 1091, 1), (1005, 1003, 1112, 1), (1043, 1041, 1150, 1), (1047, 1045, 1154, 1), (1063, 1061, 1170, 1), (1071, 1069, 1178, 1), (1079, 1077, 1186, 1), (1091, 1089, 1198, 1), (1101, 1099, 1208, 1), (1105, 1103, 1212, 1), (1109, 1107, 1216, 1), (1121, 1119, 1228, 1), (1129, 1127, 1236, 1), (1143, 1141, 1250, 1), (1147, 1145, 1254, 1), (1159, 1157, 1266, 1), (1163, 1161, 1270, 1), (1171, 1169, 1278, 1), (479, 478, 0, 1), (503, 502, 2, 1), (483, 482, 1, 1), (802, 801, 21, 1), (1151, 1150, 50, 1), (528, 527, 3, 1), (580, 579, 4, 1), (1133, 1132, 0, 1), (472, 471, 0, 1), (475, 474, 0, 1), (469, 468, 0, 1), (794, 793, 0, 1), (787, 786, 0, 1), (968, 967, 0, 1), (1176, 1175, 0, 12), (1353, 1352, 0, 12), (1404, 1403, 0, 12), (1690, 1689, 0, 12), (1357, 1356, 51, 12), (1388, 1387, 54, 12), (1384, 1383, 53, 12), (1350, 1348, 1457, 12), (1361, 1359, 1468, 12), (1380, 1379, 52, 12), (1424, 1423, 58, 12), (1401, 1400, 56, 12), (1429, 1428, 59, 12), (1368, 1367, 0, 12), (1365, 1363, 1472, 12), (1376, 1374, 1483, 12), (1397, 1396, 55, 12), (1392, 1390, 1499, 12), (1411, 1410, 0, 12), (1416, 1415, 57, 12), (1408, 1406, 1515, 12), (1420, 1418, 1527, 12), (1433, 1431, 1540, 12), (1437, 1435, 1544, 12), (1442, 1440, 1549, 12), (1446, 1444, 1553, 12), (1454, 1453, 60, 12), (1450, 1448, 1557, 12), (1458, 1456, 1565, 12), (1477, 1476, 0, 12), (1480, 1479, 0, 12), (1470, 1469, 61, 12), (1474, 1473, 62, 12), (1493, 1492, 64, 12), (1514, 1513, 69, 12), (1497, 1496, 65, 12), (1462, 1460, 1569, 12), (1535, 1534, 74, 12), (1510, 1509, 68, 12), (1542, 1541, 0, 12), (1546, 1545, 76, 12), (1550, 1549, 77, 12), (1554, 1553, 78, 12), (1526, 1525, 72, 12), (1518, 1517, 70, 12), (1531, 1530, 73, 12), (1522, 1521, 71, 12), (1505, 1504, 67, 12), (1539, 1538, 75, 12), (1562, 1561, 79, 12), (1501, 1500, 66, 12), (1489, 1488, 63, 12), (1466, 1464, 1573, 12), (1569, 1567, 1676, 12), (1629, 1628, 91, 12), (1625, 1624, 90, 12), (1621, 1620, 89, 12), (1597, 1596, 83, 12), (1617, 1616, 88, 12), (1706, 1705, 101, 12), (1643, 1642, 94, 12), (1577, 1576, 80, 12), (1573, 1571, 1680, 12), (1585, 1584, 81, 12), (1581, 1579, 1688, 12), (1609, 1608, 86, 12), (1613, 1612, 87, 12), (1601, 1600, 84, 12), (1635, 1634, 92, 12), (1605, 1604, 85, 12), (1639, 1638, 93, 12), (1593, 1592, 82, 12), (1589, 1587, 1696, 12), (1650, 1649, 0, 12), (1647, 1645, 1754, 12), (1654, 1652, 1761, 12), (1662, 1661, 95, 12), (1658, 1656, 1765, 12), (1674, 1673, 97, 12), (1678, 1677, 98, 12), (1670, 1669, 96, 12), (1666, 1664, 1773, 12), (1682, 1680, 1789, 12), (1694, 1693, 99, 12), (1686, 1684, 1793, 12), (1702, 1701, 100, 12), (1698, 1696, 1805, 12), (1715, 1714, 102, 12), (1711, 1709, 1818, 12), (1723, 1722, 103, 12), (1719, 1717, 1826, 12), (1731, 1730, 104, 12), (1727, 1725, 1834, 12), (1735, 1733, 1842, 12), (1739, 1737, 1846, 12), (1743, 1741, 1850, 12), (1747, 1745, 1854, 12), (1751, 1749, 1858, 12), (1759, 1758, 105, 12), (1755, 1753, 1862, 12), (1763, 1761, 1870, 12), (1771, 1770, 106, 12), (1778, 1777, 107, 12), (1767, 1765, 1874, 12), (1782, 1780, 1889, 12), (1786, 1784, 1893, 12), (1790, 1788, 1897, 12), (996, 995, 0, 20), (829, 828, 0, 18)]
def en_str : List (String × Nat × String) := [("LeftHands$LawReader", 51, "first"), ("LeftHands$LawReader", 57, "fee"), ("LeftHands$LawReader", 59, "bars"), ("LeftHands$LawReader", 111, "not"), ("LeftHands$Judge", 22, "load"), ("LeftHands$Judge", 24, "weight"), ("LeftHands$Judge", 26, "haste"), ("LeftHands$Judge", 28, "stand"), ("LeftHands$Judge", 30, "left"), ("LeftHands$Judge", 32, "minute"), ("LeftHands$Judge", 34, "waits"), ("LeftHands$Judge", 36, "strength"), ("LeftHands$Judge", 38, "asks"), ("LeftHands$Judge", 40, ""), ("LeftHands$LawReader", 107, "or"), ("LeftHands$LawReader", 109, "and"), ("LeftHands$LawReader", 84, "if")]
def en_nest : List (String × Nat × MethodName × String) := [("LeftHands$Bazaar", 30, ⟨"LeftHands$Law", "<init>", "()V"⟩, "LeftHands"), ("LeftHands", 26, ⟨"LeftHands$Tape", "<init>", "()V"⟩, "LeftHands"), ("LeftHands$LawReader", 11, ⟨"LeftHands$Law", "<init>", "()V"⟩, "LeftHands"), ("LeftHands$Ways", 21, ⟨"LeftHands", "within", "(III)Z"⟩, "LeftHands"), ("LeftHands$Ways", 36, ⟨"LeftHands", "hasBit", "(II)Z"⟩, "LeftHands"), ("LeftHands$Bazaar", 88, ⟨"LeftHands", "hasBit", "(II)Z"⟩, "LeftHands"), ("LeftHands$Law", 46, ⟨"LeftHands", "hasBit", "(II)Z"⟩, "LeftHands"), ("LeftHands$Day", 133, ⟨"LeftHands", "hasBit", "(II)Z"⟩, "LeftHands"), ("LeftHands$Swapper", 75, ⟨"LeftHands", "exchange", "([III)V"⟩, "LeftHands"), ("LeftHands$Fees", 122, ⟨"LeftHands", "isFee", "(I)Z"⟩, "LeftHands")]
-- places of the class words
def en_cps : List (Nat × Nat) := [(30, 2), (242, 8), (363, 11), (222, 7), (37, 3), (180, 5), (338, 10), (313, 9), (164, 4), (212, 6), (22, 1), (1173, 12)]
def en_lps : List (List Nat) := [[131, 133, 135, 137, 139, 141, 143, 145, 147, 149, 151, 153, 155, 157, 159], [273, 275, 277, 279, 281, 283, 285, 287, 289, 291, 293, 295, 297, 299, 301, 303, 305, 307, 309], [381, 383, 385, 387, 389, 391, 393, 395, 397, 399, 401, 403, 405], [231, 233, 235, 237], [65, 67, 69, 71, 73, 75, 77, 79, 81], [196, 198, 200, 202, 204, 206, 208], [349, 351, 353, 355, 357, 359], [324, 326, 328, 330, 332, 334], [173, 175], [218], [426, 428, 430, 432, 434, 436, 438, 440, 442, 444, 446, 448, 450, 452, 454, 456, 458, 460], [1242, 1244, 1246, 1248, 1250, 1252, 1254, 1256, 1258, 1260, 1262, 1264, 1266, 1268, 1270, 1272, 1274, 1276, 1278, 1280, 1282, 1284, 1286, 1288, 1290, 1292, 1294, 1296, 1298, 1300, 1302, 1304, 1306, 1308, 1310, 1312, 1314, 1316, 1318, 1320, 1322, 1324, 1326, 1328, 1330, 1332, 1334, 1336, 1338, 1340, 1342, 1344]]
def en_nps : List Nat := [38, 165, 186, 774, 792, 812, 858, 920, 966, 1030]
end
section
/-! ===== THE ENGINE: what a method does, as a function on lists. A cell's place k stands for the address B + k; .ref k is such a place, .float 0 the script, .float (k + 1) the text constant k ===== -/
abbrev en_A : Type := List Int32 ⊕ (List Int64 ⊕ List (Option Nat))
abbrev en_E : Type := (Nat × en_A) ⊕ (Nat × List Value)
abbrev en_H : Type := List en_E × Nat
abbrev en_L : Type := List (Nat × Value)
abbrev en_Op : Type := Instr × Nat × Nat × Nat × Nat
abbrev en_C : Type := Nat × en_L × List Value × en_H
abbrev en_X : Type := en_C ⊕ ((en_Op × en_C) ⊕ (Option Value × en_H))
abbrev en_Bs : Type := List (Nat × List en_Op)
/-- the kinds of arrays -/
def en_ty (t : Nat) : FieldType := match t with
  | 0 => .int
  | 1 => .long
  | 2 => .boolean
  | 3 => .object "LeftHands$Law"
  | _ => .object "LeftHands$Bazaar"
/-- the class whose objects an array of references holds -/
def en_acl (t : Nat) : Nat := match t with
  | 3 => 4
  | _ => 0
def en_get (i : Nat) : en_L → Option Value
  | [] => none
  | q :: r => bif Nat.beq q.1 i then some q.2 else en_get i r
def en_put1 (i : Nat) (v : Value) (l : en_L) : en_L := (i, v) :: l.filter (fun q => !(q.1 == i) && !(q.1 + 1 == i && q.2.category == 2))
def en_put2 (i : Nat) (v : Value) (l : en_L) : en_L := (i, v) :: l.filter (fun q => !(q.1 == i) && (!(q.1 == i + 1) && !(q.1 + 1 == i && q.2.category == 2)))
def en_cs (st : List Value) : Nat := (st.map fun v => v.category).sum
def en_fit (ty : FieldType) (v : Value) : Bool := match ty, v with
  | .int, .int _ => true
  | .long, .long _ => true
  | .boolean, .int x => decide (x = 0) || decide (x = 1)
  | .object _, .ref _ => true
  | .object _, .null => true
  | .array _, .ref _ => true
  | .array _, .null => true
  | _, _ => false
def en_cpy {α : Type} (f g : List α) (sp dp n : Nat) : List α := g.take dp ++ ((f.drop sp).take n ++ g.drop (dp + n))
def en_ldi (i : Nat) (l : en_L) (st : List Value) (h : en_H) : Option (en_L × List Value × en_H) := match en_get i l with
  | some (.int x) => some (l, .int x :: st, h)
  | _ => none
def en_ldl (i : Nat) (l : en_L) (st : List Value) (h : en_H) : Option (en_L × List Value × en_H) := match en_get i l with
  | some (.long x) => some (l, .long x :: st, h)
  | _ => none
def en_lda (i : Nat) (l : en_L) (st : List Value) (h : en_H) : Option (en_L × List Value × en_H) := match en_get i l with
  | some (.ref x) => some (l, .ref x :: st, h)
  | some (.float x) => some (l, .float x :: st, h)
  | some .null => some (l, .null :: st, h)
  | _ => none
def en_sti (i : Nat) (l : en_L) (st : List Value) (h : en_H) : Option (en_L × List Value × en_H) := match st with
  | .int x :: r => some (en_put1 i (.int x) l, r, h)
  | _ => none
def en_stl (i : Nat) (l : en_L) (st : List Value) (h : en_H) : Option (en_L × List Value × en_H) := match st with
  | .long x :: r => some (en_put2 i (.long x) l, r, h)
  | _ => none
def en_sta (i : Nat) (l : en_L) (st : List Value) (h : en_H) : Option (en_L × List Value × en_H) := match st with
  | .ref x :: r => some (en_put1 i (.ref x) l, r, h)
  | .null :: r => some (en_put1 i .null l, r, h)
  | _ => none
def en_i2 (f : Int32 → Int32 → Int32) (l : en_L) (st : List Value) (h : en_H) : Option (en_L × List Value × en_H) := match st with
  | .int y :: .int x :: r => some (l, .int (f x y) :: r, h)
  | _ => none
def en_i2d (f : Int32 → Int32 → Int32) (l : en_L) (st : List Value) (h : en_H) : Option (en_L × List Value × en_H) := match st with
  | .int y :: .int x :: r => if y = 0 then none else some (l, .int (f x y) :: r, h)
  | _ => none
def en_l2 (f : Int64 → Int64 → Int64) (l : en_L) (st : List Value) (h : en_H) : Option (en_L × List Value × en_H) := match st with
  | .long y :: .long x :: r => some (l, .long (f x y) :: r, h)
  | _ => none
def en_l2d (f : Int64 → Int64 → Int64) (l : en_L) (st : List Value) (h : en_H) : Option (en_L × List Value × en_H) := match st with
  | .long y :: .long x :: r => if y = 0 then none else some (l, .long (f x y) :: r, h)
  | _ => none
/-- getfield of field b of an object of class a -/
def en_gf (a b : Nat) (l : en_L) (st : List Value) (h : en_H) : Option (en_L × List Value × en_H) := match st with
  | .ref p :: r => match h.1[p]? with
    | some (.inr (ci, fs)) => if ci = a then match fs[b]? with
      | some v => some (l, v :: r, h)
      | none => none
      else none
    | _ => none
  | _ => none
def en_pf (a b : Nat) (ty : FieldType) (l : en_L) (st : List Value) (h : en_H) : Option (en_L × List Value × en_H) := match st with
  | v :: .ref p :: r => match h.1[p]? with
    | some (.inr (ci, fs)) => if ci = a ∧ b < fs.length ∧ en_fit ty v = true then some (l, r, (h.1.set p (.inr (ci, fs.set b v)), h.2)) else none
    | _ => none
  | _ => none
def en_ias (t : Nat) (xs : Option (List Int32)) (l : en_L) (st : List Value) (h : en_H) : Option (en_L × List Value × en_H) := match st with
  | .int i :: .ref p :: r => match h.1[p]? with
    | some (.inl (t', .inl ys)) => if t' = t ∧ ¬ i < 0 then match ys[i.toNatClampNeg]? with
      | some x => some (l, .int x :: r, h)
      | none => none
      else none
    | _ => none
  | .int i :: .float z :: r => match xs with
    | some ys => if t = 0 ∧ z = 0 ∧ ¬ i < 0 then match ys[i.toNatClampNeg]? with
      | some x => some (l, .int x :: r, h)
      | none => none
      else none
    | none => none
  | _ => none
def en_lal (l : en_L) (st : List Value) (h : en_H) : Option (en_L × List Value × en_H) := match st with
  | .int i :: .ref p :: r => match h.1[p]? with
    | some (.inl (t', .inr (.inl ys))) => if t' = 1 ∧ ¬ i < 0 then match ys[i.toNatClampNeg]? with
      | some x => some (l, .long x :: r, h)
      | none => none
      else none
    | _ => none
  | _ => none
def en_rf (r : Option Nat) : Value := match r with
  | none => .null
  | some a => .ref a
def en_aal (l : en_L) (st : List Value) (h : en_H) : Option (en_L × List Value × en_H) := match st with
  | .int i :: .ref p :: r => match h.1[p]? with
    | some (.inl (t', .inr (.inr ys))) => if (t' = 3 ∨ t' = 4) ∧ ¬ i < 0 then match ys[i.toNatClampNeg]? with
      | some x => some (l, en_rf x :: r, h)
      | none => none
      else none
    | _ => none
  | _ => none
def en_iast (t : Nat) (l : en_L) (st : List Value) (h : en_H) : Option (en_L × List Value × en_H) := match st with
  | .int x :: .int i :: .ref p :: r => match h.1[p]? with
    | some (.inl (t', .inl ys)) => if t' = t ∧ ¬ i < 0 ∧ i.toNatClampNeg < ys.length then some (l, r, (h.1.set p (.inl (t', .inl (ys.set i.toNatClampNeg (if t = 2 then x &&& 1 else x)))), h.2)) else none
    | _ => none
  | _ => none
def en_last (l : en_L) (st : List Value) (h : en_H) : Option (en_L × List Value × en_H) := match st with
  | .long x :: .int i :: .ref p :: r => match h.1[p]? with
    | some (.inl (t', .inr (.inl ys))) => if t' = 1 ∧ ¬ i < 0 ∧ i.toNatClampNeg < ys.length then some (l, r, (h.1.set p (.inl (t', .inr (.inl (ys.set i.toNatClampNeg x)))), h.2)) else none
    | _ => none
  | _ => none
def en_aast (l : en_L) (st : List Value) (h : en_H) : Option (en_L × List Value × en_H) := match st with
  | .ref v :: .int i :: .ref p :: r => match h.1[p]?, h.1[v]? with
    | some (.inl (t', .inr (.inr ys))), some (.inr (ci, _)) => if (t' = 3 ∨ t' = 4) ∧ ci = en_acl t' ∧ ¬ i < 0 ∧ i.toNatClampNeg < ys.length then some (l, r, (h.1.set p (.inl (t', .inr (.inr (ys.set i.toNatClampNeg (some v))))), h.2)) else none
    | _, _ => none
  | _ => none
def en_sz (x : en_A) : Nat := match x with
  | .inl ys => ys.length
  | .inr (.inl ys) => ys.length
  | .inr (.inr ys) => ys.length
def en_alen (xs : Option (List Int32)) (l : en_L) (st : List Value) (h : en_H) : Option (en_L × List Value × en_H) := match st with
  | .ref p :: r => match h.1[p]? with
    | some (.inl (t, x)) => if t < 5 then some (l, .int (Int32.ofNat (en_sz x)) :: r, h) else none
    | _ => none
  | .float z :: r => match xs with
    | some ys => if z = 0 then some (l, .int (Int32.ofNat ys.length) :: r, h) else none
    | none => none
  | _ => none
def en_newa (t : Nat) (x : Nat → en_A) (l : en_L) (st : List Value) (h : en_H) : Option (en_L × List Value × en_H) := match st with
  | .int n :: r => if ¬ n < 0 ∧ n.toNatClampNeg ≤ 100000 then some (l, .ref h.1.length :: r, (h.1 ++ [.inl (t, x n.toNatClampNeg)], h.2 + n.toNatClampNeg)) else none
  | _ => none
def en_acpy (l : en_L) (st : List Value) (h : en_H) : Option (en_L × List Value × en_H) := match st with
  | .int n :: .int dp :: .ref p1 :: .int sp :: .ref p0 :: r => match h.1[p0]?, h.1[p1]? with
    | some (.inl (t0, .inl f)), some (.inl (t1, .inl g)) => if (t0 = 0 ∧ t1 = 0 ∧ en_cs r ≤ 8) ∧ (¬ sp < 0 ∧ ¬ dp < 0 ∧ ¬ n < 0) ∧ sp.toNatClampNeg + n.toNatClampNeg ≤ f.length ∧ dp.toNatClampNeg + n.toNatClampNeg ≤ g.length then
        some (l, r, (h.1.set p1 (.inl (t1, .inl (en_cpy f g sp.toNatClampNeg dp.toNatClampNeg n.toNatClampNeg))), h.2)) else none
    | _, _ => none
  | _ => none
/-- what System, Math, Object do -/
def en_nat (a : Nat) (l : en_L) (st : List Value) (h : en_H) : Option (en_L × List Value × en_H) :=
  if a = 900 then match st with
    | .ref _ :: r => if en_cs r ≤ 8 then some (l, r, h) else none
    | _ => none
  else if a = 901 then en_acpy l st h
  else if a = 902 then match st with
    | .int y :: .int x :: r => if en_cs r ≤ 8 then some (l, .int (if x < y then y else x) :: r, h) else none
    | _ => none
  else if a = 903 then match st with
    | .int y :: .int x :: r => if en_cs r ≤ 8 then some (l, .int (if y < x then y else x) :: r, h) else none
    | _ => none
  else if a = 904 then match st with
    | .long y :: .long x :: r => if en_cs r ≤ 8 then some (l, .long (if y < x then x else y) :: r, h) else none
    | _ => none
  else if a = 905 then match st with
    | .long y :: .long x :: r => if en_cs r ≤ 8 then some (l, .long (if y < x then y else x) :: r, h) else none
    | _ => none
  else none
/-- an instruction that goes on behind itself -/
def en_st (xs : Option (List Int32)) (i : Instr) (a b : Nat) (l : en_L) (st : List Value) (h : en_H) : Option (en_L × List Value × en_H) := match i with
  | .iconst n => some (l, .int (Int32.ofInt n) :: st, h)
  | .bipush n => some (l, .int (Int8.ofInt n).toInt32 :: st, h)
  | .sipush n => some (l, .int (Int16.ofInt n).toInt32 :: st, h)
  | .lconst n => some (l, .long (Int64.ofNat n.val) :: st, h)
  | .aconst_null => some (l, .null :: st, h)
  | .ldc _ => if a = 1 then some (l, .int (Int32.ofNat b) :: st, h) else some (l, .float (UInt32.ofNat (b + 1)) :: st, h)
  | .ldc_w _ => some (l, .int (Int32.ofNat b) :: st, h)
  | .ldc2_w _ => some (l, .long (Int64.ofNat b) :: st, h)
  | .iload_n k => en_ldi k.val l st h
  | .iload k => en_ldi k l st h
  | .lload_n k => en_ldl k.val l st h
  | .lload k => en_ldl k l st h
  | .aload_n k => en_lda k.val l st h
  | .aload k => en_lda k l st h
  | .istore_n k => en_sti k.val l st h
  | .istore k => en_sti k l st h
  | .lstore_n k => en_stl k.val l st h
  | .lstore k => en_stl k l st h
  | .astore_n k => en_sta k.val l st h
  | .astore k => en_sta k l st h
  | .iinc k n => match en_get k l with
    | some (.int x) => some (en_put1 k (.int (x + Int32.ofInt n)) l, st, h)
    | _ => none
  | .iadd => en_i2 (fun x y => x + y) l st h
  | .isub => en_i2 (fun x y => x - y) l st h
  | .imul => en_i2 (fun x y => x * y) l st h
  | .iand => en_i2 (fun x y => x &&& y) l st h
  | .ior => en_i2 (fun x y => x ||| y) l st h
  | .ishl => en_i2 (fun x y => x <<< (y &&& 31)) l st h
  | .ishr => en_i2 (fun x y => x >>> (y &&& 31)) l st h
  | .iushr => en_i2 (fun x y => (x.toUInt32 >>> (y.toUInt32 &&& Int32.toUInt32 31)).toInt32) l st h
  | .idiv => en_i2d (fun x y => x / y) l st h
  | .irem => en_i2d (fun x y => x - x / y * y) l st h
  | .ineg => match st with
    | .int x :: r => some (l, .int (-x) :: r, h)
    | _ => none
  | .ladd => en_l2 (fun x y => x + y) l st h
  | .lsub => en_l2 (fun x y => x - y) l st h
  | .lmul => en_l2 (fun x y => x * y) l st h
  | .ldiv => en_l2d (fun x y => x / y) l st h
  | .lrem => en_l2d (fun x y => x - x / y * y) l st h
  | .i2l => match st with
    | .int x :: r => some (l, .long x.toInt64 :: r, h)
    | _ => none
  | .l2i => match st with
    | .long x :: r => some (l, .int x.toInt32 :: r, h)
    | _ => none
  | .lcmp => match st with
    | .long y :: .long x :: r => some (l, .int (lg_cmp x y) :: r, h)
    | _ => none
  | .dup => match st with
    | v :: r => if v.category = 1 then some (l, v :: v :: r, h) else none
    | _ => none
  | .dup2 => match st with
    | v :: w :: r => if v.category = 1 ∧ w.category = 1 then some (l, v :: w :: v :: w :: r, h) else none
    | _ => none
  | .pop => match st with
    | v :: r => if v.category = 1 then some (l, r, h) else none
    | _ => none
  | .getfield _ => en_gf a b l st h
  | .putfield _ => en_pf a b (en_tyf a b) l st h
  | .iaload => en_ias 0 xs l st h
  | .baload => en_ias 2 none l st h
  | .laload => en_lal l st h
  | .aaload => en_aal l st h
  | .iastore => en_iast 0 l st h
  | .bastore => en_iast 2 l st h
  | .lastore => en_last l st h
  | .aastore => en_aast l st h
  | .arraylength => en_alen xs l st h
  | .new _ => some (l, .ref h.1.length :: st, (h.1 ++ [.inr (a, en_dflt a)], h.2 + (en_dflt a).length))
  | .newarray t => match t with
    | .int => en_newa 0 (fun n => .inl (List.replicate n 0)) l st h
    | .boolean => en_newa 2 (fun n => .inl (List.replicate n 0)) l st h
    | .long => en_newa 1 (fun n => .inr (.inl (List.replicate n 0))) l st h
    | _ => none
  | .anewarray _ => en_newa a (fun n => .inr (.inr (List.replicate n none))) l st h
  | .invokestatic _ => en_nat a l st h
  | .invokespecial _ => en_nat a l st h
  | _ => none
def en_c1 (c : Jvm.ClassFile.Cond) (x : Int32) : Bool := match c with
  | .eq => decide (x = 0)
  | .ne => decide (¬ x = 0)
  | .lt => decide (x < 0)
  | .ge => decide (0 ≤ x)
  | .gt => decide (0 < x)
  | .le => decide (x ≤ 0)
def en_c2 (c : Jvm.ClassFile.Cond) (x y : Int32) : Bool := match c with
  | .eq => decide (x = y)
  | .ne => decide (¬ x = y)
  | .lt => decide (x < y)
  | .ge => decide (y ≤ x)
  | .gt => decide (y < x)
  | .le => decide (x ≤ y)
def en_sw (pc : Nat) (d lo hi : Int) (offs : Array Int) (x : Int) : Option Nat :=
  if x < lo ∨ hi < x then some ((pc : Int) + d).toNat else match offs[(x - lo).toNat]? with
    | some o => some ((pc : Int) + o).toNat
    | none => none
/-- an instruction that goes elsewhere, returns or calls; none: it is not of these -/
def en_ctl (ret : Option FieldType) (op : en_Op) (pc : Nat) (l : en_L) (st : List Value) (h : en_H) : Option (Option en_X) := match op.1 with
  | .goto _ => some (some (.inl (op.2.2.1, l, st, h)))
  | .ifCond c _ => some (match st with
    | .int x :: r => some (.inl (bif en_c1 c x then op.2.2.1 else pc + 3, l, r, h))
    | _ => none)
  | .if_icmp c _ => some (match st with
    | .int y :: .int x :: r => some (.inl (bif en_c2 c x y then op.2.2.1 else pc + 3, l, r, h))
    | _ => none)
  | .ifnonnull _ => some (match st with
    | .ref _ :: r => some (.inl (op.2.2.1, l, r, h))
    | .null :: r => some (.inl (pc + 3, l, r, h))
    | _ => none)
  | .ifnull _ => some (match st with
    | .ref _ :: r => some (.inl (pc + 3, l, r, h))
    | .null :: r => some (.inl (op.2.2.1, l, r, h))
    | _ => none)
  | .tableswitch d lo hi offs => some (match st with
    | .int x :: r => match en_sw pc d lo hi offs x.toInt with
      | some t => some (.inl (t, l, r, h))
      | none => none
    | _ => none)
  | .ireturn => some (match st with
    | [.int v] => match ret with
      | some .int => some (.inr (.inr (some (.int v), h)))
      | some .boolean => if v = 0 ∨ v = 1 then some (.inr (.inr (some (.int v), h))) else none
      | _ => none
    | _ => none)
  | .lreturn => some (match st with
    | [.long v] => match ret with
      | some .long => some (.inr (.inr (some (.long v), h)))
      | _ => none
    | _ => none)
  | .areturn => some (match ret with
    | some (.object _) => match st with
      | [.ref v] => some (.inr (.inr (some (.ref v), h)))
      | [.null] => some (.inr (.inr (some .null, h)))
      | _ => none
    | _ => none)
  | .return_ => some (match ret with
    | none => match st with
      | [] => some (.inr (.inr (none, h)))
      | _ => none
    | _ => none)
  | .invokevirtual _ => if op.2.2.1 < 900 then some (some (.inr (.inl (op, pc, l, st, h)))) else none
  | .invokestatic _ => if op.2.2.1 < 900 then some (some (.inr (.inl (op, pc, l, st, h)))) else none
  | .invokespecial _ => if op.2.2.1 < 900 then some (some (.inr (.inl (op, pc, l, st, h)))) else none
  | _ => none
/-- a block -/
def en_rb (xs : Option (List Int32)) (ret : Option FieldType) : List en_Op → en_C → Option en_X
  | [], c => some (.inl c)
  | op :: r, c => match en_ctl ret op c.1 c.2.1 c.2.2.1 c.2.2.2 with
    | some x => x
    | none => match en_st xs op.1 op.2.2.1 op.2.2.2.1 c.2.1 c.2.2.1 c.2.2.2 with
      | some q => en_rb xs ret r (c.1 + op.2.1, q.1, q.2.1, q.2.2)
      | none => none
def en_lk (pc : Nat) : en_Bs → Option (List en_Op)
  | [] => none
  | q :: r => bif Nat.beq q.1 pc then some q.2 else en_lk pc r
/-- a method's own facts: its name, code, room of locals, answer, class, and 1 if it is static -/
abbrev en_I : Type := MethodName × ByteArray × Nat × Option FieldType × Nat × Nat
def en_take (op : en_Op) (st : List Value) : Option (List Value × List Value) :=
  if op.2.2.2.1 ≤ st.length ∧ en_cs (st.drop op.2.2.2.1) ≤ 8 then some ((st.take op.2.2.2.1).reverse, st.drop op.2.2.2.1) else none
/-- the receiver is an object of the method's class -/
def en_rc (I : en_I) (as : List Value) (h : en_H) : Bool := match as with
  | .ref p :: _ => match h.1[p]? with
    | some (.inr (ci, _)) => Nat.beq ci I.2.2.2.2.1
    | _ => false
  | _ => false
def en_go (IS : List en_I) (BS : List en_Bs) (cf : Nat → List Value → en_H → Option (Option Value × en_H)) (xs : Option (List Int32)) (ret : Option FieldType) (bs : en_Bs) : Nat → en_C → Option (Option Value × en_H)
  | 0, _ => none
  | f + 1, c => match en_lk c.1 bs with
    | none => none
    | some ops => match en_rb xs ret ops c with
      | none => none
      | some (.inl c') => en_go IS BS cf xs ret bs f c'
      | some (.inr (.inl (op, c'))) => match en_take op c'.2.2.1 with
        | none => none
        | some q => match cf op.2.2.1 q.1 c'.2.2.2 with
          | none => none
          | some w => en_go IS BS cf xs ret bs f (c'.1 + 3, c'.2.1, w.1.toList ++ q.2, w.2)
      | some (.inr (.inr w)) => some w
def en_run (IS : List en_I) (BS : List en_Bs) : Nat → Nat → Nat → List Value → en_H → Option (Option Value × en_H)
  | 0, _, _, _, _ => none
  | d + 1, F, i, as, h => match IS[i]?, BS[i]? with
    | some I, some bs => if (lg_sl as).length ≤ I.2.2.1 ∧ (I.2.2.2.2.2 = 1 ∨ en_rc I as h = true) then en_go IS BS (en_run IS BS d F) none I.2.2.2.1 bs F (0, lv_args 0 as, [], h) else none
    | _, _ => none
/-! ===== what a program decides of the tables ===== -/
def en_w (c : Nat) : Option Jvm.Cond := tables_1[c]?
def en_len (i : Instr) : Nat := match i with
  | .bipush _ | .ldc _ | .iload _ | .lload _ | .aload _ | .istore _ | .lstore _ | .astore _ | .newarray _ => 2
  | .sipush _ | .ldc_w _ | .ldc2_w _ | .iinc _ _ | .getfield _ | .putfield _ | .new _ | .anewarray _ | .invokevirtual _ | .invokestatic _ | .invokespecial _ | .goto _ | .ifCond _ _ | .if_icmp _ _ | .ifnull _ | .ifnonnull _ => 3
  | _ => 1
/-- a call's own facts: the callee's number of parameters, the link -/
def en_okc (I : en_I) (idx a b c : Nat) (k : Nat) : Bool := match en_IS[a]? with
  | some J => decide ((parseMethodDescriptor J.1.desc).map (fun d => d.parameters.length) = some (b - k)) && decide (k ≤ b) && decide (J.2.2.1 ≤ 45) && decide (J.2.2.2.2.2 + k = 1) && (if c < 5000 then decide (en_w c = some (.methodLink I.1.cls idx J.1)) else decide (en_nest[c - 5000]? = some (I.1.cls, idx, J.1, "LeftHands")))
  | none => false
def en_okw (I : en_I) (i : Instr) (pc a b c : Nat) : Bool := match i with
  | .istore_n k => decide (k.val < I.2.2.1)
  | .astore_n k => decide (k.val < I.2.2.1)
  | .lstore_n k => decide (k.val + 1 < I.2.2.1)
  | .istore k => decide (k < I.2.2.1)
  | .astore k => decide (k < I.2.2.1)
  | .lstore k => decide (k + 1 < I.2.2.1)
  | .iinc k _ => decide (k < I.2.2.1)
  | .ldc idx => if a = 1 then decide (en_w c = some (.constant I.1.cls idx (Int32.ofNat b))) else decide (b < 1000) && decide ((en_str[b]?).map (fun q => (q.1, q.2.1)) = some (I.1.cls, idx))
  | .ldc_w idx => decide (en_w c = some (.constant I.1.cls idx (Int32.ofNat b)))
  | .ldc2_w idx => decide (en_w c = some (.constantLong I.1.cls idx (Int64.ofNat b)))
  | .getfield idx => match en_cl[a]? with
    | some q => decide (b < q.2.2) && decide ((q.2.1 b).1 = q.1) && decide (en_w c = some (.fieldLink I.1.cls idx q.1 (q.2.1 b).2.1 (q.2.1 b).2.2.1))
    | none => false
  | .putfield idx => match en_cl[a]? with
    | some q => decide (b < q.2.2) && decide ((q.2.1 b).1 = q.1) && decide (en_w c = some (.fieldLink I.1.cls idx q.1 (q.2.1 b).2.1 (q.2.1 b).2.2.1)) && (if (q.2.1 b).2.2.2 = true then decide (I.1.name = "<init>") && decide (q.1 = I.1.cls) else true)
    | none => false
  | .new idx => match en_cl[a]? with
    | some q => decide (en_w c = some (.classLink I.1.cls idx q.1))
    | none => false
  | .anewarray idx => if a = 3 then decide (en_w c = some (.classLink I.1.cls idx "LeftHands$Law")) else decide (a = 4) && decide (en_w c = some (.classLink I.1.cls idx "LeftHands$Bazaar"))
  | .goto off => decide ((pc : Int) + off = (a : Int))
  | .ifCond _ off => decide ((pc : Int) + off = (a : Int))
  | .if_icmp _ off => decide ((pc : Int) + off = (a : Int))
  | .ifnull off => decide ((pc : Int) + off = (a : Int))
  | .ifnonnull off => decide ((pc : Int) + off = (a : Int))
  | .tableswitch d _ _ offs => decide (0 ≤ (pc : Int) + d) && offs.toList.all (fun o => decide (0 ≤ (pc : Int) + o))
  | .invokevirtual idx => decide (a < 900) && en_okc I idx a b c 1 && decide ((en_IS[a]?).map (fun J => decide (J.1.name = "<init>")) = some false)
  | .invokestatic idx => if a < 900 then en_okc I idx a b c 0 else
      if a = 901 then decide (en_w c = some (.methodLink I.1.cls idx arraycopyName)) else
      if a = 902 then decide (en_w c = some (.methodLink I.1.cls idx Lib.Math.max.name)) else
      if a = 903 then decide (en_w c = some (.methodLink I.1.cls idx Lib.Math.min.name)) else
      if a = 904 then decide (en_w c = some (.methodLink I.1.cls idx Lib.MathLoose.max_long.x)) else
      if a = 905 then decide (en_w c = some (.methodLink I.1.cls idx Lib.MathLoose.min_long.x)) else false
  | .invokespecial idx => if a < 900 then en_okc I idx a b c 1 && decide ((en_IS[a]?).map (fun J => (J.1.name, J.2.2.2.1)) = some ("<init>", none)) else decide (a = 900) && decide (en_w c = some (.methodLink I.1.cls idx Lib.objectInit))
  | _ => true
def en_lnok (i : Instr) (n : Nat) : Bool := match i with
  | .tableswitch _ _ _ _ => true
  | i => decide (n = en_len i)
def en_okop (I : en_I) (pc : Nat) (op : en_Op) : Bool := decide (decode I.2.1 pc = .ok (op.1, op.2.1)) && en_lnok op.1 op.2.1 && en_okw I op.1 pc op.2.2.1 op.2.2.2.1 op.2.2.2.2
def en_okb (I : en_I) : Nat → List en_Op → Bool
  | _, [] => true
  | pc, op :: r => en_okop I pc op && en_okb I (pc + op.2.1) r
def en_okB (I : en_I) (bs : en_Bs) : Bool := bs.all (fun q => en_okb I q.1 q.2)
/-- a method's own words, by their places -/
def en_okJ (J : en_I) (q : Nat × Nat × Nat × Nat) : Bool := plainName J.1.cls && decide (J.1.cls ≠ "java/lang/invoke/MethodHandle") && decide (J.1.cls ≠ "java/lang/invoke/VarHandle") && decide (en_w q.1 = some (.code J.1 J.2.1 J.2.2.1 J.2.2.2.1)) && decide (en_w q.2.2.2 = some (.initialized J.1.cls)) &&
  (if J.2.2.2.2.2 = 1 then decide (en_w q.2.1 = some (.static J.1)) else decide (J.2.2.2.2.2 = 0) && decide (en_w q.2.1 = some (.instanceMethod J.1)) && decide ((en_cl[J.2.2.2.2.1]?).map (fun r => r.1) = some J.1.cls) && (if J.1.name = "<init>" then true else decide (lw_tbl[q.2.2.1]? = some (.selects J.1.cls J.1 J.1))))
end
section
/-! ===== what a list of cells stands for on the machine's heap ===== -/
/-- the first address, the classes' numbers and slots, the arrays' classes, the addresses outside (0 the script, k + 1 the text constant k) -/
abbrev en_G : Type := Nat × va_G × (Nat → ClassId) × (Nat → Nat)
def en_cv (G : en_G) (v : Value) : Value := match v with
  | .ref k => .ref (G.1 + k)
  | .float n => .ref (G.2.2.2 n.toNat)
  | .int x => .int x
  | .long x => .long x
  | .double x => .double x
  | .null => .null
  | .retAddr x => .retAddr x
def en_cq (G : en_G) (q : Nat × Value) : Nat × Value := (q.1, en_cv G q.2)
def en_cx (G : en_G) (x : en_A) : vp_A := match x with
  | .inl ys => (ys.length, .inl (fun j => ys.getD j 0))
  | .inr (.inl ys) => (ys.length, .inr (.inl (fun j => ys.getD j 0)))
  | .inr (.inr ys) => (ys.length, .inr (.inr (.inr (.inr (fun j => (ys.getD j none).map (fun k => G.1 + k))))))
def en_ce (G : en_G) (e : en_E) : va_E := match e with
  | .inl q => .inl (G.2.2.1 q.1, en_cx G q.2)
  | .inr q => .inr (q.1, q.2.map (en_cv G))
def en_cw (G : en_G) (h : List en_E) : va_W := h.mapIdx (fun k e => (G.1 + k, en_ce G e))
def en_tys (G : en_G) : List (ClassId × FieldType) := [(G.2.2.1 0, en_ty 0), (G.2.2.1 1, en_ty 1), (G.2.2.1 2, en_ty 2), (G.2.2.1 3, en_ty 3), (G.2.2.1 4, en_ty 4)]
def en_K (G : en_G) (U : State) : Prop := va_K G.2.1 en_cl (en_tys G) U ∧ va_AO "LeftHands$Law" U ∧ va_AO "LeftHands$Bazaar" U ∧ (∀ q ∈ en_nest, va_Nw (.methodLinkNest q.1 q.2.1 q.2.2.1 q.2.2.2) U) ∧ ∀ (i : Nat) (q : String × Nat × String), en_str[i]? = some q → vk_R q.1 q.2.1 q.2.2 (G.2.2.2 (i + 1)) U
def en_W0 : List Jvm.Cond := lw_tbl.filter goodWord
def en_ws (I : en_I) : List Jvm.Cond := .code I.1 I.2.1 I.2.2.1 I.2.2.2.1 :: en_W0
def en_Rl (G : en_G) (s : State) (n0 k0 : Nat) (h : en_H) (H : Heap) (locs : List Loc) (cells slots : Nat) : Prop := va_P G.2.1 en_cl (en_cw G h.1) H ∧ H.size = G.1 + h.1.length ∧ va_S (fun q => G.1 ≤ q) s.heap H locs ∧ cells + n0 = h.1.length ∧ slots + k0 = h.2
def en_Xt (G : en_G) (xs : Option (List Int32)) (s : State) : Prop := ∀ ys : List Int32, xs = some ys → va_X (G.2.2.2 0) ys.length (fun j => ys.getD j 0) s s.heap ∧ G.2.2.2 0 < s.heap.size ∧ G.2.2.2 0 < G.1
def en_Fr (G : en_G) (xs : Option (List Int32)) (I : en_I) (R : Room) (p : Program) (s : State) (m : MethodId) (args : Array Value) (meth : Method) (c : Code) : Prop :=
  p.tables.exec = Jvm.exec ∧ c.code = I.2.1 ∧ c.maxLocals = I.2.2.1 ∧ s.vm.findClass I.1.cls = some m.cls ∧ (∀ w ∈ en_W0, w.before args s = true) ∧ en_K G s ∧ G.1 ≤ s.heap.size ∧ en_Xt G xs s ∧ (1 ≤ R.frames ∧ 64 ≤ R.locals) ∧ (I.1.name = "<init>" → meth.name = "<init>")
theorem en_in {c : Nat} {w : Jvm.Cond} (h : tables_1[c]? = some w) (g : goodWord w = true) : w ∈ en_W0 := List.mem_filter.mpr ⟨List.mem_append_right _ (List.mem_of_getElem? h), g⟩
theorem en_cat (G : en_G) (v : Value) : (en_cv G v).category = v.category := by cases v <;> rfl
theorem en_csm (G : en_G) (st : List Value) : ((st.map (en_cv G)).map fun v => v.category).sum = en_cs st := by
  unfold en_cs
  rw [List.map_map]
  congr 1
  apply List.map_congr_left
  intro v _
  exact en_cat G v
theorem en_get_mem {i : Nat} {v : Value} : ∀ {l : en_L}, en_get i l = some v → (i, v) ∈ l
  | [], h => by cases h
  | q :: r, h => by
    unfold en_get at h
    by_cases hq : Nat.beq q.1 i = true
    · rw [hq] at h
      cases h
      have e : q.1 = i := Nat.eq_of_beq_eq_true hq
      rw [← e]
      exact List.mem_cons_self
    · have hq' : Nat.beq q.1 i = false := Bool.eq_false_iff.mpr hq
      rw [hq'] at h
      exact List.mem_cons_of_mem _ (en_get_mem h)
theorem en_loc {G : en_G} {ls : Array Slot} {n i : Nat} {l : en_L} {v : Value} (hl : lv_has ls n (l.map (en_cq G))) (h : en_get i l = some v) : ls[i]? = some (.val (en_cv G v)) :=
  hl.2.2 (i, en_cv G v) (List.mem_map.mpr ⟨(i, v), en_get_mem h, rfl⟩)
theorem en_put1_map (G : en_G) (i : Nat) (v : Value) (l : en_L) : (i, en_cv G v) :: (l.map (en_cq G)).filter (fun q => !(q.1 == i) && !(q.1 + 1 == i && q.2.category == 2)) = (en_put1 i v l).map (en_cq G) := by
  unfold en_put1
  rw [List.map_cons, List.filter_map]
  congr 2
  apply List.filter_congr
  intro q _
  simp [Function.comp, en_cq, en_cat]
theorem en_put2_map (G : en_G) (i : Nat) (v : Value) (l : en_L) : (i, en_cv G v) :: (l.map (en_cq G)).filter (fun q => !(q.1 == i) && (!(q.1 == i + 1) && !(q.1 + 1 == i && q.2.category == 2))) = (en_put2 i v l).map (en_cq G) := by
  unfold en_put2
  rw [List.map_cons, List.filter_map]
  congr 2
  apply List.filter_congr
  intro q _
  simp [Function.comp, en_cq, en_cat]
theorem en_cw_get (G : en_G) (h : List en_E) (k : Nat) : (en_cw G h)[k]? = (h[k]?).map fun e => (G.1 + k, en_ce G e) := by
  unfold en_cw
  rw [List.getElem?_mapIdx]
theorem en_cw_at {G : en_G} {h : List en_E} {k : Nat} {e : en_E} (hk : h[k]? = some e) : (en_cw G h)[k]? = some (G.1 + k, en_ce G e) := by
  rw [en_cw_get, hk]
  rfl
theorem en_cw_set (G : en_G) (h : List en_E) (k : Nat) (e : en_E) : (en_cw G h).set k (G.1 + k, en_ce G e) = en_cw G (h.set k e) := by
  apply List.ext_getElem?
  intro i
  rw [List.getElem?_set, en_cw_get, en_cw_get, List.getElem?_set]
  have hz : (en_cw G h).length = h.length := by unfold en_cw; simp
  by_cases hi : k = i
  · subst hi
    rw [if_pos rfl, if_pos rfl, hz]
    by_cases hk : k < h.length
    · rw [if_pos hk, if_pos hk]
      rfl
    · rw [if_neg hk, if_neg hk]
      rfl
  · rw [if_neg hi, if_neg hi]
theorem en_cw_app (G : en_G) (h : List en_E) (e : en_E) : en_cw G (h ++ [e]) = en_cw G h ++ [(G.1 + h.length, en_ce G e)] := by
  unfold en_cw
  rw [List.mapIdx_append]
  simp
theorem en_D (G : en_G) (h : List en_E) : va_D (fun q => G.1 ≤ q) (en_cw G h) := by
  refine ⟨fun i j p q hp hq he => ?_, fun k q hk => ?_⟩
  · rw [en_cw_get] at hp hq
    cases hi : h[i]? with
    | none => rw [hi] at hp; cases hp
    | some a =>
      cases hj : h[j]? with
      | none => rw [hj] at hq; cases hq
      | some b =>
        rw [hi] at hp
        rw [hj] at hq
        cases hp
        cases hq
        have he' : G.1 + i = G.1 + j := he
        omega
  · rw [en_cw_get] at hk
    cases hi : h[k]? with
    | none => rw [hi] at hk; cases hk
    | some a =>
      rw [hi] at hk
      cases hk
      exact Nat.le_add_right _ _
/-- a cell told in two ways -/
theorem en_Pset {D : va_G} {cl : List vw_C} {ws : va_W} {k a : Nat} {x y : ClassId × vp_A} {H : Heap} (h : va_P D cl (ws.set k (a, .inl x)) H) (e : vp_cell x.1 x.2 = vp_cell y.1 y.2) : va_P D cl (ws.set k (a, .inl y)) H := by
  intro i q hi
  have h1 := h i
  rw [List.getElem?_set] at hi h1
  by_cases hk : k = i
  · rw [if_pos hk] at hi h1
    by_cases hl : k < ws.length
    · rw [if_pos hl] at hi h1
      cases hi
      have h2 := h1 _ rfl
      show H[a]? = some (vp_cell y.1 y.2)
      rw [← e]
      exact h2
    · rw [if_neg hl] at hi
      cases hi
  · rw [if_neg hk] at hi h1
    exact h1 q hi
theorem en_ceI (c : ClassId) {n : Nat} {f g : Nat → Int32} (h : ∀ j, j < n → f j = g j) : vp_cell c (n, .inl f) = vp_cell c (n, .inl g) := by
  rw [vp_cell_i, vp_cell_i]
  unfold arrV
  congr 2
  funext j
  exact congrArg Value.int (h j.val j.isLt)
theorem en_ceL (c : ClassId) {n : Nat} {f g : Nat → Int64} (h : ∀ j, j < n → f j = g j) : vp_cell c (n, .inr (.inl f)) = vp_cell c (n, .inr (.inl g)) := by
  rw [vp_cell_l, vp_cell_l]
  unfold arrV
  congr 2
  funext j
  exact congrArg Value.long (h j.val j.isLt)
theorem en_ceQ (c : ClassId) {n : Nat} {f g : Nat → Option Nat} (h : ∀ j, j < n → f j = g j) : vp_cell c (n, .inr (.inr (.inr (.inr f)))) = vp_cell c (n, .inr (.inr (.inr (.inr g)))) := by
  rw [vp_cell_q, vp_cell_q]
  unfold arrV
  congr 2
  funext j
  exact congrArg va_rf (h j.val j.isLt)
theorem en_getD_set {α : Type} (ys : List α) (i : Nat) (x d : α) (hi : i < ys.length) (j : Nat) : (ys.set i x).getD j d = if j = i then x else ys.getD j d := by
  rw [List.getD_eq_getElem?_getD, List.getD_eq_getElem?_getD, List.getElem?_set]
  by_cases h : i = j
  · subst h
    simp [hi]
  · rw [if_neg h, if_neg (fun e => h e.symm)]
theorem en_getD_cpy {α : Type} (f g : List α) (d : α) {sp dp n : Nat} (h1 : sp + n ≤ f.length) (h2 : dp + n ≤ g.length) (j : Nat) : (en_cpy f g sp dp n).getD j d = va_cpy (fun j => f.getD j d) (fun j => g.getD j d) sp dp n j := by
  unfold en_cpy va_cpy
  rw [List.getD_eq_getElem?_getD]
  have e1 : (g.take dp).length = dp := by simp; omega
  have e2 : ((f.drop sp).take n).length = n := by simp; omega
  by_cases hj : j < dp
  · rw [if_neg (by omega), List.getElem?_append_left (by omega), List.getElem?_take, if_pos hj]
    rfl
  · rw [List.getElem?_append_right (by omega), e1]
    by_cases hk : j < dp + n
    · rw [if_pos (by omega), List.getElem?_append_left (by omega), List.getElem?_take, if_pos (by omega), List.getElem?_drop]
      rfl
    · rw [if_neg (by omega), List.getElem?_append_right (by omega), e2, List.getElem?_drop]
      show _ = g[j]?.getD d
      congr 2
      omega
theorem en_cpy_length {α : Type} (f g : List α) {sp dp n : Nat} (h1 : sp + n ≤ f.length) (h2 : dp + n ≤ g.length) : (en_cpy f g sp dp n).length = g.length := by
  unfold en_cpy
  simp
  omega
theorem en_fit_ok (G : en_G) {ty : FieldType} {v : Value} (h : en_fit ty v = true) : narrow ty (en_cv G v) = en_cv G v ∧ fits ty (en_cv G v) = true := by
  cases ty <;> cases v <;> first | (exact ⟨rfl, rfl⟩) | (exact absurd h Bool.false_ne_true) | skip
  rename_i x
  have h2 : x = 0 ∨ x = 1 := by simpa [en_fit] using h
  rcases h2 with rfl | rfl
  · exact ⟨(by decide +kernel : narrow .boolean (.int 0) = .int 0), (by decide +kernel : fits .boolean (.int 0) = true)⟩
  · exact ⟨(by decide +kernel : narrow .boolean (.int 1) = .int 1), (by decide +kernel : fits .boolean (.int 1) = true)⟩
theorem en_bool {x : Int32} (h : x = 0 ∨ x = 1) : narrow .boolean (.int x) = .int x := by
  rcases h with rfl | rfl <;> decide +kernel
theorem en_warmM {s U : State} (hW : s.WarmedH U.vm) {q : String × Nat × MethodName × String} (h : va_Nw (.methodLinkNest q.1 q.2.1 q.2.2.1 q.2.2.2) s) : va_Nw (.methodLinkNest q.1 q.2.1 q.2.2.1 q.2.2.2) U := va_Nw.warmM hW h
theorem en_K.warm {G : en_G} {s U : State} (hW : s.WarmedH U.vm) (h : en_K G s) : en_K G U := ⟨va_K.moved hW.alike h.1, va_AO.moved hW.alike h.2.1, va_AO.moved hW.alike h.2.2.1, fun q hq => en_warmM hW (h.2.2.2.1 q hq), fun i q hq => vk_R.warm hW (h.2.2.2.2 i q hq)⟩
theorem en_K.calling {G : en_G} {U : State} (g : JFrame) (mk : MethodId) (a : Array Value) (h : en_K G U) : en_K G (U.calling g mk a) :=
  ⟨va_K.moved (u := U) (U := U.calling g mk a) (Vm.Alike.refl U.vm) h.1, va_AO.moved (u := U) (U := U.calling g mk a) (Vm.Alike.refl U.vm) h.2.1, va_AO.moved (u := U) (U := U.calling g mk a) (Vm.Alike.refl U.vm) h.2.2.1, fun q hq => va_Nw.same rfl (rfl : U.vm = (U.calling g mk a).vm) (h.2.2.2.1 q hq), fun i q hq => vk_R.same (rfl : (U.calling g mk a).vm = U.vm) (h.2.2.2.2 i q hq)⟩
theorem en_tysA {G : en_G} {t : Nat} (h : t < 5) : (en_tys G)[t]? = some (G.2.2.1 t, en_ty t) := by
  rcases (show t = 0 ∨ t = 1 ∨ t = 2 ∨ t = 3 ∨ t = 4 by omega) with rfl | rfl | rfl | rfl | rfl <;> rfl
/-- a new cell -/
theorem en_push {G : en_G} {s : State} {n0 k0 : Nat} {h : en_H} {H H1 : Heap} {locs : List Loc} {cells slots : Nat} (hr : en_Rl G s n0 k0 h H locs cells slots) {e : en_E} (n : Nat) (e1 : va_at G.2.1 en_cl (H.size, en_ce G e) H1) (z1 : H1.size = H.size + 1) (o1 : ∀ q : Nat, q < H.size → H1[q]? = H[q]?) : en_Rl G s n0 k0 (h.1 ++ [e], h.2 + n) H1 locs (cells + 1) (slots + n) := by
  obtain ⟨hP, hz, hS, hc, hk⟩ := hr
  refine ⟨?_, ?_, ⟨Nat.le_trans hS.1 (by omega), fun x h1 h2 => (o1 x (Nat.lt_of_lt_of_le h1 hS.1)).trans (hS.2.1 x h1 h2), hS.2.2⟩, ?_, ?_⟩
  · show va_P G.2.1 en_cl (en_cw G (h.1 ++ [e])) H1
    rw [en_cw_app]
    refine (hP.kept fun k x hx => o1 x.1 ((hP k x hx).lt)).app (fun k x hx => ?_)
    have hz' : k < 1 := (List.getElem?_eq_some_iff.mp hx).1
    rw [show k = 0 by omega] at hx
    cases hx
    rw [← hz]
    exact e1
  · show H1.size = G.1 + (h.1 ++ [e]).length
    rw [List.length_append, z1, hz]
    simp
    omega
  · show cells + 1 + n0 = (h.1 ++ [e]).length
    rw [List.length_append]
    simp
    omega
  · show slots + n + k0 = h.2 + n
    omega
/-- a cell changed -/
theorem en_wrote {G : en_G} {s : State} {n0 k0 : Nat} {h : en_H} {H H1 : Heap} {locs locs1 : List Loc} {cells slots : Nat} (hr : en_Rl G s n0 k0 h H locs cells slots) {p : Nat} {e : en_E} (hP : va_P G.2.1 en_cl (en_cw G (h.1.set p e)) H1) (hz : H1.size = H.size) (hS : va_S (fun q => G.1 ≤ q) s.heap H1 locs1) : en_Rl G s n0 k0 (h.1.set p e, h.2) H1 locs1 cells slots := by
  refine ⟨hP, ?_, hS, ?_, hr.2.2.2.2⟩
  · show H1.size = G.1 + (h.1.set p e).length
    rw [List.length_set, hz]
    exact hr.2.1
  · show cells + n0 = (h.1.set p e).length
    rw [List.length_set]
    exact hr.2.2.2.1
theorem en_ul_0 : ∀ k, k < 15 → tables_1[((en_lps.getD 0 []).getD k 0)]? = some (u_lay RX0 TX0 k) := by decide +kernel
theorem en_in_0 : tables_1[(en_cps.getD 0 (0, 0)).1]? = some (.instantiable RX0 15) := by decide +kernel
theorem en_ii_0 : tables_1[(en_cps.getD 0 (0, 0)).2]? = some (.initialized RX0) := by decide +kernel
theorem en_dd_0 : ∀ j, j < 15 → defaultValue (tyX0 j) = vp_V (en_dflt 0) j := by decide +kernel
theorem en_ul_1 : ∀ k, k < 19 → tables_1[((en_lps.getD 1 []).getD k 0)]? = some (u_lay RX1 TX1 k) := by decide +kernel
theorem en_in_1 : tables_1[(en_cps.getD 1 (0, 0)).1]? = some (.instantiable RX1 19) := by decide +kernel
theorem en_ii_1 : tables_1[(en_cps.getD 1 (0, 0)).2]? = some (.initialized RX1) := by decide +kernel
theorem en_dd_1 : ∀ j, j < 19 → defaultValue (tyX1 j) = vp_V (en_dflt 1) j := by decide +kernel
theorem en_ul_2 : ∀ k, k < 13 → tables_1[((en_lps.getD 2 []).getD k 0)]? = some (u_lay RX2 TX2 k) := by decide +kernel
theorem en_in_2 : tables_1[(en_cps.getD 2 (0, 0)).1]? = some (.instantiable RX2 13) := by decide +kernel
theorem en_ii_2 : tables_1[(en_cps.getD 2 (0, 0)).2]? = some (.initialized RX2) := by decide +kernel
theorem en_dd_2 : ∀ j, j < 13 → defaultValue (tyX2 j) = vp_V (en_dflt 2) j := by decide +kernel
theorem en_ul_3 : ∀ k, k < 4 → tables_1[((en_lps.getD 3 []).getD k 0)]? = some (u_lay RX3 TX3 k) := by decide +kernel
theorem en_in_3 : tables_1[(en_cps.getD 3 (0, 0)).1]? = some (.instantiable RX3 4) := by decide +kernel
theorem en_ii_3 : tables_1[(en_cps.getD 3 (0, 0)).2]? = some (.initialized RX3) := by decide +kernel
theorem en_dd_3 : ∀ j, j < 4 → defaultValue (tyX3 j) = vp_V (en_dflt 3) j := by decide +kernel
theorem en_ul_4 : ∀ k, k < 9 → tables_1[((en_lps.getD 4 []).getD k 0)]? = some (u_lay RX4 TX4 k) := by decide +kernel
theorem en_in_4 : tables_1[(en_cps.getD 4 (0, 0)).1]? = some (.instantiable RX4 9) := by decide +kernel
theorem en_ii_4 : tables_1[(en_cps.getD 4 (0, 0)).2]? = some (.initialized RX4) := by decide +kernel
theorem en_dd_4 : ∀ j, j < 9 → defaultValue (tyX4 j) = vp_V (en_dflt 4) j := by decide +kernel
theorem en_ul_5 : ∀ k, k < 7 → tables_1[((en_lps.getD 5 []).getD k 0)]? = some (u_lay RX5 TX5 k) := by decide +kernel
theorem en_in_5 : tables_1[(en_cps.getD 5 (0, 0)).1]? = some (.instantiable RX5 7) := by decide +kernel
theorem en_ii_5 : tables_1[(en_cps.getD 5 (0, 0)).2]? = some (.initialized RX5) := by decide +kernel
theorem en_dd_5 : ∀ j, j < 7 → defaultValue (tyX5 j) = vp_V (en_dflt 5) j := by decide +kernel
theorem en_ul_6 : ∀ k, k < 6 → tables_1[((en_lps.getD 6 []).getD k 0)]? = some (u_lay RX6 TX6 k) := by decide +kernel
theorem en_in_6 : tables_1[(en_cps.getD 6 (0, 0)).1]? = some (.instantiable RX6 6) := by decide +kernel
theorem en_ii_6 : tables_1[(en_cps.getD 6 (0, 0)).2]? = some (.initialized RX6) := by decide +kernel
theorem en_dd_6 : ∀ j, j < 6 → defaultValue (tyX6 j) = vp_V (en_dflt 6) j := by decide +kernel
theorem en_ul_7 : ∀ k, k < 6 → tables_1[((en_lps.getD 7 []).getD k 0)]? = some (u_lay RX7 TX7 k) := by decide +kernel
theorem en_in_7 : tables_1[(en_cps.getD 7 (0, 0)).1]? = some (.instantiable RX7 6) := by decide +kernel
theorem en_ii_7 : tables_1[(en_cps.getD 7 (0, 0)).2]? = some (.initialized RX7) := by decide +kernel
theorem en_dd_7 : ∀ j, j < 6 → defaultValue (tyX7 j) = vp_V (en_dflt 7) j := by decide +kernel
theorem en_ul_8 : ∀ k, k < 2 → tables_1[((en_lps.getD 8 []).getD k 0)]? = some (u_lay RX8 TX8 k) := by decide +kernel
theorem en_in_8 : tables_1[(en_cps.getD 8 (0, 0)).1]? = some (.instantiable RX8 2) := by decide +kernel
theorem en_ii_8 : tables_1[(en_cps.getD 8 (0, 0)).2]? = some (.initialized RX8) := by decide +kernel
theorem en_dd_8 : ∀ j, j < 2 → defaultValue (tyX8 j) = vp_V (en_dflt 8) j := by decide +kernel
theorem en_ul_9 : ∀ k, k < 1 → tables_1[((en_lps.getD 9 []).getD k 0)]? = some (u_lay RX9 TX9 k) := by decide +kernel
theorem en_in_9 : tables_1[(en_cps.getD 9 (0, 0)).1]? = some (.instantiable RX9 1) := by decide +kernel
theorem en_ii_9 : tables_1[(en_cps.getD 9 (0, 0)).2]? = some (.initialized RX9) := by decide +kernel
theorem en_dd_9 : ∀ j, j < 1 → defaultValue (tyX9 j) = vp_V (en_dflt 9) j := by decide +kernel
theorem en_ul_10 : ∀ k, k < 18 → tables_1[((en_lps.getD 10 []).getD k 0)]? = some (u_lay RX10 TX10 k) := by decide +kernel
theorem en_in_10 : tables_1[(en_cps.getD 10 (0, 0)).1]? = some (.instantiable RX10 18) := by decide +kernel
theorem en_ii_10 : tables_1[(en_cps.getD 10 (0, 0)).2]? = some (.initialized RX10) := by decide +kernel
theorem en_dd_10 : ∀ j, j < 18 → defaultValue (tyX10 j) = vp_V (en_dflt 10) j := by decide +kernel
theorem en_ul_11 : ∀ k, k < 52 → tables_1[((en_lps.getD 11 []).getD k 0)]? = some (u_lay RX11 TX11 k) := by decide +kernel
theorem en_in_11 : tables_1[(en_cps.getD 11 (0, 0)).1]? = some (.instantiable RX11 52) := by decide +kernel
theorem en_ii_11 : tables_1[(en_cps.getD 11 (0, 0)).2]? = some (.initialized RX11) := by decide +kernel
theorem en_dd_11 : ∀ j, j < 52 → defaultValue (tyX11 j) = vp_V (en_dflt 11) j := by decide +kernel
theorem en_glay (C : String) (T : u_T) (k : Nat) : goodWord (u_lay C T k) = true := by unfold u_lay; split <;> rfl
theorem en_ulw {C : String} {T : u_T} {N : Nat} {ps : List Nat} (h : ∀ k, k < N → tables_1[(ps.getD k 0)]? = some (u_lay C T k)) : ∀ w ∈ u_ws C T N, w ∈ en_W0 := by
  intro w hw
  obtain ⟨k, hk, rfl⟩ := List.mem_map.mp hw
  exact en_in (h k (List.mem_range.mp hk)) (en_glay C T k)
theorem en_clf {ci : Nat} {C : String} {T : u_T} {N : Nat} (hc : en_cl[ci]? = some (C, T, N)) : (∀ w ∈ u_ws C T N, w ∈ en_W0) ∧ (∀ k, k < N → parseFieldDescriptor (T k).2.2.1 = some (en_tyf ci k)) ∧ (∀ a, a < N → ∀ b, b < N → a ≠ b → (T a).2.1 ≠ (T b).2.1) ∧ Jvm.Cond.instantiable C N ∈ en_W0 ∧ Jvm.Cond.initialized C ∈ en_W0 ∧ (∀ j, j < N → defaultValue (en_tyf ci j) = vp_V (en_dflt ci) j) ∧ (en_dflt ci).length = N := by
  match ci, hc with
  | 0, hc => cases hc; exact ⟨en_ulw en_ul_0, tyX0_ok, nmX0, en_in en_in_0 rfl, en_in en_ii_0 rfl, en_dd_0, rfl⟩
  | 1, hc => cases hc; exact ⟨en_ulw en_ul_1, tyX1_ok, nmX1, en_in en_in_1 rfl, en_in en_ii_1 rfl, en_dd_1, rfl⟩
  | 2, hc => cases hc; exact ⟨en_ulw en_ul_2, tyX2_ok, nmX2, en_in en_in_2 rfl, en_in en_ii_2 rfl, en_dd_2, rfl⟩
  | 3, hc => cases hc; exact ⟨en_ulw en_ul_3, tyX3_ok, nmX3, en_in en_in_3 rfl, en_in en_ii_3 rfl, en_dd_3, rfl⟩
  | 4, hc => cases hc; exact ⟨en_ulw en_ul_4, tyX4_ok, nmX4, en_in en_in_4 rfl, en_in en_ii_4 rfl, en_dd_4, rfl⟩
  | 5, hc => cases hc; exact ⟨en_ulw en_ul_5, tyX5_ok, nmX5, en_in en_in_5 rfl, en_in en_ii_5 rfl, en_dd_5, rfl⟩
  | 6, hc => cases hc; exact ⟨en_ulw en_ul_6, tyX6_ok, nmX6, en_in en_in_6 rfl, en_in en_ii_6 rfl, en_dd_6, rfl⟩
  | 7, hc => cases hc; exact ⟨en_ulw en_ul_7, tyX7_ok, nmX7, en_in en_in_7 rfl, en_in en_ii_7 rfl, en_dd_7, rfl⟩
  | 8, hc => cases hc; exact ⟨en_ulw en_ul_8, tyX8_ok, nmX8, en_in en_in_8 rfl, en_in en_ii_8 rfl, en_dd_8, rfl⟩
  | 9, hc => cases hc; exact ⟨en_ulw en_ul_9, tyX9_ok, nmX9, en_in en_in_9 rfl, en_in en_ii_9 rfl, en_dd_9, rfl⟩
  | 10, hc => cases hc; exact ⟨en_ulw en_ul_10, tyX10_ok, nmX10, en_in en_in_10 rfl, en_in en_ii_10 rfl, en_dd_10, rfl⟩
  | 11, hc => cases hc; exact ⟨en_ulw en_ul_11, tyX11_ok, nmX11, en_in en_in_11 rfl, en_in en_ii_11 rfl, en_dd_11, rfl⟩
  | n + 12, hc => simp [en_cl] at hc
theorem en_oc : (Jvm.Cond.code Lib.objectInit ⟨#[0xb1]⟩ 1 none) ∈ en_W0 := en_in (c := 28) (by decide +kernel) rfl
theorem en_oi : (Jvm.Cond.instanceMethod Lib.objectInit) ∈ en_W0 := en_in (c := 27) (by decide +kernel) rfl
theorem en_an : (Jvm.Cond.native arraycopyName) ∈ en_W0 := en_in (c := 556) (by decide +kernel) rfl
theorem en_as : (Jvm.Cond.static arraycopyName) ∈ en_W0 := en_in (c := 555) (by decide +kernel) rfl
theorem en_ai : (Jvm.Cond.initialized "java/lang/System") ∈ en_W0 := en_in (c := 13) (by decide +kernel) rfl
theorem en_mi : (Jvm.Cond.initialized "java/lang/Math") ∈ en_W0 := en_in (c := 19) (by decide +kernel) rfl
theorem en_mxs : (Jvm.Cond.static Lib.Math.max.name) ∈ en_W0 := en_in (c := 874) (by decide +kernel) rfl
theorem en_mxc : (Jvm.Cond.code Lib.Math.max.name Lib.Math.max.code 2 (some .int)) ∈ en_W0 := en_in (c := 875) (by decide +kernel) rfl
theorem en_mns : (Jvm.Cond.static Lib.Math.min.name) ∈ en_W0 := en_in (c := 867) (by decide +kernel) rfl
theorem en_mnc : (Jvm.Cond.code Lib.Math.min.name Lib.Math.min.code 2 (some .int)) ∈ en_W0 := en_in (c := 868) (by decide +kernel) rfl
theorem en_mxls : (Jvm.Cond.static Lib.MathLoose.max_long.x) ∈ en_W0 := en_in (c := 1037) (by decide +kernel) rfl
theorem en_mxlc : (Jvm.Cond.code Lib.MathLoose.max_long.x Lib.MathLoose.max_long.code 4 (some .long)) ∈ en_W0 := en_in (c := 1038) (by decide +kernel) rfl
theorem en_mnls : (Jvm.Cond.static Lib.MathLoose.min_long.x) ∈ en_W0 := en_in (c := 1034) (by decide +kernel) rfl
theorem en_mnlc : (Jvm.Cond.code Lib.MathLoose.min_long.x Lib.MathLoose.min_long.code 4 (some .long)) ∈ en_W0 := en_in (c := 1035) (by decide +kernel) rfl
theorem en_aI : (Jvm.Cond.arrayClass .int) ∈ en_W0 := en_in (c := 84) (by decide +kernel) rfl
theorem en_aJ : (Jvm.Cond.arrayClass .long) ∈ en_W0 := en_in (c := 240) (by decide +kernel) rfl
theorem en_aZ : (Jvm.Cond.arrayClass .boolean) ∈ en_W0 := en_in (c := 178) (by decide +kernel) rfl
end
section
/-! ===== one instruction ===== -/
section EN1
variable {G : en_G} {xs : Option (List Int32)} {I : en_I} {R : Room} {p : Program} {L : Launch} {e : Env} {s : State} {m : MethodId} {args : Array Value} {below : List Frame} {meth : Method} {c : Code} {Q : State → Prop} {n0 k0 : Nat}
variable {pc : Nat} {l : en_L} {st : List Value} {h : en_H} {q : en_L × List Value × en_H} {H : Heap} {locs : List Loc} {cells slots : Nat} {ls : Array Slot}
/-- what comes behind an instruction -/
def en_KK (G : en_G) (I : en_I) (R : Room) (p : Program) (L : Launch) (e : Env) (s : State) (m : MethodId) (args : Array Value) (below : List Frame) (meth : Method) (c : Code) (Q : State → Prop) (n0 k0 : Nat) (q : en_L × List Value × en_H) (pc' : Nat) : Prop :=
  ∀ (H : Heap) (locs : List Loc) (cells slots : Nat) (ls : Array Slot), lv_has ls I.2.2.1 (q.1.map (en_cq G)) → en_Rl G s n0 k0 q.2.2 H locs cells slots → W p L e R s m args below meth c H locs cells slots Q (F0 m pc' ls (q.2.1.map (en_cv G)))
abbrev en_HY (G : en_G) (xs : Option (List Int32)) (I : en_I) (R : Room) (p : Program) (s : State) (m : MethodId) (args : Array Value) (meth : Method) (c : Code) (n0 k0 : Nat) (l : en_L) (h : en_H) (q : en_L × List Value × en_H) (H : Heap) (locs : List Loc) (cells slots : Nat) (ls : Array Slot) : Prop :=
  en_Fr G xs I R p s m args meth c ∧ (q.2.2.1.length ≤ n0 + R.cells ∧ q.2.2.2 ≤ k0 + R.slots) ∧ lv_has ls I.2.2.1 (l.map (en_cq G)) ∧ en_Rl G s n0 k0 h H locs cells slots
theorem en_s_ldi {i : Nat} {d : Nat} (hdg : decode I.2.1 pc = .ok (.iload i, d)) (hd : d = 2) (hs : en_ldi i l st h = some q) (Y : en_HY G xs I R p s m args meth c n0 k0 l h q H locs cells slots ls) (kk : en_KK G I R p L e s m args below meth c Q n0 k0 q (pc + d)) : W p L e R s m args below meth c H locs cells slots Q (F0 m pc ls (st.map (en_cv G))) := by
  obtain ⟨⟨hx, hb, -⟩, -, hl, hr⟩ := Y
  subst hd
  unfold en_ldi at hs
  split at hs
  · rename_i x hg
    cases hs
    exact lv_iload hx hb hdg (en_loc hl hg) (kk _ _ _ _ _ hl hr)
  · cases hs
theorem en_s_ldin {i : Fin 4} {d : Nat} (hdg : decode I.2.1 pc = .ok (.iload_n i, d)) (hd : d = 1) (hs : en_ldi i.val l st h = some q) (Y : en_HY G xs I R p s m args meth c n0 k0 l h q H locs cells slots ls) (kk : en_KK G I R p L e s m args below meth c Q n0 k0 q (pc + d)) : W p L e R s m args below meth c H locs cells slots Q (F0 m pc ls (st.map (en_cv G))) := by
  obtain ⟨⟨hx, hb, -⟩, -, hl, hr⟩ := Y
  subst hd
  unfold en_ldi at hs
  split at hs
  · rename_i x hg
    cases hs
    exact lv_iload_n hx hb hdg rfl (en_loc hl hg) (kk _ _ _ _ _ hl hr)
  · cases hs
theorem en_s_ldl {i : Nat} {d : Nat} (hdg : decode I.2.1 pc = .ok (.lload i, d)) (hd : d = 2) (hs : en_ldl i l st h = some q) (Y : en_HY G xs I R p s m args meth c n0 k0 l h q H locs cells slots ls) (kk : en_KK G I R p L e s m args below meth c Q n0 k0 q (pc + d)) : W p L e R s m args below meth c H locs cells slots Q (F0 m pc ls (st.map (en_cv G))) := by
  obtain ⟨⟨hx, hb, -⟩, -, hl, hr⟩ := Y
  subst hd
  unfold en_ldl at hs
  split at hs
  · rename_i x hg
    cases hs
    exact lv_lload hx hb hdg (en_loc hl hg) (kk _ _ _ _ _ hl hr)
  · cases hs
theorem en_s_ldln {i : Fin 4} {d : Nat} (hdg : decode I.2.1 pc = .ok (.lload_n i, d)) (hd : d = 1) (hs : en_ldl i.val l st h = some q) (Y : en_HY G xs I R p s m args meth c n0 k0 l h q H locs cells slots ls) (kk : en_KK G I R p L e s m args below meth c Q n0 k0 q (pc + d)) : W p L e R s m args below meth c H locs cells slots Q (F0 m pc ls (st.map (en_cv G))) := by
  obtain ⟨⟨hx, hb, -⟩, -, hl, hr⟩ := Y
  subst hd
  unfold en_ldl at hs
  split at hs
  · rename_i x hg
    cases hs
    exact lv_lload_n hx hb hdg rfl (en_loc hl hg) (kk _ _ _ _ _ hl hr)
  · cases hs
theorem en_s_lda {i : Nat} {d : Nat} (hdg : decode I.2.1 pc = .ok (.aload i, d)) (hd : d = 2) (hs : en_lda i l st h = some q) (Y : en_HY G xs I R p s m args meth c n0 k0 l h q H locs cells slots ls) (kk : en_KK G I R p L e s m args below meth c Q n0 k0 q (pc + d)) : W p L e R s m args below meth c H locs cells slots Q (F0 m pc ls (st.map (en_cv G))) := by
  obtain ⟨⟨hx, hb, -⟩, -, hl, hr⟩ := Y
  subst hd
  unfold en_lda at hs
  split at hs
  · rename_i x hg
    cases hs
    exact lv_aload hx hb hdg (en_loc hl hg) (kk _ _ _ _ _ hl hr)
  · rename_i x hg
    cases hs
    exact lv_aload hx hb hdg (en_loc hl hg) (kk _ _ _ _ _ hl hr)
  · rename_i hg
    cases hs
    exact lv_aloadN hx hb hdg (en_loc hl hg) (kk _ _ _ _ _ hl hr)
  · cases hs
theorem en_s_ldan {i : Fin 4} {d : Nat} (hdg : decode I.2.1 pc = .ok (.aload_n i, d)) (hd : d = 1) (hs : en_lda i.val l st h = some q) (Y : en_HY G xs I R p s m args meth c n0 k0 l h q H locs cells slots ls) (kk : en_KK G I R p L e s m args below meth c Q n0 k0 q (pc + d)) : W p L e R s m args below meth c H locs cells slots Q (F0 m pc ls (st.map (en_cv G))) := by
  obtain ⟨⟨hx, hb, -⟩, -, hl, hr⟩ := Y
  subst hd
  unfold en_lda at hs
  split at hs
  · rename_i x hg
    cases hs
    exact lv_aload_n hx hb hdg rfl (en_loc hl hg) (kk _ _ _ _ _ hl hr)
  · rename_i x hg
    cases hs
    exact lv_aload_n hx hb hdg rfl (en_loc hl hg) (kk _ _ _ _ _ hl hr)
  · rename_i hg
    cases hs
    exact lv_aload_nN hx hb hdg rfl (en_loc hl hg) (kk _ _ _ _ _ hl hr)
  · cases hs
theorem en_s_sti {i : Nat} {d : Nat} (hdg : decode I.2.1 pc = .ok (.istore i, d)) (hd : d = 2) (hi : i < I.2.2.1) (hs : en_sti i l st h = some q) (Y : en_HY G xs I R p s m args meth c n0 k0 l h q H locs cells slots ls) (kk : en_KK G I R p L e s m args below meth c Q n0 k0 q (pc + d)) : W p L e R s m args below meth c H locs cells slots Q (F0 m pc ls (st.map (en_cv G))) := by
  obtain ⟨⟨hx, hb, -⟩, -, hl, hr⟩ := Y
  subst hd
  unfold en_sti at hs
  split at hs
  · cases hs
    exact lv_istore hx hb hdg hl hi (en_put1_map G i (.int _) l) (fun ls' hl' => kk _ _ _ _ _ hl' hr)
  · cases hs
theorem en_s_stin {i : Fin 4} {d : Nat} (hdg : decode I.2.1 pc = .ok (.istore_n i, d)) (hd : d = 1) (hi : i.val < I.2.2.1) (hs : en_sti i.val l st h = some q) (Y : en_HY G xs I R p s m args meth c n0 k0 l h q H locs cells slots ls) (kk : en_KK G I R p L e s m args below meth c Q n0 k0 q (pc + d)) : W p L e R s m args below meth c H locs cells slots Q (F0 m pc ls (st.map (en_cv G))) := by
  obtain ⟨⟨hx, hb, -⟩, -, hl, hr⟩ := Y
  subst hd
  unfold en_sti at hs
  split at hs
  · cases hs
    exact lv_istore_n hx hb hdg rfl hl hi (en_put1_map G i.val (.int _) l) (fun ls' hl' => kk _ _ _ _ _ hl' hr)
  · cases hs
theorem en_s_stl {i : Nat} {d : Nat} (hdg : decode I.2.1 pc = .ok (.lstore i, d)) (hd : d = 2) (hi : i + 1 < I.2.2.1) (hs : en_stl i l st h = some q) (Y : en_HY G xs I R p s m args meth c n0 k0 l h q H locs cells slots ls) (kk : en_KK G I R p L e s m args below meth c Q n0 k0 q (pc + d)) : W p L e R s m args below meth c H locs cells slots Q (F0 m pc ls (st.map (en_cv G))) := by
  obtain ⟨⟨hx, hb, -⟩, -, hl, hr⟩ := Y
  subst hd
  unfold en_stl at hs
  split at hs
  · cases hs
    exact lv_lstore hx hb hdg hl hi (en_put2_map G i (.long _) l) (fun ls' hl' => kk _ _ _ _ _ hl' hr)
  · cases hs
theorem en_s_stln {i : Fin 4} {d : Nat} (hdg : decode I.2.1 pc = .ok (.lstore_n i, d)) (hd : d = 1) (hi : i.val + 1 < I.2.2.1) (hs : en_stl i.val l st h = some q) (Y : en_HY G xs I R p s m args meth c n0 k0 l h q H locs cells slots ls) (kk : en_KK G I R p L e s m args below meth c Q n0 k0 q (pc + d)) : W p L e R s m args below meth c H locs cells slots Q (F0 m pc ls (st.map (en_cv G))) := by
  obtain ⟨⟨hx, hb, -⟩, -, hl, hr⟩ := Y
  subst hd
  unfold en_stl at hs
  split at hs
  · cases hs
    exact lv_lstore_n hx hb hdg rfl hl hi (en_put2_map G i.val (.long _) l) (fun ls' hl' => kk _ _ _ _ _ hl' hr)
  · cases hs
theorem en_s_sta {i : Nat} {d : Nat} (hdg : decode I.2.1 pc = .ok (.astore i, d)) (hd : d = 2) (hi : i < I.2.2.1) (hs : en_sta i l st h = some q) (Y : en_HY G xs I R p s m args meth c n0 k0 l h q H locs cells slots ls) (kk : en_KK G I R p L e s m args below meth c Q n0 k0 q (pc + d)) : W p L e R s m args below meth c H locs cells slots Q (F0 m pc ls (st.map (en_cv G))) := by
  obtain ⟨⟨hx, hb, -⟩, -, hl, hr⟩ := Y
  subst hd
  unfold en_sta at hs
  split at hs
  · cases hs
    exact lv_astore hx hb hdg hl hi (en_put1_map G i (.ref _) l) (fun ls' hl' => kk _ _ _ _ _ hl' hr)
  · cases hs
    exact lv_astoreN hx hb hdg hl hi (en_put1_map G i .null l) (fun ls' hl' => kk _ _ _ _ _ hl' hr)
  · cases hs
theorem en_s_stan {i : Fin 4} {d : Nat} (hdg : decode I.2.1 pc = .ok (.astore_n i, d)) (hd : d = 1) (hi : i.val < I.2.2.1) (hs : en_sta i.val l st h = some q) (Y : en_HY G xs I R p s m args meth c n0 k0 l h q H locs cells slots ls) (kk : en_KK G I R p L e s m args below meth c Q n0 k0 q (pc + d)) : W p L e R s m args below meth c H locs cells slots Q (F0 m pc ls (st.map (en_cv G))) := by
  obtain ⟨⟨hx, hb, -⟩, -, hl, hr⟩ := Y
  subst hd
  unfold en_sta at hs
  split at hs
  · cases hs
    exact lv_astore_n hx hb hdg rfl hl hi (en_put1_map G i.val (.ref _) l) (fun ls' hl' => kk _ _ _ _ _ hl' hr)
  · cases hs
    exact lv_astore_nN hx hb hdg rfl hl hi (en_put1_map G i.val .null l) (fun ls' hl' => kk _ _ _ _ _ hl' hr)
  · cases hs
theorem en_s_gf {i a b cc d : Nat} (ok : en_okw I (.getfield i) pc a b cc = true) (hdg : decode I.2.1 pc = .ok (.getfield i, d)) (hd : d = 3) (hs : en_gf a b l st h = some q) (Y : en_HY G xs I R p s m args meth c n0 k0 l h q H locs cells slots ls) (kk : en_KK G I R p L e s m args below meth c Q n0 k0 q (pc + d)) : W p L e R s m args below meth c H locs cells slots Q (F0 m pc ls (st.map (en_cv G))) := by
  obtain ⟨⟨hx, hb, -, hown, hts, hK, -⟩, -, hl, hr⟩ := Y
  subst hd
  unfold en_gf at hs
  split at hs
  · rename_i pl r
    split at hs
    · rename_i ci fs hp
      split at hs
      · rename_i hci
        subst hci
        split at hs
        · rename_i v hv
          cases hs
          cases hc : en_cl[ci]? with
          | some t =>
            obtain ⟨C, T, N⟩ := t
            simp only [en_okw, hc, Bool.and_eq_true, decide_eq_true_eq] at ok
            obtain ⟨⟨o1, o2⟩, o3⟩ := ok
            have hcl := (en_clf hc).1
            exact va_get (D := G.2.1) (cl := en_cl) (Ts := en_W0) (C := C) (T := T) (N := N) (ref := C) hx hb hts hcl hown hK.1 hr.1 pl (en_cw_at hp) hc b o1 (hts _ (en_in o3 rfl)) (fun x hx => by rw [o2] at hx; exact hx) (v := en_cv G v) (by rw [List.getElem?_map, hv]; rfl) hdg (kk _ _ _ _ _ hl hr)
          | none => simp [en_okw, hc] at ok
        · cases hs
      · cases hs
    · cases hs
  · cases hs
theorem en_s_pf {i a b cc d : Nat} (ok : en_okw I (.putfield i) pc a b cc = true) (hdg : decode I.2.1 pc = .ok (.putfield i, d)) (hd : d = 3) (hs : en_pf a b (en_tyf a b) l st h = some q) (Y : en_HY G xs I R p s m args meth c n0 k0 l h q H locs cells slots ls) (kk : en_KK G I R p L e s m args below meth c Q n0 k0 q (pc + d)) : W p L e R s m args below meth c H locs cells slots Q (F0 m pc ls (st.map (en_cv G))) := by
  obtain ⟨⟨hx, hb, -, hown, hts, hK, -, -, -, hnm⟩, -, hl, hr⟩ := Y
  subst hd
  unfold en_pf at hs
  split at hs
  · rename_i v pl r
    split at hs
    · rename_i ci fs hp
      split at hs
      · rename_i hci
        obtain ⟨hci, hbl, hf⟩ := hci
        subst hci
        cases hs
        cases hc : en_cl[ci]? with
        | some t =>
          obtain ⟨C, T, N⟩ := t
          simp only [en_okw, hc, Bool.and_eq_true, decide_eq_true_eq] at ok
          obtain ⟨⟨⟨o1, o2⟩, o3⟩, o4⟩ := ok
          obtain ⟨c1, c2, c3, -⟩ := en_clf hc
          obtain ⟨f1, f2⟩ := en_fit_ok G hf
          have hlink := hts _ (en_in o3 rfl)
          have hap := va_apart (own := I.1.cls) hts c1 (en_tyf ci) c2 c3 hK.1 hc
          obtain ⟨r0, g1, cell, q1, q2, q3, q4⟩ := hr.1 pl _ (en_cw_at hp)
          have hr0 : r0 = (C, T, N) := Option.some.inj (g1.symm.trans hc)
          subst hr0
          obtain ⟨hS, hfc, kC, hkC, hkind⟩ := hK.1.1 ci _ hc
          obtain ⟨cf, kf, fi, f, hi, hsl⟩ := hS b o1
          have hi' := hi
          rw [o2] at hi'
          have hst := (u_facts hfc hkC (u_lays hts c1 o1) hi).1
          have hlay := hts _ (c1 _ (u_in_lay o1))
          have fin : ∀ H1 : Heap, H1[G.1 + pl]? = some (cell.setSlot (G.2.1.2 ci b) (en_cv G v)) → H1.size = H.size → (∀ q : Nat, q ≠ G.1 + pl → H1[q]? = H[q]?) → W p L e R s m args below meth c H1 (locs ++ [⟨G.1 + pl, G.2.1.2 ci b⟩]) cells slots Q (F0 m (pc + 3) ls (r.map (en_cv G))) := by
            intro H1 e1 e2 e3
            refine kk H1 _ _ _ _ hl (en_wrote hr ?_ e2 (hr.2.2.1.put e2 e3 (Nat.le_add_right _ _)))
            rw [← en_cw_set]
            refine va_P.set hr.1 (en_D G h.1) (en_cw_at hp) ⟨_, hc, t_OB.to (V := updV (vp_V (fs.map (en_cv G))) b (en_cv G v)) ⟨_, e1, q2, q3, t_set q4 hap o1 _⟩ (fun j _ => ?_)⟩ e3
            rw [vp_updV_set (by rw [List.length_map]; exact hbl)]
            show vp_V _ j = vp_V ((fs.set b v).map (en_cv G)) j
            rw [List.map_set]
          by_cases hfin : (T b).2.2.2 = true
          · rw [if_pos hfin] at o4
            simp only [Bool.and_eq_true, decide_eq_true_eq] at o4
            unfold u_lay at hlay
            rw [if_pos hfin] at hlay
            have hcf : m.cls = cf := by
              obtain ⟨_, _, c', _, _, _, -, -, hf', -, -, -, hown2, -⟩ := Cond.laysFinal_spec hlay
              have e1 : c' = cf := by have := hi.symm.trans hf'; simp at this; exact this.1.symm
              rw [o2, o4.2] at hown2
              rw [← e1]; exact Option.some.inj (hown.symm.trans hown2)
            have h6 := u_fits hfc hkC hkind (Or.inr hlay) hi (c2 b o1) f1 f2
            refine W.putFinK hx hb hown hlink hi' hst hcf (hnm o4.1) (by rw [q2]; exact h6) q1 q3 (by rw [hsl]; exact k2_hasslot (q4 b o1)) rfl rfl hdg fun H' e1 e2 e3 => ?_
            rw [hsl] at e1 ⊢
            exact fin H' e1 e2 e3
          · unfold u_lay at hlay
            rw [if_neg hfin] at hlay
            have h6 := u_store hfc hkC hkind hlay hi (c2 b o1) f1 f2
            refine W.putK hx hb (f := f) ⟨hown, hlink, ⟨_, _, _, hi'⟩, hst⟩ (by rw [q2]; exact h6) q1 q3 (by rw [hsl]; exact k2_hasslot (q4 b o1)) rfl rfl hdg fun H' e1 e2 e3 => ?_
            rw [hsl] at e1 ⊢
            exact fin H' e1 e2 e3
        | none => simp [en_okw, hc] at ok
      · cases hs
    · cases hs
  · cases hs
theorem en_inx {i : Int32} {n : Nat} (h0 : ¬ i < 0) (h1 : i.toNatClampNeg < n) : vp_in i n := fun q => q.elim h0 (fun z => Nat.not_le.mpr h1 z)
theorem en_get_lt {α : Type} {ys : List α} {k : Nat} {x : α} (h : ys[k]? = some x) : k < ys.length := (List.getElem?_eq_some_iff.mp h).1
theorem en_getD {α : Type} {ys : List α} {k : Nat} {x d : α} (h : ys[k]? = some x) : ys.getD k d = x := by rw [List.getD_eq_getElem?_getD, h]; rfl
theorem en_s_ial {d : Nat} (hdg : decode I.2.1 pc = .ok (.iaload, d)) (hd : d = 1) (hs : en_ias 0 xs l st h = some q) (Y : en_HY G xs I R p s m args meth c n0 k0 l h q H locs cells slots ls) (kk : en_KK G I R p L e s m args below meth c Q n0 k0 q (pc + d)) : W p L e R s m args below meth c H locs cells slots Q (F0 m pc ls (st.map (en_cv G))) := by
  obtain ⟨⟨hx, hb, -, hown, hts, hK, hB, hX, -, hnm⟩, -, hl, hr⟩ := Y
  subst hd
  unfold en_ias at hs
  split at hs
  · rename_i i pl r
    split at hs
    · rename_i t ys hp
      split at hs
      · rename_i ht
        obtain ⟨rfl, h0⟩ := ht
        split at hs
        · rename_i x hy
          cases hs
          refine va_iald hx hb hK.1 hr.1 pl 0 (en_cw_at hp) (en_tysA (by decide)) (en_inx h0 (en_get_lt hy)) hdg ?_
          rw [en_getD hy]
          exact kk _ _ _ _ _ hl hr
        · cases hs
      · cases hs
    · cases hs
  · rename_i i z r
    split at hs
    · rename_i ys
      split at hs
      · rename_i ht
        obtain ⟨-, rfl, h0⟩ := ht
        split at hs
        · rename_i x hy
          cases hs
          obtain ⟨x1, x2, x3⟩ := hX ys rfl
          refine va_sld (A := fun q => G.1 ≤ q) hx hb x1 x2 (Nat.not_le.mpr x3) hr.2.2.1 (en_inx h0 (en_get_lt hy)) hdg ?_
          rw [en_getD hy]
          exact kk _ _ _ _ _ hl hr
        · cases hs
      · cases hs
    · cases hs
  · cases hs
theorem en_s_bal {d : Nat} (hdg : decode I.2.1 pc = .ok (.baload, d)) (hd : d = 1) (hs : en_ias 2 none l st h = some q) (Y : en_HY G xs I R p s m args meth c n0 k0 l h q H locs cells slots ls) (kk : en_KK G I R p L e s m args below meth c Q n0 k0 q (pc + d)) : W p L e R s m args below meth c H locs cells slots Q (F0 m pc ls (st.map (en_cv G))) := by
  obtain ⟨⟨hx, hb, -, hown, hts, hK, hB, hX, -, hnm⟩, -, hl, hr⟩ := Y
  subst hd
  unfold en_ias at hs
  split at hs
  · rename_i i pl r
    split at hs
    · rename_i t ys hp
      split at hs
      · rename_i ht
        obtain ⟨rfl, h0⟩ := ht
        split at hs
        · rename_i x hy
          cases hs
          refine va_zald hx hb hK.1 hr.1 pl 2 (en_cw_at hp) (en_tysA (by decide)) (en_inx h0 (en_get_lt hy)) hdg ?_
          rw [en_getD hy]
          exact kk _ _ _ _ _ hl hr
        · cases hs
      · cases hs
    · cases hs
  · cases hs
  · cases hs
theorem en_s_lal {d : Nat} (hdg : decode I.2.1 pc = .ok (.laload, d)) (hd : d = 1) (hs : en_lal l st h = some q) (Y : en_HY G xs I R p s m args meth c n0 k0 l h q H locs cells slots ls) (kk : en_KK G I R p L e s m args below meth c Q n0 k0 q (pc + d)) : W p L e R s m args below meth c H locs cells slots Q (F0 m pc ls (st.map (en_cv G))) := by
  obtain ⟨⟨hx, hb, -, hown, hts, hK, hB, hX, -, hnm⟩, -, hl, hr⟩ := Y
  subst hd
  unfold en_lal at hs
  split at hs
  · rename_i i pl r
    split at hs
    · rename_i t ys hp
      split at hs
      · rename_i ht
        obtain ⟨rfl, h0⟩ := ht
        split at hs
        · rename_i x hy
          cases hs
          refine va_lald hx hb hK.1 hr.1 pl 1 (en_cw_at hp) (en_tysA (by decide)) (en_inx h0 (en_get_lt hy)) hdg ?_
          rw [en_getD hy]
          exact kk _ _ _ _ _ hl hr
        · cases hs
      · cases hs
    · cases hs
  · cases hs
theorem en_rf_map (G : en_G) (r : Option Nat) : va_rf (r.map (fun k => G.1 + k)) = en_cv G (en_rf r) := by cases r <;> rfl
theorem en_s_aal {d : Nat} (hdg : decode I.2.1 pc = .ok (.aaload, d)) (hd : d = 1) (hs : en_aal l st h = some q) (Y : en_HY G xs I R p s m args meth c n0 k0 l h q H locs cells slots ls) (kk : en_KK G I R p L e s m args below meth c Q n0 k0 q (pc + d)) : W p L e R s m args below meth c H locs cells slots Q (F0 m pc ls (st.map (en_cv G))) := by
  obtain ⟨⟨hx, hb, -, hown, hts, hK, hB, hX, -, hnm⟩, -, hl, hr⟩ := Y
  subst hd
  unfold en_aal at hs
  split at hs
  · rename_i i pl r
    split at hs
    · rename_i t ys hp
      split at hs
      · rename_i ht
        obtain ⟨ht, h0⟩ := ht
        split at hs
        · rename_i x hy
          cases hs
          have fin : ∀ C : String, en_ty t = .object C → t < 5 → W p L e R s m args below meth c H locs cells slots Q (F0 m pc ls ((Value.int i :: Value.ref pl :: r).map (en_cv G))) := by
            intro C hC h5
            refine va_aldq (C := C) hx hb hK.1 hr.1 pl t (en_cw_at hp) (by rw [← hC]; exact en_tysA h5) (en_inx h0 (en_get_lt hy)) hdg ?_
            rw [en_getD hy, en_rf_map]
            exact kk _ _ _ _ _ hl hr
          rcases ht with rfl | rfl
          · exact fin _ rfl (by decide)
          · exact fin _ rfl (by decide)
        · cases hs
      · cases hs
    · cases hs
  · cases hs
theorem en_arrI (c : ClassId) {n : Nat} {f : Nat → Value} {g : Nat → Int32} (h : ∀ j, j < n → f j = .int (g j)) : arrV c n f = vp_cell c (n, .inl g) := by
  rw [vp_cell_i]
  unfold arrV
  congr 2
  funext j
  exact h j.val j.isLt
theorem en_arrL (c : ClassId) {n : Nat} {f : Nat → Value} {g : Nat → Int64} (h : ∀ j, j < n → f j = .long (g j)) : arrV c n f = vp_cell c (n, .inr (.inl g)) := by
  rw [vp_cell_l]
  unfold arrV
  congr 2
  funext j
  exact h j.val j.isLt
theorem en_arrQ (c : ClassId) {n : Nat} {f : Nat → Value} {g : Nat → Option Nat} (h : ∀ j, j < n → f j = va_rf (g j)) : arrV c n f = vp_cell c (n, .inr (.inr (.inr (.inr g)))) := by
  rw [vp_cell_q]
  unfold arrV
  congr 2
  funext j
  exact h j.val j.isLt
theorem en_updI {ys : List Int32} {k : Nat} {x : Int32} (hk : k < ys.length) (j : Nat) : updV (fun j => Value.int (ys.getD j 0)) k (.int x) j = .int ((ys.set k x).getD j 0) := by
  rw [en_getD_set _ _ _ _ hk]
  unfold updV
  split <;> rfl
theorem en_updL {ys : List Int64} {k : Nat} {x : Int64} (hk : k < ys.length) (j : Nat) : updV (fun j => Value.long (ys.getD j 0)) k (.long x) j = .long ((ys.set k x).getD j 0) := by
  rw [en_getD_set _ _ _ _ hk]
  unfold updV
  split <;> rfl
theorem en_s_iast {d : Nat} (hdg : decode I.2.1 pc = .ok (.iastore, d)) (hd : d = 1) (hs : en_iast 0 l st h = some q) (Y : en_HY G xs I R p s m args meth c n0 k0 l h q H locs cells slots ls) (kk : en_KK G I R p L e s m args below meth c Q n0 k0 q (pc + d)) : W p L e R s m args below meth c H locs cells slots Q (F0 m pc ls (st.map (en_cv G))) := by
  obtain ⟨⟨hx, hb, -, hown, hts, hK, hB, hX, -, hnm⟩, -, hl, hr⟩ := Y
  subst hd
  unfold en_iast at hs
  split at hs
  · rename_i x i pl r
    split at hs
    · rename_i t ys hp
      split at hs
      · rename_i ht
        obtain ⟨rfl, h0, h1⟩ := ht
        cases hs
        refine W.iast hx hb (hr.1 pl _ (en_cw_at hp)) ((hK.1.2 0 _ (en_tysA (by decide))).1 ys.length (fun j => .int (ys.getD j 0))) (fun q => by cases q) (by show ¬ (i < 0 ∨ (arrV _ _ _).slots.size ≤ _); rw [arrV_size]; exact en_inx h0 h1) rfl rfl hdg fun H1 e1 e2 e3 => ?_
        refine kk H1 _ _ _ _ hl (en_wrote hr ?_ e2 (hr.2.2.1.put e2 e3 (Nat.le_add_right _ _)))
        rw [← en_cw_set]
        refine va_P.set hr.1 (en_D G h.1) (en_cw_at hp) ?_ e3
        show H1[_]? = some (vp_cell _ _)
        rw [e1]
        refine congrArg some ?_
        show (arrV (G.2.2.1 0) ys.length (fun j => Value.int (ys.getD j 0))).setSlot i.toNatClampNeg (.int x) = vp_cell (G.2.2.1 0) ((ys.set i.toNatClampNeg x).length, .inl (fun j => (ys.set i.toNatClampNeg x).getD j 0))
        rw [arrV_store, List.length_set]
        exact en_arrI _ (fun j _ => en_updI h1 j)
      · cases hs
    · cases hs
  · cases hs
theorem en_s_bast {d : Nat} (hdg : decode I.2.1 pc = .ok (.bastore, d)) (hd : d = 1) (hs : en_iast 2 l st h = some q) (Y : en_HY G xs I R p s m args meth c n0 k0 l h q H locs cells slots ls) (kk : en_KK G I R p L e s m args below meth c Q n0 k0 q (pc + d)) : W p L e R s m args below meth c H locs cells slots Q (F0 m pc ls (st.map (en_cv G))) := by
  obtain ⟨⟨hx, hb, -, hown, hts, hK, hB, hX, -, hnm⟩, -, hl, hr⟩ := Y
  subst hd
  unfold en_iast at hs
  split at hs
  · rename_i x i pl r
    split at hs
    · rename_i t ys hp
      split at hs
      · rename_i ht
        obtain ⟨rfl, h0, h1⟩ := ht
        rw [if_pos rfl] at hs
        cases hs
        refine W.zast hx hb (hr.1 pl _ (en_cw_at hp)) ((hK.1.2 2 _ (en_tysA (by decide))).1 ys.length (fun j => .int (ys.getD j 0))) (fun q => by cases q) (by show ¬ (i < 0 ∨ (arrV _ _ _).slots.size ≤ _); rw [arrV_size]; exact en_inx h0 h1) rfl rfl hdg fun H1 e1 e2 e3 => ?_
        refine kk H1 _ _ _ _ hl (en_wrote hr ?_ e2 (hr.2.2.1.put e2 e3 (Nat.le_add_right _ _)))
        rw [← en_cw_set]
        refine va_P.set hr.1 (en_D G h.1) (en_cw_at hp) ?_ e3
        show H1[_]? = some (vp_cell _ _)
        rw [e1]
        refine congrArg some ?_
        show (arrV (G.2.2.1 2) ys.length (fun j => Value.int (ys.getD j 0))).setSlot i.toNatClampNeg (.int (x &&& 1)) = vp_cell (G.2.2.1 2) ((ys.set i.toNatClampNeg (x &&& 1)).length, .inl (fun j => (ys.set i.toNatClampNeg (x &&& 1)).getD j 0))
        rw [arrV_store, List.length_set]
        exact en_arrI _ (fun j _ => en_updI h1 j)
      · cases hs
    · cases hs
  · cases hs
theorem en_s_last {d : Nat} (hdg : decode I.2.1 pc = .ok (.lastore, d)) (hd : d = 1) (hs : en_last l st h = some q) (Y : en_HY G xs I R p s m args meth c n0 k0 l h q H locs cells slots ls) (kk : en_KK G I R p L e s m args below meth c Q n0 k0 q (pc + d)) : W p L e R s m args below meth c H locs cells slots Q (F0 m pc ls (st.map (en_cv G))) := by
  obtain ⟨⟨hx, hb, -, hown, hts, hK, hB, hX, -, hnm⟩, -, hl, hr⟩ := Y
  subst hd
  unfold en_last at hs
  split at hs
  · rename_i x i pl r
    split at hs
    · rename_i t ys hp
      split at hs
      · rename_i ht
        obtain ⟨rfl, h0, h1⟩ := ht
        cases hs
        refine W.last hx hb (hr.1 pl _ (en_cw_at hp)) ((hK.1.2 1 _ (en_tysA (by decide))).1 ys.length (fun j => .long (ys.getD j 0))) (fun q => by cases q) (by show ¬ (i < 0 ∨ (arrV _ _ _).slots.size ≤ _); rw [arrV_size]; exact en_inx h0 h1) rfl rfl hdg fun H1 e1 e2 e3 => ?_
        refine kk H1 _ _ _ _ hl (en_wrote hr ?_ e2 (hr.2.2.1.put e2 e3 (Nat.le_add_right _ _)))
        rw [← en_cw_set]
        refine va_P.set hr.1 (en_D G h.1) (en_cw_at hp) ?_ e3
        show H1[_]? = some (vp_cell _ _)
        rw [e1]
        refine congrArg some ?_
        show (arrV (G.2.2.1 1) ys.length (fun j => Value.long (ys.getD j 0))).setSlot i.toNatClampNeg (.long x) = vp_cell (G.2.2.1 1) ((ys.set i.toNatClampNeg x).length, .inr (.inl (fun j => (ys.set i.toNatClampNeg x).getD j 0)))
        rw [arrV_store, List.length_set]
        exact en_arrL _ (fun j _ => en_updL h1 j)
      · cases hs
    · cases hs
  · cases hs
theorem en_aclC {t : Nat} (h : t = 3 ∨ t = 4) : ∃ r : vw_C, en_cl[en_acl t]? = some r ∧ en_ty t = .object r.1 := by
  rcases h with rfl | rfl
  · exact ⟨_, rfl, rfl⟩
  · exact ⟨_, rfl, rfl⟩
theorem en_s_aast {d : Nat} (hdg : decode I.2.1 pc = .ok (.aastore, d)) (hd : d = 1) (hs : en_aast l st h = some q) (Y : en_HY G xs I R p s m args meth c n0 k0 l h q H locs cells slots ls) (kk : en_KK G I R p L e s m args below meth c Q n0 k0 q (pc + d)) : W p L e R s m args below meth c H locs cells slots Q (F0 m pc ls (st.map (en_cv G))) := by
  obtain ⟨⟨hx, hb, -, hown, hts, hK, hB, hX, -, hnm⟩, -, hl, hr⟩ := Y
  subst hd
  unfold en_aast at hs
  split at hs
  · rename_i v i pl r
    split at hs
    · rename_i t ys ci fs hp hv
      split at hs
      · rename_i ht
        obtain ⟨ht, rfl, h0, h1⟩ := ht
        cases hs
        obtain ⟨rc, hrc, hty⟩ := en_aclC ht
        have h5 : t < 5 := by omega
        obtain ⟨r', hr', cellV, g1, g2, g3, -⟩ := hr.1 v _ (en_cw_at hv)
        have hcls := (hK.1.1 (en_acl t) rc hrc).2
        have hRA := (hK.1.2 t _ (en_tysA h5)).2
        have hAO := (hK.1.2 t _ (en_tysA h5)).1
        dsimp only at hRA hAO
        rw [hty] at hRA hAO
        obtain ⟨kA, comp, k1, k2, k3, -⟩ := hRA
        have hcomp : comp = G.2.1.1 (en_acl t) := Option.some.inj (k3.symm.trans hcls.1)
        subst hcomp
        obtain ⟨kC, hkC, -⟩ := hcls.2
        refine W.aast hx hb (hr.1 pl _ (en_cw_at hp)) (fun q h => by cases h) (fun h => by cases h) k1 k2 rfl hkC ⟨h0, by show _ < (arrV _ _ _).slots.size; rw [arrV_size]; exact h1⟩ g1 (fun q h => by rw [g3] at h; cases h) (by rw [g2]; exact hkC) (by rw [g2]; exact va_assign hcls) rfl rfl hdg fun H1 e1 e2 e3 => ?_
        refine kk H1 _ _ _ _ hl (en_wrote hr ?_ e2 (hr.2.2.1.put e2 e3 (Nat.le_add_right _ _)))
        rw [← en_cw_set]
        refine va_P.set hr.1 (en_D G h.1) (en_cw_at hp) ?_ e3
        show H1[_]? = some (vp_cell _ _)
        rw [e1]
        refine congrArg some ?_
        show (arrV (G.2.2.1 t) ys.length (fun j => va_rf ((ys.getD j none).map (fun k => G.1 + k)))).setSlot i.toNatClampNeg (.ref (G.1 + v)) = vp_cell (G.2.2.1 t) ((ys.set i.toNatClampNeg (some v)).length, .inr (.inr (.inr (.inr (fun j => ((ys.set i.toNatClampNeg (some v)).getD j none).map (fun k => G.1 + k))))))
        rw [arrV_store, List.length_set]
        refine en_arrQ _ (fun j _ => ?_)
        rw [en_getD_set _ _ _ _ h1]
        unfold updV
        split <;> rfl
      · cases hs
    · cases hs
  · cases hs
theorem en_szx (G : en_G) (x : en_A) : (en_cx G x).1 = en_sz x := by
  rcases x with ys | ys | ys <;> rfl
theorem en_s_alen {d : Nat} (hdg : decode I.2.1 pc = .ok (.arraylength, d)) (hd : d = 1) (hs : en_alen xs l st h = some q) (Y : en_HY G xs I R p s m args meth c n0 k0 l h q H locs cells slots ls) (kk : en_KK G I R p L e s m args below meth c Q n0 k0 q (pc + d)) : W p L e R s m args below meth c H locs cells slots Q (F0 m pc ls (st.map (en_cv G))) := by
  obtain ⟨⟨hx, hb, -, hown, hts, hK, hB, hX, -, hnm⟩, -, hl, hr⟩ := Y
  subst hd
  unfold en_alen at hs
  split at hs
  · rename_i pl r
    split at hs
    · rename_i t x hp
      split at hs
      · rename_i ht
        cases hs
        exact va_alen hx hb hK.1 hr.1 pl t (en_cw_at hp) (en_tysA ht) (v := Int32.ofNat (en_sz x)) (congrArg Int32.ofNat (en_szx G x)) hdg (kk _ _ _ _ _ hl hr)
      · cases hs
    · cases hs
  · rename_i z r
    split at hs
    · rename_i ys
      split at hs
      · rename_i hz
        subst hz
        cases hs
        obtain ⟨x1, x2, x3⟩ := hX ys rfl
        exact va_slen (A := fun q => G.1 ≤ q) hx hb x1 x2 (Nat.not_le.mpr x3) hr.2.2.1 hdg (kk _ _ _ _ _ hl hr)
      · cases hs
    · cases hs
  · cases hs
theorem en_s_newa {at_ : ArrayType} {t : Nat} {x : Nat → en_A} (ht : t < 3) (hty : newarray.typeOf at_ = en_ty t) (hw : Jvm.Cond.arrayClass (newarray.typeOf at_) ∈ en_W0) (hbt : componentBytes (newarray.typeOf at_) ≤ 8) (hxx : ∀ n : Nat, vp_cell (G.2.2.1 t) (en_cx G (x n)) = arrV (G.2.2.1 t) n (fun _ => defaultValue (newarray.typeOf at_))) {d : Nat} (hdg : decode I.2.1 pc = .ok (.newarray at_, d)) (hd : d = 2) (hs : en_newa t x l st h = some q) (Y : en_HY G xs I R p s m args meth c n0 k0 l h q H locs cells slots ls) (kk : en_KK G I R p L e s m args below meth c Q n0 k0 q (pc + d)) : W p L e R s m args below meth c H locs cells slots Q (F0 m pc ls (st.map (en_cv G))) := by
  obtain ⟨⟨hx, hb, -, hown, hts, hK, hB, hX, -, hnm⟩, hlim, hl, hr⟩ := Y
  subst hd
  unfold en_newa at hs
  split at hs
  · rename_i n r
    split at hs
    · rename_i hn
      cases hs
      have hlim1 : (h.1 ++ [Sum.inl (t, x n.toNatClampNeg)]).length ≤ n0 + R.cells := hlim.1
      have hlim2 : h.2 + n.toNatClampNeg ≤ k0 + R.slots := hlim.2
      rw [List.length_append] at hlim1
      simp only [List.length_cons, List.length_nil] at hlim1
      have hc1 := hr.2.2.2.1
      have hc2 := hr.2.2.2.2
      refine va_newaK hx hb (hts _ hw) rfl hdg rfl hn.1 rfl (Nat.le_trans (Nat.mul_le_mul hn.2 hbt) (by decide)) (by omega) (by omega) rfl fun H1 cA e1 z1 o1 hAr hNm => ?_
      have hRA := (hK.1.2 t _ (en_tysA (by omega))).2
      have hcA : cA = G.2.2.1 t := by
        rw [hty] at hNm
        rcases (show t = 0 ∨ t = 1 ∨ t = 2 by omega) with rfl | rfl | rfl
        · exact Option.some.inj (hNm.symm.trans hRA)
        · exact Option.some.inj (hNm.symm.trans hRA)
        · exact Option.some.inj (hNm.symm.trans hRA)
      subst hcA
      have hr2 := en_push hr (e := .inl (t, x n.toNatClampNeg)) n.toNatClampNeg (by show H1[_]? = some (vp_cell _ _); rw [e1]; exact congrArg some (hxx _).symm) z1 o1
      have hz := hr.2.1
      have hk := kk H1 locs _ _ ls hl hr2
      rw [hz]
      exact hk
    · cases hs
  · cases hs
theorem en_s_newq {i a cc : Nat} (ok : en_okw I (.anewarray i) pc a 0 cc = true) {d : Nat} (hdg : decode I.2.1 pc = .ok (.anewarray i, d)) (hd : d = 3) (hs : en_newa a (fun n => .inr (.inr (List.replicate n none))) l st h = some q) (Y : en_HY G xs I R p s m args meth c n0 k0 l h q H locs cells slots ls) (kk : en_KK G I R p L e s m args below meth c Q n0 k0 q (pc + d)) : W p L e R s m args below meth c H locs cells slots Q (F0 m pc ls (st.map (en_cv G))) := by
  obtain ⟨⟨hx, hb, -, hown, hts, hK, hB, hX, -, hnm⟩, hlim, hl, hr⟩ := Y
  subst hd
  unfold en_newa at hs
  split at hs
  · rename_i n r
    split at hs
    · rename_i hn
      cases hs
      have hlim1 : (h.1 ++ [Sum.inl (a, Sum.inr (Sum.inr (List.replicate n.toNatClampNeg none)))]).length ≤ n0 + R.cells := hlim.1
      have hlim2 : h.2 + n.toNatClampNeg ≤ k0 + R.slots := hlim.2
      rw [List.length_append] at hlim1
      simp only [List.length_cons, List.length_nil] at hlim1
      have hc1 := hr.2.2.2.1
      have hc2 := hr.2.2.2.2
      have fin : ∀ C : String, a < 5 → en_ty a = .object C → (Jvm.Cond.classLink I.1.cls i C).before args s = true → va_AO C s → W p L e R s m args below meth c H locs cells slots Q (F0 m pc ls ((Value.int n :: r).map (en_cv G))) := by
        intro C h5 hC hlink hover
        refine W.anew hx hb hown hlink (va_AO.use hover) rfl hdg rfl hn.1 (by have := hn.2; omega) (by omega) (by omega) fun cA kA comp f1 f2 f3 f4 => ?_
        have hRA := (hK.1.2 a _ (en_tysA h5)).2
        dsimp only at hRA
        rw [hC] at hRA
        obtain ⟨kA', comp', g1, g2, g3, g4⟩ := hRA
        have hcA : cA = G.2.2.1 a := Option.some.inj (f1.symm.trans g4)
        subst hcA
        generalize hH1 : H.push ({ cls := G.2.2.1 a, slots := Array.replicate n.toNatClampNeg .null, vm := .none } : Cell) = H1
        have z1 : H1.size = H.size + 1 := by rw [← hH1, Array.size_push]
        have e1 : H1[H.size]? = some (arrV (G.2.2.1 a) n.toNatClampNeg (fun _ => .null)) := by rw [← hH1, Array.getElem?_push_size, ← arrV_new]
        have o1 : ∀ q : Nat, q < H.size → H1[q]? = H[q]? := fun q hq => by rw [← hH1, Array.getElem?_push, if_neg (Nat.ne_of_lt hq)]
        have hr2 := en_push hr (e := .inl (a, .inr (.inr (List.replicate n.toNatClampNeg none)))) n.toNatClampNeg (by
          show H1[_]? = some (vp_cell _ _)
          rw [e1]
          refine congrArg some ?_
          show arrV _ _ _ = vp_cell (G.2.2.1 a) ((List.replicate n.toNatClampNeg none).length, _)
          rw [List.length_replicate]
          refine en_arrQ _ (fun j hj => ?_)
          rw [List.getD_eq_getElem?_getD, List.getElem?_replicate, if_pos hj]
          rfl) z1 o1
        have hz := hr.2.1
        have hk := kk H1 locs _ _ ls hl hr2
        rw [hz]
        exact hk
      simp only [en_okw] at ok
      split at ok
      · rename_i ha
        subst ha
        exact fin _ (by decide) rfl (hts _ (en_in (of_decide_eq_true ok) rfl)) hK.2.1
      · simp only [Bool.and_eq_true, decide_eq_true_eq] at ok
        obtain ⟨rfl, ok⟩ := ok
        exact fin _ (by decide) rfl (hts _ (en_in ok rfl)) hK.2.2.1
    · cases hs
  · cases hs
theorem en_dflt_cv (G : en_G) (a : Nat) : ∀ v ∈ en_dflt a, en_cv G v = v := by
  have hq : ∀ v ∈ en_dflt a, (match v with | .int _ => true | .long _ => true | .null => true | _ => false) = true := by
    unfold en_dflt
    split <;> decide +kernel
  intro v hv
  have h1 := hq v hv
  cases v <;> first | rfl | exact absurd h1 Bool.false_ne_true
theorem en_s_new {i a b cc : Nat} (ok : en_okw I (.new i) pc a b cc = true) {d : Nat} (hdg : decode I.2.1 pc = .ok (.new i, d)) (hd : d = 3) (hs : q = (l, .ref h.1.length :: st, (h.1 ++ [.inr (a, en_dflt a)], h.2 + (en_dflt a).length))) (Y : en_HY G xs I R p s m args meth c n0 k0 l h q H locs cells slots ls) (kk : en_KK G I R p L e s m args below meth c Q n0 k0 q (pc + d)) : W p L e R s m args below meth c H locs cells slots Q (F0 m pc ls (st.map (en_cv G))) := by
  obtain ⟨⟨hx, hb, -, hown, hts, hK, hB, hX, -, hnm⟩, hlim, hl, hr⟩ := Y
  subst hd
  subst hs
  have hlim1 : (h.1 ++ [Sum.inr (a, en_dflt a)]).length ≤ n0 + R.cells := hlim.1
  have hlim2 : h.2 + (en_dflt a).length ≤ k0 + R.slots := hlim.2
  rw [List.length_append] at hlim1
  simp only [List.length_cons, List.length_nil] at hlim1
  have hc1 := hr.2.2.2.1
  have hc2 := hr.2.2.2.2
  cases hc : en_cl[a]? with
  | some t =>
    obtain ⟨C, T, N⟩ := t
    simp only [en_okw, hc, decide_eq_true_eq] at ok
    obtain ⟨c1, c2, c3, c4, c5, c6, c7⟩ := en_clf hc
    have hKn := hK.1.1 a _ hc
    refine W.newcK hx hb hown (hts _ (en_in ok rfl)) (hts _ c4) (hts _ c5) rfl hdg (by omega) (by omega) hKn.2.1 rfl fun H1 kC hkC e1 z1 o1 => ?_
    rw [← c7]
    have hr2 := en_push hr (e := .inr (a, en_dflt a)) (en_dflt a).length (by
      refine ⟨_, hc, (u_born (en_tyf a) hts c1 hKn hkC e1 c2).to (fun j hj => ?_)⟩
      rw [c6 j hj]
      show vp_V (en_dflt a) j = vp_V ((en_dflt a).map (en_cv G)) j
      have hD : ∀ v ∈ en_dflt a, en_cv G v = v := en_dflt_cv G a
      rw [show (en_dflt a).map (en_cv G) = en_dflt a from by
        conv => rhs; rw [← List.map_id (en_dflt a)]
        exact List.map_congr_left hD]) z1 o1
    have hz := hr.2.1
    have hk := kk H1 locs _ _ ls hl hr2
    rw [hz]
    exact hk
  | none => simp [en_okw, hc] at ok
end EN1
end
section
/-! ===== System.arraycopy, Math, Object; then every instruction ===== -/
section EN2
variable {G : en_G} {xs : Option (List Int32)} {I : en_I} {R : Room} {p : Program} {L : Launch} {e : Env} {s : State} {m : MethodId} {args : Array Value} {below : List Frame} {meth : Method} {c : Code} {Q : State → Prop} {n0 k0 : Nat}
variable {pc : Nat} {l : en_L} {st : List Value} {h : en_H} {q : en_L × List Value × en_H} {H : Heap} {locs : List Loc} {cells slots : Nat} {ls : Array Slot}
theorem en_nn {z : Int32} (hz : ¬ z < 0) : z.toInt = (z.toNatClampNeg : Int) := by
  have hz0 : (0 : Int) ≤ z.toInt := by
    have := Int32.not_lt.mp hz
    simpa using Int32.le_iff_toInt_le.mp this
  show z.toInt = ((z.toInt.toNat : Nat) : Int)
  omega
theorem en_s_acpy {i cc : Nat} (o3 : en_w cc = some (.methodLink I.1.cls i arraycopyName)) {d : Nat} (hdg : decode I.2.1 pc = .ok (.invokestatic i, d)) (hd : d = 3) (hs : en_acpy l st h = some q) (Y : en_HY G xs I R p s m args meth c n0 k0 l h q H locs cells slots ls) (kk : en_KK G I R p L e s m args below meth c Q n0 k0 q (pc + d)) : W p L e R s m args below meth c H locs cells slots Q (F0 m pc ls (st.map (en_cv G))) := by
  obtain ⟨⟨hx, hb, hml, hown, hts, hK, hB, hX, hR, hnm⟩, -, hl, hr⟩ := Y
  subst hd
  unfold en_acpy at hs
  split at hs
  · rename_i n dp p1 sp p0 r
    split at hs
    · rename_i t0 f t1 g hp0 hp1
      split at hs
      · rename_i hc
        obtain ⟨⟨rfl, rfl, hcs⟩, ⟨h1, h2, h3⟩, h4, h5⟩ := hc
        cases hs
        intro T hT X
        have hc0 : H[G.1 + p0]? = some (vp_cell (G.2.2.1 0) (f.length, .inl (fun j => f.getD j 0))) := hr.1 p0 _ (en_cw_at hp0)
        have hc1 : H[G.1 + p1]? = some (vp_cell (G.2.2.1 0) (g.length, .inl (fun j => g.getD j 0))) := hr.1 p1 _ (en_cw_at hp1)
        have hK0 := (hK.1.2 0 _ (en_tysA (by decide))).1
        obtain ⟨-, ka, hk0, cm0, hkk0⟩ := hK0 f.length (fun j => .int (f.getD j 0))
        obtain ⟨-, kb, hk1, cm1, hkk1⟩ := hK0 g.length (fun j => .int (g.getD j 0))
        obtain ⟨vm', X', step⟩ := X.arraycopy hx hown (hts _ (en_in o3 rfl)) (hts _ en_an) (hts _ en_as) (hts _ en_ai) (src := G.1 + p0) (dst := G.1 + p1) (cs := vp_cell (G.2.2.1 0) (f.length, .inl (fun j => f.getD j 0))) (cd := vp_cell (G.2.2.1 0) (g.length, .inl (fun j => g.getD j 0))) (srcPos := sp) (destPos := dp) (n := n) (by rw [hT]; exact hc0) (by rw [hT]; exact hc1)
          (fun _ h => by cases h) (fun _ h => by cases h) (fun h => by cases h) (fun h => by cases h) hk0 hk1 hkk0 hkk1 (by simp [en_ty, refKind]) h1 h2 h3
          (by rw [en_nn h1, en_nn h3]; show ¬ _ > ((arrV (G.2.2.1 0) f.length (fun j => .int (f.getD j 0))).slots.size : Int); rw [arrV_size]; omega)
          (by rw [en_nn h2, en_nn h3]; show ¬ _ > ((arrV (G.2.2.1 0) g.length (fun j => .int (g.getD j 0))).slots.size : Int); rw [arrV_size]; omega)
          (fun vm₁ _ i hi => by
            have e : (vp_cell (G.2.2.1 0) (f.length, .inl (fun j => f.getD j 0))).slots.getD (sp.toNatClampNeg + i) .null = .int (f.getD (sp.toNatClampNeg + i) 0) := by
              show (arrV (G.2.2.1 0) f.length (fun j => .int (f.getD j 0))).slots.getD _ _ = _
              rw [Array.getD_eq_getD_getElem?, arrV_read _ _ (by omega)]
              rfl
            refine ⟨?_, ?_⟩
            · rw [e]
              rfl
            · rw [e]
              exact trivial)
          (g := F0 m pc ls (.int n :: .int dp :: .ref (G.1 + p1) :: .int sp :: .ref (G.1 + p0) :: r.map (en_cv G))) rfl (by rw [hml]; exact hl.1) (rest := r.map (en_cv G)) rfl (by rw [hb]; exact hdg) hR.1 (by
            have h9 := hR.2
            have h8 : ((r.map (en_cv G)).map fun v => v.category).sum ≤ 8 := by rw [en_csm]; exact hcs
            have h7 : nativeFrameWords "java/lang/System" "arraycopy" 5 ≤ 40 := by decide +kernel
            show 2 * 0 + _ + _ ≤ _
            omega)
        have e1 : copied (vp_cell (G.2.2.1 0) (f.length, .inl (fun j => f.getD j 0))) (vp_cell (G.2.2.1 0) (g.length, .inl (fun j => g.getD j 0))) sp dp n = vp_cell (G.2.2.1 0) (g.length, .inl (va_cpy (fun j => f.getD j 0) (fun j => g.getD j 0) sp.toNatClampNeg dp.toNatClampNeg n.toNatClampNeg)) := va_copied (fun z => .int z) (G.2.2.1 0) (G.2.2.1 0) (fun j => f.getD j 0) (fun j => g.getD j 0) h4
        rw [e1] at X' step
        have hl2 : G.1 + p1 < H.size := (Array.getElem?_eq_some_iff.mp hc1).1
        have hheap : ((T.setVm vm').setCell (G.1 + p1) (vp_cell (G.2.2.1 0) (g.length, .inl (va_cpy (fun j => f.getD j 0) (fun j => g.getD j 0) sp.toNatClampNeg dp.toNatClampNeg n.toNatClampNeg)))).heap = H.setIfInBounds (G.1 + p1) (vp_cell (G.2.2.1 0) (g.length, .inl (va_cpy (fun j => f.getD j 0) (fun j => g.getD j 0) sp.toNatClampNeg dp.toNatClampNeg n.toNatClampNeg))) := by rw [← hT]; rfl
        generalize hz : H.setIfInBounds (G.1 + p1) (vp_cell (G.2.2.1 0) (g.length, .inl (va_cpy (fun j => f.getD j 0) (fun j => g.getD j 0) sp.toNatClampNeg dp.toNatClampNeg n.toNatClampNeg))) = H1 at hheap
        have oq : ∀ q : Nat, q ≠ G.1 + p1 → H1[q]? = H[q]? := fun q hq => by rw [← hz]; simp [Array.getElem?_setIfInBounds, Ne.symm hq]
        have ea : H1[G.1 + p1]? = some (vp_cell (G.2.2.1 0) (g.length, .inl (va_cpy (fun j => f.getD j 0) (fun j => g.getD j 0) sp.toNatClampNeg dp.toNatClampNeg n.toNatClampNeg))) := by rw [← hz]; simp [Array.getElem?_setIfInBounds, hl2]
        have zs : H1.size = H.size := by rw [← hz]; simp
        obtain ⟨t, a1, b1⟩ := kk H1 _ cells slots ls hl (en_wrote hr (by
            rw [← en_cw_set]
            refine va_P.set hr.1 (en_D G h.1) (en_cw_at hp1) ?_ oq
            show H1[_]? = some (vp_cell _ _)
            rw [ea]
            refine congrArg some ?_
            show vp_cell _ _ = vp_cell (G.2.2.1 0) ((en_cpy f g sp.toNatClampNeg dp.toNatClampNeg n.toNatClampNeg).length, .inl (fun j => (en_cpy f g sp.toNatClampNeg dp.toNatClampNeg n.toNatClampNeg).getD j 0))
            rw [en_cpy_length f g h4 h5]
            exact en_ceI _ (fun j _ => (en_getD_cpy f g 0 h4 h5 j).symm)) zs ⟨by rw [zs]; exact hr.2.2.1.1, fun q g1 g2 => by
              rw [oq q (fun e => g2 (by rw [e]; exact Nat.le_add_right _ _))]
              exact hr.2.2.1.2.1 q g1 g2, fun q hq => by
              rcases List.mem_append.mp hq with h | h
              · exact hr.2.2.1.2.2 q h
              · obtain ⟨z, -, hz⟩ := List.mem_map.mp h
                rw [← hz]
                exact Nat.le_add_right _ _⟩) _ hheap X'
        exact ⟨t, step t a1, b1⟩
      · cases hs
    · cases hs
  · cases hs
theorem en_s_nat {i a b cc : Nat} (h9 : ¬ a < 900) (ok : en_okw I (.invokestatic i) pc a b cc = true) {d : Nat} (hdg : decode I.2.1 pc = .ok (.invokestatic i, d)) (hd : d = 3) (hs : en_nat a l st h = some q) (Y : en_HY G xs I R p s m args meth c n0 k0 l h q H locs cells slots ls) (kk : en_KK G I R p L e s m args below meth c Q n0 k0 q (pc + d)) : W p L e R s m args below meth c H locs cells slots Q (F0 m pc ls (st.map (en_cv G))) := by
  have Y0 := Y
  obtain ⟨⟨hx, hb, hml, hown, hts, hK, hB, hX, hR, hnm⟩, hlim, hl, hr⟩ := Y
  have hlim' := hlim
  simp only [en_okw, if_neg h9] at ok
  unfold en_nat at hs
  have hsz : c.maxLocals = ls.size := hml.trans hl.1.symm
  by_cases a0 : a = 900
  · subst a0
    simp at ok
  rw [if_neg a0] at hs
  by_cases a1 : a = 901
  · subst a1
    rw [if_pos rfl] at hs ok
    exact en_s_acpy (of_decide_eq_true ok) hdg hd hs Y0 kk
  rw [if_neg a1] at hs ok
  by_cases a2 : a = 902
  · subst a2
    rw [if_pos rfl] at hs ok
    have ok := of_decide_eq_true ok
    subst hd
    split at hs
    · rename_i y x r
      split at hs
      · rename_i hcs
        cases hs
        have h8 : ((r.map (en_cv G)).map fun v => v.category).sum ≤ 8 := by rw [en_csm]; exact hcs
        have h7 := hR.2
        have c1 := hr.2.2.2.1
        have c2 := hr.2.2.2.2
        exact va_mmax hx hb hsz hown (hts _ (en_in ok rfl)) (hts _ en_mxs) (hts _ en_mi) (hts _ en_mxc) hR.1 (by omega) (by have := hlim'.1; dsimp only at this; omega) (by have := hlim'.2; dsimp only at this; omega) hdg (kk _ _ _ _ _ hl hr)
      · cases hs
    · cases hs
  rw [if_neg a2] at hs ok
  by_cases a3 : a = 903
  · subst a3
    rw [if_pos rfl] at hs ok
    have ok := of_decide_eq_true ok
    subst hd
    split at hs
    · rename_i y x r
      split at hs
      · rename_i hcs
        cases hs
        have h8 : ((r.map (en_cv G)).map fun v => v.category).sum ≤ 8 := by rw [en_csm]; exact hcs
        have h7 := hR.2
        have c1 := hr.2.2.2.1
        have c2 := hr.2.2.2.2
        exact va_mmin hx hb hsz hown (hts _ (en_in ok rfl)) (hts _ en_mns) (hts _ en_mi) (hts _ en_mnc) hR.1 (by omega) (by have := hlim'.1; dsimp only at this; omega) (by have := hlim'.2; dsimp only at this; omega) hdg (kk _ _ _ _ _ hl hr)
      · cases hs
    · cases hs
  rw [if_neg a3] at hs ok
  by_cases a4 : a = 904
  · subst a4
    rw [if_pos rfl] at hs ok
    have ok := of_decide_eq_true ok
    subst hd
    split at hs
    · rename_i y x r
      split at hs
      · rename_i hcs
        cases hs
        have h8 : ((r.map (en_cv G)).map fun v => v.category).sum ≤ 8 := by rw [en_csm]; exact hcs
        have h7 := hR.2
        have c1 := hr.2.2.2.1
        have c2 := hr.2.2.2.2
        exact va_mmax_long hx hb hsz hown (hts _ (en_in ok rfl)) (hts _ en_mxls) (hts _ en_mi) (hts _ en_mxlc) hR.1 (by omega) (by have := hlim'.1; dsimp only at this; omega) (by have := hlim'.2; dsimp only at this; omega) hdg (kk _ _ _ _ _ hl hr)
      · cases hs
    · cases hs
  rw [if_neg a4] at hs ok
  by_cases a5 : a = 905
  · subst a5
    rw [if_pos rfl] at hs ok
    have ok := of_decide_eq_true ok
    subst hd
    split at hs
    · rename_i y x r
      split at hs
      · rename_i hcs
        cases hs
        have h8 : ((r.map (en_cv G)).map fun v => v.category).sum ≤ 8 := by rw [en_csm]; exact hcs
        have h7 := hR.2
        have c1 := hr.2.2.2.1
        have c2 := hr.2.2.2.2
        exact va_mmin_long hx hb hsz hown (hts _ (en_in ok rfl)) (hts _ en_mnls) (hts _ en_mi) (hts _ en_mnlc) hR.1 (by omega) (by have := hlim'.1; dsimp only at this; omega) (by have := hlim'.2; dsimp only at this; omega) hdg (kk _ _ _ _ _ hl hr)
      · cases hs
    · cases hs
  rw [if_neg a5] at hs
  cases hs
theorem en_s_obj {i a b cc : Nat} (h9 : ¬ a < 900) (ok : en_okw I (.invokespecial i) pc a b cc = true) {d : Nat} (hdg : decode I.2.1 pc = .ok (.invokespecial i, d)) (hd : d = 3) (hs : en_nat a l st h = some q) (Y : en_HY G xs I R p s m args meth c n0 k0 l h q H locs cells slots ls) (kk : en_KK G I R p L e s m args below meth c Q n0 k0 q (pc + d)) : W p L e R s m args below meth c H locs cells slots Q (F0 m pc ls (st.map (en_cv G))) := by
  obtain ⟨⟨hx, hb, hml, hown, hts, hK, hB, hX, hR, hnm⟩, hlim, hl, hr⟩ := Y
  simp only [en_okw, if_neg h9, Bool.and_eq_true, decide_eq_true_eq] at ok
  obtain ⟨rfl, ok⟩ := ok
  unfold en_nat at hs
  rw [if_pos rfl] at hs
  subst hd
  split at hs
  · rename_i v r
    split at hs
    · rename_i hcs
      cases hs
      have h8 : ((r.map (en_cv G)).map fun v => v.category).sum ≤ 8 := by rw [en_csm]; exact hcs
      have h7 := hR.2
      exact W.objInit hx hb hown (hts _ (en_in ok rfl)) (hts _ en_oi) (hts _ en_oc) (g := F0 m pc ls (.ref (G.1 + v) :: r.map (en_cv G))) rfl (by rw [hml]; exact hl.1) rfl hdg hR.1 (by show 2 * 0 + _ + 12 ≤ _; omega) (kk _ _ _ _ _ hl hr)
    · cases hs
  · cases hs
set_option maxHeartbeats 4000000 in
theorem en_st_sound {i : Instr} {len a b cc : Nat} (h9 : (match i with | .invokestatic _ => ¬ a < 900 | .invokespecial _ => ¬ a < 900 | _ => True)) (ok : en_okop I pc (i, len, a, b, cc) = true) (hs : en_st xs i a b l st h = some q) (Y : en_HY G xs I R p s m args meth c n0 k0 l h q H locs cells slots ls) (kk : en_KK G I R p L e s m args below meth c Q n0 k0 q (pc + len)) : W p L e R s m args below meth c H locs cells slots Q (F0 m pc ls (st.map (en_cv G))) := by
  have Y0 := Y
  obtain ⟨⟨hx, hb, hml, hown, hts, hK, hB, hX, hR, hnm⟩, hlim, hl, hr⟩ := Y
  simp only [en_okop, Bool.and_eq_true, decide_eq_true_eq] at ok
  obtain ⟨⟨hd, hlen⟩, ok⟩ := ok
  cases i with
  | iconst n =>
    simp only [en_lnok] at hlen
    replace hlen := of_decide_eq_true hlen
    simp only [en_len] at hlen
    subst hlen
    simp only [en_st, Option.some.injEq] at hs
    subst hs
    exact lv_iconst hx hb hd rfl (kk _ _ _ _ _ hl hr)
  | bipush n =>
    simp only [en_lnok] at hlen
    replace hlen := of_decide_eq_true hlen
    simp only [en_len] at hlen
    subst hlen
    simp only [en_st, Option.some.injEq] at hs
    subst hs
    exact lv_bipush hx hb hd rfl (kk _ _ _ _ _ hl hr)
  | sipush n =>
    simp only [en_lnok] at hlen
    replace hlen := of_decide_eq_true hlen
    simp only [en_len] at hlen
    subst hlen
    simp only [en_st, Option.some.injEq] at hs
    subst hs
    exact lv_sipush hx hb hd rfl (kk _ _ _ _ _ hl hr)
  | lconst n =>
    simp only [en_lnok] at hlen
    replace hlen := of_decide_eq_true hlen
    simp only [en_len] at hlen
    subst hlen
    simp only [en_st, Option.some.injEq] at hs
    subst hs
    exact lv_lconst hx hb hd rfl (kk _ _ _ _ _ hl hr)
  | aconst_null =>
    simp only [en_lnok] at hlen
    replace hlen := of_decide_eq_true hlen
    simp only [en_len] at hlen
    subst hlen
    simp only [en_st, Option.some.injEq] at hs
    subst hs
    exact lv_null hx hb hd (kk _ _ _ _ _ hl hr)
  | ldc n =>
    simp only [en_lnok] at hlen
    replace hlen := of_decide_eq_true hlen
    simp only [en_len] at hlen
    subst hlen
    simp only [en_st] at hs
    split at hs
    · rename_i ha
      cases hs
      have ok : (if a = 1 then decide (en_w cc = some (.constant I.1.cls n (Int32.ofNat b))) else decide (b < 1000) && decide ((en_str[b]?).map (fun q => (q.1, q.2.1)) = some (I.1.cls, n))) = true := ok
      rw [if_pos ha] at ok
      exact lv_ldc hx hb hown (hts _ (en_in (of_decide_eq_true ok) rfl)) hd (kk _ _ _ _ _ hl hr)
    · rename_i ha
      cases hs
      have ok : (if a = 1 then decide (en_w cc = some (.constant I.1.cls n (Int32.ofNat b))) else decide (b < 1000) && decide ((en_str[b]?).map (fun q => (q.1, q.2.1)) = some (I.1.cls, n))) = true := ok
      rw [if_neg ha] at ok
      simp only [Bool.and_eq_true, decide_eq_true_eq] at ok
      obtain ⟨hb1, hb2⟩ := ok
      cases hstr : en_str[b]? with
      | none => rw [hstr] at hb2; cases hb2
      | some w =>
        obtain ⟨w1, w2, w3⟩ := w
        rw [hstr] at hb2
        cases hb2
        have hV := hK.2.2.2.2 b _ hstr
        refine va_ldcS hx hb hown hV hd ?_
        have e1 : en_cv G (.float (UInt32.ofNat (b + 1))) = .ref (G.2.2.2 (b + 1)) := by
          show Value.ref (G.2.2.2 (UInt32.ofNat (b + 1)).toNat) = _
          rw [UInt32.toNat_ofNat_of_lt' (by show b + 1 < 4294967296; omega)]
        have k1 := kk _ _ _ _ _ hl hr
        dsimp only at k1
        rw [List.map_cons, e1] at k1
        exact k1
  | ldc_w n =>
    simp only [en_lnok] at hlen
    replace hlen := of_decide_eq_true hlen
    simp only [en_len] at hlen
    subst hlen
    simp only [en_st, Option.some.injEq] at hs
    subst hs
    have ok : decide (en_w cc = some (.constant I.1.cls n (Int32.ofNat b))) = true := ok
    exact lv_ldcw hx hb hown (hts _ (en_in (of_decide_eq_true ok) rfl)) hd (kk _ _ _ _ _ hl hr)
  | ldc2_w n =>
    simp only [en_lnok] at hlen
    replace hlen := of_decide_eq_true hlen
    simp only [en_len] at hlen
    subst hlen
    simp only [en_st, Option.some.injEq] at hs
    subst hs
    have ok : decide (en_w cc = some (.constantLong I.1.cls n (Int64.ofNat b))) = true := ok
    exact lv_ldc2 hx hb hown (hts _ (en_in (of_decide_eq_true ok) rfl)) hd (kk _ _ _ _ _ hl hr)
  | iload_n k =>
    simp only [en_lnok] at hlen
    replace hlen := of_decide_eq_true hlen
    simp only [en_len] at hlen
    exact en_s_ldin hd hlen hs Y0 kk
  | iload k =>
    simp only [en_lnok] at hlen
    replace hlen := of_decide_eq_true hlen
    simp only [en_len] at hlen
    exact en_s_ldi hd hlen hs Y0 kk
  | lload_n k =>
    simp only [en_lnok] at hlen
    replace hlen := of_decide_eq_true hlen
    simp only [en_len] at hlen
    exact en_s_ldln hd hlen hs Y0 kk
  | lload k =>
    simp only [en_lnok] at hlen
    replace hlen := of_decide_eq_true hlen
    simp only [en_len] at hlen
    exact en_s_ldl hd hlen hs Y0 kk
  | aload_n k =>
    simp only [en_lnok] at hlen
    replace hlen := of_decide_eq_true hlen
    simp only [en_len] at hlen
    exact en_s_ldan hd hlen hs Y0 kk
  | aload k =>
    simp only [en_lnok] at hlen
    replace hlen := of_decide_eq_true hlen
    simp only [en_len] at hlen
    exact en_s_lda hd hlen hs Y0 kk
  | istore_n k =>
    simp only [en_lnok] at hlen
    replace hlen := of_decide_eq_true hlen
    simp only [en_len] at hlen
    simp only [en_okw] at ok
    exact en_s_stin hd hlen (of_decide_eq_true ok) hs Y0 kk
  | istore k =>
    simp only [en_lnok] at hlen
    replace hlen := of_decide_eq_true hlen
    simp only [en_len] at hlen
    simp only [en_okw] at ok
    exact en_s_sti hd hlen (of_decide_eq_true ok) hs Y0 kk
  | lstore_n k =>
    simp only [en_lnok] at hlen
    replace hlen := of_decide_eq_true hlen
    simp only [en_len] at hlen
    simp only [en_okw] at ok
    exact en_s_stln hd hlen (of_decide_eq_true ok) hs Y0 kk
  | lstore k =>
    simp only [en_lnok] at hlen
    replace hlen := of_decide_eq_true hlen
    simp only [en_len] at hlen
    simp only [en_okw] at ok
    exact en_s_stl hd hlen (of_decide_eq_true ok) hs Y0 kk
  | astore_n k =>
    simp only [en_lnok] at hlen
    replace hlen := of_decide_eq_true hlen
    simp only [en_len] at hlen
    simp only [en_okw] at ok
    exact en_s_stan hd hlen (of_decide_eq_true ok) hs Y0 kk
  | astore k =>
    simp only [en_lnok] at hlen
    replace hlen := of_decide_eq_true hlen
    simp only [en_len] at hlen
    simp only [en_okw] at ok
    exact en_s_sta hd hlen (of_decide_eq_true ok) hs Y0 kk
  | iinc k n =>
    simp only [en_lnok] at hlen
    replace hlen := of_decide_eq_true hlen
    simp only [en_len] at hlen
    subst hlen
    have ok : decide (k < I.2.2.1) = true := ok
    simp only [en_st] at hs
    split at hs
    · rename_i x hg
      cases hs
      obtain ⟨kx, hkx⟩ := List.getElem?_of_mem (en_get_mem hg)
      exact lv_iinc hx hb hd hl (k := kx) (x := x) (by rw [List.getElem?_map, hkx]; rfl) rfl (of_decide_eq_true ok) (en_put1_map G k (.int (x + Int32.ofInt n)) l) (fun ls' hl' => kk _ _ _ _ _ hl' hr)
    · cases hs
  | iadd =>
    simp only [en_lnok] at hlen
    replace hlen := of_decide_eq_true hlen
    simp only [en_len] at hlen
    subst hlen
    simp only [en_st] at hs
    unfold en_i2 at hs
    split at hs
    · cases hs
      exact lv_iadd hx hb hd (kk _ _ _ _ _ hl hr)
    · cases hs
  | isub =>
    simp only [en_lnok] at hlen
    replace hlen := of_decide_eq_true hlen
    simp only [en_len] at hlen
    subst hlen
    simp only [en_st] at hs
    unfold en_i2 at hs
    split at hs
    · cases hs
      exact lv_isub hx hb hd (kk _ _ _ _ _ hl hr)
    · cases hs
  | imul =>
    simp only [en_lnok] at hlen
    replace hlen := of_decide_eq_true hlen
    simp only [en_len] at hlen
    subst hlen
    simp only [en_st] at hs
    unfold en_i2 at hs
    split at hs
    · cases hs
      exact lv_imul hx hb hd (kk _ _ _ _ _ hl hr)
    · cases hs
  | iand =>
    simp only [en_lnok] at hlen
    replace hlen := of_decide_eq_true hlen
    simp only [en_len] at hlen
    subst hlen
    simp only [en_st] at hs
    unfold en_i2 at hs
    split at hs
    · cases hs
      exact lv_iand hx hb hd (kk _ _ _ _ _ hl hr)
    · cases hs
  | ior =>
    simp only [en_lnok] at hlen
    replace hlen := of_decide_eq_true hlen
    simp only [en_len] at hlen
    subst hlen
    simp only [en_st] at hs
    unfold en_i2 at hs
    split at hs
    · cases hs
      exact lv_ior hx hb hd (kk _ _ _ _ _ hl hr)
    · cases hs
  | ishl =>
    simp only [en_lnok] at hlen
    replace hlen := of_decide_eq_true hlen
    simp only [en_len] at hlen
    subst hlen
    simp only [en_st] at hs
    unfold en_i2 at hs
    split at hs
    · cases hs
      exact lv_ishl hx hb hd (kk _ _ _ _ _ hl hr)
    · cases hs
  | ishr =>
    simp only [en_lnok] at hlen
    replace hlen := of_decide_eq_true hlen
    simp only [en_len] at hlen
    subst hlen
    simp only [en_st] at hs
    unfold en_i2 at hs
    split at hs
    · cases hs
      exact lv_ishr hx hb hd (kk _ _ _ _ _ hl hr)
    · cases hs
  | iushr =>
    simp only [en_lnok] at hlen
    replace hlen := of_decide_eq_true hlen
    simp only [en_len] at hlen
    subst hlen
    simp only [en_st] at hs
    unfold en_i2 at hs
    split at hs
    · cases hs
      exact lv_iushr hx hb hd rfl (kk _ _ _ _ _ hl hr)
    · cases hs
  | idiv =>
    simp only [en_lnok] at hlen
    replace hlen := of_decide_eq_true hlen
    simp only [en_len] at hlen
    subst hlen
    simp only [en_st] at hs
    unfold en_i2d at hs
    split at hs
    · split at hs
      · cases hs
      · rename_i hy
        cases hs
        exact lv_idiv hx hb hd hy (kk _ _ _ _ _ hl hr)
    · cases hs
  | irem =>
    simp only [en_lnok] at hlen
    replace hlen := of_decide_eq_true hlen
    simp only [en_len] at hlen
    subst hlen
    simp only [en_st] at hs
    unfold en_i2d at hs
    split at hs
    · split at hs
      · cases hs
      · rename_i hy
        cases hs
        exact lv_irem hx hb hd hy (kk _ _ _ _ _ hl hr)
    · cases hs
  | ladd =>
    simp only [en_lnok] at hlen
    replace hlen := of_decide_eq_true hlen
    simp only [en_len] at hlen
    subst hlen
    simp only [en_st] at hs
    unfold en_l2 at hs
    split at hs
    · cases hs
      exact lv_ladd hx hb hd (kk _ _ _ _ _ hl hr)
    · cases hs
  | lsub =>
    simp only [en_lnok] at hlen
    replace hlen := of_decide_eq_true hlen
    simp only [en_len] at hlen
    subst hlen
    simp only [en_st] at hs
    unfold en_l2 at hs
    split at hs
    · cases hs
      exact lv_lsub hx hb hd (kk _ _ _ _ _ hl hr)
    · cases hs
  | lmul =>
    simp only [en_lnok] at hlen
    replace hlen := of_decide_eq_true hlen
    simp only [en_len] at hlen
    subst hlen
    simp only [en_st] at hs
    unfold en_l2 at hs
    split at hs
    · cases hs
      exact lv_lmul hx hb hd (kk _ _ _ _ _ hl hr)
    · cases hs
  | ldiv =>
    simp only [en_lnok] at hlen
    replace hlen := of_decide_eq_true hlen
    simp only [en_len] at hlen
    subst hlen
    simp only [en_st] at hs
    unfold en_l2d at hs
    split at hs
    · split at hs
      · cases hs
      · rename_i hy
        cases hs
        exact lv_ldiv hx hb hd hy (kk _ _ _ _ _ hl hr)
    · cases hs
  | lrem =>
    simp only [en_lnok] at hlen
    replace hlen := of_decide_eq_true hlen
    simp only [en_len] at hlen
    subst hlen
    simp only [en_st] at hs
    unfold en_l2d at hs
    split at hs
    · split at hs
      · cases hs
      · rename_i hy
        cases hs
        exact lv_lrem hx hb hd hy (kk _ _ _ _ _ hl hr)
    · cases hs
  | ineg =>
    simp only [en_lnok] at hlen
    replace hlen := of_decide_eq_true hlen
    simp only [en_len] at hlen
    subst hlen
    simp only [en_st] at hs
    split at hs
    · cases hs
      exact lv_ineg hx hb hd (kk _ _ _ _ _ hl hr)
    · cases hs
  | i2l =>
    simp only [en_lnok] at hlen
    replace hlen := of_decide_eq_true hlen
    simp only [en_len] at hlen
    subst hlen
    simp only [en_st] at hs
    split at hs
    · cases hs
      exact lv_i2l hx hb hd rfl (kk _ _ _ _ _ hl hr)
    · cases hs
  | l2i =>
    simp only [en_lnok] at hlen
    replace hlen := of_decide_eq_true hlen
    simp only [en_len] at hlen
    subst hlen
    simp only [en_st] at hs
    split at hs
    · cases hs
      exact lv_l2i hx hb hd rfl (kk _ _ _ _ _ hl hr)
    · cases hs
  | lcmp =>
    simp only [en_lnok] at hlen
    replace hlen := of_decide_eq_true hlen
    simp only [en_len] at hlen
    subst hlen
    simp only [en_st] at hs
    split at hs
    · cases hs
      exact W.lcmp hx hb hd (kk _ _ _ _ _ hl hr)
    · cases hs
  | dup =>
    simp only [en_lnok] at hlen
    replace hlen := of_decide_eq_true hlen
    simp only [en_len] at hlen
    subst hlen
    simp only [en_st] at hs
    split at hs
    · split at hs
      · rename_i hv
        cases hs
        exact lv_dup hx hb hd (by rw [en_cat]; exact hv) (kk _ _ _ _ _ hl hr)
      · cases hs
    · cases hs
  | pop =>
    simp only [en_lnok] at hlen
    replace hlen := of_decide_eq_true hlen
    simp only [en_len] at hlen
    subst hlen
    simp only [en_st] at hs
    split at hs
    · split at hs
      · rename_i hv
        cases hs
        exact lv_pop hx hb hd (by rw [en_cat]; exact hv) (kk _ _ _ _ _ hl hr)
      · cases hs
    · cases hs
  | dup2 =>
    simp only [en_lnok] at hlen
    replace hlen := of_decide_eq_true hlen
    simp only [en_len] at hlen
    subst hlen
    simp only [en_st] at hs
    split at hs
    · split at hs
      · rename_i hv
        cases hs
        exact lv_dup2_11 hx hb hd (by rw [en_cat]; exact hv.1) (by rw [en_cat]; exact hv.2) (kk _ _ _ _ _ hl hr)
      · cases hs
    · cases hs
  | getfield n =>
    simp only [en_lnok] at hlen
    replace hlen := of_decide_eq_true hlen
    simp only [en_len] at hlen
    exact en_s_gf ok hd hlen hs Y0 kk
  | putfield n =>
    simp only [en_lnok] at hlen
    replace hlen := of_decide_eq_true hlen
    simp only [en_len] at hlen
    exact en_s_pf ok hd hlen hs Y0 kk
  | iaload =>
    simp only [en_lnok] at hlen
    replace hlen := of_decide_eq_true hlen
    simp only [en_len] at hlen
    exact en_s_ial hd hlen hs Y0 kk
  | baload =>
    simp only [en_lnok] at hlen
    replace hlen := of_decide_eq_true hlen
    simp only [en_len] at hlen
    exact en_s_bal hd hlen hs Y0 kk
  | laload =>
    simp only [en_lnok] at hlen
    replace hlen := of_decide_eq_true hlen
    simp only [en_len] at hlen
    exact en_s_lal hd hlen hs Y0 kk
  | aaload =>
    simp only [en_lnok] at hlen
    replace hlen := of_decide_eq_true hlen
    simp only [en_len] at hlen
    exact en_s_aal hd hlen hs Y0 kk
  | iastore =>
    simp only [en_lnok] at hlen
    replace hlen := of_decide_eq_true hlen
    simp only [en_len] at hlen
    exact en_s_iast hd hlen hs Y0 kk
  | bastore =>
    simp only [en_lnok] at hlen
    replace hlen := of_decide_eq_true hlen
    simp only [en_len] at hlen
    exact en_s_bast hd hlen hs Y0 kk
  | lastore =>
    simp only [en_lnok] at hlen
    replace hlen := of_decide_eq_true hlen
    simp only [en_len] at hlen
    exact en_s_last hd hlen hs Y0 kk
  | aastore =>
    simp only [en_lnok] at hlen
    replace hlen := of_decide_eq_true hlen
    simp only [en_len] at hlen
    exact en_s_aast hd hlen hs Y0 kk
  | arraylength =>
    simp only [en_lnok] at hlen
    replace hlen := of_decide_eq_true hlen
    simp only [en_len] at hlen
    exact en_s_alen hd hlen hs Y0 kk
  | anewarray n =>
    simp only [en_lnok] at hlen
    replace hlen := of_decide_eq_true hlen
    simp only [en_len] at hlen
    exact en_s_newq ok hd hlen hs Y0 kk
  | invokestatic n =>
    simp only [en_lnok] at hlen
    replace hlen := of_decide_eq_true hlen
    simp only [en_len] at hlen
    exact en_s_nat h9 ok hd hlen hs Y0 kk
  | invokespecial n =>
    simp only [en_lnok] at hlen
    replace hlen := of_decide_eq_true hlen
    simp only [en_len] at hlen
    exact en_s_obj h9 ok hd hlen hs Y0 kk
  | new n =>
    simp only [en_lnok] at hlen
    replace hlen := of_decide_eq_true hlen
    simp only [en_len] at hlen
    simp only [en_st, Option.some.injEq] at hs
    exact en_s_new ok hd hlen hs.symm Y0 kk
  | newarray t =>
    simp only [en_lnok] at hlen
    replace hlen := of_decide_eq_true hlen
    simp only [en_len] at hlen
    cases t with
    | int =>
      change en_newa 0 (fun n => .inl (List.replicate n (0 : Int32))) l st h = some q at hs
      exact en_s_newa (at_ := .int) (t := 0) (x := fun n => .inl (List.replicate n (0 : Int32))) (by decide) rfl en_aI (by decide) (fun n => by
        show vp_cell _ ((List.replicate n (0 : Int32)).length, .inl (fun j => (List.replicate n (0 : Int32)).getD j 0)) = _
        rw [List.length_replicate]
        exact (en_arrI _ (fun j hj => by rw [List.getD_eq_getElem?_getD, List.getElem?_replicate, if_pos hj]; rfl)).symm) hd hlen hs Y0 kk
    | boolean =>
      change en_newa 2 (fun n => .inl (List.replicate n (0 : Int32))) l st h = some q at hs
      exact en_s_newa (at_ := .boolean) (t := 2) (x := fun n => .inl (List.replicate n (0 : Int32))) (by decide) rfl en_aZ (by decide) (fun n => by
        show vp_cell _ ((List.replicate n (0 : Int32)).length, .inl (fun j => (List.replicate n (0 : Int32)).getD j 0)) = _
        rw [List.length_replicate]
        exact (en_arrI _ (fun j hj => by rw [List.getD_eq_getElem?_getD, List.getElem?_replicate, if_pos hj]; rfl)).symm) hd hlen hs Y0 kk
    | long =>
      change en_newa 1 (fun n => .inr (.inl (List.replicate n (0 : Int64)))) l st h = some q at hs
      exact en_s_newa (at_ := .long) (t := 1) (x := fun n => .inr (.inl (List.replicate n (0 : Int64)))) (by decide) rfl en_aJ (by decide) (fun n => by
        show vp_cell _ ((List.replicate n (0 : Int64)).length, .inr (.inl (fun j => (List.replicate n (0 : Int64)).getD j 0))) = _
        rw [List.length_replicate]
        exact (en_arrL _ (fun j hj => by rw [List.getD_eq_getElem?_getD, List.getElem?_replicate, if_pos hj]; rfl)).symm) hd hlen hs Y0 kk
    | _ => cases hs
  | _ => cases hs
end EN2
end
section
/-! ===== control, blocks, methods ===== -/
def en_le (h h' : en_H) : Prop := h.1.length ≤ h'.1.length ∧ h.2 ≤ h'.2
theorem en_le.rf (h : en_H) : en_le h h := ⟨Nat.le_refl _, Nat.le_refl _⟩
theorem en_le.tr {a b c : en_H} (h1 : en_le a b) (h2 : en_le b c) : en_le a c := ⟨Nat.le_trans h1.1 h2.1, Nat.le_trans h1.2 h2.2⟩
theorem en_le_set (h : en_H) (p : Nat) (e : en_E) : en_le h (h.1.set p e, h.2) := ⟨Nat.le_of_eq (List.length_set ..).symm, Nat.le_refl _⟩
theorem en_le_app (h : en_H) (e : en_E) (n : Nat) : en_le h (h.1 ++ [e], h.2 + n) := ⟨by show _ ≤ (h.1 ++ [e]).length; rw [List.length_append]; exact Nat.le_add_right _ _, Nat.le_add_right _ _⟩
set_option maxHeartbeats 4000000 in
theorem en_nat_mono {a : Nat} {l : en_L} {st : List Value} {h : en_H} {q : en_L × List Value × en_H} (hs : en_nat a l st h = some q) : en_le h q.2.2 := by
  unfold en_nat en_acpy at hs
  repeat' split at hs
  all_goals first | (cases hs; exact en_le.rf _) | (cases hs; exact en_le_set _ _ _) | (cases hs; done)
set_option maxHeartbeats 4000000 in
theorem en_st_mono {xs : Option (List Int32)} {i : Instr} {a b : Nat} {l : en_L} {st : List Value} {h : en_H} {q : en_L × List Value × en_H} (hs : en_st xs i a b l st h = some q) : en_le h q.2.2 := by
  cases i
  all_goals simp only [en_st] at hs
  all_goals first | (cases hs; done) | (cases hs; exact en_le.rf _) | (cases hs; exact en_le_app _ _ _) | exact en_nat_mono hs | skip
  all_goals (try unfold en_ldi at hs); (try unfold en_ldl at hs); (try unfold en_lda at hs); (try unfold en_sti at hs); (try unfold en_stl at hs); (try unfold en_sta at hs); (try unfold en_i2 at hs); (try unfold en_i2d at hs); (try unfold en_l2 at hs); (try unfold en_l2d at hs); (try unfold en_gf at hs); (try unfold en_pf at hs); (try unfold en_ias at hs); (try unfold en_lal at hs); (try unfold en_aal at hs); (try unfold en_iast at hs); (try unfold en_last at hs); (try unfold en_aast at hs); (try unfold en_alen at hs); (try unfold en_newa at hs)
  all_goals (repeat' split at hs)
  all_goals first | (cases hs; done) | (cases hs; exact en_le.rf _) | (cases hs; exact en_le_set _ _ _) | (cases hs; exact en_le_app _ _ _) | skip
  all_goals (try unfold en_newa at hs)
  all_goals (repeat' split at hs)
  all_goals first | (cases hs; done) | (cases hs; exact en_le_app _ _ _)
def en_xh (x : en_X) : en_H := match x with
  | .inl c => c.2.2.2
  | .inr (.inl q) => q.2.2.2.2
  | .inr (.inr w) => w.2
set_option maxHeartbeats 4000000 in
theorem en_ctl_mono {ret : Option FieldType} {op : en_Op} {pc : Nat} {l : en_L} {st : List Value} {h : en_H} {x : en_X} (hs : en_ctl ret op pc l st h = some (some x)) : en_le h (en_xh x) := by
  unfold en_ctl at hs
  split at hs
  all_goals (repeat' split at hs)
  all_goals first | (cases hs; done) | (cases hs; exact en_le.rf _) | (simp only [Option.some.injEq] at hs; repeat' split at hs)
  all_goals first | (cases hs; done) | (cases hs; exact en_le.rf _)
theorem en_rb_mono {xs : Option (List Int32)} {ret : Option FieldType} : ∀ {ops : List en_Op} {c : en_C} {x : en_X}, en_rb xs ret ops c = some x → en_le c.2.2.2 (en_xh x)
  | [], c, x, hs => by
    cases hs
    exact en_le.rf _
  | op :: r, c, x, hs => by
    unfold en_rb at hs
    split at hs
    · rename_i y hy
      subst hs
      exact en_ctl_mono hy
    · split at hs
      · rename_i q hq
        exact (en_st_mono hq).tr (en_rb_mono hs)
      · cases hs
theorem en_go_mono {IS : List en_I} {BS : List en_Bs} {cf : Nat → List Value → en_H → Option (Option Value × en_H)} {xs : Option (List Int32)} {ret : Option FieldType} {bs : en_Bs} (hcf : ∀ i as h w, cf i as h = some w → en_le h w.2) : ∀ {f : Nat} {c : en_C} {w : Option Value × en_H}, en_go IS BS cf xs ret bs f c = some w → en_le c.2.2.2 w.2
  | 0, c, w, hs => by cases hs
  | f + 1, c, w, hs => by
    unfold en_go at hs
    split at hs
    · cases hs
    · split at hs
      · cases hs
      · rename_i c' hb
        exact (en_rb_mono hb).tr (en_go_mono hcf hs)
      · rename_i op c' hb
        split at hs
        · cases hs
        · split at hs
          · cases hs
          · rename_i w' hw
            have h1 := en_rb_mono hb
            have h2 := hcf _ _ _ _ hw
            have h3 := en_go_mono hcf hs
            exact (h1.tr h2).tr h3
      · rename_i w' hb
        cases hs
        exact en_rb_mono hb
theorem en_run_mono {IS : List en_I} {BS : List en_Bs} : ∀ {d F i : Nat} {as : List Value} {h : en_H} {w : Option Value × en_H}, en_run IS BS d F i as h = some w → en_le h w.2
  | 0, F, i, as, h, w, hs => by cases hs
  | d + 1, F, i, as, h, w, hs => by
    unfold en_run at hs
    split at hs
    · split at hs
      · exact en_go_mono (fun i as h w hw => en_run_mono hw) hs
      · cases hs
    · cases hs
section EN3
variable {G : en_G} {xs : Option (List Int32)} {I : en_I} {R : Room} {p : Program} {L : Launch} {e : Env} {s : State} {m : MethodId} {args : Array Value} {below : List Frame} {meth : Method} {c : Code} {Q : State → Prop} {n0 k0 : Nat}
variable {pc : Nat} {l : en_L} {st : List Value} {h : en_H} {H : Heap} {locs : List Loc} {cells slots : Nat} {ls : Array Slot}
/-- a return that fits the method -/
def en_rok (I : en_I) (pc : Nat) (r : Option Value) : Prop := match r with
  | none => decode I.2.1 pc = .ok (.return_, 1) ∧ I.2.2.2.1 = none
  | some (.int v) => decode I.2.1 pc = .ok (.ireturn, 1) ∧ (I.2.2.2.1 = some .int ∨ (I.2.2.2.1 = some .boolean ∧ (v = 0 ∨ v = 1)))
  | some (.long _) => decode I.2.1 pc = .ok (.lreturn, 1) ∧ I.2.2.2.1 = some .long
  | some v => decode I.2.1 pc = .ok (.areturn, 1) ∧ (∃ n, I.2.2.2.1 = some (.object n)) ∧ (v = .null ∨ ∃ a, v = .ref a)
/-- it is a call -/
def en_isc (i : Instr) : Prop := match i with
  | .invokevirtual _ => True
  | .invokestatic _ => True
  | .invokespecial _ => True
  | _ => False
/-- what comes behind a block -/
def en_KX (G : en_G) (I : en_I) (R : Room) (p : Program) (L : Launch) (e : Env) (s : State) (m : MethodId) (args : Array Value) (below : List Frame) (meth : Method) (c : Code) (Q : State → Prop) (n0 k0 : Nat) (x : en_X) : Prop := match x with
  | .inl c' => en_KK G I R p L e s m args below meth c Q n0 k0 c'.2 c'.1
  | .inr (.inl q) => en_isc q.1.1 → q.1.2.2.1 < 900 → en_okop I q.2.1 q.1 = true → en_KK G I R p L e s m args below meth c Q n0 k0 q.2.2 q.2.1
  | .inr (.inr w) => ∀ (pc : Nat) (H : Heap) (locs : List Loc) (cells slots : Nat) (ls : Array Slot), en_rok I pc w.1 → en_Rl G s n0 k0 w.2 H locs cells slots → W p L e R s m args below meth c H locs cells slots Q (F0 m pc ls (w.1.toList.map (en_cv G)))
set_option maxHeartbeats 4000000 in
theorem en_ctl_sound {op : en_Op} {x : en_X} (ok : en_okop I pc op = true) (hs : en_ctl I.2.2.2.1 op pc l st h = some (some x)) (F : en_Fr G xs I R p s m args meth c) (hl : lv_has ls I.2.2.1 (l.map (en_cq G))) (hr : en_Rl G s n0 k0 h H locs cells slots) (kk : en_KX G I R p L e s m args below meth c Q n0 k0 x) : W p L e R s m args below meth c H locs cells slots Q (F0 m pc ls (st.map (en_cv G))) := by
  have ok0 := ok
  obtain ⟨hx, hb, -⟩ := F
  obtain ⟨i, len, a, b, cc⟩ := op
  simp only [en_okop, Bool.and_eq_true, decide_eq_true_eq] at ok
  obtain ⟨⟨hd, hlen⟩, ok⟩ := ok
  unfold en_ctl at hs
  cases i with
  | goto off =>
    simp only [en_lnok] at hlen
    replace hlen := of_decide_eq_true hlen
    simp only [en_len] at hlen
    subst hlen
    cases hs
    have ht : (pc : Int) + off = (a : Int) := of_decide_eq_true ok
    exact lv_goto hx hb hd ht (kk _ _ _ _ _ hl hr)
  | ifCond cnd off =>
    simp only [en_lnok] at hlen
    replace hlen := of_decide_eq_true hlen
    simp only [en_len] at hlen
    subst hlen
    have ht : (pc : Int) + off = (a : Int) := of_decide_eq_true ok
    simp only [Option.some.injEq] at hs
    split at hs
    · rename_i v r
      cases hs
      have k1 := fun H locs cells slots ls => kk H locs cells slots ls
      dsimp only at k1
      cases cnd with
      | eq => exact lv_if_eq hx hb hd ht (fun hc => by simpa [en_c1, hc] using kk _ _ _ _ _ hl hr) (fun hc => by simpa [en_c1, hc] using kk _ _ _ _ _ hl hr)
      | ne => exact lv_if_ne hx hb hd ht (fun hc => by simpa [en_c1, hc] using kk _ _ _ _ _ hl hr) (fun hc => by simpa [en_c1, hc] using kk _ _ _ _ _ hl hr)
      | lt => exact lv_if_lt hx hb hd ht (fun hc => by simpa [en_c1, hc] using kk _ _ _ _ _ hl hr) (fun hc => by simpa [en_c1, hc] using kk _ _ _ _ _ hl hr)
      | ge => exact lv_if_ge hx hb hd ht (fun hc => by simpa [en_c1, hc] using kk _ _ _ _ _ hl hr) (fun hc => by simpa [en_c1, hc] using kk _ _ _ _ _ hl hr)
      | gt => exact lv_if_gt hx hb hd ht (fun hc => by simpa [en_c1, hc] using kk _ _ _ _ _ hl hr) (fun hc => by simpa [en_c1, hc] using kk _ _ _ _ _ hl hr)
      | le => exact lv_if_le hx hb hd ht (fun hc => by simpa [en_c1, hc] using kk _ _ _ _ _ hl hr) (fun hc => by simpa [en_c1, hc] using kk _ _ _ _ _ hl hr)
    · cases hs
  | if_icmp cnd off =>
    simp only [en_lnok] at hlen
    replace hlen := of_decide_eq_true hlen
    simp only [en_len] at hlen
    subst hlen
    have ht : (pc : Int) + off = (a : Int) := of_decide_eq_true ok
    simp only [Option.some.injEq] at hs
    split at hs
    · rename_i y v r
      cases hs
      cases cnd with
      | eq => exact lv_icmp_eq hx hb hd ht (fun hc => by simpa [en_c2, hc] using kk _ _ _ _ _ hl hr) (fun hc => by simpa [en_c2, hc] using kk _ _ _ _ _ hl hr)
      | ne => exact lv_icmp_ne hx hb hd ht (fun hc => by simpa [en_c2, hc] using kk _ _ _ _ _ hl hr) (fun hc => by simpa [en_c2, hc] using kk _ _ _ _ _ hl hr)
      | lt => exact lv_icmp_lt hx hb hd ht (fun hc => by simpa [en_c2, hc] using kk _ _ _ _ _ hl hr) (fun hc => by simpa [en_c2, hc] using kk _ _ _ _ _ hl hr)
      | ge => exact lv_icmp_ge hx hb hd ht (fun hc => by simpa [en_c2, hc] using kk _ _ _ _ _ hl hr) (fun hc => by simpa [en_c2, hc] using kk _ _ _ _ _ hl hr)
      | gt => exact lv_icmp_gt hx hb hd ht (fun hc => by simpa [en_c2, hc] using kk _ _ _ _ _ hl hr) (fun hc => by simpa [en_c2, hc] using kk _ _ _ _ _ hl hr)
      | le => exact lv_icmp_le hx hb hd ht (fun hc => by simpa [en_c2, hc] using kk _ _ _ _ _ hl hr) (fun hc => by simpa [en_c2, hc] using kk _ _ _ _ _ hl hr)
    · cases hs
  | ifnonnull off =>
    simp only [en_lnok] at hlen
    replace hlen := of_decide_eq_true hlen
    simp only [en_len] at hlen
    subst hlen
    have ht : (pc : Int) + off = (a : Int) := of_decide_eq_true ok
    simp only [Option.some.injEq] at hs
    split at hs
    · cases hs
      exact lv_ifnonnull hx hb hd ht (kk _ _ _ _ _ hl hr)
    · cases hs
      exact lv_ifnonnullN hx hb hd (kk _ _ _ _ _ hl hr)
    · cases hs
  | ifnull off =>
    simp only [en_lnok] at hlen
    replace hlen := of_decide_eq_true hlen
    simp only [en_len] at hlen
    subst hlen
    have ht : (pc : Int) + off = (a : Int) := of_decide_eq_true ok
    simp only [Option.some.injEq] at hs
    split at hs
    · cases hs
      exact lv_ifnull hx hb hd (kk _ _ _ _ _ hl hr)
    · cases hs
      exact lv_ifnullN hx hb hd ht (kk _ _ _ _ _ hl hr)
    · cases hs
  | tableswitch d lo hi offs =>
    have ok : (decide (0 ≤ (pc : Int) + d) && offs.toList.all (fun o => decide (0 ≤ (pc : Int) + o))) = true := ok
    simp only [Bool.and_eq_true, decide_eq_true_eq] at ok
    obtain ⟨o1, o2⟩ := ok
    simp only [Option.some.injEq] at hs
    split at hs
    · rename_i v r
      split at hs
      · rename_i t ht
        cases hs
        unfold en_sw at ht
        split at ht
        · rename_i hv
          cases ht
          exact lv_tableOut hx hb hd hv (by omega) (kk _ _ _ _ _ hl hr)
        · rename_i hv
          split at ht
          · rename_i o ho
            cases ht
            have o3 : 0 ≤ (pc : Int) + o := of_decide_eq_true (List.all_eq_true.mp o2 o (Array.mem_toList_iff.mpr (Array.mem_of_getElem? ho)))
            exact lv_tableIn hx hb hd (fun q => hv (Or.inl q)) (fun q => hv (Or.inr q)) ho (by omega) (kk _ _ _ _ _ hl hr)
          · cases ht
      · cases hs
    · cases hs
  | ireturn =>
    simp only [en_lnok] at hlen
    replace hlen := of_decide_eq_true hlen
    simp only [en_len] at hlen
    subst hlen
    simp only [Option.some.injEq] at hs
    split at hs
    · rename_i v
      split at hs
      · rename_i hret
        cases hs
        exact kk pc _ _ _ _ ls ⟨hd, Or.inl hret⟩ hr
      · rename_i hret
        split at hs
        · rename_i hv
          cases hs
          exact kk pc _ _ _ _ ls ⟨hd, Or.inr ⟨hret, hv⟩⟩ hr
        · cases hs
      · cases hs
    · cases hs
  | lreturn =>
    simp only [en_lnok] at hlen
    replace hlen := of_decide_eq_true hlen
    simp only [en_len] at hlen
    subst hlen
    simp only [Option.some.injEq] at hs
    split at hs
    · rename_i v
      split at hs
      · rename_i hret
        cases hs
        exact kk pc _ _ _ _ ls ⟨hd, hret⟩ hr
      · cases hs
    · cases hs
  | areturn =>
    simp only [en_lnok] at hlen
    replace hlen := of_decide_eq_true hlen
    simp only [en_len] at hlen
    subst hlen
    simp only [Option.some.injEq] at hs
    split at hs
    · rename_i n hret
      split at hs
      · cases hs
        exact kk pc _ _ _ _ ls ⟨hd, ⟨n, hret⟩, Or.inr ⟨_, rfl⟩⟩ hr
      · cases hs
        exact kk pc _ _ _ _ ls ⟨hd, ⟨n, hret⟩, Or.inl rfl⟩ hr
      · cases hs
    · cases hs
  | return_ =>
    simp only [en_lnok] at hlen
    replace hlen := of_decide_eq_true hlen
    simp only [en_len] at hlen
    subst hlen
    simp only [Option.some.injEq] at hs
    split at hs
    · rename_i hret
      split at hs
      · cases hs
        exact kk pc _ _ _ _ ls ⟨hd, hret⟩ hr
      · cases hs
    · cases hs
  | invokevirtual n =>
    simp only at hs
    split at hs
    · rename_i ha
      cases hs
      exact kk trivial ha ok0 _ _ _ _ _ hl hr
    · cases hs
  | invokestatic n =>
    simp only at hs
    split at hs
    · rename_i ha
      cases hs
      exact kk trivial ha ok0 _ _ _ _ _ hl hr
    · cases hs
  | invokespecial n =>
    simp only at hs
    split at hs
    · rename_i ha
      cases hs
      exact kk trivial ha ok0 _ _ _ _ _ hl hr
    · cases hs
  | _ => cases hs
theorem en_ctl_none {ret : Option FieldType} {op : en_Op} (hs : en_ctl ret op pc l st h = none) : (match op.1 with | .invokestatic _ => ¬ op.2.2.1 < 900 | .invokespecial _ => ¬ op.2.2.1 < 900 | _ => True) := by
  unfold en_ctl at hs
  split
  · rename_i hi
    rw [hi] at hs
    simp only at hs
    split at hs
    · cases hs
    · assumption
  · rename_i hi
    rw [hi] at hs
    simp only at hs
    split at hs
    · cases hs
    · assumption
  · trivial
theorem en_rb_sound (F : en_Fr G xs I R p s m args meth c) {x : en_X} (hlim : (en_xh x).1.length ≤ n0 + R.cells ∧ (en_xh x).2 ≤ k0 + R.slots) (kk : en_KX G I R p L e s m args below meth c Q n0 k0 x) : ∀ (ops : List en_Op) {pc : Nat} {l : en_L} {st : List Value} {h : en_H} {H : Heap} {locs : List Loc} {cells slots : Nat} {ls : Array Slot}, en_okb I pc ops = true → en_rb xs I.2.2.2.1 ops (pc, l, st, h) = some x → lv_has ls I.2.2.1 (l.map (en_cq G)) → en_Rl G s n0 k0 h H locs cells slots → W p L e R s m args below meth c H locs cells slots Q (F0 m pc ls (st.map (en_cv G)))
  | [], pc, l, st, h, H, locs, cells, slots, ls, ok, hs, hl, hr => by
    cases hs
    exact kk _ _ _ _ _ hl hr
  | op :: r, pc, l, st, h, H, locs, cells, slots, ls, ok, hs, hl, hr => by
    unfold en_okb at ok
    simp only [Bool.and_eq_true] at ok
    unfold en_rb at hs
    split at hs
    · rename_i y hy
      subst hs
      exact en_ctl_sound ok.1 hy F hl hr kk
    · rename_i hn
      split at hs
      · rename_i q hq
        have h1 := en_rb_mono hs
        obtain ⟨i, len, a, b, cc⟩ := op
        refine en_st_sound (en_ctl_none hn) ok.1 hq ⟨F, ⟨Nat.le_trans h1.1 hlim.1, Nat.le_trans h1.2 hlim.2⟩, hl, hr⟩ ?_
        intro H' locs' cells' slots' ls' hl' hr'
        exact en_rb_sound F hlim kk r ok.2 hs hl' hr'
      · cases hs
end EN3
end
section
/-! ===== calls and whole methods ===== -/
def en_rm (d : Nat) (h : en_H) (w : Option Value × en_H) : Room := { frames := d, cells := w.2.1.length - h.1.length, slots := w.2.2 - h.2, locals := 64 * d }
def en_Pc (G : en_G) (as : List Value) (h : en_H) : Array Value → State → Prop := va_Pc (as.map (en_cv G)) (fun U => va_P G.2.1 en_cl (en_cw G h.1) U.heap ∧ U.heap.size = G.1 + h.1.length ∧ en_K G U)
def en_Qc (G : en_G) (w : Option Value × en_H) : Array Value → State → Outcome → State → Prop := fun _ st o t => o = .returned (w.1.map (en_cv G)) ∧ va_P G.2.1 en_cl (en_cw G w.2.1) t.heap ∧ t.heap.size = G.1 + w.2.1.length ∧ va_F (fun q => G.1 ≤ q) st t
/-- what a program decides of the methods' own words -/
def en_okIS : Bool := (en_IS.zip en_ps).all (fun q => en_okJ q.1 q.2 || decide (q.1.1.name = "law")) && decide (en_IS.length = en_ps.length)
theorem en_codeW {J : en_I} {q : Nat × Nat × Nat × Nat} (h : en_okJ J q = true) : (Jvm.Cond.code J.1 J.2.1 J.2.2.1 J.2.2.2.1) ∈ en_W0 := by
  simp only [en_okJ, Bool.and_eq_true, decide_eq_true_eq] at h
  exact en_in h.1.1.2 rfl
theorem en_goodIn {J : en_I} {q : Nat × Nat × Nat × Nat} (h : en_okJ J q = true) : GoodIn en_W0 (en_ws J) := by
  intro w hw
  have h1 : w ∈ en_W0 := by
    rcases List.mem_cons.mp hw with rfl | h1
    · exact en_codeW h
    · exact h1
  exact ⟨h1, good_of_word (List.mem_filter.mp h1).2⟩
/-- what is known of a callee -/
def en_Cal (G : en_G) (L : Launch) (d : Nat) (i : Nat) (as : List Value) (h : en_H) (w : Option Value × en_H) : Prop :=
  ∃ (J : en_I) (q : Nat × Nat × Nat × Nat), en_IS[i]? = some J ∧ en_okJ J q = true ∧ (J.2.2.2.2.2 = 1 ∨ en_rc J as h = true) ∧ Met L J.1 (en_ws J) (en_rm d h w) (en_Pc G as h) (en_Qc G w) (w.2.1.length - h.1.length) (w.2.2 - h.2) (fun q => G.1 ≤ q)
section EN4
variable {G : en_G} {xs : Option (List Int32)} {I : en_I} {R : Room} {p : Program} {L : Launch} {e : Env} {s : State} {m : MethodId} {args : Array Value} {below : List Frame} {meth : Method} {c : Code} {Q : State → Prop} {n0 k0 : Nat}
variable {pc : Nat} {l : en_L} {st : List Value} {h : en_H} {H : Heap} {locs : List Loc} {cells slots : Nat} {ls : Array Slot}
theorem en_blind (as : List Value) : FrameBlind (en_Pc G as h) := fun a U g mk q => ⟨q.1, q.2.1, q.2.2.1, en_K.calling g mk a q.2.2.2⟩
theorem en_call {op : en_Op} {d : Nat} (hcall : en_isc op.1) {q : List Value × List Value} {w : Option Value × en_H} (ha : op.2.2.1 < 900) (ok : en_okop I pc op = true) (hq : en_take op st = some q) (hc : en_Cal G L d op.2.2.1 q.1 h w) (hm : en_le h w.2) (F : en_Fr G xs I R p s m args meth c) (hR : d + 1 ≤ R.frames ∧ 64 * (d + 1) ≤ R.locals) (hlim : w.2.1.length ≤ n0 + R.cells ∧ w.2.2 ≤ k0 + R.slots) (hl : lv_has ls I.2.2.1 (l.map (en_cq G))) (hr : en_Rl G s n0 k0 h H locs cells slots)
    (kk : en_KK G I R p L e s m args below meth c Q n0 k0 (l, w.1.toList ++ q.2, w.2) (pc + 3)) : W p L e R s m args below meth c H locs cells slots Q (F0 m pc ls (st.map (en_cv G))) := by
  obtain ⟨hx, hb, hml, hown, hts, hK, hB, hX, -, hnm⟩ := F
  obtain ⟨i, len, a, b, cc⟩ := op
  obtain ⟨J, jp, hJ, hj, hrc, hM⟩ := hc
  dsimp only at ha hJ hq
  simp only [en_okop, Bool.and_eq_true, decide_eq_true_eq] at ok
  obtain ⟨⟨hd, hlen⟩, ok⟩ := ok
  unfold en_take at hq
  dsimp only at hq
  split at hq
  · rename_i hbl
    cases hq
    have hst : st = (st.take b).reverse.reverse ++ st.drop b := by rw [List.reverse_reverse, List.take_append_drop]
    have hlenT : (st.take b).reverse.length = b := by rw [List.length_reverse, List.length_take]; omega
    generalize hAs : (st.take b).reverse = As at *
    generalize hRe : st.drop b = rest at *
    have hcs8 : ((rest.map (en_cv G)).map fun v => v.category).sum ≤ 8 := by rw [en_csm]; exact hbl.2
    have hgi := en_goodIn hj
    have hcd := en_codeW hj
    have hjj := hj
    simp only [en_okJ, Bool.and_eq_true, decide_eq_true_eq] at hjj
    obtain ⟨⟨⟨⟨⟨j1, j2⟩, j3⟩, j4⟩, j5⟩, j6⟩ := hjj
    have hini : (Jvm.Cond.initialized J.1.cls).before args s = true := hts _ (en_in j5 rfl)
    have hS : CallFix p m c I.2.1 I.2.2.1 s args en_W0 I.1.cls := ⟨hx, hb, hml, hown, hts⟩
    have hc1 := hr.2.2.2.1
    have hc2 := hr.2.2.2.2
    have hm1 := hm.1
    have hm2 := hm.2
    have hf : cells + (w.2.1.length - h.1.length) ≤ R.cells ∧ slots + (w.2.2 - h.2) ≤ R.slots := ⟨by have := hlim.1; omega, by have := hlim.2; omega⟩
    have hPcU : ∀ U : State, U.heap = H → s.WarmedH U.vm → en_Pc G As h (As.map (en_cv G)).toArray U := fun U hU hW => ⟨rfl, by rw [hU]; exact hr.1, by rw [hU]; exact hr.2.1, en_K.warm hW hK⟩
    have fin : ∀ av : Array Value, va_Run p L e R s m args below meth c H locs cells slots (w.2.1.length - h.1.length) (w.2.2 - h.2) (F0 m pc ls (st.map (en_cv G))) (rest.map (en_cv G)) (en_Qc G w av) (fun q => G.1 ≤ q) → W p L e R s m args below meth c H locs cells slots Q (F0 m pc ls (st.map (en_cv G))) := by
      intro av hrun T hT X
      obtain ⟨v, st0, t, T', LL, h0, X', hLL, e1, e2, ⟨hv, hP1, hz1, hF1⟩, stp⟩ := hrun T hT X
      have hv' : v = w.1.map (en_cv G) := Outcome.returned.inj hv
      subst hv'
      have hRl : en_Rl G s n0 k0 w.2 T'.heap (locs ++ LL) (cells + (w.2.1.length - h.1.length)) (slots + (w.2.2 - h.2)) := by
        refine ⟨by rw [e1]; exact hP1, by rw [e1]; exact hz1, ⟨?_, fun q g1 g2 => ?_, fun q hq => ?_⟩, by omega, by omega⟩
        · rw [e1]
          exact Nat.le_trans hr.2.2.1.1 (by have := hF1.1; rw [h0] at this; exact this)
        · rw [e1, hF1.2 q (by rw [h0]; exact Nat.lt_of_lt_of_le g1 hr.2.2.1.1) g2, h0]
          exact hr.2.2.1.2.1 q g1 g2
        · rcases List.mem_append.mp hq with g | g
          · exact hr.2.2.1.2.2 q g
          · exact hLL q g
      obtain ⟨t2, a1, b1⟩ := kk T'.heap _ _ _ ls hl hRl T' rfl X'
      refine ⟨t2, stp t2 ?_, b1⟩
      have e3 : (w.1.toList ++ rest).map (en_cv G) = (w.1.map (en_cv G)).toList ++ rest.map (en_cv G) := by
        rw [List.map_append]
        cases w.1 <;> rfl
      dsimp only at a1
      rw [e3] at a1
      exact a1
    have hstk : st.map (en_cv G) = (As.map (en_cv G)).reverse ++ rest.map (en_cv G) := by rw [hst, List.map_append, List.map_reverse]
    have hroom : ∀ ml : Nat, ml ≤ 45 → (en_rm d h w).frames + 1 ≤ R.frames ∧ 8 + (ml + 11) + (en_rm d h w).locals ≤ R.locals := fun ml hml' => ⟨hR.1, by have := hR.2; show 8 + (ml + 11) + 64 * d ≤ _; omega⟩
    have okc : ∀ (n k : Nat), en_okc I n a b cc k = true → ((parseMethodDescriptor J.1.desc).map (fun d => d.parameters.length) = some (b - k) ∧ k ≤ b ∧ J.2.2.1 ≤ 45 ∧ J.2.2.2.2.2 + k = 1) ∧ ((Jvm.Cond.methodLink I.1.cls n J.1).before args s = true ∨ (Jvm.Cond.methodLinkNest I.1.cls n J.1 "LeftHands").before args s = true) := by
      intro n k hk
      simp only [en_okc, hJ, Bool.and_eq_true, decide_eq_true_eq] at hk
      obtain ⟨⟨⟨⟨k1, k2⟩, k3⟩, k4⟩, k5⟩ := hk
      refine ⟨⟨k1, k2, k3, k4⟩, ?_⟩
      split at k5
      · exact Or.inl (hts _ (en_in (of_decide_eq_true k5) rfl))
      · have hn := hK.2.2.2.1 _ (List.mem_of_getElem? (of_decide_eq_true k5))
        exact Or.inr (va_Nw.use rfl hn)
    have recv : J.2.2.2.2.2 = 0 → ∃ (pl : Nat) (fs : List Value) (As' : List Value), As = .ref pl :: As' ∧ h.1[pl]? = some (.inr (J.2.2.2.2.1, fs)) := by
      intro h0
      rcases hrc with h1 | h1
      · omega
      · cases As with
        | nil => cases h1
        | cons v As' =>
          cases v with
          | ref pl =>
            cases hp : h.1[pl]? with
            | none => simp [en_rc, hp] at h1
            | some t =>
              cases t with
              | inl t => simp [en_rc, hp] at h1
              | inr t =>
                obtain ⟨ci, fs⟩ := t
                have h2 : Nat.beq ci J.2.2.2.2.1 = true := by simpa only [en_rc, hp] using h1
                have := Nat.eq_of_beq_eq_true h2
                subst this
                exact ⟨pl, fs, As', rfl, hp⟩
          | _ => cases h1
    cases i with
    | invokestatic n =>
      simp only [en_lnok] at hlen
      replace hlen := of_decide_eq_true hlen
      simp only [en_len] at hlen
      subst hlen
      have ok2 : en_okc I n a b cc 0 = true := by
        have := ok
        simp only [en_okw, if_pos ha] at this
        exact this
      obtain ⟨⟨k1, k2, k3, k4⟩, k5⟩ := okc n 0 ok2
      have hstat : (Jvm.Cond.static J.1).before args s = true := by
        rw [if_pos (by omega)] at j6
        exact hts _ (en_in (of_decide_eq_true j6) rfl)
      rcases k5 with k5 | k5
      · exact fin _ (va_runS (As := As.map (en_cv G)) (rest := rest.map (en_cv G)) hS hM ⟨callB_of b hts hgi rfl rfl rfl hini k5 ⟨j2, j3, k1⟩ (hroom _ k3), hstat⟩ ⟨en_blind As, hPcU⟩ rfl (by rw [List.length_map]; exact hlenT) hl.1 hstk (lv_room hcs8) hd hf)
      · exact fin _ (va_runSN (As := As.map (en_cv G)) (rest := rest.map (en_cv G)) hS hM ⟨va_cnB b hts hgi rfl rfl rfl (va_Nw.of rfl k5) hini ⟨j2, j3, k1⟩ (hroom _ k3), hstat, trivial⟩ ⟨en_blind As, hPcU⟩ rfl (by rw [List.length_map]; exact hlenT) hl.1 hstk (lv_room hcs8) hd hf)
    | invokevirtual n =>
      simp only [en_lnok] at hlen
      replace hlen := of_decide_eq_true hlen
      simp only [en_len] at hlen
      subst hlen
      have ok2 : en_okc I n a b cc 1 = true := by
        have : (decide (a < 900) && en_okc I n a b cc 1 && decide ((en_IS[a]?).map (fun J => decide (J.1.name = "<init>")) = some false)) = true := ok
        simp only [Bool.and_eq_true] at this
        exact this.1.2
      have ok3 : ¬ J.1.name = "<init>" := by
        have : (decide (a < 900) && en_okc I n a b cc 1 && decide ((en_IS[a]?).map (fun J => decide (J.1.name = "<init>")) = some false)) = true := ok
        simp only [Bool.and_eq_true, decide_eq_true_eq, hJ] at this
        exact of_decide_eq_false (Option.some.inj this.2)
      obtain ⟨⟨k1, k2, k3, k4⟩, k5⟩ := okc n 1 ok2
      rw [if_neg (by omega)] at j6
      simp only [Bool.and_eq_true, decide_eq_true_eq] at j6
      obtain ⟨⟨⟨i1, i2⟩, i3⟩, i4⟩ := j6
      obtain ⟨pl, fs, As', rfl, hp⟩ := recv i1
      have hinst : (Jvm.Cond.instanceMethod J.1).before args s = true := hts _ (en_in i2 rfl)
      have hrv : ∃ cellB : Cell, H[G.1 + pl]? = some cellB ∧ cellB.vm.isStatics = false ∧ s.vm.findClass J.1.cls = some cellB.cls := by
        cases hcl : en_cl[J.2.2.2.2.1]? with
        | none => rw [hcl] at i3; cases i3
        | some rr =>
          rw [hcl] at i3
          have e4 : rr.1 = J.1.cls := Option.some.inj i3
          have h7 := va_recv hK.1 hr.1 (ci := J.2.2.2.2.1) (q0 := pl) hcl (en_cw_at hp)
          rw [e4] at h7
          exact h7
      · rw [if_neg ok3] at i4
        have hsel : (Jvm.Cond.selects J.1.cls J.1 J.1).before args s = true := hts _ (List.mem_filter.mpr ⟨List.mem_of_getElem? (of_decide_eq_true i4), rfl⟩)
        have hstk2 : st.map (en_cv G) = (As'.map (en_cv G)).reverse ++ Value.ref (G.1 + pl) :: rest.map (en_cv G) := by
          rw [hstk, List.map_cons, List.reverse_cons, List.append_assoc]
          rfl
        have hln : (As'.map (en_cv G)).length = b - 1 := by
          rw [List.length_map]
          have := hlenT
          rw [List.length_cons] at this
          omega
        rcases k5 with k5 | k5
        · exact fin _ (va_runV (As := As'.map (en_cv G)) (rest := rest.map (en_cv G)) (C := J.1.cls) (b := G.1 + pl) hS hM ⟨callB_of (b - 1) hts hgi rfl rfl rfl hini k5 ⟨j2, j3, k1⟩ (hroom _ k3), hinst, hsel⟩ ⟨en_blind _, hrv, hPcU⟩ rfl hln hl.1 hstk2 (lv_room hcs8) hd hf)
        · exact fin _ (va_runVN (As := As'.map (en_cv G)) (rest := rest.map (en_cv G)) (C := J.1.cls) (b := G.1 + pl) hS hM ⟨va_cnB (b - 1) hts hgi rfl rfl rfl (va_Nw.of rfl k5) hini ⟨j2, j3, k1⟩ (hroom _ k3), hinst, hsel⟩ ⟨en_blind _, hrv, hPcU⟩ rfl hln hl.1 hstk2 (lv_room hcs8) hd hf)
    | invokespecial n =>
      simp only [en_lnok] at hlen
      replace hlen := of_decide_eq_true hlen
      simp only [en_len] at hlen
      subst hlen
      have ok2 : en_okc I n a b cc 1 = true ∧ (J.1.name, J.2.2.2.1) = ("<init>", (none : Option FieldType)) := by
        have := ok
        simp only [en_okw, if_pos ha, Bool.and_eq_true, decide_eq_true_eq, hJ] at this
        exact ⟨this.1, Option.some.inj this.2⟩
      obtain ⟨ok2, hnm2⟩ := ok2
      have hnm3 : J.1.name = "<init>" := congrArg Prod.fst hnm2
      have hrt : J.2.2.2.1 = none := congrArg Prod.snd hnm2
      obtain ⟨⟨k1, k2, k3, k4⟩, k5⟩ := okc n 1 ok2
      rw [if_neg (by omega)] at j6
      simp only [Bool.and_eq_true, decide_eq_true_eq] at j6
      obtain ⟨⟨⟨i1, i2⟩, i3⟩, i4⟩ := j6
      obtain ⟨pl, fs, As', rfl, hp⟩ := recv i1
      have hinst : (Jvm.Cond.instanceMethod J.1).before args s = true := hts _ (en_in i2 rfl)
      have hstk2 : st.map (en_cv G) = (As'.map (en_cv G)).reverse ++ Value.ref (G.1 + pl) :: rest.map (en_cv G) := by
        rw [hstk, List.map_cons, List.reverse_cons, List.append_assoc]
        rfl
      have hln : (As'.map (en_cv G)).length = b - 1 := by
        rw [List.length_map]
        have := hlenT
        rw [List.length_cons] at this
        omega
      have hwsn : en_ws J = Jvm.Cond.code J.1 J.2.1 J.2.2.1 none :: en_W0 := by
        unfold en_ws
        rw [hrt]
      rcases k5 with k5 | k5
      · exact fin _ (va_runI (As := As'.map (en_cv G)) (rest := rest.map (en_cv G)) (b := G.1 + pl) hS hM ⟨callB_of (b - 1) hts hgi hwsn rfl rfl hini k5 ⟨j2, j3, k1⟩ (hroom _ k3), hnm3, hinst⟩ ⟨en_blind _, hPcU⟩ rfl hln hl.1 hstk2 (lv_room hcs8) hd hf)
      · exact fin _ (va_runIN (As := As'.map (en_cv G)) (rest := rest.map (en_cv G)) (b := G.1 + pl) hS hM ⟨va_cnB (b - 1) hts hgi hwsn rfl rfl (va_Nw.of rfl k5) hini ⟨j2, j3, k1⟩ (hroom _ k3), hnm3, hinst⟩ ⟨en_blind _, hPcU⟩ rfl hln hl.1 hstk2 (lv_room hcs8) hd hf)
    | _ => exact (hcall).elim
  · cases hq
theorem en_lk_mem {pc : Nat} : ∀ {bs : en_Bs} {ops : List en_Op}, en_lk pc bs = some ops → (pc, ops) ∈ bs
  | [], ops, h => by cases h
  | q :: r, ops, h => by
    unfold en_lk at h
    by_cases hq : Nat.beq q.1 pc = true
    · rw [hq] at h
      cases h
      have e : q.1 = pc := Nat.eq_of_beq_eq_true hq
      rw [← e]
      exact List.mem_cons_self
    · have hq' : Nat.beq q.1 pc = false := Bool.eq_false_iff.mpr hq
      rw [hq'] at h
      exact List.mem_cons_of_mem _ (en_lk_mem h)
theorem en_go_sound {IS : List en_I} {BS : List en_Bs} {cf : Nat → List Value → en_H → Option (Option Value × en_H)} {bs : en_Bs} {d : Nat} {w : Option Value × en_H} (F : en_Fr G xs I R p s m args meth c) (hmo : ∀ i as h w, cf i as h = some w → en_le h w.2) (hcf : ∀ i as h w, cf i as h = some w → en_Cal G L d i as h w) (hok : en_okB I bs = true) (hR : d + 1 ≤ R.frames ∧ 64 * (d + 1) ≤ R.locals) (hlim : w.2.1.length ≤ n0 + R.cells ∧ w.2.2 ≤ k0 + R.slots)
    (kret : ∀ (pc : Nat) (H : Heap) (locs : List Loc) (cells slots : Nat) (ls : Array Slot), en_rok I pc w.1 → en_Rl G s n0 k0 w.2 H locs cells slots → W p L e R s m args below meth c H locs cells slots Q (F0 m pc ls (w.1.toList.map (en_cv G)))) : ∀ (f : Nat) {pc : Nat} {l : en_L} {st : List Value} {h : en_H} {H : Heap} {locs : List Loc} {cells slots : Nat} {ls : Array Slot}, en_go IS BS cf xs I.2.2.2.1 bs f (pc, l, st, h) = some w → lv_has ls I.2.2.1 (l.map (en_cq G)) → en_Rl G s n0 k0 h H locs cells slots → W p L e R s m args below meth c H locs cells slots Q (F0 m pc ls (st.map (en_cv G)))
  | 0, pc, l, st, h, H, locs, cells, slots, ls, hs, hl, hr => by cases hs
  | f + 1, pc, l, st, h, H, locs, cells, slots, ls, hs, hl, hr => by
    unfold en_go at hs
    split at hs
    · cases hs
    · rename_i ops hops
      have hokb : en_okb I pc ops = true := List.all_eq_true.mp hok _ (en_lk_mem hops)
      split at hs
      · cases hs
      · rename_i c' hb
        have h1 := en_go_mono hmo hs
        refine en_rb_sound F (x := .inl c') ⟨Nat.le_trans h1.1 hlim.1, Nat.le_trans h1.2 hlim.2⟩ ?_ ops hokb hb hl hr
        intro H' locs' cells' slots' ls' hl' hr'
        exact en_go_sound F hmo hcf hok hR hlim kret f hs hl' hr'
      · rename_i op c' hb
        split at hs
        · cases hs
        · rename_i q hq
          split at hs
          · cases hs
          · rename_i w' hw
            have h2 := hmo _ _ _ _ hw
            have h3 := en_go_mono hmo hs
            have h4 : en_le c'.2.2.2 w.2 := h2.tr h3
            refine en_rb_sound F (x := .inr (.inl (op, c'))) ⟨Nat.le_trans h4.1 hlim.1, Nat.le_trans h4.2 hlim.2⟩ ?_ ops hokb hb hl hr
            intro hi ha ok' H' locs' cells' slots' ls' hl' hr'
            refine en_call hi ha ok' hq (hcf _ _ _ _ hw) h2 F hR ⟨Nat.le_trans h3.1 hlim.1, Nat.le_trans h3.2 hlim.2⟩ hl' hr' ?_
            intro H2 locs2 cells2 slots2 ls2 hl2 hr2
            exact en_go_sound F hmo hcf hok hR hlim kret f hs hl2 hr2
      · rename_i w' hb
        cases hs
        refine en_rb_sound F (x := .inr (.inr w)) hlim ?_ ops hokb hb hl hr
        intro pc' H' locs' cells' slots' ls' hk' hr'
        exact kret pc' H' locs' cells' slots' ls' hk' hr'
end EN4
theorem en_args_map (G : en_G) : ∀ (as : List Value) (i : Nat), lv_args i (as.map (en_cv G)) = (lv_args i as).map (en_cq G)
  | [], i => rfl
  | v :: r, i => by
    show (i, en_cv G v) :: lv_args (if (en_cv G v).category = 2 then i + 2 else i + 1) (r.map (en_cv G)) = (i, en_cv G v) :: (lv_args (if v.category = 2 then i + 2 else i + 1) r).map (en_cq G)
    rw [en_cat, en_args_map G r]
theorem en_sl_map (G : en_G) : ∀ (as : List Value), (lg_sl (as.map (en_cv G))).length = (lg_sl as).length
  | [] => rfl
  | v :: r => by
    have ih := en_sl_map G r
    unfold lg_sl at ih ⊢
    rw [List.map_cons, List.flatMap_cons, List.flatMap_cons, List.length_append, List.length_append, ih, en_cat]
    congr 1
    split <;> rfl
/-- what a program decides of all methods -/
def en_HB (BS : List en_Bs) : Prop := ∀ (i : Nat) (J : en_I) (bs : en_Bs), en_IS[i]? = some J → BS[i]? = some bs → bs ≠ [] → (∃ q, en_okJ J q = true) ∧ en_okB J bs = true
theorem en_go_nil {IS : List en_I} {BS : List en_Bs} {cf : Nat → List Value → en_H → Option (Option Value × en_H)} {xs : Option (List Int32)} {ret : Option FieldType} {f : Nat} {c : en_C} : en_go IS BS cf xs ret [] f c = none := by
  cases f <;> rfl
theorem en_run_sound {G : en_G} {L : Launch} {BS : List en_Bs} (hB : en_HB BS) : ∀ (d F i : Nat) (as : List Value) (h : en_H) (w : Option Value × en_H), en_run en_IS BS d F i as h = some w → en_Cal G L d i as h w
  | 0, F, i, as, h, w, hs => by cases hs
  | d + 1, F, i, as, h, w, hs => by
    have hmo := en_run_mono hs
    unfold en_run at hs
    split at hs
    · rename_i J bs hJ hbs
      split at hs
      · rename_i hc
        have hne : bs ≠ [] := by
          intro e
          rw [e, en_go_nil] at hs
          cases hs
        obtain ⟨⟨q, hj⟩, hok⟩ := hB i J bs hJ hbs hne
        refine ⟨J, q, hJ, hj, hc.2, ?_⟩
        have hjj := hj
        simp only [en_okJ, Bool.and_eq_true, decide_eq_true_eq] at hjj
        refine Met.ofW (cc := J.2.1) (maxL := J.2.2.1) (ret := J.2.2.2.1) hjj.1.1.1.1.1 rfl ?_
        intro p e s m args below meth c s₁ B hml hv
        obtain ⟨rfl, hP, hz, hK⟩ := hv
        have hx := B.exec
        have hb := B.bytes
        have hret := B.returns
        have hts0 := atoms_spec (ws := en_ws J) B.pre
        have hts : ∀ w ∈ en_W0, w.before ((as.map (en_cv G)).toArray) s = true := fun w hw => hts0 w (List.mem_cons_of_mem _ hw)
        have hown : s.vm.findClass J.1.cls = some m.cls := findClass_of_methodNamed B.named
        have hlocks := B.notSynchronized
        have hin : meth.name = J.1.name := (name_of_methodNamed B.named B.method).1
        have hl := lv_entry (as.map (en_cv G)) (n := J.2.2.1) (by rw [en_sl_map]; exact hc.1)
        rw [lg_entry_eq]
        generalize (lg_sl (as.map (en_cv G)) ++ List.replicate (J.2.2.1 - (lg_sl (as.map (en_cv G))).length) Slot.unset).toArray = ls at hl ⊢
        rw [en_args_map] at hl
        have hF : en_Fr G none J (headSpec (en_ws J) (en_rm (d + 1) h w)).room p s m (as.map (en_cv G)).toArray meth c := by
          refine ⟨hx, hb, hml, hown, hts, hK, by omega, ?_, ⟨?_, ?_⟩, fun h => hin.trans h⟩
          · intro ys hy
            cases hy
          · show 1 ≤ d + 1
            omega
          · show 64 ≤ 64 * (d + 1)
            omega
        refine en_go_sound (n0 := h.1.length) (k0 := h.2) hF (fun i as h w hw => en_run_mono hw) (fun i as h w hw => en_run_sound hB d F i as h w hw) hok ⟨Nat.le_refl _, Nat.le_refl _⟩ ⟨by show _ ≤ h.1.length + (w.2.1.length - h.1.length); have := hmo.1; omega, by show _ ≤ h.2 + (w.2.2 - h.2); have := hmo.2; omega⟩ ?_ F hs hl ⟨hP, hz, va_S.rf, by omega, by omega⟩
        intro pc H locs cells slots ls' hrk hr
        have e1 : cells = w.2.1.length - h.1.length := by have := hr.2.2.2.1; omega
        have e2 : slots = w.2.2 - h.2 := by have := hr.2.2.2.2; omega
        subst e1
        subst e2
        have hq : ∀ (v : Option Value), v = w.1 → ∀ t : State, t.heap = H → s.WarmedH t.vm → en_Qc G w (as.map (en_cv G)).toArray s (.returned (v.map (en_cv G))) t := fun v hv t ht hW => ⟨by rw [hv], by rw [ht]; exact hr.1, by rw [ht]; exact hr.2.1, hr.2.2.1.F ht⟩
        obtain ⟨wr, wh⟩ := w
        cases wr with
        | none => exact W.vret hx hb (hret.trans hrk.2) (hq none rfl) hr.2.2.1.2.2 hrk.1
        | some v =>
          cases v with
          | int v =>
            rcases hrk.2 with h1 | ⟨h1, h2⟩
            · exact W.zret (v := v) hx hb (hret.trans h1) rfl (hq (some (.int v)) rfl) hr.2.2.1.2.2 hrk.1
            · exact W.zret (v := v) hx hb (hret.trans h1) (en_bool h2) (hq (some (.int v)) rfl) hr.2.2.1.2.2 hrk.1
          | long v => exact W.lret (v := v) hx hb (hret.trans hrk.2) (hq (some (.long v)) rfl) hr.2.2.1.2.2 hrk.1
          | null =>
            obtain ⟨n, hn⟩ := hrk.2.1
            exact W.aret (v := .null) hx hb (hret.trans hn) (Or.inl ⟨n, rfl⟩) (Or.inl rfl) (hq (some .null) rfl) hr.2.2.1.2.2 hrk.1
          | ref v =>
            obtain ⟨n, hn⟩ := hrk.2.1
            exact W.aret (v := .ref (G.1 + v)) hx hb (hret.trans hn) (Or.inl ⟨n, rfl⟩) (Or.inr ⟨_, rfl⟩) (hq (some (.ref v)) rfl) hr.2.2.1.2.2 hrk.1
          | float v => rcases hrk.2.2 with h | ⟨a, h⟩ <;> cases h
          | double v => rcases hrk.2.2 with h | ⟨a, h⟩ <;> cases h
          | retAddr v => rcases hrk.2.2 with h | ⟨a, h⟩ <;> cases h
      · cases hs
    · cases hs
end
section
/-! THE CLAIM OUT OF ONE WALK OF THE LAW'S BODY. Your part is whole_start (and what it stands on); all else here is the same for every law, but numbers. -/
def R_law : String := "LeftHandsLaw"
def lw_P (b : Addr) (xs : List Int32) (args : Array Value) (s : State) : Prop := args = #[.ref b] ∧ s.IntsAt b xs ∧ xs.length ≤ 7 ∧ (Jvm.Cond.and given_1 narrow_1).before args s = true
def lw_Q (_ : Array Value) (s : State) (o : Outcome) (t : State) : Prop := o = .returned (some (.int 1)) ∧ Framed s o t [] 600000 7302249
def lw_Z (below : List Frame) (a : Array Value) (s : State) : State → Prop := fun t => ∃ o, t.status = .running ∧ Ended t below o ∧ lw_Q a s o t
/-- the law's own end, with 1 on the stack, nothing written that was there before, its room as the claim has it -/
theorem lw_ret {p : Program} {l : Launch} {e : Env} {s : State} {m : MethodId} {below : List Frame} {meth : Method} {c : Code} {b : Nat} (hx : p.tables.exec = Jvm.exec) (hb : c.code = code) (hr : meth.sig.returnType = ret) (hlocks : meth.locks = false) {pc : Nat} {H : Heap} {ls : Array Slot} (hdg : decode code pc = .ok (.ireturn, 1)) : W p l e room_1 s m #[Value.ref b] below meth c H [] 600000 7302249 (lw_Z below #[Value.ref b] s) (F0 m pc ls [.int 1]) := by
  intro T hT X
  obtain ⟨fs, hret, hrun, hended, hW, hframe⟩ := X.leave (v := some (.int 1)) (hlocks := hlocks) (fun h => by rw [hr] at h; cases h)
  have hmeth' : T.vm.method? m = some meth := X.method'
  refine ⟨T.setFrames fs, ?_, .returned (some (.int 1)), hrun, hended, rfl, ⟨_, rfl⟩, hW, hframe⟩
  jvm_step X.here [X.here.top, hx, hb, hdg, hmeth', hr, ret, narrow_b1]
  (try refine ⟨rfl, ?_⟩); (try refine ⟨rfl, ?_⟩)
  first | (intro acts; rw [hret _ acts rfl rfl rfl]) | rw [hret _ _ rfl rfl rfl]
  exact Steps.refl _
/-- what holds at the law's entry: the machine, the code, the tables' words (any of lw_tbl by 'hts w (by decide +kernel)'), the script of L ints xs at the cell b, what the Statement gives of the start (any of its parts by flat_of_before) -/
def lw_At (p : Program) (s : State) (m : MethodId) (meth : Method) (c : Code) (b L : Nat) (xs : Nat → Int32) : Prop :=
  p.tables.exec = Jvm.exec ∧ c.code = code ∧ meth.sig.returnType = ret ∧ c.maxLocals = 4 ∧ s.vm.findClass R_law = some m.cls ∧ (∀ w ∈ lw_tbl, w.before #[Value.ref b] s = true) ∧ va_X b L xs s s.heap ∧ b < s.heap.size ∧ meth.locks = false ∧ (Jvm.Cond.and given_1 narrow_1).before #[Value.ref b] s = true
theorem en_oL : (Jvm.Cond.arrayOver (.object "LeftHands$Law")) ∈ lw_tbl := List.mem_append_right _ (List.mem_of_getElem? (i := 36) (by decide +kernel))
theorem en_oB : (Jvm.Cond.arrayOver (.object "LeftHands$Bazaar")) ∈ lw_tbl := List.mem_append_right _ (List.mem_of_getElem? (i := 162) (by decide +kernel))
theorem en_nst : ∀ k, k < 10 → tables_1[en_nps.getD k 0]? = (en_nest[k]?).map (fun q => Jvm.Cond.methodLinkNest q.1 q.2.1 q.2.2.1 q.2.2.2) := by decide +kernel
theorem en_nlen : en_nest.length = 10 := rfl
def en_strok (q : String × Nat × String) : Bool := decide ((Jvm.Cond.exactly (.string q.1 q.2.1) "java/lang/String") ∈ flatC (Jvm.Cond.and given_1 narrow_1)) && decide ((Jvm.Cond.stringRef q.1 q.2.1 q.2.2) ∈ tables_1)
theorem en_strs : ∀ q ∈ en_str, en_strok q = true := by decide +kernel
theorem en_W0_hts {args : Array Value} {s : State} (hts : ∀ w ∈ lw_tbl, w.before args s = true) : ∀ w ∈ en_W0, w.before args s = true := fun w hw => hts w (List.mem_filter.mp hw).1
theorem en_arr0 {args : Array Value} {s : State} (hts : ∀ w ∈ lw_tbl, w.before args s = true) : ∀ t : Nat, ∃ c : ClassId, t < 5 → ArrOfT s c (en_ty t) ∧ va_RA s c (en_ty t) := by
  have h0 := en_W0_hts hts
  have prim : ∀ ty : FieldType, (Jvm.Cond.arrayClass ty).before args s = true → ∃ c : ClassId, ArrOfT s c ty ∧ s.vm.findClass ("[" ++ ty.toString) = some c := by
    intro ty h
    obtain ⟨c, k, comp, h1, h2, h3⟩ := Cond.arrayClass_spec h
    exact ⟨c, fun n z => ⟨fun k h => (by cases h), k, h2, comp, h3⟩, h1⟩
  have objs : ∀ C : String, va_AO C s → ∃ c : ClassId, ArrOfT s c (.object C) ∧ va_RA s c (.object C) := by
    intro C h
    obtain ⟨comp, c, k, h1, h2, h3, h4, h5⟩ := Cond.arrayOver_spec h
    exact ⟨c, fun n z => ⟨fun k h => (by cases h), k, h3, comp, h4⟩, k, comp, h3, h4, h1, h5⟩
  intro t
  match t with
  | 0 =>
    obtain ⟨c, h1, h2⟩ := prim .int (h0 _ en_aI)
    exact ⟨c, fun _ => ⟨h1, h2⟩⟩
  | 1 =>
    obtain ⟨c, h1, h2⟩ := prim .long (h0 _ en_aJ)
    exact ⟨c, fun _ => ⟨h1, h2⟩⟩
  | 2 =>
    obtain ⟨c, h1, h2⟩ := prim .boolean (h0 _ en_aZ)
    exact ⟨c, fun _ => ⟨h1, h2⟩⟩
  | 3 =>
    obtain ⟨c, h1, h2⟩ := objs "LeftHands$Law" (va_AO.of (hts _ en_oL))
    exact ⟨c, fun _ => ⟨h1, h2⟩⟩
  | 4 =>
    obtain ⟨c, h1, h2⟩ := objs "LeftHands$Bazaar" (va_AO.of (hts _ en_oB))
    exact ⟨c, fun _ => ⟨h1, h2⟩⟩
  | n + 5 => exact ⟨0, fun h => absurd h (by omega)⟩
theorem en_kinds {args : Array Value} {s : State} (hts : ∀ w ∈ lw_tbl, w.before args s = true) : ∀ ci : Nat, ∃ q : ClassId × (Nat → Nat), ∀ (C : String) (T : u_T) (N : Nat), en_cl[ci]? = some (C, T, N) → u_Kn s C T N q.1 q.2 := by
  have h0 := en_W0_hts hts
  intro ci
  cases hc : en_cl[ci]? with
  | none => exact ⟨(0, fun k => k), fun C T N h => by cases h⟩
  | some r =>
    obtain ⟨C, T, N⟩ := r
    obtain ⟨c1, c2, c3, c4, -⟩ := en_clf hc
    obtain ⟨cC, iS, hKn⟩ := u_known (C := C) (T := T) (N := N) (n := N) h0 c1 (h0 _ c4)
    exact ⟨(cC, iS), fun C' T' N' h => by cases h; exact hKn⟩
theorem en_texts {args : Array Value} {s : State} (hts : ∀ w ∈ lw_tbl, w.before args s = true) (hg : (Jvm.Cond.and given_1 narrow_1).before args s = true) : ∀ i : Nat, ∃ a : Nat, ∀ q : String × Nat × String, en_str[i]? = some q → vk_R q.1 q.2.1 q.2.2 a s := by
  intro i
  cases hc : en_str[i]? with
  | none => exact ⟨0, fun q h => by cases h⟩
  | some q =>
    have h1 := en_strs q (List.mem_of_getElem? hc)
    simp only [en_strok, Bool.and_eq_true, decide_eq_true_eq] at h1
    have h2 := flat_of_before _ hg _ h1.1
    obtain ⟨a, c, cell, k, q1, -⟩ := Cond.exactly_spec h2
    have h3 := hts _ (List.mem_append_right _ h1.2)
    exact ⟨a, fun q' h => by cases h; exact vk_R.of h3 q1⟩
def en_I0v : en_I := (⟨R_law0, "law", "([I)Z"⟩, cL_law, 4, some .boolean, 100, 1)
/-- the law's walk, out of a run of the engine -/
theorem en_law {p : Program} {e : Env} {s : State} {m : MethodId} {below : List Frame} {meth : Method} {c : Code} (l : Launch) {b L : Nat} {xs : Nat → Int32} (C0 : lw_At p s m meth c b L xs) {BS : List en_Bs} (hB : en_HB BS) {bs : en_Bs} (hbs : en_okB en_I0v bs = true) {ys : List Int32} (hy : ys.length = L ∧ ∀ j, j < L → ys.getD j 0 = xs j) {d F f : Nat} (hd : d ≤ 1000) {h' : en_H} (hrun : en_go en_IS BS (en_run en_IS BS d F) (some ys) (some .boolean) bs f (0, [(0, .float 0)], [], ([], 0)) = some (some (.int 1), h')) (hlim : h'.1.length ≤ 600000 ∧ h'.2 ≤ 7302249) : W p l e room_1 s m #[Value.ref b] below meth c s.heap [] 0 0 (lw_Z below #[Value.ref b] s) (entryFrame m ([Value.ref b] : List Value).toArray 4) := by
  obtain ⟨hx, hb, hr, hml, hown, hts, hX, hbl, hlocks, hgv⟩ := id C0
  obtain ⟨dq, hdq⟩ := Classical.axiomOfChoice (en_kinds hts)
  obtain ⟨cA, hcA⟩ := Classical.axiomOfChoice (en_arr0 hts)
  obtain ⟨tA, htA⟩ := Classical.axiomOfChoice (en_texts hts hgv)
  obtain ⟨G, hG⟩ : ∃ G : en_G, G = (s.heap.size, (fun k => (dq k).1, fun k => (dq k).2), cA, fun k => match k with | 0 => b | k + 1 => tA k) := ⟨_, rfl⟩
  have g1 : G.1 = s.heap.size := by rw [hG]
  have g2 : G.2.2.2 0 = b := by rw [hG]
  have hK : en_K G s := by
    refine ⟨⟨fun ci q hq => ?_, fun t q hq => ?_⟩, va_AO.of (hts _ en_oL), va_AO.of (hts _ en_oB), fun q hq => ?_, fun i q hq => ?_⟩
    · obtain ⟨C, T, N⟩ := q
      rw [hG]
      exact hdq ci C T N hq
    · have ht : t < 5 := (List.getElem?_eq_some_iff.mp hq).1
      rw [en_tysA ht] at hq
      cases hq
      rw [hG]
      exact hcA t ht
    · obtain ⟨k, hk⟩ := List.getElem?_of_mem hq
      have hk10 : k < 10 := by have := (List.getElem?_eq_some_iff.mp hk).1; rw [en_nlen] at this; exact this
      have h1 := en_nst k hk10
      rw [hk] at h1
      exact va_Nw.of rfl (hts _ (List.mem_append_right _ (List.mem_of_getElem? h1)))
    · have h1 := htA i q hq
      rw [hG]
      exact h1
  have hF : en_Fr G (some ys) en_I0v room_1 p s m #[Value.ref b] meth c := by
    refine ⟨hx, hb, hml, hown, en_W0_hts hts, hK, Nat.le_of_eq g1, ?_, ⟨Nat.le_of_ble_eq_true rfl, Nat.le_of_ble_eq_true rfl⟩, fun h => absurd h (by decide)⟩
    intro zs hz
    cases hz
    rw [g1, g2]
    obtain ⟨scr, h1, h2, h3, h4, h5⟩ := hX
    exact ⟨⟨scr, h1, h2, h3, by rw [h4, hy.1], fun j hj => by rw [h5 j (by rw [← hy.1]; exact hj)]; show some (Value.int (xs j)) = some (Value.int (ys.getD j 0)); rw [hy.2 j (by rw [← hy.1]; exact hj)]⟩, hbl, hbl⟩
  have hl := lv_entry ([.ref b]) (n := 4) (Nat.le_of_ble_eq_true rfl)
  rw [lg_entry_eq]
  generalize (lg_sl ([.ref b]) ++ List.replicate (4 - (lg_sl ([.ref b])).length) Slot.unset).toArray = ls at hl ⊢
  have hl2 : lv_has ls 4 (([(0, Value.float 0)] : en_L).map (en_cq G)) := by
    have e1 : ([(0, Value.float 0)] : en_L).map (en_cq G) = [(0, Value.ref b)] := by
      show [(0, Value.ref (G.2.2.2 (0 : UInt32).toNat))] = [(0, Value.ref b)]
      rw [show (0 : UInt32).toNat = 0 from rfl, g2]
    rw [e1]
    exact hl
  refine en_go_sound (I := en_I0v) (n0 := 0) (k0 := 0) (d := d) hF (fun i as h w hw => en_run_mono hw) (fun i as h w hw => en_run_sound hB d F i as h w hw) hbs ⟨by show d + 1 ≤ 2048; omega, by show 64 * (d + 1) ≤ 84000; omega⟩ ⟨by show _ ≤ 0 + 600000; have := hlim.1; dsimp only; omega, by show _ ≤ 0 + 7302249; have := hlim.2; dsimp only; omega⟩ ?_ f hrun hl2 ⟨fun k q h => by simp [en_cw] at h, by rw [g1]; rfl, ?_, rfl, rfl⟩
  · intro pc H locs cells slots ls' hrk hr2
    refine va_forget (fun q hq => by have := hr2.2.2.1.2.2 q hq; rw [← g1]; exact this) ?_
    refine W.widen (k := 600000) (n := 7302249) (by have := hr2.2.2.2.1; have := hlim.1; dsimp only at *; omega) (by have := hr2.2.2.2.2; have := hlim.2; dsimp only at *; omega) ?_
    exact lw_ret hx hb hr hlocks hrk.1
  · rw [g1]
    exact va_S.rf
end
section
def en_ck (i : Nat) (bs : en_Bs) : Bool := match en_IS[i]?, en_ps[i]? with
  | some J, some q => en_okJ J q && en_okB J bs
  | _, _ => false

def bs_X0_init : en_Bs := [
  (0, [(.aload_n 0, 1, 0, 0, 0), (.invokespecial 3, 3, 900, 0, 34), (.aload_n 0, 1, 0, 0, 0), (.bipush 12, 2, 0, 0, 0), (.newarray .int, 2, 0, 0, 0), (.putfield 9, 3, 0, 1, 92), (.aload_n 0, 1, 0, 0, 0), (.bipush 12, 2, 0, 0, 0), (.newarray .int, 2, 0, 0, 0), (.putfield 15, 3, 0, 2, 94), (.aload_n 0, 1, 0, 0, 0), (.bipush 12, 2, 0, 0, 0), (.newarray .int, 2, 0, 0, 0), (.putfield 18, 3, 0, 3, 99), (.aload_n 0, 1, 0, 0, 0), (.bipush 48, 2, 0, 0, 0), (.newarray .int, 2, 0, 0, 0), (.putfield 21, 3, 0, 5, 108), (.aload_n 0, 1, 0, 0, 0), (.bipush 6, 2, 0, 0, 0), (.anewarray 24, 3, 3, 0, 35), (.putfield 26, 3, 0, 7, 111), (.aload_n 0, 1, 0, 0, 0), (.new 24, 3, 4, 0, 35), (.dup, 1, 0, 0, 0), (.invokespecial 30, 3, 55, 1, 5000)]),
  (53, [(.putfield 31, 3, 0, 8, 112), (.aload_n 0, 1, 0, 0, 0), (.iconst (-1), 1, 0, 0, 0), (.putfield 35, 3, 0, 9, 113), (.aload_n 0, 1, 0, 0, 0), (.bipush 60, 2, 0, 0, 0), (.putfield 39, 3, 0, 10, 115), (.aload_n 0, 1, 0, 0, 0), (.iconst 2, 1, 0, 0, 0), (.putfield 42, 3, 0, 11, 119), (.aload_n 0, 1, 0, 0, 0), (.bipush 8, 2, 0, 0, 0), (.newarray .int, 2, 0, 0, 0), (.putfield 45, 3, 0, 13, 125), (.aload_n 0, 1, 0, 0, 0), (.bipush 8, 2, 0, 0, 0), (.newarray .int, 2, 0, 0, 0), (.putfield 48, 3, 0, 14, 128), (.iconst 0, 1, 0, 0, 0), (.istore_n 1, 1, 0, 0, 0)]),
  (90, [(.iload_n 1, 1, 0, 0, 0), (.bipush 6, 2, 0, 0, 0), (.if_icmp .ge 22, 3, 115, 0, 0)]),
  (96, [(.aload_n 0, 1, 0, 0, 0), (.getfield 26, 3, 0, 7, 111), (.iload_n 1, 1, 0, 0, 0), (.new 24, 3, 4, 0, 35), (.dup, 1, 0, 0, 0), (.invokespecial 30, 3, 55, 1, 5000)]),
  (108, [(.aastore, 1, 0, 0, 0), (.iinc 1 1, 3, 0, 0, 0), (.goto (-22), 3, 90, 0, 0)]),
  (115, [(.return_, 1, 0, 0, 0)])]
theorem ck_X0_init : en_ck 1 bs_X0_init = true := by decide +kernel
def bs_X0_become : en_Bs := [
  (0, [(.aload_n 0, 1, 0, 0, 0), (.aload_n 1, 1, 0, 0, 0), (.getfield 51, 3, 0, 0, 85), (.putfield 51, 3, 0, 0, 85), (.aload_n 1, 1, 0, 0, 0), (.getfield 9, 3, 0, 1, 92), (.iconst 0, 1, 0, 0, 0), (.aload_n 0, 1, 0, 0, 0), (.getfield 9, 3, 0, 1, 92), (.iconst 0, 1, 0, 0, 0), (.bipush 12, 2, 0, 0, 0), (.invokestatic 54, 3, 901, 0, 554), (.aload_n 1, 1, 0, 0, 0), (.getfield 15, 3, 0, 2, 94), (.iconst 0, 1, 0, 0, 0), (.aload_n 0, 1, 0, 0, 0), (.getfield 15, 3, 0, 2, 94), (.iconst 0, 1, 0, 0, 0), (.bipush 12, 2, 0, 0, 0), (.invokestatic 54, 3, 901, 0, 554), (.aload_n 1, 1, 0, 0, 0), (.getfield 18, 3, 0, 3, 99), (.iconst 0, 1, 0, 0, 0), (.aload_n 0, 1, 0, 0, 0), (.getfield 18, 3, 0, 3, 99), (.iconst 0, 1, 0, 0, 0), (.bipush 12, 2, 0, 0, 0), (.invokestatic 54, 3, 901, 0, 554), (.aload_n 0, 1, 0, 0, 0), (.aload_n 1, 1, 0, 0, 0), (.getfield 60, 3, 0, 4, 103), (.putfield 60, 3, 0, 4, 103), (.aload_n 1, 1, 0, 0, 0), (.getfield 21, 3, 0, 5, 108), (.iconst 0, 1, 0, 0, 0), (.aload_n 0, 1, 0, 0, 0), (.getfield 21, 3, 0, 5, 108), (.iconst 0, 1, 0, 0, 0), (.bipush 48, 2, 0, 0, 0), (.invokestatic 54, 3, 901, 0, 554), (.aload_n 0, 1, 0, 0, 0), (.aload_n 1, 1, 0, 0, 0), (.getfield 63, 3, 0, 6, 109), (.putfield 63, 3, 0, 6, 109), (.iconst 0, 1, 0, 0, 0), (.istore_n 2, 1, 0, 0, 0)]),
  (86, [(.iload_n 2, 1, 0, 0, 0), (.bipush 6, 2, 0, 0, 0), (.if_icmp .ge 22, 3, 111, 0, 0)]),
  (92, [(.aload_n 0, 1, 0, 0, 0), (.iload_n 2, 1, 0, 0, 0), (.invokevirtual 66, 3, 10, 2, 741)]),
  (97, [(.aload_n 1, 1, 0, 0, 0), (.iload_n 2, 1, 0, 0, 0), (.invokevirtual 66, 3, 10, 2, 741)]),
  (102, [(.invokevirtual 70, 3, 56, 2, 745)]),
  (105, [(.iinc 2 1, 3, 0, 0, 0), (.goto (-22), 3, 86, 0, 0)]),
  (111, [(.aload_n 0, 1, 0, 0, 0), (.aload_n 1, 1, 0, 0, 0), (.getfield 35, 3, 0, 9, 113), (.putfield 35, 3, 0, 9, 113), (.aload_n 0, 1, 0, 0, 0), (.aload_n 1, 1, 0, 0, 0), (.getfield 39, 3, 0, 10, 115), (.putfield 39, 3, 0, 10, 115), (.aload_n 0, 1, 0, 0, 0), (.aload_n 1, 1, 0, 0, 0), (.getfield 42, 3, 0, 11, 119), (.putfield 42, 3, 0, 11, 119), (.aload_n 0, 1, 0, 0, 0), (.aload_n 1, 1, 0, 0, 0), (.getfield 74, 3, 0, 12, 122), (.putfield 74, 3, 0, 12, 122), (.aload_n 1, 1, 0, 0, 0), (.getfield 45, 3, 0, 13, 125), (.iconst 0, 1, 0, 0, 0), (.aload_n 0, 1, 0, 0, 0), (.getfield 45, 3, 0, 13, 125), (.iconst 0, 1, 0, 0, 0), (.bipush 8, 2, 0, 0, 0), (.invokestatic 54, 3, 901, 0, 554), (.aload_n 1, 1, 0, 0, 0), (.getfield 48, 3, 0, 14, 128), (.iconst 0, 1, 0, 0, 0), (.aload_n 0, 1, 0, 0, 0), (.getfield 48, 3, 0, 14, 128), (.iconst 0, 1, 0, 0, 0), (.bipush 8, 2, 0, 0, 0), (.invokestatic 54, 3, 901, 0, 554), (.return_, 1, 0, 0, 0)])]
theorem ck_X0_become : en_ck 2 bs_X0_become = true := by decide +kernel
def bs_X0_hasStand : en_Bs := [
  (0, [(.iload_n 1, 1, 0, 0, 0), (.ifCond .lt 15, 3, 16, 0, 0)]),
  (4, [(.iload_n 1, 1, 0, 0, 0), (.aload_n 0, 1, 0, 0, 0), (.getfield 51, 3, 0, 0, 85), (.if_icmp .ge 7, 3, 16, 0, 0)]),
  (12, [(.iconst 1, 1, 0, 0, 0), (.goto 4, 3, 17, 0, 0)]),
  (16, [(.iconst 0, 1, 0, 0, 0)]),
  (17, [(.ireturn, 1, 0, 0, 0)])]
theorem ck_X0_hasStand : en_ck 3 bs_X0_hasStand = true := by decide +kernel
def bs_X0_hasLoad : en_Bs := [
  (0, [(.iload_n 1, 1, 0, 0, 0), (.ifCond .lt 15, 3, 16, 0, 0)]),
  (4, [(.iload_n 1, 1, 0, 0, 0), (.aload_n 0, 1, 0, 0, 0), (.getfield 60, 3, 0, 4, 103), (.if_icmp .ge 7, 3, 16, 0, 0)]),
  (12, [(.iconst 1, 1, 0, 0, 0), (.goto 4, 3, 17, 0, 0)]),
  (16, [(.iconst 0, 1, 0, 0, 0)]),
  (17, [(.ireturn, 1, 0, 0, 0)])]
theorem ck_X0_hasLoad : en_ck 4 bs_X0_hasLoad = true := by decide +kernel
def bs_X0_addStand : en_Bs := [
  (0, [(.aload_n 0, 1, 0, 0, 0), (.getfield 51, 3, 0, 0, 85), (.bipush 12, 2, 0, 0, 0), (.if_icmp .lt 5, 3, 11, 0, 0)]),
  (9, [(.iconst (-1), 1, 0, 0, 0), (.ireturn, 1, 0, 0, 0)]),
  (11, [(.aload_n 0, 1, 0, 0, 0), (.getfield 9, 3, 0, 1, 92), (.aload_n 0, 1, 0, 0, 0), (.getfield 51, 3, 0, 0, 85), (.iload_n 1, 1, 0, 0, 0), (.iastore, 1, 0, 0, 0), (.aload_n 0, 1, 0, 0, 0), (.getfield 15, 3, 0, 2, 94), (.aload_n 0, 1, 0, 0, 0), (.getfield 51, 3, 0, 0, 85), (.iload_n 2, 1, 0, 0, 0), (.iastore, 1, 0, 0, 0), (.aload_n 0, 1, 0, 0, 0), (.getfield 18, 3, 0, 3, 99), (.aload_n 0, 1, 0, 0, 0), (.getfield 51, 3, 0, 0, 85), (.iload_n 3, 1, 0, 0, 0), (.iastore, 1, 0, 0, 0), (.aload_n 0, 1, 0, 0, 0), (.dup, 1, 0, 0, 0), (.getfield 51, 3, 0, 0, 85), (.iconst 1, 1, 0, 0, 0), (.iadd, 1, 0, 0, 0), (.putfield 51, 3, 0, 0, 85), (.aload_n 0, 1, 0, 0, 0), (.getfield 51, 3, 0, 0, 85), (.iconst 1, 1, 0, 0, 0), (.isub, 1, 0, 0, 0), (.ireturn, 1, 0, 0, 0)])]
theorem ck_X0_addStand : en_ck 5 bs_X0_addStand = true := by decide +kernel
def bs_X0_addLoad : en_Bs := [
  (0, [(.aload_n 0, 1, 0, 0, 0), (.getfield 60, 3, 0, 4, 103), (.bipush 8, 2, 0, 0, 0), (.if_icmp .lt 5, 3, 11, 0, 0)]),
  (9, [(.iconst (-1), 1, 0, 0, 0), (.ireturn, 1, 0, 0, 0)]),
  (11, [(.aload_n 0, 1, 0, 0, 0), (.getfield 60, 3, 0, 4, 103), (.bipush 6, 2, 0, 0, 0), (.imul, 1, 0, 0, 0), (.istore 7, 2, 0, 0, 0), (.aload_n 0, 1, 0, 0, 0), (.getfield 21, 3, 0, 5, 108), (.iload 7, 2, 0, 0, 0), (.iconst 0, 1, 0, 0, 0), (.iadd, 1, 0, 0, 0), (.iload_n 1, 1, 0, 0, 0), (.iastore, 1, 0, 0, 0), (.aload_n 0, 1, 0, 0, 0), (.getfield 21, 3, 0, 5, 108), (.iload 7, 2, 0, 0, 0), (.iconst 1, 1, 0, 0, 0), (.iadd, 1, 0, 0, 0), (.iload_n 2, 1, 0, 0, 0), (.iastore, 1, 0, 0, 0), (.aload_n 0, 1, 0, 0, 0), (.getfield 21, 3, 0, 5, 108), (.iload 7, 2, 0, 0, 0), (.iconst 2, 1, 0, 0, 0), (.iadd, 1, 0, 0, 0), (.iload_n 3, 1, 0, 0, 0), (.iastore, 1, 0, 0, 0), (.aload_n 0, 1, 0, 0, 0), (.getfield 21, 3, 0, 5, 108), (.iload 7, 2, 0, 0, 0), (.iconst 3, 1, 0, 0, 0), (.iadd, 1, 0, 0, 0), (.iload 4, 2, 0, 0, 0), (.iastore, 1, 0, 0, 0), (.aload_n 0, 1, 0, 0, 0), (.getfield 21, 3, 0, 5, 108), (.iload 7, 2, 0, 0, 0), (.iconst 4, 1, 0, 0, 0), (.iadd, 1, 0, 0, 0), (.iload 5, 2, 0, 0, 0), (.iastore, 1, 0, 0, 0), (.aload_n 0, 1, 0, 0, 0), (.getfield 21, 3, 0, 5, 108), (.iload 7, 2, 0, 0, 0), (.iconst 5, 1, 0, 0, 0), (.iadd, 1, 0, 0, 0), (.iload 6, 2, 0, 0, 0), (.iastore, 1, 0, 0, 0), (.aload_n 0, 1, 0, 0, 0), (.dup, 1, 0, 0, 0), (.getfield 60, 3, 0, 4, 103), (.iconst 1, 1, 0, 0, 0), (.iadd, 1, 0, 0, 0), (.putfield 60, 3, 0, 4, 103), (.aload_n 0, 1, 0, 0, 0), (.getfield 60, 3, 0, 4, 103), (.iconst 1, 1, 0, 0, 0), (.isub, 1, 0, 0, 0), (.ireturn, 1, 0, 0, 0)])]
theorem ck_X0_addLoad : en_ck 6 bs_X0_addLoad = true := by decide +kernel
def bs_X0_removeLoad : en_Bs := [
  (0, [(.aload_n 0, 1, 0, 0, 0), (.iload_n 1, 1, 0, 0, 0), (.invokevirtual 77, 3, 4, 2, 553)]),
  (5, [(.ifCond .eq 45, 3, 50, 0, 0)]),
  (8, [(.iload_n 1, 1, 0, 0, 0), (.iconst 1, 1, 0, 0, 0), (.iadd, 1, 0, 0, 0), (.bipush 6, 2, 0, 0, 0), (.imul, 1, 0, 0, 0), (.istore_n 2, 1, 0, 0, 0), (.aload_n 0, 1, 0, 0, 0), (.getfield 21, 3, 0, 5, 108), (.iload_n 2, 1, 0, 0, 0), (.aload_n 0, 1, 0, 0, 0), (.getfield 21, 3, 0, 5, 108), (.iload_n 1, 1, 0, 0, 0), (.bipush 6, 2, 0, 0, 0), (.imul, 1, 0, 0, 0), (.aload_n 0, 1, 0, 0, 0), (.getfield 60, 3, 0, 4, 103), (.bipush 6, 2, 0, 0, 0), (.imul, 1, 0, 0, 0), (.iload_n 2, 1, 0, 0, 0), (.isub, 1, 0, 0, 0), (.invokestatic 54, 3, 901, 0, 554), (.aload_n 0, 1, 0, 0, 0), (.dup, 1, 0, 0, 0), (.getfield 60, 3, 0, 4, 103), (.iconst 1, 1, 0, 0, 0), (.isub, 1, 0, 0, 0), (.putfield 60, 3, 0, 4, 103)]),
  (50, [(.return_, 1, 0, 0, 0)])]
theorem ck_X0_removeLoad : en_ck 7 bs_X0_removeLoad = true := by decide +kernel
def bs_X0_addLaw : en_Bs := [
  (0, [(.aload_n 0, 1, 0, 0, 0), (.getfield 63, 3, 0, 6, 109), (.bipush 6, 2, 0, 0, 0), (.if_icmp .lt 5, 3, 11, 0, 0)]),
  (9, [(.iconst (-1), 1, 0, 0, 0), (.ireturn, 1, 0, 0, 0)]),
  (11, [(.aload_n 0, 1, 0, 0, 0), (.aload_n 0, 1, 0, 0, 0), (.getfield 63, 3, 0, 6, 109), (.invokevirtual 66, 3, 10, 2, 741)]),
  (19, [(.aload_n 1, 1, 0, 0, 0), (.invokevirtual 70, 3, 56, 2, 745)]),
  (23, [(.aload_n 0, 1, 0, 0, 0), (.dup, 1, 0, 0, 0), (.getfield 63, 3, 0, 6, 109), (.iconst 1, 1, 0, 0, 0), (.iadd, 1, 0, 0, 0), (.putfield 63, 3, 0, 6, 109), (.aload_n 0, 1, 0, 0, 0), (.getfield 63, 3, 0, 6, 109), (.iconst 1, 1, 0, 0, 0), (.isub, 1, 0, 0, 0), (.ireturn, 1, 0, 0, 0)])]
theorem ck_X0_addLaw : en_ck 8 bs_X0_addLaw = true := by decide +kernel
def bs_X0_lawInForce : en_Bs := [
  (0, [(.aload_n 0, 1, 0, 0, 0), (.aload_n 0, 1, 0, 0, 0), (.getfield 35, 3, 0, 9, 113), (.invokevirtual 66, 3, 10, 2, 741)]),
  (8, [(.areturn, 1, 0, 0, 0)])]
theorem ck_X0_lawInForce : en_ck 9 bs_X0_lawInForce = true := by decide +kernel
def bs_X0_lawAt : en_Bs := [
  (0, [(.iload_n 1, 1, 0, 0, 0), (.ifCond .lt 18, 3, 19, 0, 0)]),
  (4, [(.iload_n 1, 1, 0, 0, 0), (.bipush 6, 2, 0, 0, 0), (.if_icmp .ge 12, 3, 19, 0, 0)]),
  (10, [(.aload_n 0, 1, 0, 0, 0), (.getfield 26, 3, 0, 7, 111), (.iload_n 1, 1, 0, 0, 0), (.aaload, 1, 0, 0, 0), (.goto 4, 3, 20, 0, 0)]),
  (19, [(.aconst_null, 1, 0, 0, 0)]),
  (20, [(.astore_n 2, 1, 0, 0, 0), (.aload_n 2, 1, 0, 0, 0), (.ifnonnull 10, 3, 32, 0, 0)]),
  (25, [(.aload_n 0, 1, 0, 0, 0), (.getfield 31, 3, 0, 8, 112), (.goto 4, 3, 33, 0, 0)]),
  (32, [(.aload_n 2, 1, 0, 0, 0)]),
  (33, [(.areturn, 1, 0, 0, 0)])]
theorem ck_X0_lawAt : en_ck 10 bs_X0_lawAt = true := by decide +kernel
def bs_X0_about : en_Bs := [
  (0, [(.iload_n 1, 1, 0, 0, 0), (.ifCond .lt 35, 3, 36, 0, 0)]),
  (4, [(.iload_n 1, 1, 0, 0, 0), (.aload_n 0, 1, 0, 0, 0), (.getfield 60, 3, 0, 4, 103), (.if_icmp .ge 27, 3, 36, 0, 0)]),
  (12, [(.iload_n 2, 1, 0, 0, 0), (.ifCond .lt 23, 3, 36, 0, 0)]),
  (16, [(.iload_n 2, 1, 0, 0, 0), (.bipush 6, 2, 0, 0, 0), (.if_icmp .ge 17, 3, 36, 0, 0)]),
  (22, [(.aload_n 0, 1, 0, 0, 0), (.getfield 21, 3, 0, 5, 108), (.iload_n 1, 1, 0, 0, 0), (.bipush 6, 2, 0, 0, 0), (.imul, 1, 0, 0, 0), (.iload_n 2, 1, 0, 0, 0), (.iadd, 1, 0, 0, 0), (.iaload, 1, 0, 0, 0), (.goto 4, 3, 37, 0, 0)]),
  (36, [(.iconst (-1), 1, 0, 0, 0)]),
  (37, [(.ireturn, 1, 0, 0, 0)])]
theorem ck_X0_about : en_ck 11 bs_X0_about = true := by decide +kernel
def bs_X0_next : en_Bs := [
  (0, [(.aload_n 0, 1, 0, 0, 0), (.iload_n 1, 1, 0, 0, 0), (.invokevirtual 81, 3, 3, 2, 520)]),
  (5, [(.ifCond .eq 25, 3, 30, 0, 0)]),
  (8, [(.aload_n 0, 1, 0, 0, 0), (.aload_n 0, 1, 0, 0, 0), (.getfield 9, 3, 0, 1, 92), (.iload_n 1, 1, 0, 0, 0), (.iaload, 1, 0, 0, 0), (.invokevirtual 81, 3, 3, 2, 520)]),
  (18, [(.ifCond .eq 12, 3, 30, 0, 0)]),
  (21, [(.aload_n 0, 1, 0, 0, 0), (.getfield 9, 3, 0, 1, 92), (.iload_n 1, 1, 0, 0, 0), (.iaload, 1, 0, 0, 0), (.goto 4, 3, 31, 0, 0)]),
  (30, [(.iconst (-1), 1, 0, 0, 0)]),
  (31, [(.ireturn, 1, 0, 0, 0)])]
theorem ck_X0_next : en_ck 12 bs_X0_next = true := by decide +kernel
def bs_X0_nextPast : en_Bs := [
  (0, [(.aload_n 0, 1, 0, 0, 0), (.iload_n 1, 1, 0, 0, 0), (.invokevirtual 84, 3, 12, 2, 768)]),
  (5, [(.istore_n 3, 1, 0, 0, 0), (.iconst 0, 1, 0, 0, 0), (.istore 4, 2, 0, 0, 0)]),
  (9, [(.iload 4, 2, 0, 0, 0), (.bipush 12, 2, 0, 0, 0), (.if_icmp .ge 28, 3, 41, 0, 0)]),
  (16, [(.iload_n 3, 1, 0, 0, 0), (.iconst (-1), 1, 0, 0, 0), (.if_icmp .eq 23, 3, 41, 0, 0)]),
  (21, [(.iload_n 2, 1, 0, 0, 0), (.iload_n 3, 1, 0, 0, 0), (.invokestatic 88, 3, 155, 2, 5005)]),
  (26, [(.ifCond .eq 15, 3, 41, 0, 0)]),
  (29, [(.aload_n 0, 1, 0, 0, 0), (.iload_n 3, 1, 0, 0, 0), (.invokevirtual 84, 3, 12, 2, 768)]),
  (34, [(.istore_n 3, 1, 0, 0, 0), (.iinc 4 1, 3, 0, 0, 0), (.goto (-29), 3, 9, 0, 0)]),
  (41, [(.iload_n 3, 1, 0, 0, 0), (.iconst (-1), 1, 0, 0, 0), (.if_icmp .eq 15, 3, 58, 0, 0)]),
  (46, [(.iload_n 2, 1, 0, 0, 0), (.iload_n 3, 1, 0, 0, 0), (.invokestatic 88, 3, 155, 2, 5005)]),
  (51, [(.ifCond .eq 7, 3, 58, 0, 0)]),
  (54, [(.iconst (-1), 1, 0, 0, 0), (.goto 4, 3, 59, 0, 0)]),
  (58, [(.iload_n 3, 1, 0, 0, 0)]),
  (59, [(.ireturn, 1, 0, 0, 0)])]
theorem ck_X0_nextPast : en_ck 13 bs_X0_nextPast = true := by decide +kernel
def bs_X0_handsOf : en_Bs := [
  (0, [(.aload_n 0, 1, 0, 0, 0), (.iload_n 1, 1, 0, 0, 0), (.iconst 1, 1, 0, 0, 0), (.invokevirtual 92, 3, 11, 3, 767)]),
  (6, [(.istore_n 2, 1, 0, 0, 0), (.aload_n 0, 1, 0, 0, 0), (.iload_n 1, 1, 0, 0, 0), (.iconst 2, 1, 0, 0, 0), (.invokevirtual 92, 3, 11, 3, 767)]),
  (13, [(.istore_n 3, 1, 0, 0, 0), (.iconst 0, 1, 0, 0, 0), (.istore 4, 2, 0, 0, 0)]),
  (17, [(.iload 4, 2, 0, 0, 0), (.bipush 12, 2, 0, 0, 0), (.if_icmp .ge 28, 3, 49, 0, 0)]),
  (24, [(.iload_n 2, 1, 0, 0, 0), (.iconst (-1), 1, 0, 0, 0), (.if_icmp .eq 23, 3, 49, 0, 0)]),
  (29, [(.iload_n 2, 1, 0, 0, 0), (.iload_n 3, 1, 0, 0, 0), (.if_icmp .ne 6, 3, 37, 0, 0)]),
  (34, [(.iload 4, 2, 0, 0, 0), (.ireturn, 1, 0, 0, 0)]),
  (37, [(.aload_n 0, 1, 0, 0, 0), (.iload_n 2, 1, 0, 0, 0), (.invokevirtual 84, 3, 12, 2, 768)]),
  (42, [(.istore_n 2, 1, 0, 0, 0), (.iinc 4 1, 3, 0, 0, 0), (.goto (-29), 3, 17, 0, 0)]),
  (49, [(.iconst (-1), 1, 0, 0, 0), (.ireturn, 1, 0, 0, 0)])]
theorem ck_X0_handsOf : en_ck 14 bs_X0_handsOf = true := by decide +kernel
def bs_X1_init : en_Bs := [
  (0, [(.aload_n 0, 1, 0, 0, 0), (.invokespecial 3, 3, 900, 0, 246), (.aload_n 0, 1, 0, 0, 0), (.bipush 12, 2, 0, 0, 0), (.newarray .int, 2, 0, 0, 0), (.putfield 9, 3, 1, 2, 249), (.aload_n 0, 1, 0, 0, 0), (.bipush 12, 2, 0, 0, 0), (.newarray .int, 2, 0, 0, 0), (.putfield 15, 3, 1, 3, 252), (.aload_n 0, 1, 0, 0, 0), (.bipush 8, 2, 0, 0, 0), (.newarray .int, 2, 0, 0, 0), (.putfield 18, 3, 1, 4, 254), (.aload_n 0, 1, 0, 0, 0), (.bipush 12, 2, 0, 0, 0), (.newarray .int, 2, 0, 0, 0), (.putfield 21, 3, 1, 5, 256), (.aload_n 0, 1, 0, 0, 0), (.bipush 8, 2, 0, 0, 0), (.newarray .int, 2, 0, 0, 0), (.putfield 24, 3, 1, 6, 257), (.aload_n 0, 1, 0, 0, 0), (.bipush 8, 2, 0, 0, 0), (.newarray .int, 2, 0, 0, 0), (.putfield 27, 3, 1, 7, 258), (.aload_n 0, 1, 0, 0, 0), (.bipush 8, 2, 0, 0, 0), (.newarray .int, 2, 0, 0, 0), (.putfield 30, 3, 1, 8, 259), (.aload_n 0, 1, 0, 0, 0), (.bipush 8, 2, 0, 0, 0), (.newarray .int, 2, 0, 0, 0), (.putfield 33, 3, 1, 9, 261), (.aload_n 0, 1, 0, 0, 0), (.bipush 8, 2, 0, 0, 0), (.newarray .int, 2, 0, 0, 0), (.putfield 36, 3, 1, 10, 263), (.aload_n 0, 1, 0, 0, 0), (.bipush 8, 2, 0, 0, 0), (.newarray .int, 2, 0, 0, 0), (.putfield 39, 3, 1, 11, 265), (.aload_n 0, 1, 0, 0, 0), (.bipush 12, 2, 0, 0, 0), (.newarray .int, 2, 0, 0, 0), (.putfield 42, 3, 1, 12, 266), (.aload_n 0, 1, 0, 0, 0), (.bipush 12, 2, 0, 0, 0), (.newarray .int, 2, 0, 0, 0), (.putfield 45, 3, 1, 13, 267), (.aload_n 0, 1, 0, 0, 0), (.bipush 8, 2, 0, 0, 0), (.newarray .long, 2, 0, 0, 0), (.putfield 48, 3, 1, 14, 268), (.aload_n 0, 1, 0, 0, 0), (.bipush 8, 2, 0, 0, 0), (.newarray .int, 2, 0, 0, 0), (.putfield 52, 3, 1, 15, 269), (.aload_n 0, 1, 0, 0, 0), (.sipush 800, 3, 0, 0, 0), (.newarray .int, 2, 0, 0, 0), (.putfield 55, 3, 1, 17, 271), (.aload_n 0, 1, 0, 0, 0), (.aload_n 1, 1, 0, 0, 0), (.putfield 58, 3, 1, 0, 247), (.aload_n 0, 1, 0, 0, 0), (.aload_n 2, 1, 0, 0, 0), (.putfield 62, 3, 1, 1, 248), (.return_, 1, 0, 0, 0)])]
theorem ck_X1_init : en_ck 15 bs_X1_init = true := by decide +kernel
def bs_X1_layOut : en_Bs := [
  (0, [(.aload_n 0, 1, 0, 0, 0), (.getfield 58, 3, 1, 0, 247), (.getfield 66, 3, 0, 2, 95), (.iconst 0, 1, 0, 0, 0), (.aload_n 0, 1, 0, 0, 0), (.getfield 9, 3, 1, 2, 249), (.iconst 0, 1, 0, 0, 0), (.bipush 12, 2, 0, 0, 0), (.invokestatic 69, 3, 901, 0, 807), (.aload_n 0, 1, 0, 0, 0), (.getfield 58, 3, 1, 0, 247), (.getfield 75, 3, 0, 3, 100), (.iconst 0, 1, 0, 0, 0), (.aload_n 0, 1, 0, 0, 0), (.getfield 15, 3, 1, 3, 252), (.iconst 0, 1, 0, 0, 0), (.bipush 12, 2, 0, 0, 0), (.invokestatic 69, 3, 901, 0, 807), (.iconst 0, 1, 0, 0, 0), (.istore_n 2, 1, 0, 0, 0)]),
  (38, [(.iload_n 2, 1, 0, 0, 0), (.aload_n 0, 1, 0, 0, 0), (.getfield 58, 3, 1, 0, 247), (.getfield 76, 3, 0, 0, 87), (.if_icmp .ge 24, 3, 70, 0, 0)]),
  (49, [(.aload_n 0, 1, 0, 0, 0), (.getfield 21, 3, 1, 5, 256), (.iload_n 2, 1, 0, 0, 0), (.aload_n 0, 1, 0, 0, 0), (.getfield 58, 3, 1, 0, 247), (.iload_n 2, 1, 0, 0, 0), (.iload_n 1, 1, 0, 0, 0), (.invokevirtual 80, 3, 13, 3, 808)]),
  (63, [(.iastore, 1, 0, 0, 0), (.iinc 2 1, 3, 0, 0, 0), (.goto (-29), 3, 38, 0, 0)]),
  (70, [(.iconst 0, 1, 0, 0, 0), (.istore_n 2, 1, 0, 0, 0)]),
  (72, [(.iload_n 2, 1, 0, 0, 0), (.aload_n 0, 1, 0, 0, 0), (.getfield 58, 3, 1, 0, 247), (.getfield 84, 3, 0, 4, 104), (.if_icmp .ge 35, 3, 115, 0, 0)]),
  (83, [(.aload_n 0, 1, 0, 0, 0), (.getfield 18, 3, 1, 4, 254), (.iload_n 2, 1, 0, 0, 0), (.aload_n 0, 1, 0, 0, 0), (.getfield 58, 3, 1, 0, 247), (.iload_n 2, 1, 0, 0, 0), (.iconst 3, 1, 0, 0, 0), (.invokevirtual 87, 3, 11, 3, 813)]),
  (97, [(.iastore, 1, 0, 0, 0), (.aload_n 0, 1, 0, 0, 0), (.getfield 24, 3, 1, 6, 257), (.iload_n 2, 1, 0, 0, 0), (.aload_n 0, 1, 0, 0, 0), (.iload_n 2, 1, 0, 0, 0), (.invokevirtual 90, 3, 17, 2, 814)]),
  (108, [(.iastore, 1, 0, 0, 0), (.iinc 2 1, 3, 0, 0, 0), (.goto (-40), 3, 72, 0, 0)]),
  (115, [(.return_, 1, 0, 0, 0)])]
theorem ck_X1_layOut : en_ck 16 bs_X1_layOut = true := by decide +kernel
def bs_X1_handsToWant : en_Bs := [
  (0, [(.aload_n 0, 1, 0, 0, 0), (.getfield 58, 3, 1, 0, 247), (.iload_n 1, 1, 0, 0, 0), (.iconst 1, 1, 0, 0, 0), (.invokevirtual 87, 3, 11, 3, 813)]),
  (9, [(.istore_n 2, 1, 0, 0, 0), (.aload_n 0, 1, 0, 0, 0), (.getfield 58, 3, 1, 0, 247), (.iload_n 1, 1, 0, 0, 0), (.iconst 2, 1, 0, 0, 0), (.invokevirtual 87, 3, 11, 3, 813)]),
  (19, [(.istore_n 3, 1, 0, 0, 0), (.iconst 0, 1, 0, 0, 0), (.istore 4, 2, 0, 0, 0)]),
  (23, [(.iload 4, 2, 0, 0, 0), (.bipush 12, 2, 0, 0, 0), (.if_icmp .ge 35, 3, 62, 0, 0)]),
  (30, [(.aload_n 0, 1, 0, 0, 0), (.getfield 58, 3, 1, 0, 247), (.iload_n 2, 1, 0, 0, 0), (.invokevirtual 94, 3, 3, 2, 818)]),
  (38, [(.ifCond .eq 24, 3, 62, 0, 0)]),
  (41, [(.iload_n 2, 1, 0, 0, 0), (.iload_n 3, 1, 0, 0, 0), (.if_icmp .ne 6, 3, 49, 0, 0)]),
  (46, [(.iload 4, 2, 0, 0, 0), (.ireturn, 1, 0, 0, 0)]),
  (49, [(.aload_n 0, 1, 0, 0, 0), (.getfield 21, 3, 1, 5, 256), (.iload_n 2, 1, 0, 0, 0), (.iaload, 1, 0, 0, 0), (.istore_n 2, 1, 0, 0, 0), (.iinc 4 1, 3, 0, 0, 0), (.goto (-36), 3, 23, 0, 0)]),
  (62, [(.iconst (-1), 1, 0, 0, 0), (.ireturn, 1, 0, 0, 0)])]
theorem ck_X1_handsToWant : en_ck 17 bs_X1_handsToWant = true := by decide +kernel
def bs_X1_runWhole : en_Bs := [
  (0, [(.aload_n 0, 1, 0, 0, 0), (.invokevirtual 98, 3, 23, 1, 823)]),
  (4, [(.iconst 0, 1, 0, 0, 0), (.istore_n 1, 1, 0, 0, 0)]),
  (6, [(.iload_n 1, 1, 0, 0, 0), (.bipush 100, 2, 0, 0, 0), (.if_icmp .ge 42, 3, 51, 0, 0)]),
  (12, [(.aload_n 0, 1, 0, 0, 0), (.iload_n 1, 1, 0, 0, 0), (.invokevirtual 101, 3, 24, 2, 830)]),
  (17, [(.aload_n 0, 1, 0, 0, 0), (.iload_n 1, 1, 0, 0, 0), (.invokevirtual 105, 3, 29, 2, 846)]),
  (22, [(.aload_n 0, 1, 0, 0, 0), (.iload_n 1, 1, 0, 0, 0), (.invokevirtual 108, 3, 30, 2, 882)]),
  (27, [(.aload_n 0, 1, 0, 0, 0), (.getfield 30, 3, 1, 8, 259), (.iconst 0, 1, 0, 0, 0), (.aload_n 0, 1, 0, 0, 0), (.getfield 55, 3, 1, 17, 271), (.iload_n 1, 1, 0, 0, 0), (.bipush 8, 2, 0, 0, 0), (.imul, 1, 0, 0, 0), (.bipush 8, 2, 0, 0, 0), (.invokestatic 69, 3, 901, 0, 807), (.iinc 1 1, 3, 0, 0, 0), (.goto (-42), 3, 6, 0, 0)]),
  (51, [(.return_, 1, 0, 0, 0)])]
theorem ck_X1_runWhole : en_ck 18 bs_X1_runWhole = true := by decide +kernel
def bs_X1_comesBy : en_Bs := [
  (0, [(.aload_n 0, 1, 0, 0, 0), (.iload_n 1, 1, 0, 0, 0), (.iload_n 2, 1, 0, 0, 0), (.invokevirtual 111, 3, 21, 3, 938)]),
  (6, [(.ifCond .ne 5, 3, 11, 0, 0)]),
  (9, [(.iconst 0, 1, 0, 0, 0), (.ireturn, 1, 0, 0, 0)]),
  (11, [(.aload_n 0, 1, 0, 0, 0), (.invokevirtual 98, 3, 23, 1, 823)]),
  (15, [(.iload_n 1, 1, 0, 0, 0), (.istore_n 3, 1, 0, 0, 0), (.aload_n 0, 1, 0, 0, 0), (.invokevirtual 115, 3, 20, 1, 946)]),
  (21, [(.istore 4, 2, 0, 0, 0), (.aload_n 0, 1, 0, 0, 0), (.getfield 58, 3, 1, 0, 247), (.invokevirtual 119, 3, 9, 1, 850)]),
  (30, [(.invokevirtual 123, 3, 59, 1, 950)]),
  (33, [(.ifCond .ne 7, 3, 40, 0, 0)]),
  (36, [(.iconst 1, 1, 0, 0, 0), (.goto 4, 3, 41, 0, 0)]),
  (40, [(.iconst 0, 1, 0, 0, 0)]),
  (41, [(.istore 5, 2, 0, 0, 0), (.iconst 0, 1, 0, 0, 0), (.istore 6, 2, 0, 0, 0)]),
  (46, [(.iload 6, 2, 0, 0, 0), (.bipush 100, 2, 0, 0, 0), (.if_icmp .ge 137, 3, 187, 0, 0)]),
  (53, [(.iload_n 3, 1, 0, 0, 0), (.ifCond .eq 133, 3, 187, 0, 0)]),
  (57, [(.aload_n 0, 1, 0, 0, 0), (.iconst 0, 1, 0, 0, 0), (.putfield 129, 3, 1, 18, 272), (.aload_n 0, 1, 0, 0, 0), (.iload 6, 2, 0, 0, 0), (.invokevirtual 101, 3, 24, 2, 830)]),
  (68, [(.aload_n 0, 1, 0, 0, 0), (.iload 6, 2, 0, 0, 0), (.invokevirtual 105, 3, 29, 2, 846)]),
  (74, [(.aload_n 0, 1, 0, 0, 0), (.iload 6, 2, 0, 0, 0), (.invokevirtual 108, 3, 30, 2, 882)]),
  (80, [(.iconst 0, 1, 0, 0, 0), (.istore 7, 2, 0, 0, 0)]),
  (83, [(.iload 7, 2, 0, 0, 0), (.aload_n 0, 1, 0, 0, 0), (.getfield 58, 3, 1, 0, 247), (.getfield 84, 3, 0, 4, 104), (.if_icmp .ge 64, 3, 156, 0, 0)]),
  (95, [(.iload_n 3, 1, 0, 0, 0), (.iload 7, 2, 0, 0, 0), (.invokestatic 133, 3, 155, 2, 5007)]),
  (101, [(.ifCond .eq 24, 3, 125, 0, 0)]),
  (104, [(.aload_n 0, 1, 0, 0, 0), (.getfield 33, 3, 1, 9, 261), (.iload 7, 2, 0, 0, 0), (.iaload, 1, 0, 0, 0), (.iconst (-1), 1, 0, 0, 0), (.if_icmp .eq 13, 3, 125, 0, 0)]),
  (115, [(.iload_n 3, 1, 0, 0, 0), (.iconst 1, 1, 0, 0, 0), (.iload 7, 2, 0, 0, 0), (.ishl, 1, 0, 0, 0), (.isub, 1, 0, 0, 0), (.istore_n 3, 1, 0, 0, 0), (.goto 28, 3, 150, 0, 0)]),
  (125, [(.iload_n 3, 1, 0, 0, 0), (.iload 7, 2, 0, 0, 0), (.invokestatic 133, 3, 155, 2, 5007)]),
  (131, [(.ifCond .eq 19, 3, 150, 0, 0)]),
  (134, [(.iload 6, 2, 0, 0, 0), (.aload_n 0, 1, 0, 0, 0), (.getfield 27, 3, 1, 7, 258), (.iload 7, 2, 0, 0, 0), (.iaload, 1, 0, 0, 0), (.iadd, 1, 0, 0, 0), (.iload_n 2, 1, 0, 0, 0), (.if_icmp .le 5, 3, 150, 0, 0)]),
  (148, [(.iconst 0, 1, 0, 0, 0), (.ireturn, 1, 0, 0, 0)]),
  (150, [(.iinc 7 1, 3, 0, 0, 0), (.goto (-70), 3, 83, 0, 0)]),
  (156, [(.iload_n 3, 1, 0, 0, 0), (.ifCond .eq 24, 3, 181, 0, 0)]),
  (160, [(.aload_n 0, 1, 0, 0, 0), (.getfield 129, 3, 1, 18, 272), (.ifCond .ne 17, 3, 181, 0, 0)]),
  (167, [(.iload 5, 2, 0, 0, 0), (.ifCond .eq 12, 3, 181, 0, 0)]),
  (172, [(.iload 6, 2, 0, 0, 0), (.iload 4, 2, 0, 0, 0), (.if_icmp .lt 5, 3, 181, 0, 0)]),
  (179, [(.iconst 0, 1, 0, 0, 0), (.ireturn, 1, 0, 0, 0)]),
  (181, [(.iinc 6 1, 3, 0, 0, 0), (.goto (-138), 3, 46, 0, 0)]),
  (187, [(.iload_n 3, 1, 0, 0, 0), (.ifCond .ne 7, 3, 195, 0, 0)]),
  (191, [(.iconst 1, 1, 0, 0, 0), (.goto 4, 3, 196, 0, 0)]),
  (195, [(.iconst 0, 1, 0, 0, 0)]),
  (196, [(.ireturn, 1, 0, 0, 0)])]
theorem ck_X1_comesBy : en_ck 19 bs_X1_comesBy = true := by decide +kernel
def bs_X1_lastStart : en_Bs := [
  (0, [(.iconst 0, 1, 0, 0, 0), (.istore_n 1, 1, 0, 0, 0), (.iconst 0, 1, 0, 0, 0), (.istore_n 2, 1, 0, 0, 0)]),
  (4, [(.iload_n 2, 1, 0, 0, 0), (.aload_n 0, 1, 0, 0, 0), (.getfield 58, 3, 1, 0, 247), (.getfield 84, 3, 0, 4, 104), (.if_icmp .ge 20, 3, 32, 0, 0)]),
  (15, [(.iload_n 1, 1, 0, 0, 0), (.aload_n 0, 1, 0, 0, 0), (.getfield 18, 3, 1, 4, 254), (.iload_n 2, 1, 0, 0, 0), (.iaload, 1, 0, 0, 0), (.invokestatic 136, 3, 902, 0, 915), (.istore_n 1, 1, 0, 0, 0), (.iinc 2 1, 3, 0, 0, 0), (.goto (-25), 3, 4, 0, 0)]),
  (32, [(.iload_n 1, 1, 0, 0, 0), (.ireturn, 1, 0, 0, 0)])]
theorem ck_X1_lastStart : en_ck 20 bs_X1_lastStart = true := by decide +kernel
def bs_X1_canComeBy : en_Bs := [
  (0, [(.iconst 0, 1, 0, 0, 0), (.istore_n 3, 1, 0, 0, 0)]),
  (2, [(.iload_n 3, 1, 0, 0, 0), (.aload_n 0, 1, 0, 0, 0), (.getfield 58, 3, 1, 0, 247), (.getfield 84, 3, 0, 4, 104), (.if_icmp .ge 60, 3, 70, 0, 0)]),
  (13, [(.iload_n 1, 1, 0, 0, 0), (.iload_n 3, 1, 0, 0, 0), (.invokestatic 133, 3, 155, 2, 5007)]),
  (18, [(.ifCond .eq 46, 3, 64, 0, 0)]),
  (21, [(.aload_n 0, 1, 0, 0, 0), (.getfield 24, 3, 1, 6, 257), (.iload_n 3, 1, 0, 0, 0), (.iaload, 1, 0, 0, 0), (.iconst (-1), 1, 0, 0, 0), (.if_icmp .eq 34, 3, 62, 0, 0)]),
  (31, [(.aload_n 0, 1, 0, 0, 0), (.getfield 18, 3, 1, 4, 254), (.iload_n 3, 1, 0, 0, 0), (.iaload, 1, 0, 0, 0), (.iconst 0, 1, 0, 0, 0), (.aload_n 0, 1, 0, 0, 0), (.getfield 24, 3, 1, 6, 257), (.iload_n 3, 1, 0, 0, 0), (.iaload, 1, 0, 0, 0), (.iconst 1, 1, 0, 0, 0), (.isub, 1, 0, 0, 0), (.invokestatic 136, 3, 902, 0, 915), (.iadd, 1, 0, 0, 0), (.iload_n 2, 1, 0, 0, 0), (.if_icmp .gt 11, 3, 62, 0, 0)]),
  (54, [(.aload_n 0, 1, 0, 0, 0), (.iload_n 3, 1, 0, 0, 0), (.invokevirtual 141, 3, 22, 2, 942)]),
  (59, [(.ifCond .ne 5, 3, 64, 0, 0)]),
  (62, [(.iconst 0, 1, 0, 0, 0), (.ireturn, 1, 0, 0, 0)]),
  (64, [(.iinc 3 1, 3, 0, 0, 0), (.goto (-65), 3, 2, 0, 0)]),
  (70, [(.iconst 1, 1, 0, 0, 0), (.ireturn, 1, 0, 0, 0)])]
theorem ck_X1_canComeBy : en_ck 21 bs_X1_canComeBy = true := by decide +kernel
def bs_X1_isCarried : en_Bs := [
  (0, [(.aload_n 0, 1, 0, 0, 0), (.getfield 58, 3, 1, 0, 247), (.iload_n 1, 1, 0, 0, 0), (.iconst 1, 1, 0, 0, 0), (.invokevirtual 87, 3, 11, 3, 813)]),
  (9, [(.istore_n 2, 1, 0, 0, 0), (.aload_n 0, 1, 0, 0, 0), (.getfield 58, 3, 1, 0, 247), (.iload_n 1, 1, 0, 0, 0), (.iconst 0, 1, 0, 0, 0), (.invokevirtual 87, 3, 11, 3, 813)]),
  (19, [(.istore_n 3, 1, 0, 0, 0), (.iconst 0, 1, 0, 0, 0), (.istore 4, 2, 0, 0, 0)]),
  (23, [(.iload 4, 2, 0, 0, 0), (.aload_n 0, 1, 0, 0, 0), (.getfield 24, 3, 1, 6, 257), (.iload_n 1, 1, 0, 0, 0), (.iaload, 1, 0, 0, 0), (.if_icmp .ge 39, 3, 70, 0, 0)]),
  (34, [(.aload_n 0, 1, 0, 0, 0), (.getfield 58, 3, 1, 0, 247), (.iload_n 2, 1, 0, 0, 0), (.invokevirtual 94, 3, 3, 2, 818)]),
  (42, [(.ifCond .eq 28, 3, 70, 0, 0)]),
  (45, [(.aload_n 0, 1, 0, 0, 0), (.getfield 9, 3, 1, 2, 249), (.iload_n 2, 1, 0, 0, 0), (.iaload, 1, 0, 0, 0), (.iload_n 3, 1, 0, 0, 0), (.if_icmp .ge 5, 3, 57, 0, 0)]),
  (55, [(.iconst 0, 1, 0, 0, 0), (.ireturn, 1, 0, 0, 0)]),
  (57, [(.aload_n 0, 1, 0, 0, 0), (.getfield 21, 3, 1, 5, 256), (.iload_n 2, 1, 0, 0, 0), (.iaload, 1, 0, 0, 0), (.istore_n 2, 1, 0, 0, 0), (.iinc 4 1, 3, 0, 0, 0), (.goto (-44), 3, 23, 0, 0)]),
  (70, [(.iconst 1, 1, 0, 0, 0), (.ireturn, 1, 0, 0, 0)])]
theorem ck_X1_isCarried : en_ck 22 bs_X1_isCarried = true := by decide +kernel
def bs_X1_begin : en_Bs := [
  (0, [(.aload_n 0, 1, 0, 0, 0), (.getfield 30, 3, 1, 8, 259), (.iconst (-1), 1, 0, 0, 0), (.invokestatic 144, 3, 266, 2, 827)]),
  (8, [(.aload_n 0, 1, 0, 0, 0), (.getfield 33, 3, 1, 9, 261), (.iconst (-1), 1, 0, 0, 0), (.invokestatic 144, 3, 266, 2, 827)]),
  (16, [(.aload_n 0, 1, 0, 0, 0), (.getfield 39, 3, 1, 11, 265), (.iconst 0, 1, 0, 0, 0), (.invokestatic 144, 3, 266, 2, 827)]),
  (24, [(.aload_n 0, 1, 0, 0, 0), (.getfield 36, 3, 1, 10, 263), (.iconst 0, 1, 0, 0, 0), (.invokestatic 144, 3, 266, 2, 827)]),
  (32, [(.aload_n 0, 1, 0, 0, 0), (.getfield 42, 3, 1, 12, 266), (.iconst 0, 1, 0, 0, 0), (.invokestatic 144, 3, 266, 2, 827)]),
  (40, [(.aload_n 0, 1, 0, 0, 0), (.getfield 45, 3, 1, 13, 267), (.iconst 0, 1, 0, 0, 0), (.invokestatic 144, 3, 266, 2, 827)]),
  (48, [(.aload_n 0, 1, 0, 0, 0), (.getfield 24, 3, 1, 6, 257), (.iconst 0, 1, 0, 0, 0), (.aload_n 0, 1, 0, 0, 0), (.getfield 27, 3, 1, 7, 258), (.iconst 0, 1, 0, 0, 0), (.bipush 8, 2, 0, 0, 0), (.invokestatic 69, 3, 901, 0, 807), (.return_, 1, 0, 0, 0)])]
theorem ck_X1_begin : en_ck 23 bs_X1_begin = true := by decide +kernel
def bs_X1_arrive : en_Bs := [
  (0, [(.iconst 0, 1, 0, 0, 0), (.istore_n 2, 1, 0, 0, 0)]),
  (2, [(.iload_n 2, 1, 0, 0, 0), (.aload_n 0, 1, 0, 0, 0), (.getfield 58, 3, 1, 0, 247), (.getfield 84, 3, 0, 4, 104), (.if_icmp .ge 45, 3, 55, 0, 0)]),
  (13, [(.aload_n 0, 1, 0, 0, 0), (.getfield 18, 3, 1, 4, 254), (.iload_n 2, 1, 0, 0, 0), (.iaload, 1, 0, 0, 0), (.iload_n 1, 1, 0, 0, 0), (.if_icmp .ge 29, 3, 49, 0, 0)]),
  (23, [(.aload_n 0, 1, 0, 0, 0), (.getfield 30, 3, 1, 8, 259), (.iload_n 2, 1, 0, 0, 0), (.iaload, 1, 0, 0, 0), (.iconst (-1), 1, 0, 0, 0), (.if_icmp .ne 19, 3, 49, 0, 0)]),
  (33, [(.aload_n 0, 1, 0, 0, 0), (.getfield 33, 3, 1, 9, 261), (.iload_n 2, 1, 0, 0, 0), (.iaload, 1, 0, 0, 0), (.iconst (-1), 1, 0, 0, 0), (.if_icmp .ne 9, 3, 49, 0, 0)]),
  (43, [(.aload_n 0, 1, 0, 0, 0), (.iload_n 2, 1, 0, 0, 0), (.iload_n 1, 1, 0, 0, 0), (.invokevirtual 150, 3, 25, 3, 834)]),
  (49, [(.iinc 2 1, 3, 0, 0, 0), (.goto (-50), 3, 2, 0, 0)]),
  (55, [(.iconst 0, 1, 0, 0, 0), (.istore_n 2, 1, 0, 0, 0)]),
  (57, [(.iload_n 2, 1, 0, 0, 0), (.aload_n 0, 1, 0, 0, 0), (.getfield 58, 3, 1, 0, 247), (.getfield 84, 3, 0, 4, 104), (.if_icmp .ge 25, 3, 90, 0, 0)]),
  (68, [(.aload_n 0, 1, 0, 0, 0), (.getfield 18, 3, 1, 4, 254), (.iload_n 2, 1, 0, 0, 0), (.iaload, 1, 0, 0, 0), (.iload_n 1, 1, 0, 0, 0), (.if_icmp .ne 9, 3, 84, 0, 0)]),
  (78, [(.aload_n 0, 1, 0, 0, 0), (.iload_n 2, 1, 0, 0, 0), (.iload_n 1, 1, 0, 0, 0), (.invokevirtual 150, 3, 25, 3, 834)]),
  (84, [(.iinc 2 1, 3, 0, 0, 0), (.goto (-30), 3, 57, 0, 0)]),
  (90, [(.return_, 1, 0, 0, 0)])]
theorem ck_X1_arrive : en_ck 24 bs_X1_arrive = true := by decide +kernel
def bs_X1_admit : en_Bs := [
  (0, [(.aload_n 0, 1, 0, 0, 0), (.getfield 58, 3, 1, 0, 247), (.iload_n 1, 1, 0, 0, 0), (.iconst 1, 1, 0, 0, 0), (.invokevirtual 87, 3, 11, 3, 813)]),
  (9, [(.istore_n 3, 1, 0, 0, 0), (.iload_n 3, 1, 0, 0, 0), (.aload_n 0, 1, 0, 0, 0), (.getfield 58, 3, 1, 0, 247), (.iload_n 1, 1, 0, 0, 0), (.iconst 2, 1, 0, 0, 0), (.invokevirtual 87, 3, 11, 3, 813)]),
  (20, [(.if_icmp .ne 13, 3, 33, 0, 0)]),
  (23, [(.aload_n 0, 1, 0, 0, 0), (.getfield 33, 3, 1, 9, 261), (.iload_n 1, 1, 0, 0, 0), (.iload_n 2, 1, 0, 0, 0), (.iastore, 1, 0, 0, 0), (.goto 18, 3, 48, 0, 0)]),
  (33, [(.aload_n 0, 1, 0, 0, 0), (.iload_n 3, 1, 0, 0, 0), (.iload_n 1, 1, 0, 0, 0), (.invokevirtual 154, 3, 26, 3, 838)]),
  (39, [(.ifCond .eq 9, 3, 48, 0, 0)]),
  (42, [(.aload_n 0, 1, 0, 0, 0), (.iload_n 3, 1, 0, 0, 0), (.iload_n 1, 1, 0, 0, 0), (.invokevirtual 157, 3, 27, 3, 842)]),
  (48, [(.return_, 1, 0, 0, 0)])]
theorem ck_X1_admit : en_ck 25 bs_X1_admit = true := by decide +kernel
def bs_X1_canHold : en_Bs := [
  (0, [(.aload_n 0, 1, 0, 0, 0), (.getfield 58, 3, 1, 0, 247), (.iload_n 1, 1, 0, 0, 0), (.invokevirtual 94, 3, 3, 2, 818)]),
  (8, [(.ifCond .eq 48, 3, 56, 0, 0)]),
  (11, [(.aload_n 0, 1, 0, 0, 0), (.getfield 42, 3, 1, 12, 266), (.iload_n 1, 1, 0, 0, 0), (.iaload, 1, 0, 0, 0), (.aload_n 0, 1, 0, 0, 0), (.getfield 58, 3, 1, 0, 247), (.getfield 160, 3, 0, 11, 121), (.if_icmp .ge 32, 3, 56, 0, 0)]),
  (27, [(.aload_n 0, 1, 0, 0, 0), (.getfield 45, 3, 1, 13, 267), (.iload_n 1, 1, 0, 0, 0), (.iaload, 1, 0, 0, 0), (.aload_n 0, 1, 0, 0, 0), (.getfield 58, 3, 1, 0, 247), (.iload_n 2, 1, 0, 0, 0), (.iconst 0, 1, 0, 0, 0), (.invokevirtual 87, 3, 11, 3, 813)]),
  (42, [(.iadd, 1, 0, 0, 0), (.aload_n 0, 1, 0, 0, 0), (.getfield 9, 3, 1, 2, 249), (.iload_n 1, 1, 0, 0, 0), (.iaload, 1, 0, 0, 0), (.if_icmp .gt 7, 3, 56, 0, 0)]),
  (52, [(.iconst 1, 1, 0, 0, 0), (.goto 4, 3, 57, 0, 0)]),
  (56, [(.iconst 0, 1, 0, 0, 0)]),
  (57, [(.ireturn, 1, 0, 0, 0)])]
theorem ck_X1_canHold : en_ck 26 bs_X1_canHold = true := by decide +kernel
def bs_X1_take : en_Bs := [
  (0, [(.aload_n 0, 1, 0, 0, 0), (.getfield 58, 3, 1, 0, 247), (.iload_n 1, 1, 0, 0, 0), (.invokevirtual 94, 3, 3, 2, 818)]),
  (8, [(.ifCond .eq 50, 3, 58, 0, 0)]),
  (11, [(.aload_n 0, 1, 0, 0, 0), (.getfield 30, 3, 1, 8, 259), (.iload_n 2, 1, 0, 0, 0), (.iload_n 1, 1, 0, 0, 0), (.iastore, 1, 0, 0, 0), (.aload_n 0, 1, 0, 0, 0), (.getfield 39, 3, 1, 11, 265), (.iload_n 2, 1, 0, 0, 0), (.iconst 0, 1, 0, 0, 0), (.iastore, 1, 0, 0, 0), (.aload_n 0, 1, 0, 0, 0), (.iconst 1, 1, 0, 0, 0), (.putfield 129, 3, 1, 18, 272), (.aload_n 0, 1, 0, 0, 0), (.getfield 42, 3, 1, 12, 266), (.iload_n 1, 1, 0, 0, 0), (.dup2, 1, 0, 0, 0), (.iaload, 1, 0, 0, 0), (.iconst 1, 1, 0, 0, 0), (.iadd, 1, 0, 0, 0), (.iastore, 1, 0, 0, 0), (.aload_n 0, 1, 0, 0, 0), (.getfield 45, 3, 1, 13, 267), (.iload_n 1, 1, 0, 0, 0), (.dup2, 1, 0, 0, 0), (.iaload, 1, 0, 0, 0), (.aload_n 0, 1, 0, 0, 0), (.getfield 58, 3, 1, 0, 247), (.iload_n 2, 1, 0, 0, 0), (.iconst 0, 1, 0, 0, 0), (.invokevirtual 87, 3, 11, 3, 813)]),
  (56, [(.iadd, 1, 0, 0, 0), (.iastore, 1, 0, 0, 0)]),
  (58, [(.return_, 1, 0, 0, 0)])]
theorem ck_X1_take : en_ck 27 bs_X1_take = true := by decide +kernel
def bs_X1_giveUp : en_Bs := [
  (0, [(.aload_n 0, 1, 0, 0, 0), (.getfield 58, 3, 1, 0, 247), (.iload_n 1, 1, 0, 0, 0), (.invokevirtual 94, 3, 3, 2, 818)]),
  (8, [(.ifCond .eq 38, 3, 46, 0, 0)]),
  (11, [(.aload_n 0, 1, 0, 0, 0), (.getfield 30, 3, 1, 8, 259), (.iload_n 2, 1, 0, 0, 0), (.iconst (-1), 1, 0, 0, 0), (.iastore, 1, 0, 0, 0), (.aload_n 0, 1, 0, 0, 0), (.getfield 42, 3, 1, 12, 266), (.iload_n 1, 1, 0, 0, 0), (.dup2, 1, 0, 0, 0), (.iaload, 1, 0, 0, 0), (.iconst 1, 1, 0, 0, 0), (.isub, 1, 0, 0, 0), (.iastore, 1, 0, 0, 0), (.aload_n 0, 1, 0, 0, 0), (.getfield 45, 3, 1, 13, 267), (.iload_n 1, 1, 0, 0, 0), (.dup2, 1, 0, 0, 0), (.iaload, 1, 0, 0, 0), (.aload_n 0, 1, 0, 0, 0), (.getfield 58, 3, 1, 0, 247), (.iload_n 2, 1, 0, 0, 0), (.iconst 0, 1, 0, 0, 0), (.invokevirtual 87, 3, 11, 3, 813)]),
  (44, [(.isub, 1, 0, 0, 0), (.iastore, 1, 0, 0, 0)]),
  (46, [(.return_, 1, 0, 0, 0)])]
theorem ck_X1_giveUp : en_ck 28 bs_X1_giveUp = true := by decide +kernel
def bs_X1_lineUp : en_Bs := [
  (0, [(.aload_n 0, 1, 0, 0, 0), (.getfield 58, 3, 1, 0, 247), (.invokevirtual 119, 3, 9, 1, 850)]),
  (7, [(.iconst 0, 1, 0, 0, 0), (.invokevirtual 162, 3, 58, 2, 854)]),
  (11, [(.istore_n 2, 1, 0, 0, 0), (.aload_n 0, 1, 0, 0, 0), (.iconst 0, 1, 0, 0, 0), (.putfield 165, 3, 1, 16, 270), (.iconst 0, 1, 0, 0, 0), (.istore_n 3, 1, 0, 0, 0)]),
  (19, [(.iload_n 3, 1, 0, 0, 0), (.aload_n 0, 1, 0, 0, 0), (.getfield 58, 3, 1, 0, 247), (.getfield 84, 3, 0, 4, 104), (.if_icmp .ge 153, 3, 180, 0, 0)]),
  (30, [(.aload_n 0, 1, 0, 0, 0), (.getfield 30, 3, 1, 8, 259), (.iload_n 3, 1, 0, 0, 0), (.iaload, 1, 0, 0, 0), (.istore 4, 2, 0, 0, 0), (.aload_n 0, 1, 0, 0, 0), (.getfield 58, 3, 1, 0, 247), (.iload 4, 2, 0, 0, 0), (.invokevirtual 94, 3, 3, 2, 818)]),
  (47, [(.ifCond .ne 6, 3, 53, 0, 0)]),
  (50, [(.goto 124, 3, 174, 0, 0)]),
  (53, [(.aload_n 0, 1, 0, 0, 0), (.getfield 48, 3, 1, 14, 268), (.iload_n 3, 1, 0, 0, 0), (.iload_n 2, 1, 0, 0, 0), (.ifCond .eq 38, 3, 97, 0, 0)]),
  (62, [(.aload_n 0, 1, 0, 0, 0), (.getfield 62, 3, 1, 1, 248), (.iconst 0, 1, 0, 0, 0), (.iload_n 3, 1, 0, 0, 0), (.iload 4, 2, 0, 0, 0), (.iload_n 1, 1, 0, 0, 0), (.aload_n 0, 1, 0, 0, 0), (.getfield 39, 3, 1, 11, 265), (.iload_n 3, 1, 0, 0, 0), (.iaload, 1, 0, 0, 0), (.aload_n 0, 1, 0, 0, 0), (.getfield 9, 3, 1, 2, 249), (.iload 4, 2, 0, 0, 0), (.iaload, 1, 0, 0, 0), (.aload_n 0, 1, 0, 0, 0), (.getfield 15, 3, 1, 3, 252), (.iload 4, 2, 0, 0, 0), (.iaload, 1, 0, 0, 0), (.invokevirtual 168, 3, 52, 8, 859)]),
  (94, [(.goto 4, 3, 98, 0, 0)]),
  (97, [(.lconst 0, 1, 0, 0, 0)]),
  (98, [(.lastore, 1, 0, 0, 0), (.aload_n 0, 1, 0, 0, 0), (.getfield 165, 3, 1, 16, 270), (.istore 5, 2, 0, 0, 0)]),
  (105, [(.iload 5, 2, 0, 0, 0), (.ifCond .le 49, 3, 156, 0, 0)]),
  (110, [(.aload_n 0, 1, 0, 0, 0), (.getfield 48, 3, 1, 14, 268), (.aload_n 0, 1, 0, 0, 0), (.getfield 52, 3, 1, 15, 269), (.iload 5, 2, 0, 0, 0), (.iconst 1, 1, 0, 0, 0), (.isub, 1, 0, 0, 0), (.iaload, 1, 0, 0, 0), (.laload, 1, 0, 0, 0), (.aload_n 0, 1, 0, 0, 0), (.getfield 48, 3, 1, 14, 268), (.iload_n 3, 1, 0, 0, 0), (.laload, 1, 0, 0, 0), (.lcmp, 1, 0, 0, 0), (.ifCond .ge 25, 3, 156, 0, 0)]),
  (134, [(.aload_n 0, 1, 0, 0, 0), (.getfield 52, 3, 1, 15, 269), (.iload 5, 2, 0, 0, 0), (.aload_n 0, 1, 0, 0, 0), (.getfield 52, 3, 1, 15, 269), (.iload 5, 2, 0, 0, 0), (.iconst 1, 1, 0, 0, 0), (.isub, 1, 0, 0, 0), (.iaload, 1, 0, 0, 0), (.iastore, 1, 0, 0, 0), (.iinc 5 (-1), 3, 0, 0, 0), (.goto (-48), 3, 105, 0, 0)]),
  (156, [(.aload_n 0, 1, 0, 0, 0), (.getfield 52, 3, 1, 15, 269), (.iload 5, 2, 0, 0, 0), (.iload_n 3, 1, 0, 0, 0), (.iastore, 1, 0, 0, 0), (.aload_n 0, 1, 0, 0, 0), (.dup, 1, 0, 0, 0), (.getfield 165, 3, 1, 16, 270), (.iconst 1, 1, 0, 0, 0), (.iadd, 1, 0, 0, 0), (.putfield 165, 3, 1, 16, 270)]),
  (174, [(.iinc 3 1, 3, 0, 0, 0), (.goto (-158), 3, 19, 0, 0)]),
  (180, [(.return_, 1, 0, 0, 0)])]
theorem ck_X1_lineUp : en_ck 29 bs_X1_lineUp = true := by decide +kernel
end
section
def bs_X1_goOn : en_Bs := [
  (0, [(.aload_n 0, 1, 0, 0, 0), (.getfield 58, 3, 1, 0, 247), (.invokevirtual 119, 3, 9, 1, 850)]),
  (7, [(.iconst 2, 1, 0, 0, 0), (.invokevirtual 162, 3, 58, 2, 854)]),
  (11, [(.istore_n 2, 1, 0, 0, 0), (.iconst 0, 1, 0, 0, 0), (.istore_n 3, 1, 0, 0, 0)]),
  (14, [(.iload_n 3, 1, 0, 0, 0), (.aload_n 0, 1, 0, 0, 0), (.getfield 165, 3, 1, 16, 270), (.if_icmp .ge 234, 3, 253, 0, 0)]),
  (22, [(.aload_n 0, 1, 0, 0, 0), (.getfield 52, 3, 1, 15, 269), (.iload_n 3, 1, 0, 0, 0), (.iaload, 1, 0, 0, 0), (.istore 4, 2, 0, 0, 0), (.aload_n 0, 1, 0, 0, 0), (.getfield 30, 3, 1, 8, 259), (.iload 4, 2, 0, 0, 0), (.iaload, 1, 0, 0, 0), (.istore 5, 2, 0, 0, 0), (.aload_n 0, 1, 0, 0, 0), (.getfield 58, 3, 1, 0, 247), (.iload 5, 2, 0, 0, 0), (.invokevirtual 94, 3, 3, 2, 818)]),
  (48, [(.ifCond .ne 6, 3, 54, 0, 0)]),
  (51, [(.goto 196, 3, 247, 0, 0)]),
  (54, [(.aload_n 0, 1, 0, 0, 0), (.getfield 21, 3, 1, 5, 256), (.iload 5, 2, 0, 0, 0), (.iaload, 1, 0, 0, 0), (.istore 6, 2, 0, 0, 0), (.iload 6, 2, 0, 0, 0), (.aload_n 0, 1, 0, 0, 0), (.getfield 58, 3, 1, 0, 247), (.iload 4, 2, 0, 0, 0), (.iconst 2, 1, 0, 0, 0), (.invokevirtual 87, 3, 11, 3, 813)]),
  (75, [(.if_icmp .ne 7, 3, 82, 0, 0)]),
  (78, [(.iconst 1, 1, 0, 0, 0), (.goto 4, 3, 83, 0, 0)]),
  (82, [(.iconst 0, 1, 0, 0, 0)]),
  (83, [(.istore 7, 2, 0, 0, 0), (.iload 6, 2, 0, 0, 0), (.iconst (-1), 1, 0, 0, 0), (.if_icmp .eq 23, 3, 111, 0, 0)]),
  (91, [(.iload 7, 2, 0, 0, 0), (.ifCond .ne 14, 3, 107, 0, 0)]),
  (96, [(.aload_n 0, 1, 0, 0, 0), (.iload 6, 2, 0, 0, 0), (.iload 4, 2, 0, 0, 0), (.invokevirtual 154, 3, 26, 3, 838)]),
  (104, [(.ifCond .eq 7, 3, 111, 0, 0)]),
  (107, [(.iconst 1, 1, 0, 0, 0), (.goto 4, 3, 112, 0, 0)]),
  (111, [(.iconst 0, 1, 0, 0, 0)]),
  (112, [(.istore 8, 2, 0, 0, 0), (.iload 8, 2, 0, 0, 0), (.ifCond .eq 53, 3, 169, 0, 0)]),
  (119, [(.iload_n 2, 1, 0, 0, 0), (.ifCond .eq 49, 3, 169, 0, 0)]),
  (123, [(.aload_n 0, 1, 0, 0, 0), (.getfield 62, 3, 1, 1, 248), (.iconst 2, 1, 0, 0, 0), (.iload 4, 2, 0, 0, 0), (.iload 5, 2, 0, 0, 0), (.iload_n 1, 1, 0, 0, 0), (.aload_n 0, 1, 0, 0, 0), (.getfield 39, 3, 1, 11, 265), (.iload 4, 2, 0, 0, 0), (.iaload, 1, 0, 0, 0), (.aload_n 0, 1, 0, 0, 0), (.getfield 9, 3, 1, 2, 249), (.iload 5, 2, 0, 0, 0), (.iaload, 1, 0, 0, 0), (.aload_n 0, 1, 0, 0, 0), (.getfield 15, 3, 1, 3, 252), (.iload 5, 2, 0, 0, 0), (.iaload, 1, 0, 0, 0), (.invokevirtual 168, 3, 52, 8, 859)]),
  (157, [(.lconst 0, 1, 0, 0, 0), (.lcmp, 1, 0, 0, 0), (.ifCond .ne 7, 3, 166, 0, 0)]),
  (162, [(.iconst 1, 1, 0, 0, 0), (.goto 4, 3, 167, 0, 0)]),
  (166, [(.iconst 0, 1, 0, 0, 0)]),
  (167, [(.istore 8, 2, 0, 0, 0)]),
  (169, [(.iload 8, 2, 0, 0, 0), (.ifCond .ne 28, 3, 199, 0, 0)]),
  (174, [(.aload_n 0, 1, 0, 0, 0), (.getfield 39, 3, 1, 11, 265), (.iload 4, 2, 0, 0, 0), (.dup2, 1, 0, 0, 0), (.iaload, 1, 0, 0, 0), (.iconst 1, 1, 0, 0, 0), (.iadd, 1, 0, 0, 0), (.iastore, 1, 0, 0, 0), (.aload_n 0, 1, 0, 0, 0), (.getfield 36, 3, 1, 10, 263), (.iload 4, 2, 0, 0, 0), (.dup2, 1, 0, 0, 0), (.iaload, 1, 0, 0, 0), (.iconst 1, 1, 0, 0, 0), (.iadd, 1, 0, 0, 0), (.iastore, 1, 0, 0, 0), (.goto 51, 3, 247, 0, 0)]),
  (199, [(.aload_n 0, 1, 0, 0, 0), (.iconst 1, 1, 0, 0, 0), (.putfield 129, 3, 1, 18, 272), (.aload_n 0, 1, 0, 0, 0), (.iload 5, 2, 0, 0, 0), (.iload 4, 2, 0, 0, 0), (.invokevirtual 174, 3, 28, 3, 886)]),
  (212, [(.aload_n 0, 1, 0, 0, 0), (.getfield 27, 3, 1, 7, 258), (.iload 4, 2, 0, 0, 0), (.dup2, 1, 0, 0, 0), (.iaload, 1, 0, 0, 0), (.iconst 1, 1, 0, 0, 0), (.isub, 1, 0, 0, 0), (.iastore, 1, 0, 0, 0), (.iload 7, 2, 0, 0, 0), (.ifCond .eq 14, 3, 239, 0, 0)]),
  (228, [(.aload_n 0, 1, 0, 0, 0), (.getfield 33, 3, 1, 9, 261), (.iload 4, 2, 0, 0, 0), (.iload_n 1, 1, 0, 0, 0), (.iastore, 1, 0, 0, 0), (.goto 11, 3, 247, 0, 0)]),
  (239, [(.aload_n 0, 1, 0, 0, 0), (.iload 6, 2, 0, 0, 0), (.iload 4, 2, 0, 0, 0), (.invokevirtual 157, 3, 27, 3, 842)]),
  (247, [(.iinc 3 1, 3, 0, 0, 0), (.goto (-236), 3, 14, 0, 0)]),
  (253, [(.return_, 1, 0, 0, 0)])]
theorem ck_X1_goOn : en_ck 30 bs_X1_goOn = true := by decide +kernel
def bs_X1_placeBehind : en_Bs := [
  (0, [(.aload_n 0, 1, 0, 0, 0), (.getfield 55, 3, 1, 17, 271), (.iload_n 2, 1, 0, 0, 0), (.bipush 8, 2, 0, 0, 0), (.imul, 1, 0, 0, 0), (.iload_n 1, 1, 0, 0, 0), (.iadd, 1, 0, 0, 0), (.iaload, 1, 0, 0, 0), (.ireturn, 1, 0, 0, 0)])]
theorem ck_X1_placeBehind : en_ck 31 bs_X1_placeBehind = true := by decide +kernel
def bs_X1_comeByNoon : en_Bs := [
  (0, [(.iconst 0, 1, 0, 0, 0), (.istore_n 1, 1, 0, 0, 0), (.iconst 0, 1, 0, 0, 0), (.istore_n 2, 1, 0, 0, 0)]),
  (4, [(.iload_n 2, 1, 0, 0, 0), (.aload_n 0, 1, 0, 0, 0), (.getfield 58, 3, 1, 0, 247), (.getfield 84, 3, 0, 4, 104), (.if_icmp .ge 38, 3, 50, 0, 0)]),
  (15, [(.aload_n 0, 1, 0, 0, 0), (.getfield 33, 3, 1, 9, 261), (.iload_n 2, 1, 0, 0, 0), (.iaload, 1, 0, 0, 0), (.iconst (-1), 1, 0, 0, 0), (.if_icmp .eq 22, 3, 44, 0, 0)]),
  (25, [(.aload_n 0, 1, 0, 0, 0), (.getfield 33, 3, 1, 9, 261), (.iload_n 2, 1, 0, 0, 0), (.iaload, 1, 0, 0, 0), (.aload_n 0, 1, 0, 0, 0), (.getfield 58, 3, 1, 0, 247), (.getfield 177, 3, 0, 10, 118), (.if_icmp .gt 6, 3, 44, 0, 0)]),
  (41, [(.iinc 1 1, 3, 0, 0, 0)]),
  (44, [(.iinc 2 1, 3, 0, 0, 0), (.goto (-43), 3, 4, 0, 0)]),
  (50, [(.iload_n 1, 1, 0, 0, 0), (.ireturn, 1, 0, 0, 0)])]
theorem ck_X1_comeByNoon : en_ck 32 bs_X1_comeByNoon = true := by decide +kernel
def bs_X1_failures : en_Bs := [
  (0, [(.iconst 0, 1, 0, 0, 0), (.istore_n 1, 1, 0, 0, 0), (.iconst 0, 1, 0, 0, 0), (.istore_n 2, 1, 0, 0, 0)]),
  (4, [(.iload_n 2, 1, 0, 0, 0), (.aload_n 0, 1, 0, 0, 0), (.getfield 58, 3, 1, 0, 247), (.getfield 84, 3, 0, 4, 104), (.if_icmp .ge 22, 3, 34, 0, 0)]),
  (15, [(.aload_n 0, 1, 0, 0, 0), (.getfield 33, 3, 1, 9, 261), (.iload_n 2, 1, 0, 0, 0), (.iaload, 1, 0, 0, 0), (.iconst (-1), 1, 0, 0, 0), (.if_icmp .ne 6, 3, 28, 0, 0)]),
  (25, [(.iinc 1 1, 3, 0, 0, 0)]),
  (28, [(.iinc 2 1, 3, 0, 0, 0), (.goto (-27), 3, 4, 0, 0)]),
  (34, [(.iload_n 1, 1, 0, 0, 0), (.ireturn, 1, 0, 0, 0)])]
theorem ck_X1_failures : en_ck 33 bs_X1_failures = true := by decide +kernel
def bs_X1_chokingRound : en_Bs := [
  (0, [(.iconst 0, 1, 0, 0, 0), (.istore_n 1, 1, 0, 0, 0), (.iconst 0, 1, 0, 0, 0), (.istore_n 2, 1, 0, 0, 0)]),
  (4, [(.iload_n 2, 1, 0, 0, 0), (.aload_n 0, 1, 0, 0, 0), (.getfield 58, 3, 1, 0, 247), (.getfield 84, 3, 0, 4, 104), (.if_icmp .ge 28, 3, 40, 0, 0)]),
  (15, [(.aload_n 0, 1, 0, 0, 0), (.iload_n 2, 1, 0, 0, 0), (.invokevirtual 180, 3, 35, 2, 911)]),
  (20, [(.ifCond .eq 14, 3, 34, 0, 0)]),
  (23, [(.iload_n 1, 1, 0, 0, 0), (.iconst 1, 1, 0, 0, 0), (.aload_n 0, 1, 0, 0, 0), (.getfield 30, 3, 1, 8, 259), (.iload_n 2, 1, 0, 0, 0), (.iaload, 1, 0, 0, 0), (.ishl, 1, 0, 0, 0), (.ior, 1, 0, 0, 0), (.istore_n 1, 1, 0, 0, 0)]),
  (34, [(.iinc 2 1, 3, 0, 0, 0), (.goto (-33), 3, 4, 0, 0)]),
  (40, [(.iconst 0, 1, 0, 0, 0), (.istore_n 2, 1, 0, 0, 0)]),
  (42, [(.iload_n 2, 1, 0, 0, 0), (.aload_n 0, 1, 0, 0, 0), (.getfield 58, 3, 1, 0, 247), (.getfield 76, 3, 0, 0, 87), (.if_icmp .ge 22, 3, 72, 0, 0)]),
  (53, [(.aload_n 0, 1, 0, 0, 0), (.iload_n 2, 1, 0, 0, 0), (.iload_n 1, 1, 0, 0, 0), (.invokevirtual 183, 3, 36, 3, 916)]),
  (59, [(.istore_n 3, 1, 0, 0, 0), (.iload_n 3, 1, 0, 0, 0), (.ifCond .eq 5, 3, 66, 0, 0)]),
  (64, [(.iload_n 3, 1, 0, 0, 0), (.ireturn, 1, 0, 0, 0)]),
  (66, [(.iinc 2 1, 3, 0, 0, 0), (.goto (-27), 3, 42, 0, 0)]),
  (72, [(.iconst 0, 1, 0, 0, 0), (.ireturn, 1, 0, 0, 0)])]
theorem ck_X1_chokingRound : en_ck 34 bs_X1_chokingRound = true := by decide +kernel
def bs_X1_isStuck : en_Bs := [
  (0, [(.aload_n 0, 1, 0, 0, 0), (.getfield 30, 3, 1, 8, 259), (.iload_n 1, 1, 0, 0, 0), (.iaload, 1, 0, 0, 0), (.istore_n 2, 1, 0, 0, 0), (.aload_n 0, 1, 0, 0, 0), (.getfield 58, 3, 1, 0, 247), (.iload_n 2, 1, 0, 0, 0), (.invokevirtual 94, 3, 3, 2, 818)]),
  (15, [(.ifCond .ne 5, 3, 20, 0, 0)]),
  (18, [(.iconst 0, 1, 0, 0, 0), (.ireturn, 1, 0, 0, 0)]),
  (20, [(.aload_n 0, 1, 0, 0, 0), (.getfield 21, 3, 1, 5, 256), (.iload_n 2, 1, 0, 0, 0), (.iaload, 1, 0, 0, 0), (.istore_n 3, 1, 0, 0, 0), (.iload_n 3, 1, 0, 0, 0), (.iconst (-1), 1, 0, 0, 0), (.if_icmp .eq 25, 3, 54, 0, 0)]),
  (32, [(.iload_n 3, 1, 0, 0, 0), (.aload_n 0, 1, 0, 0, 0), (.getfield 58, 3, 1, 0, 247), (.iload_n 1, 1, 0, 0, 0), (.iconst 2, 1, 0, 0, 0), (.invokevirtual 87, 3, 11, 3, 813)]),
  (42, [(.if_icmp .eq 12, 3, 54, 0, 0)]),
  (45, [(.aload_n 0, 1, 0, 0, 0), (.iload_n 3, 1, 0, 0, 0), (.iload_n 1, 1, 0, 0, 0), (.invokevirtual 154, 3, 26, 3, 838)]),
  (51, [(.ifCond .eq 5, 3, 56, 0, 0)]),
  (54, [(.iconst 0, 1, 0, 0, 0), (.ireturn, 1, 0, 0, 0)]),
  (56, [(.iconst 0, 1, 0, 0, 0), (.aload_n 0, 1, 0, 0, 0), (.getfield 39, 3, 1, 11, 265), (.iload_n 1, 1, 0, 0, 0), (.iaload, 1, 0, 0, 0), (.iconst 1, 1, 0, 0, 0), (.isub, 1, 0, 0, 0), (.invokestatic 136, 3, 902, 0, 915), (.istore 4, 2, 0, 0, 0), (.aload_n 0, 1, 0, 0, 0), (.getfield 62, 3, 1, 1, 248), (.iconst 2, 1, 0, 0, 0), (.iload_n 1, 1, 0, 0, 0), (.iload_n 2, 1, 0, 0, 0), (.bipush 99, 2, 0, 0, 0), (.iload 4, 2, 0, 0, 0), (.aload_n 0, 1, 0, 0, 0), (.getfield 9, 3, 1, 2, 249), (.iload_n 2, 1, 0, 0, 0), (.iaload, 1, 0, 0, 0), (.aload_n 0, 1, 0, 0, 0), (.getfield 15, 3, 1, 3, 252), (.iload_n 2, 1, 0, 0, 0), (.iaload, 1, 0, 0, 0), (.invokevirtual 168, 3, 52, 8, 859)]),
  (96, [(.lconst 0, 1, 0, 0, 0), (.lcmp, 1, 0, 0, 0), (.ifCond .ne 7, 3, 105, 0, 0)]),
  (101, [(.iconst 1, 1, 0, 0, 0), (.goto 4, 3, 106, 0, 0)]),
  (105, [(.iconst 0, 1, 0, 0, 0)]),
  (106, [(.ireturn, 1, 0, 0, 0)])]
theorem ck_X1_isStuck : en_ck 35 bs_X1_isStuck = true := by decide +kernel
def bs_X1_roundOf : en_Bs := [
  (0, [(.iconst 0, 1, 0, 0, 0), (.istore_n 3, 1, 0, 0, 0), (.iload_n 1, 1, 0, 0, 0), (.istore 4, 2, 0, 0, 0), (.iconst 0, 1, 0, 0, 0), (.istore 5, 2, 0, 0, 0)]),
  (8, [(.iload 5, 2, 0, 0, 0), (.bipush 12, 2, 0, 0, 0), (.if_icmp .ge 54, 3, 66, 0, 0)]),
  (15, [(.aload_n 0, 1, 0, 0, 0), (.getfield 58, 3, 1, 0, 247), (.iload 4, 2, 0, 0, 0), (.invokevirtual 94, 3, 3, 2, 818)]),
  (24, [(.ifCond .eq 42, 3, 66, 0, 0)]),
  (27, [(.iload_n 2, 1, 0, 0, 0), (.iload 4, 2, 0, 0, 0), (.invokestatic 133, 3, 155, 2, 5007)]),
  (33, [(.ifCond .eq 33, 3, 66, 0, 0)]),
  (36, [(.iload_n 3, 1, 0, 0, 0), (.iconst 1, 1, 0, 0, 0), (.iload 4, 2, 0, 0, 0), (.ishl, 1, 0, 0, 0), (.ior, 1, 0, 0, 0), (.istore_n 3, 1, 0, 0, 0), (.aload_n 0, 1, 0, 0, 0), (.getfield 21, 3, 1, 5, 256), (.iload 4, 2, 0, 0, 0), (.iaload, 1, 0, 0, 0), (.istore 4, 2, 0, 0, 0), (.iload 4, 2, 0, 0, 0), (.iload_n 1, 1, 0, 0, 0), (.if_icmp .ne 5, 3, 60, 0, 0)]),
  (58, [(.iload_n 3, 1, 0, 0, 0), (.ireturn, 1, 0, 0, 0)]),
  (60, [(.iinc 5 1, 3, 0, 0, 0), (.goto (-55), 3, 8, 0, 0)]),
  (66, [(.iconst 0, 1, 0, 0, 0), (.ireturn, 1, 0, 0, 0)])]
theorem ck_X1_roundOf : en_ck 36 bs_X1_roundOf = true := by decide +kernel
def bs_X2_init : en_Bs := [
  (0, [(.aload_n 0, 1, 0, 0, 0), (.invokespecial 3, 3, 900, 0, 367), (.aload_n 0, 1, 0, 0, 0), (.bipush 12, 2, 0, 0, 0), (.newarray .int, 2, 0, 0, 0), (.putfield 9, 3, 2, 2, 370), (.aload_n 0, 1, 0, 0, 0), (.bipush 8, 2, 0, 0, 0), (.newarray .int, 2, 0, 0, 0), (.putfield 15, 3, 2, 3, 371), (.aload_n 0, 1, 0, 0, 0), (.sipush 9600, 3, 0, 0, 0), (.newarray .int, 2, 0, 0, 0), (.putfield 18, 3, 2, 4, 372), (.aload_n 0, 1, 0, 0, 0), (.bipush 12, 2, 0, 0, 0), (.newarray .int, 2, 0, 0, 0), (.putfield 21, 3, 2, 12, 380), (.aload_n 0, 1, 0, 0, 0), (.aload_n 1, 1, 0, 0, 0), (.putfield 24, 3, 2, 0, 368), (.aload_n 0, 1, 0, 0, 0), (.aload_n 2, 1, 0, 0, 0), (.putfield 28, 3, 2, 1, 369), (.return_, 1, 0, 0, 0)])]
theorem ck_X2_init : en_ck 37 bs_X2_init = true := by decide +kernel
def bs_X2_forget : en_Bs := [
  (0, [(.aload_n 0, 1, 0, 0, 0), (.iconst 0, 1, 0, 0, 0), (.putfield 32, 3, 2, 5, 373), (.aload_n 0, 1, 0, 0, 0), (.iconst 0, 1, 0, 0, 0), (.putfield 36, 3, 2, 10, 378), (.return_, 1, 0, 0, 0)])]
theorem ck_X2_forget : en_ck 38 bs_X2_forget = true := by decide +kernel
def bs_X2_costOf : en_Bs := [
  (0, [(.aload_n 0, 1, 0, 0, 0), (.invokevirtual 39, 3, 45, 1, 1010)]),
  (4, [(.aload_n 0, 1, 0, 0, 0), (.iload_n 1, 1, 0, 0, 0), (.iconst (-1), 1, 0, 0, 0), (.invokevirtual 42, 3, 48, 3, 1018)]),
  (10, [(.ireturn, 1, 0, 0, 0)])]
theorem ck_X2_costOf : en_ck 39 bs_X2_costOf = true := by decide +kernel
def bs_X2_incomeOf : en_Bs := [
  (0, [(.aload_n 0, 1, 0, 0, 0), (.invokevirtual 39, 3, 45, 1, 1010)]),
  (4, [(.aload_n 0, 1, 0, 0, 0), (.iload_n 1, 1, 0, 0, 0), (.invokevirtual 46, 3, 46, 2, 1052)]),
  (9, [(.aload_n 0, 1, 0, 0, 0), (.getfield 50, 3, 2, 9, 377), (.ireturn, 1, 0, 0, 0)])]
theorem ck_X2_incomeOf : en_ck 40 bs_X2_incomeOf = true := by decide +kernel
def bs_X2_answerOf : en_Bs := [
  (0, [(.aload_n 0, 1, 0, 0, 0), (.invokevirtual 39, 3, 45, 1, 1010)]),
  (4, [(.aload_n 0, 1, 0, 0, 0), (.iload_n 1, 1, 0, 0, 0), (.invokevirtual 46, 3, 46, 2, 1052)]),
  (9, [(.iload_n 2, 1, 0, 0, 0), (.ifCond .ne 10, 3, 20, 0, 0)]),
  (13, [(.aload_n 0, 1, 0, 0, 0), (.getfield 54, 3, 2, 7, 375), (.goto 7, 3, 24, 0, 0)]),
  (20, [(.aload_n 0, 1, 0, 0, 0), (.getfield 57, 3, 2, 8, 376)]),
  (24, [(.ireturn, 1, 0, 0, 0)])]
theorem ck_X2_answerOf : en_ck 41 bs_X2_answerOf = true := by decide +kernel
def bs_X2_firstRestless : en_Bs := [
  (0, [(.aload_n 0, 1, 0, 0, 0), (.invokevirtual 39, 3, 45, 1, 1010)]),
  (4, [(.iconst 0, 1, 0, 0, 0), (.istore_n 1, 1, 0, 0, 0)]),
  (6, [(.iload_n 1, 1, 0, 0, 0), (.aload_n 0, 1, 0, 0, 0), (.getfield 24, 3, 2, 0, 368), (.getfield 60, 3, 0, 0, 91), (.if_icmp .ge 27, 3, 41, 0, 0)]),
  (17, [(.aload_n 0, 1, 0, 0, 0), (.iload_n 1, 1, 0, 0, 0), (.invokevirtual 46, 3, 46, 2, 1052)]),
  (22, [(.aload_n 0, 1, 0, 0, 0), (.getfield 57, 3, 2, 8, 376), (.aload_n 0, 1, 0, 0, 0), (.getfield 50, 3, 2, 9, 377), (.if_icmp .le 5, 3, 35, 0, 0)]),
  (33, [(.iload_n 1, 1, 0, 0, 0), (.ireturn, 1, 0, 0, 0)]),
  (35, [(.iinc 1 1, 3, 0, 0, 0), (.goto (-32), 3, 6, 0, 0)]),
  (41, [(.iconst (-1), 1, 0, 0, 0), (.ireturn, 1, 0, 0, 0)])]
theorem ck_X2_firstRestless : en_ck 42 bs_X2_firstRestless = true := by decide +kernel
def bs_X2_settle : en_Bs := [
  (0, [(.aload_n 0, 1, 0, 0, 0), (.getfield 36, 3, 2, 10, 378), (.ifCond .eq 4, 3, 8, 0, 0)]),
  (7, [(.return_, 1, 0, 0, 0)]),
  (8, [(.aload_n 0, 1, 0, 0, 0), (.invokevirtual 39, 3, 45, 1, 1010)]),
  (12, [(.iconst 1, 1, 0, 0, 0), (.istore_n 1, 1, 0, 0, 0), (.aload_n 0, 1, 0, 0, 0), (.iconst 0, 1, 0, 0, 0), (.putfield 65, 3, 2, 11, 379)]),
  (19, [(.iload_n 1, 1, 0, 0, 0), (.ifCond .eq 74, 3, 94, 0, 0)]),
  (23, [(.aload_n 0, 1, 0, 0, 0), (.getfield 65, 3, 2, 11, 379), (.bipush 50, 2, 0, 0, 0), (.if_icmp .ge 65, 3, 94, 0, 0)]),
  (32, [(.aload_n 0, 1, 0, 0, 0), (.dup, 1, 0, 0, 0), (.getfield 65, 3, 2, 11, 379), (.iconst 1, 1, 0, 0, 0), (.iadd, 1, 0, 0, 0), (.putfield 65, 3, 2, 11, 379), (.iconst 0, 1, 0, 0, 0), (.istore_n 1, 1, 0, 0, 0), (.iconst 0, 1, 0, 0, 0), (.istore_n 2, 1, 0, 0, 0)]),
  (46, [(.iload_n 2, 1, 0, 0, 0), (.aload_n 0, 1, 0, 0, 0), (.getfield 24, 3, 2, 0, 368), (.getfield 60, 3, 0, 0, 91), (.if_icmp .ge 37, 3, 91, 0, 0)]),
  (57, [(.aload_n 0, 1, 0, 0, 0), (.iload_n 2, 1, 0, 0, 0), (.invokevirtual 46, 3, 46, 2, 1052)]),
  (62, [(.aload_n 0, 1, 0, 0, 0), (.getfield 57, 3, 2, 8, 376), (.aload_n 0, 1, 0, 0, 0), (.getfield 50, 3, 2, 9, 377), (.if_icmp .le 15, 3, 85, 0, 0)]),
  (73, [(.aload_n 0, 1, 0, 0, 0), (.getfield 9, 3, 2, 2, 370), (.iload_n 2, 1, 0, 0, 0), (.aload_n 0, 1, 0, 0, 0), (.getfield 54, 3, 2, 7, 375), (.iastore, 1, 0, 0, 0), (.iconst 1, 1, 0, 0, 0), (.istore_n 1, 1, 0, 0, 0)]),
  (85, [(.iinc 2 1, 3, 0, 0, 0), (.goto (-42), 3, 46, 0, 0)]),
  (91, [(.goto (-72), 3, 19, 0, 0)]),
  (94, [(.iload_n 1, 1, 0, 0, 0), (.ifCond .eq 13, 3, 108, 0, 0)]),
  (98, [(.aload_n 0, 1, 0, 0, 0), (.dup, 1, 0, 0, 0), (.getfield 65, 3, 2, 11, 379), (.iconst 1, 1, 0, 0, 0), (.iadd, 1, 0, 0, 0), (.putfield 65, 3, 2, 11, 379)]),
  (108, [(.aload_n 0, 1, 0, 0, 0), (.getfield 9, 3, 2, 2, 370), (.iconst 0, 1, 0, 0, 0), (.aload_n 0, 1, 0, 0, 0), (.getfield 21, 3, 2, 12, 380), (.iconst 0, 1, 0, 0, 0), (.bipush 12, 2, 0, 0, 0), (.invokestatic 68, 3, 901, 0, 1014), (.aload_n 0, 1, 0, 0, 0), (.iconst 1, 1, 0, 0, 0), (.putfield 36, 3, 2, 10, 378), (.return_, 1, 0, 0, 0)])]
theorem ck_X2_settle : en_ck 43 bs_X2_settle = true := by decide +kernel
def bs_X2_settled : en_Bs := [
  (0, [(.aload_n 0, 1, 0, 0, 0), (.getfield 24, 3, 2, 0, 368), (.iload_n 1, 1, 0, 0, 0), (.invokevirtual 74, 3, 3, 2, 1024)]),
  (8, [(.ifCond .eq 12, 3, 20, 0, 0)]),
  (11, [(.aload_n 0, 1, 0, 0, 0), (.getfield 21, 3, 2, 12, 380), (.iload_n 1, 1, 0, 0, 0), (.iaload, 1, 0, 0, 0), (.goto 7, 3, 24, 0, 0)]),
  (20, [(.aload_n 0, 1, 0, 0, 0), (.getfield 65, 3, 2, 11, 379)]),
  (24, [(.ireturn, 1, 0, 0, 0)])]
theorem ck_X2_settled : en_ck 44 bs_X2_settled = true := by decide +kernel
def bs_X2_begin : en_Bs := [
  (0, [(.aload_n 0, 1, 0, 0, 0), (.getfield 24, 3, 2, 0, 368), (.getfield 78, 3, 0, 3, 102), (.iconst 0, 1, 0, 0, 0), (.aload_n 0, 1, 0, 0, 0), (.getfield 9, 3, 2, 2, 370), (.iconst 0, 1, 0, 0, 0), (.bipush 12, 2, 0, 0, 0), (.invokestatic 68, 3, 901, 0, 1014), (.aload_n 0, 1, 0, 0, 0), (.getfield 32, 3, 2, 5, 373), (.ifCond .ne 38, 3, 60, 0, 0)]),
  (25, [(.aload_n 0, 1, 0, 0, 0), (.iconst 1, 1, 0, 0, 0), (.putfield 32, 3, 2, 5, 373), (.aload_n 0, 1, 0, 0, 0), (.aload_n 0, 1, 0, 0, 0), (.getfield 24, 3, 2, 0, 368), (.invokevirtual 81, 3, 9, 1, 1015)]),
  (38, [(.iconst 1, 1, 0, 0, 0), (.invokevirtual 87, 3, 58, 2, 1016)]),
  (42, [(.putfield 90, 3, 2, 6, 374), (.aload_n 0, 1, 0, 0, 0), (.getfield 90, 3, 2, 6, 374), (.ifCond .eq 11, 3, 60, 0, 0)]),
  (52, [(.aload_n 0, 1, 0, 0, 0), (.getfield 18, 3, 2, 4, 372), (.iconst (-1), 1, 0, 0, 0), (.invokestatic 93, 3, 266, 2, 1017)]),
  (60, [(.return_, 1, 0, 0, 0)])]
theorem ck_X2_begin : en_ck 45 bs_X2_begin = true := by decide +kernel
def bs_X2_seekAnswer : en_Bs := [
  (0, [(.iconst 0, 1, 0, 0, 0), (.istore_n 2, 1, 0, 0, 0)]),
  (2, [(.iload_n 2, 1, 0, 0, 0), (.aload_n 0, 1, 0, 0, 0), (.getfield 24, 3, 2, 0, 368), (.getfield 99, 3, 0, 4, 107), (.if_icmp .ge 21, 3, 31, 0, 0)]),
  (13, [(.aload_n 0, 1, 0, 0, 0), (.getfield 15, 3, 2, 3, 371), (.iload_n 2, 1, 0, 0, 0), (.aload_n 0, 1, 0, 0, 0), (.iload_n 2, 1, 0, 0, 0), (.iload_n 1, 1, 0, 0, 0), (.invokevirtual 42, 3, 48, 3, 1018)]),
  (24, [(.iastore, 1, 0, 0, 0), (.iinc 2 1, 3, 0, 0, 0), (.goto (-26), 3, 2, 0, 0)]),
  (31, [(.aload_n 0, 1, 0, 0, 0), (.aload_n 0, 1, 0, 0, 0), (.iload_n 1, 1, 0, 0, 0), (.aload_n 0, 1, 0, 0, 0), (.getfield 9, 3, 2, 2, 370), (.iload_n 1, 1, 0, 0, 0), (.iaload, 1, 0, 0, 0), (.invokevirtual 102, 3, 47, 3, 1056)]),
  (43, [(.putfield 50, 3, 2, 9, 377), (.aload_n 0, 1, 0, 0, 0), (.iconst 0, 1, 0, 0, 0), (.putfield 54, 3, 2, 7, 375), (.aload_n 0, 1, 0, 0, 0), (.iconst (-1), 1, 0, 0, 0), (.putfield 57, 3, 2, 8, 376), (.iconst 0, 1, 0, 0, 0), (.istore_n 2, 1, 0, 0, 0)]),
  (58, [(.iload_n 2, 1, 0, 0, 0), (.bipush 100, 2, 0, 0, 0), (.if_icmp .ge 34, 3, 95, 0, 0)]),
  (64, [(.aload_n 0, 1, 0, 0, 0), (.iload_n 1, 1, 0, 0, 0), (.iload_n 2, 1, 0, 0, 0), (.invokevirtual 102, 3, 47, 3, 1056)]),
  (70, [(.istore_n 3, 1, 0, 0, 0), (.iload_n 3, 1, 0, 0, 0), (.aload_n 0, 1, 0, 0, 0), (.getfield 57, 3, 2, 8, 376), (.if_icmp .le 13, 3, 89, 0, 0)]),
  (79, [(.aload_n 0, 1, 0, 0, 0), (.iload_n 3, 1, 0, 0, 0), (.putfield 57, 3, 2, 8, 376), (.aload_n 0, 1, 0, 0, 0), (.iload_n 2, 1, 0, 0, 0), (.putfield 54, 3, 2, 7, 375)]),
  (89, [(.iinc 2 1, 3, 0, 0, 0), (.goto (-34), 3, 58, 0, 0)]),
  (95, [(.return_, 1, 0, 0, 0)])]
theorem ck_X2_seekAnswer : en_ck 46 bs_X2_seekAnswer = true := by decide +kernel
def bs_X2_incomeBy : en_Bs := [
  (0, [(.iconst 0, 1, 0, 0, 0), (.istore_n 3, 1, 0, 0, 0), (.iconst 0, 1, 0, 0, 0), (.istore 4, 2, 0, 0, 0)]),
  (5, [(.iload 4, 2, 0, 0, 0), (.aload_n 0, 1, 0, 0, 0), (.getfield 24, 3, 2, 0, 368), (.getfield 99, 3, 0, 4, 107), (.if_icmp .ge 58, 3, 72, 0, 0)]),
  (17, [(.aload_n 0, 1, 0, 0, 0), (.getfield 15, 3, 2, 3, 371), (.iload 4, 2, 0, 0, 0), (.iaload, 1, 0, 0, 0), (.iconst (-1), 1, 0, 0, 0), (.if_icmp .eq 41, 3, 66, 0, 0)]),
  (28, [(.aload_n 0, 1, 0, 0, 0), (.iload 4, 2, 0, 0, 0), (.iload_n 1, 1, 0, 0, 0), (.iload_n 2, 1, 0, 0, 0), (.invokevirtual 105, 3, 49, 4, 1025)]),
  (36, [(.istore 5, 2, 0, 0, 0), (.iload 5, 2, 0, 0, 0), (.aload_n 0, 1, 0, 0, 0), (.getfield 15, 3, 2, 3, 371), (.iload 4, 2, 0, 0, 0), (.iaload, 1, 0, 0, 0), (.iadd, 1, 0, 0, 0), (.aload_n 0, 1, 0, 0, 0), (.getfield 24, 3, 2, 0, 368), (.iload 4, 2, 0, 0, 0), (.iconst 5, 1, 0, 0, 0), (.invokevirtual 109, 3, 11, 3, 1023)]),
  (58, [(.if_icmp .gt 8, 3, 66, 0, 0)]),
  (61, [(.iload_n 3, 1, 0, 0, 0), (.iload 5, 2, 0, 0, 0), (.iadd, 1, 0, 0, 0), (.istore_n 3, 1, 0, 0, 0)]),
  (66, [(.iinc 4 1, 3, 0, 0, 0), (.goto (-64), 3, 5, 0, 0)]),
  (72, [(.iload_n 3, 1, 0, 0, 0), (.ireturn, 1, 0, 0, 0)])]
theorem ck_X2_incomeBy : en_ck 47 bs_X2_incomeBy = true := by decide +kernel
def bs_X2_costBeside : en_Bs := [
  (0, [(.aload_n 0, 1, 0, 0, 0), (.getfield 24, 3, 2, 0, 368), (.iload_n 1, 1, 0, 0, 0), (.invokevirtual 112, 3, 14, 2, 1022)]),
  (8, [(.istore_n 3, 1, 0, 0, 0), (.iload_n 2, 1, 0, 0, 0), (.iconst (-1), 1, 0, 0, 0), (.if_icmp .ne 12, 3, 23, 0, 0)]),
  (14, [(.iload_n 3, 1, 0, 0, 0), (.iconst (-1), 1, 0, 0, 0), (.if_icmp .eq 7, 3, 23, 0, 0)]),
  (19, [(.iconst 1, 1, 0, 0, 0), (.goto 4, 3, 24, 0, 0)]),
  (23, [(.iconst 0, 1, 0, 0, 0)]),
  (24, [(.istore 4, 2, 0, 0, 0), (.iconst 0, 1, 0, 0, 0), (.istore 5, 2, 0, 0, 0), (.aload_n 0, 1, 0, 0, 0), (.getfield 24, 3, 2, 0, 368), (.iload_n 1, 1, 0, 0, 0), (.iconst 1, 1, 0, 0, 0), (.invokevirtual 109, 3, 11, 3, 1023)]),
  (38, [(.istore 6, 2, 0, 0, 0), (.iconst 0, 1, 0, 0, 0), (.istore 7, 2, 0, 0, 0)]),
  (43, [(.iload 7, 2, 0, 0, 0), (.iload_n 3, 1, 0, 0, 0), (.if_icmp .ge 63, 3, 109, 0, 0)]),
  (49, [(.aload_n 0, 1, 0, 0, 0), (.getfield 24, 3, 2, 0, 368), (.iload 6, 2, 0, 0, 0), (.invokevirtual 74, 3, 3, 2, 1024)]),
  (58, [(.ifCond .eq 51, 3, 109, 0, 0)]),
  (61, [(.iload 6, 2, 0, 0, 0), (.iload_n 2, 1, 0, 0, 0), (.if_icmp .ne 9, 3, 73, 0, 0)]),
  (67, [(.iconst 1, 1, 0, 0, 0), (.istore 4, 2, 0, 0, 0), (.goto 22, 3, 92, 0, 0)]),
  (73, [(.iload 5, 2, 0, 0, 0), (.aload_n 0, 1, 0, 0, 0), (.iload_n 1, 1, 0, 0, 0), (.iload 6, 2, 0, 0, 0), (.aload_n 0, 1, 0, 0, 0), (.getfield 9, 3, 2, 2, 370), (.iload 6, 2, 0, 0, 0), (.iaload, 1, 0, 0, 0), (.invokevirtual 105, 3, 49, 4, 1025)]),
  (89, [(.iadd, 1, 0, 0, 0), (.istore 5, 2, 0, 0, 0)]),
  (92, [(.aload_n 0, 1, 0, 0, 0), (.getfield 24, 3, 2, 0, 368), (.iload 6, 2, 0, 0, 0), (.invokevirtual 116, 3, 12, 2, 1039)]),
  (101, [(.istore 6, 2, 0, 0, 0), (.iinc 7 1, 3, 0, 0, 0), (.goto (-63), 3, 43, 0, 0)]),
  (109, [(.iload 4, 2, 0, 0, 0), (.ifCond .eq 8, 3, 119, 0, 0)]),
  (114, [(.iload 5, 2, 0, 0, 0), (.goto 4, 3, 120, 0, 0)]),
  (119, [(.iconst (-1), 1, 0, 0, 0)]),
  (120, [(.ireturn, 1, 0, 0, 0)])]
theorem ck_X2_costBeside : en_ck 48 bs_X2_costBeside = true := by decide +kernel
def bs_X2_gets : en_Bs := [
  (0, [(.aload_n 0, 1, 0, 0, 0), (.getfield 90, 3, 2, 6, 374), (.ifCond .eq 32, 3, 36, 0, 0)]),
  (7, [(.aload_n 0, 1, 0, 0, 0), (.getfield 24, 3, 2, 0, 368), (.iload_n 1, 1, 0, 0, 0), (.invokevirtual 119, 3, 4, 2, 1029)]),
  (15, [(.ifCond .eq 21, 3, 36, 0, 0)]),
  (18, [(.aload_n 0, 1, 0, 0, 0), (.getfield 24, 3, 2, 0, 368), (.iload_n 2, 1, 0, 0, 0), (.invokevirtual 74, 3, 3, 2, 1024)]),
  (26, [(.ifCond .eq 10, 3, 36, 0, 0)]),
  (29, [(.iload_n 3, 1, 0, 0, 0), (.invokestatic 122, 3, 153, 1, 5009)]),
  (33, [(.ifCond .ne 5, 3, 38, 0, 0)]),
  (36, [(.iload_n 3, 1, 0, 0, 0), (.ireturn, 1, 0, 0, 0)]),
  (38, [(.iload_n 1, 1, 0, 0, 0), (.bipush 12, 2, 0, 0, 0), (.imul, 1, 0, 0, 0), (.iload_n 2, 1, 0, 0, 0), (.iadd, 1, 0, 0, 0), (.bipush 100, 2, 0, 0, 0), (.imul, 1, 0, 0, 0), (.iload_n 3, 1, 0, 0, 0), (.iadd, 1, 0, 0, 0), (.istore 4, 2, 0, 0, 0), (.aload_n 0, 1, 0, 0, 0), (.getfield 18, 3, 2, 4, 372), (.iload 4, 2, 0, 0, 0), (.iaload, 1, 0, 0, 0), (.iconst (-1), 1, 0, 0, 0), (.if_icmp .ne 47, 3, 106, 0, 0)]),
  (62, [(.aload_n 0, 1, 0, 0, 0), (.getfield 28, 3, 2, 1, 369), (.iconst 1, 1, 0, 0, 0), (.iload_n 1, 1, 0, 0, 0), (.iload_n 2, 1, 0, 0, 0), (.iconst 0, 1, 0, 0, 0), (.iconst 0, 1, 0, 0, 0), (.aload_n 0, 1, 0, 0, 0), (.getfield 24, 3, 2, 0, 368), (.getfield 125, 3, 0, 2, 98), (.iload_n 2, 1, 0, 0, 0), (.iaload, 1, 0, 0, 0), (.iload_n 3, 1, 0, 0, 0), (.invokevirtual 128, 3, 52, 8, 1031)]),
  (84, [(.lstore 5, 2, 0, 0, 0), (.aload_n 0, 1, 0, 0, 0), (.getfield 18, 3, 2, 4, 372), (.iload 4, 2, 0, 0, 0), (.lconst 0, 1, 0, 0, 0), (.ldc2_w 134, 3, 0, 999, 1032), (.lload 5, 2, 0, 0, 0), (.invokestatic 136, 3, 905, 0, 1033), (.invokestatic 142, 3, 904, 0, 1036), (.l2i, 1, 0, 0, 0), (.iastore, 1, 0, 0, 0)]),
  (106, [(.aload_n 0, 1, 0, 0, 0), (.getfield 18, 3, 2, 4, 372), (.iload 4, 2, 0, 0, 0), (.iaload, 1, 0, 0, 0), (.ireturn, 1, 0, 0, 0)])]
theorem ck_X2_gets : en_ck 49 bs_X2_gets = true := by decide +kernel
def bs_X3_init : en_Bs := [
  (0, [(.aload_n 0, 1, 0, 0, 0), (.invokespecial 3, 3, 900, 0, 226), (.aload_n 0, 1, 0, 0, 0), (.bipush 9, 2, 0, 0, 0), (.newarray .long, 2, 0, 0, 0), (.putfield 11, 3, 3, 1, 228), (.aload_n 0, 1, 0, 0, 0), (.bipush 64, 2, 0, 0, 0), (.newarray .long, 2, 0, 0, 0), (.putfield 15, 3, 3, 2, 229), (.aload_n 0, 1, 0, 0, 0), (.aload_n 1, 1, 0, 0, 0), (.putfield 18, 3, 3, 0, 227), (.return_, 1, 0, 0, 0)])]
theorem ck_X3_init : en_ck 50 bs_X3_init = true := by decide +kernel
def bs_X3_nameOf : en_Bs := [
  (0, [(.iload_n 0, 1, 0, 0, 0), (.tableswitch 78 0 8 #[51, 54, 57, 60, 63, 66, 69, 72, 75], 51, 0, 0, 0)]),
  (52, [(.ldc 22, 2, 2, 4, 0), (.areturn, 1, 0, 0, 0)]),
  (55, [(.ldc 24, 2, 2, 5, 0), (.areturn, 1, 0, 0, 0)]),
  (58, [(.ldc 26, 2, 2, 6, 0), (.areturn, 1, 0, 0, 0)]),
  (61, [(.ldc 28, 2, 2, 7, 0), (.areturn, 1, 0, 0, 0)]),
  (64, [(.ldc 30, 2, 2, 8, 0), (.areturn, 1, 0, 0, 0)]),
  (67, [(.ldc 32, 2, 2, 9, 0), (.areturn, 1, 0, 0, 0)]),
  (70, [(.ldc 34, 2, 2, 10, 0), (.areturn, 1, 0, 0, 0)]),
  (73, [(.ldc 36, 2, 2, 11, 0), (.areturn, 1, 0, 0, 0)]),
  (76, [(.ldc 38, 2, 2, 12, 0), (.areturn, 1, 0, 0, 0)]),
  (79, [(.ldc 40, 2, 2, 13, 0), (.areturn, 1, 0, 0, 0)])]
theorem ck_X3_nameOf : en_ck 51 bs_X3_nameOf = true := by decide +kernel
def bs_X3_tells : en_Bs := [
  (0, [(.aload_n 0, 1, 0, 0, 0), (.getfield 11, 3, 3, 1, 228), (.iconst 0, 1, 0, 0, 0), (.iload_n 2, 1, 0, 0, 0), (.i2l, 1, 0, 0, 0), (.lastore, 1, 0, 0, 0), (.aload_n 0, 1, 0, 0, 0), (.getfield 11, 3, 3, 1, 228), (.iconst 1, 1, 0, 0, 0), (.aload_n 0, 1, 0, 0, 0), (.getfield 18, 3, 3, 0, 227), (.iload_n 2, 1, 0, 0, 0), (.iconst 0, 1, 0, 0, 0), (.invokevirtual 42, 3, 11, 3, 863)]),
  (22, [(.i2l, 1, 0, 0, 0), (.lastore, 1, 0, 0, 0), (.aload_n 0, 1, 0, 0, 0), (.getfield 11, 3, 3, 1, 228), (.iconst 2, 1, 0, 0, 0), (.aload_n 0, 1, 0, 0, 0), (.getfield 18, 3, 3, 0, 227), (.iload_n 2, 1, 0, 0, 0), (.iconst 4, 1, 0, 0, 0), (.invokevirtual 42, 3, 11, 3, 863)]),
  (38, [(.i2l, 1, 0, 0, 0), (.lastore, 1, 0, 0, 0), (.aload_n 0, 1, 0, 0, 0), (.getfield 11, 3, 3, 1, 228), (.iconst 3, 1, 0, 0, 0), (.iload_n 3, 1, 0, 0, 0), (.i2l, 1, 0, 0, 0), (.lastore, 1, 0, 0, 0), (.aload_n 0, 1, 0, 0, 0), (.getfield 11, 3, 3, 1, 228), (.iconst 4, 1, 0, 0, 0), (.aload_n 0, 1, 0, 0, 0), (.getfield 18, 3, 3, 0, 227), (.iload_n 3, 1, 0, 0, 0), (.invokevirtual 48, 3, 12, 2, 864)]),
  (61, [(.i2l, 1, 0, 0, 0), (.lastore, 1, 0, 0, 0), (.aload_n 0, 1, 0, 0, 0), (.getfield 11, 3, 3, 1, 228), (.iconst 5, 1, 0, 0, 0), (.iload 4, 2, 0, 0, 0), (.i2l, 1, 0, 0, 0), (.lastore, 1, 0, 0, 0), (.aload_n 0, 1, 0, 0, 0), (.getfield 11, 3, 3, 1, 228), (.bipush 6, 2, 0, 0, 0), (.iload 5, 2, 0, 0, 0), (.i2l, 1, 0, 0, 0), (.lastore, 1, 0, 0, 0), (.aload_n 0, 1, 0, 0, 0), (.getfield 11, 3, 3, 1, 228), (.bipush 7, 2, 0, 0, 0), (.iload 6, 2, 0, 0, 0), (.i2l, 1, 0, 0, 0), (.lastore, 1, 0, 0, 0), (.aload_n 0, 1, 0, 0, 0), (.getfield 11, 3, 3, 1, 228), (.bipush 8, 2, 0, 0, 0), (.iload 7, 2, 0, 0, 0), (.i2l, 1, 0, 0, 0), (.lastore, 1, 0, 0, 0), (.aload_n 0, 1, 0, 0, 0), (.getfield 18, 3, 3, 0, 227), (.invokevirtual 52, 3, 9, 1, 865)]),
  (109, [(.astore 8, 2, 0, 0, 0), (.aload 8, 2, 0, 0, 0), (.getfield 56, 3, 4, 3, 50), (.bipush 12, 2, 0, 0, 0), (.invokestatic 62, 3, 903, 0, 866), (.iconst 1, 1, 0, 0, 0), (.isub, 1, 0, 0, 0), (.istore 9, 2, 0, 0, 0)]),
  (125, [(.iload 9, 2, 0, 0, 0), (.ifCond .lt 137, 3, 264, 0, 0)]),
  (130, [(.aload 8, 2, 0, 0, 0), (.getfield 67, 3, 4, 5, 55), (.iload 9, 2, 0, 0, 0), (.iaload, 1, 0, 0, 0), (.iload_n 1, 1, 0, 0, 0), (.if_icmp .eq 6, 3, 145, 0, 0)]),
  (142, [(.goto 116, 3, 258, 0, 0)]),
  (145, [(.aload_n 0, 1, 0, 0, 0), (.iconst 0, 1, 0, 0, 0), (.putfield 71, 3, 3, 3, 230), (.aload 8, 2, 0, 0, 0), (.getfield 75, 3, 4, 7, 61), (.iload 9, 2, 0, 0, 0), (.iaload, 1, 0, 0, 0), (.aload 8, 2, 0, 0, 0), (.getfield 78, 3, 4, 8, 63), (.iload 9, 2, 0, 0, 0), (.iaload, 1, 0, 0, 0), (.if_icmp .eq 30, 3, 196, 0, 0)]),
  (169, [(.aload_n 0, 1, 0, 0, 0), (.aload 8, 2, 0, 0, 0), (.aload 8, 2, 0, 0, 0), (.getfield 75, 3, 4, 7, 61), (.iload 9, 2, 0, 0, 0), (.iaload, 1, 0, 0, 0), (.aload 8, 2, 0, 0, 0), (.getfield 78, 3, 4, 8, 63), (.iload 9, 2, 0, 0, 0), (.iaload, 1, 0, 0, 0), (.invokevirtual 81, 3, 53, 4, 869)]),
  (191, [(.lconst 0, 1, 0, 0, 0), (.lcmp, 1, 0, 0, 0), (.ifCond .eq 7, 3, 200, 0, 0)]),
  (196, [(.iconst 1, 1, 0, 0, 0), (.goto 4, 3, 201, 0, 0)]),
  (200, [(.iconst 0, 1, 0, 0, 0)]),
  (201, [(.istore 10, 2, 0, 0, 0), (.iload 10, 2, 0, 0, 0), (.ifCond .eq 53, 3, 258, 0, 0)]),
  (208, [(.aload_n 0, 1, 0, 0, 0), (.getfield 71, 3, 3, 3, 230), (.ifCond .ne 46, 3, 258, 0, 0)]),
  (215, [(.iload_n 1, 1, 0, 0, 0), (.iconst 2, 1, 0, 0, 0), (.if_icmp .ne 7, 3, 224, 0, 0)]),
  (220, [(.lconst 1, 1, 0, 0, 0), (.goto 25, 3, 246, 0, 0)]),
  (224, [(.aload_n 0, 1, 0, 0, 0), (.aload 8, 2, 0, 0, 0), (.aload 8, 2, 0, 0, 0), (.getfield 85, 3, 4, 6, 58), (.iload 9, 2, 0, 0, 0), (.iaload, 1, 0, 0, 0), (.aload 8, 2, 0, 0, 0), (.getfield 75, 3, 4, 7, 61), (.iload 9, 2, 0, 0, 0), (.iaload, 1, 0, 0, 0), (.invokevirtual 81, 3, 53, 4, 869)]),
  (246, [(.lstore 11, 2, 0, 0, 0), (.aload_n 0, 1, 0, 0, 0), (.getfield 71, 3, 3, 3, 230), (.ifCond .ne 6, 3, 258, 0, 0)]),
  (255, [(.lload 11, 2, 0, 0, 0), (.lreturn, 1, 0, 0, 0)]),
  (258, [(.iinc 9 (-1), 3, 0, 0, 0), (.goto (-136), 3, 125, 0, 0)]),
  (264, [(.iload_n 1, 1, 0, 0, 0), (.iconst 1, 1, 0, 0, 0), (.if_icmp .ne 9, 3, 275, 0, 0)]),
  (269, [(.iload 7, 2, 0, 0, 0), (.i2l, 1, 0, 0, 0), (.goto 4, 3, 276, 0, 0)]),
  (275, [(.lconst 0, 1, 0, 0, 0)]),
  (276, [(.lreturn, 1, 0, 0, 0)])]
theorem ck_X3_tells : en_ck 52 bs_X3_tells = true := by decide +kernel
def bs_X3_worth : en_Bs := [
  (0, [(.aload_n 0, 1, 0, 0, 0), (.iconst 0, 1, 0, 0, 0), (.putfield 71, 3, 3, 3, 230), (.iload_n 3, 1, 0, 0, 0), (.sipush 400, 3, 0, 0, 0), (.invokestatic 62, 3, 903, 0, 866), (.istore 4, 2, 0, 0, 0), (.iconst 0, 1, 0, 0, 0), (.iload_n 2, 1, 0, 0, 0), (.invokestatic 88, 3, 902, 0, 873), (.istore 5, 2, 0, 0, 0), (.iconst 0, 1, 0, 0, 0), (.istore 6, 2, 0, 0, 0), (.iconst 0, 1, 0, 0, 0), (.istore 7, 2, 0, 0, 0)]),
  (27, [(.iload 7, 2, 0, 0, 0), (.sipush 400, 3, 0, 0, 0), (.if_icmp .ge 262, 3, 294, 0, 0)]),
  (35, [(.iload 5, 2, 0, 0, 0), (.iload 4, 2, 0, 0, 0), (.if_icmp .ge 255, 3, 294, 0, 0)]),
  (42, [(.aload_n 0, 1, 0, 0, 0), (.getfield 71, 3, 3, 3, 230), (.ifCond .ne 248, 3, 294, 0, 0)]),
  (49, [(.aload_n 1, 1, 0, 0, 0), (.getfield 91, 3, 4, 1, 45), (.iload 5, 2, 0, 0, 0), (.iaload, 1, 0, 0, 0), (.istore 8, 2, 0, 0, 0), (.aload_n 1, 1, 0, 0, 0), (.getfield 94, 3, 4, 2, 47), (.iload 5, 2, 0, 0, 0), (.iaload, 1, 0, 0, 0), (.istore 9, 2, 0, 0, 0), (.iinc 5 1, 3, 0, 0, 0), (.iload 8, 2, 0, 0, 0), (.ifCond .eq 9, 3, 81, 0, 0)]),
  (75, [(.iload 8, 2, 0, 0, 0), (.iconst 1, 1, 0, 0, 0), (.if_icmp .ne 57, 3, 135, 0, 0)]),
  (81, [(.iload 6, 2, 0, 0, 0), (.bipush 64, 2, 0, 0, 0), (.if_icmp .ge 203, 3, 288, 0, 0)]),
  (88, [(.aload_n 0, 1, 0, 0, 0), (.getfield 15, 3, 3, 2, 229), (.iload 6, 2, 0, 0, 0), (.iload 8, 2, 0, 0, 0), (.ifCond .ne 9, 3, 105, 0, 0)]),
  (99, [(.iload 9, 2, 0, 0, 0), (.i2l, 1, 0, 0, 0), (.goto 26, 3, 128, 0, 0)]),
  (105, [(.iload 9, 2, 0, 0, 0), (.ifCond .lt 20, 3, 127, 0, 0)]),
  (110, [(.iload 9, 2, 0, 0, 0), (.bipush 9, 2, 0, 0, 0), (.if_icmp .ge 13, 3, 127, 0, 0)]),
  (117, [(.aload_n 0, 1, 0, 0, 0), (.getfield 11, 3, 3, 1, 228), (.iload 9, 2, 0, 0, 0), (.laload, 1, 0, 0, 0), (.goto 4, 3, 128, 0, 0)]),
  (127, [(.lconst 0, 1, 0, 0, 0)]),
  (128, [(.lastore, 1, 0, 0, 0), (.iinc 6 1, 3, 0, 0, 0), (.goto 156, 3, 288, 0, 0)]),
  (135, [(.iload 8, 2, 0, 0, 0), (.bipush 9, 2, 0, 0, 0), (.if_icmp .ne 31, 3, 170, 0, 0)]),
  (142, [(.iload 6, 2, 0, 0, 0), (.ifCond .le 144, 3, 288, 0, 0)]),
  (147, [(.aload_n 0, 1, 0, 0, 0), (.getfield 15, 3, 3, 2, 229), (.iload 6, 2, 0, 0, 0), (.iconst 1, 1, 0, 0, 0), (.isub, 1, 0, 0, 0), (.lconst 1, 1, 0, 0, 0), (.aload_n 0, 1, 0, 0, 0), (.getfield 15, 3, 3, 2, 229), (.iload 6, 2, 0, 0, 0), (.iconst 1, 1, 0, 0, 0), (.isub, 1, 0, 0, 0), (.laload, 1, 0, 0, 0), (.lsub, 1, 0, 0, 0), (.lastore, 1, 0, 0, 0), (.goto 121, 3, 288, 0, 0)]),
  (170, [(.iload 8, 2, 0, 0, 0), (.bipush 10, 2, 0, 0, 0), (.if_icmp .eq 10, 3, 184, 0, 0)]),
  (177, [(.iload 8, 2, 0, 0, 0), (.bipush 11, 2, 0, 0, 0), (.if_icmp .ne 67, 3, 248, 0, 0)]),
  (184, [(.iload 6, 2, 0, 0, 0), (.ifCond .le 49, 3, 235, 0, 0)]),
  (189, [(.aload_n 0, 1, 0, 0, 0), (.getfield 15, 3, 3, 2, 229), (.iload 6, 2, 0, 0, 0), (.iconst 1, 1, 0, 0, 0), (.isub, 1, 0, 0, 0), (.laload, 1, 0, 0, 0), (.lconst 0, 1, 0, 0, 0), (.lcmp, 1, 0, 0, 0), (.ifCond .eq 7, 3, 207, 0, 0)]),
  (203, [(.iconst 1, 1, 0, 0, 0), (.goto 4, 3, 208, 0, 0)]),
  (207, [(.iconst 0, 1, 0, 0, 0)]),
  (208, [(.iload 8, 2, 0, 0, 0), (.bipush 11, 2, 0, 0, 0), (.if_icmp .ne 7, 3, 219, 0, 0)]),
  (215, [(.iconst 1, 1, 0, 0, 0), (.goto 4, 3, 220, 0, 0)]),
  (219, [(.iconst 0, 1, 0, 0, 0)]),
  (220, [(.if_icmp .ne 15, 3, 235, 0, 0)]),
  (223, [(.iload 5, 2, 0, 0, 0), (.iload 9, 2, 0, 0, 0), (.invokestatic 88, 3, 902, 0, 873), (.istore 5, 2, 0, 0, 0), (.goto 56, 3, 288, 0, 0)]),
  (235, [(.iconst 0, 1, 0, 0, 0), (.iload 6, 2, 0, 0, 0), (.iconst 1, 1, 0, 0, 0), (.isub, 1, 0, 0, 0), (.invokestatic 88, 3, 902, 0, 873), (.istore 6, 2, 0, 0, 0), (.goto 43, 3, 288, 0, 0)]),
  (248, [(.iload 6, 2, 0, 0, 0), (.iconst 1, 1, 0, 0, 0), (.if_icmp .le 37, 3, 288, 0, 0)]),
  (254, [(.iinc 6 (-1), 3, 0, 0, 0), (.aload_n 0, 1, 0, 0, 0), (.getfield 15, 3, 3, 2, 229), (.iload 6, 2, 0, 0, 0), (.iconst 1, 1, 0, 0, 0), (.isub, 1, 0, 0, 0), (.aload_n 0, 1, 0, 0, 0), (.iload 8, 2, 0, 0, 0), (.aload_n 0, 1, 0, 0, 0), (.getfield 15, 3, 3, 2, 229), (.iload 6, 2, 0, 0, 0), (.iconst 1, 1, 0, 0, 0), (.isub, 1, 0, 0, 0), (.laload, 1, 0, 0, 0), (.aload_n 0, 1, 0, 0, 0), (.getfield 15, 3, 3, 2, 229), (.iload 6, 2, 0, 0, 0), (.laload, 1, 0, 0, 0), (.invokevirtual 97, 3, 54, 4, 876)]),
  (287, [(.lastore, 1, 0, 0, 0)]),
  (288, [(.iinc 7 1, 3, 0, 0, 0), (.goto (-264), 3, 27, 0, 0)]),
  (294, [(.aload_n 0, 1, 0, 0, 0), (.getfield 15, 3, 3, 2, 229), (.iconst 0, 1, 0, 0, 0), (.laload, 1, 0, 0, 0), (.lreturn, 1, 0, 0, 0)])]
theorem ck_X3_worth : en_ck 53 bs_X3_worth = true := by decide +kernel
def bs_X3_joined : en_Bs := [
  (0, [(.lconst 0, 1, 0, 0, 0), (.lstore 6, 2, 0, 0, 0), (.iload_n 1, 1, 0, 0, 0), (.tableswitch 117 2 7 #[40, 49, 58, 67, 91, 104], 40, 0, 0, 0)]),
  (44, [(.lload_n 2, 1, 0, 0, 0), (.lload 4, 2, 0, 0, 0), (.ladd, 1, 0, 0, 0), (.lstore 6, 2, 0, 0, 0), (.goto 84, 3, 134, 0, 0)]),
  (53, [(.lload_n 2, 1, 0, 0, 0), (.lload 4, 2, 0, 0, 0), (.lsub, 1, 0, 0, 0), (.lstore 6, 2, 0, 0, 0), (.goto 75, 3, 134, 0, 0)]),
  (62, [(.lload_n 2, 1, 0, 0, 0), (.lload 4, 2, 0, 0, 0), (.lmul, 1, 0, 0, 0), (.lstore 6, 2, 0, 0, 0), (.goto 66, 3, 134, 0, 0)]),
  (71, [(.lload 4, 2, 0, 0, 0), (.lconst 0, 1, 0, 0, 0), (.lcmp, 1, 0, 0, 0), (.ifCond .ne 11, 3, 86, 0, 0)]),
  (78, [(.aload_n 0, 1, 0, 0, 0), (.iconst 1, 1, 0, 0, 0), (.putfield 71, 3, 3, 3, 230), (.goto 51, 3, 134, 0, 0)]),
  (86, [(.lload_n 2, 1, 0, 0, 0), (.lload 4, 2, 0, 0, 0), (.ldiv, 1, 0, 0, 0), (.lstore 6, 2, 0, 0, 0), (.goto 42, 3, 134, 0, 0)]),
  (95, [(.lload_n 2, 1, 0, 0, 0), (.lload 4, 2, 0, 0, 0), (.lcmp, 1, 0, 0, 0), (.ifCond .ge 7, 3, 106, 0, 0)]),
  (102, [(.lconst 1, 1, 0, 0, 0), (.goto 4, 3, 107, 0, 0)]),
  (106, [(.lconst 0, 1, 0, 0, 0)]),
  (107, [(.lreturn, 1, 0, 0, 0)]),
  (108, [(.lload_n 2, 1, 0, 0, 0), (.lload 4, 2, 0, 0, 0), (.lcmp, 1, 0, 0, 0), (.ifCond .le 7, 3, 119, 0, 0)]),
  (115, [(.lconst 1, 1, 0, 0, 0), (.goto 4, 3, 120, 0, 0)]),
  (119, [(.lconst 0, 1, 0, 0, 0)]),
  (120, [(.lreturn, 1, 0, 0, 0)]),
  (121, [(.lload_n 2, 1, 0, 0, 0), (.lload 4, 2, 0, 0, 0), (.lcmp, 1, 0, 0, 0), (.ifCond .ne 7, 3, 132, 0, 0)]),
  (128, [(.lconst 1, 1, 0, 0, 0), (.goto 4, 3, 133, 0, 0)]),
  (132, [(.lconst 0, 1, 0, 0, 0)]),
  (133, [(.lreturn, 1, 0, 0, 0)]),
  (134, [(.aload_n 0, 1, 0, 0, 0), (.aload_n 0, 1, 0, 0, 0), (.getfield 71, 3, 3, 3, 230), (.ifCond .ne 21, 3, 160, 0, 0)]),
  (142, [(.lload 6, 2, 0, 0, 0), (.ldc2_w 101, 3, 0, 1000000000, 880), (.lcmp, 1, 0, 0, 0), (.ifCond .gt 12, 3, 160, 0, 0)]),
  (151, [(.lload 6, 2, 0, 0, 0), (.ldc2_w 103, 3, 0, 18446744072709551616, 881), (.lcmp, 1, 0, 0, 0), (.ifCond .ge 7, 3, 164, 0, 0)]),
  (160, [(.iconst 1, 1, 0, 0, 0), (.goto 4, 3, 165, 0, 0)]),
  (164, [(.iconst 0, 1, 0, 0, 0)]),
  (165, [(.putfield 71, 3, 3, 3, 230), (.lload 6, 2, 0, 0, 0), (.lreturn, 1, 0, 0, 0)])]
theorem ck_X3_joined : en_ck 54 bs_X3_joined = true := by decide +kernel
def bs_X4_init : en_Bs := [
  (0, [(.aload_n 0, 1, 0, 0, 0), (.invokespecial 3, 3, 900, 0, 41), (.aload_n 0, 1, 0, 0, 0), (.sipush 400, 3, 0, 0, 0), (.newarray .int, 2, 0, 0, 0), (.putfield 9, 3, 4, 1, 44), (.aload_n 0, 1, 0, 0, 0), (.sipush 400, 3, 0, 0, 0), (.newarray .int, 2, 0, 0, 0), (.putfield 15, 3, 4, 2, 46), (.aload_n 0, 1, 0, 0, 0), (.bipush 12, 2, 0, 0, 0), (.newarray .int, 2, 0, 0, 0), (.putfield 18, 3, 4, 5, 53), (.aload_n 0, 1, 0, 0, 0), (.bipush 12, 2, 0, 0, 0), (.newarray .int, 2, 0, 0, 0), (.putfield 21, 3, 4, 6, 56), (.aload_n 0, 1, 0, 0, 0), (.bipush 12, 2, 0, 0, 0), (.newarray .int, 2, 0, 0, 0), (.putfield 24, 3, 4, 7, 59), (.aload_n 0, 1, 0, 0, 0), (.bipush 12, 2, 0, 0, 0), (.newarray .int, 2, 0, 0, 0), (.putfield 27, 3, 4, 8, 62), (.return_, 1, 0, 0, 0)])]
theorem ck_X4_init : en_ck 55 bs_X4_init = true := by decide +kernel
def bs_X4_become : en_Bs := [
  (0, [(.aload_n 0, 1, 0, 0, 0), (.aload_n 1, 1, 0, 0, 0), (.getfield 30, 3, 4, 0, 42), (.putfield 30, 3, 4, 0, 42), (.aload_n 1, 1, 0, 0, 0), (.getfield 9, 3, 4, 1, 44), (.iconst 0, 1, 0, 0, 0), (.aload_n 0, 1, 0, 0, 0), (.getfield 9, 3, 4, 1, 44), (.iconst 0, 1, 0, 0, 0), (.sipush 400, 3, 0, 0, 0), (.invokestatic 34, 3, 901, 0, 749), (.aload_n 1, 1, 0, 0, 0), (.getfield 15, 3, 4, 2, 46), (.iconst 0, 1, 0, 0, 0), (.aload_n 0, 1, 0, 0, 0), (.getfield 15, 3, 4, 2, 46), (.iconst 0, 1, 0, 0, 0), (.sipush 400, 3, 0, 0, 0), (.invokestatic 34, 3, 901, 0, 749), (.aload_n 0, 1, 0, 0, 0), (.aload_n 1, 1, 0, 0, 0), (.getfield 40, 3, 4, 3, 48), (.putfield 40, 3, 4, 3, 48), (.aload_n 0, 1, 0, 0, 0), (.aload_n 1, 1, 0, 0, 0), (.getfield 43, 3, 4, 4, 51), (.putfield 43, 3, 4, 4, 51), (.aload_n 1, 1, 0, 0, 0), (.getfield 18, 3, 4, 5, 53), (.iconst 0, 1, 0, 0, 0), (.aload_n 0, 1, 0, 0, 0), (.getfield 18, 3, 4, 5, 53), (.iconst 0, 1, 0, 0, 0), (.bipush 12, 2, 0, 0, 0), (.invokestatic 34, 3, 901, 0, 749), (.aload_n 1, 1, 0, 0, 0), (.getfield 21, 3, 4, 6, 56), (.iconst 0, 1, 0, 0, 0), (.aload_n 0, 1, 0, 0, 0), (.getfield 21, 3, 4, 6, 56), (.iconst 0, 1, 0, 0, 0), (.bipush 12, 2, 0, 0, 0), (.invokestatic 34, 3, 901, 0, 749), (.aload_n 1, 1, 0, 0, 0), (.getfield 24, 3, 4, 7, 59), (.iconst 0, 1, 0, 0, 0), (.aload_n 0, 1, 0, 0, 0), (.getfield 24, 3, 4, 7, 59), (.iconst 0, 1, 0, 0, 0), (.bipush 12, 2, 0, 0, 0), (.invokestatic 34, 3, 901, 0, 749), (.aload_n 1, 1, 0, 0, 0), (.getfield 27, 3, 4, 8, 62), (.iconst 0, 1, 0, 0, 0), (.aload_n 0, 1, 0, 0, 0), (.getfield 27, 3, 4, 8, 62), (.iconst 0, 1, 0, 0, 0), (.bipush 12, 2, 0, 0, 0), (.invokestatic 34, 3, 901, 0, 749), (.return_, 1, 0, 0, 0)])]
theorem ck_X4_become : en_ck 56 bs_X4_become = true := by decide +kernel
def bs_X4_wipe : en_Bs := [
  (0, [(.aload_n 0, 1, 0, 0, 0), (.iconst 0, 1, 0, 0, 0), (.putfield 30, 3, 4, 0, 42), (.aload_n 0, 1, 0, 0, 0), (.iconst 0, 1, 0, 0, 0), (.putfield 40, 3, 4, 3, 48), (.aload_n 0, 1, 0, 0, 0), (.iconst 0, 1, 0, 0, 0), (.putfield 43, 3, 4, 4, 51), (.return_, 1, 0, 0, 0)])]
theorem ck_X4_wipe : en_ck 57 bs_X4_wipe = true := by decide +kernel
def bs_X4_speaksOf : en_Bs := [
  (0, [(.aload_n 0, 1, 0, 0, 0), (.getfield 43, 3, 4, 4, 51), (.iload_n 1, 1, 0, 0, 0), (.invokestatic 46, 3, 155, 2, 5006)]),
  (8, [(.ireturn, 1, 0, 0, 0)])]
theorem ck_X4_speaksOf : en_ck 58 bs_X4_speaksOf = true := by decide +kernel
end
section
def bs_X4_asksOfTime : en_Bs := [
  (0, [(.iconst 0, 1, 0, 0, 0), (.istore_n 1, 1, 0, 0, 0)]),
  (2, [(.iload_n 1, 1, 0, 0, 0), (.aload_n 0, 1, 0, 0, 0), (.getfield 30, 3, 4, 0, 42), (.if_icmp .ge 49, 3, 56, 0, 0)]),
  (10, [(.iload_n 1, 1, 0, 0, 0), (.sipush 400, 3, 0, 0, 0), (.if_icmp .ge 42, 3, 56, 0, 0)]),
  (17, [(.aload_n 0, 1, 0, 0, 0), (.getfield 9, 3, 4, 1, 44), (.iload_n 1, 1, 0, 0, 0), (.iaload, 1, 0, 0, 0), (.iconst 1, 1, 0, 0, 0), (.if_icmp .ne 26, 3, 50, 0, 0)]),
  (27, [(.aload_n 0, 1, 0, 0, 0), (.getfield 15, 3, 4, 2, 46), (.iload_n 1, 1, 0, 0, 0), (.iaload, 1, 0, 0, 0), (.iconst 5, 1, 0, 0, 0), (.if_icmp .eq 14, 3, 48, 0, 0)]),
  (37, [(.aload_n 0, 1, 0, 0, 0), (.getfield 15, 3, 4, 2, 46), (.iload_n 1, 1, 0, 0, 0), (.iaload, 1, 0, 0, 0), (.bipush 6, 2, 0, 0, 0), (.if_icmp .ne 5, 3, 50, 0, 0)]),
  (48, [(.iconst 1, 1, 0, 0, 0), (.ireturn, 1, 0, 0, 0)]),
  (50, [(.iinc 1 1, 3, 0, 0, 0), (.goto (-51), 3, 2, 0, 0)]),
  (56, [(.iconst 0, 1, 0, 0, 0), (.ireturn, 1, 0, 0, 0)])]
theorem ck_X4_asksOfTime : en_ck 59 bs_X4_asksOfTime = true := by decide +kernel
def bs_X4_add : en_Bs := [
  (0, [(.aload_n 0, 1, 0, 0, 0), (.getfield 30, 3, 4, 0, 42), (.sipush 400, 3, 0, 0, 0), (.if_icmp .lt 5, 3, 12, 0, 0)]),
  (10, [(.iconst (-1), 1, 0, 0, 0), (.ireturn, 1, 0, 0, 0)]),
  (12, [(.aload_n 0, 1, 0, 0, 0), (.getfield 9, 3, 4, 1, 44), (.aload_n 0, 1, 0, 0, 0), (.getfield 30, 3, 4, 0, 42), (.iload_n 1, 1, 0, 0, 0), (.iastore, 1, 0, 0, 0), (.aload_n 0, 1, 0, 0, 0), (.getfield 15, 3, 4, 2, 46), (.aload_n 0, 1, 0, 0, 0), (.getfield 30, 3, 4, 0, 42), (.iload_n 2, 1, 0, 0, 0), (.iastore, 1, 0, 0, 0), (.aload_n 0, 1, 0, 0, 0), (.dup, 1, 0, 0, 0), (.getfield 30, 3, 4, 0, 42), (.iconst 1, 1, 0, 0, 0), (.iadd, 1, 0, 0, 0), (.putfield 30, 3, 4, 0, 42), (.aload_n 0, 1, 0, 0, 0), (.getfield 30, 3, 4, 0, 42), (.iconst 1, 1, 0, 0, 0), (.isub, 1, 0, 0, 0), (.ireturn, 1, 0, 0, 0)])]
theorem ck_X4_add : en_ck 60 bs_X4_add = true := by decide +kernel
def bs_X4_aimAtEnd : en_Bs := [
  (0, [(.iload_n 1, 1, 0, 0, 0), (.ifCond .lt 21, 3, 22, 0, 0)]),
  (4, [(.iload_n 1, 1, 0, 0, 0), (.aload_n 0, 1, 0, 0, 0), (.getfield 30, 3, 4, 0, 42), (.if_icmp .ge 13, 3, 22, 0, 0)]),
  (12, [(.aload_n 0, 1, 0, 0, 0), (.getfield 15, 3, 4, 2, 46), (.iload_n 1, 1, 0, 0, 0), (.aload_n 0, 1, 0, 0, 0), (.getfield 30, 3, 4, 0, 42), (.iastore, 1, 0, 0, 0)]),
  (22, [(.return_, 1, 0, 0, 0)])]
theorem ck_X4_aimAtEnd : en_ck 61 bs_X4_aimAtEnd = true := by decide +kernel
def bs_X5_init : en_Bs := [
  (0, [(.aload_n 0, 1, 0, 0, 0), (.invokespecial 3, 3, 900, 0, 184), (.aload_n 0, 1, 0, 0, 0), (.new 9, 3, 4, 0, 185), (.dup, 1, 0, 0, 0), (.invokespecial 11, 3, 55, 1, 5002)]),
  (12, [(.putfield 12, 3, 5, 1, 188), (.aload_n 0, 1, 0, 0, 0), (.iconst (-1), 1, 0, 0, 0), (.putfield 18, 3, 5, 2, 190), (.aload_n 0, 1, 0, 0, 0), (.aload_n 1, 1, 0, 0, 0), (.putfield 22, 3, 5, 0, 187), (.return_, 1, 0, 0, 0)])]
theorem ck_X5_init : en_ck 62 bs_X5_init = true := by decide +kernel
def bs_X5_read : en_Bs := [
  (0, [(.aload_n 0, 1, 0, 0, 0), (.iconst (-1), 1, 0, 0, 0), (.putfield 18, 3, 5, 2, 190), (.aload_n 0, 1, 0, 0, 0), (.iconst 0, 1, 0, 0, 0), (.putfield 26, 3, 5, 5, 194), (.aload_n 0, 1, 0, 0, 0), (.iconst 0, 1, 0, 0, 0), (.putfield 29, 3, 5, 6, 195), (.aload_n 0, 1, 0, 0, 0), (.getfield 12, 3, 5, 1, 188), (.invokevirtual 32, 3, 57, 1, 597)]),
  (22, [(.aload_n 0, 1, 0, 0, 0), (.invokevirtual 35, 3, 73, 1, 601)]),
  (26, [(.aload_n 0, 1, 0, 0, 0), (.invokevirtual 38, 3, 64, 1, 609)]),
  (30, [(.iconst 0, 1, 0, 0, 0), (.istore_n 1, 1, 0, 0, 0)]),
  (32, [(.iload_n 1, 1, 0, 0, 0), (.sipush 400, 3, 0, 0, 0), (.if_icmp .ge 34, 3, 70, 0, 0)]),
  (39, [(.aload_n 0, 1, 0, 0, 0), (.getfield 18, 3, 5, 2, 190), (.iconst (-1), 1, 0, 0, 0), (.if_icmp .ne 26, 3, 70, 0, 0)]),
  (47, [(.aload_n 0, 1, 0, 0, 0), (.bipush 59, 2, 0, 0, 0), (.invokevirtual 41, 3, 75, 2, 681)]),
  (53, [(.ifCond .eq 17, 3, 70, 0, 0)]),
  (56, [(.aload_n 0, 1, 0, 0, 0), (.invokevirtual 35, 3, 73, 1, 601)]),
  (60, [(.aload_n 0, 1, 0, 0, 0), (.invokevirtual 38, 3, 64, 1, 609)]),
  (64, [(.iinc 1 1, 3, 0, 0, 0), (.goto (-35), 3, 32, 0, 0)]),
  (70, [(.aload_n 0, 1, 0, 0, 0), (.getfield 45, 3, 5, 3, 192), (.iconst 3, 1, 0, 0, 0), (.if_icmp .eq 7, 3, 82, 0, 0)]),
  (78, [(.aload_n 0, 1, 0, 0, 0), (.invokevirtual 48, 3, 72, 1, 668)]),
  (82, [(.aload_n 0, 1, 0, 0, 0), (.getfield 18, 3, 5, 2, 190), (.iconst (-1), 1, 0, 0, 0), (.if_icmp .ne 7, 3, 94, 0, 0)]),
  (90, [(.iconst 1, 1, 0, 0, 0), (.goto 4, 3, 95, 0, 0)]),
  (94, [(.iconst 0, 1, 0, 0, 0)]),
  (95, [(.ireturn, 1, 0, 0, 0)])]
theorem ck_X5_read : en_ck 63 bs_X5_read = true := by decide +kernel
def bs_X5_readClause : en_Bs := [
  (0, [(.aload_n 0, 1, 0, 0, 0), (.ldc 51, 2, 2, 0, 0), (.invokevirtual 53, 3, 76, 2, 614)]),
  (6, [(.ifCond .eq 7, 3, 13, 0, 0)]),
  (9, [(.iconst 0, 1, 0, 0, 0), (.goto 30, 3, 40, 0, 0)]),
  (13, [(.aload_n 0, 1, 0, 0, 0), (.ldc 57, 2, 2, 1, 0), (.invokevirtual 53, 3, 76, 2, 614)]),
  (19, [(.ifCond .eq 7, 3, 26, 0, 0)]),
  (22, [(.iconst 1, 1, 0, 0, 0), (.goto 17, 3, 40, 0, 0)]),
  (26, [(.aload_n 0, 1, 0, 0, 0), (.ldc 59, 2, 2, 2, 0), (.invokevirtual 53, 3, 76, 2, 614)]),
  (32, [(.ifCond .eq 7, 3, 39, 0, 0)]),
  (35, [(.iconst 2, 1, 0, 0, 0), (.goto 4, 3, 40, 0, 0)]),
  (39, [(.iconst (-1), 1, 0, 0, 0)]),
  (40, [(.istore_n 1, 1, 0, 0, 0), (.aload_n 0, 1, 0, 0, 0), (.getfield 12, 3, 5, 1, 188), (.getfield 61, 3, 4, 3, 49), (.istore_n 2, 1, 0, 0, 0), (.iload_n 1, 1, 0, 0, 0), (.iconst (-1), 1, 0, 0, 0), (.if_icmp .eq 9, 3, 60, 0, 0)]),
  (54, [(.iload_n 2, 1, 0, 0, 0), (.bipush 12, 2, 0, 0, 0), (.if_icmp .lt 8, 3, 65, 0, 0)]),
  (60, [(.aload_n 0, 1, 0, 0, 0), (.invokevirtual 48, 3, 72, 1, 668)]),
  (64, [(.return_, 1, 0, 0, 0)]),
  (65, [(.aload_n 0, 1, 0, 0, 0), (.invokevirtual 35, 3, 73, 1, 601)]),
  (69, [(.aload_n 0, 1, 0, 0, 0), (.getfield 12, 3, 5, 1, 188), (.iload_n 2, 1, 0, 0, 0), (.iconst 1, 1, 0, 0, 0), (.iadd, 1, 0, 0, 0), (.putfield 61, 3, 4, 3, 49), (.aload_n 0, 1, 0, 0, 0), (.getfield 12, 3, 5, 1, 188), (.getfield 64, 3, 4, 5, 54), (.iload_n 2, 1, 0, 0, 0), (.iload_n 1, 1, 0, 0, 0), (.iastore, 1, 0, 0, 0), (.aload_n 0, 1, 0, 0, 0), (.getfield 12, 3, 5, 1, 188), (.dup, 1, 0, 0, 0), (.getfield 68, 3, 4, 4, 52), (.iconst 1, 1, 0, 0, 0), (.iload_n 1, 1, 0, 0, 0), (.ishl, 1, 0, 0, 0), (.ior, 1, 0, 0, 0), (.putfield 68, 3, 4, 4, 52), (.aload_n 0, 1, 0, 0, 0), (.getfield 12, 3, 5, 1, 188), (.getfield 71, 3, 4, 6, 57), (.iload_n 2, 1, 0, 0, 0), (.aload_n 0, 1, 0, 0, 0), (.getfield 12, 3, 5, 1, 188), (.getfield 74, 3, 4, 0, 43), (.iastore, 1, 0, 0, 0), (.iload_n 1, 1, 0, 0, 0), (.iconst 2, 1, 0, 0, 0), (.if_icmp .eq 9, 3, 131, 0, 0)]),
  (125, [(.aload_n 0, 1, 0, 0, 0), (.iconst 2, 1, 0, 0, 0), (.iconst 0, 1, 0, 0, 0), (.invokevirtual 77, 3, 65, 3, 672)]),
  (131, [(.aload_n 0, 1, 0, 0, 0), (.getfield 12, 3, 5, 1, 188), (.getfield 81, 3, 4, 7, 60), (.iload_n 2, 1, 0, 0, 0), (.aload_n 0, 1, 0, 0, 0), (.getfield 12, 3, 5, 1, 188), (.getfield 74, 3, 4, 0, 43), (.iastore, 1, 0, 0, 0), (.aload_n 0, 1, 0, 0, 0), (.getfield 18, 3, 5, 2, 190), (.iconst (-1), 1, 0, 0, 0), (.if_icmp .ne 22, 3, 174, 0, 0)]),
  (155, [(.aload_n 0, 1, 0, 0, 0), (.ldc 84, 2, 2, 16, 0), (.invokevirtual 53, 3, 76, 2, 614)]),
  (161, [(.ifCond .eq 13, 3, 174, 0, 0)]),
  (164, [(.aload_n 0, 1, 0, 0, 0), (.invokevirtual 35, 3, 73, 1, 601)]),
  (168, [(.aload_n 0, 1, 0, 0, 0), (.iconst 0, 1, 0, 0, 0), (.iconst 0, 1, 0, 0, 0), (.invokevirtual 77, 3, 65, 3, 672)]),
  (174, [(.aload_n 0, 1, 0, 0, 0), (.getfield 12, 3, 5, 1, 188), (.getfield 86, 3, 4, 8, 64), (.iload_n 2, 1, 0, 0, 0), (.aload_n 0, 1, 0, 0, 0), (.getfield 12, 3, 5, 1, 188), (.getfield 74, 3, 4, 0, 43), (.iastore, 1, 0, 0, 0), (.return_, 1, 0, 0, 0)])]
theorem ck_X5_readClause : en_ck 64 bs_X5_readClause = true := by decide +kernel
def bs_X5_readJoined : en_Bs := [
  (0, [(.iconst (-1), 1, 0, 0, 0), (.istore_n 3, 1, 0, 0, 0), (.iconst (-1), 1, 0, 0, 0), (.istore 4, 2, 0, 0, 0), (.iconst 0, 1, 0, 0, 0), (.istore 5, 2, 0, 0, 0)]),
  (8, [(.iload 5, 2, 0, 0, 0), (.sipush 400, 3, 0, 0, 0), (.if_icmp .ge 128, 3, 141, 0, 0)]),
  (16, [(.iload_n 1, 1, 0, 0, 0), (.iconst 1, 1, 0, 0, 0), (.if_icmp .ne 11, 3, 29, 0, 0)]),
  (21, [(.aload_n 0, 1, 0, 0, 0), (.iload_n 2, 1, 0, 0, 0), (.invokevirtual 89, 3, 67, 2, 676)]),
  (26, [(.goto 24, 3, 50, 0, 0)]),
  (29, [(.iload_n 1, 1, 0, 0, 0), (.iconst 3, 1, 0, 0, 0), (.if_icmp .ne 11, 3, 42, 0, 0)]),
  (34, [(.aload_n 0, 1, 0, 0, 0), (.iload_n 2, 1, 0, 0, 0), (.invokevirtual 93, 3, 69, 2, 701)]),
  (39, [(.goto 11, 3, 50, 0, 0)]),
  (42, [(.aload_n 0, 1, 0, 0, 0), (.iload_n 1, 1, 0, 0, 0), (.iconst 1, 1, 0, 0, 0), (.iadd, 1, 0, 0, 0), (.iload_n 2, 1, 0, 0, 0), (.invokevirtual 77, 3, 65, 3, 672)]),
  (50, [(.iload 4, 2, 0, 0, 0), (.iconst (-1), 1, 0, 0, 0), (.if_icmp .eq 15, 3, 68, 0, 0)]),
  (56, [(.aload_n 0, 1, 0, 0, 0), (.getfield 12, 3, 5, 1, 188), (.iload 4, 2, 0, 0, 0), (.invokevirtual 96, 3, 61, 2, 726)]),
  (65, [(.goto 18, 3, 83, 0, 0)]),
  (68, [(.iload_n 3, 1, 0, 0, 0), (.iconst (-1), 1, 0, 0, 0), (.if_icmp .eq 13, 3, 83, 0, 0)]),
  (73, [(.aload_n 0, 1, 0, 0, 0), (.getfield 12, 3, 5, 1, 188), (.iload_n 3, 1, 0, 0, 0), (.iconst 0, 1, 0, 0, 0), (.invokevirtual 99, 3, 60, 3, 697)]),
  (82, [(.pop, 1, 0, 0, 0)]),
  (83, [(.aload_n 0, 1, 0, 0, 0), (.getfield 18, 3, 5, 2, 190), (.iconst (-1), 1, 0, 0, 0), (.if_icmp .ne 11, 3, 99, 0, 0)]),
  (91, [(.aload_n 0, 1, 0, 0, 0), (.iload_n 1, 1, 0, 0, 0), (.invokevirtual 103, 3, 66, 2, 730)]),
  (96, [(.goto 4, 3, 100, 0, 0)]),
  (99, [(.iconst (-1), 1, 0, 0, 0)]),
  (100, [(.istore_n 3, 1, 0, 0, 0), (.iload_n 3, 1, 0, 0, 0), (.iconst (-1), 1, 0, 0, 0), (.if_icmp .ne 4, 3, 107, 0, 0)]),
  (106, [(.return_, 1, 0, 0, 0)]),
  (107, [(.aload_n 0, 1, 0, 0, 0), (.invokevirtual 35, 3, 73, 1, 601)]),
  (111, [(.iload_n 1, 1, 0, 0, 0), (.ifCond .eq 8, 3, 120, 0, 0)]),
  (115, [(.iload_n 1, 1, 0, 0, 0), (.iconst 1, 1, 0, 0, 0), (.if_icmp .ne 15, 3, 132, 0, 0)]),
  (120, [(.aload_n 0, 1, 0, 0, 0), (.getfield 12, 3, 5, 1, 188), (.iload_n 3, 1, 0, 0, 0), (.iconst 0, 1, 0, 0, 0), (.invokevirtual 99, 3, 60, 3, 697)]),
  (129, [(.goto 4, 3, 133, 0, 0)]),
  (132, [(.iconst (-1), 1, 0, 0, 0)]),
  (133, [(.istore 4, 2, 0, 0, 0), (.iinc 5 1, 3, 0, 0, 0), (.goto (-130), 3, 8, 0, 0)]),
  (141, [(.return_, 1, 0, 0, 0)])]
theorem ck_X5_readJoined : en_ck 65 bs_X5_readJoined = true := by decide +kernel
def bs_X5_joinHere : en_Bs := [
  (0, [(.iload_n 1, 1, 0, 0, 0), (.tableswitch 87 0 2 #[27, 43, 59], 27, 0, 0, 0)]),
  (28, [(.aload_n 0, 1, 0, 0, 0), (.ldc 107, 2, 2, 14, 0), (.invokevirtual 53, 3, 76, 2, 614)]),
  (34, [(.ifCond .eq 8, 3, 42, 0, 0)]),
  (37, [(.bipush 11, 2, 0, 0, 0), (.goto 4, 3, 43, 0, 0)]),
  (42, [(.iconst (-1), 1, 0, 0, 0)]),
  (43, [(.ireturn, 1, 0, 0, 0)]),
  (44, [(.aload_n 0, 1, 0, 0, 0), (.ldc 109, 2, 2, 15, 0), (.invokevirtual 53, 3, 76, 2, 614)]),
  (50, [(.ifCond .eq 8, 3, 58, 0, 0)]),
  (53, [(.bipush 10, 2, 0, 0, 0), (.goto 4, 3, 59, 0, 0)]),
  (58, [(.iconst (-1), 1, 0, 0, 0)]),
  (59, [(.ireturn, 1, 0, 0, 0)]),
  (60, [(.aload_n 0, 1, 0, 0, 0), (.bipush 43, 2, 0, 0, 0), (.invokevirtual 41, 3, 75, 2, 681)]),
  (66, [(.ifCond .eq 7, 3, 73, 0, 0)]),
  (69, [(.iconst 2, 1, 0, 0, 0), (.goto 17, 3, 87, 0, 0)]),
  (73, [(.aload_n 0, 1, 0, 0, 0), (.bipush 45, 2, 0, 0, 0), (.invokevirtual 41, 3, 75, 2, 681)]),
  (79, [(.ifCond .eq 7, 3, 86, 0, 0)]),
  (82, [(.iconst 3, 1, 0, 0, 0), (.goto 4, 3, 87, 0, 0)]),
  (86, [(.iconst (-1), 1, 0, 0, 0)]),
  (87, [(.ireturn, 1, 0, 0, 0)]),
  (88, [(.aload_n 0, 1, 0, 0, 0), (.bipush 42, 2, 0, 0, 0), (.invokevirtual 41, 3, 75, 2, 681)]),
  (94, [(.ifCond .eq 7, 3, 101, 0, 0)]),
  (97, [(.iconst 4, 1, 0, 0, 0), (.goto 17, 3, 115, 0, 0)]),
  (101, [(.aload_n 0, 1, 0, 0, 0), (.bipush 47, 2, 0, 0, 0), (.invokevirtual 41, 3, 75, 2, 681)]),
  (107, [(.ifCond .eq 7, 3, 114, 0, 0)]),
  (110, [(.iconst 5, 1, 0, 0, 0), (.goto 4, 3, 115, 0, 0)]),
  (114, [(.iconst (-1), 1, 0, 0, 0)]),
  (115, [(.ireturn, 1, 0, 0, 0)])]
theorem ck_X5_joinHere : en_ck 66 bs_X5_joinHere = true := by decide +kernel
def bs_X5_readPlain : en_Bs := [
  (0, [(.iconst 0, 1, 0, 0, 0), (.istore_n 2, 1, 0, 0, 0), (.iconst 0, 1, 0, 0, 0), (.istore_n 3, 1, 0, 0, 0)]),
  (4, [(.iload_n 3, 1, 0, 0, 0), (.sipush 400, 3, 0, 0, 0), (.if_icmp .ge 32, 3, 40, 0, 0)]),
  (11, [(.aload_n 0, 1, 0, 0, 0), (.ldc 111, 2, 2, 3, 0), (.invokevirtual 53, 3, 76, 2, 614)]),
  (17, [(.ifCond .eq 23, 3, 40, 0, 0)]),
  (20, [(.aload_n 0, 1, 0, 0, 0), (.invokevirtual 35, 3, 73, 1, 601)]),
  (24, [(.iload_n 2, 1, 0, 0, 0), (.ifCond .ne 7, 3, 32, 0, 0)]),
  (28, [(.iconst 1, 1, 0, 0, 0), (.goto 4, 3, 33, 0, 0)]),
  (32, [(.iconst 0, 1, 0, 0, 0)]),
  (33, [(.istore_n 2, 1, 0, 0, 0), (.iinc 3 1, 3, 0, 0, 0), (.goto (-33), 3, 4, 0, 0)]),
  (40, [(.aload_n 0, 1, 0, 0, 0), (.bipush 40, 2, 0, 0, 0), (.invokevirtual 41, 3, 75, 2, 681)]),
  (46, [(.ifCond .eq 33, 3, 79, 0, 0)]),
  (49, [(.aload_n 0, 1, 0, 0, 0), (.iload_n 1, 1, 0, 0, 0), (.invokevirtual 113, 3, 70, 2, 685)]),
  (54, [(.aload_n 0, 1, 0, 0, 0), (.getfield 18, 3, 5, 2, 190), (.iconst (-1), 1, 0, 0, 0), (.if_icmp .ne 61, 3, 120, 0, 0)]),
  (62, [(.aload_n 0, 1, 0, 0, 0), (.iconst 0, 1, 0, 0, 0), (.iload_n 1, 1, 0, 0, 0), (.iconst 1, 1, 0, 0, 0), (.iadd, 1, 0, 0, 0), (.invokevirtual 77, 3, 65, 3, 672)]),
  (70, [(.aload_n 0, 1, 0, 0, 0), (.bipush 41, 2, 0, 0, 0), (.invokevirtual 116, 3, 71, 2, 689)]),
  (76, [(.goto 44, 3, 120, 0, 0)]),
  (79, [(.aload_n 0, 1, 0, 0, 0), (.iconst 2, 1, 0, 0, 0), (.iload_n 1, 1, 0, 0, 0), (.invokevirtual 77, 3, 65, 3, 672)]),
  (85, [(.aload_n 0, 1, 0, 0, 0), (.invokevirtual 120, 3, 68, 1, 693)]),
  (89, [(.istore_n 3, 1, 0, 0, 0), (.iload_n 3, 1, 0, 0, 0), (.iconst (-1), 1, 0, 0, 0), (.if_icmp .ne 8, 3, 100, 0, 0)]),
  (95, [(.aload_n 0, 1, 0, 0, 0), (.invokevirtual 48, 3, 72, 1, 668)]),
  (99, [(.return_, 1, 0, 0, 0)]),
  (100, [(.aload_n 0, 1, 0, 0, 0), (.invokevirtual 35, 3, 73, 1, 601)]),
  (104, [(.aload_n 0, 1, 0, 0, 0), (.iconst 2, 1, 0, 0, 0), (.iload_n 1, 1, 0, 0, 0), (.invokevirtual 77, 3, 65, 3, 672)]),
  (110, [(.aload_n 0, 1, 0, 0, 0), (.getfield 12, 3, 5, 1, 188), (.iload_n 3, 1, 0, 0, 0), (.iconst 0, 1, 0, 0, 0), (.invokevirtual 99, 3, 60, 3, 697)]),
  (119, [(.pop, 1, 0, 0, 0)]),
  (120, [(.iload_n 2, 1, 0, 0, 0), (.ifCond .eq 14, 3, 135, 0, 0)]),
  (124, [(.aload_n 0, 1, 0, 0, 0), (.getfield 12, 3, 5, 1, 188), (.bipush 9, 2, 0, 0, 0), (.iconst 0, 1, 0, 0, 0), (.invokevirtual 99, 3, 60, 3, 697)]),
  (134, [(.pop, 1, 0, 0, 0)]),
  (135, [(.return_, 1, 0, 0, 0)])]
theorem ck_X5_readPlain : en_ck 67 bs_X5_readPlain = true := by decide +kernel
def bs_X5_comparisonHere : en_Bs := [
  (0, [(.aload_n 0, 1, 0, 0, 0), (.bipush 60, 2, 0, 0, 0), (.invokevirtual 41, 3, 75, 2, 681)]),
  (6, [(.ifCond .eq 8, 3, 14, 0, 0)]),
  (9, [(.bipush 6, 2, 0, 0, 0), (.goto 32, 3, 43, 0, 0)]),
  (14, [(.aload_n 0, 1, 0, 0, 0), (.bipush 62, 2, 0, 0, 0), (.invokevirtual 41, 3, 75, 2, 681)]),
  (20, [(.ifCond .eq 8, 3, 28, 0, 0)]),
  (23, [(.bipush 7, 2, 0, 0, 0), (.goto 18, 3, 43, 0, 0)]),
  (28, [(.aload_n 0, 1, 0, 0, 0), (.bipush 61, 2, 0, 0, 0), (.invokevirtual 41, 3, 75, 2, 681)]),
  (34, [(.ifCond .eq 8, 3, 42, 0, 0)]),
  (37, [(.bipush 8, 2, 0, 0, 0), (.goto 4, 3, 43, 0, 0)]),
  (42, [(.iconst (-1), 1, 0, 0, 0)]),
  (43, [(.ireturn, 1, 0, 0, 0)])]
theorem ck_X5_comparisonHere : en_ck 68 bs_X5_comparisonHere = true := by decide +kernel
def bs_X5_readPart : en_Bs := [
  (0, [(.aload_n 0, 1, 0, 0, 0), (.bipush 91, 2, 0, 0, 0), (.invokevirtual 41, 3, 75, 2, 681)]),
  (6, [(.ifCond .eq 31, 3, 37, 0, 0)]),
  (9, [(.aload_n 0, 1, 0, 0, 0), (.iload_n 1, 1, 0, 0, 0), (.invokevirtual 113, 3, 70, 2, 685)]),
  (14, [(.aload_n 0, 1, 0, 0, 0), (.getfield 18, 3, 5, 2, 190), (.iconst (-1), 1, 0, 0, 0), (.if_icmp .ne 17, 3, 36, 0, 0)]),
  (22, [(.aload_n 0, 1, 0, 0, 0), (.iconst 2, 1, 0, 0, 0), (.iload_n 1, 1, 0, 0, 0), (.iconst 1, 1, 0, 0, 0), (.iadd, 1, 0, 0, 0), (.invokevirtual 77, 3, 65, 3, 672)]),
  (30, [(.aload_n 0, 1, 0, 0, 0), (.bipush 93, 2, 0, 0, 0), (.invokevirtual 116, 3, 71, 2, 689)]),
  (36, [(.return_, 1, 0, 0, 0)]),
  (37, [(.aload_n 0, 1, 0, 0, 0), (.getfield 45, 3, 5, 3, 192), (.iconst 1, 1, 0, 0, 0), (.if_icmp .ne 7, 3, 49, 0, 0)]),
  (45, [(.iconst 0, 1, 0, 0, 0), (.goto 4, 3, 50, 0, 0)]),
  (49, [(.iconst 1, 1, 0, 0, 0)]),
  (50, [(.istore_n 2, 1, 0, 0, 0), (.aload_n 0, 1, 0, 0, 0), (.getfield 45, 3, 5, 3, 192), (.iconst 1, 1, 0, 0, 0), (.if_icmp .ne 10, 3, 66, 0, 0)]),
  (59, [(.aload_n 0, 1, 0, 0, 0), (.invokevirtual 124, 3, 77, 1, 705)]),
  (63, [(.goto 7, 3, 70, 0, 0)]),
  (66, [(.aload_n 0, 1, 0, 0, 0), (.invokevirtual 127, 3, 78, 1, 709)]),
  (70, [(.istore_n 3, 1, 0, 0, 0), (.iload_n 3, 1, 0, 0, 0), (.iconst (-1), 1, 0, 0, 0), (.if_icmp .eq 19, 3, 92, 0, 0)]),
  (76, [(.iload_n 3, 1, 0, 0, 0), (.sipush 1000, 3, 0, 0, 0), (.if_icmp .gt 12, 3, 92, 0, 0)]),
  (83, [(.aload_n 0, 1, 0, 0, 0), (.getfield 29, 3, 5, 6, 195), (.bipush 50, 2, 0, 0, 0), (.if_icmp .lt 8, 3, 97, 0, 0)]),
  (92, [(.aload_n 0, 1, 0, 0, 0), (.invokevirtual 48, 3, 72, 1, 668)]),
  (96, [(.return_, 1, 0, 0, 0)]),
  (97, [(.aload_n 0, 1, 0, 0, 0), (.dup, 1, 0, 0, 0), (.getfield 29, 3, 5, 6, 195), (.iconst 1, 1, 0, 0, 0), (.iadd, 1, 0, 0, 0), (.putfield 29, 3, 5, 6, 195), (.aload_n 0, 1, 0, 0, 0), (.getfield 12, 3, 5, 1, 188), (.iload_n 2, 1, 0, 0, 0), (.iload_n 3, 1, 0, 0, 0), (.invokevirtual 99, 3, 60, 3, 697)]),
  (116, [(.pop, 1, 0, 0, 0), (.aload_n 0, 1, 0, 0, 0), (.invokevirtual 35, 3, 73, 1, 601)]),
  (121, [(.return_, 1, 0, 0, 0)])]
theorem ck_X5_readPart : en_ck 69 bs_X5_readPart = true := by decide +kernel
def bs_X5_open : en_Bs := [
  (0, [(.iload_n 1, 1, 0, 0, 0), (.bipush 8, 2, 0, 0, 0), (.if_icmp .lt 10, 3, 13, 0, 0)]),
  (6, [(.aload_n 0, 1, 0, 0, 0), (.invokevirtual 48, 3, 72, 1, 668)]),
  (10, [(.goto 7, 3, 17, 0, 0)]),
  (13, [(.aload_n 0, 1, 0, 0, 0), (.invokevirtual 35, 3, 73, 1, 601)]),
  (17, [(.return_, 1, 0, 0, 0)])]
theorem ck_X5_open : en_ck 70 bs_X5_open = true := by decide +kernel
def bs_X5_expect : en_Bs := [
  (0, [(.aload_n 0, 1, 0, 0, 0), (.iload_n 1, 1, 0, 0, 0), (.invokevirtual 41, 3, 75, 2, 681)]),
  (5, [(.ifCond .eq 10, 3, 15, 0, 0)]),
  (8, [(.aload_n 0, 1, 0, 0, 0), (.invokevirtual 35, 3, 73, 1, 601)]),
  (12, [(.goto 7, 3, 19, 0, 0)]),
  (15, [(.aload_n 0, 1, 0, 0, 0), (.invokevirtual 48, 3, 72, 1, 668)]),
  (19, [(.return_, 1, 0, 0, 0)])]
theorem ck_X5_expect : en_ck 71 bs_X5_expect = true := by decide +kernel
def bs_X5_fail : en_Bs := [
  (0, [(.aload_n 0, 1, 0, 0, 0), (.getfield 18, 3, 5, 2, 190), (.iconst (-1), 1, 0, 0, 0), (.if_icmp .ne 11, 3, 16, 0, 0)]),
  (8, [(.aload_n 0, 1, 0, 0, 0), (.aload_n 0, 1, 0, 0, 0), (.getfield 130, 3, 5, 4, 193), (.putfield 18, 3, 5, 2, 190)]),
  (16, [(.return_, 1, 0, 0, 0)])]
theorem ck_X5_fail : en_ck 72 bs_X5_fail = true := by decide +kernel
def bs_X5_step : en_Bs := [
  (0, [(.aload_n 0, 1, 0, 0, 0), (.getfield 26, 3, 5, 5, 194), (.istore_n 1, 1, 0, 0, 0)]),
  (5, [(.iload_n 1, 1, 0, 0, 0), (.aload_n 0, 1, 0, 0, 0), (.getfield 22, 3, 5, 0, 187), (.getfield 133, 3, 8, 1, 172), (.if_icmp .ge 22, 3, 35, 0, 0)]),
  (16, [(.aload_n 0, 1, 0, 0, 0), (.getfield 22, 3, 5, 0, 187), (.iload_n 1, 1, 0, 0, 0), (.invokevirtual 136, 3, 94, 2, 605)]),
  (24, [(.bipush 32, 2, 0, 0, 0), (.if_icmp .ne 9, 3, 35, 0, 0)]),
  (29, [(.iinc 1 1, 3, 0, 0, 0), (.goto (-27), 3, 5, 0, 0)]),
  (35, [(.aload_n 0, 1, 0, 0, 0), (.iload_n 1, 1, 0, 0, 0), (.putfield 130, 3, 5, 4, 193), (.aload_n 0, 1, 0, 0, 0), (.aload_n 0, 1, 0, 0, 0), (.getfield 22, 3, 5, 0, 187), (.iload_n 1, 1, 0, 0, 0), (.invokevirtual 136, 3, 94, 2, 605)]),
  (49, [(.invokestatic 139, 3, 74, 1, 606)]),
  (52, [(.putfield 45, 3, 5, 3, 192), (.aload_n 0, 1, 0, 0, 0), (.getfield 45, 3, 5, 3, 192), (.iconst 3, 1, 0, 0, 0), (.if_icmp .eq 6, 3, 66, 0, 0)]),
  (63, [(.iinc 1 1, 3, 0, 0, 0)]),
  (66, [(.iload_n 1, 1, 0, 0, 0), (.aload_n 0, 1, 0, 0, 0), (.getfield 22, 3, 5, 0, 187), (.getfield 133, 3, 8, 1, 172), (.if_icmp .ge 35, 3, 109, 0, 0)]),
  (77, [(.aload_n 0, 1, 0, 0, 0), (.getfield 45, 3, 5, 3, 192), (.iconst 2, 1, 0, 0, 0), (.if_icmp .eq 27, 3, 109, 0, 0)]),
  (85, [(.aload_n 0, 1, 0, 0, 0), (.getfield 22, 3, 5, 0, 187), (.iload_n 1, 1, 0, 0, 0), (.invokevirtual 136, 3, 94, 2, 605)]),
  (93, [(.invokestatic 139, 3, 74, 1, 606)]),
  (96, [(.aload_n 0, 1, 0, 0, 0), (.getfield 45, 3, 5, 3, 192), (.if_icmp .ne 9, 3, 109, 0, 0)]),
  (103, [(.iinc 1 1, 3, 0, 0, 0), (.goto (-40), 3, 66, 0, 0)]),
  (109, [(.aload_n 0, 1, 0, 0, 0), (.iload_n 1, 1, 0, 0, 0), (.putfield 26, 3, 5, 5, 194), (.return_, 1, 0, 0, 0)])]
theorem ck_X5_step : en_ck 73 bs_X5_step = true := by decide +kernel
def bs_X5_kindOf : en_Bs := [
  (0, [(.iload_n 0, 1, 0, 0, 0), (.iconst (-1), 1, 0, 0, 0), (.if_icmp .ne 5, 3, 7, 0, 0)]),
  (5, [(.iconst 3, 1, 0, 0, 0), (.ireturn, 1, 0, 0, 0)]),
  (7, [(.iload_n 0, 1, 0, 0, 0), (.bipush 97, 2, 0, 0, 0), (.if_icmp .lt 13, 3, 23, 0, 0)]),
  (13, [(.iload_n 0, 1, 0, 0, 0), (.bipush 122, 2, 0, 0, 0), (.if_icmp .gt 7, 3, 23, 0, 0)]),
  (19, [(.iconst 0, 1, 0, 0, 0), (.goto 20, 3, 40, 0, 0)]),
  (23, [(.iload_n 0, 1, 0, 0, 0), (.bipush 48, 2, 0, 0, 0), (.if_icmp .lt 13, 3, 39, 0, 0)]),
  (29, [(.iload_n 0, 1, 0, 0, 0), (.bipush 57, 2, 0, 0, 0), (.if_icmp .gt 7, 3, 39, 0, 0)]),
  (35, [(.iconst 1, 1, 0, 0, 0), (.goto 4, 3, 40, 0, 0)]),
  (39, [(.iconst 2, 1, 0, 0, 0)]),
  (40, [(.ireturn, 1, 0, 0, 0)])]
theorem ck_X5_kindOf : en_ck 74 bs_X5_kindOf = true := by decide +kernel
def bs_X5_isSingle : en_Bs := [
  (0, [(.aload_n 0, 1, 0, 0, 0), (.getfield 45, 3, 5, 3, 192), (.iconst 2, 1, 0, 0, 0), (.if_icmp .ne 22, 3, 27, 0, 0)]),
  (8, [(.aload_n 0, 1, 0, 0, 0), (.getfield 22, 3, 5, 0, 187), (.aload_n 0, 1, 0, 0, 0), (.getfield 130, 3, 5, 4, 193), (.invokevirtual 136, 3, 94, 2, 605)]),
  (19, [(.iload_n 1, 1, 0, 0, 0), (.if_icmp .ne 7, 3, 27, 0, 0)]),
  (23, [(.iconst 1, 1, 0, 0, 0), (.goto 4, 3, 28, 0, 0)]),
  (27, [(.iconst 0, 1, 0, 0, 0)]),
  (28, [(.ireturn, 1, 0, 0, 0)])]
theorem ck_X5_isSingle : en_ck 75 bs_X5_isSingle = true := by decide +kernel
def bs_X5_isWord : en_Bs := [
  (0, [(.aload_n 0, 1, 0, 0, 0), (.getfield 45, 3, 5, 3, 192), (.ifCond .ne 19, 3, 23, 0, 0)]),
  (23, [(.iconst 0, 1, 0, 0, 0), (.ireturn, 1, 0, 0, 0)]),
  (25, [(.iconst 0, 1, 0, 0, 0), (.istore_n 2, 1, 0, 0, 0)]),
  (35, [(.aload_n 0, 1, 0, 0, 0), (.getfield 22, 3, 5, 0, 187), (.aload_n 0, 1, 0, 0, 0), (.getfield 130, 3, 5, 4, 193), (.iload_n 2, 1, 0, 0, 0), (.iadd, 1, 0, 0, 0), (.invokevirtual 136, 3, 94, 2, 605)]),
  (56, [(.iconst 0, 1, 0, 0, 0), (.ireturn, 1, 0, 0, 0)]),
  (58, [(.iinc 2 1, 3, 0, 0, 0), (.goto (-34), 3, 27, 0, 0)]),
  (64, [(.iconst 1, 1, 0, 0, 0), (.ireturn, 1, 0, 0, 0)])]
theorem ck_X5_isWord : en_ck 76 bs_X5_isWord = true := by decide +kernel
def bs_X5_numberHere : en_Bs := [
  (0, [(.iconst 0, 1, 0, 0, 0), (.istore_n 1, 1, 0, 0, 0), (.aload_n 0, 1, 0, 0, 0), (.getfield 130, 3, 5, 4, 193), (.istore_n 2, 1, 0, 0, 0)]),
  (7, [(.iload_n 2, 1, 0, 0, 0), (.aload_n 0, 1, 0, 0, 0), (.getfield 26, 3, 5, 5, 194), (.if_icmp .ge 33, 3, 45, 0, 0)]),
  (15, [(.iload_n 1, 1, 0, 0, 0), (.sipush 1000, 3, 0, 0, 0), (.if_icmp .gt 26, 3, 45, 0, 0)]),
  (22, [(.iload_n 1, 1, 0, 0, 0), (.bipush 10, 2, 0, 0, 0), (.imul, 1, 0, 0, 0), (.aload_n 0, 1, 0, 0, 0), (.getfield 22, 3, 5, 0, 187), (.iload_n 2, 1, 0, 0, 0), (.invokevirtual 136, 3, 94, 2, 605)]),
  (34, [(.iadd, 1, 0, 0, 0), (.bipush 48, 2, 0, 0, 0), (.isub, 1, 0, 0, 0), (.istore_n 1, 1, 0, 0, 0), (.iinc 2 1, 3, 0, 0, 0), (.goto (-35), 3, 7, 0, 0)]),
  (45, [(.iload_n 1, 1, 0, 0, 0), (.ireturn, 1, 0, 0, 0)])]
theorem ck_X5_numberHere : en_ck 77 bs_X5_numberHere = true := by decide +kernel
def bs_X5_wordHere : en_Bs := [
  (0, [(.iconst 0, 1, 0, 0, 0), (.istore_n 1, 1, 0, 0, 0)]),
  (2, [(.iload_n 1, 1, 0, 0, 0), (.bipush 9, 2, 0, 0, 0), (.if_icmp .ge 22, 3, 27, 0, 0)]),
  (8, [(.aload_n 0, 1, 0, 0, 0), (.iload_n 1, 1, 0, 0, 0), (.invokestatic 152, 3, 51, 1, 713)]),
  (13, [(.invokevirtual 53, 3, 76, 2, 614)]),
  (16, [(.ifCond .eq 5, 3, 21, 0, 0)]),
  (19, [(.iload_n 1, 1, 0, 0, 0), (.ireturn, 1, 0, 0, 0)]),
  (21, [(.iinc 1 1, 3, 0, 0, 0), (.goto (-22), 3, 2, 0, 0)]),
  (27, [(.iconst (-1), 1, 0, 0, 0), (.ireturn, 1, 0, 0, 0)])]
theorem ck_X5_wordHere : en_ck 78 bs_X5_wordHere = true := by decide +kernel
def bs_X6_init : en_Bs := [
  (0, [(.aload_n 0, 1, 0, 0, 0), (.invokespecial 3, 3, 900, 0, 342), (.aload_n 0, 1, 0, 0, 0), (.aload_n 1, 1, 0, 0, 0), (.putfield 9, 3, 6, 0, 343), (.aload_n 0, 1, 0, 0, 0), (.aload_n 2, 1, 0, 0, 0), (.putfield 15, 3, 6, 1, 344), (.return_, 1, 0, 0, 0)])]
theorem ck_X6_init : en_ck 79 bs_X6_init = true := by decide +kernel
def bs_X6_forget : en_Bs := [
  (0, [(.aload_n 0, 1, 0, 0, 0), (.iconst 0, 1, 0, 0, 0), (.putfield 19, 3, 6, 2, 345), (.return_, 1, 0, 0, 0)])]
theorem ck_X6_forget : en_ck 80 bs_X6_forget = true := by decide +kernel
def bs_X6_told : en_Bs := [
  (0, [(.aload_n 0, 1, 0, 0, 0), (.getfield 19, 3, 6, 2, 345), (.ifCond .ne 12, 3, 16, 0, 0)]),
  (7, [(.aload_n 0, 1, 0, 0, 0), (.iconst 1, 1, 0, 0, 0), (.putfield 19, 3, 6, 2, 345), (.aload_n 0, 1, 0, 0, 0), (.invokevirtual 23, 3, 82, 1, 989)]),
  (16, [(.iload_n 1, 1, 0, 0, 0), (.ifCond .ne 10, 3, 27, 0, 0)]),
  (20, [(.aload_n 0, 1, 0, 0, 0), (.getfield 26, 3, 6, 3, 346), (.goto 19, 3, 43, 0, 0)]),
  (27, [(.iload_n 1, 1, 0, 0, 0), (.iconst 1, 1, 0, 0, 0), (.if_icmp .ne 10, 3, 39, 0, 0)]),
  (32, [(.aload_n 0, 1, 0, 0, 0), (.getfield 30, 3, 6, 4, 347), (.goto 7, 3, 43, 0, 0)]),
  (39, [(.aload_n 0, 1, 0, 0, 0), (.getfield 33, 3, 6, 5, 348)]),
  (43, [(.ireturn, 1, 0, 0, 0)])]
theorem ck_X6_told : en_ck 81 bs_X6_told = true := by decide +kernel
def bs_X6_search : en_Bs := [
  (0, [(.aload_n 0, 1, 0, 0, 0), (.iconst 0, 1, 0, 0, 0), (.putfield 33, 3, 6, 5, 348), (.aload_n 0, 1, 0, 0, 0), (.iconst (-1), 1, 0, 0, 0), (.putfield 30, 3, 6, 4, 347), (.aload_n 0, 1, 0, 0, 0), (.iconst (-1), 1, 0, 0, 0), (.putfield 26, 3, 6, 3, 346), (.iconst 0, 1, 0, 0, 0), (.istore_n 1, 1, 0, 0, 0), (.iconst 0, 1, 0, 0, 0), (.istore_n 2, 1, 0, 0, 0)]),
  (19, [(.iload_n 2, 1, 0, 0, 0), (.aload_n 0, 1, 0, 0, 0), (.getfield 9, 3, 6, 0, 343), (.getfield 36, 3, 0, 4, 105), (.if_icmp .ge 35, 3, 62, 0, 0)]),
  (30, [(.iload_n 1, 1, 0, 0, 0), (.iconst 1, 1, 0, 0, 0), (.aload_n 0, 1, 0, 0, 0), (.getfield 9, 3, 6, 0, 343), (.iload_n 2, 1, 0, 0, 0), (.iconst 1, 1, 0, 0, 0), (.invokevirtual 41, 3, 11, 3, 993)]),
  (41, [(.ishl, 1, 0, 0, 0), (.iconst 1, 1, 0, 0, 0), (.aload_n 0, 1, 0, 0, 0), (.getfield 9, 3, 6, 0, 343), (.iload_n 2, 1, 0, 0, 0), (.iconst 2, 1, 0, 0, 0), (.invokevirtual 41, 3, 11, 3, 993)]),
  (52, [(.ishl, 1, 0, 0, 0), (.ior, 1, 0, 0, 0), (.ior, 1, 0, 0, 0), (.istore_n 1, 1, 0, 0, 0), (.iinc 2 1, 3, 0, 0, 0), (.goto (-40), 3, 19, 0, 0)]),
  (62, [(.iconst 1, 1, 0, 0, 0), (.aload_n 0, 1, 0, 0, 0), (.getfield 9, 3, 6, 0, 343), (.getfield 36, 3, 0, 4, 105), (.ishl, 1, 0, 0, 0), (.iconst 1, 1, 0, 0, 0), (.isub, 1, 0, 0, 0), (.istore_n 2, 1, 0, 0, 0), (.iconst 0, 1, 0, 0, 0), (.istore_n 3, 1, 0, 0, 0)]),
  (76, [(.iload_n 3, 1, 0, 0, 0), (.iconst 3, 1, 0, 0, 0), (.if_icmp .gt 115, 3, 193, 0, 0)]),
  (81, [(.aload_n 0, 1, 0, 0, 0), (.getfield 33, 3, 6, 5, 348), (.ifCond .ne 108, 3, 193, 0, 0)]),
  (88, [(.iconst 0, 1, 0, 0, 0), (.istore 4, 2, 0, 0, 0)]),
  (91, [(.iload 4, 2, 0, 0, 0), (.iconst 1, 1, 0, 0, 0), (.aload_n 0, 1, 0, 0, 0), (.getfield 9, 3, 6, 0, 343), (.getfield 45, 3, 0, 0, 89), (.ishl, 1, 0, 0, 0), (.if_icmp .ge 85, 3, 187, 0, 0)]),
  (105, [(.iload 4, 2, 0, 0, 0), (.invokestatic 48, 3, 265, 1, 994)]),
  (110, [(.iload_n 3, 1, 0, 0, 0), (.if_icmp .ne 70, 3, 181, 0, 0)]),
  (114, [(.iload 4, 2, 0, 0, 0), (.iload_n 1, 1, 0, 0, 0), (.iand, 1, 0, 0, 0), (.ifCond .eq 6, 3, 124, 0, 0)]),
  (121, [(.goto 60, 3, 181, 0, 0)]),
  (124, [(.aload_n 0, 1, 0, 0, 0), (.getfield 15, 3, 6, 1, 344), (.iload 4, 2, 0, 0, 0), (.invokevirtual 54, 3, 16, 2, 1000)]),
  (133, [(.aload_n 0, 1, 0, 0, 0), (.getfield 15, 3, 6, 1, 344), (.iload_n 2, 1, 0, 0, 0), (.bipush 99, 2, 0, 0, 0), (.invokevirtual 60, 3, 19, 3, 1001)]),
  (143, [(.ifCond .eq 38, 3, 181, 0, 0)]),
  (146, [(.aload_n 0, 1, 0, 0, 0), (.aload_n 0, 1, 0, 0, 0), (.getfield 33, 3, 6, 5, 348), (.ifCond .ne 8, 3, 159, 0, 0)]),
  (154, [(.iload 4, 2, 0, 0, 0), (.goto 7, 3, 163, 0, 0)]),
  (159, [(.aload_n 0, 1, 0, 0, 0), (.getfield 30, 3, 6, 4, 347)]),
  (163, [(.putfield 30, 3, 6, 4, 347), (.aload_n 0, 1, 0, 0, 0), (.iload_n 3, 1, 0, 0, 0), (.putfield 26, 3, 6, 3, 346), (.aload_n 0, 1, 0, 0, 0), (.dup, 1, 0, 0, 0), (.getfield 33, 3, 6, 5, 348), (.iconst 1, 1, 0, 0, 0), (.iadd, 1, 0, 0, 0), (.putfield 33, 3, 6, 5, 348)]),
  (181, [(.iinc 4 1, 3, 0, 0, 0), (.goto (-93), 3, 91, 0, 0)]),
  (187, [(.iinc 3 1, 3, 0, 0, 0), (.goto (-114), 3, 76, 0, 0)]),
  (193, [(.return_, 1, 0, 0, 0)])]
theorem ck_X6_search : en_ck 82 bs_X6_search = true := by decide +kernel
def bs_X7_init : en_Bs := [
  (0, [(.aload_n 0, 1, 0, 0, 0), (.invokespecial 3, 3, 900, 0, 317), (.aload_n 0, 1, 0, 0, 0), (.iconst (-1), 1, 0, 0, 0), (.putfield 11, 3, 7, 2, 320), (.aload_n 0, 1, 0, 0, 0), (.iconst 4, 1, 0, 0, 0), (.newarray .int, 2, 0, 0, 0), (.putfield 15, 3, 7, 5, 323), (.aload_n 0, 1, 0, 0, 0), (.aload_n 1, 1, 0, 0, 0), (.putfield 19, 3, 7, 0, 318), (.aload_n 0, 1, 0, 0, 0), (.aload_n 2, 1, 0, 0, 0), (.putfield 23, 3, 7, 1, 319), (.return_, 1, 0, 0, 0)])]
theorem ck_X7_init : en_ck 83 bs_X7_init = true := by decide +kernel
def bs_X7_forget : en_Bs := [
  (0, [(.aload_n 0, 1, 0, 0, 0), (.iconst (-1), 1, 0, 0, 0), (.putfield 11, 3, 7, 2, 320), (.return_, 1, 0, 0, 0)])]
theorem ck_X7_forget : en_ck 84 bs_X7_forget = true := by decide +kernel
def bs_X7_told : en_Bs := [
  (0, [(.aload_n 0, 1, 0, 0, 0), (.getfield 11, 3, 7, 2, 320), (.iload_n 1, 1, 0, 0, 0), (.if_icmp .eq 74, 3, 79, 0, 0)]),
  (8, [(.aload_n 0, 1, 0, 0, 0), (.iload_n 1, 1, 0, 0, 0), (.putfield 11, 3, 7, 2, 320), (.aload_n 0, 1, 0, 0, 0), (.iconst 0, 1, 0, 0, 0), (.putfield 27, 3, 7, 4, 322), (.aload_n 0, 1, 0, 0, 0), (.getfield 23, 3, 7, 1, 319), (.iconst 0, 1, 0, 0, 0), (.invokevirtual 30, 3, 16, 2, 929)]),
  (26, [(.aload_n 0, 1, 0, 0, 0), (.iconst 0, 1, 0, 0, 0), (.putfield 36, 3, 7, 3, 321), (.aload_n 0, 1, 0, 0, 0), (.invokevirtual 39, 3, 86, 1, 930)]),
  (35, [(.aload_n 0, 1, 0, 0, 0), (.getfield 27, 3, 7, 4, 322), (.ifCond .ne 12, 3, 51, 0, 0)]),
  (42, [(.aload_n 0, 1, 0, 0, 0), (.iconst 1, 1, 0, 0, 0), (.putfield 36, 3, 7, 3, 321), (.aload_n 0, 1, 0, 0, 0), (.invokevirtual 42, 3, 87, 1, 958)]),
  (51, [(.aload_n 0, 1, 0, 0, 0), (.getfield 27, 3, 7, 4, 322), (.ifCond .ne 12, 3, 67, 0, 0)]),
  (58, [(.aload_n 0, 1, 0, 0, 0), (.iconst 2, 1, 0, 0, 0), (.putfield 36, 3, 7, 3, 321), (.aload_n 0, 1, 0, 0, 0), (.invokevirtual 45, 3, 88, 1, 969)]),
  (67, [(.aload_n 0, 1, 0, 0, 0), (.getfield 27, 3, 7, 4, 322), (.ifCond .ne 8, 3, 79, 0, 0)]),
  (74, [(.aload_n 0, 1, 0, 0, 0), (.iconst (-1), 1, 0, 0, 0), (.putfield 36, 3, 7, 3, 321)]),
  (79, [(.iload_n 2, 1, 0, 0, 0), (.ifCond .ne 8, 3, 88, 0, 0)]),
  (83, [(.aload_n 0, 1, 0, 0, 0), (.getfield 36, 3, 7, 3, 321), (.ireturn, 1, 0, 0, 0)]),
  (88, [(.iload_n 2, 1, 0, 0, 0), (.iconst 5, 1, 0, 0, 0), (.if_icmp .ne 8, 3, 98, 0, 0)]),
  (93, [(.aload_n 0, 1, 0, 0, 0), (.getfield 27, 3, 7, 4, 322), (.ireturn, 1, 0, 0, 0)]),
  (98, [(.iload_n 2, 1, 0, 0, 0), (.iconst 1, 1, 0, 0, 0), (.if_icmp .lt 29, 3, 129, 0, 0)]),
  (103, [(.iload_n 2, 1, 0, 0, 0), (.iconst 4, 1, 0, 0, 0), (.if_icmp .gt 24, 3, 129, 0, 0)]),
  (108, [(.iload_n 2, 1, 0, 0, 0), (.iconst 2, 1, 0, 0, 0), (.aload_n 0, 1, 0, 0, 0), (.getfield 36, 3, 7, 3, 321), (.imul, 1, 0, 0, 0), (.if_icmp .gt 14, 3, 129, 0, 0)]),
  (118, [(.aload_n 0, 1, 0, 0, 0), (.getfield 15, 3, 7, 5, 323), (.iload_n 2, 1, 0, 0, 0), (.iconst 1, 1, 0, 0, 0), (.isub, 1, 0, 0, 0), (.iaload, 1, 0, 0, 0), (.goto 4, 3, 130, 0, 0)]),
  (129, [(.iconst (-1), 1, 0, 0, 0)]),
  (130, [(.ireturn, 1, 0, 0, 0)])]
theorem ck_X7_told : en_ck 85 bs_X7_told = true := by decide +kernel
def bs_X7_tryNone : en_Bs := [
  (0, [(.aload_n 0, 1, 0, 0, 0), (.getfield 23, 3, 7, 1, 319), (.aload_n 0, 1, 0, 0, 0), (.getfield 11, 3, 7, 2, 320), (.aload_n 0, 1, 0, 0, 0), (.getfield 19, 3, 7, 0, 318), (.getfield 48, 3, 0, 10, 116), (.invokevirtual 53, 3, 19, 3, 934)]),
  (18, [(.ifCond .eq 12, 3, 30, 0, 0)]),
  (21, [(.aload_n 0, 1, 0, 0, 0), (.iconst (-1), 1, 0, 0, 0), (.iconst (-1), 1, 0, 0, 0), (.iconst (-1), 1, 0, 0, 0), (.iconst (-1), 1, 0, 0, 0), (.iconst 1, 1, 0, 0, 0), (.invokevirtual 57, 3, 91, 6, 954)]),
  (30, [(.return_, 1, 0, 0, 0)])]
theorem ck_X7_tryNone : en_ck 86 bs_X7_tryNone = true := by decide +kernel
def bs_X7_tryOne : en_Bs := [
  (0, [(.iconst 0, 1, 0, 0, 0), (.istore_n 1, 1, 0, 0, 0)]),
  (2, [(.iload_n 1, 1, 0, 0, 0), (.aload_n 0, 1, 0, 0, 0), (.getfield 19, 3, 7, 0, 318), (.getfield 61, 3, 0, 0, 90), (.if_icmp .ge 72, 3, 82, 0, 0)]),
  (13, [(.iload_n 1, 1, 0, 0, 0), (.iconst 1, 1, 0, 0, 0), (.iadd, 1, 0, 0, 0), (.istore_n 2, 1, 0, 0, 0)]),
  (17, [(.iload_n 2, 1, 0, 0, 0), (.aload_n 0, 1, 0, 0, 0), (.getfield 19, 3, 7, 0, 318), (.getfield 61, 3, 0, 0, 90), (.if_icmp .ge 51, 3, 76, 0, 0)]),
  (28, [(.aload_n 0, 1, 0, 0, 0), (.iload_n 1, 1, 0, 0, 0), (.iload_n 2, 1, 0, 0, 0), (.invokevirtual 64, 3, 90, 3, 962)]),
  (34, [(.aload_n 0, 1, 0, 0, 0), (.getfield 23, 3, 7, 1, 319), (.aload_n 0, 1, 0, 0, 0), (.getfield 11, 3, 7, 2, 320), (.aload_n 0, 1, 0, 0, 0), (.getfield 19, 3, 7, 0, 318), (.getfield 48, 3, 0, 10, 116), (.invokevirtual 53, 3, 19, 3, 934)]),
  (52, [(.ifCond .eq 12, 3, 64, 0, 0)]),
  (55, [(.aload_n 0, 1, 0, 0, 0), (.iload_n 1, 1, 0, 0, 0), (.iload_n 2, 1, 0, 0, 0), (.iconst (-1), 1, 0, 0, 0), (.iconst (-1), 1, 0, 0, 0), (.iconst 1, 1, 0, 0, 0), (.invokevirtual 57, 3, 91, 6, 954)]),
  (64, [(.aload_n 0, 1, 0, 0, 0), (.iload_n 1, 1, 0, 0, 0), (.iload_n 2, 1, 0, 0, 0), (.invokevirtual 64, 3, 90, 3, 962)]),
  (70, [(.iinc 2 1, 3, 0, 0, 0), (.goto (-56), 3, 17, 0, 0)]),
  (76, [(.iinc 1 1, 3, 0, 0, 0), (.goto (-77), 3, 2, 0, 0)]),
  (82, [(.return_, 1, 0, 0, 0)])]
theorem ck_X7_tryOne : en_ck 87 bs_X7_tryOne = true := by decide +kernel
def bs_X7_tryTwo : en_Bs := [
  (0, [(.iconst 0, 1, 0, 0, 0), (.istore_n 1, 1, 0, 0, 0)]),
  (2, [(.iload_n 1, 1, 0, 0, 0), (.aload_n 0, 1, 0, 0, 0), (.getfield 19, 3, 7, 0, 318), (.getfield 61, 3, 0, 0, 90), (.if_icmp .ge 145, 3, 155, 0, 0)]),
  (13, [(.iload_n 1, 1, 0, 0, 0), (.iconst 1, 1, 0, 0, 0), (.iadd, 1, 0, 0, 0), (.istore_n 2, 1, 0, 0, 0)]),
  (17, [(.iload_n 2, 1, 0, 0, 0), (.aload_n 0, 1, 0, 0, 0), (.getfield 19, 3, 7, 0, 318), (.getfield 61, 3, 0, 0, 90), (.if_icmp .ge 124, 3, 149, 0, 0)]),
  (28, [(.aload_n 0, 1, 0, 0, 0), (.iload_n 1, 1, 0, 0, 0), (.iload_n 2, 1, 0, 0, 0), (.invokevirtual 64, 3, 90, 3, 962)]),
  (34, [(.iload_n 1, 1, 0, 0, 0), (.istore_n 3, 1, 0, 0, 0)]),
  (36, [(.iload_n 3, 1, 0, 0, 0), (.aload_n 0, 1, 0, 0, 0), (.getfield 19, 3, 7, 0, 318), (.getfield 61, 3, 0, 0, 90), (.if_icmp .ge 93, 3, 137, 0, 0)]),
  (47, [(.iload_n 3, 1, 0, 0, 0), (.iconst 1, 1, 0, 0, 0), (.iadd, 1, 0, 0, 0), (.istore 4, 2, 0, 0, 0)]),
  (52, [(.iload 4, 2, 0, 0, 0), (.aload_n 0, 1, 0, 0, 0), (.getfield 19, 3, 7, 0, 318), (.getfield 61, 3, 0, 0, 90), (.if_icmp .ge 70, 3, 131, 0, 0)]),
  (64, [(.iload_n 1, 1, 0, 0, 0), (.iload_n 2, 1, 0, 0, 0), (.iload_n 3, 1, 0, 0, 0), (.iload 4, 2, 0, 0, 0), (.invokestatic 68, 3, 89, 4, 973)]),
  (72, [(.istore 5, 2, 0, 0, 0), (.aload_n 0, 1, 0, 0, 0), (.iload_n 3, 1, 0, 0, 0), (.iload 4, 2, 0, 0, 0), (.invokevirtual 64, 3, 90, 3, 962)]),
  (81, [(.iload 5, 2, 0, 0, 0), (.ifCond .le 35, 3, 118, 0, 0)]),
  (86, [(.aload_n 0, 1, 0, 0, 0), (.getfield 23, 3, 7, 1, 319), (.aload_n 0, 1, 0, 0, 0), (.getfield 11, 3, 7, 2, 320), (.aload_n 0, 1, 0, 0, 0), (.getfield 19, 3, 7, 0, 318), (.getfield 48, 3, 0, 10, 116), (.invokevirtual 53, 3, 19, 3, 934)]),
  (104, [(.ifCond .eq 14, 3, 118, 0, 0)]),
  (107, [(.aload_n 0, 1, 0, 0, 0), (.iload_n 1, 1, 0, 0, 0), (.iload_n 2, 1, 0, 0, 0), (.iload_n 3, 1, 0, 0, 0), (.iload 4, 2, 0, 0, 0), (.iload 5, 2, 0, 0, 0), (.invokevirtual 57, 3, 91, 6, 954)]),
  (118, [(.aload_n 0, 1, 0, 0, 0), (.iload_n 3, 1, 0, 0, 0), (.iload 4, 2, 0, 0, 0), (.invokevirtual 64, 3, 90, 3, 962)]),
  (125, [(.iinc 4 1, 3, 0, 0, 0), (.goto (-76), 3, 52, 0, 0)]),
  (131, [(.iinc 3 1, 3, 0, 0, 0), (.goto (-98), 3, 36, 0, 0)]),
  (137, [(.aload_n 0, 1, 0, 0, 0), (.iload_n 1, 1, 0, 0, 0), (.iload_n 2, 1, 0, 0, 0), (.invokevirtual 64, 3, 90, 3, 962)]),
  (143, [(.iinc 2 1, 3, 0, 0, 0), (.goto (-129), 3, 17, 0, 0)]),
  (149, [(.iinc 1 1, 3, 0, 0, 0), (.goto (-150), 3, 2, 0, 0)]),
  (155, [(.return_, 1, 0, 0, 0)])]
theorem ck_X7_tryTwo : en_ck 88 bs_X7_tryTwo = true := by decide +kernel
def bs_X7_rowsLike : en_Bs := [
  (0, [(.iload_n 2, 1, 0, 0, 0), (.iload_n 0, 1, 0, 0, 0), (.if_icmp .ne 14, 3, 16, 0, 0)]),
  (5, [(.iload_n 3, 1, 0, 0, 0), (.iload_n 1, 1, 0, 0, 0), (.if_icmp .le 7, 3, 14, 0, 0)]),
  (10, [(.iconst 3, 1, 0, 0, 0), (.goto 4, 3, 15, 0, 0)]),
  (14, [(.iconst 0, 1, 0, 0, 0)]),
  (15, [(.ireturn, 1, 0, 0, 0)]),
  (16, [(.iload_n 2, 1, 0, 0, 0), (.iload_n 1, 1, 0, 0, 0), (.if_icmp .ne 5, 3, 23, 0, 0)]),
  (21, [(.iconst 3, 1, 0, 0, 0), (.ireturn, 1, 0, 0, 0)]),
  (23, [(.iload_n 3, 1, 0, 0, 0), (.iload_n 1, 1, 0, 0, 0), (.if_icmp .ne 7, 3, 32, 0, 0)]),
  (28, [(.iconst 0, 1, 0, 0, 0), (.goto 13, 3, 42, 0, 0)]),
  (32, [(.iload_n 2, 1, 0, 0, 0), (.iload_n 0, 1, 0, 0, 0), (.if_icmp .le 7, 3, 41, 0, 0)]),
  (37, [(.iconst 2, 1, 0, 0, 0), (.goto 4, 3, 42, 0, 0)]),
  (41, [(.iconst 0, 1, 0, 0, 0)]),
  (42, [(.ireturn, 1, 0, 0, 0)])]
theorem ck_X7_rowsLike : en_ck 89 bs_X7_rowsLike = true := by decide +kernel
def bs_X7_change : en_Bs := [
  (0, [(.aload_n 0, 1, 0, 0, 0), (.getfield 23, 3, 7, 1, 319), (.getfield 72, 3, 1, 2, 250), (.iload_n 1, 1, 0, 0, 0), (.iload_n 2, 1, 0, 0, 0), (.invokestatic 75, 3, 157, 3, 5008)]),
  (12, [(.aload_n 0, 1, 0, 0, 0), (.getfield 23, 3, 7, 1, 319), (.getfield 79, 3, 1, 3, 253), (.iload_n 1, 1, 0, 0, 0), (.iload_n 2, 1, 0, 0, 0), (.invokestatic 75, 3, 157, 3, 5008)]),
  (24, [(.return_, 1, 0, 0, 0)])]
theorem ck_X7_change : en_ck 90 bs_X7_change = true := by decide +kernel
def bs_X7_found : en_Bs := [
  (0, [(.aload_n 0, 1, 0, 0, 0), (.getfield 27, 3, 7, 4, 322), (.ifCond .ne 32, 3, 36, 0, 0)]),
  (7, [(.aload_n 0, 1, 0, 0, 0), (.getfield 15, 3, 7, 5, 323), (.iconst 0, 1, 0, 0, 0), (.iload_n 1, 1, 0, 0, 0), (.iastore, 1, 0, 0, 0), (.aload_n 0, 1, 0, 0, 0), (.getfield 15, 3, 7, 5, 323), (.iconst 1, 1, 0, 0, 0), (.iload_n 2, 1, 0, 0, 0), (.iastore, 1, 0, 0, 0), (.aload_n 0, 1, 0, 0, 0), (.getfield 15, 3, 7, 5, 323), (.iconst 2, 1, 0, 0, 0), (.iload_n 3, 1, 0, 0, 0), (.iastore, 1, 0, 0, 0), (.aload_n 0, 1, 0, 0, 0), (.getfield 15, 3, 7, 5, 323), (.iconst 3, 1, 0, 0, 0), (.iload 4, 2, 0, 0, 0), (.iastore, 1, 0, 0, 0)]),
  (36, [(.aload_n 0, 1, 0, 0, 0), (.dup, 1, 0, 0, 0), (.getfield 27, 3, 7, 4, 322), (.iload 5, 2, 0, 0, 0), (.iadd, 1, 0, 0, 0), (.putfield 27, 3, 7, 4, 322), (.return_, 1, 0, 0, 0)])]
theorem ck_X7_found : en_ck 91 bs_X7_found = true := by decide +kernel
def bs_X8_init : en_Bs := [
  (0, [(.aload_n 0, 1, 0, 0, 0), (.invokespecial 3, 3, 900, 0, 168), (.aload_n 0, 1, 0, 0, 0), (.sipush 400, 3, 0, 0, 0), (.newarray .int, 2, 0, 0, 0), (.putfield 9, 3, 8, 0, 169), (.return_, 1, 0, 0, 0)])]
theorem ck_X8_init : en_ck 92 bs_X8_init = true := by decide +kernel
def bs_X8_append : en_Bs := [
  (0, [(.bipush 24, 2, 0, 0, 0), (.istore_n 2, 1, 0, 0, 0)]),
  (3, [(.iload_n 2, 1, 0, 0, 0), (.ifCond .lt 45, 3, 49, 0, 0)]),
  (7, [(.aload_n 0, 1, 0, 0, 0), (.getfield 15, 3, 8, 1, 170), (.sipush 400, 3, 0, 0, 0), (.if_icmp .ge 35, 3, 49, 0, 0)]),
  (17, [(.aload_n 0, 1, 0, 0, 0), (.getfield 9, 3, 8, 0, 169), (.aload_n 0, 1, 0, 0, 0), (.getfield 15, 3, 8, 1, 170), (.iload_n 1, 1, 0, 0, 0), (.iload_n 2, 1, 0, 0, 0), (.iushr, 1, 0, 0, 0), (.sipush 255, 3, 0, 0, 0), (.iand, 1, 0, 0, 0), (.iastore, 1, 0, 0, 0), (.aload_n 0, 1, 0, 0, 0), (.dup, 1, 0, 0, 0), (.getfield 15, 3, 8, 1, 170), (.iconst 1, 1, 0, 0, 0), (.iadd, 1, 0, 0, 0), (.putfield 15, 3, 8, 1, 170), (.iinc 2 (-8), 3, 0, 0, 0), (.goto (-43), 3, 3, 0, 0)]),
  (49, [(.return_, 1, 0, 0, 0)])]
theorem ck_X8_append : en_ck 93 bs_X8_append = true := by decide +kernel
def bs_X8_at : en_Bs := [
  (0, [(.iload_n 1, 1, 0, 0, 0), (.ifCond .lt 27, 3, 28, 0, 0)]),
  (4, [(.iload_n 1, 1, 0, 0, 0), (.aload_n 0, 1, 0, 0, 0), (.getfield 15, 3, 8, 1, 170), (.if_icmp .ge 19, 3, 28, 0, 0)]),
  (12, [(.iload_n 1, 1, 0, 0, 0), (.sipush 400, 3, 0, 0, 0), (.if_icmp .ge 12, 3, 28, 0, 0)]),
  (19, [(.aload_n 0, 1, 0, 0, 0), (.getfield 9, 3, 8, 0, 169), (.iload_n 1, 1, 0, 0, 0), (.iaload, 1, 0, 0, 0), (.goto 4, 3, 29, 0, 0)]),
  (28, [(.iconst (-1), 1, 0, 0, 0)]),
  (29, [(.ireturn, 1, 0, 0, 0)])]
theorem ck_X8_at : en_ck 94 bs_X8_at = true := by decide +kernel
def bs_X9_init : en_Bs := [
  (0, [(.aload_n 0, 1, 0, 0, 0), (.invokespecial 3, 3, 900, 0, 216), (.aload_n 0, 1, 0, 0, 0), (.aload_n 1, 1, 0, 0, 0), (.putfield 9, 3, 9, 0, 217), (.return_, 1, 0, 0, 0)])]
theorem ck_X9_init : en_ck 95 bs_X9_init = true := by decide +kernel
def bs_X9_standOf : en_Bs := [
  (0, [(.iload_n 2, 1, 0, 0, 0), (.iconst 0, 1, 0, 0, 0), (.aload_n 0, 1, 0, 0, 0), (.getfield 9, 3, 9, 0, 217), (.iload_n 1, 1, 0, 0, 0), (.invokevirtual 15, 3, 14, 2, 773)]),
  (10, [(.invokestatic 21, 3, 154, 3, 5003)]),
  (13, [(.ifCond .eq 20, 3, 33, 0, 0)]),
  (16, [(.aload_n 0, 1, 0, 0, 0), (.aload_n 0, 1, 0, 0, 0), (.getfield 9, 3, 9, 0, 217), (.iload_n 1, 1, 0, 0, 0), (.iconst 1, 1, 0, 0, 0), (.invokevirtual 25, 3, 11, 3, 775)]),
  (26, [(.iload_n 2, 1, 0, 0, 0), (.invokevirtual 29, 3, 102, 3, 776)]),
  (30, [(.goto 4, 3, 34, 0, 0)]),
  (33, [(.iconst (-1), 1, 0, 0, 0)]),
  (34, [(.ireturn, 1, 0, 0, 0)])]
theorem ck_X9_standOf : en_ck 96 bs_X9_standOf = true := by decide +kernel
def bs_X9_comersTo : en_Bs := [
  (0, [(.iconst 0, 1, 0, 0, 0), (.istore_n 3, 1, 0, 0, 0), (.iconst 0, 1, 0, 0, 0), (.istore 4, 2, 0, 0, 0)]),
  (5, [(.iload 4, 2, 0, 0, 0), (.aload_n 0, 1, 0, 0, 0), (.getfield 9, 3, 9, 0, 217), (.getfield 32, 3, 0, 0, 88), (.if_icmp .ge 82, 3, 96, 0, 0)]),
  (17, [(.iload 4, 2, 0, 0, 0), (.istore 5, 2, 0, 0, 0), (.iconst 0, 1, 0, 0, 0), (.istore 6, 2, 0, 0, 0)]),
  (24, [(.iload 6, 2, 0, 0, 0), (.bipush 12, 2, 0, 0, 0), (.if_icmp .ge 41, 3, 69, 0, 0)]),
  (31, [(.iload 5, 2, 0, 0, 0), (.iconst (-1), 1, 0, 0, 0), (.if_icmp .eq 35, 3, 69, 0, 0)]),
  (37, [(.iload 5, 2, 0, 0, 0), (.iload_n 1, 1, 0, 0, 0), (.if_icmp .eq 29, 3, 69, 0, 0)]),
  (43, [(.iload_n 2, 1, 0, 0, 0), (.iload 5, 2, 0, 0, 0), (.invokestatic 36, 3, 155, 2, 5004)]),
  (49, [(.ifCond .ne 20, 3, 69, 0, 0)]),
  (52, [(.aload_n 0, 1, 0, 0, 0), (.getfield 9, 3, 9, 0, 217), (.iload 5, 2, 0, 0, 0), (.invokevirtual 40, 3, 12, 2, 780)]),
  (61, [(.istore 5, 2, 0, 0, 0), (.iinc 6 1, 3, 0, 0, 0), (.goto (-42), 3, 24, 0, 0)]),
  (69, [(.iload 5, 2, 0, 0, 0), (.iload_n 1, 1, 0, 0, 0), (.if_icmp .ne 18, 3, 90, 0, 0)]),
  (75, [(.iload_n 2, 1, 0, 0, 0), (.iload_n 1, 1, 0, 0, 0), (.invokestatic 36, 3, 155, 2, 5004)]),
  (80, [(.ifCond .ne 10, 3, 90, 0, 0)]),
  (83, [(.iload_n 3, 1, 0, 0, 0), (.iconst 1, 1, 0, 0, 0), (.iload 4, 2, 0, 0, 0), (.ishl, 1, 0, 0, 0), (.ior, 1, 0, 0, 0), (.istore_n 3, 1, 0, 0, 0)]),
  (90, [(.iinc 4 1, 3, 0, 0, 0), (.goto (-88), 3, 5, 0, 0)]),
  (96, [(.iload_n 3, 1, 0, 0, 0), (.ireturn, 1, 0, 0, 0)])]
theorem ck_X9_comersTo : en_ck 97 bs_X9_comersTo = true := by decide +kernel
end
section
def bs_X9_suspects : en_Bs := [
  (0, [(.iconst 0, 1, 0, 0, 0), (.istore_n 1, 1, 0, 0, 0), (.iconst 0, 1, 0, 0, 0), (.istore_n 2, 1, 0, 0, 0)]),
  (4, [(.iload_n 2, 1, 0, 0, 0), (.aload_n 0, 1, 0, 0, 0), (.getfield 9, 3, 9, 0, 217), (.getfield 32, 3, 0, 0, 88), (.if_icmp .ge 23, 3, 35, 0, 0)]),
  (15, [(.aload_n 0, 1, 0, 0, 0), (.iload_n 2, 1, 0, 0, 0), (.invokevirtual 43, 3, 99, 2, 1114)]),
  (20, [(.ifCond .eq 9, 3, 29, 0, 0)]),
  (23, [(.iload_n 1, 1, 0, 0, 0), (.iconst 1, 1, 0, 0, 0), (.iload_n 2, 1, 0, 0, 0), (.ishl, 1, 0, 0, 0), (.ior, 1, 0, 0, 0), (.istore_n 1, 1, 0, 0, 0)]),
  (29, [(.iinc 2 1, 3, 0, 0, 0), (.goto (-28), 3, 4, 0, 0)]),
  (35, [(.iload_n 1, 1, 0, 0, 0), (.ireturn, 1, 0, 0, 0)])]
theorem ck_X9_suspects : en_ck 98 bs_X9_suspects = true := by decide +kernel
def bs_X9_fitsSigns : en_Bs := [
  (0, [(.iconst 0, 1, 0, 0, 0), (.istore_n 2, 1, 0, 0, 0)]),
  (2, [(.iload_n 2, 1, 0, 0, 0), (.aload_n 0, 1, 0, 0, 0), (.getfield 9, 3, 9, 0, 217), (.getfield 47, 3, 0, 12, 123), (.if_icmp .ge 43, 3, 53, 0, 0)]),
  (13, [(.iload_n 2, 1, 0, 0, 0), (.bipush 8, 2, 0, 0, 0), (.if_icmp .ge 37, 3, 53, 0, 0)]),
  (19, [(.aload_n 0, 1, 0, 0, 0), (.iload_n 1, 1, 0, 0, 0), (.aload_n 0, 1, 0, 0, 0), (.getfield 9, 3, 9, 0, 217), (.getfield 50, 3, 0, 14, 129), (.iload_n 2, 1, 0, 0, 0), (.iaload, 1, 0, 0, 0), (.invokevirtual 29, 3, 102, 3, 776)]),
  (33, [(.aload_n 0, 1, 0, 0, 0), (.getfield 9, 3, 9, 0, 217), (.getfield 54, 3, 0, 13, 126), (.iload_n 2, 1, 0, 0, 0), (.iaload, 1, 0, 0, 0), (.if_icmp .eq 5, 3, 47, 0, 0)]),
  (45, [(.iconst 0, 1, 0, 0, 0), (.ireturn, 1, 0, 0, 0)]),
  (47, [(.iinc 2 1, 3, 0, 0, 0), (.goto (-48), 3, 2, 0, 0)]),
  (53, [(.iconst 1, 1, 0, 0, 0), (.ireturn, 1, 0, 0, 0)])]
theorem ck_X9_fitsSigns : en_ck 99 bs_X9_fitsSigns = true := by decide +kernel
def bs_X9_meeting : en_Bs := [
  (0, [(.iload_n 1, 1, 0, 0, 0), (.istore 4, 2, 0, 0, 0), (.iload_n 2, 1, 0, 0, 0), (.istore 5, 2, 0, 0, 0), (.iconst 0, 1, 0, 0, 0), (.istore 6, 2, 0, 0, 0)]),
  (9, [(.iload 6, 2, 0, 0, 0), (.sipush 144, 3, 0, 0, 0), (.if_icmp .gt 62, 3, 76, 0, 0)]),
  (17, [(.iload 4, 2, 0, 0, 0), (.iconst (-1), 1, 0, 0, 0), (.if_icmp .eq 56, 3, 76, 0, 0)]),
  (23, [(.iload 5, 2, 0, 0, 0), (.iconst (-1), 1, 0, 0, 0), (.if_icmp .eq 50, 3, 76, 0, 0)]),
  (29, [(.iload 4, 2, 0, 0, 0), (.iload 5, 2, 0, 0, 0), (.if_icmp .ne 15, 3, 48, 0, 0)]),
  (36, [(.iload_n 3, 1, 0, 0, 0), (.ifCond .ne 8, 3, 45, 0, 0)]),
  (40, [(.iload 6, 2, 0, 0, 0), (.goto 5, 3, 47, 0, 0)]),
  (45, [(.iload 4, 2, 0, 0, 0)]),
  (47, [(.ireturn, 1, 0, 0, 0)]),
  (48, [(.aload_n 0, 1, 0, 0, 0), (.getfield 9, 3, 9, 0, 217), (.iload 4, 2, 0, 0, 0), (.invokevirtual 40, 3, 12, 2, 780)]),
  (57, [(.istore 4, 2, 0, 0, 0), (.aload_n 0, 1, 0, 0, 0), (.getfield 9, 3, 9, 0, 217), (.iload 5, 2, 0, 0, 0), (.invokevirtual 40, 3, 12, 2, 780)]),
  (68, [(.istore 5, 2, 0, 0, 0), (.iinc 6 1, 3, 0, 0, 0), (.goto (-64), 3, 9, 0, 0)]),
  (76, [(.iconst (-1), 1, 0, 0, 0), (.ireturn, 1, 0, 0, 0)])]
theorem ck_X9_meeting : en_ck 100 bs_X9_meeting = true := by decide +kernel
def bs_X9_minutesInPieces : en_Bs := [
  (0, [(.aload_n 0, 1, 0, 0, 0), (.getfield 9, 3, 9, 0, 217), (.iload_n 1, 1, 0, 0, 0), (.invokevirtual 15, 3, 14, 2, 773)]),
  (8, [(.istore_n 2, 1, 0, 0, 0), (.aload_n 0, 1, 0, 0, 0), (.getfield 9, 3, 9, 0, 217), (.iload_n 1, 1, 0, 0, 0), (.iconst 1, 1, 0, 0, 0), (.invokevirtual 25, 3, 11, 3, 775)]),
  (18, [(.istore_n 3, 1, 0, 0, 0), (.bipush 9, 2, 0, 0, 0), (.istore 4, 2, 0, 0, 0), (.iconst 0, 1, 0, 0, 0), (.istore 5, 2, 0, 0, 0)]),
  (26, [(.iload 5, 2, 0, 0, 0), (.iload_n 2, 1, 0, 0, 0), (.if_icmp .ge 45, 3, 74, 0, 0)]),
  (32, [(.aload_n 0, 1, 0, 0, 0), (.getfield 9, 3, 9, 0, 217), (.iload_n 3, 1, 0, 0, 0), (.invokevirtual 57, 3, 3, 2, 1096)]),
  (40, [(.ifCond .eq 34, 3, 74, 0, 0)]),
  (43, [(.iload 4, 2, 0, 0, 0), (.aload_n 0, 1, 0, 0, 0), (.getfield 9, 3, 9, 0, 217), (.getfield 60, 3, 0, 2, 97), (.iload_n 3, 1, 0, 0, 0), (.iaload, 1, 0, 0, 0), (.invokestatic 63, 3, 903, 0, 1097), (.istore 4, 2, 0, 0, 0), (.aload_n 0, 1, 0, 0, 0), (.getfield 9, 3, 9, 0, 217), (.iload_n 3, 1, 0, 0, 0), (.invokevirtual 40, 3, 12, 2, 780)]),
  (67, [(.istore_n 3, 1, 0, 0, 0), (.iinc 5 1, 3, 0, 0, 0), (.goto (-45), 3, 26, 0, 0)]),
  (74, [(.iload_n 2, 1, 0, 0, 0), (.ifCond .le 9, 3, 84, 0, 0)]),
  (78, [(.iload 4, 2, 0, 0, 0), (.iconst 1, 1, 0, 0, 0), (.if_icmp .ge 5, 3, 86, 0, 0)]),
  (84, [(.iload_n 2, 1, 0, 0, 0), (.ireturn, 1, 0, 0, 0)]),
  (86, [(.iload_n 2, 1, 0, 0, 0), (.aload_n 0, 1, 0, 0, 0), (.getfield 9, 3, 9, 0, 217), (.iload_n 1, 1, 0, 0, 0), (.iconst 0, 1, 0, 0, 0), (.invokevirtual 25, 3, 11, 3, 775)]),
  (96, [(.iload 4, 2, 0, 0, 0), (.iadd, 1, 0, 0, 0), (.iconst 1, 1, 0, 0, 0), (.isub, 1, 0, 0, 0), (.iload 4, 2, 0, 0, 0), (.idiv, 1, 0, 0, 0), (.iadd, 1, 0, 0, 0), (.iconst 1, 1, 0, 0, 0), (.isub, 1, 0, 0, 0), (.ireturn, 1, 0, 0, 0)])]
theorem ck_X9_minutesInPieces : en_ck 101 bs_X9_minutesInPieces = true := by decide +kernel
def bs_X9_standAfter : en_Bs := [
  (0, [(.iload_n 1, 1, 0, 0, 0), (.istore_n 3, 1, 0, 0, 0), (.iconst 0, 1, 0, 0, 0), (.istore 4, 2, 0, 0, 0)]),
  (5, [(.iload 4, 2, 0, 0, 0), (.iload_n 2, 1, 0, 0, 0), (.if_icmp .ge 23, 3, 31, 0, 0)]),
  (11, [(.iload_n 3, 1, 0, 0, 0), (.iconst (-1), 1, 0, 0, 0), (.if_icmp .eq 18, 3, 31, 0, 0)]),
  (16, [(.aload_n 0, 1, 0, 0, 0), (.getfield 9, 3, 9, 0, 217), (.iload_n 3, 1, 0, 0, 0), (.invokevirtual 40, 3, 12, 2, 780)]),
  (24, [(.istore_n 3, 1, 0, 0, 0), (.iinc 4 1, 3, 0, 0, 0), (.goto (-23), 3, 5, 0, 0)]),
  (31, [(.iload_n 3, 1, 0, 0, 0), (.ireturn, 1, 0, 0, 0)])]
theorem ck_X9_standAfter : en_ck 102 bs_X9_standAfter = true := by decide +kernel
def bs_X10_init : en_Bs := [
  (0, [(.aload_n 0, 1, 0, 0, 0), (.invokespecial 1, 3, 900, 0, 26), (.aload_n 0, 1, 0, 0, 0), (.new 7, 3, 0, 0, 29), (.dup, 1, 0, 0, 0), (.invokespecial 9, 3, 1, 1, 31)]),
  (12, [(.putfield 10, 3, 10, 0, 408), (.aload_n 0, 1, 0, 0, 0), (.iconst 2, 1, 0, 0, 0), (.anewarray 7, 3, 4, 0, 29), (.putfield 16, 3, 10, 1, 409), (.iconst 0, 1, 0, 0, 0), (.istore_n 1, 1, 0, 0, 0)]),
  (25, [(.iload_n 1, 1, 0, 0, 0), (.iconst 2, 1, 0, 0, 0), (.if_icmp .ge 22, 3, 49, 0, 0)]),
  (30, [(.aload_n 0, 1, 0, 0, 0), (.getfield 16, 3, 10, 1, 409), (.iload_n 1, 1, 0, 0, 0), (.new 7, 3, 0, 0, 29), (.dup, 1, 0, 0, 0), (.invokespecial 9, 3, 1, 1, 31)]),
  (42, [(.aastore, 1, 0, 0, 0), (.iinc 1 1, 3, 0, 0, 0), (.goto (-21), 3, 25, 0, 0)]),
  (49, [(.aload_n 0, 1, 0, 0, 0), (.iconst 2, 1, 0, 0, 0), (.newarray .boolean, 2, 0, 0, 0), (.putfield 20, 3, 10, 2, 410), (.aload_n 0, 1, 0, 0, 0), (.new 24, 3, 8, 0, 163), (.dup, 1, 0, 0, 0), (.invokespecial 26, 3, 92, 1, 5001)]),
  (64, [(.putfield 27, 3, 10, 3, 411), (.aload_n 0, 1, 0, 0, 0), (.new 31, 3, 5, 0, 179), (.dup, 1, 0, 0, 0), (.aload_n 0, 1, 0, 0, 0), (.getfield 27, 3, 10, 3, 411), (.invokespecial 33, 3, 62, 2, 181)]),
  (79, [(.putfield 36, 3, 10, 4, 412), (.aload_n 0, 1, 0, 0, 0), (.new 40, 3, 9, 0, 211), (.dup, 1, 0, 0, 0), (.aload_n 0, 1, 0, 0, 0), (.getfield 10, 3, 10, 0, 408), (.invokespecial 42, 3, 95, 2, 213)]),
  (94, [(.putfield 45, 3, 10, 5, 413), (.new 49, 3, 3, 0, 221), (.dup, 1, 0, 0, 0), (.aload_n 0, 1, 0, 0, 0), (.getfield 10, 3, 10, 0, 408), (.invokespecial 51, 3, 50, 2, 223)]),
  (108, [(.astore_n 1, 1, 0, 0, 0), (.aload_n 0, 1, 0, 0, 0), (.new 52, 3, 1, 0, 241), (.dup, 1, 0, 0, 0), (.aload_n 0, 1, 0, 0, 0), (.getfield 10, 3, 10, 0, 408), (.aload_n 1, 1, 0, 0, 0), (.invokespecial 54, 3, 15, 3, 243)]),
  (122, [(.putfield 57, 3, 10, 6, 414), (.aload_n 0, 1, 0, 0, 0), (.new 52, 3, 1, 0, 241), (.dup, 1, 0, 0, 0), (.aload_n 0, 1, 0, 0, 0), (.getfield 10, 3, 10, 0, 408), (.aload_n 1, 1, 0, 0, 0), (.invokespecial 54, 3, 15, 3, 243)]),
  (138, [(.putfield 61, 3, 10, 7, 415), (.aload_n 0, 1, 0, 0, 0), (.new 64, 3, 7, 0, 312), (.dup, 1, 0, 0, 0), (.aload_n 0, 1, 0, 0, 0), (.getfield 10, 3, 10, 0, 408), (.aload_n 0, 1, 0, 0, 0), (.getfield 61, 3, 10, 7, 415), (.invokespecial 66, 3, 83, 3, 314)]),
  (157, [(.putfield 69, 3, 10, 8, 416), (.aload_n 0, 1, 0, 0, 0), (.new 73, 3, 6, 0, 337), (.dup, 1, 0, 0, 0), (.aload_n 0, 1, 0, 0, 0), (.getfield 10, 3, 10, 0, 408), (.aload_n 0, 1, 0, 0, 0), (.getfield 61, 3, 10, 7, 415), (.invokespecial 75, 3, 79, 3, 339)]),
  (176, [(.putfield 76, 3, 10, 9, 417), (.aload_n 0, 1, 0, 0, 0), (.new 80, 3, 2, 0, 362), (.dup, 1, 0, 0, 0), (.aload_n 0, 1, 0, 0, 0), (.getfield 10, 3, 10, 0, 408), (.aload_n 1, 1, 0, 0, 0), (.invokespecial 82, 3, 37, 3, 364)]),
  (192, [(.putfield 83, 3, 10, 10, 418), (.aload_n 0, 1, 0, 0, 0), (.bipush 8, 2, 0, 0, 0), (.newarray .int, 2, 0, 0, 0), (.putfield 87, 3, 10, 11, 419), (.aload_n 0, 1, 0, 0, 0), (.bipush 8, 2, 0, 0, 0), (.newarray .int, 2, 0, 0, 0), (.putfield 91, 3, 10, 12, 420), (.aload_n 0, 1, 0, 0, 0), (.bipush 7, 2, 0, 0, 0), (.newarray .int, 2, 0, 0, 0), (.putfield 94, 3, 10, 13, 421), (.return_, 1, 0, 0, 0)])]
theorem ck_X10_init : en_ck 103 bs_X10_init = true := by decide +kernel
def bs_X10_stand : en_Bs := [
  (0, [(.iload_n 1, 1, 0, 0, 0), (.iconst (-1), 1, 0, 0, 0), (.bipush 11, 2, 0, 0, 0), (.invokestatic 97, 3, 154, 3, 467)]),
  (7, [(.ifCond .eq 17, 3, 24, 0, 0)]),
  (10, [(.iload_n 2, 1, 0, 0, 0), (.invokestatic 101, 3, 152, 1, 470)]),
  (14, [(.ifCond .eq 10, 3, 24, 0, 0)]),
  (17, [(.iload_n 3, 1, 0, 0, 0), (.invokestatic 105, 3, 153, 1, 473)]),
  (21, [(.ifCond .ne 9, 3, 30, 0, 0)]),
  (24, [(.aload_n 0, 1, 0, 0, 0), (.iconst (-1), 1, 0, 0, 0), (.invokevirtual 108, 3, 144, 2, 476)]),
  (29, [(.ireturn, 1, 0, 0, 0)]),
  (30, [(.aload_n 0, 1, 0, 0, 0), (.getfield 10, 3, 10, 0, 408), (.getfield 112, 3, 0, 0, 86), (.bipush 12, 2, 0, 0, 0), (.if_icmp .lt 10, 3, 49, 0, 0)]),
  (42, [(.aload_n 0, 1, 0, 0, 0), (.bipush (-5), 2, 0, 0, 0), (.invokevirtual 108, 3, 144, 2, 476)]),
  (48, [(.ireturn, 1, 0, 0, 0)]),
  (49, [(.aload_n 0, 1, 0, 0, 0), (.invokevirtual 116, 3, 146, 1, 480)]),
  (53, [(.aload_n 0, 1, 0, 0, 0), (.aload_n 0, 1, 0, 0, 0), (.getfield 10, 3, 10, 0, 408), (.iload_n 1, 1, 0, 0, 0), (.iload_n 2, 1, 0, 0, 0), (.iload_n 3, 1, 0, 0, 0), (.invokevirtual 119, 3, 5, 4, 496)]),
  (64, [(.invokevirtual 123, 3, 145, 2, 500)]),
  (67, [(.ireturn, 1, 0, 0, 0)])]
theorem ck_X10_stand : en_ck 104 bs_X10_stand = true := by decide +kernel
def bs_X10_put : en_Bs := [
  (0, [(.iload_n 2, 1, 0, 0, 0), (.ifCond .ne 13, 3, 14, 0, 0)]),
  (4, [(.iload_n 3, 1, 0, 0, 0), (.iconst (-1), 1, 0, 0, 0), (.bipush 11, 2, 0, 0, 0), (.invokestatic 97, 3, 154, 3, 467)]),
  (11, [(.ifCond .ne 27, 3, 38, 0, 0)]),
  (14, [(.iload_n 2, 1, 0, 0, 0), (.iconst 1, 1, 0, 0, 0), (.if_icmp .ne 10, 3, 26, 0, 0)]),
  (19, [(.iload_n 3, 1, 0, 0, 0), (.invokestatic 101, 3, 152, 1, 470)]),
  (23, [(.ifCond .ne 15, 3, 38, 0, 0)]),
  (26, [(.iload_n 2, 1, 0, 0, 0), (.iconst 2, 1, 0, 0, 0), (.if_icmp .ne 14, 3, 42, 0, 0)]),
  (31, [(.iload_n 3, 1, 0, 0, 0), (.invokestatic 105, 3, 153, 1, 473)]),
  (35, [(.ifCond .eq 7, 3, 42, 0, 0)]),
  (38, [(.iconst 1, 1, 0, 0, 0), (.goto 4, 3, 43, 0, 0)]),
  (42, [(.iconst 0, 1, 0, 0, 0)]),
  (43, [(.istore 4, 2, 0, 0, 0), (.iload 4, 2, 0, 0, 0), (.ifCond .ne 9, 3, 56, 0, 0)]),
  (50, [(.aload_n 0, 1, 0, 0, 0), (.iconst (-1), 1, 0, 0, 0), (.invokevirtual 108, 3, 144, 2, 476)]),
  (55, [(.ireturn, 1, 0, 0, 0)]),
  (56, [(.aload_n 0, 1, 0, 0, 0), (.getfield 10, 3, 10, 0, 408), (.iload_n 1, 1, 0, 0, 0), (.invokevirtual 126, 3, 3, 2, 508)]),
  (64, [(.ifCond .ne 10, 3, 74, 0, 0)]),
  (67, [(.aload_n 0, 1, 0, 0, 0), (.bipush (-2), 2, 0, 0, 0), (.invokevirtual 108, 3, 144, 2, 476)]),
  (73, [(.ireturn, 1, 0, 0, 0)]),
  (74, [(.iload_n 2, 1, 0, 0, 0), (.ifCond .ne 13, 3, 88, 0, 0)]),
  (78, [(.aload_n 0, 1, 0, 0, 0), (.getfield 10, 3, 10, 0, 408), (.getfield 129, 3, 0, 1, 93), (.goto 25, 3, 110, 0, 0)]),
  (88, [(.iload_n 2, 1, 0, 0, 0), (.iconst 1, 1, 0, 0, 0), (.if_icmp .ne 13, 3, 103, 0, 0)]),
  (93, [(.aload_n 0, 1, 0, 0, 0), (.getfield 10, 3, 10, 0, 408), (.getfield 132, 3, 0, 2, 96), (.goto 10, 3, 110, 0, 0)]),
  (103, [(.aload_n 0, 1, 0, 0, 0), (.getfield 10, 3, 10, 0, 408), (.getfield 135, 3, 0, 3, 101)]),
  (110, [(.astore 5, 2, 0, 0, 0), (.aload 5, 2, 0, 0, 0), (.iload_n 1, 1, 0, 0, 0), (.iaload, 1, 0, 0, 0), (.istore 6, 2, 0, 0, 0), (.aload 5, 2, 0, 0, 0), (.iload_n 1, 1, 0, 0, 0), (.iload_n 3, 1, 0, 0, 0), (.iastore, 1, 0, 0, 0), (.aload_n 0, 1, 0, 0, 0), (.invokevirtual 116, 3, 146, 1, 480)]),
  (127, [(.aload_n 0, 1, 0, 0, 0), (.iload 6, 2, 0, 0, 0), (.invokevirtual 123, 3, 145, 2, 500)]),
  (133, [(.ireturn, 1, 0, 0, 0)])]
theorem ck_X10_put : en_ck 105 bs_X10_put = true := by decide +kernel
def bs_X10_of : en_Bs := [
  (0, [(.aload_n 0, 1, 0, 0, 0), (.getfield 10, 3, 10, 0, 408), (.iload_n 1, 1, 0, 0, 0), (.invokevirtual 126, 3, 3, 2, 508)]),
  (8, [(.ifCond .ne 5, 3, 13, 0, 0)]),
  (11, [(.iconst (-1), 1, 0, 0, 0), (.ireturn, 1, 0, 0, 0)]),
  (13, [(.iload_n 2, 1, 0, 0, 0), (.tableswitch 69 0 3 #[30, 40, 50, 60], 30, 0, 0, 0)]),
  (44, [(.aload_n 0, 1, 0, 0, 0), (.getfield 10, 3, 10, 0, 408), (.getfield 129, 3, 0, 1, 93), (.iload_n 1, 1, 0, 0, 0), (.iaload, 1, 0, 0, 0), (.ireturn, 1, 0, 0, 0)]),
  (54, [(.aload_n 0, 1, 0, 0, 0), (.getfield 10, 3, 10, 0, 408), (.getfield 132, 3, 0, 2, 96), (.iload_n 1, 1, 0, 0, 0), (.iaload, 1, 0, 0, 0), (.ireturn, 1, 0, 0, 0)]),
  (64, [(.aload_n 0, 1, 0, 0, 0), (.getfield 10, 3, 10, 0, 408), (.getfield 135, 3, 0, 3, 101), (.iload_n 1, 1, 0, 0, 0), (.iaload, 1, 0, 0, 0), (.ireturn, 1, 0, 0, 0)]),
  (74, [(.aload_n 0, 1, 0, 0, 0), (.getfield 10, 3, 10, 0, 408), (.iload_n 1, 1, 0, 0, 0), (.invokevirtual 138, 3, 12, 2, 516)]),
  (82, [(.ireturn, 1, 0, 0, 0)]),
  (83, [(.iconst (-1), 1, 0, 0, 0), (.ireturn, 1, 0, 0, 0)])]
theorem ck_X10_of : en_ck 106 bs_X10_of = true := by decide +kernel
def bs_X10_load : en_Bs := [
  (0, [(.aload_n 0, 1, 0, 0, 0), (.iload_n 1, 1, 0, 0, 0), (.iload_n 2, 1, 0, 0, 0), (.iload_n 3, 1, 0, 0, 0), (.iload 4, 2, 0, 0, 0), (.iload 5, 2, 0, 0, 0), (.iload 6, 2, 0, 0, 0), (.invokevirtual 141, 3, 149, 7, 525)]),
  (13, [(.istore 7, 2, 0, 0, 0), (.iload 7, 2, 0, 0, 0), (.ifCond .eq 10, 3, 27, 0, 0)]),
  (20, [(.aload_n 0, 1, 0, 0, 0), (.iload 7, 2, 0, 0, 0), (.invokevirtual 108, 3, 144, 2, 476)]),
  (26, [(.ireturn, 1, 0, 0, 0)]),
  (27, [(.aload_n 0, 1, 0, 0, 0), (.invokevirtual 116, 3, 146, 1, 480)]),
  (31, [(.aload_n 0, 1, 0, 0, 0), (.aload_n 0, 1, 0, 0, 0), (.getfield 10, 3, 10, 0, 408), (.iload_n 1, 1, 0, 0, 0), (.iload_n 2, 1, 0, 0, 0), (.iload_n 3, 1, 0, 0, 0), (.iload 4, 2, 0, 0, 0), (.iload 5, 2, 0, 0, 0), (.iload 6, 2, 0, 0, 0), (.invokevirtual 145, 3, 6, 7, 529)]),
  (48, [(.invokevirtual 123, 3, 145, 2, 500)]),
  (51, [(.ireturn, 1, 0, 0, 0)])]
theorem ck_X10_load : en_ck 107 bs_X10_load = true := by decide +kernel
def bs_X10_fact : en_Bs := [
  (0, [(.aload_n 0, 1, 0, 0, 0), (.getfield 10, 3, 10, 0, 408), (.iload_n 1, 1, 0, 0, 0), (.invokevirtual 148, 3, 4, 2, 537)]),
  (8, [(.ifCond .eq 24, 3, 32, 0, 0)]),
  (11, [(.iload_n 2, 1, 0, 0, 0), (.iconst 0, 1, 0, 0, 0), (.iconst 5, 1, 0, 0, 0), (.invokestatic 97, 3, 154, 3, 467)]),
  (17, [(.ifCond .eq 15, 3, 32, 0, 0)]),
  (20, [(.aload_n 0, 1, 0, 0, 0), (.getfield 10, 3, 10, 0, 408), (.iload_n 1, 1, 0, 0, 0), (.iload_n 2, 1, 0, 0, 0), (.invokevirtual 151, 3, 11, 3, 541)]),
  (29, [(.goto 4, 3, 33, 0, 0)]),
  (32, [(.iconst (-1), 1, 0, 0, 0)]),
  (33, [(.ireturn, 1, 0, 0, 0)])]
theorem ck_X10_fact : en_ck 108 bs_X10_fact = true := by decide +kernel
def bs_X10_drop : en_Bs := [
  (0, [(.aload_n 0, 1, 0, 0, 0), (.getfield 10, 3, 10, 0, 408), (.iload_n 1, 1, 0, 0, 0), (.invokevirtual 148, 3, 4, 2, 537)]),
  (8, [(.ifCond .ne 10, 3, 18, 0, 0)]),
  (11, [(.aload_n 0, 1, 0, 0, 0), (.bipush (-2), 2, 0, 0, 0), (.invokevirtual 108, 3, 144, 2, 476)]),
  (17, [(.ireturn, 1, 0, 0, 0)]),
  (18, [(.aload_n 0, 1, 0, 0, 0), (.getfield 10, 3, 10, 0, 408), (.iload_n 1, 1, 0, 0, 0), (.invokevirtual 155, 3, 7, 2, 549)]),
  (26, [(.aload_n 0, 1, 0, 0, 0), (.invokevirtual 116, 3, 146, 1, 480)]),
  (30, [(.aload_n 0, 1, 0, 0, 0), (.aload_n 0, 1, 0, 0, 0), (.getfield 10, 3, 10, 0, 408), (.getfield 159, 3, 0, 4, 106), (.invokevirtual 123, 3, 145, 2, 500)]),
  (41, [(.ireturn, 1, 0, 0, 0)])]
theorem ck_X10_drop : en_ck 109 bs_X10_drop = true := by decide +kernel
def bs_X10_terms : en_Bs := [
  (0, [(.iload_n 1, 1, 0, 0, 0), (.ifCond .ne 32, 3, 33, 0, 0)]),
  (4, [(.iload_n 2, 1, 0, 0, 0), (.iconst 0, 1, 0, 0, 0), (.bipush 99, 2, 0, 0, 0), (.invokestatic 97, 3, 154, 3, 467)]),
  (11, [(.ifCond .eq 22, 3, 33, 0, 0)]),
  (14, [(.aload_n 0, 1, 0, 0, 0), (.getfield 10, 3, 10, 0, 408), (.getfield 162, 3, 0, 10, 117), (.istore_n 3, 1, 0, 0, 0), (.aload_n 0, 1, 0, 0, 0), (.getfield 10, 3, 10, 0, 408), (.iload_n 2, 1, 0, 0, 0), (.putfield 162, 3, 0, 10, 117), (.goto 42, 3, 72, 0, 0)]),
  (33, [(.iload_n 1, 1, 0, 0, 0), (.iconst 1, 1, 0, 0, 0), (.if_icmp .ne 31, 3, 66, 0, 0)]),
  (38, [(.iload_n 2, 1, 0, 0, 0), (.iconst 1, 1, 0, 0, 0), (.iconst 4, 1, 0, 0, 0), (.invokestatic 97, 3, 154, 3, 467)]),
  (44, [(.ifCond .eq 22, 3, 66, 0, 0)]),
  (47, [(.aload_n 0, 1, 0, 0, 0), (.getfield 10, 3, 10, 0, 408), (.getfield 165, 3, 0, 11, 120), (.istore_n 3, 1, 0, 0, 0), (.aload_n 0, 1, 0, 0, 0), (.getfield 10, 3, 10, 0, 408), (.iload_n 2, 1, 0, 0, 0), (.putfield 165, 3, 0, 11, 120), (.goto 9, 3, 72, 0, 0)]),
  (66, [(.aload_n 0, 1, 0, 0, 0), (.iconst (-1), 1, 0, 0, 0), (.invokevirtual 108, 3, 144, 2, 476)]),
  (71, [(.ireturn, 1, 0, 0, 0)]),
  (72, [(.aload_n 0, 1, 0, 0, 0), (.invokevirtual 116, 3, 146, 1, 480)]),
  (76, [(.aload_n 0, 1, 0, 0, 0), (.iload_n 3, 1, 0, 0, 0), (.invokevirtual 123, 3, 145, 2, 500)]),
  (81, [(.ireturn, 1, 0, 0, 0)])]
theorem ck_X10_terms : en_ck 110 bs_X10_terms = true := by decide +kernel
def bs_X10_feed : en_Bs := [
  (0, [(.aload_n 0, 1, 0, 0, 0), (.getfield 27, 3, 10, 3, 411), (.getfield 168, 3, 8, 1, 171), (.bipush 20, 2, 0, 0, 0), (.iadd, 1, 0, 0, 0), (.sipush 400, 3, 0, 0, 0), (.if_icmp .le 5, 3, 18, 0, 0)]),
  (16, [(.iconst (-1), 1, 0, 0, 0), (.ireturn, 1, 0, 0, 0)]),
  (18, [(.aload_n 0, 1, 0, 0, 0), (.getfield 27, 3, 10, 3, 411), (.iload_n 1, 1, 0, 0, 0), (.invokevirtual 171, 3, 93, 2, 565)]),
  (26, [(.aload_n 0, 1, 0, 0, 0), (.getfield 27, 3, 10, 3, 411), (.iload_n 2, 1, 0, 0, 0), (.invokevirtual 171, 3, 93, 2, 565)]),
  (34, [(.aload_n 0, 1, 0, 0, 0), (.getfield 27, 3, 10, 3, 411), (.iload_n 3, 1, 0, 0, 0), (.invokevirtual 171, 3, 93, 2, 565)]),
  (42, [(.aload_n 0, 1, 0, 0, 0), (.getfield 27, 3, 10, 3, 411), (.iload 4, 2, 0, 0, 0), (.invokevirtual 171, 3, 93, 2, 565)]),
  (51, [(.aload_n 0, 1, 0, 0, 0), (.getfield 27, 3, 10, 3, 411), (.iload 5, 2, 0, 0, 0), (.invokevirtual 171, 3, 93, 2, 565)]),
  (60, [(.aload_n 0, 1, 0, 0, 0), (.getfield 27, 3, 10, 3, 411), (.getfield 168, 3, 8, 1, 171), (.ireturn, 1, 0, 0, 0)])]
theorem ck_X10_feed : en_ck 111 bs_X10_feed = true := by decide +kernel
def bs_X10_end : en_Bs := [
  (0, [(.iload_n 1, 1, 0, 0, 0), (.iconst 0, 1, 0, 0, 0), (.aload_n 0, 1, 0, 0, 0), (.getfield 27, 3, 10, 3, 411), (.getfield 168, 3, 8, 1, 171), (.invokestatic 97, 3, 154, 3, 467)]),
  (12, [(.ifCond .ne 5, 3, 17, 0, 0)]),
  (15, [(.iconst (-1), 1, 0, 0, 0), (.ireturn, 1, 0, 0, 0)]),
  (17, [(.aload_n 0, 1, 0, 0, 0), (.getfield 27, 3, 10, 3, 411), (.iload_n 1, 1, 0, 0, 0), (.putfield 168, 3, 8, 1, 171), (.iload_n 1, 1, 0, 0, 0), (.ireturn, 1, 0, 0, 0)])]
theorem ck_X10_end : en_ck 112 bs_X10_end = true := by decide +kernel
def bs_X10_row : en_Bs := [
  (0, [(.aload_n 0, 1, 0, 0, 0), (.getfield 27, 3, 10, 3, 411), (.getfield 168, 3, 8, 1, 171), (.istore_n 1, 1, 0, 0, 0), (.iload_n 1, 1, 0, 0, 0), (.ifCond .ne 10, 3, 19, 0, 0)]),
  (12, [(.aload_n 0, 1, 0, 0, 0), (.bipush (-6), 2, 0, 0, 0), (.invokevirtual 108, 3, 144, 2, 476)]),
  (18, [(.ireturn, 1, 0, 0, 0)]),
  (19, [(.iconst 0, 1, 0, 0, 0), (.istore_n 2, 1, 0, 0, 0), (.iconst 0, 1, 0, 0, 0), (.istore_n 3, 1, 0, 0, 0), (.iconst 0, 1, 0, 0, 0), (.istore 4, 2, 0, 0, 0)]),
  (26, [(.iload 4, 2, 0, 0, 0), (.iload_n 1, 1, 0, 0, 0), (.if_icmp .ge 36, 3, 65, 0, 0)]),
  (32, [(.iload 4, 2, 0, 0, 0), (.bipush 6, 2, 0, 0, 0), (.iadd, 1, 0, 0, 0), (.iload_n 1, 1, 0, 0, 0), (.if_icmp .gt 18, 3, 56, 0, 0)]),
  (41, [(.aload_n 0, 1, 0, 0, 0), (.iload 4, 2, 0, 0, 0), (.invokevirtual 174, 3, 150, 2, 577)]),
  (47, [(.ifCond .eq 9, 3, 56, 0, 0)]),
  (50, [(.iinc 2 1, 3, 0, 0, 0), (.goto 6, 3, 59, 0, 0)]),
  (56, [(.iinc 3 1, 3, 0, 0, 0)]),
  (59, [(.iinc 4 6, 3, 0, 0, 0), (.goto (-36), 3, 26, 0, 0)]),
  (65, [(.aload_n 0, 1, 0, 0, 0), (.getfield 27, 3, 10, 3, 411), (.iconst 0, 1, 0, 0, 0), (.putfield 168, 3, 8, 1, 171), (.aload_n 0, 1, 0, 0, 0), (.iload_n 3, 1, 0, 0, 0), (.putfield 177, 3, 10, 16, 424), (.aload_n 0, 1, 0, 0, 0), (.invokevirtual 116, 3, 146, 1, 480)]),
  (82, [(.aload_n 0, 1, 0, 0, 0), (.iload_n 2, 1, 0, 0, 0), (.invokevirtual 123, 3, 145, 2, 500)]),
  (87, [(.ireturn, 1, 0, 0, 0)])]
theorem ck_X10_row : en_ck 113 bs_X10_row = true := by decide +kernel
def bs_X10_dropped : en_Bs := [
  (0, [(.aload_n 0, 1, 0, 0, 0), (.getfield 177, 3, 10, 16, 424), (.ireturn, 1, 0, 0, 0)])]
theorem ck_X10_dropped : en_ck 114 bs_X10_dropped = true := by decide +kernel
def bs_X10_law : en_Bs := [
  (0, [(.aload_n 0, 1, 0, 0, 0), (.getfield 10, 3, 10, 0, 408), (.getfield 180, 3, 0, 6, 110), (.bipush 6, 2, 0, 0, 0), (.if_icmp .lt 18, 3, 27, 0, 0)]),
  (12, [(.aload_n 0, 1, 0, 0, 0), (.getfield 27, 3, 10, 3, 411), (.iconst 0, 1, 0, 0, 0), (.putfield 168, 3, 8, 1, 171), (.aload_n 0, 1, 0, 0, 0), (.bipush (-5), 2, 0, 0, 0), (.invokevirtual 108, 3, 144, 2, 476)]),
  (26, [(.ireturn, 1, 0, 0, 0)]),
  (27, [(.aload_n 0, 1, 0, 0, 0), (.getfield 36, 3, 10, 4, 412), (.invokevirtual 183, 3, 63, 1, 593)]),
  (34, [(.istore_n 1, 1, 0, 0, 0), (.aload_n 0, 1, 0, 0, 0), (.getfield 27, 3, 10, 3, 411), (.iconst 0, 1, 0, 0, 0), (.putfield 168, 3, 8, 1, 171), (.iload_n 1, 1, 0, 0, 0), (.ifCond .ne 10, 3, 54, 0, 0)]),
  (47, [(.aload_n 0, 1, 0, 0, 0), (.bipush (-6), 2, 0, 0, 0), (.invokevirtual 108, 3, 144, 2, 476)]),
  (53, [(.ireturn, 1, 0, 0, 0)]),
  (54, [(.aload_n 0, 1, 0, 0, 0), (.aload_n 0, 1, 0, 0, 0), (.getfield 10, 3, 10, 0, 408), (.aload_n 0, 1, 0, 0, 0), (.getfield 36, 3, 10, 4, 412), (.getfield 187, 3, 5, 1, 189), (.invokevirtual 191, 3, 8, 2, 737)]),
  (69, [(.invokevirtual 123, 3, 145, 2, 500)]),
  (72, [(.ireturn, 1, 0, 0, 0)])]
theorem ck_X10_law : en_ck 115 bs_X10_law = true := by decide +kernel
def bs_X10_fault : en_Bs := [
  (0, [(.aload_n 0, 1, 0, 0, 0), (.getfield 36, 3, 10, 4, 412), (.getfield 195, 3, 5, 2, 191), (.ireturn, 1, 0, 0, 0)])]
theorem ck_X10_fault : en_ck 116 bs_X10_fault = true := by decide +kernel
def bs_X10_force : en_Bs := [
  (0, [(.iload_n 1, 1, 0, 0, 0), (.iconst (-1), 1, 0, 0, 0), (.if_icmp .eq 27, 3, 29, 0, 0)]),
  (5, [(.iload_n 1, 1, 0, 0, 0), (.iconst 0, 1, 0, 0, 0), (.aload_n 0, 1, 0, 0, 0), (.getfield 10, 3, 10, 0, 408), (.getfield 180, 3, 0, 6, 110), (.iconst 1, 1, 0, 0, 0), (.isub, 1, 0, 0, 0), (.invokestatic 97, 3, 154, 3, 467)]),
  (19, [(.ifCond .ne 10, 3, 29, 0, 0)]),
  (22, [(.aload_n 0, 1, 0, 0, 0), (.bipush (-2), 2, 0, 0, 0), (.invokevirtual 108, 3, 144, 2, 476)]),
  (28, [(.ireturn, 1, 0, 0, 0)]),
  (29, [(.aload_n 0, 1, 0, 0, 0), (.getfield 10, 3, 10, 0, 408), (.getfield 198, 3, 0, 9, 114), (.istore_n 2, 1, 0, 0, 0), (.aload_n 0, 1, 0, 0, 0), (.getfield 10, 3, 10, 0, 408), (.iload_n 1, 1, 0, 0, 0), (.putfield 198, 3, 0, 9, 114), (.aload_n 0, 1, 0, 0, 0), (.invokevirtual 116, 3, 146, 1, 480)]),
  (49, [(.aload_n 0, 1, 0, 0, 0), (.iload_n 2, 1, 0, 0, 0), (.invokevirtual 123, 3, 145, 2, 500)]),
  (54, [(.ireturn, 1, 0, 0, 0)])]
theorem ck_X10_force : en_ck 117 bs_X10_force = true := by decide +kernel
def bs_X10_way : en_Bs := [
  (0, [(.aload_n 0, 1, 0, 0, 0), (.getfield 10, 3, 10, 0, 408), (.iload_n 1, 1, 0, 0, 0), (.invokevirtual 148, 3, 4, 2, 537)]),
  (8, [(.ifCond .ne 5, 3, 13, 0, 0)]),
  (11, [(.iconst (-1), 1, 0, 0, 0), (.ireturn, 1, 0, 0, 0)]),
  (13, [(.iload_n 2, 1, 0, 0, 0), (.iconst (-1), 1, 0, 0, 0), (.if_icmp .ne 14, 3, 29, 0, 0)]),
  (18, [(.aload_n 0, 1, 0, 0, 0), (.getfield 10, 3, 10, 0, 408), (.iload_n 1, 1, 0, 0, 0), (.invokevirtual 201, 3, 14, 2, 763)]),
  (26, [(.goto 12, 3, 38, 0, 0)]),
  (29, [(.aload_n 0, 1, 0, 0, 0), (.getfield 45, 3, 10, 5, 413), (.iload_n 1, 1, 0, 0, 0), (.iload_n 2, 1, 0, 0, 0), (.invokevirtual 204, 3, 96, 3, 769)]),
  (38, [(.ireturn, 1, 0, 0, 0)])]
theorem ck_X10_way : en_ck 118 bs_X10_way = true := by decide +kernel
def bs_X10_enter : en_Bs := [
  (0, [(.aload_n 0, 1, 0, 0, 0), (.getfield 10, 3, 10, 0, 408), (.iload_n 1, 1, 0, 0, 0), (.invokevirtual 126, 3, 3, 2, 508)]),
  (8, [(.ifCond .eq 29, 3, 37, 0, 0)]),
  (11, [(.iload_n 2, 1, 0, 0, 0), (.aload_n 0, 1, 0, 0, 0), (.getfield 10, 3, 10, 0, 408), (.getfield 112, 3, 0, 0, 86), (.invokestatic 207, 3, 156, 2, 785)]),
  (22, [(.ifCond .eq 15, 3, 37, 0, 0)]),
  (25, [(.aload_n 0, 1, 0, 0, 0), (.getfield 45, 3, 10, 5, 413), (.iload_n 1, 1, 0, 0, 0), (.iload_n 2, 1, 0, 0, 0), (.invokevirtual 211, 3, 97, 3, 788)]),
  (34, [(.goto 4, 3, 38, 0, 0)]),
  (37, [(.iconst (-1), 1, 0, 0, 0)]),
  (38, [(.ireturn, 1, 0, 0, 0)])]
theorem ck_X10_enter : en_ck 119 bs_X10_enter = true := by decide +kernel
def bs_X10_day : en_Bs := [
  (0, [(.aload_n 0, 1, 0, 0, 0), (.getfield 10, 3, 10, 0, 408), (.iload_n 1, 1, 0, 0, 0), (.invokevirtual 148, 3, 4, 2, 537)]),
  (8, [(.ifCond .ne 5, 3, 13, 0, 0)]),
  (11, [(.iconst (-1), 1, 0, 0, 0), (.ireturn, 1, 0, 0, 0)]),
  (13, [(.aload_n 0, 1, 0, 0, 0), (.invokevirtual 214, 3, 147, 1, 799)]),
  (17, [(.astore_n 3, 1, 0, 0, 0), (.aload_n 3, 1, 0, 0, 0), (.getfield 218, 3, 1, 9, 262), (.iload_n 1, 1, 0, 0, 0), (.iaload, 1, 0, 0, 0), (.istore 4, 2, 0, 0, 0), (.iload_n 2, 1, 0, 0, 0), (.tableswitch 71 0 3 #[29, 32, 57, 64], 29, 0, 0, 0)]),
  (56, [(.iload 4, 2, 0, 0, 0), (.ireturn, 1, 0, 0, 0)]),
  (59, [(.iload 4, 2, 0, 0, 0), (.iconst (-1), 1, 0, 0, 0), (.if_icmp .ne 7, 3, 69, 0, 0)]),
  (65, [(.iconst (-1), 1, 0, 0, 0), (.goto 17, 3, 83, 0, 0)]),
  (69, [(.iconst 0, 1, 0, 0, 0), (.iload 4, 2, 0, 0, 0), (.aload_n 0, 1, 0, 0, 0), (.getfield 10, 3, 10, 0, 408), (.getfield 162, 3, 0, 10, 117), (.isub, 1, 0, 0, 0), (.invokestatic 221, 3, 902, 0, 890)]),
  (83, [(.ireturn, 1, 0, 0, 0)]),
  (84, [(.aload_n 3, 1, 0, 0, 0), (.getfield 226, 3, 1, 8, 260), (.iload_n 1, 1, 0, 0, 0), (.iaload, 1, 0, 0, 0), (.ireturn, 1, 0, 0, 0)]),
  (91, [(.aload_n 3, 1, 0, 0, 0), (.getfield 229, 3, 1, 10, 264), (.iload_n 1, 1, 0, 0, 0), (.iaload, 1, 0, 0, 0), (.ireturn, 1, 0, 0, 0)]),
  (98, [(.iconst (-1), 1, 0, 0, 0), (.ireturn, 1, 0, 0, 0)])]
theorem ck_X10_day : en_ck 120 bs_X10_day = true := by decide +kernel
def bs_X10_where : en_Bs := [
  (0, [(.aload_n 0, 1, 0, 0, 0), (.getfield 10, 3, 10, 0, 408), (.iload_n 1, 1, 0, 0, 0), (.invokevirtual 148, 3, 4, 2, 537)]),
  (8, [(.ifCond .eq 25, 3, 33, 0, 0)]),
  (11, [(.iload_n 2, 1, 0, 0, 0), (.iconst 0, 1, 0, 0, 0), (.bipush 99, 2, 0, 0, 0), (.invokestatic 97, 3, 154, 3, 467)]),
  (18, [(.ifCond .eq 15, 3, 33, 0, 0)]),
  (21, [(.aload_n 0, 1, 0, 0, 0), (.invokevirtual 214, 3, 147, 1, 799)]),
  (25, [(.iload_n 1, 1, 0, 0, 0), (.iload_n 2, 1, 0, 0, 0), (.invokevirtual 232, 3, 31, 3, 895)]),
  (30, [(.goto 4, 3, 34, 0, 0)]),
  (33, [(.iconst (-1), 1, 0, 0, 0)]),
  (34, [(.ireturn, 1, 0, 0, 0)])]
theorem ck_X10_where : en_ck 121 bs_X10_where = true := by decide +kernel
def bs_X10_held : en_Bs := [
  (0, [(.aload_n 0, 1, 0, 0, 0), (.getfield 10, 3, 10, 0, 408), (.iload_n 1, 1, 0, 0, 0), (.invokevirtual 126, 3, 3, 2, 508)]),
  (8, [(.ifCond .eq 22, 3, 30, 0, 0)]),
  (11, [(.iload_n 2, 1, 0, 0, 0), (.iconst 0, 1, 0, 0, 0), (.bipush 99, 2, 0, 0, 0), (.invokestatic 97, 3, 154, 3, 467)]),
  (18, [(.ifCond .eq 12, 3, 30, 0, 0)]),
  (21, [(.iload_n 3, 1, 0, 0, 0), (.iconst 0, 1, 0, 0, 0), (.iconst 1, 1, 0, 0, 0), (.invokestatic 97, 3, 154, 3, 467)]),
  (27, [(.ifCond .ne 5, 3, 32, 0, 0)]),
  (30, [(.iconst (-1), 1, 0, 0, 0), (.ireturn, 1, 0, 0, 0)]),
  (32, [(.aload_n 0, 1, 0, 0, 0), (.invokevirtual 214, 3, 147, 1, 799)]),
  (36, [(.astore 4, 2, 0, 0, 0), (.iconst 0, 1, 0, 0, 0), (.istore 5, 2, 0, 0, 0), (.iconst 0, 1, 0, 0, 0), (.istore 6, 2, 0, 0, 0)]),
  (44, [(.iload 6, 2, 0, 0, 0), (.aload_n 0, 1, 0, 0, 0), (.getfield 10, 3, 10, 0, 408), (.getfield 159, 3, 0, 4, 106), (.if_icmp .ge 44, 3, 97, 0, 0)]),
  (56, [(.aload 4, 2, 0, 0, 0), (.iload 6, 2, 0, 0, 0), (.iload_n 2, 1, 0, 0, 0), (.invokevirtual 232, 3, 31, 3, 895)]),
  (64, [(.iload_n 1, 1, 0, 0, 0), (.if_icmp .ne 26, 3, 91, 0, 0)]),
  (68, [(.iload 5, 2, 0, 0, 0), (.iload_n 3, 1, 0, 0, 0), (.ifCond .ne 7, 3, 78, 0, 0)]),
  (74, [(.iconst 1, 1, 0, 0, 0), (.goto 13, 3, 88, 0, 0)]),
  (78, [(.aload_n 0, 1, 0, 0, 0), (.getfield 10, 3, 10, 0, 408), (.iload 6, 2, 0, 0, 0), (.iconst 0, 1, 0, 0, 0), (.invokevirtual 151, 3, 11, 3, 541)]),
  (88, [(.iadd, 1, 0, 0, 0), (.istore 5, 2, 0, 0, 0)]),
  (91, [(.iinc 6 1, 3, 0, 0, 0), (.goto (-50), 3, 44, 0, 0)]),
  (97, [(.iload 5, 2, 0, 0, 0), (.ireturn, 1, 0, 0, 0)])]
theorem ck_X10_held : en_ck 122 bs_X10_held = true := by decide +kernel
def bs_X10_choke : en_Bs := [
  (0, [(.aload_n 0, 1, 0, 0, 0), (.invokevirtual 214, 3, 147, 1, 799)]),
  (4, [(.invokevirtual 235, 3, 34, 1, 907)]),
  (7, [(.ireturn, 1, 0, 0, 0)])]
theorem ck_X10_choke : en_ck 123 bs_X10_choke = true := by decide +kernel
def bs_X10_swaps : en_Bs := [
  (0, [(.iload_n 1, 1, 0, 0, 0), (.aload_n 0, 1, 0, 0, 0), (.getfield 10, 3, 10, 0, 408), (.getfield 159, 3, 0, 4, 106), (.invokestatic 207, 3, 156, 2, 785)]),
  (11, [(.ifCond .eq 15, 3, 26, 0, 0)]),
  (14, [(.aload_n 0, 1, 0, 0, 0), (.getfield 69, 3, 10, 8, 416), (.iload_n 1, 1, 0, 0, 0), (.iload_n 2, 1, 0, 0, 0), (.invokevirtual 239, 3, 85, 3, 925)]),
  (23, [(.goto 4, 3, 27, 0, 0)]),
  (26, [(.iconst (-1), 1, 0, 0, 0)]),
  (27, [(.ireturn, 1, 0, 0, 0)])]
theorem ck_X10_swaps : en_ck 124 bs_X10_swaps = true := by decide +kernel
def bs_X10_swap : en_Bs := [
  (0, [(.aload_n 0, 1, 0, 0, 0), (.getfield 10, 3, 10, 0, 408), (.iload_n 1, 1, 0, 0, 0), (.invokevirtual 126, 3, 3, 2, 508)]),
  (8, [(.ifCond .eq 14, 3, 22, 0, 0)]),
  (11, [(.aload_n 0, 1, 0, 0, 0), (.getfield 10, 3, 10, 0, 408), (.iload_n 2, 1, 0, 0, 0), (.invokevirtual 126, 3, 3, 2, 508)]),
  (19, [(.ifCond .ne 10, 3, 29, 0, 0)]),
  (22, [(.aload_n 0, 1, 0, 0, 0), (.bipush (-2), 2, 0, 0, 0), (.invokevirtual 108, 3, 144, 2, 476)]),
  (28, [(.ireturn, 1, 0, 0, 0)]),
  (29, [(.iload_n 1, 1, 0, 0, 0), (.iload_n 2, 1, 0, 0, 0), (.if_icmp .ne 10, 3, 41, 0, 0)]),
  (34, [(.aload_n 0, 1, 0, 0, 0), (.bipush (-3), 2, 0, 0, 0), (.invokevirtual 108, 3, 144, 2, 476)]),
  (40, [(.ireturn, 1, 0, 0, 0)]),
  (41, [(.aload_n 0, 1, 0, 0, 0), (.getfield 10, 3, 10, 0, 408), (.getfield 132, 3, 0, 2, 96), (.iload_n 1, 1, 0, 0, 0), (.iload_n 2, 1, 0, 0, 0), (.invokestatic 242, 3, 157, 3, 980)]),
  (53, [(.aload_n 0, 1, 0, 0, 0), (.getfield 10, 3, 10, 0, 408), (.getfield 135, 3, 0, 3, 101), (.iload_n 1, 1, 0, 0, 0), (.iload_n 2, 1, 0, 0, 0), (.invokestatic 242, 3, 157, 3, 980)]),
  (65, [(.aload_n 0, 1, 0, 0, 0), (.invokevirtual 116, 3, 146, 1, 480)]),
  (69, [(.aload_n 0, 1, 0, 0, 0), (.iconst 0, 1, 0, 0, 0), (.invokevirtual 123, 3, 145, 2, 500)]),
  (74, [(.ireturn, 1, 0, 0, 0)])]
theorem ck_X10_swap : en_ck 125 bs_X10_swap = true := by decide +kernel
def bs_X10_home : en_Bs := [
  (0, [(.iload_n 1, 1, 0, 0, 0), (.iconst 0, 1, 0, 0, 0), (.iconst 2, 1, 0, 0, 0), (.invokestatic 97, 3, 154, 3, 467)]),
  (6, [(.ifCond .eq 14, 3, 20, 0, 0)]),
  (9, [(.aload_n 0, 1, 0, 0, 0), (.getfield 76, 3, 10, 9, 417), (.iload_n 1, 1, 0, 0, 0), (.invokevirtual 246, 3, 81, 2, 985)]),
  (17, [(.goto 4, 3, 21, 0, 0)]),
  (20, [(.iconst (-1), 1, 0, 0, 0)]),
  (21, [(.ireturn, 1, 0, 0, 0)])]
theorem ck_X10_home : en_ck 126 bs_X10_home = true := by decide +kernel
def bs_X10_cost : en_Bs := [
  (0, [(.aload_n 0, 1, 0, 0, 0), (.getfield 10, 3, 10, 0, 408), (.iload_n 1, 1, 0, 0, 0), (.invokevirtual 148, 3, 4, 2, 537)]),
  (8, [(.ifCond .eq 14, 3, 22, 0, 0)]),
  (11, [(.aload_n 0, 1, 0, 0, 0), (.getfield 83, 3, 10, 10, 418), (.iload_n 1, 1, 0, 0, 0), (.invokevirtual 248, 3, 39, 2, 1006)]),
  (19, [(.goto 4, 3, 23, 0, 0)]),
  (22, [(.iconst (-1), 1, 0, 0, 0)]),
  (23, [(.ireturn, 1, 0, 0, 0)])]
theorem ck_X10_cost : en_ck 127 bs_X10_cost = true := by decide +kernel
def bs_X10_sent : en_Bs := [
  (0, [(.aload_n 0, 1, 0, 0, 0), (.getfield 10, 3, 10, 0, 408), (.iload_n 1, 1, 0, 0, 0), (.invokevirtual 148, 3, 4, 2, 537)]),
  (8, [(.ifCond .ne 5, 3, 13, 0, 0)]),
  (11, [(.iconst (-1), 1, 0, 0, 0), (.ireturn, 1, 0, 0, 0)]),
  (13, [(.aload_n 0, 1, 0, 0, 0), (.getfield 83, 3, 10, 10, 418), (.iload_n 1, 1, 0, 0, 0), (.invokevirtual 248, 3, 39, 2, 1006)]),
  (21, [(.istore_n 2, 1, 0, 0, 0), (.iload_n 2, 1, 0, 0, 0), (.iconst (-1), 1, 0, 0, 0), (.if_icmp .eq 20, 3, 44, 0, 0)]),
  (27, [(.iload_n 2, 1, 0, 0, 0), (.aload_n 0, 1, 0, 0, 0), (.getfield 10, 3, 10, 0, 408), (.iload_n 1, 1, 0, 0, 0), (.iconst 5, 1, 0, 0, 0), (.invokevirtual 151, 3, 11, 3, 541)]),
  (37, [(.if_icmp .gt 7, 3, 44, 0, 0)]),
  (40, [(.iconst 1, 1, 0, 0, 0), (.goto 4, 3, 45, 0, 0)]),
  (44, [(.iconst 0, 1, 0, 0, 0)]),
  (45, [(.ireturn, 1, 0, 0, 0)])]
theorem ck_X10_sent : en_ck 128 bs_X10_sent = true := by decide +kernel
def bs_X10_income : en_Bs := [
  (0, [(.aload_n 0, 1, 0, 0, 0), (.getfield 10, 3, 10, 0, 408), (.iload_n 1, 1, 0, 0, 0), (.invokevirtual 126, 3, 3, 2, 508)]),
  (8, [(.ifCond .eq 14, 3, 22, 0, 0)]),
  (11, [(.aload_n 0, 1, 0, 0, 0), (.getfield 83, 3, 10, 10, 418), (.iload_n 1, 1, 0, 0, 0), (.invokevirtual 251, 3, 40, 2, 1048)]),
  (19, [(.goto 4, 3, 23, 0, 0)]),
  (22, [(.iconst (-1), 1, 0, 0, 0)]),
  (23, [(.ireturn, 1, 0, 0, 0)])]
theorem ck_X10_income : en_ck 129 bs_X10_income = true := by decide +kernel
def bs_X10_answer : en_Bs := [
  (0, [(.aload_n 0, 1, 0, 0, 0), (.getfield 10, 3, 10, 0, 408), (.iload_n 1, 1, 0, 0, 0), (.invokevirtual 126, 3, 3, 2, 508)]),
  (8, [(.ifCond .eq 24, 3, 32, 0, 0)]),
  (11, [(.iload_n 2, 1, 0, 0, 0), (.iconst 0, 1, 0, 0, 0), (.iconst 1, 1, 0, 0, 0), (.invokestatic 97, 3, 154, 3, 467)]),
  (17, [(.ifCond .eq 15, 3, 32, 0, 0)]),
  (20, [(.aload_n 0, 1, 0, 0, 0), (.getfield 83, 3, 10, 10, 418), (.iload_n 1, 1, 0, 0, 0), (.iload_n 2, 1, 0, 0, 0), (.invokevirtual 254, 3, 41, 3, 1064)]),
  (29, [(.goto 4, 3, 33, 0, 0)]),
  (32, [(.iconst (-1), 1, 0, 0, 0)]),
  (33, [(.ireturn, 1, 0, 0, 0)])]
theorem ck_X10_answer : en_ck 130 bs_X10_answer = true := by decide +kernel
def bs_X10_restless : en_Bs := [
  (0, [(.aload_n 0, 1, 0, 0, 0), (.getfield 83, 3, 10, 10, 418), (.invokevirtual 257, 3, 42, 1, 1072)]),
  (7, [(.ireturn, 1, 0, 0, 0)])]
theorem ck_X10_restless : en_ck 131 bs_X10_restless = true := by decide +kernel
def bs_X10_rests : en_Bs := [
  (0, [(.iload_n 1, 1, 0, 0, 0), (.iconst (-1), 1, 0, 0, 0), (.if_icmp .eq 16, 3, 18, 0, 0)]),
  (5, [(.aload_n 0, 1, 0, 0, 0), (.getfield 10, 3, 10, 0, 408), (.iload_n 1, 1, 0, 0, 0), (.invokevirtual 126, 3, 3, 2, 508)]),
  (13, [(.ifCond .ne 5, 3, 18, 0, 0)]),
  (16, [(.iconst (-1), 1, 0, 0, 0), (.ireturn, 1, 0, 0, 0)]),
  (18, [(.aload_n 0, 1, 0, 0, 0), (.getfield 83, 3, 10, 10, 418), (.invokevirtual 260, 3, 43, 1, 1080)]),
  (25, [(.aload_n 0, 1, 0, 0, 0), (.getfield 83, 3, 10, 10, 418), (.iload_n 1, 1, 0, 0, 0), (.invokevirtual 263, 3, 44, 2, 1084)]),
  (33, [(.ireturn, 1, 0, 0, 0)])]
theorem ck_X10_rests : en_ck 132 bs_X10_rests = true := by decide +kernel
def bs_X10_pieces : en_Bs := [
  (0, [(.aload_n 0, 1, 0, 0, 0), (.getfield 10, 3, 10, 0, 408), (.iload_n 1, 1, 0, 0, 0), (.invokevirtual 148, 3, 4, 2, 537)]),
  (8, [(.ifCond .eq 14, 3, 22, 0, 0)]),
  (11, [(.aload_n 0, 1, 0, 0, 0), (.getfield 45, 3, 10, 5, 413), (.iload_n 1, 1, 0, 0, 0), (.invokevirtual 266, 3, 101, 2, 1092)]),
  (19, [(.goto 4, 3, 23, 0, 0)]),
  (22, [(.iconst (-1), 1, 0, 0, 0)]),
  (23, [(.ireturn, 1, 0, 0, 0)])]
theorem ck_X10_pieces : en_ck 133 bs_X10_pieces = true := by decide +kernel
def bs_X10_sign : en_Bs := [
  (0, [(.iload_n 2, 1, 0, 0, 0), (.iconst 0, 1, 0, 0, 0), (.bipush 99, 2, 0, 0, 0), (.invokestatic 97, 3, 154, 3, 467)]),
  (7, [(.ifCond .ne 9, 3, 16, 0, 0)]),
  (10, [(.aload_n 0, 1, 0, 0, 0), (.iconst (-1), 1, 0, 0, 0), (.invokevirtual 108, 3, 144, 2, 476)]),
  (15, [(.ireturn, 1, 0, 0, 0)]),
  (16, [(.aload_n 0, 1, 0, 0, 0), (.getfield 10, 3, 10, 0, 408), (.iload_n 1, 1, 0, 0, 0), (.invokevirtual 126, 3, 3, 2, 508)]),
  (24, [(.ifCond .ne 10, 3, 34, 0, 0)]),
  (27, [(.aload_n 0, 1, 0, 0, 0), (.bipush (-2), 2, 0, 0, 0), (.invokevirtual 108, 3, 144, 2, 476)]),
  (33, [(.ireturn, 1, 0, 0, 0)]),
  (34, [(.aload_n 0, 1, 0, 0, 0), (.getfield 10, 3, 10, 0, 408), (.getfield 269, 3, 0, 12, 124), (.bipush 8, 2, 0, 0, 0), (.if_icmp .lt 10, 3, 53, 0, 0)]),
  (46, [(.aload_n 0, 1, 0, 0, 0), (.bipush (-5), 2, 0, 0, 0), (.invokevirtual 108, 3, 144, 2, 476)]),
  (52, [(.ireturn, 1, 0, 0, 0)]),
  (53, [(.aload_n 0, 1, 0, 0, 0), (.getfield 10, 3, 10, 0, 408), (.getfield 272, 3, 0, 13, 127), (.aload_n 0, 1, 0, 0, 0), (.getfield 10, 3, 10, 0, 408), (.getfield 269, 3, 0, 12, 124), (.iload_n 1, 1, 0, 0, 0), (.iastore, 1, 0, 0, 0), (.aload_n 0, 1, 0, 0, 0), (.getfield 10, 3, 10, 0, 408), (.getfield 275, 3, 0, 14, 130), (.aload_n 0, 1, 0, 0, 0), (.getfield 10, 3, 10, 0, 408), (.getfield 269, 3, 0, 12, 124), (.iload_n 2, 1, 0, 0, 0), (.iastore, 1, 0, 0, 0), (.aload_n 0, 1, 0, 0, 0), (.getfield 10, 3, 10, 0, 408), (.dup, 1, 0, 0, 0), (.getfield 269, 3, 0, 12, 124), (.iconst 1, 1, 0, 0, 0), (.iadd, 1, 0, 0, 0), (.putfield 269, 3, 0, 12, 124), (.aload_n 0, 1, 0, 0, 0), (.aload_n 0, 1, 0, 0, 0), (.getfield 10, 3, 10, 0, 408), (.getfield 269, 3, 0, 12, 124), (.invokevirtual 123, 3, 145, 2, 500)]),
  (109, [(.ireturn, 1, 0, 0, 0)])]
theorem ck_X10_sign : en_ck 134 bs_X10_sign = true := by decide +kernel
def bs_X10_clear : en_Bs := [
  (0, [(.aload_n 0, 1, 0, 0, 0), (.getfield 10, 3, 10, 0, 408), (.getfield 269, 3, 0, 12, 124), (.istore_n 1, 1, 0, 0, 0), (.aload_n 0, 1, 0, 0, 0), (.getfield 10, 3, 10, 0, 408), (.iconst 0, 1, 0, 0, 0), (.putfield 269, 3, 0, 12, 124), (.iload_n 1, 1, 0, 0, 0), (.ireturn, 1, 0, 0, 0)])]
theorem ck_X10_clear : en_ck 135 bs_X10_clear = true := by decide +kernel
def bs_X10_thieves : en_Bs := [
  (0, [(.aload_n 0, 1, 0, 0, 0), (.getfield 45, 3, 10, 5, 413), (.invokevirtual 278, 3, 98, 1, 1110)]),
  (7, [(.ireturn, 1, 0, 0, 0)])]
theorem ck_X10_thieves : en_ck 136 bs_X10_thieves = true := by decide +kernel
def bs_X10_meet : en_Bs := [
  (0, [(.aload_n 0, 1, 0, 0, 0), (.getfield 10, 3, 10, 0, 408), (.iload_n 1, 1, 0, 0, 0), (.invokevirtual 126, 3, 3, 2, 508)]),
  (8, [(.ifCond .eq 23, 3, 31, 0, 0)]),
  (11, [(.aload_n 0, 1, 0, 0, 0), (.getfield 10, 3, 10, 0, 408), (.iload_n 2, 1, 0, 0, 0), (.invokevirtual 126, 3, 3, 2, 508)]),
  (19, [(.ifCond .eq 12, 3, 31, 0, 0)]),
  (22, [(.iload_n 3, 1, 0, 0, 0), (.iconst 0, 1, 0, 0, 0), (.iconst 1, 1, 0, 0, 0), (.invokestatic 97, 3, 154, 3, 467)]),
  (28, [(.ifCond .ne 5, 3, 33, 0, 0)]),
  (31, [(.iconst (-1), 1, 0, 0, 0), (.ireturn, 1, 0, 0, 0)]),
  (33, [(.aload_n 0, 1, 0, 0, 0), (.getfield 45, 3, 10, 5, 413), (.iload_n 1, 1, 0, 0, 0), (.iload_n 2, 1, 0, 0, 0), (.iload_n 3, 1, 0, 0, 0), (.invokevirtual 281, 3, 100, 4, 1122)]),
  (43, [(.ireturn, 1, 0, 0, 0)])]
theorem ck_X10_meet : en_ck 137 bs_X10_meet = true := by decide +kernel
def bs_X10_draw : en_Bs := [
  (0, [(.iload_n 1, 1, 0, 0, 0), (.iconst 0, 1, 0, 0, 0), (.ldc_w 284, 3, 1, 1000000, 1130), (.invokestatic 97, 3, 154, 3, 467)]),
  (8, [(.ifCond .ne 9, 3, 17, 0, 0)]),
  (11, [(.aload_n 0, 1, 0, 0, 0), (.iconst (-1), 1, 0, 0, 0), (.invokevirtual 108, 3, 144, 2, 476)]),
  (16, [(.ireturn, 1, 0, 0, 0)]),
  (17, [(.aload_n 0, 1, 0, 0, 0), (.getfield 61, 3, 10, 7, 415), (.iconst 0, 1, 0, 0, 0), (.invokevirtual 285, 3, 16, 2, 803)]),
  (25, [(.iload_n 1, 1, 0, 0, 0), (.istore_n 2, 1, 0, 0, 0), (.iconst 0, 1, 0, 0, 0), (.istore_n 3, 1, 0, 0, 0)]),
  (29, [(.iload_n 3, 1, 0, 0, 0), (.aload_n 0, 1, 0, 0, 0), (.getfield 10, 3, 10, 0, 408), (.getfield 159, 3, 0, 4, 106), (.if_icmp .ge 27, 3, 64, 0, 0)]),
  (40, [(.iload_n 2, 1, 0, 0, 0), (.invokestatic 288, 3, 151, 1, 1131)]),
  (44, [(.istore_n 2, 1, 0, 0, 0), (.aload_n 0, 1, 0, 0, 0), (.getfield 61, 3, 10, 7, 415), (.getfield 291, 3, 1, 4, 255), (.iload_n 3, 1, 0, 0, 0), (.iload_n 2, 1, 0, 0, 0), (.bipush 30, 2, 0, 0, 0), (.irem, 1, 0, 0, 0), (.iastore, 1, 0, 0, 0), (.iinc 3 1, 3, 0, 0, 0), (.goto (-32), 3, 29, 0, 0)]),
  (64, [(.iconst 0, 1, 0, 0, 0), (.istore_n 3, 1, 0, 0, 0)]),
  (66, [(.iload_n 3, 1, 0, 0, 0), (.aload_n 0, 1, 0, 0, 0), (.getfield 10, 3, 10, 0, 408), (.getfield 112, 3, 0, 0, 86), (.if_icmp .ge 44, 3, 118, 0, 0)]),
  (77, [(.iload_n 2, 1, 0, 0, 0), (.invokestatic 288, 3, 151, 1, 1131)]),
  (81, [(.istore_n 2, 1, 0, 0, 0), (.iload_n 2, 1, 0, 0, 0), (.iconst 3, 1, 0, 0, 0), (.irem, 1, 0, 0, 0), (.ifCond .ne 27, 3, 112, 0, 0)]),
  (88, [(.aload_n 0, 1, 0, 0, 0), (.getfield 61, 3, 10, 7, 415), (.getfield 294, 3, 1, 2, 251), (.iload_n 3, 1, 0, 0, 0), (.iconst 1, 1, 0, 0, 0), (.aload_n 0, 1, 0, 0, 0), (.getfield 61, 3, 10, 7, 415), (.getfield 294, 3, 1, 2, 251), (.iload_n 3, 1, 0, 0, 0), (.iaload, 1, 0, 0, 0), (.iconst 1, 1, 0, 0, 0), (.isub, 1, 0, 0, 0), (.invokestatic 221, 3, 902, 0, 890), (.iastore, 1, 0, 0, 0)]),
  (112, [(.iinc 3 1, 3, 0, 0, 0), (.goto (-49), 3, 66, 0, 0)]),
  (118, [(.aload_n 0, 1, 0, 0, 0), (.getfield 61, 3, 10, 7, 415), (.invokevirtual 295, 3, 18, 1, 819)]),
  (125, [(.aload_n 0, 1, 0, 0, 0), (.aload_n 0, 1, 0, 0, 0), (.getfield 10, 3, 10, 0, 408), (.getfield 159, 3, 0, 4, 106), (.putfield 298, 3, 10, 15, 423), (.aload_n 0, 1, 0, 0, 0), (.getfield 61, 3, 10, 7, 415), (.getfield 218, 3, 1, 9, 262), (.iconst 0, 1, 0, 0, 0), (.aload_n 0, 1, 0, 0, 0), (.getfield 87, 3, 10, 11, 419), (.iconst 0, 1, 0, 0, 0), (.bipush 8, 2, 0, 0, 0), (.invokestatic 301, 3, 901, 0, 1135), (.aload_n 0, 1, 0, 0, 0), (.getfield 61, 3, 10, 7, 415), (.getfield 291, 3, 1, 4, 255), (.iconst 0, 1, 0, 0, 0), (.aload_n 0, 1, 0, 0, 0), (.getfield 91, 3, 10, 12, 420), (.iconst 0, 1, 0, 0, 0), (.bipush 8, 2, 0, 0, 0), (.invokestatic 301, 3, 901, 0, 1135), (.aload_n 0, 1, 0, 0, 0), (.aload_n 0, 1, 0, 0, 0), (.getfield 61, 3, 10, 7, 415), (.invokevirtual 307, 3, 32, 1, 1136)]),
  (180, [(.invokevirtual 123, 3, 145, 2, 500)]),
  (183, [(.ireturn, 1, 0, 0, 0)])]
theorem ck_X10_draw : en_ck 138 bs_X10_draw = true := by decide +kernel
def bs_X10_drawn : en_Bs := [
  (0, [(.iload_n 1, 1, 0, 0, 0), (.iconst 0, 1, 0, 0, 0), (.aload_n 0, 1, 0, 0, 0), (.getfield 298, 3, 10, 15, 423), (.iconst 1, 1, 0, 0, 0), (.isub, 1, 0, 0, 0), (.invokestatic 97, 3, 154, 3, 467)]),
  (11, [(.ifCond .eq 12, 3, 23, 0, 0)]),
  (14, [(.iload_n 2, 1, 0, 0, 0), (.iconst 0, 1, 0, 0, 0), (.iconst 1, 1, 0, 0, 0), (.invokestatic 97, 3, 154, 3, 467)]),
  (20, [(.ifCond .ne 5, 3, 25, 0, 0)]),
  (23, [(.iconst (-1), 1, 0, 0, 0), (.ireturn, 1, 0, 0, 0)]),
  (25, [(.iload_n 2, 1, 0, 0, 0), (.ifCond .ne 12, 3, 38, 0, 0)]),
  (29, [(.aload_n 0, 1, 0, 0, 0), (.getfield 87, 3, 10, 11, 419), (.iload_n 1, 1, 0, 0, 0), (.iaload, 1, 0, 0, 0), (.goto 9, 3, 44, 0, 0)]),
  (38, [(.aload_n 0, 1, 0, 0, 0), (.getfield 91, 3, 10, 12, 420), (.iload_n 1, 1, 0, 0, 0), (.iaload, 1, 0, 0, 0)]),
  (44, [(.ireturn, 1, 0, 0, 0)])]
theorem ck_X10_drawn : en_ck 139 bs_X10_drawn = true := by decide +kernel
def bs_X10_image : en_Bs := [
  (0, [(.aload_n 0, 1, 0, 0, 0), (.iload_n 1, 1, 0, 0, 0), (.invokevirtual 310, 3, 148, 2, 1148)]),
  (5, [(.astore_n 2, 1, 0, 0, 0), (.aload_n 2, 1, 0, 0, 0), (.ifnonnull 9, 3, 16, 0, 0)]),
  (10, [(.aload_n 0, 1, 0, 0, 0), (.iconst (-1), 1, 0, 0, 0), (.invokevirtual 108, 3, 144, 2, 476)]),
  (15, [(.ireturn, 1, 0, 0, 0)]),
  (16, [(.aload_n 2, 1, 0, 0, 0), (.aload_n 0, 1, 0, 0, 0), (.getfield 10, 3, 10, 0, 408), (.invokevirtual 314, 3, 2, 2, 1152)]),
  (24, [(.aload_n 0, 1, 0, 0, 0), (.getfield 20, 3, 10, 2, 410), (.iload_n 1, 1, 0, 0, 0), (.iconst 1, 1, 0, 0, 0), (.bastore, 1, 0, 0, 0), (.aload_n 0, 1, 0, 0, 0), (.iconst 0, 1, 0, 0, 0), (.invokevirtual 123, 3, 145, 2, 500)]),
  (36, [(.ireturn, 1, 0, 0, 0)])]
theorem ck_X10_image : en_ck 140 bs_X10_image = true := by decide +kernel
def bs_X10_back : en_Bs := [
  (0, [(.aload_n 0, 1, 0, 0, 0), (.iload_n 1, 1, 0, 0, 0), (.invokevirtual 310, 3, 148, 2, 1148)]),
  (5, [(.astore_n 2, 1, 0, 0, 0), (.aload_n 2, 1, 0, 0, 0), (.ifnonnull 9, 3, 16, 0, 0)]),
  (10, [(.aload_n 0, 1, 0, 0, 0), (.iconst (-1), 1, 0, 0, 0), (.invokevirtual 108, 3, 144, 2, 476)]),
  (15, [(.ireturn, 1, 0, 0, 0)]),
  (16, [(.aload_n 0, 1, 0, 0, 0), (.getfield 20, 3, 10, 2, 410), (.iload_n 1, 1, 0, 0, 0), (.baload, 1, 0, 0, 0), (.ifCond .ne 10, 3, 32, 0, 0)]),
  (25, [(.aload_n 0, 1, 0, 0, 0), (.bipush (-2), 2, 0, 0, 0), (.invokevirtual 108, 3, 144, 2, 476)]),
  (31, [(.ireturn, 1, 0, 0, 0)]),
  (32, [(.aload_n 0, 1, 0, 0, 0), (.getfield 10, 3, 10, 0, 408), (.aload_n 2, 1, 0, 0, 0), (.invokevirtual 314, 3, 2, 2, 1152)]),
  (40, [(.aload_n 0, 1, 0, 0, 0), (.invokevirtual 116, 3, 146, 1, 480)]),
  (44, [(.aload_n 0, 1, 0, 0, 0), (.iconst 0, 1, 0, 0, 0), (.invokevirtual 123, 3, 145, 2, 500)]),
  (49, [(.ireturn, 1, 0, 0, 0)])]
theorem ck_X10_back : en_ck 141 bs_X10_back = true := by decide +kernel
end
section
def bs_X10_count : en_Bs := [
  (0, [(.iload_n 1, 1, 0, 0, 0), (.tableswitch 191 0 14 #[75, 83, 91, 99, 107, 115, 123, 131, 138, 145, 152, 159, 167, 175, 183], 75, 0, 0, 0)]),
  (76, [(.aload_n 0, 1, 0, 0, 0), (.getfield 10, 3, 10, 0, 408), (.getfield 112, 3, 0, 0, 86), (.ireturn, 1, 0, 0, 0)]),
  (84, [(.aload_n 0, 1, 0, 0, 0), (.getfield 10, 3, 10, 0, 408), (.getfield 159, 3, 0, 4, 106), (.ireturn, 1, 0, 0, 0)]),
  (92, [(.aload_n 0, 1, 0, 0, 0), (.getfield 10, 3, 10, 0, 408), (.getfield 180, 3, 0, 6, 110), (.ireturn, 1, 0, 0, 0)]),
  (100, [(.aload_n 0, 1, 0, 0, 0), (.getfield 10, 3, 10, 0, 408), (.getfield 269, 3, 0, 12, 124), (.ireturn, 1, 0, 0, 0)]),
  (108, [(.aload_n 0, 1, 0, 0, 0), (.invokevirtual 214, 3, 147, 1, 799)]),
  (112, [(.invokevirtual 307, 3, 32, 1, 1136)]),
  (115, [(.ireturn, 1, 0, 0, 0)]),
  (116, [(.aload_n 0, 1, 0, 0, 0), (.invokevirtual 214, 3, 147, 1, 799)]),
  (120, [(.invokevirtual 317, 3, 33, 1, 1164)]),
  (123, [(.ireturn, 1, 0, 0, 0)]),
  (124, [(.aload_n 0, 1, 0, 0, 0), (.getfield 27, 3, 10, 3, 411), (.getfield 168, 3, 8, 1, 171), (.ireturn, 1, 0, 0, 0)]),
  (132, [(.aload_n 0, 1, 0, 0, 0), (.getfield 94, 3, 10, 13, 421), (.iconst 1, 1, 0, 0, 0), (.iaload, 1, 0, 0, 0), (.ireturn, 1, 0, 0, 0)]),
  (139, [(.aload_n 0, 1, 0, 0, 0), (.getfield 94, 3, 10, 13, 421), (.iconst 2, 1, 0, 0, 0), (.iaload, 1, 0, 0, 0), (.ireturn, 1, 0, 0, 0)]),
  (146, [(.aload_n 0, 1, 0, 0, 0), (.getfield 94, 3, 10, 13, 421), (.iconst 3, 1, 0, 0, 0), (.iaload, 1, 0, 0, 0), (.ireturn, 1, 0, 0, 0)]),
  (153, [(.aload_n 0, 1, 0, 0, 0), (.getfield 94, 3, 10, 13, 421), (.iconst 5, 1, 0, 0, 0), (.iaload, 1, 0, 0, 0), (.ireturn, 1, 0, 0, 0)]),
  (160, [(.aload_n 0, 1, 0, 0, 0), (.getfield 94, 3, 10, 13, 421), (.bipush 6, 2, 0, 0, 0), (.iaload, 1, 0, 0, 0), (.ireturn, 1, 0, 0, 0)]),
  (168, [(.aload_n 0, 1, 0, 0, 0), (.getfield 10, 3, 10, 0, 408), (.getfield 198, 3, 0, 9, 114), (.ireturn, 1, 0, 0, 0)]),
  (176, [(.aload_n 0, 1, 0, 0, 0), (.getfield 10, 3, 10, 0, 408), (.getfield 162, 3, 0, 10, 117), (.ireturn, 1, 0, 0, 0)]),
  (184, [(.aload_n 0, 1, 0, 0, 0), (.getfield 10, 3, 10, 0, 408), (.getfield 165, 3, 0, 11, 120), (.ireturn, 1, 0, 0, 0)]),
  (192, [(.iconst (-1), 1, 0, 0, 0), (.ireturn, 1, 0, 0, 0)])]
theorem ck_X10_count : en_ck 142 bs_X10_count = true := by decide +kernel
def bs_X10_status : en_Bs := [
  (0, [(.aload_n 0, 1, 0, 0, 0), (.getfield 320, 3, 10, 17, 425), (.ireturn, 1, 0, 0, 0)])]
theorem ck_X10_status : en_ck 143 bs_X10_status = true := by decide +kernel
def bs_X10_refused : en_Bs := [
  (0, [(.aload_n 0, 1, 0, 0, 0), (.iload_n 1, 1, 0, 0, 0), (.putfield 320, 3, 10, 17, 425), (.iload_n 1, 1, 0, 0, 0), (.ineg, 1, 0, 0, 0), (.iconst 0, 1, 0, 0, 0), (.bipush 6, 2, 0, 0, 0), (.invokestatic 97, 3, 154, 3, 467)]),
  (13, [(.ifCond .eq 14, 3, 27, 0, 0)]),
  (16, [(.aload_n 0, 1, 0, 0, 0), (.getfield 94, 3, 10, 13, 421), (.iload_n 1, 1, 0, 0, 0), (.ineg, 1, 0, 0, 0), (.dup2, 1, 0, 0, 0), (.iaload, 1, 0, 0, 0), (.iconst 1, 1, 0, 0, 0), (.iadd, 1, 0, 0, 0), (.iastore, 1, 0, 0, 0)]),
  (27, [(.iload_n 1, 1, 0, 0, 0), (.ireturn, 1, 0, 0, 0)])]
theorem ck_X10_refused : en_ck 144 bs_X10_refused = true := by decide +kernel
def bs_X10_accepted : en_Bs := [
  (0, [(.aload_n 0, 1, 0, 0, 0), (.iconst 0, 1, 0, 0, 0), (.putfield 320, 3, 10, 17, 425), (.iload_n 1, 1, 0, 0, 0), (.ireturn, 1, 0, 0, 0)])]
theorem ck_X10_accepted : en_ck 145 bs_X10_accepted = true := by decide +kernel
def bs_X10_changed : en_Bs := [
  (0, [(.aload_n 0, 1, 0, 0, 0), (.iconst 0, 1, 0, 0, 0), (.putfield 323, 3, 10, 14, 422), (.aload_n 0, 1, 0, 0, 0), (.getfield 69, 3, 10, 8, 416), (.invokevirtual 327, 3, 84, 1, 484)]),
  (12, [(.aload_n 0, 1, 0, 0, 0), (.getfield 76, 3, 10, 9, 417), (.invokevirtual 330, 3, 80, 1, 488)]),
  (19, [(.aload_n 0, 1, 0, 0, 0), (.getfield 83, 3, 10, 10, 418), (.invokevirtual 331, 3, 38, 1, 492)]),
  (26, [(.return_, 1, 0, 0, 0)])]
theorem ck_X10_changed : en_ck 146 bs_X10_changed = true := by decide +kernel
def bs_X10_dayNow : en_Bs := [
  (0, [(.aload_n 0, 1, 0, 0, 0), (.getfield 323, 3, 10, 14, 422), (.ifCond .ne 23, 3, 27, 0, 0)]),
  (7, [(.aload_n 0, 1, 0, 0, 0), (.getfield 57, 3, 10, 6, 414), (.iconst 0, 1, 0, 0, 0), (.invokevirtual 285, 3, 16, 2, 803)]),
  (15, [(.aload_n 0, 1, 0, 0, 0), (.getfield 57, 3, 10, 6, 414), (.invokevirtual 295, 3, 18, 1, 819)]),
  (22, [(.aload_n 0, 1, 0, 0, 0), (.iconst 1, 1, 0, 0, 0), (.putfield 323, 3, 10, 14, 422)]),
  (27, [(.aload_n 0, 1, 0, 0, 0), (.getfield 57, 3, 10, 6, 414), (.areturn, 1, 0, 0, 0)])]
theorem ck_X10_dayNow : en_ck 147 bs_X10_dayNow = true := by decide +kernel
def bs_X10_imageOf : en_Bs := [
  (0, [(.iload_n 1, 1, 0, 0, 0), (.iconst 0, 1, 0, 0, 0), (.iconst 1, 1, 0, 0, 0), (.invokestatic 97, 3, 154, 3, 467)]),
  (6, [(.ifCond .eq 12, 3, 18, 0, 0)]),
  (9, [(.aload_n 0, 1, 0, 0, 0), (.getfield 16, 3, 10, 1, 409), (.iload_n 1, 1, 0, 0, 0), (.aaload, 1, 0, 0, 0), (.goto 4, 3, 19, 0, 0)]),
  (18, [(.aconst_null, 1, 0, 0, 0)]),
  (19, [(.areturn, 1, 0, 0, 0)])]
theorem ck_X10_imageOf : en_ck 148 bs_X10_imageOf = true := by decide +kernel
def bs_X10_whyNoLoad : en_Bs := [
  (0, [(.iload_n 1, 1, 0, 0, 0), (.iconst 1, 1, 0, 0, 0), (.bipush 9, 2, 0, 0, 0), (.invokestatic 97, 3, 154, 3, 467)]),
  (7, [(.ifCond .eq 37, 3, 44, 0, 0)]),
  (10, [(.iload 4, 2, 0, 0, 0), (.iconst 0, 1, 0, 0, 0), (.bipush 99, 2, 0, 0, 0), (.invokestatic 97, 3, 154, 3, 467)]),
  (18, [(.ifCond .eq 26, 3, 44, 0, 0)]),
  (21, [(.iload 5, 2, 0, 0, 0), (.iconst 0, 1, 0, 0, 0), (.bipush 9, 2, 0, 0, 0), (.invokestatic 97, 3, 154, 3, 467)]),
  (29, [(.ifCond .eq 15, 3, 44, 0, 0)]),
  (32, [(.iload 6, 2, 0, 0, 0), (.iconst 0, 1, 0, 0, 0), (.sipush 9999, 3, 0, 0, 0), (.invokestatic 97, 3, 154, 3, 467)]),
  (41, [(.ifCond .ne 5, 3, 46, 0, 0)]),
  (44, [(.iconst (-1), 1, 0, 0, 0), (.ireturn, 1, 0, 0, 0)]),
  (46, [(.aload_n 0, 1, 0, 0, 0), (.getfield 10, 3, 10, 0, 408), (.iload_n 2, 1, 0, 0, 0), (.invokevirtual 126, 3, 3, 2, 508)]),
  (54, [(.ifCond .eq 14, 3, 68, 0, 0)]),
  (57, [(.aload_n 0, 1, 0, 0, 0), (.getfield 10, 3, 10, 0, 408), (.iload_n 3, 1, 0, 0, 0), (.invokevirtual 126, 3, 3, 2, 508)]),
  (65, [(.ifCond .ne 6, 3, 71, 0, 0)]),
  (68, [(.bipush (-2), 2, 0, 0, 0), (.ireturn, 1, 0, 0, 0)]),
  (71, [(.aload_n 0, 1, 0, 0, 0), (.getfield 10, 3, 10, 0, 408), (.getfield 159, 3, 0, 4, 106), (.bipush 8, 2, 0, 0, 0), (.if_icmp .lt 8, 3, 88, 0, 0)]),
  (83, [(.bipush (-5), 2, 0, 0, 0), (.goto 4, 3, 89, 0, 0)]),
  (88, [(.iconst 0, 1, 0, 0, 0)]),
  (89, [(.ireturn, 1, 0, 0, 0)])]
theorem ck_X10_whyNoLoad : en_ck 149 bs_X10_whyNoLoad = true := by decide +kernel
def bs_X10_addFromTape : en_Bs := [
  (0, [(.aload_n 0, 1, 0, 0, 0), (.getfield 27, 3, 10, 3, 411), (.iload_n 1, 1, 0, 0, 0), (.iconst 0, 1, 0, 0, 0), (.iadd, 1, 0, 0, 0), (.invokevirtual 332, 3, 94, 2, 581)]),
  (10, [(.istore_n 2, 1, 0, 0, 0), (.aload_n 0, 1, 0, 0, 0), (.getfield 27, 3, 10, 3, 411), (.iload_n 1, 1, 0, 0, 0), (.iconst 1, 1, 0, 0, 0), (.iadd, 1, 0, 0, 0), (.invokevirtual 332, 3, 94, 2, 581)]),
  (21, [(.istore_n 3, 1, 0, 0, 0), (.aload_n 0, 1, 0, 0, 0), (.getfield 27, 3, 10, 3, 411), (.iload_n 1, 1, 0, 0, 0), (.iconst 2, 1, 0, 0, 0), (.iadd, 1, 0, 0, 0), (.invokevirtual 332, 3, 94, 2, 581)]),
  (32, [(.istore 4, 2, 0, 0, 0), (.aload_n 0, 1, 0, 0, 0), (.getfield 27, 3, 10, 3, 411), (.iload_n 1, 1, 0, 0, 0), (.iconst 3, 1, 0, 0, 0), (.iadd, 1, 0, 0, 0), (.invokevirtual 332, 3, 94, 2, 581)]),
  (44, [(.istore 5, 2, 0, 0, 0), (.aload_n 0, 1, 0, 0, 0), (.getfield 27, 3, 10, 3, 411), (.iload_n 1, 1, 0, 0, 0), (.iconst 4, 1, 0, 0, 0), (.iadd, 1, 0, 0, 0), (.invokevirtual 332, 3, 94, 2, 581)]),
  (56, [(.istore 6, 2, 0, 0, 0), (.aload_n 0, 1, 0, 0, 0), (.getfield 27, 3, 10, 3, 411), (.iload_n 1, 1, 0, 0, 0), (.iconst 5, 1, 0, 0, 0), (.iadd, 1, 0, 0, 0), (.invokevirtual 332, 3, 94, 2, 581)]),
  (68, [(.istore 7, 2, 0, 0, 0), (.aload_n 0, 1, 0, 0, 0), (.iload_n 2, 1, 0, 0, 0), (.iload_n 3, 1, 0, 0, 0), (.iload 4, 2, 0, 0, 0), (.iload 5, 2, 0, 0, 0), (.iload 6, 2, 0, 0, 0), (.iload 7, 2, 0, 0, 0), (.invokevirtual 141, 3, 149, 7, 525)]),
  (84, [(.ifCond .eq 5, 3, 89, 0, 0)]),
  (87, [(.iconst 0, 1, 0, 0, 0), (.ireturn, 1, 0, 0, 0)]),
  (89, [(.aload_n 0, 1, 0, 0, 0), (.getfield 10, 3, 10, 0, 408), (.iload_n 2, 1, 0, 0, 0), (.iload_n 3, 1, 0, 0, 0), (.iload 4, 2, 0, 0, 0), (.iload 5, 2, 0, 0, 0), (.iload 6, 2, 0, 0, 0), (.iload 7, 2, 0, 0, 0), (.invokevirtual 145, 3, 6, 7, 529)]),
  (106, [(.pop, 1, 0, 0, 0), (.iconst 1, 1, 0, 0, 0), (.ireturn, 1, 0, 0, 0)])]
theorem ck_X10_addFromTape : en_ck 150 bs_X10_addFromTape = true := by decide +kernel
def bs_X10_drawAfter : en_Bs := [
  (0, [(.iload_n 0, 1, 0, 0, 0), (.sipush 1103, 3, 0, 0, 0), (.imul, 1, 0, 0, 0), (.sipush 12345, 3, 0, 0, 0), (.iadd, 1, 0, 0, 0), (.ldc_w 334, 3, 1, 1000003, 1134), (.irem, 1, 0, 0, 0), (.ireturn, 1, 0, 0, 0)])]
theorem ck_X10_drawAfter : en_ck 151 bs_X10_drawAfter = true := by decide +kernel
def bs_X10_isStrength : en_Bs := [
  (0, [(.iload_n 0, 1, 0, 0, 0), (.iconst 1, 1, 0, 0, 0), (.bipush 9, 2, 0, 0, 0), (.invokestatic 97, 3, 154, 3, 467)]),
  (7, [(.ireturn, 1, 0, 0, 0)])]
theorem ck_X10_isStrength : en_ck 152 bs_X10_isStrength = true := by decide +kernel
def bs_X10_isFee : en_Bs := [
  (0, [(.iload_n 0, 1, 0, 0, 0), (.iconst 0, 1, 0, 0, 0), (.bipush 99, 2, 0, 0, 0), (.invokestatic 97, 3, 154, 3, 467)]),
  (7, [(.ireturn, 1, 0, 0, 0)])]
theorem ck_X10_isFee : en_ck 153 bs_X10_isFee = true := by decide +kernel
def bs_X10_within : en_Bs := [
  (0, [(.iload_n 0, 1, 0, 0, 0), (.iload_n 1, 1, 0, 0, 0), (.if_icmp .lt 12, 3, 14, 0, 0)]),
  (5, [(.iload_n 0, 1, 0, 0, 0), (.iload_n 2, 1, 0, 0, 0), (.if_icmp .gt 7, 3, 14, 0, 0)]),
  (10, [(.iconst 1, 1, 0, 0, 0), (.goto 4, 3, 15, 0, 0)]),
  (14, [(.iconst 0, 1, 0, 0, 0)]),
  (15, [(.ireturn, 1, 0, 0, 0)])]
theorem ck_X10_within : en_ck 154 bs_X10_within = true := by decide +kernel
def bs_X10_hasBit : en_Bs := [
  (0, [(.iload_n 0, 1, 0, 0, 0), (.iload_n 1, 1, 0, 0, 0), (.ishr, 1, 0, 0, 0), (.iconst 1, 1, 0, 0, 0), (.iand, 1, 0, 0, 0), (.ifCond .eq 7, 3, 12, 0, 0)]),
  (8, [(.iconst 1, 1, 0, 0, 0), (.goto 4, 3, 13, 0, 0)]),
  (12, [(.iconst 0, 1, 0, 0, 0)]),
  (13, [(.ireturn, 1, 0, 0, 0)])]
theorem ck_X10_hasBit : en_ck 155 bs_X10_hasBit = true := by decide +kernel
def bs_X10_areBits : en_Bs := [
  (0, [(.iload_n 0, 1, 0, 0, 0), (.ifCond .lt 13, 3, 14, 0, 0)]),
  (4, [(.iload_n 0, 1, 0, 0, 0), (.iload_n 1, 1, 0, 0, 0), (.ishr, 1, 0, 0, 0), (.ifCond .ne 7, 3, 14, 0, 0)]),
  (10, [(.iconst 1, 1, 0, 0, 0), (.goto 4, 3, 15, 0, 0)]),
  (14, [(.iconst 0, 1, 0, 0, 0)]),
  (15, [(.ireturn, 1, 0, 0, 0)])]
theorem ck_X10_areBits : en_ck 156 bs_X10_areBits = true := by decide +kernel
def bs_X10_exchange : en_Bs := [
  (0, [(.aload_n 0, 1, 0, 0, 0), (.iload_n 1, 1, 0, 0, 0), (.iaload, 1, 0, 0, 0), (.istore_n 3, 1, 0, 0, 0), (.aload_n 0, 1, 0, 0, 0), (.iload_n 1, 1, 0, 0, 0), (.aload_n 0, 1, 0, 0, 0), (.iload_n 2, 1, 0, 0, 0), (.iaload, 1, 0, 0, 0), (.iastore, 1, 0, 0, 0), (.aload_n 0, 1, 0, 0, 0), (.iload_n 2, 1, 0, 0, 0), (.iload_n 3, 1, 0, 0, 0), (.iastore, 1, 0, 0, 0), (.return_, 1, 0, 0, 0)])]
theorem ck_X10_exchange : en_ck 157 bs_X10_exchange = true := by decide +kernel
def bs_X11_init : en_Bs := [
  (0, [(.aload_n 0, 1, 0, 0, 0), (.invokespecial 1, 3, 900, 0, 1177), (.aload_n 0, 1, 0, 0, 0), (.bipush 7, 2, 0, 0, 0), (.newarray .int, 2, 0, 0, 0), (.putfield 7, 3, 11, 2, 1192), (.aload_n 0, 1, 0, 0, 0), (.sipush 5510, 3, 0, 0, 0), (.newarray .int, 2, 0, 0, 0), (.putfield 13, 3, 11, 3, 1193), (.aload_n 0, 1, 0, 0, 0), (.sipush 11020, 3, 0, 0, 0), (.newarray .int, 2, 0, 0, 0), (.putfield 16, 3, 11, 4, 1194), (.aload_n 0, 1, 0, 0, 0), (.iconst 2, 1, 0, 0, 0), (.newarray .boolean, 2, 0, 0, 0), (.putfield 19, 3, 11, 5, 1195), (.aload_n 0, 1, 0, 0, 0), (.sipush 400, 3, 0, 0, 0), (.newarray .int, 2, 0, 0, 0), (.putfield 23, 3, 11, 7, 1197), (.aload_n 0, 1, 0, 0, 0), (.iconst (-1), 1, 0, 0, 0), (.putfield 26, 3, 11, 13, 1203), (.aload_n 0, 1, 0, 0, 0), (.bipush 96, 2, 0, 0, 0), (.newarray .int, 2, 0, 0, 0), (.putfield 30, 3, 11, 16, 1206), (.aload_n 0, 1, 0, 0, 0), (.sipush 400, 3, 0, 0, 0), (.newarray .int, 2, 0, 0, 0), (.putfield 33, 3, 11, 18, 1208), (.aload_n 0, 1, 0, 0, 0), (.sipush 400, 3, 0, 0, 0), (.newarray .int, 2, 0, 0, 0), (.putfield 36, 3, 11, 19, 1209), (.aload_n 0, 1, 0, 0, 0), (.sipush 400, 3, 0, 0, 0), (.newarray .int, 2, 0, 0, 0), (.putfield 39, 3, 11, 21, 1211), (.aload_n 0, 1, 0, 0, 0), (.sipush 400, 3, 0, 0, 0), (.newarray .int, 2, 0, 0, 0), (.putfield 42, 3, 11, 22, 1212), (.aload_n 0, 1, 0, 0, 0), (.bipush 9, 2, 0, 0, 0), (.newarray .long, 2, 0, 0, 0), (.dup, 1, 0, 0, 0), (.iconst 0, 1, 0, 0, 0), (.ldc2_w 45, 3, 0, 408612, 1178), (.lastore, 1, 0, 0, 0), (.dup, 1, 0, 0, 0), (.iconst 1, 1, 0, 0, 0), (.ldc2_w 47, 3, 0, 777297172, 1179), (.lastore, 1, 0, 0, 0), (.dup, 1, 0, 0, 0), (.iconst 2, 1, 0, 0, 0), (.ldc2_w 49, 3, 0, 8441477, 1180), (.lastore, 1, 0, 0, 0), (.dup, 1, 0, 0, 0), (.iconst 3, 1, 0, 0, 0), (.ldc2_w 51, 3, 0, 20579780, 1181), (.lastore, 1, 0, 0, 0), (.dup, 1, 0, 0, 0), (.iconst 4, 1, 0, 0, 0), (.ldc2_w 53, 3, 0, 398548, 1182), (.lastore, 1, 0, 0, 0), (.dup, 1, 0, 0, 0), (.iconst 5, 1, 0, 0, 0), (.ldc2_w 55, 3, 0, 446125701, 1183), (.lastore, 1, 0, 0, 0), (.dup, 1, 0, 0, 0), (.bipush 6, 2, 0, 0, 0), (.ldc2_w 57, 3, 0, 24159891, 1184), (.lastore, 1, 0, 0, 0), (.dup, 1, 0, 0, 0), (.bipush 7, 2, 0, 0, 0), (.ldc2_w 59, 3, 0, 674919554696, 1185), (.lastore, 1, 0, 0, 0), (.dup, 1, 0, 0, 0), (.bipush 8, 2, 0, 0, 0), (.ldc2_w 61, 3, 0, 52595, 1186), (.lastore, 1, 0, 0, 0), (.putfield 63, 3, 11, 25, 1215), (.aload_n 0, 1, 0, 0, 0), (.iconst 3, 1, 0, 0, 0), (.newarray .long, 2, 0, 0, 0), (.dup, 1, 0, 0, 0), (.iconst 0, 1, 0, 0, 0), (.ldc2_w 67, 3, 0, 6605428, 1187), (.lastore, 1, 0, 0, 0), (.dup, 1, 0, 0, 0), (.iconst 1, 1, 0, 0, 0), (.ldc2_w 69, 3, 0, 6309, 1188), (.lastore, 1, 0, 0, 0), (.dup, 1, 0, 0, 0), (.iconst 2, 1, 0, 0, 0), (.ldc2_w 71, 3, 0, 67155, 1189), (.lastore, 1, 0, 0, 0), (.putfield 73, 3, 11, 26, 1216), (.aload_n 0, 1, 0, 0, 0), (.bipush 13, 2, 0, 0, 0), (.newarray .long, 2, 0, 0, 0), (.putfield 76, 3, 11, 28, 1218), (.aload_n 0, 1, 0, 0, 0), (.sipush 400, 3, 0, 0, 0), (.newarray .long, 2, 0, 0, 0), (.putfield 79, 3, 11, 29, 1219), (.aload_n 0, 1, 0, 0, 0), (.bipush 12, 2, 0, 0, 0), (.newarray .int, 2, 0, 0, 0), (.putfield 82, 3, 11, 33, 1223), (.aload_n 0, 1, 0, 0, 0), (.bipush 12, 2, 0, 0, 0), (.newarray .int, 2, 0, 0, 0), (.putfield 85, 3, 11, 34, 1224), (.aload_n 0, 1, 0, 0, 0), (.bipush 8, 2, 0, 0, 0), (.newarray .int, 2, 0, 0, 0), (.putfield 88, 3, 11, 35, 1225), (.aload_n 0, 1, 0, 0, 0), (.bipush 13, 2, 0, 0, 0), (.newarray .int, 2, 0, 0, 0), (.putfield 91, 3, 11, 37, 1227), (.aload_n 0, 1, 0, 0, 0), (.bipush 8, 2, 0, 0, 0), (.newarray .int, 2, 0, 0, 0), (.putfield 94, 3, 11, 38, 1228), (.aload_n 0, 1, 0, 0, 0), (.bipush 8, 2, 0, 0, 0), (.newarray .int, 2, 0, 0, 0), (.putfield 97, 3, 11, 39, 1229), (.aload_n 0, 1, 0, 0, 0), (.bipush 8, 2, 0, 0, 0), (.newarray .int, 2, 0, 0, 0), (.putfield 100, 3, 11, 40, 1230), (.aload_n 0, 1, 0, 0, 0), (.bipush 8, 2, 0, 0, 0), (.newarray .int, 2, 0, 0, 0), (.putfield 103, 3, 11, 41, 1231), (.aload_n 0, 1, 0, 0, 0), (.bipush 8, 2, 0, 0, 0), (.newarray .int, 2, 0, 0, 0), (.putfield 106, 3, 11, 42, 1232), (.aload_n 0, 1, 0, 0, 0), (.bipush 8, 2, 0, 0, 0), (.newarray .boolean, 2, 0, 0, 0), (.putfield 109, 3, 11, 43, 1233), (.aload_n 0, 1, 0, 0, 0), (.sipush 800, 3, 0, 0, 0), (.newarray .int, 2, 0, 0, 0), (.putfield 112, 3, 11, 44, 1234), (.aload_n 0, 1, 0, 0, 0), (.bipush 8, 2, 0, 0, 0), (.newarray .int, 2, 0, 0, 0), (.putfield 115, 3, 11, 49, 1239), (.aload_n 0, 1, 0, 0, 0), (.bipush 8, 2, 0, 0, 0), (.newarray .int, 2, 0, 0, 0), (.putfield 118, 3, 11, 50, 1240), (.aload_n 0, 1, 0, 0, 0), (.getfield 13, 3, 11, 3, 1193), (.iconst 3, 1, 0, 0, 0), (.iconst (-1), 1, 0, 0, 0), (.iastore, 1, 0, 0, 0), (.aload_n 0, 1, 0, 0, 0), (.getfield 13, 3, 11, 3, 1193), (.iconst 5, 1, 0, 0, 0), (.bipush 60, 2, 0, 0, 0), (.iastore, 1, 0, 0, 0), (.aload_n 0, 1, 0, 0, 0), (.getfield 13, 3, 11, 3, 1193), (.bipush 6, 2, 0, 0, 0), (.iconst 2, 1, 0, 0, 0), (.iastore, 1, 0, 0, 0), (.return_, 1, 0, 0, 0)])]
theorem ck_X11_init : en_ck 158 bs_X11_init = true := by decide +kernel
def bs_X11_in : en_Bs := [
  (0, [(.lload_n 0, 1, 0, 0, 0), (.lload_n 2, 1, 0, 0, 0), (.lcmp, 1, 0, 0, 0), (.ifCond .lt 14, 3, 17, 0, 0)]),
  (6, [(.lload_n 0, 1, 0, 0, 0), (.lload 4, 2, 0, 0, 0), (.lcmp, 1, 0, 0, 0), (.ifCond .gt 7, 3, 17, 0, 0)]),
  (13, [(.iconst 1, 1, 0, 0, 0), (.goto 4, 3, 18, 0, 0)]),
  (17, [(.iconst 0, 1, 0, 0, 0)]),
  (18, [(.ireturn, 1, 0, 0, 0)])]
theorem ck_X11_in : en_ck 159 bs_X11_in = true := by decide +kernel
def bs_X11_is : en_Bs := [
  (0, [(.iload_n 0, 1, 0, 0, 0), (.iload_n 1, 1, 0, 0, 0), (.ishr, 1, 0, 0, 0), (.iconst 1, 1, 0, 0, 0), (.iand, 1, 0, 0, 0), (.iconst 1, 1, 0, 0, 0), (.if_icmp .ne 7, 3, 13, 0, 0)]),
  (9, [(.iconst 1, 1, 0, 0, 0), (.goto 4, 3, 14, 0, 0)]),
  (13, [(.iconst 0, 1, 0, 0, 0)]),
  (14, [(.ireturn, 1, 0, 0, 0)])]
theorem ck_X11_is : en_ck 160 bs_X11_is = true := by decide +kernel
def bs_X11_bits : en_Bs := [
  (0, [(.iconst 0, 1, 0, 0, 0), (.istore_n 1, 1, 0, 0, 0), (.iconst 0, 1, 0, 0, 0), (.istore_n 2, 1, 0, 0, 0)]),
  (4, [(.iload_n 2, 1, 0, 0, 0), (.bipush 12, 2, 0, 0, 0), (.if_icmp .ge 17, 3, 24, 0, 0)]),
  (10, [(.iload_n 1, 1, 0, 0, 0), (.iload_n 0, 1, 0, 0, 0), (.iload_n 2, 1, 0, 0, 0), (.ishr, 1, 0, 0, 0), (.iconst 1, 1, 0, 0, 0), (.iand, 1, 0, 0, 0), (.iadd, 1, 0, 0, 0), (.istore_n 1, 1, 0, 0, 0), (.iinc 2 1, 3, 0, 0, 0), (.goto (-17), 3, 4, 0, 0)]),
  (24, [(.iload_n 1, 1, 0, 0, 0), (.ireturn, 1, 0, 0, 0)])]
theorem ck_X11_bits : en_ck 161 bs_X11_bits = true := by decide +kernel
def bs_X11_tell : en_Bs := [
  (0, [(.aload_n 0, 1, 0, 0, 0), (.iload_n 1, 1, 0, 0, 0), (.ifCond .ge 7, 3, 9, 0, 0)]),
  (5, [(.iload_n 1, 1, 0, 0, 0), (.goto 4, 3, 10, 0, 0)]),
  (9, [(.iconst 0, 1, 0, 0, 0)]),
  (10, [(.putfield 124, 3, 11, 1, 1191), (.iload_n 1, 1, 0, 0, 0), (.ifCond .ge 14, 3, 28, 0, 0)]),
  (17, [(.aload_n 0, 1, 0, 0, 0), (.getfield 7, 3, 11, 2, 1192), (.iload_n 1, 1, 0, 0, 0), (.ineg, 1, 0, 0, 0), (.dup2, 1, 0, 0, 0), (.iaload, 1, 0, 0, 0), (.iconst 1, 1, 0, 0, 0), (.iadd, 1, 0, 0, 0), (.iastore, 1, 0, 0, 0)]),
  (28, [(.iload_n 1, 1, 0, 0, 0), (.ireturn, 1, 0, 0, 0)])]
theorem ck_X11_tell : en_ck 162 bs_X11_tell = true := by decide +kernel
def bs_X11_was : en_Bs := [
  (0, [(.aload_n 0, 1, 0, 0, 0), (.iconst 0, 1, 0, 0, 0), (.putfield 124, 3, 11, 1, 1191), (.iload_n 1, 1, 0, 0, 0), (.ireturn, 1, 0, 0, 0)])]
theorem ck_X11_was : en_ck 163 bs_X11_was = true := by decide +kernel
def bs_X11_change : en_Bs := [
  (0, [(.aload_n 0, 1, 0, 0, 0), (.getfield 13, 3, 11, 3, 1193), (.iload_n 1, 1, 0, 0, 0), (.iaload, 1, 0, 0, 0), (.istore_n 3, 1, 0, 0, 0), (.aload_n 0, 1, 0, 0, 0), (.getfield 13, 3, 11, 3, 1193), (.iload_n 1, 1, 0, 0, 0), (.iload_n 2, 1, 0, 0, 0), (.iastore, 1, 0, 0, 0), (.aload_n 0, 1, 0, 0, 0), (.iload_n 3, 1, 0, 0, 0), (.invokevirtual 127, 3, 163, 2, 1385)]),
  (19, [(.ireturn, 1, 0, 0, 0)])]
theorem ck_X11_change : en_ck 164 bs_X11_change = true := by decide +kernel
def bs_X11_image : en_Bs := [
  (0, [(.aload_n 0, 1, 0, 0, 0), (.iconst 0, 1, 0, 0, 0), (.putfield 121, 3, 11, 0, 1190), (.iload_n 1, 1, 0, 0, 0), (.i2l, 1, 0, 0, 0), (.lconst 0, 1, 0, 0, 0), (.lconst 1, 1, 0, 0, 0), (.invokestatic 131, 3, 159, 3, 1351)]),
  (12, [(.ifCond .ne 9, 3, 21, 0, 0)]),
  (15, [(.aload_n 0, 1, 0, 0, 0), (.iconst (-1), 1, 0, 0, 0), (.invokevirtual 135, 3, 162, 2, 1354)]),
  (20, [(.ireturn, 1, 0, 0, 0)]),
  (21, [(.iconst 0, 1, 0, 0, 0), (.istore_n 2, 1, 0, 0, 0)]),
  (23, [(.iload_n 2, 1, 0, 0, 0), (.sipush 5510, 3, 0, 0, 0), (.if_icmp .ge 27, 3, 54, 0, 0)]),
  (30, [(.aload_n 0, 1, 0, 0, 0), (.getfield 16, 3, 11, 4, 1194), (.sipush 5510, 3, 0, 0, 0), (.iload_n 1, 1, 0, 0, 0), (.imul, 1, 0, 0, 0), (.iload_n 2, 1, 0, 0, 0), (.iadd, 1, 0, 0, 0), (.aload_n 0, 1, 0, 0, 0), (.getfield 13, 3, 11, 3, 1193), (.iload_n 2, 1, 0, 0, 0), (.iaload, 1, 0, 0, 0), (.iastore, 1, 0, 0, 0), (.iinc 2 1, 3, 0, 0, 0), (.goto (-28), 3, 23, 0, 0)]),
  (54, [(.aload_n 0, 1, 0, 0, 0), (.getfield 19, 3, 11, 5, 1195), (.iload_n 1, 1, 0, 0, 0), (.iconst 1, 1, 0, 0, 0), (.bastore, 1, 0, 0, 0), (.aload_n 0, 1, 0, 0, 0), (.iconst 0, 1, 0, 0, 0), (.invokevirtual 135, 3, 162, 2, 1354)]),
  (66, [(.ireturn, 1, 0, 0, 0)])]
theorem ck_X11_image : en_ck 165 bs_X11_image = true := by decide +kernel
def bs_X11_back : en_Bs := [
  (0, [(.aload_n 0, 1, 0, 0, 0), (.iconst 0, 1, 0, 0, 0), (.putfield 121, 3, 11, 0, 1190), (.iload_n 1, 1, 0, 0, 0), (.i2l, 1, 0, 0, 0), (.lconst 0, 1, 0, 0, 0), (.lconst 1, 1, 0, 0, 0), (.invokestatic 131, 3, 159, 3, 1351)]),
  (12, [(.ifCond .ne 9, 3, 21, 0, 0)]),
  (15, [(.aload_n 0, 1, 0, 0, 0), (.iconst (-1), 1, 0, 0, 0), (.invokevirtual 135, 3, 162, 2, 1354)]),
  (20, [(.ireturn, 1, 0, 0, 0)]),
  (21, [(.aload_n 0, 1, 0, 0, 0), (.getfield 19, 3, 11, 5, 1195), (.iload_n 1, 1, 0, 0, 0), (.baload, 1, 0, 0, 0), (.ifCond .ne 10, 3, 37, 0, 0)]),
  (30, [(.aload_n 0, 1, 0, 0, 0), (.bipush (-2), 2, 0, 0, 0), (.invokevirtual 135, 3, 162, 2, 1354)]),
  (36, [(.ireturn, 1, 0, 0, 0)]),
  (37, [(.iconst 0, 1, 0, 0, 0), (.istore_n 2, 1, 0, 0, 0)]),
  (39, [(.iload_n 2, 1, 0, 0, 0), (.sipush 5510, 3, 0, 0, 0), (.if_icmp .ge 27, 3, 70, 0, 0)]),
  (46, [(.aload_n 0, 1, 0, 0, 0), (.getfield 13, 3, 11, 3, 1193), (.iload_n 2, 1, 0, 0, 0), (.aload_n 0, 1, 0, 0, 0), (.getfield 16, 3, 11, 4, 1194), (.sipush 5510, 3, 0, 0, 0), (.iload_n 1, 1, 0, 0, 0), (.imul, 1, 0, 0, 0), (.iload_n 2, 1, 0, 0, 0), (.iadd, 1, 0, 0, 0), (.iaload, 1, 0, 0, 0), (.iastore, 1, 0, 0, 0), (.iinc 2 1, 3, 0, 0, 0), (.goto (-28), 3, 39, 0, 0)]),
  (70, [(.aload_n 0, 1, 0, 0, 0), (.iconst 0, 1, 0, 0, 0), (.invokevirtual 135, 3, 162, 2, 1354)]),
  (75, [(.ireturn, 1, 0, 0, 0)])]
theorem ck_X11_back : en_ck 166 bs_X11_back = true := by decide +kernel
def bs_X11_isStand : en_Bs := [
  (0, [(.iload_n 1, 1, 0, 0, 0), (.i2l, 1, 0, 0, 0), (.lconst 0, 1, 0, 0, 0), (.aload_n 0, 1, 0, 0, 0), (.getfield 13, 3, 11, 3, 1193), (.iconst 0, 1, 0, 0, 0), (.iaload, 1, 0, 0, 0), (.i2l, 1, 0, 0, 0), (.lconst 1, 1, 0, 0, 0), (.lsub, 1, 0, 0, 0), (.invokestatic 131, 3, 159, 3, 1351)]),
  (15, [(.ireturn, 1, 0, 0, 0)])]
theorem ck_X11_isStand : en_ck 167 bs_X11_isStand = true := by decide +kernel
def bs_X11_isLoad : en_Bs := [
  (0, [(.iload_n 1, 1, 0, 0, 0), (.i2l, 1, 0, 0, 0), (.lconst 0, 1, 0, 0, 0), (.aload_n 0, 1, 0, 0, 0), (.getfield 13, 3, 11, 3, 1193), (.iconst 1, 1, 0, 0, 0), (.iaload, 1, 0, 0, 0), (.i2l, 1, 0, 0, 0), (.lconst 1, 1, 0, 0, 0), (.lsub, 1, 0, 0, 0), (.invokestatic 131, 3, 159, 3, 1351)]),
  (15, [(.ireturn, 1, 0, 0, 0)])]
theorem ck_X11_isLoad : en_ck 168 bs_X11_isLoad = true := by decide +kernel
def bs_X11_ofStand : en_Bs := [
  (0, [(.aload_n 0, 1, 0, 0, 0), (.getfield 13, 3, 11, 3, 1193), (.bipush 10, 2, 0, 0, 0), (.iconst 3, 1, 0, 0, 0), (.iload_n 1, 1, 0, 0, 0), (.imul, 1, 0, 0, 0), (.iadd, 1, 0, 0, 0), (.iload_n 2, 1, 0, 0, 0), (.iadd, 1, 0, 0, 0), (.iaload, 1, 0, 0, 0), (.ireturn, 1, 0, 0, 0)])]
theorem ck_X11_ofStand : en_ck 169 bs_X11_ofStand = true := by decide +kernel
def bs_X11_ofLoad : en_Bs := [
  (0, [(.aload_n 0, 1, 0, 0, 0), (.getfield 13, 3, 11, 3, 1193), (.bipush 46, 2, 0, 0, 0), (.bipush 6, 2, 0, 0, 0), (.iload_n 1, 1, 0, 0, 0), (.imul, 1, 0, 0, 0), (.iadd, 1, 0, 0, 0), (.iload_n 2, 1, 0, 0, 0), (.iadd, 1, 0, 0, 0), (.iaload, 1, 0, 0, 0), (.ireturn, 1, 0, 0, 0)])]
theorem ck_X11_ofLoad : en_ck 170 bs_X11_ofLoad = true := by decide +kernel
def bs_X11_fits : en_Bs := [
  (0, [(.iload_n 0, 1, 0, 0, 0), (.tableswitch 59 0 2 #[27, 39, 49], 27, 0, 0, 0)]),
  (28, [(.iload_n 1, 1, 0, 0, 0), (.i2l, 1, 0, 0, 0), (.ldc2_w 138, 3, 0, 18446744073709551615, 1369), (.ldc2_w 140, 3, 0, 11, 1370), (.invokestatic 131, 3, 159, 3, 1351)]),
  (39, [(.ireturn, 1, 0, 0, 0)]),
  (40, [(.iload_n 1, 1, 0, 0, 0), (.i2l, 1, 0, 0, 0), (.lconst 1, 1, 0, 0, 0), (.ldc2_w 142, 3, 0, 9, 1371), (.invokestatic 131, 3, 159, 3, 1351)]),
  (49, [(.ireturn, 1, 0, 0, 0)]),
  (50, [(.iload_n 1, 1, 0, 0, 0), (.i2l, 1, 0, 0, 0), (.lconst 0, 1, 0, 0, 0), (.ldc2_w 144, 3, 0, 99, 1372), (.invokestatic 131, 3, 159, 3, 1351)]),
  (59, [(.ireturn, 1, 0, 0, 0)]),
  (60, [(.iconst 0, 1, 0, 0, 0), (.ireturn, 1, 0, 0, 0)])]
theorem ck_X11_fits : en_ck 171 bs_X11_fits = true := by decide +kernel
def bs_X11_stand : en_Bs := [
  (0, [(.aload_n 0, 1, 0, 0, 0), (.iconst 0, 1, 0, 0, 0), (.putfield 121, 3, 11, 0, 1190), (.iconst 0, 1, 0, 0, 0), (.iload_n 1, 1, 0, 0, 0), (.invokestatic 146, 3, 171, 2, 1366)]),
  (10, [(.ifCond .eq 19, 3, 29, 0, 0)]),
  (13, [(.iconst 1, 1, 0, 0, 0), (.iload_n 2, 1, 0, 0, 0), (.invokestatic 146, 3, 171, 2, 1366)]),
  (18, [(.ifCond .eq 11, 3, 29, 0, 0)]),
  (21, [(.iconst 2, 1, 0, 0, 0), (.iload_n 3, 1, 0, 0, 0), (.invokestatic 146, 3, 171, 2, 1366)]),
  (26, [(.ifCond .ne 9, 3, 35, 0, 0)]),
  (29, [(.aload_n 0, 1, 0, 0, 0), (.iconst (-1), 1, 0, 0, 0), (.invokevirtual 135, 3, 162, 2, 1354)]),
  (34, [(.ireturn, 1, 0, 0, 0)]),
  (35, [(.aload_n 0, 1, 0, 0, 0), (.getfield 13, 3, 11, 3, 1193), (.iconst 0, 1, 0, 0, 0), (.iaload, 1, 0, 0, 0), (.istore 4, 2, 0, 0, 0), (.iload 4, 2, 0, 0, 0), (.bipush 12, 2, 0, 0, 0), (.if_icmp .ne 10, 3, 57, 0, 0)]),
  (50, [(.aload_n 0, 1, 0, 0, 0), (.bipush (-5), 2, 0, 0, 0), (.invokevirtual 135, 3, 162, 2, 1354)]),
  (56, [(.ireturn, 1, 0, 0, 0)]),
  (57, [(.aload_n 0, 1, 0, 0, 0), (.getfield 13, 3, 11, 3, 1193), (.bipush 10, 2, 0, 0, 0), (.iconst 3, 1, 0, 0, 0), (.iload 4, 2, 0, 0, 0), (.imul, 1, 0, 0, 0), (.iadd, 1, 0, 0, 0), (.iload_n 1, 1, 0, 0, 0), (.iastore, 1, 0, 0, 0), (.aload_n 0, 1, 0, 0, 0), (.getfield 13, 3, 11, 3, 1193), (.bipush 10, 2, 0, 0, 0), (.iconst 3, 1, 0, 0, 0), (.iload 4, 2, 0, 0, 0), (.imul, 1, 0, 0, 0), (.iadd, 1, 0, 0, 0), (.iconst 1, 1, 0, 0, 0), (.iadd, 1, 0, 0, 0), (.iload_n 2, 1, 0, 0, 0), (.iastore, 1, 0, 0, 0), (.aload_n 0, 1, 0, 0, 0), (.getfield 13, 3, 11, 3, 1193), (.bipush 10, 2, 0, 0, 0), (.iconst 3, 1, 0, 0, 0), (.iload 4, 2, 0, 0, 0), (.imul, 1, 0, 0, 0), (.iadd, 1, 0, 0, 0), (.iconst 2, 1, 0, 0, 0), (.iadd, 1, 0, 0, 0), (.iload_n 3, 1, 0, 0, 0), (.iastore, 1, 0, 0, 0), (.aload_n 0, 1, 0, 0, 0), (.getfield 13, 3, 11, 3, 1193), (.iconst 0, 1, 0, 0, 0), (.dup2, 1, 0, 0, 0), (.iaload, 1, 0, 0, 0), (.iconst 1, 1, 0, 0, 0), (.iadd, 1, 0, 0, 0), (.iastore, 1, 0, 0, 0), (.aload_n 0, 1, 0, 0, 0), (.iload 4, 2, 0, 0, 0), (.invokevirtual 135, 3, 162, 2, 1354)]),
  (116, [(.ireturn, 1, 0, 0, 0)])]
theorem ck_X11_stand : en_ck 172 bs_X11_stand = true := by decide +kernel
def bs_X11_put : en_Bs := [
  (0, [(.aload_n 0, 1, 0, 0, 0), (.iconst 0, 1, 0, 0, 0), (.putfield 121, 3, 11, 0, 1190), (.iload_n 2, 1, 0, 0, 0), (.iload_n 3, 1, 0, 0, 0), (.invokestatic 146, 3, 171, 2, 1366)]),
  (10, [(.ifCond .ne 9, 3, 19, 0, 0)]),
  (13, [(.aload_n 0, 1, 0, 0, 0), (.iconst (-1), 1, 0, 0, 0), (.invokevirtual 135, 3, 162, 2, 1354)]),
  (18, [(.ireturn, 1, 0, 0, 0)]),
  (19, [(.aload_n 0, 1, 0, 0, 0), (.iload_n 1, 1, 0, 0, 0), (.invokevirtual 150, 3, 167, 2, 1377)]),
  (24, [(.ifCond .eq 19, 3, 43, 0, 0)]),
  (27, [(.aload_n 0, 1, 0, 0, 0), (.bipush 10, 2, 0, 0, 0), (.iconst 3, 1, 0, 0, 0), (.iload_n 1, 1, 0, 0, 0), (.imul, 1, 0, 0, 0), (.iadd, 1, 0, 0, 0), (.iload_n 2, 1, 0, 0, 0), (.iadd, 1, 0, 0, 0), (.iload_n 3, 1, 0, 0, 0), (.invokevirtual 154, 3, 164, 3, 1381)]),
  (40, [(.goto 9, 3, 49, 0, 0)]),
  (43, [(.aload_n 0, 1, 0, 0, 0), (.bipush (-2), 2, 0, 0, 0), (.invokevirtual 135, 3, 162, 2, 1354)]),
  (49, [(.ireturn, 1, 0, 0, 0)])]
theorem ck_X11_put : en_ck 173 bs_X11_put = true := by decide +kernel
def bs_X11_nextOf : en_Bs := [
  (0, [(.aload_n 0, 1, 0, 0, 0), (.iload_n 1, 1, 0, 0, 0), (.iconst 0, 1, 0, 0, 0), (.invokevirtual 158, 3, 169, 3, 1398)]),
  (6, [(.istore_n 3, 1, 0, 0, 0), (.iconst 0, 1, 0, 0, 0), (.istore 4, 2, 0, 0, 0)]),
  (10, [(.iload 4, 2, 0, 0, 0), (.bipush 13, 2, 0, 0, 0), (.if_icmp .ge 34, 3, 48, 0, 0)]),
  (17, [(.aload_n 0, 1, 0, 0, 0), (.iload_n 3, 1, 0, 0, 0), (.invokevirtual 150, 3, 167, 2, 1377)]),
  (22, [(.ifCond .eq 26, 3, 48, 0, 0)]),
  (25, [(.iload_n 2, 1, 0, 0, 0), (.iload_n 3, 1, 0, 0, 0), (.invokestatic 161, 3, 160, 2, 1402)]),
  (30, [(.ifCond .ne 5, 3, 35, 0, 0)]),
  (33, [(.iload_n 3, 1, 0, 0, 0), (.ireturn, 1, 0, 0, 0)]),
  (35, [(.aload_n 0, 1, 0, 0, 0), (.iload_n 3, 1, 0, 0, 0), (.iconst 0, 1, 0, 0, 0), (.invokevirtual 158, 3, 169, 3, 1398)]),
  (41, [(.istore_n 3, 1, 0, 0, 0), (.iinc 4 1, 3, 0, 0, 0), (.goto (-35), 3, 10, 0, 0)]),
  (48, [(.iconst (-1), 1, 0, 0, 0), (.ireturn, 1, 0, 0, 0)])]
theorem ck_X11_nextOf : en_ck 174 bs_X11_nextOf = true := by decide +kernel
def bs_X11_of : en_Bs := [
  (0, [(.aload_n 0, 1, 0, 0, 0), (.iconst 0, 1, 0, 0, 0), (.putfield 121, 3, 11, 0, 1190), (.aload_n 0, 1, 0, 0, 0), (.iload_n 1, 1, 0, 0, 0), (.invokevirtual 150, 3, 167, 2, 1377)]),
  (10, [(.ifCond .eq 15, 3, 25, 0, 0)]),
  (13, [(.iload_n 2, 1, 0, 0, 0), (.i2l, 1, 0, 0, 0), (.lconst 0, 1, 0, 0, 0), (.ldc2_w 164, 3, 0, 3, 1393), (.invokestatic 131, 3, 159, 3, 1351)]),
  (22, [(.ifCond .ne 5, 3, 27, 0, 0)]),
  (25, [(.iconst (-1), 1, 0, 0, 0), (.ireturn, 1, 0, 0, 0)]),
  (27, [(.iload_n 2, 1, 0, 0, 0), (.iconst 3, 1, 0, 0, 0), (.if_icmp .ne 12, 3, 41, 0, 0)]),
  (32, [(.aload_n 0, 1, 0, 0, 0), (.iload_n 1, 1, 0, 0, 0), (.iconst 0, 1, 0, 0, 0), (.invokevirtual 166, 3, 174, 3, 1394)]),
  (38, [(.goto 9, 3, 47, 0, 0)]),
  (41, [(.aload_n 0, 1, 0, 0, 0), (.iload_n 1, 1, 0, 0, 0), (.iload_n 2, 1, 0, 0, 0), (.invokevirtual 158, 3, 169, 3, 1398)]),
  (47, [(.ireturn, 1, 0, 0, 0)])]
theorem ck_X11_of : en_ck 175 bs_X11_of = true := by decide +kernel
def bs_X11_isLoadLike : en_Bs := [
  (0, [(.iload_n 0, 1, 0, 0, 0), (.i2l, 1, 0, 0, 0), (.lconst 1, 1, 0, 0, 0), (.ldc2_w 142, 3, 0, 9, 1371), (.invokestatic 131, 3, 159, 3, 1351)]),
  (9, [(.ifCond .eq 43, 3, 52, 0, 0)]),
  (12, [(.iload_n 1, 1, 0, 0, 0), (.i2l, 1, 0, 0, 0), (.lconst 0, 1, 0, 0, 0), (.ldc2_w 144, 3, 0, 99, 1372), (.invokestatic 131, 3, 159, 3, 1351)]),
  (21, [(.ifCond .eq 31, 3, 52, 0, 0)]),
  (24, [(.iload_n 2, 1, 0, 0, 0), (.i2l, 1, 0, 0, 0), (.lconst 0, 1, 0, 0, 0), (.ldc2_w 142, 3, 0, 9, 1371), (.invokestatic 131, 3, 159, 3, 1351)]),
  (33, [(.ifCond .eq 19, 3, 52, 0, 0)]),
  (36, [(.iload_n 3, 1, 0, 0, 0), (.i2l, 1, 0, 0, 0), (.lconst 0, 1, 0, 0, 0), (.ldc2_w 169, 3, 0, 9999, 1412), (.invokestatic 131, 3, 159, 3, 1351)]),
  (45, [(.ifCond .eq 7, 3, 52, 0, 0)]),
  (48, [(.iconst 1, 1, 0, 0, 0), (.goto 4, 3, 53, 0, 0)]),
  (52, [(.iconst 0, 1, 0, 0, 0)]),
  (53, [(.ireturn, 1, 0, 0, 0)])]
theorem ck_X11_isLoadLike : en_ck 176 bs_X11_isLoadLike = true := by decide +kernel
def bs_X11_addLoad : en_Bs := [
  (0, [(.bipush 46, 2, 0, 0, 0), (.bipush 6, 2, 0, 0, 0), (.aload_n 0, 1, 0, 0, 0), (.getfield 13, 3, 11, 3, 1193), (.iconst 1, 1, 0, 0, 0), (.iaload, 1, 0, 0, 0), (.imul, 1, 0, 0, 0), (.iadd, 1, 0, 0, 0), (.istore 7, 2, 0, 0, 0), (.aload_n 0, 1, 0, 0, 0), (.getfield 13, 3, 11, 3, 1193), (.iload 7, 2, 0, 0, 0), (.iload_n 1, 1, 0, 0, 0), (.iastore, 1, 0, 0, 0), (.aload_n 0, 1, 0, 0, 0), (.getfield 13, 3, 11, 3, 1193), (.iload 7, 2, 0, 0, 0), (.iconst 1, 1, 0, 0, 0), (.iadd, 1, 0, 0, 0), (.iload_n 2, 1, 0, 0, 0), (.iastore, 1, 0, 0, 0), (.aload_n 0, 1, 0, 0, 0), (.getfield 13, 3, 11, 3, 1193), (.iload 7, 2, 0, 0, 0), (.iconst 2, 1, 0, 0, 0), (.iadd, 1, 0, 0, 0), (.iload_n 3, 1, 0, 0, 0), (.iastore, 1, 0, 0, 0), (.aload_n 0, 1, 0, 0, 0), (.getfield 13, 3, 11, 3, 1193), (.iload 7, 2, 0, 0, 0), (.iconst 3, 1, 0, 0, 0), (.iadd, 1, 0, 0, 0), (.iload 4, 2, 0, 0, 0), (.iastore, 1, 0, 0, 0), (.aload_n 0, 1, 0, 0, 0), (.getfield 13, 3, 11, 3, 1193), (.iload 7, 2, 0, 0, 0), (.iconst 4, 1, 0, 0, 0), (.iadd, 1, 0, 0, 0), (.iload 5, 2, 0, 0, 0), (.iastore, 1, 0, 0, 0), (.aload_n 0, 1, 0, 0, 0), (.getfield 13, 3, 11, 3, 1193), (.iload 7, 2, 0, 0, 0), (.iconst 5, 1, 0, 0, 0), (.iadd, 1, 0, 0, 0), (.iload 6, 2, 0, 0, 0), (.iastore, 1, 0, 0, 0), (.aload_n 0, 1, 0, 0, 0), (.getfield 13, 3, 11, 3, 1193), (.iconst 1, 1, 0, 0, 0), (.dup2, 1, 0, 0, 0), (.iaload, 1, 0, 0, 0), (.iconst 1, 1, 0, 0, 0), (.iadd, 1, 0, 0, 0), (.iastore, 1, 0, 0, 0), (.return_, 1, 0, 0, 0)])]
theorem ck_X11_addLoad : en_ck 177 bs_X11_addLoad = true := by decide +kernel
def bs_X11_load : en_Bs := [
  (0, [(.aload_n 0, 1, 0, 0, 0), (.iconst 0, 1, 0, 0, 0), (.putfield 121, 3, 11, 0, 1190), (.iload_n 1, 1, 0, 0, 0), (.iload 4, 2, 0, 0, 0), (.iload 5, 2, 0, 0, 0), (.iload 6, 2, 0, 0, 0), (.invokestatic 171, 3, 176, 4, 1409)]),
  (15, [(.ifCond .ne 9, 3, 24, 0, 0)]),
  (18, [(.aload_n 0, 1, 0, 0, 0), (.iconst (-1), 1, 0, 0, 0), (.invokevirtual 135, 3, 162, 2, 1354)]),
  (23, [(.ireturn, 1, 0, 0, 0)]),
  (24, [(.aload_n 0, 1, 0, 0, 0), (.iload_n 2, 1, 0, 0, 0), (.invokevirtual 150, 3, 167, 2, 1377)]),
  (29, [(.ifCond .eq 11, 3, 40, 0, 0)]),
  (32, [(.aload_n 0, 1, 0, 0, 0), (.iload_n 3, 1, 0, 0, 0), (.invokevirtual 150, 3, 167, 2, 1377)]),
  (37, [(.ifCond .ne 10, 3, 47, 0, 0)]),
  (40, [(.aload_n 0, 1, 0, 0, 0), (.bipush (-2), 2, 0, 0, 0), (.invokevirtual 135, 3, 162, 2, 1354)]),
  (46, [(.ireturn, 1, 0, 0, 0)]),
  (47, [(.aload_n 0, 1, 0, 0, 0), (.getfield 13, 3, 11, 3, 1193), (.iconst 1, 1, 0, 0, 0), (.iaload, 1, 0, 0, 0), (.bipush 8, 2, 0, 0, 0), (.if_icmp .ne 10, 3, 65, 0, 0)]),
  (58, [(.aload_n 0, 1, 0, 0, 0), (.bipush (-5), 2, 0, 0, 0), (.invokevirtual 135, 3, 162, 2, 1354)]),
  (64, [(.ireturn, 1, 0, 0, 0)]),
  (65, [(.aload_n 0, 1, 0, 0, 0), (.iload_n 1, 1, 0, 0, 0), (.iload_n 2, 1, 0, 0, 0), (.iload_n 3, 1, 0, 0, 0), (.iload 4, 2, 0, 0, 0), (.iload 5, 2, 0, 0, 0), (.iload 6, 2, 0, 0, 0), (.invokevirtual 175, 3, 177, 7, 1413)]),
  (78, [(.aload_n 0, 1, 0, 0, 0), (.aload_n 0, 1, 0, 0, 0), (.getfield 13, 3, 11, 3, 1193), (.iconst 1, 1, 0, 0, 0), (.iaload, 1, 0, 0, 0), (.iconst 1, 1, 0, 0, 0), (.isub, 1, 0, 0, 0), (.invokevirtual 135, 3, 162, 2, 1354)]),
  (90, [(.ireturn, 1, 0, 0, 0)])]
theorem ck_X11_load : en_ck 178 bs_X11_load = true := by decide +kernel
def bs_X11_fact : en_Bs := [
  (0, [(.aload_n 0, 1, 0, 0, 0), (.iconst 0, 1, 0, 0, 0), (.putfield 121, 3, 11, 0, 1190), (.aload_n 0, 1, 0, 0, 0), (.iload_n 1, 1, 0, 0, 0), (.invokevirtual 179, 3, 168, 2, 1421)]),
  (10, [(.ifCond .eq 24, 3, 34, 0, 0)]),
  (13, [(.iload_n 2, 1, 0, 0, 0), (.i2l, 1, 0, 0, 0), (.lconst 0, 1, 0, 0, 0), (.ldc2_w 182, 3, 0, 5, 1425), (.invokestatic 131, 3, 159, 3, 1351)]),
  (22, [(.ifCond .eq 12, 3, 34, 0, 0)]),
  (25, [(.aload_n 0, 1, 0, 0, 0), (.iload_n 1, 1, 0, 0, 0), (.iload_n 2, 1, 0, 0, 0), (.invokevirtual 184, 3, 170, 3, 1426)]),
  (31, [(.goto 4, 3, 35, 0, 0)]),
  (34, [(.iconst (-1), 1, 0, 0, 0)]),
  (35, [(.ireturn, 1, 0, 0, 0)])]
theorem ck_X11_fact : en_ck 179 bs_X11_fact = true := by decide +kernel
def bs_X11_drop : en_Bs := [
  (0, [(.aload_n 0, 1, 0, 0, 0), (.iconst 0, 1, 0, 0, 0), (.putfield 121, 3, 11, 0, 1190), (.aload_n 0, 1, 0, 0, 0), (.iload_n 1, 1, 0, 0, 0), (.invokevirtual 179, 3, 168, 2, 1421)]),
  (10, [(.ifCond .ne 10, 3, 20, 0, 0)]),
  (13, [(.aload_n 0, 1, 0, 0, 0), (.bipush (-2), 2, 0, 0, 0), (.invokevirtual 135, 3, 162, 2, 1354)]),
  (19, [(.ireturn, 1, 0, 0, 0)]),
  (20, [(.bipush 46, 2, 0, 0, 0), (.bipush 6, 2, 0, 0, 0), (.iload_n 1, 1, 0, 0, 0), (.imul, 1, 0, 0, 0), (.iadd, 1, 0, 0, 0), (.istore_n 2, 1, 0, 0, 0)]),
  (28, [(.iload_n 2, 1, 0, 0, 0), (.bipush 88, 2, 0, 0, 0), (.if_icmp .ge 24, 3, 55, 0, 0)]),
  (34, [(.aload_n 0, 1, 0, 0, 0), (.getfield 13, 3, 11, 3, 1193), (.iload_n 2, 1, 0, 0, 0), (.aload_n 0, 1, 0, 0, 0), (.getfield 13, 3, 11, 3, 1193), (.iload_n 2, 1, 0, 0, 0), (.bipush 6, 2, 0, 0, 0), (.iadd, 1, 0, 0, 0), (.iaload, 1, 0, 0, 0), (.iastore, 1, 0, 0, 0), (.iinc 2 1, 3, 0, 0, 0), (.goto (-24), 3, 28, 0, 0)]),
  (55, [(.aload_n 0, 1, 0, 0, 0), (.getfield 13, 3, 11, 3, 1193), (.iconst 1, 1, 0, 0, 0), (.dup2, 1, 0, 0, 0), (.iaload, 1, 0, 0, 0), (.iconst 1, 1, 0, 0, 0), (.isub, 1, 0, 0, 0), (.iastore, 1, 0, 0, 0), (.aload_n 0, 1, 0, 0, 0), (.aload_n 0, 1, 0, 0, 0), (.getfield 13, 3, 11, 3, 1193), (.iconst 1, 1, 0, 0, 0), (.iaload, 1, 0, 0, 0), (.invokevirtual 135, 3, 162, 2, 1354)]),
  (75, [(.ireturn, 1, 0, 0, 0)])]
theorem ck_X11_drop : en_ck 180 bs_X11_drop = true := by decide +kernel
def bs_X11_terms : en_Bs := [
  (0, [(.aload_n 0, 1, 0, 0, 0), (.iconst 0, 1, 0, 0, 0), (.putfield 121, 3, 11, 0, 1190), (.iload_n 1, 1, 0, 0, 0), (.ifCond .ne 15, 3, 21, 0, 0)]),
  (9, [(.iload_n 2, 1, 0, 0, 0), (.i2l, 1, 0, 0, 0), (.lconst 0, 1, 0, 0, 0), (.ldc2_w 144, 3, 0, 99, 1372), (.invokestatic 131, 3, 159, 3, 1351)]),
  (18, [(.goto 25, 3, 43, 0, 0)]),
  (21, [(.iload_n 1, 1, 0, 0, 0), (.iconst 1, 1, 0, 0, 0), (.if_icmp .ne 19, 3, 42, 0, 0)]),
  (26, [(.iload_n 2, 1, 0, 0, 0), (.i2l, 1, 0, 0, 0), (.lconst 1, 1, 0, 0, 0), (.ldc2_w 187, 3, 0, 4, 1438), (.invokestatic 131, 3, 159, 3, 1351)]),
  (35, [(.ifCond .eq 7, 3, 42, 0, 0)]),
  (38, [(.iconst 1, 1, 0, 0, 0), (.goto 4, 3, 43, 0, 0)]),
  (42, [(.iconst 0, 1, 0, 0, 0)]),
  (43, [(.istore_n 3, 1, 0, 0, 0), (.iload_n 3, 1, 0, 0, 0), (.ifCond .eq 14, 3, 59, 0, 0)]),
  (48, [(.aload_n 0, 1, 0, 0, 0), (.iconst 5, 1, 0, 0, 0), (.iload_n 1, 1, 0, 0, 0), (.iadd, 1, 0, 0, 0), (.iload_n 2, 1, 0, 0, 0), (.invokevirtual 154, 3, 164, 3, 1381)]),
  (56, [(.goto 8, 3, 64, 0, 0)]),
  (59, [(.aload_n 0, 1, 0, 0, 0), (.iconst (-1), 1, 0, 0, 0), (.invokevirtual 135, 3, 162, 2, 1354)]),
  (64, [(.ireturn, 1, 0, 0, 0)])]
theorem ck_X11_terms : en_ck 181 bs_X11_terms = true := by decide +kernel
def bs_X11_row : en_Bs := [
  (0, [(.aload_n 0, 1, 0, 0, 0), (.iconst 0, 1, 0, 0, 0), (.putfield 121, 3, 11, 0, 1190), (.aload_n 0, 1, 0, 0, 0), (.getfield 189, 3, 11, 8, 1198), (.istore_n 1, 1, 0, 0, 0), (.aload_n 0, 1, 0, 0, 0), (.iconst 0, 1, 0, 0, 0), (.putfield 189, 3, 11, 8, 1198), (.iload_n 1, 1, 0, 0, 0), (.ifCond .ne 10, 3, 26, 0, 0)]),
  (19, [(.aload_n 0, 1, 0, 0, 0), (.bipush (-6), 2, 0, 0, 0), (.invokevirtual 135, 3, 162, 2, 1354)]),
  (25, [(.ireturn, 1, 0, 0, 0)]),
  (26, [(.aload_n 0, 1, 0, 0, 0), (.iconst 0, 1, 0, 0, 0), (.putfield 192, 3, 11, 6, 1196), (.iconst 0, 1, 0, 0, 0), (.istore_n 2, 1, 0, 0, 0), (.iconst 0, 1, 0, 0, 0), (.istore_n 3, 1, 0, 0, 0)]),
  (35, [(.iload_n 3, 1, 0, 0, 0), (.iload_n 1, 1, 0, 0, 0), (.if_icmp .ge 183, 3, 220, 0, 0)]),
  (40, [(.iload_n 3, 1, 0, 0, 0), (.iconst 5, 1, 0, 0, 0), (.iadd, 1, 0, 0, 0), (.iload_n 1, 1, 0, 0, 0), (.if_icmp .ge 18, 3, 62, 0, 0)]),
  (47, [(.aload_n 0, 1, 0, 0, 0), (.getfield 13, 3, 11, 3, 1193), (.iconst 1, 1, 0, 0, 0), (.iaload, 1, 0, 0, 0), (.bipush 8, 2, 0, 0, 0), (.if_icmp .ge 7, 3, 62, 0, 0)]),
  (58, [(.iconst 1, 1, 0, 0, 0), (.goto 4, 3, 63, 0, 0)]),
  (62, [(.iconst 0, 1, 0, 0, 0)]),
  (63, [(.istore 4, 2, 0, 0, 0), (.iload 4, 2, 0, 0, 0), (.ifCond .eq 73, 3, 140, 0, 0)]),
  (70, [(.aload_n 0, 1, 0, 0, 0), (.getfield 23, 3, 11, 7, 1197), (.iload_n 3, 1, 0, 0, 0), (.iaload, 1, 0, 0, 0), (.aload_n 0, 1, 0, 0, 0), (.getfield 23, 3, 11, 7, 1197), (.iload_n 3, 1, 0, 0, 0), (.iconst 3, 1, 0, 0, 0), (.iadd, 1, 0, 0, 0), (.iaload, 1, 0, 0, 0), (.aload_n 0, 1, 0, 0, 0), (.getfield 23, 3, 11, 7, 1197), (.iload_n 3, 1, 0, 0, 0), (.iconst 4, 1, 0, 0, 0), (.iadd, 1, 0, 0, 0), (.iaload, 1, 0, 0, 0), (.aload_n 0, 1, 0, 0, 0), (.getfield 23, 3, 11, 7, 1197), (.iload_n 3, 1, 0, 0, 0), (.iconst 5, 1, 0, 0, 0), (.iadd, 1, 0, 0, 0), (.iaload, 1, 0, 0, 0), (.invokestatic 171, 3, 176, 4, 1409)]),
  (103, [(.ifCond .eq 37, 3, 140, 0, 0)]),
  (106, [(.aload_n 0, 1, 0, 0, 0), (.aload_n 0, 1, 0, 0, 0), (.getfield 23, 3, 11, 7, 1197), (.iload_n 3, 1, 0, 0, 0), (.iconst 1, 1, 0, 0, 0), (.iadd, 1, 0, 0, 0), (.iaload, 1, 0, 0, 0), (.invokevirtual 150, 3, 167, 2, 1377)]),
  (118, [(.ifCond .eq 22, 3, 140, 0, 0)]),
  (121, [(.aload_n 0, 1, 0, 0, 0), (.aload_n 0, 1, 0, 0, 0), (.getfield 23, 3, 11, 7, 1197), (.iload_n 3, 1, 0, 0, 0), (.iconst 2, 1, 0, 0, 0), (.iadd, 1, 0, 0, 0), (.iaload, 1, 0, 0, 0), (.invokevirtual 150, 3, 167, 2, 1377)]),
  (133, [(.ifCond .eq 7, 3, 140, 0, 0)]),
  (136, [(.iconst 1, 1, 0, 0, 0), (.goto 4, 3, 141, 0, 0)]),
  (140, [(.iconst 0, 1, 0, 0, 0)]),
  (141, [(.istore 4, 2, 0, 0, 0), (.iload 4, 2, 0, 0, 0), (.ifCond .eq 59, 3, 204, 0, 0)]),
  (148, [(.aload_n 0, 1, 0, 0, 0), (.aload_n 0, 1, 0, 0, 0), (.getfield 23, 3, 11, 7, 1197), (.iload_n 3, 1, 0, 0, 0), (.iaload, 1, 0, 0, 0), (.aload_n 0, 1, 0, 0, 0), (.getfield 23, 3, 11, 7, 1197), (.iload_n 3, 1, 0, 0, 0), (.iconst 1, 1, 0, 0, 0), (.iadd, 1, 0, 0, 0), (.iaload, 1, 0, 0, 0), (.aload_n 0, 1, 0, 0, 0), (.getfield 23, 3, 11, 7, 1197), (.iload_n 3, 1, 0, 0, 0), (.iconst 2, 1, 0, 0, 0), (.iadd, 1, 0, 0, 0), (.iaload, 1, 0, 0, 0), (.aload_n 0, 1, 0, 0, 0), (.getfield 23, 3, 11, 7, 1197), (.iload_n 3, 1, 0, 0, 0), (.iconst 3, 1, 0, 0, 0), (.iadd, 1, 0, 0, 0), (.iaload, 1, 0, 0, 0), (.aload_n 0, 1, 0, 0, 0), (.getfield 23, 3, 11, 7, 1197), (.iload_n 3, 1, 0, 0, 0), (.iconst 4, 1, 0, 0, 0), (.iadd, 1, 0, 0, 0), (.iaload, 1, 0, 0, 0), (.aload_n 0, 1, 0, 0, 0), (.getfield 23, 3, 11, 7, 1197), (.iload_n 3, 1, 0, 0, 0), (.iconst 5, 1, 0, 0, 0), (.iadd, 1, 0, 0, 0), (.iaload, 1, 0, 0, 0), (.invokevirtual 175, 3, 177, 7, 1413)]),
  (198, [(.iinc 2 1, 3, 0, 0, 0), (.goto 13, 3, 214, 0, 0)]),
  (204, [(.aload_n 0, 1, 0, 0, 0), (.dup, 1, 0, 0, 0), (.getfield 192, 3, 11, 6, 1196), (.iconst 1, 1, 0, 0, 0), (.iadd, 1, 0, 0, 0), (.putfield 192, 3, 11, 6, 1196)]),
  (214, [(.iinc 3 6, 3, 0, 0, 0), (.goto (-182), 3, 35, 0, 0)]),
  (220, [(.aload_n 0, 1, 0, 0, 0), (.iload_n 2, 1, 0, 0, 0), (.invokevirtual 135, 3, 162, 2, 1354)]),
  (225, [(.ireturn, 1, 0, 0, 0)])]
theorem ck_X11_row : en_ck 182 bs_X11_row = true := by decide +kernel
def bs_X11_dropped : en_Bs := [
  (0, [(.aload_n 0, 1, 0, 0, 0), (.iconst 0, 1, 0, 0, 0), (.putfield 121, 3, 11, 0, 1190), (.aload_n 0, 1, 0, 0, 0), (.getfield 192, 3, 11, 6, 1196), (.ireturn, 1, 0, 0, 0)])]
theorem ck_X11_dropped : en_ck 183 bs_X11_dropped = true := by decide +kernel
def bs_X11_four : en_Bs := [
  (0, [(.bipush 24, 2, 0, 0, 0), (.istore_n 2, 1, 0, 0, 0)]),
  (3, [(.iload_n 2, 1, 0, 0, 0), (.ifCond .lt 35, 3, 39, 0, 0)]),
  (7, [(.aload_n 0, 1, 0, 0, 0), (.getfield 23, 3, 11, 7, 1197), (.aload_n 0, 1, 0, 0, 0), (.getfield 189, 3, 11, 8, 1198), (.iload_n 1, 1, 0, 0, 0), (.iload_n 2, 1, 0, 0, 0), (.ishr, 1, 0, 0, 0), (.sipush 255, 3, 0, 0, 0), (.iand, 1, 0, 0, 0), (.iastore, 1, 0, 0, 0), (.aload_n 0, 1, 0, 0, 0), (.dup, 1, 0, 0, 0), (.getfield 189, 3, 11, 8, 1198), (.iconst 1, 1, 0, 0, 0), (.iadd, 1, 0, 0, 0), (.putfield 189, 3, 11, 8, 1198), (.iinc 2 (-8), 3, 0, 0, 0), (.goto (-33), 3, 3, 0, 0)]),
  (39, [(.return_, 1, 0, 0, 0)])]
theorem ck_X11_four : en_ck 184 bs_X11_four = true := by decide +kernel
end
section
def bs_X11_feed : en_Bs := [
  (0, [(.aload_n 0, 1, 0, 0, 0), (.iconst 0, 1, 0, 0, 0), (.putfield 121, 3, 11, 0, 1190), (.aload_n 0, 1, 0, 0, 0), (.getfield 189, 3, 11, 8, 1198), (.bipush 20, 2, 0, 0, 0), (.iadd, 1, 0, 0, 0), (.sipush 400, 3, 0, 0, 0), (.if_icmp .le 5, 3, 20, 0, 0)]),
  (18, [(.iconst (-1), 1, 0, 0, 0), (.ireturn, 1, 0, 0, 0)]),
  (20, [(.aload_n 0, 1, 0, 0, 0), (.iload_n 1, 1, 0, 0, 0), (.invokevirtual 195, 3, 184, 2, 1451)]),
  (25, [(.aload_n 0, 1, 0, 0, 0), (.iload_n 2, 1, 0, 0, 0), (.invokevirtual 195, 3, 184, 2, 1451)]),
  (30, [(.aload_n 0, 1, 0, 0, 0), (.iload_n 3, 1, 0, 0, 0), (.invokevirtual 195, 3, 184, 2, 1451)]),
  (35, [(.aload_n 0, 1, 0, 0, 0), (.iload 4, 2, 0, 0, 0), (.invokevirtual 195, 3, 184, 2, 1451)]),
  (41, [(.aload_n 0, 1, 0, 0, 0), (.iload 5, 2, 0, 0, 0), (.invokevirtual 195, 3, 184, 2, 1451)]),
  (47, [(.aload_n 0, 1, 0, 0, 0), (.getfield 189, 3, 11, 8, 1198), (.ireturn, 1, 0, 0, 0)])]
theorem ck_X11_feed : en_ck 185 bs_X11_feed = true := by decide +kernel
def bs_X11_end : en_Bs := [
  (0, [(.aload_n 0, 1, 0, 0, 0), (.iconst 0, 1, 0, 0, 0), (.putfield 121, 3, 11, 0, 1190), (.iload_n 1, 1, 0, 0, 0), (.ifCond .lt 11, 3, 17, 0, 0)]),
  (9, [(.iload_n 1, 1, 0, 0, 0), (.aload_n 0, 1, 0, 0, 0), (.getfield 189, 3, 11, 8, 1198), (.if_icmp .le 5, 3, 19, 0, 0)]),
  (17, [(.iconst (-1), 1, 0, 0, 0), (.ireturn, 1, 0, 0, 0)]),
  (19, [(.aload_n 0, 1, 0, 0, 0), (.iload_n 1, 1, 0, 0, 0), (.putfield 189, 3, 11, 8, 1198), (.iload_n 1, 1, 0, 0, 0), (.ireturn, 1, 0, 0, 0)])]
theorem ck_X11_end : en_ck 186 bs_X11_end = true := by decide +kernel
def bs_X11_isSmall : en_Bs := [
  (0, [(.iload_n 0, 1, 0, 0, 0), (.bipush 97, 2, 0, 0, 0), (.if_icmp .lt 13, 3, 16, 0, 0)]),
  (6, [(.iload_n 0, 1, 0, 0, 0), (.bipush 122, 2, 0, 0, 0), (.if_icmp .gt 7, 3, 16, 0, 0)]),
  (12, [(.iconst 1, 1, 0, 0, 0), (.goto 4, 3, 17, 0, 0)]),
  (16, [(.iconst 0, 1, 0, 0, 0)]),
  (17, [(.ireturn, 1, 0, 0, 0)])]
theorem ck_X11_isSmall : en_ck 187 bs_X11_isSmall = true := by decide +kernel
def bs_X11_isDigit : en_Bs := [
  (0, [(.iload_n 0, 1, 0, 0, 0), (.bipush 48, 2, 0, 0, 0), (.if_icmp .lt 13, 3, 16, 0, 0)]),
  (6, [(.iload_n 0, 1, 0, 0, 0), (.bipush 57, 2, 0, 0, 0), (.if_icmp .gt 7, 3, 16, 0, 0)]),
  (12, [(.iconst 1, 1, 0, 0, 0), (.goto 4, 3, 17, 0, 0)]),
  (16, [(.iconst 0, 1, 0, 0, 0)]),
  (17, [(.ireturn, 1, 0, 0, 0)])]
theorem ck_X11_isDigit : en_ck 188 bs_X11_isDigit = true := by decide +kernel
def bs_X11_begin : en_Bs := [
  (0, [(.aload_n 0, 1, 0, 0, 0), (.iconst 0, 1, 0, 0, 0), (.putfield 199, 3, 11, 10, 1200), (.aload_n 0, 1, 0, 0, 0), (.iconst 0, 1, 0, 0, 0), (.putfield 202, 3, 11, 14, 1204), (.aload_n 0, 1, 0, 0, 0), (.iconst (-1), 1, 0, 0, 0), (.putfield 26, 3, 11, 13, 1203), (.aload_n 0, 1, 0, 0, 0), (.invokevirtual 206, 3, 190, 1, 1471)]),
  (19, [(.return_, 1, 0, 0, 0)])]
theorem ck_X11_begin : en_ck 189 bs_X11_begin = true := by decide +kernel
def bs_X11_next : en_Bs := [
  (0, [(.aload_n 0, 1, 0, 0, 0), (.aload_n 0, 1, 0, 0, 0), (.getfield 199, 3, 11, 10, 1200), (.putfield 209, 3, 11, 9, 1199)]),
  (8, [(.aload_n 0, 1, 0, 0, 0), (.getfield 209, 3, 11, 9, 1199), (.aload_n 0, 1, 0, 0, 0), (.getfield 189, 3, 11, 8, 1198), (.if_icmp .ge 30, 3, 46, 0, 0)]),
  (19, [(.aload_n 0, 1, 0, 0, 0), (.getfield 23, 3, 11, 7, 1197), (.aload_n 0, 1, 0, 0, 0), (.getfield 209, 3, 11, 9, 1199), (.iaload, 1, 0, 0, 0), (.bipush 32, 2, 0, 0, 0), (.if_icmp .ne 16, 3, 46, 0, 0)]),
  (33, [(.aload_n 0, 1, 0, 0, 0), (.dup, 1, 0, 0, 0), (.getfield 209, 3, 11, 9, 1199), (.iconst 1, 1, 0, 0, 0), (.iadd, 1, 0, 0, 0), (.putfield 209, 3, 11, 9, 1199), (.goto (-35), 3, 8, 0, 0)]),
  (46, [(.aload_n 0, 1, 0, 0, 0), (.aload_n 0, 1, 0, 0, 0), (.getfield 209, 3, 11, 9, 1199), (.putfield 199, 3, 11, 10, 1200), (.aload_n 0, 1, 0, 0, 0), (.lconst 0, 1, 0, 0, 0), (.putfield 212, 3, 11, 12, 1202), (.aload_n 0, 1, 0, 0, 0), (.aload_n 0, 1, 0, 0, 0), (.getfield 209, 3, 11, 9, 1199), (.aload_n 0, 1, 0, 0, 0), (.getfield 189, 3, 11, 8, 1198), (.if_icmp .ne 7, 3, 75, 0, 0)]),
  (71, [(.iconst 0, 1, 0, 0, 0), (.goto 42, 3, 114, 0, 0)]),
  (75, [(.aload_n 0, 1, 0, 0, 0), (.getfield 23, 3, 11, 7, 1197), (.aload_n 0, 1, 0, 0, 0), (.getfield 209, 3, 11, 9, 1199), (.iaload, 1, 0, 0, 0), (.invokestatic 216, 3, 187, 1, 1475)]),
  (87, [(.ifCond .eq 7, 3, 94, 0, 0)]),
  (90, [(.iconst 1, 1, 0, 0, 0), (.goto 23, 3, 114, 0, 0)]),
  (94, [(.aload_n 0, 1, 0, 0, 0), (.getfield 23, 3, 11, 7, 1197), (.aload_n 0, 1, 0, 0, 0), (.getfield 209, 3, 11, 9, 1199), (.iaload, 1, 0, 0, 0), (.invokestatic 219, 3, 188, 1, 1478)]),
  (106, [(.ifCond .eq 7, 3, 113, 0, 0)]),
  (109, [(.iconst 2, 1, 0, 0, 0), (.goto 4, 3, 114, 0, 0)]),
  (113, [(.iconst 3, 1, 0, 0, 0)]),
  (114, [(.putfield 222, 3, 11, 11, 1201), (.aload_n 0, 1, 0, 0, 0), (.getfield 222, 3, 11, 11, 1201), (.iconst 3, 1, 0, 0, 0), (.if_icmp .ne 27, 3, 149, 0, 0)]),
  (125, [(.aload_n 0, 1, 0, 0, 0), (.aload_n 0, 1, 0, 0, 0), (.getfield 23, 3, 11, 7, 1197), (.aload_n 0, 1, 0, 0, 0), (.getfield 209, 3, 11, 9, 1199), (.iaload, 1, 0, 0, 0), (.i2l, 1, 0, 0, 0), (.putfield 212, 3, 11, 12, 1202), (.aload_n 0, 1, 0, 0, 0), (.dup, 1, 0, 0, 0), (.getfield 199, 3, 11, 10, 1200), (.iconst 1, 1, 0, 0, 0), (.iadd, 1, 0, 0, 0), (.putfield 199, 3, 11, 10, 1200)]),
  (149, [(.aload_n 0, 1, 0, 0, 0), (.getfield 222, 3, 11, 11, 1201), (.iconst 1, 1, 0, 0, 0), (.if_icmp .ne 89, 3, 243, 0, 0)]),
  (157, [(.aload_n 0, 1, 0, 0, 0), (.getfield 199, 3, 11, 10, 1200), (.aload_n 0, 1, 0, 0, 0), (.getfield 189, 3, 11, 8, 1198), (.if_icmp .ge 78, 3, 243, 0, 0)]),
  (168, [(.aload_n 0, 1, 0, 0, 0), (.getfield 23, 3, 11, 7, 1197), (.aload_n 0, 1, 0, 0, 0), (.getfield 199, 3, 11, 10, 1200), (.iaload, 1, 0, 0, 0), (.invokestatic 216, 3, 187, 1, 1475)]),
  (180, [(.ifCond .eq 63, 3, 243, 0, 0)]),
  (183, [(.aload_n 0, 1, 0, 0, 0), (.aload_n 0, 1, 0, 0, 0), (.getfield 199, 3, 11, 10, 1200), (.aload_n 0, 1, 0, 0, 0), (.getfield 209, 3, 11, 9, 1199), (.isub, 1, 0, 0, 0), (.bipush 10, 2, 0, 0, 0), (.if_icmp .ge 29, 3, 224, 0, 0)]),
  (198, [(.aload_n 0, 1, 0, 0, 0), (.getfield 212, 3, 11, 12, 1202), (.ldc2_w 225, 3, 0, 32, 1481), (.lmul, 1, 0, 0, 0), (.aload_n 0, 1, 0, 0, 0), (.getfield 23, 3, 11, 7, 1197), (.aload_n 0, 1, 0, 0, 0), (.getfield 199, 3, 11, 10, 1200), (.iaload, 1, 0, 0, 0), (.i2l, 1, 0, 0, 0), (.ladd, 1, 0, 0, 0), (.ldc2_w 227, 3, 0, 96, 1482), (.lsub, 1, 0, 0, 0), (.goto 6, 3, 227, 0, 0)]),
  (224, [(.ldc2_w 138, 3, 0, 18446744073709551615, 1369)]),
  (227, [(.putfield 212, 3, 11, 12, 1202), (.aload_n 0, 1, 0, 0, 0), (.dup, 1, 0, 0, 0), (.getfield 199, 3, 11, 10, 1200), (.iconst 1, 1, 0, 0, 0), (.iadd, 1, 0, 0, 0), (.putfield 199, 3, 11, 10, 1200), (.goto (-91), 3, 149, 0, 0)]),
  (243, [(.aload_n 0, 1, 0, 0, 0), (.getfield 222, 3, 11, 11, 1201), (.iconst 2, 1, 0, 0, 0), (.if_icmp .ne 87, 3, 335, 0, 0)]),
  (251, [(.aload_n 0, 1, 0, 0, 0), (.getfield 199, 3, 11, 10, 1200), (.aload_n 0, 1, 0, 0, 0), (.getfield 189, 3, 11, 8, 1198), (.if_icmp .ge 76, 3, 335, 0, 0)]),
  (262, [(.aload_n 0, 1, 0, 0, 0), (.getfield 23, 3, 11, 7, 1197), (.aload_n 0, 1, 0, 0, 0), (.getfield 199, 3, 11, 10, 1200), (.iaload, 1, 0, 0, 0), (.invokestatic 219, 3, 188, 1, 1478)]),
  (274, [(.ifCond .eq 61, 3, 335, 0, 0)]),
  (277, [(.aload_n 0, 1, 0, 0, 0), (.aload_n 0, 1, 0, 0, 0), (.getfield 212, 3, 11, 12, 1202), (.ldc2_w 229, 3, 0, 1000000, 1483), (.lcmp, 1, 0, 0, 0), (.ifCond .le 10, 3, 296, 0, 0)]),
  (289, [(.aload_n 0, 1, 0, 0, 0), (.getfield 212, 3, 11, 12, 1202), (.goto 26, 3, 319, 0, 0)]),
  (296, [(.aload_n 0, 1, 0, 0, 0), (.getfield 212, 3, 11, 12, 1202), (.ldc2_w 231, 3, 0, 10, 1484), (.lmul, 1, 0, 0, 0), (.aload_n 0, 1, 0, 0, 0), (.getfield 23, 3, 11, 7, 1197), (.aload_n 0, 1, 0, 0, 0), (.getfield 199, 3, 11, 10, 1200), (.iaload, 1, 0, 0, 0), (.i2l, 1, 0, 0, 0), (.ladd, 1, 0, 0, 0), (.ldc2_w 233, 3, 0, 48, 1485), (.lsub, 1, 0, 0, 0)]),
  (319, [(.putfield 212, 3, 11, 12, 1202), (.aload_n 0, 1, 0, 0, 0), (.dup, 1, 0, 0, 0), (.getfield 199, 3, 11, 10, 1200), (.iconst 1, 1, 0, 0, 0), (.iadd, 1, 0, 0, 0), (.putfield 199, 3, 11, 10, 1200), (.goto (-89), 3, 243, 0, 0)]),
  (335, [(.return_, 1, 0, 0, 0)])]
theorem ck_X11_next : en_ck 190 bs_X11_next = true := by decide +kernel
def bs_X11_isWord : en_Bs := [
  (0, [(.aload_n 0, 1, 0, 0, 0), (.getfield 222, 3, 11, 11, 1201), (.iconst 1, 1, 0, 0, 0), (.if_icmp .ne 16, 3, 21, 0, 0)]),
  (8, [(.aload_n 0, 1, 0, 0, 0), (.getfield 212, 3, 11, 12, 1202), (.lload_n 1, 1, 0, 0, 0), (.lcmp, 1, 0, 0, 0), (.ifCond .ne 7, 3, 21, 0, 0)]),
  (17, [(.iconst 1, 1, 0, 0, 0), (.goto 4, 3, 22, 0, 0)]),
  (21, [(.iconst 0, 1, 0, 0, 0)]),
  (22, [(.ireturn, 1, 0, 0, 0)])]
theorem ck_X11_isWord : en_ck 191 bs_X11_isWord = true := by decide +kernel
def bs_X11_isSign : en_Bs := [
  (0, [(.aload_n 0, 1, 0, 0, 0), (.getfield 222, 3, 11, 11, 1201), (.iconst 3, 1, 0, 0, 0), (.if_icmp .ne 17, 3, 22, 0, 0)]),
  (8, [(.aload_n 0, 1, 0, 0, 0), (.getfield 212, 3, 11, 12, 1202), (.iload_n 1, 1, 0, 0, 0), (.i2l, 1, 0, 0, 0), (.lcmp, 1, 0, 0, 0), (.ifCond .ne 7, 3, 22, 0, 0)]),
  (18, [(.iconst 1, 1, 0, 0, 0), (.goto 4, 3, 23, 0, 0)]),
  (22, [(.iconst 0, 1, 0, 0, 0)]),
  (23, [(.ireturn, 1, 0, 0, 0)])]
theorem ck_X11_isSign : en_ck 192 bs_X11_isSign = true := by decide +kernel
def bs_X11_must : en_Bs := [
  (0, [(.aload_n 0, 1, 0, 0, 0), (.getfield 202, 3, 11, 14, 1204), (.ifCond .ne 20, 3, 24, 0, 0)]),
  (7, [(.iload_n 1, 1, 0, 0, 0), (.ifCond .ne 16, 3, 24, 0, 0)]),
  (11, [(.aload_n 0, 1, 0, 0, 0), (.iconst 1, 1, 0, 0, 0), (.putfield 202, 3, 11, 14, 1204), (.aload_n 0, 1, 0, 0, 0), (.aload_n 0, 1, 0, 0, 0), (.getfield 209, 3, 11, 9, 1199), (.putfield 26, 3, 11, 13, 1203)]),
  (24, [(.aload_n 0, 1, 0, 0, 0), (.getfield 202, 3, 11, 14, 1204), (.ifCond .ne 7, 3, 35, 0, 0)]),
  (31, [(.aload_n 0, 1, 0, 0, 0), (.invokevirtual 206, 3, 190, 1, 1471)]),
  (35, [(.return_, 1, 0, 0, 0)])]
theorem ck_X11_must : en_ck 193 bs_X11_must = true := by decide +kernel
def bs_X11_fault : en_Bs := [
  (0, [(.aload_n 0, 1, 0, 0, 0), (.iconst 0, 1, 0, 0, 0), (.putfield 121, 3, 11, 0, 1190), (.aload_n 0, 1, 0, 0, 0), (.getfield 26, 3, 11, 13, 1203), (.ireturn, 1, 0, 0, 0)])]
theorem ck_X11_fault : en_ck 194 bs_X11_fault = true := by decide +kernel
def bs_X11_emit : en_Bs := [
  (0, [(.aload_n 0, 1, 0, 0, 0), (.getfield 33, 3, 11, 18, 1208), (.aload_n 0, 1, 0, 0, 0), (.getfield 239, 3, 11, 17, 1207), (.iload_n 1, 1, 0, 0, 0), (.iastore, 1, 0, 0, 0), (.aload_n 0, 1, 0, 0, 0), (.getfield 36, 3, 11, 19, 1209), (.aload_n 0, 1, 0, 0, 0), (.getfield 239, 3, 11, 17, 1207), (.iload_n 2, 1, 0, 0, 0), (.iastore, 1, 0, 0, 0), (.aload_n 0, 1, 0, 0, 0), (.dup, 1, 0, 0, 0), (.getfield 239, 3, 11, 17, 1207), (.iconst 1, 1, 0, 0, 0), (.iadd, 1, 0, 0, 0), (.putfield 239, 3, 11, 17, 1207), (.return_, 1, 0, 0, 0)])]
theorem ck_X11_emit : en_ck 195 bs_X11_emit = true := by decide +kernel
def bs_X11_push : en_Bs := [
  (0, [(.aload_n 0, 1, 0, 0, 0), (.getfield 39, 3, 11, 21, 1211), (.aload_n 0, 1, 0, 0, 0), (.getfield 242, 3, 11, 23, 1213), (.iload_n 1, 1, 0, 0, 0), (.iastore, 1, 0, 0, 0), (.aload_n 0, 1, 0, 0, 0), (.getfield 42, 3, 11, 22, 1212), (.aload_n 0, 1, 0, 0, 0), (.getfield 242, 3, 11, 23, 1213), (.iload_n 2, 1, 0, 0, 0), (.iastore, 1, 0, 0, 0), (.aload_n 0, 1, 0, 0, 0), (.dup, 1, 0, 0, 0), (.getfield 242, 3, 11, 23, 1213), (.iconst 1, 1, 0, 0, 0), (.iadd, 1, 0, 0, 0), (.putfield 242, 3, 11, 23, 1213), (.return_, 1, 0, 0, 0)])]
theorem ck_X11_push : en_ck 196 bs_X11_push = true := by decide +kernel
def bs_X11_binds : en_Bs := [
  (0, [(.iload_n 0, 1, 0, 0, 0), (.bipush 30, 2, 0, 0, 0), (.if_icmp .lt 7, 3, 10, 0, 0)]),
  (6, [(.iconst 0, 1, 0, 0, 0), (.goto 55, 3, 62, 0, 0)]),
  (10, [(.iload_n 0, 1, 0, 0, 0), (.bipush 29, 2, 0, 0, 0), (.if_icmp .ne 7, 3, 20, 0, 0)]),
  (16, [(.iconst 1, 1, 0, 0, 0), (.goto 45, 3, 62, 0, 0)]),
  (20, [(.iload_n 0, 1, 0, 0, 0), (.bipush 28, 2, 0, 0, 0), (.if_icmp .ne 7, 3, 30, 0, 0)]),
  (26, [(.iconst 2, 1, 0, 0, 0), (.goto 35, 3, 62, 0, 0)]),
  (30, [(.iload_n 0, 1, 0, 0, 0), (.bipush 27, 2, 0, 0, 0), (.if_icmp .ne 7, 3, 40, 0, 0)]),
  (36, [(.iconst 3, 1, 0, 0, 0), (.goto 25, 3, 62, 0, 0)]),
  (40, [(.iload_n 0, 1, 0, 0, 0), (.bipush 24, 2, 0, 0, 0), (.if_icmp .lt 7, 3, 50, 0, 0)]),
  (46, [(.iconst 4, 1, 0, 0, 0), (.goto 15, 3, 62, 0, 0)]),
  (50, [(.iload_n 0, 1, 0, 0, 0), (.bipush 22, 2, 0, 0, 0), (.if_icmp .lt 8, 3, 61, 0, 0)]),
  (56, [(.bipush 6, 2, 0, 0, 0), (.goto 4, 3, 62, 0, 0)]),
  (61, [(.iconst 5, 1, 0, 0, 0)]),
  (62, [(.ireturn, 1, 0, 0, 0)])]
theorem ck_X11_binds : en_ck 197 bs_X11_binds = true := by decide +kernel
def bs_X11_settle : en_Bs := [
  (0, [(.aload_n 0, 1, 0, 0, 0), (.getfield 242, 3, 11, 23, 1213), (.ifCond .le 97, 3, 101, 0, 0)]),
  (7, [(.aload_n 0, 1, 0, 0, 0), (.getfield 39, 3, 11, 21, 1211), (.aload_n 0, 1, 0, 0, 0), (.getfield 242, 3, 11, 23, 1213), (.iconst 1, 1, 0, 0, 0), (.isub, 1, 0, 0, 0), (.iaload, 1, 0, 0, 0), (.invokestatic 245, 3, 197, 1, 1540)]),
  (21, [(.iload_n 1, 1, 0, 0, 0), (.if_icmp .lt 79, 3, 101, 0, 0)]),
  (25, [(.aload_n 0, 1, 0, 0, 0), (.dup, 1, 0, 0, 0), (.getfield 242, 3, 11, 23, 1213), (.iconst 1, 1, 0, 0, 0), (.isub, 1, 0, 0, 0), (.putfield 242, 3, 11, 23, 1213), (.aload_n 0, 1, 0, 0, 0), (.getfield 39, 3, 11, 21, 1211), (.aload_n 0, 1, 0, 0, 0), (.getfield 242, 3, 11, 23, 1213), (.iaload, 1, 0, 0, 0), (.bipush 28, 2, 0, 0, 0), (.if_icmp .eq 17, 3, 63, 0, 0)]),
  (49, [(.aload_n 0, 1, 0, 0, 0), (.getfield 39, 3, 11, 21, 1211), (.aload_n 0, 1, 0, 0, 0), (.getfield 242, 3, 11, 23, 1213), (.iaload, 1, 0, 0, 0), (.bipush 29, 2, 0, 0, 0), (.if_icmp .ne 24, 3, 84, 0, 0)]),
  (63, [(.aload_n 0, 1, 0, 0, 0), (.getfield 36, 3, 11, 19, 1209), (.aload_n 0, 1, 0, 0, 0), (.getfield 42, 3, 11, 22, 1212), (.aload_n 0, 1, 0, 0, 0), (.getfield 242, 3, 11, 23, 1213), (.iaload, 1, 0, 0, 0), (.aload_n 0, 1, 0, 0, 0), (.getfield 239, 3, 11, 17, 1207), (.iastore, 1, 0, 0, 0), (.goto (-81), 3, 0, 0, 0)]),
  (84, [(.aload_n 0, 1, 0, 0, 0), (.aload_n 0, 1, 0, 0, 0), (.getfield 39, 3, 11, 21, 1211), (.aload_n 0, 1, 0, 0, 0), (.getfield 242, 3, 11, 23, 1213), (.iaload, 1, 0, 0, 0), (.iconst 0, 1, 0, 0, 0), (.invokevirtual 248, 3, 195, 3, 1532)]),
  (98, [(.goto (-98), 3, 0, 0, 0)]),
  (101, [(.return_, 1, 0, 0, 0)])]
theorem ck_X11_settle : en_ck 198 bs_X11_settle = true := by decide +kernel
def bs_X11_inner : en_Bs := [
  (0, [(.iconst (-1), 1, 0, 0, 0), (.istore_n 1, 1, 0, 0, 0), (.iconst 0, 1, 0, 0, 0), (.istore_n 2, 1, 0, 0, 0)]),
  (4, [(.iload_n 2, 1, 0, 0, 0), (.aload_n 0, 1, 0, 0, 0), (.getfield 242, 3, 11, 23, 1213), (.if_icmp .ge 31, 3, 40, 0, 0)]),
  (12, [(.aload_n 0, 1, 0, 0, 0), (.getfield 39, 3, 11, 21, 1211), (.iload_n 2, 1, 0, 0, 0), (.iaload, 1, 0, 0, 0), (.bipush 30, 2, 0, 0, 0), (.if_icmp .lt 12, 3, 32, 0, 0)]),
  (23, [(.aload_n 0, 1, 0, 0, 0), (.getfield 39, 3, 11, 21, 1211), (.iload_n 2, 1, 0, 0, 0), (.iaload, 1, 0, 0, 0), (.goto 4, 3, 33, 0, 0)]),
  (32, [(.iload_n 1, 1, 0, 0, 0)]),
  (33, [(.istore_n 1, 1, 0, 0, 0), (.iinc 2 1, 3, 0, 0, 0), (.goto (-33), 3, 4, 0, 0)]),
  (40, [(.iload_n 1, 1, 0, 0, 0), (.ireturn, 1, 0, 0, 0)])]
theorem ck_X11_inner : en_ck 199 bs_X11_inner = true := by decide +kernel
def bs_X11_isCompared : en_Bs := [
  (0, [(.aload_n 0, 1, 0, 0, 0), (.getfield 242, 3, 11, 23, 1213), (.iconst 1, 1, 0, 0, 0), (.isub, 1, 0, 0, 0), (.istore_n 1, 1, 0, 0, 0)]),
  (7, [(.iload_n 1, 1, 0, 0, 0), (.ifCond .lt 28, 3, 36, 0, 0)]),
  (11, [(.aload_n 0, 1, 0, 0, 0), (.getfield 39, 3, 11, 21, 1211), (.iload_n 1, 1, 0, 0, 0), (.iaload, 1, 0, 0, 0), (.i2l, 1, 0, 0, 0), (.ldc2_w 252, 3, 0, 20, 1555), (.ldc2_w 254, 3, 0, 23, 1556), (.invokestatic 131, 3, 159, 3, 1351)]),
  (27, [(.ifCond .eq 9, 3, 36, 0, 0)]),
  (30, [(.iinc 1 (-1), 3, 0, 0, 0), (.goto (-26), 3, 7, 0, 0)]),
  (36, [(.iload_n 1, 1, 0, 0, 0), (.ifCond .lt 26, 3, 63, 0, 0)]),
  (40, [(.aload_n 0, 1, 0, 0, 0), (.getfield 39, 3, 11, 21, 1211), (.iload_n 1, 1, 0, 0, 0), (.iaload, 1, 0, 0, 0), (.i2l, 1, 0, 0, 0), (.ldc2_w 256, 3, 0, 24, 1557), (.ldc2_w 258, 3, 0, 26, 1558), (.invokestatic 131, 3, 159, 3, 1351)]),
  (56, [(.ifCond .eq 7, 3, 63, 0, 0)]),
  (59, [(.iconst 1, 1, 0, 0, 0), (.goto 4, 3, 64, 0, 0)]),
  (63, [(.iconst 0, 1, 0, 0, 0)]),
  (64, [(.ireturn, 1, 0, 0, 0)])]
theorem ck_X11_isCompared : en_ck 200 bs_X11_isCompared = true := by decide +kernel
def bs_X11_partAt : en_Bs := [
  (0, [(.iconst (-1), 1, 0, 0, 0), (.istore_n 1, 1, 0, 0, 0), (.iconst 0, 1, 0, 0, 0), (.istore_n 2, 1, 0, 0, 0)]),
  (4, [(.iload_n 2, 1, 0, 0, 0), (.bipush 9, 2, 0, 0, 0), (.if_icmp .ge 30, 3, 37, 0, 0)]),
  (10, [(.aload_n 0, 1, 0, 0, 0), (.aload_n 0, 1, 0, 0, 0), (.getfield 63, 3, 11, 25, 1215), (.iload_n 2, 1, 0, 0, 0), (.laload, 1, 0, 0, 0), (.invokevirtual 260, 3, 191, 2, 1490)]),
  (20, [(.ifCond .eq 9, 3, 29, 0, 0)]),
  (23, [(.iload_n 2, 1, 0, 0, 0), (.iconst 1, 1, 0, 0, 0), (.iadd, 1, 0, 0, 0), (.goto 4, 3, 30, 0, 0)]),
  (29, [(.iload_n 1, 1, 0, 0, 0)]),
  (30, [(.istore_n 1, 1, 0, 0, 0), (.iinc 2 1, 3, 0, 0, 0), (.goto (-30), 3, 4, 0, 0)]),
  (37, [(.iload_n 1, 1, 0, 0, 0), (.ireturn, 1, 0, 0, 0)])]
theorem ck_X11_partAt : en_ck 201 bs_X11_partAt = true := by decide +kernel
def bs_X11_openBracket : en_Bs := [
  (0, [(.aload_n 0, 1, 0, 0, 0), (.aload_n 0, 1, 0, 0, 0), (.getfield 264, 3, 11, 24, 1214), (.bipush 8, 2, 0, 0, 0), (.if_icmp .ge 7, 3, 14, 0, 0)]),
  (10, [(.iconst 1, 1, 0, 0, 0), (.goto 4, 3, 15, 0, 0)]),
  (14, [(.iconst 0, 1, 0, 0, 0)]),
  (15, [(.invokevirtual 235, 3, 193, 2, 1494)]),
  (18, [(.aload_n 0, 1, 0, 0, 0), (.getfield 202, 3, 11, 14, 1204), (.ifCond .ne 19, 3, 41, 0, 0)]),
  (25, [(.aload_n 0, 1, 0, 0, 0), (.dup, 1, 0, 0, 0), (.getfield 264, 3, 11, 24, 1214), (.iconst 1, 1, 0, 0, 0), (.iadd, 1, 0, 0, 0), (.putfield 264, 3, 11, 24, 1214), (.aload_n 0, 1, 0, 0, 0), (.iload_n 1, 1, 0, 0, 0), (.iconst 0, 1, 0, 0, 0), (.invokevirtual 267, 3, 196, 3, 1507)]),
  (41, [(.return_, 1, 0, 0, 0)])]
theorem ck_X11_openBracket : en_ck 202 bs_X11_openBracket = true := by decide +kernel
def bs_X11_leaf : en_Bs := [
  (0, [(.aload_n 0, 1, 0, 0, 0), (.iload_n 1, 1, 0, 0, 0), (.ifCond .eq 16, 3, 18, 0, 0)]),
  (5, [(.aload_n 0, 1, 0, 0, 0), (.getfield 270, 3, 11, 20, 1210), (.bipush 50, 2, 0, 0, 0), (.if_icmp .ge 7, 3, 18, 0, 0)]),
  (14, [(.iconst 1, 1, 0, 0, 0), (.goto 4, 3, 19, 0, 0)]),
  (18, [(.iconst 0, 1, 0, 0, 0)]),
  (19, [(.invokevirtual 235, 3, 193, 2, 1494)]),
  (22, [(.aload_n 0, 1, 0, 0, 0), (.getfield 202, 3, 11, 14, 1204), (.ifCond .ne 19, 3, 45, 0, 0)]),
  (29, [(.aload_n 0, 1, 0, 0, 0), (.iload_n 2, 1, 0, 0, 0), (.iload_n 3, 1, 0, 0, 0), (.invokevirtual 248, 3, 195, 3, 1532)]),
  (35, [(.aload_n 0, 1, 0, 0, 0), (.dup, 1, 0, 0, 0), (.getfield 270, 3, 11, 20, 1210), (.iconst 1, 1, 0, 0, 0), (.iadd, 1, 0, 0, 0), (.putfield 270, 3, 11, 20, 1210)]),
  (45, [(.return_, 1, 0, 0, 0)])]
theorem ck_X11_leaf : en_ck 203 bs_X11_leaf = true := by decide +kernel
def bs_X11_readPart : en_Bs := [
  (0, [(.aload_n 0, 1, 0, 0, 0), (.bipush 91, 2, 0, 0, 0), (.invokevirtual 273, 3, 192, 2, 1511)]),
  (6, [(.ifCond .eq 11, 3, 17, 0, 0)]),
  (9, [(.aload_n 0, 1, 0, 0, 0), (.bipush 31, 2, 0, 0, 0), (.invokevirtual 276, 3, 202, 2, 1515)]),
  (15, [(.iconst 1, 1, 0, 0, 0), (.ireturn, 1, 0, 0, 0)]),
  (17, [(.aload_n 0, 1, 0, 0, 0), (.invokevirtual 279, 3, 201, 1, 1523)]),
  (21, [(.istore_n 1, 1, 0, 0, 0), (.aload_n 0, 1, 0, 0, 0), (.getfield 222, 3, 11, 11, 1201), (.iconst 2, 1, 0, 0, 0), (.if_icmp .ne 18, 3, 45, 0, 0)]),
  (30, [(.aload_n 0, 1, 0, 0, 0), (.getfield 212, 3, 11, 12, 1202), (.ldc2_w 283, 3, 0, 1000, 1527), (.lcmp, 1, 0, 0, 0), (.ifCond .gt 7, 3, 45, 0, 0)]),
  (41, [(.iconst 1, 1, 0, 0, 0), (.goto 4, 3, 46, 0, 0)]),
  (45, [(.iconst 0, 1, 0, 0, 0)]),
  (46, [(.istore_n 2, 1, 0, 0, 0), (.aload_n 0, 1, 0, 0, 0), (.iload_n 1, 1, 0, 0, 0), (.iconst (-1), 1, 0, 0, 0), (.if_icmp .ne 7, 3, 57, 0, 0)]),
  (53, [(.iload_n 2, 1, 0, 0, 0), (.ifCond .eq 7, 3, 61, 0, 0)]),
  (57, [(.iconst 1, 1, 0, 0, 0), (.goto 4, 3, 62, 0, 0)]),
  (61, [(.iconst 0, 1, 0, 0, 0)]),
  (62, [(.iload_n 1, 1, 0, 0, 0), (.iconst (-1), 1, 0, 0, 0), (.if_icmp .ne 7, 3, 71, 0, 0)]),
  (67, [(.iconst 0, 1, 0, 0, 0), (.goto 4, 3, 72, 0, 0)]),
  (71, [(.iload_n 1, 1, 0, 0, 0)]),
  (72, [(.iload_n 2, 1, 0, 0, 0), (.ifCond .eq 11, 3, 84, 0, 0)]),
  (76, [(.aload_n 0, 1, 0, 0, 0), (.getfield 212, 3, 11, 12, 1202), (.l2i, 1, 0, 0, 0), (.goto 4, 3, 85, 0, 0)]),
  (84, [(.iconst 0, 1, 0, 0, 0)]),
  (85, [(.invokevirtual 285, 3, 203, 4, 1528)]),
  (88, [(.iconst 3, 1, 0, 0, 0), (.ireturn, 1, 0, 0, 0)])]
theorem ck_X11_readPart : en_ck 204 bs_X11_readPart = true := by decide +kernel
def bs_X11_readPlain : en_Bs := [
  (0, [(.aload_n 0, 1, 0, 0, 0), (.ldc2_w 289, 3, 0, 14836, 1506), (.invokevirtual 260, 3, 191, 2, 1490)]),
  (7, [(.ifCond .eq 16, 3, 23, 0, 0)]),
  (10, [(.aload_n 0, 1, 0, 0, 0), (.bipush 27, 2, 0, 0, 0), (.iconst 0, 1, 0, 0, 0), (.invokevirtual 267, 3, 196, 3, 1507)]),
  (17, [(.aload_n 0, 1, 0, 0, 0), (.invokevirtual 206, 3, 190, 1, 1471)]),
  (21, [(.iconst 0, 1, 0, 0, 0), (.ireturn, 1, 0, 0, 0)]),
  (23, [(.aload_n 0, 1, 0, 0, 0), (.bipush 40, 2, 0, 0, 0), (.invokevirtual 273, 3, 192, 2, 1511)]),
  (29, [(.ifCond .eq 11, 3, 40, 0, 0)]),
  (32, [(.aload_n 0, 1, 0, 0, 0), (.bipush 30, 2, 0, 0, 0), (.invokevirtual 276, 3, 202, 2, 1515)]),
  (38, [(.iconst 0, 1, 0, 0, 0), (.ireturn, 1, 0, 0, 0)]),
  (40, [(.aload_n 0, 1, 0, 0, 0), (.invokevirtual 291, 3, 204, 1, 1519)]),
  (44, [(.ireturn, 1, 0, 0, 0)])]
theorem ck_X11_readPlain : en_ck 205 bs_X11_readPlain = true := by decide +kernel
def bs_X11_behindSum : en_Bs := [
  (0, [(.aload_n 0, 1, 0, 0, 0), (.bipush 43, 2, 0, 0, 0), (.invokevirtual 273, 3, 192, 2, 1511)]),
  (6, [(.ifCond .eq 8, 3, 14, 0, 0)]),
  (9, [(.bipush 20, 2, 0, 0, 0), (.goto 46, 3, 57, 0, 0)]),
  (14, [(.aload_n 0, 1, 0, 0, 0), (.bipush 45, 2, 0, 0, 0), (.invokevirtual 273, 3, 192, 2, 1511)]),
  (20, [(.ifCond .eq 8, 3, 28, 0, 0)]),
  (23, [(.bipush 21, 2, 0, 0, 0), (.goto 32, 3, 57, 0, 0)]),
  (28, [(.aload_n 0, 1, 0, 0, 0), (.bipush 42, 2, 0, 0, 0), (.invokevirtual 273, 3, 192, 2, 1511)]),
  (34, [(.ifCond .eq 8, 3, 42, 0, 0)]),
  (37, [(.bipush 22, 2, 0, 0, 0), (.goto 18, 3, 57, 0, 0)]),
  (42, [(.aload_n 0, 1, 0, 0, 0), (.bipush 47, 2, 0, 0, 0), (.invokevirtual 273, 3, 192, 2, 1511)]),
  (48, [(.ifCond .eq 8, 3, 56, 0, 0)]),
  (51, [(.bipush 23, 2, 0, 0, 0), (.goto 4, 3, 57, 0, 0)]),
  (56, [(.iconst (-1), 1, 0, 0, 0)]),
  (57, [(.istore_n 2, 1, 0, 0, 0), (.iload_n 2, 1, 0, 0, 0), (.iconst (-1), 1, 0, 0, 0), (.if_icmp .eq 23, 3, 83, 0, 0)]),
  (63, [(.aload_n 0, 1, 0, 0, 0), (.iload_n 2, 1, 0, 0, 0), (.invokestatic 245, 3, 197, 1, 1540)]),
  (68, [(.invokevirtual 294, 3, 198, 2, 1543)]),
  (71, [(.aload_n 0, 1, 0, 0, 0), (.iload_n 2, 1, 0, 0, 0), (.iconst 0, 1, 0, 0, 0), (.invokevirtual 267, 3, 196, 3, 1507)]),
  (77, [(.aload_n 0, 1, 0, 0, 0), (.invokevirtual 206, 3, 190, 1, 1471)]),
  (81, [(.iconst 1, 1, 0, 0, 0), (.ireturn, 1, 0, 0, 0)]),
  (83, [(.aload_n 0, 1, 0, 0, 0), (.invokevirtual 297, 3, 199, 1, 1547)]),
  (87, [(.istore_n 3, 1, 0, 0, 0), (.iload_n 3, 1, 0, 0, 0), (.bipush 31, 2, 0, 0, 0), (.if_icmp .ne 47, 3, 138, 0, 0)]),
  (94, [(.aload_n 0, 1, 0, 0, 0), (.aload_n 0, 1, 0, 0, 0), (.bipush 93, 2, 0, 0, 0), (.invokevirtual 273, 3, 192, 2, 1511)]),
  (101, [(.invokevirtual 235, 3, 193, 2, 1494)]),
  (104, [(.aload_n 0, 1, 0, 0, 0), (.getfield 202, 3, 11, 14, 1204), (.ifCond .ne 28, 3, 136, 0, 0)]),
  (111, [(.aload_n 0, 1, 0, 0, 0), (.iconst 5, 1, 0, 0, 0), (.invokevirtual 294, 3, 198, 2, 1543)]),
  (116, [(.aload_n 0, 1, 0, 0, 0), (.dup, 1, 0, 0, 0), (.getfield 242, 3, 11, 23, 1213), (.iconst 1, 1, 0, 0, 0), (.isub, 1, 0, 0, 0), (.putfield 242, 3, 11, 23, 1213), (.aload_n 0, 1, 0, 0, 0), (.dup, 1, 0, 0, 0), (.getfield 264, 3, 11, 24, 1214), (.iconst 1, 1, 0, 0, 0), (.isub, 1, 0, 0, 0), (.putfield 264, 3, 11, 24, 1214)]),
  (136, [(.iconst 3, 1, 0, 0, 0), (.ireturn, 1, 0, 0, 0)]),
  (138, [(.iload_n 3, 1, 0, 0, 0), (.iconst (-1), 1, 0, 0, 0), (.if_icmp .ne 9, 3, 149, 0, 0)]),
  (143, [(.iload_n 1, 1, 0, 0, 0), (.ifCond .ne 5, 3, 149, 0, 0)]),
  (147, [(.iconst 4, 1, 0, 0, 0), (.ireturn, 1, 0, 0, 0)]),
  (149, [(.aload_n 0, 1, 0, 0, 0), (.invokevirtual 300, 3, 200, 1, 1551)]),
  (153, [(.ifCond .eq 5, 3, 158, 0, 0)]),
  (156, [(.iconst 2, 1, 0, 0, 0), (.ireturn, 1, 0, 0, 0)]),
  (158, [(.aload_n 0, 1, 0, 0, 0), (.bipush 60, 2, 0, 0, 0), (.invokevirtual 273, 3, 192, 2, 1511)]),
  (164, [(.ifCond .eq 8, 3, 172, 0, 0)]),
  (167, [(.bipush 24, 2, 0, 0, 0), (.goto 19, 3, 188, 0, 0)]),
  (172, [(.aload_n 0, 1, 0, 0, 0), (.bipush 62, 2, 0, 0, 0), (.invokevirtual 273, 3, 192, 2, 1511)]),
  (178, [(.ifCond .eq 8, 3, 186, 0, 0)]),
  (181, [(.bipush 25, 2, 0, 0, 0), (.goto 5, 3, 188, 0, 0)]),
  (186, [(.bipush 26, 2, 0, 0, 0)]),
  (188, [(.istore_n 2, 1, 0, 0, 0), (.aload_n 0, 1, 0, 0, 0), (.iload_n 2, 1, 0, 0, 0), (.bipush 26, 2, 0, 0, 0), (.if_icmp .ne 12, 3, 205, 0, 0)]),
  (196, [(.aload_n 0, 1, 0, 0, 0), (.bipush 61, 2, 0, 0, 0), (.invokevirtual 273, 3, 192, 2, 1511)]),
  (202, [(.ifCond .eq 7, 3, 209, 0, 0)]),
  (205, [(.iconst 1, 1, 0, 0, 0), (.goto 4, 3, 210, 0, 0)]),
  (209, [(.iconst 0, 1, 0, 0, 0)]),
  (210, [(.invokevirtual 235, 3, 193, 2, 1494)]),
  (213, [(.aload_n 0, 1, 0, 0, 0), (.getfield 202, 3, 11, 14, 1204), (.ifCond .ne 14, 3, 231, 0, 0)]),
  (220, [(.aload_n 0, 1, 0, 0, 0), (.iconst 5, 1, 0, 0, 0), (.invokevirtual 294, 3, 198, 2, 1543)]),
  (225, [(.aload_n 0, 1, 0, 0, 0), (.iload_n 2, 1, 0, 0, 0), (.iconst 0, 1, 0, 0, 0), (.invokevirtual 267, 3, 196, 3, 1507)]),
  (231, [(.iconst 1, 1, 0, 0, 0), (.ireturn, 1, 0, 0, 0)])]
theorem ck_X11_behindSum : en_ck 206 bs_X11_behindSum = true := by decide +kernel
def bs_X11_behindTest : en_Bs := [
  (0, [(.aload_n 0, 1, 0, 0, 0), (.ldc2_w 304, 3, 0, 1476, 1563), (.invokevirtual 260, 3, 191, 2, 1490)]),
  (7, [(.istore_n 1, 1, 0, 0, 0), (.iload_n 1, 1, 0, 0, 0), (.ifCond .ne 13, 3, 22, 0, 0)]),
  (12, [(.aload_n 0, 1, 0, 0, 0), (.ldc2_w 306, 3, 0, 498, 1564), (.invokevirtual 260, 3, 191, 2, 1490)]),
  (19, [(.ifCond .eq 57, 3, 76, 0, 0)]),
  (22, [(.aload_n 0, 1, 0, 0, 0), (.iload_n 1, 1, 0, 0, 0), (.ifCond .eq 7, 3, 31, 0, 0)]),
  (27, [(.iconst 2, 1, 0, 0, 0), (.goto 4, 3, 32, 0, 0)]),
  (31, [(.iconst 1, 1, 0, 0, 0)]),
  (32, [(.invokevirtual 294, 3, 198, 2, 1543)]),
  (35, [(.aload_n 0, 1, 0, 0, 0), (.iload_n 1, 1, 0, 0, 0), (.ifCond .eq 8, 3, 45, 0, 0)]),
  (40, [(.bipush 28, 2, 0, 0, 0), (.goto 5, 3, 47, 0, 0)]),
  (45, [(.bipush 29, 2, 0, 0, 0)]),
  (47, [(.aload_n 0, 1, 0, 0, 0), (.getfield 239, 3, 11, 17, 1207), (.invokevirtual 267, 3, 196, 3, 1507)]),
  (54, [(.aload_n 0, 1, 0, 0, 0), (.iload_n 1, 1, 0, 0, 0), (.ifCond .eq 8, 3, 64, 0, 0)]),
  (59, [(.bipush 28, 2, 0, 0, 0), (.goto 5, 3, 66, 0, 0)]),
  (64, [(.bipush 29, 2, 0, 0, 0)]),
  (66, [(.iconst 0, 1, 0, 0, 0), (.invokevirtual 248, 3, 195, 3, 1532)]),
  (70, [(.aload_n 0, 1, 0, 0, 0), (.invokevirtual 206, 3, 190, 1, 1471)]),
  (74, [(.iconst 0, 1, 0, 0, 0), (.ireturn, 1, 0, 0, 0)]),
  (76, [(.aload_n 0, 1, 0, 0, 0), (.invokevirtual 297, 3, 199, 1, 1547)]),
  (80, [(.iconst (-1), 1, 0, 0, 0), (.if_icmp .ne 5, 3, 86, 0, 0)]),
  (84, [(.iconst 4, 1, 0, 0, 0), (.ireturn, 1, 0, 0, 0)]),
  (86, [(.aload_n 0, 1, 0, 0, 0), (.aload_n 0, 1, 0, 0, 0), (.bipush 41, 2, 0, 0, 0), (.invokevirtual 273, 3, 192, 2, 1511)]),
  (93, [(.invokevirtual 235, 3, 193, 2, 1494)]),
  (96, [(.aload_n 0, 1, 0, 0, 0), (.getfield 202, 3, 11, 14, 1204), (.ifCond .ne 28, 3, 128, 0, 0)]),
  (103, [(.aload_n 0, 1, 0, 0, 0), (.iconst 1, 1, 0, 0, 0), (.invokevirtual 294, 3, 198, 2, 1543)]),
  (108, [(.aload_n 0, 1, 0, 0, 0), (.dup, 1, 0, 0, 0), (.getfield 242, 3, 11, 23, 1213), (.iconst 1, 1, 0, 0, 0), (.isub, 1, 0, 0, 0), (.putfield 242, 3, 11, 23, 1213), (.aload_n 0, 1, 0, 0, 0), (.dup, 1, 0, 0, 0), (.getfield 264, 3, 11, 24, 1214), (.iconst 1, 1, 0, 0, 0), (.isub, 1, 0, 0, 0), (.putfield 264, 3, 11, 24, 1214)]),
  (128, [(.iconst 2, 1, 0, 0, 0), (.ireturn, 1, 0, 0, 0)])]
theorem ck_X11_behindTest : en_ck 207 bs_X11_behindTest = true := by decide +kernel
def bs_X11_readExpression : en_Bs := [
  (0, [(.aload_n 0, 1, 0, 0, 0), (.iconst 0, 1, 0, 0, 0), (.putfield 242, 3, 11, 23, 1213), (.aload_n 0, 1, 0, 0, 0), (.iconst 0, 1, 0, 0, 0), (.putfield 264, 3, 11, 24, 1214), (.iload_n 1, 1, 0, 0, 0), (.ifCond .eq 7, 3, 18, 0, 0)]),
  (14, [(.iconst 0, 1, 0, 0, 0), (.goto 4, 3, 19, 0, 0)]),
  (18, [(.iconst 1, 1, 0, 0, 0)]),
  (19, [(.istore_n 2, 1, 0, 0, 0)]),
  (20, [(.aload_n 0, 1, 0, 0, 0), (.getfield 202, 3, 11, 14, 1204), (.ifCond .ne 52, 3, 76, 0, 0)]),
  (27, [(.iload_n 2, 1, 0, 0, 0), (.iconst 4, 1, 0, 0, 0), (.if_icmp .eq 47, 3, 76, 0, 0)]),
  (32, [(.iload_n 2, 1, 0, 0, 0), (.ifCond .ne 10, 3, 43, 0, 0)]),
  (36, [(.aload_n 0, 1, 0, 0, 0), (.invokevirtual 308, 3, 205, 1, 1502)]),
  (40, [(.goto 32, 3, 72, 0, 0)]),
  (43, [(.iload_n 2, 1, 0, 0, 0), (.iconst 1, 1, 0, 0, 0), (.if_icmp .ne 10, 3, 55, 0, 0)]),
  (48, [(.aload_n 0, 1, 0, 0, 0), (.invokevirtual 291, 3, 204, 1, 1519)]),
  (52, [(.goto 20, 3, 72, 0, 0)]),
  (55, [(.iload_n 2, 1, 0, 0, 0), (.iconst 3, 1, 0, 0, 0), (.if_icmp .ne 11, 3, 68, 0, 0)]),
  (60, [(.aload_n 0, 1, 0, 0, 0), (.iload_n 1, 1, 0, 0, 0), (.invokevirtual 311, 3, 206, 2, 1536)]),
  (65, [(.goto 7, 3, 72, 0, 0)]),
  (68, [(.aload_n 0, 1, 0, 0, 0), (.invokevirtual 315, 3, 207, 1, 1559)]),
  (72, [(.istore_n 2, 1, 0, 0, 0), (.goto (-53), 3, 20, 0, 0)]),
  (76, [(.aload_n 0, 1, 0, 0, 0), (.iconst 1, 1, 0, 0, 0), (.invokevirtual 294, 3, 198, 2, 1543)]),
  (81, [(.return_, 1, 0, 0, 0)])]
theorem ck_X11_readExpression : en_ck 208 bs_X11_readExpression = true := by decide +kernel
def bs_X11_readClause : en_Bs := [
  (0, [(.iconst (-1), 1, 0, 0, 0), (.istore_n 1, 1, 0, 0, 0), (.iconst 0, 1, 0, 0, 0), (.istore_n 2, 1, 0, 0, 0)]),
  (4, [(.iload_n 2, 1, 0, 0, 0), (.iconst 3, 1, 0, 0, 0), (.if_icmp .ge 28, 3, 34, 0, 0)]),
  (9, [(.aload_n 0, 1, 0, 0, 0), (.aload_n 0, 1, 0, 0, 0), (.getfield 73, 3, 11, 26, 1216), (.iload_n 2, 1, 0, 0, 0), (.laload, 1, 0, 0, 0), (.invokevirtual 260, 3, 191, 2, 1490)]),
  (19, [(.ifCond .eq 7, 3, 26, 0, 0)]),
  (22, [(.iload_n 2, 1, 0, 0, 0), (.goto 4, 3, 27, 0, 0)]),
  (26, [(.iload_n 1, 1, 0, 0, 0)]),
  (27, [(.istore_n 1, 1, 0, 0, 0), (.iinc 2 1, 3, 0, 0, 0), (.goto (-27), 3, 4, 0, 0)]),
  (34, [(.aload_n 0, 1, 0, 0, 0), (.iload_n 1, 1, 0, 0, 0), (.iconst (-1), 1, 0, 0, 0), (.if_icmp .eq 16, 3, 53, 0, 0)]),
  (40, [(.aload_n 0, 1, 0, 0, 0), (.getfield 318, 3, 11, 15, 1205), (.bipush 12, 2, 0, 0, 0), (.if_icmp .ge 7, 3, 53, 0, 0)]),
  (49, [(.iconst 1, 1, 0, 0, 0), (.goto 4, 3, 54, 0, 0)]),
  (53, [(.iconst 0, 1, 0, 0, 0)]),
  (54, [(.invokevirtual 235, 3, 193, 2, 1494)]),
  (57, [(.aload_n 0, 1, 0, 0, 0), (.getfield 202, 3, 11, 14, 1204), (.ifCond .eq 4, 3, 65, 0, 0)]),
  (64, [(.return_, 1, 0, 0, 0)]),
  (65, [(.bipush 8, 2, 0, 0, 0), (.aload_n 0, 1, 0, 0, 0), (.getfield 318, 3, 11, 15, 1205), (.imul, 1, 0, 0, 0), (.istore_n 2, 1, 0, 0, 0), (.iconst 0, 1, 0, 0, 0), (.istore_n 3, 1, 0, 0, 0)]),
  (75, [(.iload_n 3, 1, 0, 0, 0), (.bipush 8, 2, 0, 0, 0), (.if_icmp .ge 18, 3, 96, 0, 0)]),
  (81, [(.aload_n 0, 1, 0, 0, 0), (.getfield 30, 3, 11, 16, 1206), (.iload_n 2, 1, 0, 0, 0), (.iload_n 3, 1, 0, 0, 0), (.iadd, 1, 0, 0, 0), (.iconst 0, 1, 0, 0, 0), (.iastore, 1, 0, 0, 0), (.iinc 3 1, 3, 0, 0, 0), (.goto (-18), 3, 75, 0, 0)]),
  (96, [(.aload_n 0, 1, 0, 0, 0), (.getfield 30, 3, 11, 16, 1206), (.iload_n 2, 1, 0, 0, 0), (.iload_n 1, 1, 0, 0, 0), (.iastore, 1, 0, 0, 0), (.aload_n 0, 1, 0, 0, 0), (.dup, 1, 0, 0, 0), (.getfield 318, 3, 11, 15, 1205), (.iconst 1, 1, 0, 0, 0), (.iadd, 1, 0, 0, 0), (.putfield 318, 3, 11, 15, 1205), (.aload_n 0, 1, 0, 0, 0), (.getfield 30, 3, 11, 16, 1206), (.iload_n 2, 1, 0, 0, 0), (.iconst 3, 1, 0, 0, 0), (.iadd, 1, 0, 0, 0), (.aload_n 0, 1, 0, 0, 0), (.getfield 239, 3, 11, 17, 1207), (.iastore, 1, 0, 0, 0), (.iload_n 1, 1, 0, 0, 0), (.iconst 2, 1, 0, 0, 0), (.if_icmp .ge 8, 3, 135, 0, 0)]),
  (130, [(.aload_n 0, 1, 0, 0, 0), (.iconst 0, 1, 0, 0, 0), (.invokevirtual 321, 3, 208, 2, 1498)]),
  (135, [(.aload_n 0, 1, 0, 0, 0), (.getfield 30, 3, 11, 16, 1206), (.iload_n 2, 1, 0, 0, 0), (.iconst 4, 1, 0, 0, 0), (.iadd, 1, 0, 0, 0), (.aload_n 0, 1, 0, 0, 0), (.getfield 239, 3, 11, 17, 1207), (.iastore, 1, 0, 0, 0), (.aload_n 0, 1, 0, 0, 0), (.getfield 30, 3, 11, 16, 1206), (.iload_n 2, 1, 0, 0, 0), (.iconst 5, 1, 0, 0, 0), (.iadd, 1, 0, 0, 0), (.aload_n 0, 1, 0, 0, 0), (.getfield 239, 3, 11, 17, 1207), (.iastore, 1, 0, 0, 0), (.aload_n 0, 1, 0, 0, 0), (.getfield 202, 3, 11, 14, 1204), (.ifCond .ne 22, 3, 185, 0, 0)]),
  (166, [(.aload_n 0, 1, 0, 0, 0), (.ldc2_w 324, 3, 0, 294, 1565), (.invokevirtual 260, 3, 191, 2, 1490)]),
  (173, [(.ifCond .eq 12, 3, 185, 0, 0)]),
  (176, [(.aload_n 0, 1, 0, 0, 0), (.invokevirtual 206, 3, 190, 1, 1471)]),
  (180, [(.aload_n 0, 1, 0, 0, 0), (.iconst 1, 1, 0, 0, 0), (.invokevirtual 321, 3, 208, 2, 1498)]),
  (185, [(.aload_n 0, 1, 0, 0, 0), (.getfield 30, 3, 11, 16, 1206), (.iload_n 2, 1, 0, 0, 0), (.bipush 6, 2, 0, 0, 0), (.iadd, 1, 0, 0, 0), (.aload_n 0, 1, 0, 0, 0), (.getfield 239, 3, 11, 17, 1207), (.iastore, 1, 0, 0, 0), (.return_, 1, 0, 0, 0)])]
theorem ck_X11_readClause : en_ck 209 bs_X11_readClause = true := by decide +kernel
def bs_X11_law : en_Bs := [
  (0, [(.aload_n 0, 1, 0, 0, 0), (.iconst 0, 1, 0, 0, 0), (.putfield 121, 3, 11, 0, 1190), (.aload_n 0, 1, 0, 0, 0), (.getfield 13, 3, 11, 3, 1193), (.iconst 2, 1, 0, 0, 0), (.iaload, 1, 0, 0, 0), (.bipush 6, 2, 0, 0, 0), (.if_icmp .ne 15, 3, 28, 0, 0)]),
  (16, [(.aload_n 0, 1, 0, 0, 0), (.iconst 0, 1, 0, 0, 0), (.putfield 189, 3, 11, 8, 1198), (.aload_n 0, 1, 0, 0, 0), (.bipush (-5), 2, 0, 0, 0), (.invokevirtual 135, 3, 162, 2, 1354)]),
  (27, [(.ireturn, 1, 0, 0, 0)]),
  (28, [(.aload_n 0, 1, 0, 0, 0), (.invokevirtual 326, 3, 189, 1, 1467)]),
  (32, [(.aload_n 0, 1, 0, 0, 0), (.iconst 0, 1, 0, 0, 0), (.putfield 318, 3, 11, 15, 1205), (.aload_n 0, 1, 0, 0, 0), (.iconst 0, 1, 0, 0, 0), (.putfield 239, 3, 11, 17, 1207), (.aload_n 0, 1, 0, 0, 0), (.iconst 0, 1, 0, 0, 0), (.putfield 270, 3, 11, 20, 1210), (.aload_n 0, 1, 0, 0, 0), (.invokevirtual 329, 3, 209, 1, 1486)]),
  (51, [(.aload_n 0, 1, 0, 0, 0), (.getfield 202, 3, 11, 14, 1204), (.ifCond .ne 23, 3, 78, 0, 0)]),
  (58, [(.aload_n 0, 1, 0, 0, 0), (.bipush 59, 2, 0, 0, 0), (.invokevirtual 273, 3, 192, 2, 1511)]),
  (64, [(.ifCond .eq 14, 3, 78, 0, 0)]),
  (67, [(.aload_n 0, 1, 0, 0, 0), (.invokevirtual 206, 3, 190, 1, 1471)]),
  (71, [(.aload_n 0, 1, 0, 0, 0), (.invokevirtual 329, 3, 209, 1, 1486)]),
  (75, [(.goto (-24), 3, 51, 0, 0)]),
  (78, [(.aload_n 0, 1, 0, 0, 0), (.getfield 202, 3, 11, 14, 1204), (.ifCond .ne 15, 3, 97, 0, 0)]),
  (85, [(.aload_n 0, 1, 0, 0, 0), (.getfield 222, 3, 11, 11, 1201), (.ifCond .eq 8, 3, 97, 0, 0)]),
  (92, [(.aload_n 0, 1, 0, 0, 0), (.iconst 0, 1, 0, 0, 0), (.invokevirtual 235, 3, 193, 2, 1494)]),
  (97, [(.aload_n 0, 1, 0, 0, 0), (.iconst 0, 1, 0, 0, 0), (.putfield 189, 3, 11, 8, 1198), (.aload_n 0, 1, 0, 0, 0), (.getfield 202, 3, 11, 14, 1204), (.ifCond .eq 10, 3, 116, 0, 0)]),
  (109, [(.aload_n 0, 1, 0, 0, 0), (.bipush (-6), 2, 0, 0, 0), (.invokevirtual 135, 3, 162, 2, 1354)]),
  (115, [(.ireturn, 1, 0, 0, 0)]),
  (116, [(.bipush 110, 2, 0, 0, 0), (.sipush 900, 3, 0, 0, 0), (.aload_n 0, 1, 0, 0, 0), (.getfield 13, 3, 11, 3, 1193), (.iconst 2, 1, 0, 0, 0), (.iaload, 1, 0, 0, 0), (.imul, 1, 0, 0, 0), (.iadd, 1, 0, 0, 0), (.istore_n 1, 1, 0, 0, 0), (.aload_n 0, 1, 0, 0, 0), (.getfield 13, 3, 11, 3, 1193), (.iload_n 1, 1, 0, 0, 0), (.iconst 1, 1, 0, 0, 0), (.iadd, 1, 0, 0, 0), (.aload_n 0, 1, 0, 0, 0), (.getfield 318, 3, 11, 15, 1205), (.iastore, 1, 0, 0, 0), (.iconst 0, 1, 0, 0, 0), (.istore_n 2, 1, 0, 0, 0)]),
  (144, [(.iload_n 2, 1, 0, 0, 0), (.bipush 8, 2, 0, 0, 0), (.aload_n 0, 1, 0, 0, 0), (.getfield 318, 3, 11, 15, 1205), (.imul, 1, 0, 0, 0), (.if_icmp .ge 25, 3, 177, 0, 0)]),
  (155, [(.aload_n 0, 1, 0, 0, 0), (.getfield 13, 3, 11, 3, 1193), (.iload_n 1, 1, 0, 0, 0), (.iconst 2, 1, 0, 0, 0), (.iadd, 1, 0, 0, 0), (.iload_n 2, 1, 0, 0, 0), (.iadd, 1, 0, 0, 0), (.aload_n 0, 1, 0, 0, 0), (.getfield 30, 3, 11, 16, 1206), (.iload_n 2, 1, 0, 0, 0), (.iaload, 1, 0, 0, 0), (.iastore, 1, 0, 0, 0), (.iinc 2 1, 3, 0, 0, 0), (.goto (-30), 3, 144, 0, 0)]),
  (177, [(.iconst 0, 1, 0, 0, 0), (.istore_n 2, 1, 0, 0, 0)]),
  (179, [(.iload_n 2, 1, 0, 0, 0), (.aload_n 0, 1, 0, 0, 0), (.getfield 239, 3, 11, 17, 1207), (.if_icmp .ge 49, 3, 233, 0, 0)]),
  (187, [(.aload_n 0, 1, 0, 0, 0), (.getfield 13, 3, 11, 3, 1193), (.iload_n 1, 1, 0, 0, 0), (.bipush 98, 2, 0, 0, 0), (.iadd, 1, 0, 0, 0), (.iconst 2, 1, 0, 0, 0), (.iload_n 2, 1, 0, 0, 0), (.imul, 1, 0, 0, 0), (.iadd, 1, 0, 0, 0), (.aload_n 0, 1, 0, 0, 0), (.getfield 33, 3, 11, 18, 1208), (.iload_n 2, 1, 0, 0, 0), (.iaload, 1, 0, 0, 0), (.iastore, 1, 0, 0, 0), (.aload_n 0, 1, 0, 0, 0), (.getfield 13, 3, 11, 3, 1193), (.iload_n 1, 1, 0, 0, 0), (.bipush 98, 2, 0, 0, 0), (.iadd, 1, 0, 0, 0), (.iconst 2, 1, 0, 0, 0), (.iload_n 2, 1, 0, 0, 0), (.imul, 1, 0, 0, 0), (.iadd, 1, 0, 0, 0), (.iconst 1, 1, 0, 0, 0), (.iadd, 1, 0, 0, 0), (.aload_n 0, 1, 0, 0, 0), (.getfield 36, 3, 11, 19, 1209), (.iload_n 2, 1, 0, 0, 0), (.iaload, 1, 0, 0, 0), (.iastore, 1, 0, 0, 0), (.iinc 2 1, 3, 0, 0, 0), (.goto (-51), 3, 179, 0, 0)]),
  (233, [(.aload_n 0, 1, 0, 0, 0), (.getfield 13, 3, 11, 3, 1193), (.iconst 2, 1, 0, 0, 0), (.dup2, 1, 0, 0, 0), (.iaload, 1, 0, 0, 0), (.iconst 1, 1, 0, 0, 0), (.iadd, 1, 0, 0, 0), (.iastore, 1, 0, 0, 0), (.aload_n 0, 1, 0, 0, 0), (.aload_n 0, 1, 0, 0, 0), (.getfield 13, 3, 11, 3, 1193), (.iconst 2, 1, 0, 0, 0), (.iaload, 1, 0, 0, 0), (.iconst 1, 1, 0, 0, 0), (.isub, 1, 0, 0, 0), (.invokevirtual 135, 3, 162, 2, 1354)]),
  (255, [(.ireturn, 1, 0, 0, 0)])]
theorem ck_X11_law : en_ck 210 bs_X11_law = true := by decide +kernel
def bs_X11_force : en_Bs := [
  (0, [(.aload_n 0, 1, 0, 0, 0), (.iconst 0, 1, 0, 0, 0), (.putfield 121, 3, 11, 0, 1190), (.iload_n 1, 1, 0, 0, 0), (.iconst (-1), 1, 0, 0, 0), (.if_icmp .eq 21, 3, 28, 0, 0)]),
  (10, [(.iload_n 1, 1, 0, 0, 0), (.i2l, 1, 0, 0, 0), (.lconst 0, 1, 0, 0, 0), (.aload_n 0, 1, 0, 0, 0), (.getfield 13, 3, 11, 3, 1193), (.iconst 2, 1, 0, 0, 0), (.iaload, 1, 0, 0, 0), (.i2l, 1, 0, 0, 0), (.lconst 1, 1, 0, 0, 0), (.lsub, 1, 0, 0, 0), (.invokestatic 131, 3, 159, 3, 1351)]),
  (25, [(.ifCond .eq 12, 3, 37, 0, 0)]),
  (28, [(.aload_n 0, 1, 0, 0, 0), (.iconst 3, 1, 0, 0, 0), (.iload_n 1, 1, 0, 0, 0), (.invokevirtual 154, 3, 164, 3, 1381)]),
  (34, [(.goto 9, 3, 43, 0, 0)]),
  (37, [(.aload_n 0, 1, 0, 0, 0), (.bipush (-2), 2, 0, 0, 0), (.invokevirtual 135, 3, 162, 2, 1354)]),
  (43, [(.ireturn, 1, 0, 0, 0)])]
theorem ck_X11_force : en_ck 211 bs_X11_force = true := by decide +kernel
def bs_X11_reckon : en_Bs := [
  (0, [(.iload_n 1, 1, 0, 0, 0), (.tableswitch 112 20 25 #[39, 44, 49, 54, 86, 99], 39, 0, 0, 0)]),
  (40, [(.lload_n 2, 1, 0, 0, 0), (.lload 4, 2, 0, 0, 0), (.ladd, 1, 0, 0, 0), (.lreturn, 1, 0, 0, 0)]),
  (45, [(.lload_n 2, 1, 0, 0, 0), (.lload 4, 2, 0, 0, 0), (.lsub, 1, 0, 0, 0), (.lreturn, 1, 0, 0, 0)]),
  (50, [(.lload_n 2, 1, 0, 0, 0), (.lload 4, 2, 0, 0, 0), (.lmul, 1, 0, 0, 0), (.lreturn, 1, 0, 0, 0)]),
  (55, [(.aload_n 0, 1, 0, 0, 0), (.lload 4, 2, 0, 0, 0), (.lconst 0, 1, 0, 0, 0), (.lcmp, 1, 0, 0, 0), (.ifCond .ne 7, 3, 67, 0, 0)]),
  (63, [(.iconst 1, 1, 0, 0, 0), (.goto 4, 3, 68, 0, 0)]),
  (67, [(.iconst 0, 1, 0, 0, 0)]),
  (68, [(.putfield 332, 3, 11, 30, 1220), (.aload_n 0, 1, 0, 0, 0), (.getfield 332, 3, 11, 30, 1220), (.ifCond .eq 7, 3, 82, 0, 0)]),
  (78, [(.lconst 0, 1, 0, 0, 0), (.goto 7, 3, 86, 0, 0)]),
  (82, [(.lload_n 2, 1, 0, 0, 0), (.lload 4, 2, 0, 0, 0), (.ldiv, 1, 0, 0, 0)]),
  (86, [(.lreturn, 1, 0, 0, 0)]),
  (87, [(.lload_n 2, 1, 0, 0, 0), (.lload 4, 2, 0, 0, 0), (.lcmp, 1, 0, 0, 0), (.ifCond .ge 7, 3, 98, 0, 0)]),
  (94, [(.lconst 1, 1, 0, 0, 0), (.goto 4, 3, 99, 0, 0)]),
  (98, [(.lconst 0, 1, 0, 0, 0)]),
  (99, [(.lreturn, 1, 0, 0, 0)]),
  (100, [(.lload_n 2, 1, 0, 0, 0), (.lload 4, 2, 0, 0, 0), (.lcmp, 1, 0, 0, 0), (.ifCond .le 7, 3, 111, 0, 0)]),
  (107, [(.lconst 1, 1, 0, 0, 0), (.goto 4, 3, 112, 0, 0)]),
  (111, [(.lconst 0, 1, 0, 0, 0)]),
  (112, [(.lreturn, 1, 0, 0, 0)]),
  (113, [(.lload_n 2, 1, 0, 0, 0), (.lload 4, 2, 0, 0, 0), (.lcmp, 1, 0, 0, 0), (.ifCond .ne 7, 3, 124, 0, 0)]),
  (120, [(.lconst 1, 1, 0, 0, 0), (.goto 4, 3, 125, 0, 0)]),
  (124, [(.lconst 0, 1, 0, 0, 0)]),
  (125, [(.lreturn, 1, 0, 0, 0)])]
theorem ck_X11_reckon : en_ck 212 bs_X11_reckon = true := by decide +kernel
end
section
def bs_X11_reckonAll : en_Bs := [
  (0, [(.aload_n 0, 1, 0, 0, 0), (.iconst 0, 1, 0, 0, 0), (.putfield 332, 3, 11, 30, 1220), (.iconst 0, 1, 0, 0, 0), (.istore_n 3, 1, 0, 0, 0), (.iload_n 1, 1, 0, 0, 0), (.istore 4, 2, 0, 0, 0)]),
  (10, [(.iload 4, 2, 0, 0, 0), (.iload_n 2, 1, 0, 0, 0), (.if_icmp .ge 232, 3, 245, 0, 0)]),
  (16, [(.aload_n 0, 1, 0, 0, 0), (.getfield 332, 3, 11, 30, 1220), (.ifCond .ne 225, 3, 245, 0, 0)]),
  (23, [(.aload_n 0, 1, 0, 0, 0), (.getfield 13, 3, 11, 3, 1193), (.aload_n 0, 1, 0, 0, 0), (.getfield 335, 3, 11, 27, 1217), (.bipush 98, 2, 0, 0, 0), (.iadd, 1, 0, 0, 0), (.iconst 2, 1, 0, 0, 0), (.iload 4, 2, 0, 0, 0), (.imul, 1, 0, 0, 0), (.iadd, 1, 0, 0, 0), (.iaload, 1, 0, 0, 0), (.istore 5, 2, 0, 0, 0), (.aload_n 0, 1, 0, 0, 0), (.getfield 13, 3, 11, 3, 1193), (.aload_n 0, 1, 0, 0, 0), (.getfield 335, 3, 11, 27, 1217), (.bipush 98, 2, 0, 0, 0), (.iadd, 1, 0, 0, 0), (.iconst 2, 1, 0, 0, 0), (.iload 4, 2, 0, 0, 0), (.imul, 1, 0, 0, 0), (.iadd, 1, 0, 0, 0), (.iconst 1, 1, 0, 0, 0), (.iadd, 1, 0, 0, 0), (.iaload, 1, 0, 0, 0), (.istore 6, 2, 0, 0, 0), (.iinc 4 1, 3, 0, 0, 0), (.iload 5, 2, 0, 0, 0), (.bipush 20, 2, 0, 0, 0), (.if_icmp .ge 33, 3, 103, 0, 0)]),
  (73, [(.aload_n 0, 1, 0, 0, 0), (.getfield 79, 3, 11, 29, 1219), (.iload_n 3, 1, 0, 0, 0), (.iload 5, 2, 0, 0, 0), (.ifCond .ne 9, 3, 89, 0, 0)]),
  (83, [(.iload 6, 2, 0, 0, 0), (.i2l, 1, 0, 0, 0), (.goto 10, 3, 96, 0, 0)]),
  (89, [(.aload_n 0, 1, 0, 0, 0), (.getfield 76, 3, 11, 28, 1218), (.iload 5, 2, 0, 0, 0), (.laload, 1, 0, 0, 0)]),
  (96, [(.lastore, 1, 0, 0, 0), (.iinc 3 1, 3, 0, 0, 0), (.goto 142, 3, 242, 0, 0)]),
  (103, [(.iload 5, 2, 0, 0, 0), (.bipush 27, 2, 0, 0, 0), (.if_icmp .ge 73, 3, 180, 0, 0)]),
  (110, [(.iinc 3 (-1), 3, 0, 0, 0), (.aload_n 0, 1, 0, 0, 0), (.getfield 79, 3, 11, 29, 1219), (.iload_n 3, 1, 0, 0, 0), (.iconst 1, 1, 0, 0, 0), (.isub, 1, 0, 0, 0), (.aload_n 0, 1, 0, 0, 0), (.iload 5, 2, 0, 0, 0), (.aload_n 0, 1, 0, 0, 0), (.getfield 79, 3, 11, 29, 1219), (.iload_n 3, 1, 0, 0, 0), (.iconst 1, 1, 0, 0, 0), (.isub, 1, 0, 0, 0), (.laload, 1, 0, 0, 0), (.aload_n 0, 1, 0, 0, 0), (.getfield 79, 3, 11, 29, 1219), (.iload_n 3, 1, 0, 0, 0), (.laload, 1, 0, 0, 0), (.invokevirtual 338, 3, 212, 4, 1626)]),
  (140, [(.lastore, 1, 0, 0, 0), (.aload_n 0, 1, 0, 0, 0), (.aload_n 0, 1, 0, 0, 0), (.getfield 332, 3, 11, 30, 1220), (.ifCond .ne 23, 3, 169, 0, 0)]),
  (149, [(.aload_n 0, 1, 0, 0, 0), (.getfield 79, 3, 11, 29, 1219), (.iload_n 3, 1, 0, 0, 0), (.iconst 1, 1, 0, 0, 0), (.isub, 1, 0, 0, 0), (.laload, 1, 0, 0, 0), (.ldc2_w 342, 3, 0, 18446744072709551616, 1630), (.ldc2_w 344, 3, 0, 1000000000, 1631), (.invokestatic 131, 3, 159, 3, 1351)]),
  (166, [(.ifCond .ne 7, 3, 173, 0, 0)]),
  (169, [(.iconst 1, 1, 0, 0, 0), (.goto 4, 3, 174, 0, 0)]),
  (173, [(.iconst 0, 1, 0, 0, 0)]),
  (174, [(.putfield 332, 3, 11, 30, 1220), (.goto 65, 3, 242, 0, 0)]),
  (180, [(.iload 5, 2, 0, 0, 0), (.bipush 27, 2, 0, 0, 0), (.if_icmp .ne 24, 3, 208, 0, 0)]),
  (187, [(.aload_n 0, 1, 0, 0, 0), (.getfield 79, 3, 11, 29, 1219), (.iload_n 3, 1, 0, 0, 0), (.iconst 1, 1, 0, 0, 0), (.isub, 1, 0, 0, 0), (.lconst 1, 1, 0, 0, 0), (.aload_n 0, 1, 0, 0, 0), (.getfield 79, 3, 11, 29, 1219), (.iload_n 3, 1, 0, 0, 0), (.iconst 1, 1, 0, 0, 0), (.isub, 1, 0, 0, 0), (.laload, 1, 0, 0, 0), (.lsub, 1, 0, 0, 0), (.lastore, 1, 0, 0, 0), (.goto 37, 3, 242, 0, 0)]),
  (208, [(.aload_n 0, 1, 0, 0, 0), (.getfield 79, 3, 11, 29, 1219), (.iload_n 3, 1, 0, 0, 0), (.iconst 1, 1, 0, 0, 0), (.isub, 1, 0, 0, 0), (.laload, 1, 0, 0, 0), (.iload 5, 2, 0, 0, 0), (.bipush 28, 2, 0, 0, 0), (.if_icmp .ne 7, 3, 227, 0, 0)]),
  (223, [(.lconst 0, 1, 0, 0, 0), (.goto 4, 3, 228, 0, 0)]),
  (227, [(.lconst 1, 1, 0, 0, 0)]),
  (228, [(.lcmp, 1, 0, 0, 0), (.ifCond .ne 10, 3, 239, 0, 0)]),
  (232, [(.iload 6, 2, 0, 0, 0), (.istore 4, 2, 0, 0, 0), (.goto 6, 3, 242, 0, 0)]),
  (239, [(.iinc 3 (-1), 3, 0, 0, 0)]),
  (242, [(.goto (-232), 3, 10, 0, 0)]),
  (245, [(.aload_n 0, 1, 0, 0, 0), (.iload_n 3, 1, 0, 0, 0), (.ifCond .le 12, 3, 259, 0, 0)]),
  (250, [(.aload_n 0, 1, 0, 0, 0), (.getfield 79, 3, 11, 29, 1219), (.iconst 0, 1, 0, 0, 0), (.laload, 1, 0, 0, 0), (.goto 4, 3, 260, 0, 0)]),
  (259, [(.lconst 0, 1, 0, 0, 0)]),
  (260, [(.putfield 346, 3, 11, 31, 1221), (.return_, 1, 0, 0, 0)])]
theorem ck_X11_reckonAll : en_ck 213 bs_X11_reckonAll = true := by decide +kernel
def bs_X11_isSo : en_Bs := [
  (0, [(.aload_n 0, 1, 0, 0, 0), (.getfield 13, 3, 11, 3, 1193), (.iload_n 1, 1, 0, 0, 0), (.iconst 5, 1, 0, 0, 0), (.iadd, 1, 0, 0, 0), (.iaload, 1, 0, 0, 0), (.aload_n 0, 1, 0, 0, 0), (.getfield 13, 3, 11, 3, 1193), (.iload_n 1, 1, 0, 0, 0), (.bipush 6, 2, 0, 0, 0), (.iadd, 1, 0, 0, 0), (.iaload, 1, 0, 0, 0), (.if_icmp .ge 42, 3, 59, 0, 0)]),
  (20, [(.aload_n 0, 1, 0, 0, 0), (.aload_n 0, 1, 0, 0, 0), (.getfield 13, 3, 11, 3, 1193), (.iload_n 1, 1, 0, 0, 0), (.iconst 5, 1, 0, 0, 0), (.iadd, 1, 0, 0, 0), (.iaload, 1, 0, 0, 0), (.aload_n 0, 1, 0, 0, 0), (.getfield 13, 3, 11, 3, 1193), (.iload_n 1, 1, 0, 0, 0), (.bipush 6, 2, 0, 0, 0), (.iadd, 1, 0, 0, 0), (.iaload, 1, 0, 0, 0), (.invokevirtual 349, 3, 213, 3, 1622)]),
  (41, [(.aload_n 0, 1, 0, 0, 0), (.getfield 332, 3, 11, 30, 1220), (.ifCond .ne 12, 3, 57, 0, 0)]),
  (48, [(.aload_n 0, 1, 0, 0, 0), (.getfield 346, 3, 11, 31, 1221), (.lconst 0, 1, 0, 0, 0), (.lcmp, 1, 0, 0, 0), (.ifCond .ne 5, 3, 59, 0, 0)]),
  (57, [(.iconst 0, 1, 0, 0, 0), (.ireturn, 1, 0, 0, 0)]),
  (59, [(.aload_n 0, 1, 0, 0, 0), (.getfield 13, 3, 11, 3, 1193), (.iload_n 1, 1, 0, 0, 0), (.iaload, 1, 0, 0, 0), (.iconst 2, 1, 0, 0, 0), (.if_icmp .ge 44, 3, 110, 0, 0)]),
  (69, [(.aload_n 0, 1, 0, 0, 0), (.aload_n 0, 1, 0, 0, 0), (.getfield 13, 3, 11, 3, 1193), (.iload_n 1, 1, 0, 0, 0), (.iconst 3, 1, 0, 0, 0), (.iadd, 1, 0, 0, 0), (.iaload, 1, 0, 0, 0), (.aload_n 0, 1, 0, 0, 0), (.getfield 13, 3, 11, 3, 1193), (.iload_n 1, 1, 0, 0, 0), (.iconst 4, 1, 0, 0, 0), (.iadd, 1, 0, 0, 0), (.iaload, 1, 0, 0, 0), (.invokevirtual 349, 3, 213, 3, 1622)]),
  (89, [(.aload_n 0, 1, 0, 0, 0), (.aload_n 0, 1, 0, 0, 0), (.getfield 346, 3, 11, 31, 1221), (.putfield 352, 3, 11, 32, 1222), (.aload_n 0, 1, 0, 0, 0), (.getfield 332, 3, 11, 30, 1220), (.ifCond .ne 7, 3, 108, 0, 0)]),
  (104, [(.iconst 1, 1, 0, 0, 0), (.goto 4, 3, 109, 0, 0)]),
  (108, [(.iconst 0, 1, 0, 0, 0)]),
  (109, [(.ireturn, 1, 0, 0, 0)]),
  (110, [(.iconst 1, 1, 0, 0, 0), (.ireturn, 1, 0, 0, 0)])]
theorem ck_X11_isSo : en_ck 214 bs_X11_isSo = true := by decide +kernel
def bs_X11_asIs : en_Bs := [
  (0, [(.iconst 0, 1, 0, 0, 0), (.istore_n 1, 1, 0, 0, 0)]),
  (2, [(.iload_n 1, 1, 0, 0, 0), (.bipush 12, 2, 0, 0, 0), (.if_icmp .ge 33, 3, 38, 0, 0)]),
  (8, [(.aload_n 0, 1, 0, 0, 0), (.getfield 82, 3, 11, 33, 1223), (.iload_n 1, 1, 0, 0, 0), (.aload_n 0, 1, 0, 0, 0), (.iload_n 1, 1, 0, 0, 0), (.iconst 1, 1, 0, 0, 0), (.invokevirtual 158, 3, 169, 3, 1398)]),
  (19, [(.iastore, 1, 0, 0, 0), (.aload_n 0, 1, 0, 0, 0), (.getfield 85, 3, 11, 34, 1224), (.iload_n 1, 1, 0, 0, 0), (.aload_n 0, 1, 0, 0, 0), (.iload_n 1, 1, 0, 0, 0), (.iconst 2, 1, 0, 0, 0), (.invokevirtual 158, 3, 169, 3, 1398)]),
  (31, [(.iastore, 1, 0, 0, 0), (.iinc 1 1, 3, 0, 0, 0), (.goto (-33), 3, 2, 0, 0)]),
  (38, [(.iconst 0, 1, 0, 0, 0), (.istore_n 1, 1, 0, 0, 0)]),
  (40, [(.iload_n 1, 1, 0, 0, 0), (.bipush 8, 2, 0, 0, 0), (.if_icmp .ge 21, 3, 64, 0, 0)]),
  (46, [(.aload_n 0, 1, 0, 0, 0), (.getfield 88, 3, 11, 35, 1225), (.iload_n 1, 1, 0, 0, 0), (.aload_n 0, 1, 0, 0, 0), (.iload_n 1, 1, 0, 0, 0), (.iconst 3, 1, 0, 0, 0), (.invokevirtual 184, 3, 170, 3, 1426)]),
  (57, [(.iastore, 1, 0, 0, 0), (.iinc 1 1, 3, 0, 0, 0), (.goto (-21), 3, 40, 0, 0)]),
  (64, [(.aload_n 0, 1, 0, 0, 0), (.iconst 0, 1, 0, 0, 0), (.putfield 355, 3, 11, 36, 1226), (.return_, 1, 0, 0, 0)])]
theorem ck_X11_asIs : en_ck 215 bs_X11_asIs = true := by decide +kernel
def bs_X11_tells : en_Bs := [
  (0, [(.aload_n 0, 1, 0, 0, 0), (.getfield 13, 3, 11, 3, 1193), (.iconst 3, 1, 0, 0, 0), (.iaload, 1, 0, 0, 0), (.iconst (-1), 1, 0, 0, 0), (.if_icmp .ne 6, 3, 13, 0, 0)]),
  (10, [(.lload 6, 2, 0, 0, 0), (.lreturn, 1, 0, 0, 0)]),
  (13, [(.aload_n 0, 1, 0, 0, 0), (.bipush 110, 2, 0, 0, 0), (.sipush 900, 3, 0, 0, 0), (.aload_n 0, 1, 0, 0, 0), (.getfield 13, 3, 11, 3, 1193), (.iconst 3, 1, 0, 0, 0), (.iaload, 1, 0, 0, 0), (.imul, 1, 0, 0, 0), (.iadd, 1, 0, 0, 0), (.putfield 335, 3, 11, 27, 1217), (.aload_n 0, 1, 0, 0, 0), (.iload_n 3, 1, 0, 0, 0), (.iconst 0, 1, 0, 0, 0), (.invokevirtual 158, 3, 169, 3, 1398)]),
  (36, [(.istore 8, 2, 0, 0, 0), (.aload_n 0, 1, 0, 0, 0), (.getfield 76, 3, 11, 28, 1218), (.iconst 1, 1, 0, 0, 0), (.iload_n 2, 1, 0, 0, 0), (.i2l, 1, 0, 0, 0), (.lastore, 1, 0, 0, 0), (.aload_n 0, 1, 0, 0, 0), (.getfield 76, 3, 11, 28, 1218), (.iconst 2, 1, 0, 0, 0), (.aload_n 0, 1, 0, 0, 0), (.iload_n 2, 1, 0, 0, 0), (.iconst 0, 1, 0, 0, 0), (.invokevirtual 184, 3, 170, 3, 1426)]),
  (57, [(.i2l, 1, 0, 0, 0), (.lastore, 1, 0, 0, 0), (.aload_n 0, 1, 0, 0, 0), (.getfield 76, 3, 11, 28, 1218), (.iconst 3, 1, 0, 0, 0), (.aload_n 0, 1, 0, 0, 0), (.iload_n 2, 1, 0, 0, 0), (.iconst 4, 1, 0, 0, 0), (.invokevirtual 184, 3, 170, 3, 1426)]),
  (70, [(.i2l, 1, 0, 0, 0), (.lastore, 1, 0, 0, 0), (.aload_n 0, 1, 0, 0, 0), (.getfield 76, 3, 11, 28, 1218), (.iconst 4, 1, 0, 0, 0), (.iload_n 3, 1, 0, 0, 0), (.i2l, 1, 0, 0, 0), (.lastore, 1, 0, 0, 0), (.aload_n 0, 1, 0, 0, 0), (.getfield 76, 3, 11, 28, 1218), (.iconst 5, 1, 0, 0, 0), (.aload_n 0, 1, 0, 0, 0), (.iload 8, 2, 0, 0, 0), (.invokevirtual 150, 3, 167, 2, 1377)]),
  (91, [(.ifCond .eq 9, 3, 100, 0, 0)]),
  (94, [(.iload 8, 2, 0, 0, 0), (.i2l, 1, 0, 0, 0), (.goto 6, 3, 103, 0, 0)]),
  (100, [(.ldc2_w 138, 3, 0, 18446744073709551615, 1369)]),
  (103, [(.lastore, 1, 0, 0, 0), (.aload_n 0, 1, 0, 0, 0), (.getfield 76, 3, 11, 28, 1218), (.bipush 6, 2, 0, 0, 0), (.iload 4, 2, 0, 0, 0), (.i2l, 1, 0, 0, 0), (.lastore, 1, 0, 0, 0), (.aload_n 0, 1, 0, 0, 0), (.getfield 76, 3, 11, 28, 1218), (.bipush 7, 2, 0, 0, 0), (.iload 5, 2, 0, 0, 0), (.i2l, 1, 0, 0, 0), (.lastore, 1, 0, 0, 0), (.aload_n 0, 1, 0, 0, 0), (.getfield 76, 3, 11, 28, 1218), (.bipush 8, 2, 0, 0, 0), (.aload_n 0, 1, 0, 0, 0), (.getfield 82, 3, 11, 33, 1223), (.iload_n 3, 1, 0, 0, 0), (.iaload, 1, 0, 0, 0), (.i2l, 1, 0, 0, 0), (.lastore, 1, 0, 0, 0), (.aload_n 0, 1, 0, 0, 0), (.getfield 76, 3, 11, 28, 1218), (.bipush 9, 2, 0, 0, 0), (.aload_n 0, 1, 0, 0, 0), (.getfield 85, 3, 11, 34, 1224), (.iload_n 3, 1, 0, 0, 0), (.iaload, 1, 0, 0, 0), (.i2l, 1, 0, 0, 0), (.lastore, 1, 0, 0, 0), (.lload 6, 2, 0, 0, 0), (.lstore 9, 2, 0, 0, 0), (.iconst 0, 1, 0, 0, 0), (.istore 11, 2, 0, 0, 0)]),
  (159, [(.iload 11, 2, 0, 0, 0), (.aload_n 0, 1, 0, 0, 0), (.getfield 13, 3, 11, 3, 1193), (.aload_n 0, 1, 0, 0, 0), (.getfield 335, 3, 11, 27, 1217), (.iconst 1, 1, 0, 0, 0), (.iadd, 1, 0, 0, 0), (.iaload, 1, 0, 0, 0), (.if_icmp .ge 58, 3, 230, 0, 0)]),
  (175, [(.aload_n 0, 1, 0, 0, 0), (.getfield 335, 3, 11, 27, 1217), (.iconst 2, 1, 0, 0, 0), (.iadd, 1, 0, 0, 0), (.bipush 8, 2, 0, 0, 0), (.iload 11, 2, 0, 0, 0), (.imul, 1, 0, 0, 0), (.iadd, 1, 0, 0, 0), (.istore 12, 2, 0, 0, 0), (.aload_n 0, 1, 0, 0, 0), (.getfield 13, 3, 11, 3, 1193), (.iload 12, 2, 0, 0, 0), (.iaload, 1, 0, 0, 0), (.iload_n 1, 1, 0, 0, 0), (.if_icmp .ne 27, 3, 224, 0, 0)]),
  (200, [(.aload_n 0, 1, 0, 0, 0), (.iload 12, 2, 0, 0, 0), (.invokevirtual 358, 3, 214, 2, 1618)]),
  (206, [(.ifCond .eq 18, 3, 224, 0, 0)]),
  (209, [(.iload_n 1, 1, 0, 0, 0), (.iconst 2, 1, 0, 0, 0), (.if_icmp .ge 10, 3, 221, 0, 0)]),
  (214, [(.aload_n 0, 1, 0, 0, 0), (.getfield 352, 3, 11, 32, 1222), (.goto 4, 3, 222, 0, 0)]),
  (221, [(.lconst 1, 1, 0, 0, 0)]),
  (222, [(.lstore 9, 2, 0, 0, 0)]),
  (224, [(.iinc 11 1, 3, 0, 0, 0), (.goto (-68), 3, 159, 0, 0)]),
  (230, [(.lload 9, 2, 0, 0, 0), (.lreturn, 1, 0, 0, 0)])]
theorem ck_X11_tells : en_ck 216 bs_X11_tells = true := by decide +kernel
def bs_X11_feeOf : en_Bs := [
  (0, [(.aload_n 0, 1, 0, 0, 0), (.iconst 1, 1, 0, 0, 0), (.iload_n 1, 1, 0, 0, 0), (.iload_n 2, 1, 0, 0, 0), (.iconst 0, 1, 0, 0, 0), (.iconst 0, 1, 0, 0, 0), (.aload_n 0, 1, 0, 0, 0), (.getfield 85, 3, 11, 34, 1224), (.iload_n 2, 1, 0, 0, 0), (.iaload, 1, 0, 0, 0), (.i2l, 1, 0, 0, 0), (.invokevirtual 361, 3, 216, 7, 1614)]),
  (16, [(.lstore_n 3, 1, 0, 0, 0), (.lload_n 3, 1, 0, 0, 0), (.lconst 0, 1, 0, 0, 0), (.lcmp, 1, 0, 0, 0), (.ifCond .ge 7, 3, 27, 0, 0)]),
  (23, [(.iconst 0, 1, 0, 0, 0), (.goto 19, 3, 43, 0, 0)]),
  (27, [(.lload_n 3, 1, 0, 0, 0), (.ldc2_w 365, 3, 0, 999, 1707), (.lcmp, 1, 0, 0, 0), (.ifCond .le 9, 3, 41, 0, 0)]),
  (35, [(.sipush 999, 3, 0, 0, 0), (.goto 5, 3, 43, 0, 0)]),
  (41, [(.lload_n 3, 1, 0, 0, 0), (.l2i, 1, 0, 0, 0)]),
  (43, [(.ireturn, 1, 0, 0, 0)])]
theorem ck_X11_feeOf : en_ck 217 bs_X11_feeOf = true := by decide +kernel
def bs_X11_isBarred : en_Bs := [
  (0, [(.aload_n 0, 1, 0, 0, 0), (.iconst 2, 1, 0, 0, 0), (.iload_n 1, 1, 0, 0, 0), (.iload_n 2, 1, 0, 0, 0), (.iload_n 3, 1, 0, 0, 0), (.iload 4, 2, 0, 0, 0), (.lconst 0, 1, 0, 0, 0), (.invokevirtual 361, 3, 216, 7, 1614)]),
  (11, [(.lconst 1, 1, 0, 0, 0), (.lcmp, 1, 0, 0, 0), (.ifCond .ne 7, 3, 20, 0, 0)]),
  (16, [(.iconst 1, 1, 0, 0, 0), (.goto 4, 3, 21, 0, 0)]),
  (20, [(.iconst 0, 1, 0, 0, 0)]),
  (21, [(.ireturn, 1, 0, 0, 0)])]
theorem ck_X11_isBarred : en_ck 218 bs_X11_isBarred = true := by decide +kernel
def bs_X11_findWay : en_Bs := [
  (0, [(.aload_n 0, 1, 0, 0, 0), (.iload_n 1, 1, 0, 0, 0), (.iconst 1, 1, 0, 0, 0), (.invokevirtual 184, 3, 170, 3, 1426)]),
  (6, [(.istore_n 2, 1, 0, 0, 0), (.iconst 0, 1, 0, 0, 0), (.istore_n 3, 1, 0, 0, 0)]),
  (9, [(.iload_n 3, 1, 0, 0, 0), (.bipush 13, 2, 0, 0, 0), (.if_icmp .ge 40, 3, 52, 0, 0)]),
  (15, [(.iload_n 2, 1, 0, 0, 0), (.iconst (-1), 1, 0, 0, 0), (.if_icmp .eq 35, 3, 52, 0, 0)]),
  (20, [(.aload_n 0, 1, 0, 0, 0), (.getfield 91, 3, 11, 37, 1227), (.iload_n 3, 1, 0, 0, 0), (.iload_n 2, 1, 0, 0, 0), (.iastore, 1, 0, 0, 0), (.iload_n 2, 1, 0, 0, 0), (.aload_n 0, 1, 0, 0, 0), (.iload_n 1, 1, 0, 0, 0), (.iconst 2, 1, 0, 0, 0), (.invokevirtual 184, 3, 170, 3, 1426)]),
  (34, [(.if_icmp .ne 5, 3, 39, 0, 0)]),
  (37, [(.iload_n 3, 1, 0, 0, 0), (.ireturn, 1, 0, 0, 0)]),
  (39, [(.aload_n 0, 1, 0, 0, 0), (.iload_n 2, 1, 0, 0, 0), (.iconst 0, 1, 0, 0, 0), (.invokevirtual 166, 3, 174, 3, 1394)]),
  (45, [(.istore_n 2, 1, 0, 0, 0), (.iinc 3 1, 3, 0, 0, 0), (.goto (-40), 3, 9, 0, 0)]),
  (52, [(.iconst (-1), 1, 0, 0, 0), (.ireturn, 1, 0, 0, 0)])]
theorem ck_X11_findWay : en_ck 219 bs_X11_findWay = true := by decide +kernel
def bs_X11_way : en_Bs := [
  (0, [(.aload_n 0, 1, 0, 0, 0), (.iconst 0, 1, 0, 0, 0), (.putfield 121, 3, 11, 0, 1190), (.aload_n 0, 1, 0, 0, 0), (.iload_n 1, 1, 0, 0, 0), (.invokevirtual 179, 3, 168, 2, 1421)]),
  (10, [(.ifCond .ne 5, 3, 15, 0, 0)]),
  (13, [(.iconst (-1), 1, 0, 0, 0), (.ireturn, 1, 0, 0, 0)]),
  (15, [(.aload_n 0, 1, 0, 0, 0), (.iload_n 1, 1, 0, 0, 0), (.invokevirtual 367, 3, 219, 2, 1574)]),
  (20, [(.istore_n 3, 1, 0, 0, 0), (.iload_n 3, 1, 0, 0, 0), (.iconst (-1), 1, 0, 0, 0), (.if_icmp .eq 8, 3, 31, 0, 0)]),
  (26, [(.iload_n 2, 1, 0, 0, 0), (.iconst (-1), 1, 0, 0, 0), (.if_icmp .ne 7, 3, 35, 0, 0)]),
  (31, [(.iload_n 3, 1, 0, 0, 0), (.goto 24, 3, 56, 0, 0)]),
  (35, [(.iload_n 2, 1, 0, 0, 0), (.i2l, 1, 0, 0, 0), (.lconst 0, 1, 0, 0, 0), (.iload_n 3, 1, 0, 0, 0), (.i2l, 1, 0, 0, 0), (.invokestatic 131, 3, 159, 3, 1351)]),
  (43, [(.ifCond .eq 12, 3, 55, 0, 0)]),
  (46, [(.aload_n 0, 1, 0, 0, 0), (.getfield 91, 3, 11, 37, 1227), (.iload_n 2, 1, 0, 0, 0), (.iaload, 1, 0, 0, 0), (.goto 4, 3, 56, 0, 0)]),
  (55, [(.iconst (-1), 1, 0, 0, 0)]),
  (56, [(.ireturn, 1, 0, 0, 0)])]
theorem ck_X11_way : en_ck 220 bs_X11_way = true := by decide +kernel
def bs_X11_areStands : en_Bs := [
  (0, [(.iload_n 1, 1, 0, 0, 0), (.i2l, 1, 0, 0, 0), (.lconst 0, 1, 0, 0, 0), (.iconst 1, 1, 0, 0, 0), (.aload_n 0, 1, 0, 0, 0), (.getfield 13, 3, 11, 3, 1193), (.iconst 0, 1, 0, 0, 0), (.iaload, 1, 0, 0, 0), (.ishl, 1, 0, 0, 0), (.i2l, 1, 0, 0, 0), (.lconst 1, 1, 0, 0, 0), (.lsub, 1, 0, 0, 0), (.invokestatic 131, 3, 159, 3, 1351)]),
  (17, [(.ireturn, 1, 0, 0, 0)])]
theorem ck_X11_areStands : en_ck 221 bs_X11_areStands = true := by decide +kernel
def bs_X11_enter : en_Bs := [
  (0, [(.aload_n 0, 1, 0, 0, 0), (.iconst 0, 1, 0, 0, 0), (.putfield 121, 3, 11, 0, 1190), (.aload_n 0, 1, 0, 0, 0), (.iload_n 1, 1, 0, 0, 0), (.invokevirtual 150, 3, 167, 2, 1377)]),
  (10, [(.ifCond .eq 11, 3, 21, 0, 0)]),
  (13, [(.aload_n 0, 1, 0, 0, 0), (.iload_n 2, 1, 0, 0, 0), (.invokevirtual 370, 3, 221, 2, 1582)]),
  (18, [(.ifCond .ne 5, 3, 23, 0, 0)]),
  (21, [(.iconst (-1), 1, 0, 0, 0), (.ireturn, 1, 0, 0, 0)]),
  (23, [(.iconst 0, 1, 0, 0, 0), (.istore_n 3, 1, 0, 0, 0), (.iconst 0, 1, 0, 0, 0), (.istore 4, 2, 0, 0, 0)]),
  (28, [(.iload 4, 2, 0, 0, 0), (.aload_n 0, 1, 0, 0, 0), (.getfield 13, 3, 11, 3, 1193), (.iconst 0, 1, 0, 0, 0), (.iaload, 1, 0, 0, 0), (.if_icmp .ge 90, 3, 126, 0, 0)]),
  (39, [(.iload 4, 2, 0, 0, 0), (.istore 5, 2, 0, 0, 0), (.iconst 0, 1, 0, 0, 0), (.istore 6, 2, 0, 0, 0)]),
  (46, [(.iload 6, 2, 0, 0, 0), (.bipush 13, 2, 0, 0, 0), (.if_icmp .ge 70, 3, 120, 0, 0)]),
  (53, [(.iload 5, 2, 0, 0, 0), (.iconst (-1), 1, 0, 0, 0), (.if_icmp .eq 64, 3, 120, 0, 0)]),
  (59, [(.iload_n 2, 1, 0, 0, 0), (.iload 5, 2, 0, 0, 0), (.iconst (-1), 1, 0, 0, 0), (.if_icmp .ne 7, 3, 70, 0, 0)]),
  (66, [(.iconst 0, 1, 0, 0, 0), (.goto 5, 3, 72, 0, 0)]),
  (70, [(.iload 5, 2, 0, 0, 0)]),
  (72, [(.invokestatic 161, 3, 160, 2, 1402)]),
  (75, [(.ifCond .ne 45, 3, 120, 0, 0)]),
  (78, [(.iload_n 3, 1, 0, 0, 0), (.iload 5, 2, 0, 0, 0), (.iload_n 1, 1, 0, 0, 0), (.if_icmp .ne 10, 3, 92, 0, 0)]),
  (85, [(.iconst 1, 1, 0, 0, 0), (.iload 4, 2, 0, 0, 0), (.ishl, 1, 0, 0, 0), (.goto 4, 3, 93, 0, 0)]),
  (92, [(.iconst 0, 1, 0, 0, 0)]),
  (93, [(.ior, 1, 0, 0, 0), (.istore_n 3, 1, 0, 0, 0), (.iload 5, 2, 0, 0, 0), (.iload_n 1, 1, 0, 0, 0), (.if_icmp .ne 7, 3, 105, 0, 0)]),
  (101, [(.iconst (-1), 1, 0, 0, 0), (.goto 10, 3, 112, 0, 0)]),
  (105, [(.aload_n 0, 1, 0, 0, 0), (.iload 5, 2, 0, 0, 0), (.iconst 0, 1, 0, 0, 0), (.invokevirtual 166, 3, 174, 3, 1394)]),
  (112, [(.istore 5, 2, 0, 0, 0), (.iinc 6 1, 3, 0, 0, 0), (.goto (-71), 3, 46, 0, 0)]),
  (120, [(.iinc 4 1, 3, 0, 0, 0), (.goto (-95), 3, 28, 0, 0)]),
  (126, [(.iload_n 3, 1, 0, 0, 0), (.ireturn, 1, 0, 0, 0)])]
theorem ck_X11_enter : en_ck 222 bs_X11_enter = true := by decide +kernel
def bs_X11_takesPart : en_Bs := [
  (0, [(.aload_n 0, 1, 0, 0, 0), (.getfield 355, 3, 11, 36, 1226), (.aload_n 0, 1, 0, 0, 0), (.iload_n 1, 1, 0, 0, 0), (.iconst 1, 1, 0, 0, 0), (.invokevirtual 184, 3, 170, 3, 1426)]),
  (10, [(.invokestatic 161, 3, 160, 2, 1402)]),
  (13, [(.ifCond .ne 23, 3, 36, 0, 0)]),
  (16, [(.aload_n 0, 1, 0, 0, 0), (.getfield 355, 3, 11, 36, 1226), (.aload_n 0, 1, 0, 0, 0), (.iload_n 1, 1, 0, 0, 0), (.iconst 2, 1, 0, 0, 0), (.invokevirtual 184, 3, 170, 3, 1426)]),
  (26, [(.invokestatic 161, 3, 160, 2, 1402)]),
  (29, [(.ifCond .ne 7, 3, 36, 0, 0)]),
  (32, [(.iconst 1, 1, 0, 0, 0), (.goto 4, 3, 37, 0, 0)]),
  (36, [(.iconst 0, 1, 0, 0, 0)]),
  (37, [(.ireturn, 1, 0, 0, 0)])]
theorem ck_X11_takesPart : en_ck 223 bs_X11_takesPart = true := by decide +kernel
def bs_X11_canHold : en_Bs := [
  (0, [(.iconst 0, 1, 0, 0, 0), (.istore_n 3, 1, 0, 0, 0), (.aload_n 0, 1, 0, 0, 0), (.iload_n 2, 1, 0, 0, 0), (.iconst 0, 1, 0, 0, 0), (.invokevirtual 184, 3, 170, 3, 1426)]),
  (8, [(.istore 4, 2, 0, 0, 0), (.iconst 0, 1, 0, 0, 0), (.istore 5, 2, 0, 0, 0)]),
  (13, [(.iload 5, 2, 0, 0, 0), (.aload_n 0, 1, 0, 0, 0), (.getfield 13, 3, 11, 3, 1193), (.iconst 1, 1, 0, 0, 0), (.iaload, 1, 0, 0, 0), (.if_icmp .ge 35, 3, 56, 0, 0)]),
  (24, [(.aload_n 0, 1, 0, 0, 0), (.getfield 94, 3, 11, 38, 1228), (.iload 5, 2, 0, 0, 0), (.iaload, 1, 0, 0, 0), (.iload_n 1, 1, 0, 0, 0), (.if_icmp .ne 18, 3, 50, 0, 0)]),
  (35, [(.iinc 3 1, 3, 0, 0, 0), (.iload 4, 2, 0, 0, 0), (.aload_n 0, 1, 0, 0, 0), (.iload 5, 2, 0, 0, 0), (.iconst 0, 1, 0, 0, 0), (.invokevirtual 184, 3, 170, 3, 1426)]),
  (47, [(.iadd, 1, 0, 0, 0), (.istore 4, 2, 0, 0, 0)]),
  (50, [(.iinc 5 1, 3, 0, 0, 0), (.goto (-40), 3, 13, 0, 0)]),
  (56, [(.iload_n 3, 1, 0, 0, 0), (.aload_n 0, 1, 0, 0, 0), (.getfield 13, 3, 11, 3, 1193), (.bipush 6, 2, 0, 0, 0), (.iaload, 1, 0, 0, 0), (.if_icmp .ge 18, 3, 82, 0, 0)]),
  (67, [(.iload 4, 2, 0, 0, 0), (.aload_n 0, 1, 0, 0, 0), (.getfield 82, 3, 11, 33, 1223), (.iload_n 1, 1, 0, 0, 0), (.iaload, 1, 0, 0, 0), (.if_icmp .gt 7, 3, 82, 0, 0)]),
  (78, [(.iconst 1, 1, 0, 0, 0), (.goto 4, 3, 83, 0, 0)]),
  (82, [(.iconst 0, 1, 0, 0, 0)]),
  (83, [(.ireturn, 1, 0, 0, 0)])]
theorem ck_X11_canHold : en_ck 224 bs_X11_canHold = true := by decide +kernel
def bs_X11_run : en_Bs := [
  (0, [(.iconst 0, 1, 0, 0, 0), (.istore_n 1, 1, 0, 0, 0)]),
  (2, [(.iload_n 1, 1, 0, 0, 0), (.aload_n 0, 1, 0, 0, 0), (.getfield 13, 3, 11, 3, 1193), (.iconst 1, 1, 0, 0, 0), (.iaload, 1, 0, 0, 0), (.if_icmp .ge 37, 3, 46, 0, 0)]),
  (12, [(.aload_n 0, 1, 0, 0, 0), (.getfield 94, 3, 11, 38, 1228), (.iload_n 1, 1, 0, 0, 0), (.iconst (-1), 1, 0, 0, 0), (.iastore, 1, 0, 0, 0), (.aload_n 0, 1, 0, 0, 0), (.getfield 97, 3, 11, 39, 1229), (.iload_n 1, 1, 0, 0, 0), (.iconst 0, 1, 0, 0, 0), (.iastore, 1, 0, 0, 0), (.aload_n 0, 1, 0, 0, 0), (.getfield 100, 3, 11, 40, 1230), (.iload_n 1, 1, 0, 0, 0), (.iconst 0, 1, 0, 0, 0), (.iastore, 1, 0, 0, 0), (.aload_n 0, 1, 0, 0, 0), (.getfield 103, 3, 11, 41, 1231), (.iload_n 1, 1, 0, 0, 0), (.iconst (-1), 1, 0, 0, 0), (.iastore, 1, 0, 0, 0), (.iinc 1 1, 3, 0, 0, 0), (.goto (-41), 3, 2, 0, 0)]),
  (46, [(.iconst 0, 1, 0, 0, 0), (.istore_n 1, 1, 0, 0, 0)]),
  (48, [(.iload_n 1, 1, 0, 0, 0), (.bipush 100, 2, 0, 0, 0), (.if_icmp .ge 171, 3, 222, 0, 0)]),
  (54, [(.aload_n 0, 1, 0, 0, 0), (.iload_n 1, 1, 0, 0, 0), (.invokevirtual 373, 3, 227, 2, 1602)]),
  (59, [(.iconst 0, 1, 0, 0, 0), (.istore_n 2, 1, 0, 0, 0)]),
  (61, [(.iload_n 2, 1, 0, 0, 0), (.aload_n 0, 1, 0, 0, 0), (.getfield 13, 3, 11, 3, 1193), (.iconst 1, 1, 0, 0, 0), (.iaload, 1, 0, 0, 0), (.if_icmp .ge 69, 3, 137, 0, 0)]),
  (71, [(.aload_n 0, 1, 0, 0, 0), (.getfield 109, 3, 11, 43, 1233), (.iload_n 2, 1, 0, 0, 0), (.aload_n 0, 1, 0, 0, 0), (.getfield 94, 3, 11, 38, 1228), (.iload_n 2, 1, 0, 0, 0), (.iaload, 1, 0, 0, 0), (.ifCond .ge 7, 3, 89, 0, 0)]),
  (85, [(.iconst 1, 1, 0, 0, 0), (.goto 4, 3, 90, 0, 0)]),
  (89, [(.iconst 0, 1, 0, 0, 0)]),
  (90, [(.bastore, 1, 0, 0, 0), (.aload_n 0, 1, 0, 0, 0), (.getfield 106, 3, 11, 42, 1232), (.iload_n 2, 1, 0, 0, 0), (.aload_n 0, 1, 0, 0, 0), (.getfield 109, 3, 11, 43, 1233), (.iload_n 2, 1, 0, 0, 0), (.baload, 1, 0, 0, 0), (.ifCond .eq 7, 3, 109, 0, 0)]),
  (105, [(.iconst 0, 1, 0, 0, 0), (.goto 24, 3, 130, 0, 0)]),
  (109, [(.aload_n 0, 1, 0, 0, 0), (.iconst 0, 1, 0, 0, 0), (.iload_n 2, 1, 0, 0, 0), (.aload_n 0, 1, 0, 0, 0), (.getfield 94, 3, 11, 38, 1228), (.iload_n 2, 1, 0, 0, 0), (.iaload, 1, 0, 0, 0), (.iload_n 1, 1, 0, 0, 0), (.aload_n 0, 1, 0, 0, 0), (.getfield 97, 3, 11, 39, 1229), (.iload_n 2, 1, 0, 0, 0), (.iaload, 1, 0, 0, 0), (.lconst 0, 1, 0, 0, 0), (.invokevirtual 361, 3, 216, 7, 1614)]),
  (129, [(.l2i, 1, 0, 0, 0)]),
  (130, [(.iastore, 1, 0, 0, 0), (.iinc 2 1, 3, 0, 0, 0), (.goto (-73), 3, 61, 0, 0)]),
  (137, [(.aload_n 0, 1, 0, 0, 0), (.invokevirtual 376, 3, 226, 1, 1632)]),
  (141, [(.istore_n 2, 1, 0, 0, 0)]),
  (142, [(.iload_n 2, 1, 0, 0, 0), (.iconst (-1), 1, 0, 0, 0), (.if_icmp .eq 24, 3, 168, 0, 0)]),
  (147, [(.aload_n 0, 1, 0, 0, 0), (.getfield 109, 3, 11, 43, 1233), (.iload_n 2, 1, 0, 0, 0), (.iconst 1, 1, 0, 0, 0), (.bastore, 1, 0, 0, 0), (.aload_n 0, 1, 0, 0, 0), (.iload_n 2, 1, 0, 0, 0), (.iload_n 1, 1, 0, 0, 0), (.invokevirtual 379, 3, 228, 3, 1636)]),
  (160, [(.aload_n 0, 1, 0, 0, 0), (.invokevirtual 376, 3, 226, 1, 1632)]),
  (164, [(.istore_n 2, 1, 0, 0, 0), (.goto (-23), 3, 142, 0, 0)]),
  (168, [(.iconst 0, 1, 0, 0, 0), (.istore_n 3, 1, 0, 0, 0)]),
  (170, [(.iload_n 3, 1, 0, 0, 0), (.aload_n 0, 1, 0, 0, 0), (.getfield 13, 3, 11, 3, 1193), (.iconst 1, 1, 0, 0, 0), (.iaload, 1, 0, 0, 0), (.if_icmp .ge 39, 3, 216, 0, 0)]),
  (180, [(.aload_n 0, 1, 0, 0, 0), (.getfield 112, 3, 11, 44, 1234), (.bipush 100, 2, 0, 0, 0), (.iload_n 3, 1, 0, 0, 0), (.imul, 1, 0, 0, 0), (.iload_n 1, 1, 0, 0, 0), (.iadd, 1, 0, 0, 0), (.aload_n 0, 1, 0, 0, 0), (.getfield 94, 3, 11, 38, 1228), (.iload_n 3, 1, 0, 0, 0), (.iaload, 1, 0, 0, 0), (.ifCond .ge 7, 3, 203, 0, 0)]),
  (199, [(.iconst (-1), 1, 0, 0, 0), (.goto 9, 3, 209, 0, 0)]),
  (203, [(.aload_n 0, 1, 0, 0, 0), (.getfield 94, 3, 11, 38, 1228), (.iload_n 3, 1, 0, 0, 0), (.iaload, 1, 0, 0, 0)]),
  (209, [(.iastore, 1, 0, 0, 0), (.iinc 3 1, 3, 0, 0, 0), (.goto (-43), 3, 170, 0, 0)]),
  (216, [(.iinc 1 1, 3, 0, 0, 0), (.goto (-171), 3, 48, 0, 0)]),
  (222, [(.return_, 1, 0, 0, 0)])]
theorem ck_X11_run : en_ck 225 bs_X11_run = true := by decide +kernel
def bs_X11_first : en_Bs := [
  (0, [(.iconst (-1), 1, 0, 0, 0), (.istore_n 1, 1, 0, 0, 0), (.iconst 0, 1, 0, 0, 0), (.istore_n 2, 1, 0, 0, 0)]),
  (4, [(.iload_n 2, 1, 0, 0, 0), (.aload_n 0, 1, 0, 0, 0), (.getfield 13, 3, 11, 3, 1193), (.iconst 1, 1, 0, 0, 0), (.iaload, 1, 0, 0, 0), (.if_icmp .ge 44, 3, 55, 0, 0)]),
  (14, [(.aload_n 0, 1, 0, 0, 0), (.getfield 109, 3, 11, 43, 1233), (.iload_n 2, 1, 0, 0, 0), (.baload, 1, 0, 0, 0), (.ifCond .ne 27, 3, 47, 0, 0)]),
  (23, [(.iload_n 1, 1, 0, 0, 0), (.iconst (-1), 1, 0, 0, 0), (.if_icmp .eq 18, 3, 43, 0, 0)]),
  (28, [(.aload_n 0, 1, 0, 0, 0), (.getfield 106, 3, 11, 42, 1232), (.iload_n 2, 1, 0, 0, 0), (.iaload, 1, 0, 0, 0), (.aload_n 0, 1, 0, 0, 0), (.getfield 106, 3, 11, 42, 1232), (.iload_n 1, 1, 0, 0, 0), (.iaload, 1, 0, 0, 0), (.if_icmp .le 7, 3, 47, 0, 0)]),
  (43, [(.iload_n 2, 1, 0, 0, 0), (.goto 4, 3, 48, 0, 0)]),
  (47, [(.iload_n 1, 1, 0, 0, 0)]),
  (48, [(.istore_n 1, 1, 0, 0, 0), (.iinc 2 1, 3, 0, 0, 0), (.goto (-48), 3, 4, 0, 0)]),
  (55, [(.iload_n 1, 1, 0, 0, 0), (.ireturn, 1, 0, 0, 0)])]
theorem ck_X11_first : en_ck 226 bs_X11_first = true := by decide +kernel
def bs_X11_bring : en_Bs := [
  (0, [(.iconst 0, 1, 0, 0, 0), (.istore_n 2, 1, 0, 0, 0)]),
  (2, [(.iload_n 2, 1, 0, 0, 0), (.iload_n 1, 1, 0, 0, 0), (.if_icmp .gt 110, 3, 114, 0, 0)]),
  (7, [(.iconst 0, 1, 0, 0, 0), (.istore_n 3, 1, 0, 0, 0)]),
  (9, [(.iload_n 3, 1, 0, 0, 0), (.aload_n 0, 1, 0, 0, 0), (.getfield 13, 3, 11, 3, 1193), (.iconst 1, 1, 0, 0, 0), (.iaload, 1, 0, 0, 0), (.if_icmp .ge 92, 3, 108, 0, 0)]),
  (19, [(.aload_n 0, 1, 0, 0, 0), (.getfield 88, 3, 11, 35, 1225), (.iload_n 3, 1, 0, 0, 0), (.iaload, 1, 0, 0, 0), (.iload_n 2, 1, 0, 0, 0), (.if_icmp .ne 76, 3, 102, 0, 0)]),
  (29, [(.aload_n 0, 1, 0, 0, 0), (.getfield 94, 3, 11, 38, 1228), (.iload_n 3, 1, 0, 0, 0), (.iaload, 1, 0, 0, 0), (.iconst (-1), 1, 0, 0, 0), (.if_icmp .ne 66, 3, 102, 0, 0)]),
  (39, [(.aload_n 0, 1, 0, 0, 0), (.iload_n 3, 1, 0, 0, 0), (.invokevirtual 382, 3, 223, 2, 1606)]),
  (44, [(.ifCond .eq 58, 3, 102, 0, 0)]),
  (47, [(.aload_n 0, 1, 0, 0, 0), (.iload_n 3, 1, 0, 0, 0), (.iconst 1, 1, 0, 0, 0), (.invokevirtual 184, 3, 170, 3, 1426)]),
  (53, [(.istore 4, 2, 0, 0, 0), (.iload 4, 2, 0, 0, 0), (.aload_n 0, 1, 0, 0, 0), (.iload_n 3, 1, 0, 0, 0), (.iconst 2, 1, 0, 0, 0), (.invokevirtual 184, 3, 170, 3, 1426)]),
  (63, [(.if_icmp .ne 21, 3, 84, 0, 0)]),
  (66, [(.aload_n 0, 1, 0, 0, 0), (.getfield 94, 3, 11, 38, 1228), (.iload_n 3, 1, 0, 0, 0), (.bipush (-2), 2, 0, 0, 0), (.iastore, 1, 0, 0, 0), (.aload_n 0, 1, 0, 0, 0), (.getfield 103, 3, 11, 41, 1231), (.iload_n 3, 1, 0, 0, 0), (.iload_n 1, 1, 0, 0, 0), (.iastore, 1, 0, 0, 0), (.goto 21, 3, 102, 0, 0)]),
  (84, [(.aload_n 0, 1, 0, 0, 0), (.iload 4, 2, 0, 0, 0), (.iload_n 3, 1, 0, 0, 0), (.invokevirtual 385, 3, 224, 3, 1610)]),
  (91, [(.ifCond .eq 11, 3, 102, 0, 0)]),
  (94, [(.aload_n 0, 1, 0, 0, 0), (.getfield 94, 3, 11, 38, 1228), (.iload_n 3, 1, 0, 0, 0), (.iload 4, 2, 0, 0, 0), (.iastore, 1, 0, 0, 0)]),
  (102, [(.iinc 3 1, 3, 0, 0, 0), (.goto (-96), 3, 9, 0, 0)]),
  (108, [(.iinc 2 1, 3, 0, 0, 0), (.goto (-109), 3, 2, 0, 0)]),
  (114, [(.return_, 1, 0, 0, 0)])]
theorem ck_X11_bring : en_ck 227 bs_X11_bring = true := by decide +kernel
def bs_X11_goOn : en_Bs := [
  (0, [(.aload_n 0, 1, 0, 0, 0), (.iload_n 1, 1, 0, 0, 0), (.aload_n 0, 1, 0, 0, 0), (.getfield 94, 3, 11, 38, 1228), (.iload_n 1, 1, 0, 0, 0), (.iaload, 1, 0, 0, 0), (.iload_n 2, 1, 0, 0, 0), (.aload_n 0, 1, 0, 0, 0), (.getfield 97, 3, 11, 39, 1229), (.iload_n 1, 1, 0, 0, 0), (.iaload, 1, 0, 0, 0), (.invokevirtual 388, 3, 218, 5, 1640)]),
  (18, [(.ifCond .eq 7, 3, 25, 0, 0)]),
  (21, [(.iconst (-1), 1, 0, 0, 0), (.goto 17, 3, 39, 0, 0)]),
  (25, [(.aload_n 0, 1, 0, 0, 0), (.aload_n 0, 1, 0, 0, 0), (.getfield 94, 3, 11, 38, 1228), (.iload_n 1, 1, 0, 0, 0), (.iaload, 1, 0, 0, 0), (.aload_n 0, 1, 0, 0, 0), (.getfield 355, 3, 11, 36, 1226), (.invokevirtual 166, 3, 174, 3, 1394)]),
  (39, [(.istore_n 3, 1, 0, 0, 0), (.iload_n 3, 1, 0, 0, 0), (.iconst (-1), 1, 0, 0, 0), (.if_icmp .eq 31, 3, 73, 0, 0)]),
  (45, [(.iload_n 3, 1, 0, 0, 0), (.aload_n 0, 1, 0, 0, 0), (.iload_n 1, 1, 0, 0, 0), (.iconst 2, 1, 0, 0, 0), (.invokevirtual 184, 3, 170, 3, 1426)]),
  (52, [(.if_icmp .ne 21, 3, 73, 0, 0)]),
  (55, [(.aload_n 0, 1, 0, 0, 0), (.getfield 94, 3, 11, 38, 1228), (.iload_n 1, 1, 0, 0, 0), (.bipush (-2), 2, 0, 0, 0), (.iastore, 1, 0, 0, 0), (.aload_n 0, 1, 0, 0, 0), (.getfield 103, 3, 11, 41, 1231), (.iload_n 1, 1, 0, 0, 0), (.iload_n 2, 1, 0, 0, 0), (.iastore, 1, 0, 0, 0), (.goto 54, 3, 124, 0, 0)]),
  (73, [(.iload_n 3, 1, 0, 0, 0), (.iconst (-1), 1, 0, 0, 0), (.if_icmp .eq 29, 3, 104, 0, 0)]),
  (78, [(.aload_n 0, 1, 0, 0, 0), (.iload_n 3, 1, 0, 0, 0), (.iload_n 1, 1, 0, 0, 0), (.invokevirtual 385, 3, 224, 3, 1610)]),
  (84, [(.ifCond .eq 20, 3, 104, 0, 0)]),
  (87, [(.aload_n 0, 1, 0, 0, 0), (.getfield 94, 3, 11, 38, 1228), (.iload_n 1, 1, 0, 0, 0), (.iload_n 3, 1, 0, 0, 0), (.iastore, 1, 0, 0, 0), (.aload_n 0, 1, 0, 0, 0), (.getfield 97, 3, 11, 39, 1229), (.iload_n 1, 1, 0, 0, 0), (.iconst 0, 1, 0, 0, 0), (.iastore, 1, 0, 0, 0), (.goto 23, 3, 124, 0, 0)]),
  (104, [(.aload_n 0, 1, 0, 0, 0), (.getfield 97, 3, 11, 39, 1229), (.iload_n 1, 1, 0, 0, 0), (.dup2, 1, 0, 0, 0), (.iaload, 1, 0, 0, 0), (.iconst 1, 1, 0, 0, 0), (.iadd, 1, 0, 0, 0), (.iastore, 1, 0, 0, 0), (.aload_n 0, 1, 0, 0, 0), (.getfield 100, 3, 11, 40, 1230), (.iload_n 1, 1, 0, 0, 0), (.dup2, 1, 0, 0, 0), (.iaload, 1, 0, 0, 0), (.iconst 1, 1, 0, 0, 0), (.iadd, 1, 0, 0, 0), (.iastore, 1, 0, 0, 0)]),
  (124, [(.return_, 1, 0, 0, 0)])]
theorem ck_X11_goOn : en_ck 228 bs_X11_goOn = true := by decide +kernel
def bs_X11_runDay : en_Bs := [
  (0, [(.aload_n 0, 1, 0, 0, 0), (.invokevirtual 391, 3, 215, 1, 1594)]),
  (4, [(.aload_n 0, 1, 0, 0, 0), (.invokevirtual 394, 3, 225, 1, 1598)]),
  (8, [(.return_, 1, 0, 0, 0)])]
theorem ck_X11_runDay : en_ck 229 bs_X11_runDay = true := by decide +kernel
def bs_X11_day : en_Bs := [
  (0, [(.aload_n 0, 1, 0, 0, 0), (.iconst 0, 1, 0, 0, 0), (.putfield 121, 3, 11, 0, 1190), (.aload_n 0, 1, 0, 0, 0), (.iload_n 1, 1, 0, 0, 0), (.invokevirtual 179, 3, 168, 2, 1421)]),
  (10, [(.ifCond .eq 15, 3, 25, 0, 0)]),
  (13, [(.iload_n 2, 1, 0, 0, 0), (.i2l, 1, 0, 0, 0), (.lconst 0, 1, 0, 0, 0), (.ldc2_w 164, 3, 0, 3, 1393), (.invokestatic 131, 3, 159, 3, 1351)]),
  (22, [(.ifCond .ne 5, 3, 27, 0, 0)]),
  (25, [(.iconst (-1), 1, 0, 0, 0), (.ireturn, 1, 0, 0, 0)]),
  (27, [(.aload_n 0, 1, 0, 0, 0), (.invokevirtual 397, 3, 229, 1, 1590)]),
  (31, [(.aload_n 0, 1, 0, 0, 0), (.getfield 103, 3, 11, 41, 1231), (.iload_n 1, 1, 0, 0, 0), (.iaload, 1, 0, 0, 0), (.istore_n 3, 1, 0, 0, 0), (.iload_n 3, 1, 0, 0, 0), (.aload_n 0, 1, 0, 0, 0), (.getfield 13, 3, 11, 3, 1193), (.iconst 5, 1, 0, 0, 0), (.iaload, 1, 0, 0, 0), (.isub, 1, 0, 0, 0), (.istore 4, 2, 0, 0, 0), (.iload_n 2, 1, 0, 0, 0), (.ifCond .ne 7, 3, 56, 0, 0)]),
  (52, [(.iload_n 3, 1, 0, 0, 0), (.goto 57, 3, 110, 0, 0)]),
  (56, [(.iload_n 2, 1, 0, 0, 0), (.iconst 1, 1, 0, 0, 0), (.if_icmp .ne 26, 3, 84, 0, 0)]),
  (61, [(.iload_n 3, 1, 0, 0, 0), (.iconst (-1), 1, 0, 0, 0), (.if_icmp .ne 7, 3, 70, 0, 0)]),
  (66, [(.iconst (-1), 1, 0, 0, 0), (.goto 43, 3, 110, 0, 0)]),
  (70, [(.iload 4, 2, 0, 0, 0), (.ifCond .ge 7, 3, 79, 0, 0)]),
  (75, [(.iconst 0, 1, 0, 0, 0), (.goto 34, 3, 110, 0, 0)]),
  (79, [(.iload 4, 2, 0, 0, 0), (.goto 29, 3, 110, 0, 0)]),
  (84, [(.iload_n 2, 1, 0, 0, 0), (.iconst 2, 1, 0, 0, 0), (.if_icmp .ne 18, 3, 104, 0, 0)]),
  (89, [(.aload_n 0, 1, 0, 0, 0), (.getfield 112, 3, 11, 44, 1234), (.bipush 100, 2, 0, 0, 0), (.iload_n 1, 1, 0, 0, 0), (.imul, 1, 0, 0, 0), (.bipush 99, 2, 0, 0, 0), (.iadd, 1, 0, 0, 0), (.iaload, 1, 0, 0, 0), (.goto 9, 3, 110, 0, 0)]),
  (104, [(.aload_n 0, 1, 0, 0, 0), (.getfield 100, 3, 11, 40, 1230), (.iload_n 1, 1, 0, 0, 0), (.iaload, 1, 0, 0, 0)]),
  (110, [(.ireturn, 1, 0, 0, 0)])]
theorem ck_X11_day : en_ck 230 bs_X11_day = true := by decide +kernel
def bs_X11_isMinute : en_Bs := [
  (0, [(.iload_n 0, 1, 0, 0, 0), (.i2l, 1, 0, 0, 0), (.lconst 0, 1, 0, 0, 0), (.ldc2_w 144, 3, 0, 99, 1372), (.invokestatic 131, 3, 159, 3, 1351)]),
  (9, [(.ireturn, 1, 0, 0, 0)])]
theorem ck_X11_isMinute : en_ck 231 bs_X11_isMinute = true := by decide +kernel
def bs_X11_where : en_Bs := [
  (0, [(.aload_n 0, 1, 0, 0, 0), (.iconst 0, 1, 0, 0, 0), (.putfield 121, 3, 11, 0, 1190), (.aload_n 0, 1, 0, 0, 0), (.iload_n 1, 1, 0, 0, 0), (.invokevirtual 179, 3, 168, 2, 1421)]),
  (10, [(.ifCond .eq 10, 3, 20, 0, 0)]),
  (13, [(.iload_n 2, 1, 0, 0, 0), (.invokestatic 400, 3, 231, 1, 1648)]),
  (17, [(.ifCond .ne 5, 3, 22, 0, 0)]),
  (20, [(.iconst (-1), 1, 0, 0, 0), (.ireturn, 1, 0, 0, 0)]),
  (22, [(.aload_n 0, 1, 0, 0, 0), (.invokevirtual 397, 3, 229, 1, 1590)]),
  (26, [(.aload_n 0, 1, 0, 0, 0), (.getfield 112, 3, 11, 44, 1234), (.bipush 100, 2, 0, 0, 0), (.iload_n 1, 1, 0, 0, 0), (.imul, 1, 0, 0, 0), (.iload_n 2, 1, 0, 0, 0), (.iadd, 1, 0, 0, 0), (.iaload, 1, 0, 0, 0), (.ireturn, 1, 0, 0, 0)])]
theorem ck_X11_where : en_ck 232 bs_X11_where = true := by decide +kernel
def bs_X11_held : en_Bs := [
  (0, [(.aload_n 0, 1, 0, 0, 0), (.iconst 0, 1, 0, 0, 0), (.putfield 121, 3, 11, 0, 1190), (.aload_n 0, 1, 0, 0, 0), (.iload_n 1, 1, 0, 0, 0), (.invokevirtual 150, 3, 167, 2, 1377)]),
  (10, [(.ifCond .eq 20, 3, 30, 0, 0)]),
  (13, [(.iload_n 2, 1, 0, 0, 0), (.invokestatic 400, 3, 231, 1, 1648)]),
  (17, [(.ifCond .eq 13, 3, 30, 0, 0)]),
  (20, [(.iload_n 3, 1, 0, 0, 0), (.i2l, 1, 0, 0, 0), (.lconst 0, 1, 0, 0, 0), (.lconst 1, 1, 0, 0, 0), (.invokestatic 131, 3, 159, 3, 1351)]),
  (27, [(.ifCond .ne 5, 3, 32, 0, 0)]),
  (30, [(.iconst (-1), 1, 0, 0, 0), (.ireturn, 1, 0, 0, 0)]),
  (32, [(.aload_n 0, 1, 0, 0, 0), (.invokevirtual 397, 3, 229, 1, 1590)]),
  (36, [(.iconst 0, 1, 0, 0, 0), (.istore 4, 2, 0, 0, 0), (.iconst 0, 1, 0, 0, 0), (.istore 5, 2, 0, 0, 0)]),
  (42, [(.iload 5, 2, 0, 0, 0), (.aload_n 0, 1, 0, 0, 0), (.getfield 13, 3, 11, 3, 1193), (.iconst 1, 1, 0, 0, 0), (.iaload, 1, 0, 0, 0), (.if_icmp .ge 49, 3, 99, 0, 0)]),
  (53, [(.iload 4, 2, 0, 0, 0), (.aload_n 0, 1, 0, 0, 0), (.getfield 112, 3, 11, 44, 1234), (.bipush 100, 2, 0, 0, 0), (.iload 5, 2, 0, 0, 0), (.imul, 1, 0, 0, 0), (.iload_n 2, 1, 0, 0, 0), (.iadd, 1, 0, 0, 0), (.iaload, 1, 0, 0, 0), (.iload_n 1, 1, 0, 0, 0), (.if_icmp .eq 7, 3, 75, 0, 0)]),
  (71, [(.iconst 0, 1, 0, 0, 0), (.goto 18, 3, 90, 0, 0)]),
  (75, [(.iload_n 3, 1, 0, 0, 0), (.ifCond .ne 7, 3, 83, 0, 0)]),
  (79, [(.iconst 1, 1, 0, 0, 0), (.goto 10, 3, 90, 0, 0)]),
  (83, [(.aload_n 0, 1, 0, 0, 0), (.iload 5, 2, 0, 0, 0), (.iconst 0, 1, 0, 0, 0), (.invokevirtual 184, 3, 170, 3, 1426)]),
  (90, [(.iadd, 1, 0, 0, 0), (.istore 4, 2, 0, 0, 0), (.iinc 5 1, 3, 0, 0, 0), (.goto (-54), 3, 42, 0, 0)]),
  (99, [(.iload 4, 2, 0, 0, 0), (.ireturn, 1, 0, 0, 0)])]
theorem ck_X11_held : en_ck 233 bs_X11_held = true := by decide +kernel
def bs_X11_isStuck : en_Bs := [
  (0, [(.iconst 0, 1, 0, 0, 0), (.istore_n 2, 1, 0, 0, 0), (.aload_n 0, 1, 0, 0, 0), (.iload_n 1, 1, 0, 0, 0), (.iconst 0, 1, 0, 0, 0), (.invokevirtual 166, 3, 174, 3, 1394)]),
  (8, [(.istore_n 3, 1, 0, 0, 0), (.iconst 0, 1, 0, 0, 0), (.istore 4, 2, 0, 0, 0)]),
  (12, [(.iload 4, 2, 0, 0, 0), (.aload_n 0, 1, 0, 0, 0), (.getfield 13, 3, 11, 3, 1193), (.iconst 1, 1, 0, 0, 0), (.iaload, 1, 0, 0, 0), (.if_icmp .ge 75, 3, 95, 0, 0)]),
  (23, [(.iload_n 3, 1, 0, 0, 0), (.iconst (-1), 1, 0, 0, 0), (.if_icmp .eq 70, 3, 95, 0, 0)]),
  (28, [(.iload_n 2, 1, 0, 0, 0), (.ifCond .ne 54, 3, 83, 0, 0)]),
  (32, [(.aload_n 0, 1, 0, 0, 0), (.getfield 94, 3, 11, 38, 1228), (.iload 4, 2, 0, 0, 0), (.iaload, 1, 0, 0, 0), (.iload_n 1, 1, 0, 0, 0), (.if_icmp .ne 47, 3, 87, 0, 0)]),
  (43, [(.iload_n 3, 1, 0, 0, 0), (.aload_n 0, 1, 0, 0, 0), (.iload 4, 2, 0, 0, 0), (.iconst 2, 1, 0, 0, 0), (.invokevirtual 184, 3, 170, 3, 1426)]),
  (51, [(.if_icmp .eq 36, 3, 87, 0, 0)]),
  (54, [(.aload_n 0, 1, 0, 0, 0), (.iload 4, 2, 0, 0, 0), (.iload_n 1, 1, 0, 0, 0), (.bipush 99, 2, 0, 0, 0), (.aload_n 0, 1, 0, 0, 0), (.getfield 97, 3, 11, 39, 1229), (.iload 4, 2, 0, 0, 0), (.iaload, 1, 0, 0, 0), (.invokevirtual 388, 3, 218, 5, 1640)]),
  (70, [(.ifCond .ne 17, 3, 87, 0, 0)]),
  (73, [(.aload_n 0, 1, 0, 0, 0), (.iload_n 3, 1, 0, 0, 0), (.iload 4, 2, 0, 0, 0), (.invokevirtual 385, 3, 224, 3, 1610)]),
  (80, [(.ifCond .ne 7, 3, 87, 0, 0)]),
  (83, [(.iconst 1, 1, 0, 0, 0), (.goto 4, 3, 88, 0, 0)]),
  (87, [(.iconst 0, 1, 0, 0, 0)]),
  (88, [(.istore_n 2, 1, 0, 0, 0), (.iinc 4 1, 3, 0, 0, 0), (.goto (-80), 3, 12, 0, 0)]),
  (95, [(.iload_n 2, 1, 0, 0, 0), (.ireturn, 1, 0, 0, 0)])]
theorem ck_X11_isStuck : en_ck 234 bs_X11_isStuck = true := by decide +kernel
def bs_X11_choke : en_Bs := [
  (0, [(.aload_n 0, 1, 0, 0, 0), (.iconst 0, 1, 0, 0, 0), (.putfield 121, 3, 11, 0, 1190), (.aload_n 0, 1, 0, 0, 0), (.invokevirtual 397, 3, 229, 1, 1590)]),
  (9, [(.iconst 0, 1, 0, 0, 0), (.istore_n 1, 1, 0, 0, 0)]),
  (11, [(.iload_n 1, 1, 0, 0, 0), (.aload_n 0, 1, 0, 0, 0), (.getfield 13, 3, 11, 3, 1193), (.iconst 0, 1, 0, 0, 0), (.iaload, 1, 0, 0, 0), (.if_icmp .ge 62, 3, 80, 0, 0)]),
  (21, [(.iconst 0, 1, 0, 0, 0), (.istore_n 2, 1, 0, 0, 0), (.iload_n 1, 1, 0, 0, 0), (.istore_n 3, 1, 0, 0, 0), (.iconst 0, 1, 0, 0, 0), (.istore 4, 2, 0, 0, 0)]),
  (28, [(.iload 4, 2, 0, 0, 0), (.bipush 12, 2, 0, 0, 0), (.if_icmp .ge 42, 3, 74, 0, 0)]),
  (35, [(.iload_n 3, 1, 0, 0, 0), (.iconst (-1), 1, 0, 0, 0), (.if_icmp .eq 37, 3, 74, 0, 0)]),
  (40, [(.aload_n 0, 1, 0, 0, 0), (.iload_n 3, 1, 0, 0, 0), (.invokevirtual 403, 3, 234, 2, 1659)]),
  (45, [(.ifCond .eq 29, 3, 74, 0, 0)]),
  (48, [(.iload_n 2, 1, 0, 0, 0), (.iconst 1, 1, 0, 0, 0), (.iload_n 3, 1, 0, 0, 0), (.ishl, 1, 0, 0, 0), (.ior, 1, 0, 0, 0), (.istore_n 2, 1, 0, 0, 0), (.aload_n 0, 1, 0, 0, 0), (.iload_n 3, 1, 0, 0, 0), (.iconst 0, 1, 0, 0, 0), (.invokevirtual 166, 3, 174, 3, 1394)]),
  (60, [(.istore_n 3, 1, 0, 0, 0), (.iload_n 3, 1, 0, 0, 0), (.iload_n 1, 1, 0, 0, 0), (.if_icmp .ne 5, 3, 68, 0, 0)]),
  (66, [(.iload_n 2, 1, 0, 0, 0), (.ireturn, 1, 0, 0, 0)]),
  (68, [(.iinc 4 1, 3, 0, 0, 0), (.goto (-43), 3, 28, 0, 0)]),
  (74, [(.iinc 1 1, 3, 0, 0, 0), (.goto (-66), 3, 11, 0, 0)]),
  (80, [(.iconst 0, 1, 0, 0, 0), (.ireturn, 1, 0, 0, 0)])]
theorem ck_X11_choke : en_ck 235 bs_X11_choke = true := by decide +kernel
def bs_X11_swapAt : en_Bs := [
  (0, [(.aload_n 0, 1, 0, 0, 0), (.getfield 82, 3, 11, 33, 1223), (.iload_n 1, 1, 0, 0, 0), (.iaload, 1, 0, 0, 0), (.istore_n 3, 1, 0, 0, 0), (.aload_n 0, 1, 0, 0, 0), (.getfield 85, 3, 11, 34, 1224), (.iload_n 1, 1, 0, 0, 0), (.iaload, 1, 0, 0, 0), (.istore 4, 2, 0, 0, 0), (.aload_n 0, 1, 0, 0, 0), (.getfield 82, 3, 11, 33, 1223), (.iload_n 1, 1, 0, 0, 0), (.aload_n 0, 1, 0, 0, 0), (.getfield 82, 3, 11, 33, 1223), (.iload_n 2, 1, 0, 0, 0), (.iaload, 1, 0, 0, 0), (.iastore, 1, 0, 0, 0), (.aload_n 0, 1, 0, 0, 0), (.getfield 85, 3, 11, 34, 1224), (.iload_n 1, 1, 0, 0, 0), (.aload_n 0, 1, 0, 0, 0), (.getfield 85, 3, 11, 34, 1224), (.iload_n 2, 1, 0, 0, 0), (.iaload, 1, 0, 0, 0), (.iastore, 1, 0, 0, 0), (.aload_n 0, 1, 0, 0, 0), (.getfield 82, 3, 11, 33, 1223), (.iload_n 2, 1, 0, 0, 0), (.iload_n 3, 1, 0, 0, 0), (.iastore, 1, 0, 0, 0), (.aload_n 0, 1, 0, 0, 0), (.getfield 85, 3, 11, 34, 1224), (.iload_n 2, 1, 0, 0, 0), (.iload 4, 2, 0, 0, 0), (.iastore, 1, 0, 0, 0), (.return_, 1, 0, 0, 0)])]
theorem ck_X11_swapAt : en_ck 236 bs_X11_swapAt = true := by decide +kernel
end
section
def bs_X11_allCome : en_Bs := [
  (0, [(.aload_n 0, 1, 0, 0, 0), (.invokevirtual 394, 3, 225, 1, 1598)]),
  (4, [(.iconst 1, 1, 0, 0, 0), (.istore_n 3, 1, 0, 0, 0), (.iconst 0, 1, 0, 0, 0), (.istore 4, 2, 0, 0, 0)]),
  (9, [(.iload 4, 2, 0, 0, 0), (.aload_n 0, 1, 0, 0, 0), (.getfield 13, 3, 11, 3, 1193), (.iconst 1, 1, 0, 0, 0), (.iaload, 1, 0, 0, 0), (.if_icmp .ge 50, 3, 67, 0, 0)]),
  (20, [(.iload_n 3, 1, 0, 0, 0), (.ifCond .eq 38, 3, 59, 0, 0)]),
  (24, [(.iload_n 1, 1, 0, 0, 0), (.iload 4, 2, 0, 0, 0), (.invokestatic 161, 3, 160, 2, 1402)]),
  (30, [(.ifCond .eq 25, 3, 55, 0, 0)]),
  (33, [(.aload_n 0, 1, 0, 0, 0), (.getfield 103, 3, 11, 41, 1231), (.iload 4, 2, 0, 0, 0), (.iaload, 1, 0, 0, 0), (.iconst (-1), 1, 0, 0, 0), (.if_icmp .eq 18, 3, 59, 0, 0)]),
  (44, [(.aload_n 0, 1, 0, 0, 0), (.getfield 103, 3, 11, 41, 1231), (.iload 4, 2, 0, 0, 0), (.iaload, 1, 0, 0, 0), (.iload_n 2, 1, 0, 0, 0), (.if_icmp .gt 7, 3, 59, 0, 0)]),
  (55, [(.iconst 1, 1, 0, 0, 0), (.goto 4, 3, 60, 0, 0)]),
  (59, [(.iconst 0, 1, 0, 0, 0)]),
  (60, [(.istore_n 3, 1, 0, 0, 0), (.iinc 4 1, 3, 0, 0, 0), (.goto (-55), 3, 9, 0, 0)]),
  (67, [(.iload_n 3, 1, 0, 0, 0), (.ireturn, 1, 0, 0, 0)])]
theorem ck_X11_allCome : en_ck 237 bs_X11_allCome = true := by decide +kernel
def bs_X11_findSwaps : en_Bs := [
  (0, [(.aload_n 0, 1, 0, 0, 0), (.iconst 0, 1, 0, 0, 0), (.putfield 406, 3, 11, 45, 1235), (.aload_n 0, 1, 0, 0, 0), (.iconst (-1), 1, 0, 0, 0), (.putfield 409, 3, 11, 46, 1236), (.iload_n 2, 1, 0, 0, 0), (.ifCond .ne 7, 3, 18, 0, 0)]),
  (14, [(.iconst 1, 1, 0, 0, 0), (.goto 17, 3, 32, 0, 0)]),
  (18, [(.iload_n 2, 1, 0, 0, 0), (.iconst 1, 1, 0, 0, 0), (.if_icmp .ne 9, 3, 29, 0, 0)]),
  (23, [(.sipush 144, 3, 0, 0, 0), (.goto 6, 3, 32, 0, 0)]),
  (29, [(.sipush 20736, 3, 0, 0, 0)]),
  (32, [(.istore_n 3, 1, 0, 0, 0), (.iconst 0, 1, 0, 0, 0), (.istore 4, 2, 0, 0, 0)]),
  (36, [(.iload 4, 2, 0, 0, 0), (.iload_n 3, 1, 0, 0, 0), (.if_icmp .ge 202, 3, 241, 0, 0)]),
  (42, [(.iload 4, 2, 0, 0, 0), (.iload_n 2, 1, 0, 0, 0), (.iconst 2, 1, 0, 0, 0), (.if_icmp .ne 9, 3, 55, 0, 0)]),
  (49, [(.sipush 1728, 3, 0, 0, 0), (.goto 5, 3, 57, 0, 0)]),
  (55, [(.bipush 12, 2, 0, 0, 0)]),
  (57, [(.idiv, 1, 0, 0, 0), (.istore 5, 2, 0, 0, 0), (.iload 4, 2, 0, 0, 0), (.iload_n 2, 1, 0, 0, 0), (.iconst 2, 1, 0, 0, 0), (.if_icmp .ne 9, 3, 73, 0, 0)]),
  (67, [(.sipush 144, 3, 0, 0, 0), (.goto 4, 3, 74, 0, 0)]),
  (73, [(.iconst 1, 1, 0, 0, 0)]),
  (74, [(.idiv, 1, 0, 0, 0), (.bipush 12, 2, 0, 0, 0), (.irem, 1, 0, 0, 0), (.istore 6, 2, 0, 0, 0), (.iload 4, 2, 0, 0, 0), (.bipush 12, 2, 0, 0, 0), (.idiv, 1, 0, 0, 0), (.bipush 12, 2, 0, 0, 0), (.irem, 1, 0, 0, 0), (.istore 7, 2, 0, 0, 0), (.iload 4, 2, 0, 0, 0), (.bipush 12, 2, 0, 0, 0), (.irem, 1, 0, 0, 0), (.istore 8, 2, 0, 0, 0), (.iload_n 2, 1, 0, 0, 0), (.ifCond .eq 19, 3, 117, 0, 0)]),
  (101, [(.iload 5, 2, 0, 0, 0), (.iload 6, 2, 0, 0, 0), (.if_icmp .ge 16, 3, 121, 0, 0)]),
  (108, [(.aload_n 0, 1, 0, 0, 0), (.iload 6, 2, 0, 0, 0), (.invokevirtual 150, 3, 167, 2, 1377)]),
  (114, [(.ifCond .eq 7, 3, 121, 0, 0)]),
  (117, [(.iconst 1, 1, 0, 0, 0), (.goto 4, 3, 122, 0, 0)]),
  (121, [(.iconst 0, 1, 0, 0, 0)]),
  (122, [(.istore 9, 2, 0, 0, 0), (.iload 9, 2, 0, 0, 0), (.ifCond .eq 28, 3, 154, 0, 0)]),
  (129, [(.iload_n 2, 1, 0, 0, 0), (.iconst 2, 1, 0, 0, 0), (.if_icmp .lt 19, 3, 150, 0, 0)]),
  (134, [(.iload 7, 2, 0, 0, 0), (.iload 8, 2, 0, 0, 0), (.if_icmp .ge 16, 3, 154, 0, 0)]),
  (141, [(.aload_n 0, 1, 0, 0, 0), (.iload 8, 2, 0, 0, 0), (.invokevirtual 150, 3, 167, 2, 1377)]),
  (147, [(.ifCond .eq 7, 3, 154, 0, 0)]),
  (150, [(.iconst 1, 1, 0, 0, 0), (.goto 4, 3, 155, 0, 0)]),
  (154, [(.iconst 0, 1, 0, 0, 0)]),
  (155, [(.istore 9, 2, 0, 0, 0), (.iload 9, 2, 0, 0, 0), (.ifCond .eq 76, 3, 235, 0, 0)]),
  (162, [(.aload_n 0, 1, 0, 0, 0), (.invokevirtual 391, 3, 215, 1, 1594)]),
  (166, [(.iload_n 2, 1, 0, 0, 0), (.ifCond .le 11, 3, 178, 0, 0)]),
  (170, [(.aload_n 0, 1, 0, 0, 0), (.iload 5, 2, 0, 0, 0), (.iload 6, 2, 0, 0, 0), (.invokevirtual 412, 3, 236, 3, 1671)]),
  (178, [(.iload_n 2, 1, 0, 0, 0), (.iconst 1, 1, 0, 0, 0), (.if_icmp .le 11, 3, 191, 0, 0)]),
  (183, [(.aload_n 0, 1, 0, 0, 0), (.iload 7, 2, 0, 0, 0), (.iload 8, 2, 0, 0, 0), (.invokevirtual 412, 3, 236, 3, 1671)]),
  (191, [(.aload_n 0, 1, 0, 0, 0), (.iload_n 1, 1, 0, 0, 0), (.aload_n 0, 1, 0, 0, 0), (.getfield 13, 3, 11, 3, 1193), (.iconst 5, 1, 0, 0, 0), (.iaload, 1, 0, 0, 0), (.invokevirtual 415, 3, 237, 3, 1675)]),
  (202, [(.ifCond .eq 33, 3, 235, 0, 0)]),
  (205, [(.aload_n 0, 1, 0, 0, 0), (.aload_n 0, 1, 0, 0, 0), (.getfield 406, 3, 11, 45, 1235), (.ifCond .ne 8, 3, 218, 0, 0)]),
  (213, [(.iload 4, 2, 0, 0, 0), (.goto 7, 3, 222, 0, 0)]),
  (218, [(.aload_n 0, 1, 0, 0, 0), (.getfield 409, 3, 11, 46, 1236)]),
  (222, [(.putfield 409, 3, 11, 46, 1236), (.aload_n 0, 1, 0, 0, 0), (.dup, 1, 0, 0, 0), (.getfield 406, 3, 11, 45, 1235), (.iconst 1, 1, 0, 0, 0), (.iadd, 1, 0, 0, 0), (.putfield 406, 3, 11, 45, 1235)]),
  (235, [(.iinc 4 1, 3, 0, 0, 0), (.goto (-202), 3, 36, 0, 0)]),
  (241, [(.return_, 1, 0, 0, 0)])]
theorem ck_X11_findSwaps : en_ck 238 bs_X11_findSwaps = true := by decide +kernel
def bs_X11_swaps : en_Bs := [
  (0, [(.aload_n 0, 1, 0, 0, 0), (.iconst 0, 1, 0, 0, 0), (.putfield 121, 3, 11, 0, 1190), (.iload_n 1, 1, 0, 0, 0), (.i2l, 1, 0, 0, 0), (.lconst 0, 1, 0, 0, 0), (.iconst 1, 1, 0, 0, 0), (.aload_n 0, 1, 0, 0, 0), (.getfield 13, 3, 11, 3, 1193), (.iconst 1, 1, 0, 0, 0), (.iaload, 1, 0, 0, 0), (.ishl, 1, 0, 0, 0), (.i2l, 1, 0, 0, 0), (.lconst 1, 1, 0, 0, 0), (.lsub, 1, 0, 0, 0), (.invokestatic 131, 3, 159, 3, 1351)]),
  (22, [(.ifCond .eq 15, 3, 37, 0, 0)]),
  (25, [(.iload_n 2, 1, 0, 0, 0), (.i2l, 1, 0, 0, 0), (.lconst 0, 1, 0, 0, 0), (.ldc2_w 182, 3, 0, 5, 1425), (.invokestatic 131, 3, 159, 3, 1351)]),
  (34, [(.ifCond .ne 5, 3, 39, 0, 0)]),
  (37, [(.iconst (-1), 1, 0, 0, 0), (.ireturn, 1, 0, 0, 0)]),
  (39, [(.iconst 0, 1, 0, 0, 0), (.istore_n 3, 1, 0, 0, 0)]),
  (41, [(.iload_n 3, 1, 0, 0, 0), (.iconst 3, 1, 0, 0, 0), (.if_icmp .ge 158, 3, 201, 0, 0)]),
  (46, [(.aload_n 0, 1, 0, 0, 0), (.iload_n 1, 1, 0, 0, 0), (.iload_n 3, 1, 0, 0, 0), (.invokevirtual 418, 3, 238, 3, 1667)]),
  (52, [(.aload_n 0, 1, 0, 0, 0), (.getfield 406, 3, 11, 45, 1235), (.ifCond .le 139, 3, 195, 0, 0)]),
  (59, [(.iload_n 3, 1, 0, 0, 0), (.iconst 2, 1, 0, 0, 0), (.if_icmp .ne 14, 3, 75, 0, 0)]),
  (64, [(.aload_n 0, 1, 0, 0, 0), (.getfield 409, 3, 11, 46, 1236), (.sipush 144, 3, 0, 0, 0), (.idiv, 1, 0, 0, 0), (.goto 7, 3, 79, 0, 0)]),
  (75, [(.aload_n 0, 1, 0, 0, 0), (.getfield 409, 3, 11, 46, 1236)]),
  (79, [(.istore 4, 2, 0, 0, 0), (.aload_n 0, 1, 0, 0, 0), (.getfield 409, 3, 11, 46, 1236), (.sipush 144, 3, 0, 0, 0), (.irem, 1, 0, 0, 0), (.istore 5, 2, 0, 0, 0), (.iload_n 2, 1, 0, 0, 0), (.tableswitch 98 0 4 #[36, 38, 53, 68, 83], 36, 0, 0, 0)]),
  (128, [(.iload_n 3, 1, 0, 0, 0), (.ireturn, 1, 0, 0, 0)]),
  (130, [(.iload_n 3, 1, 0, 0, 0), (.iconst 1, 1, 0, 0, 0), (.if_icmp .ge 7, 3, 139, 0, 0)]),
  (135, [(.iconst (-1), 1, 0, 0, 0), (.goto 8, 3, 144, 0, 0)]),
  (139, [(.iload 4, 2, 0, 0, 0), (.bipush 12, 2, 0, 0, 0), (.idiv, 1, 0, 0, 0)]),
  (144, [(.ireturn, 1, 0, 0, 0)]),
  (145, [(.iload_n 3, 1, 0, 0, 0), (.iconst 1, 1, 0, 0, 0), (.if_icmp .ge 7, 3, 154, 0, 0)]),
  (150, [(.iconst (-1), 1, 0, 0, 0), (.goto 8, 3, 159, 0, 0)]),
  (154, [(.iload 4, 2, 0, 0, 0), (.bipush 12, 2, 0, 0, 0), (.irem, 1, 0, 0, 0)]),
  (159, [(.ireturn, 1, 0, 0, 0)]),
  (160, [(.iload_n 3, 1, 0, 0, 0), (.iconst 2, 1, 0, 0, 0), (.if_icmp .ge 7, 3, 169, 0, 0)]),
  (165, [(.iconst (-1), 1, 0, 0, 0), (.goto 8, 3, 174, 0, 0)]),
  (169, [(.iload 5, 2, 0, 0, 0), (.bipush 12, 2, 0, 0, 0), (.idiv, 1, 0, 0, 0)]),
  (174, [(.ireturn, 1, 0, 0, 0)]),
  (175, [(.iload_n 3, 1, 0, 0, 0), (.iconst 2, 1, 0, 0, 0), (.if_icmp .ge 7, 3, 184, 0, 0)]),
  (180, [(.iconst (-1), 1, 0, 0, 0), (.goto 8, 3, 189, 0, 0)]),
  (184, [(.iload 5, 2, 0, 0, 0), (.bipush 12, 2, 0, 0, 0), (.irem, 1, 0, 0, 0)]),
  (189, [(.ireturn, 1, 0, 0, 0)]),
  (190, [(.aload_n 0, 1, 0, 0, 0), (.getfield 406, 3, 11, 45, 1235), (.ireturn, 1, 0, 0, 0)]),
  (195, [(.iinc 3 1, 3, 0, 0, 0), (.goto (-157), 3, 41, 0, 0)]),
  (201, [(.iload_n 2, 1, 0, 0, 0), (.iconst 5, 1, 0, 0, 0), (.if_icmp .ne 7, 3, 210, 0, 0)]),
  (206, [(.iconst 0, 1, 0, 0, 0), (.goto 4, 3, 211, 0, 0)]),
  (210, [(.iconst (-1), 1, 0, 0, 0)]),
  (211, [(.ireturn, 1, 0, 0, 0)])]
theorem ck_X11_swaps : en_ck 239 bs_X11_swaps = true := by decide +kernel
def bs_X11_swap : en_Bs := [
  (0, [(.aload_n 0, 1, 0, 0, 0), (.iconst 0, 1, 0, 0, 0), (.putfield 121, 3, 11, 0, 1190), (.aload_n 0, 1, 0, 0, 0), (.iload_n 1, 1, 0, 0, 0), (.invokevirtual 150, 3, 167, 2, 1377)]),
  (10, [(.ifCond .eq 11, 3, 21, 0, 0)]),
  (13, [(.aload_n 0, 1, 0, 0, 0), (.iload_n 2, 1, 0, 0, 0), (.invokevirtual 150, 3, 167, 2, 1377)]),
  (18, [(.ifCond .ne 10, 3, 28, 0, 0)]),
  (21, [(.aload_n 0, 1, 0, 0, 0), (.bipush (-2), 2, 0, 0, 0), (.invokevirtual 135, 3, 162, 2, 1354)]),
  (27, [(.ireturn, 1, 0, 0, 0)]),
  (28, [(.iload_n 1, 1, 0, 0, 0), (.iload_n 2, 1, 0, 0, 0), (.if_icmp .ne 10, 3, 40, 0, 0)]),
  (33, [(.aload_n 0, 1, 0, 0, 0), (.bipush (-3), 2, 0, 0, 0), (.invokevirtual 135, 3, 162, 2, 1354)]),
  (39, [(.ireturn, 1, 0, 0, 0)]),
  (40, [(.iconst 1, 1, 0, 0, 0), (.istore_n 3, 1, 0, 0, 0)]),
  (42, [(.iload_n 3, 1, 0, 0, 0), (.iconst 3, 1, 0, 0, 0), (.if_icmp .ge 65, 3, 109, 0, 0)]),
  (47, [(.aload_n 0, 1, 0, 0, 0), (.getfield 13, 3, 11, 3, 1193), (.bipush 10, 2, 0, 0, 0), (.iconst 3, 1, 0, 0, 0), (.iload_n 1, 1, 0, 0, 0), (.imul, 1, 0, 0, 0), (.iadd, 1, 0, 0, 0), (.iload_n 3, 1, 0, 0, 0), (.iadd, 1, 0, 0, 0), (.iaload, 1, 0, 0, 0), (.istore 4, 2, 0, 0, 0), (.aload_n 0, 1, 0, 0, 0), (.getfield 13, 3, 11, 3, 1193), (.bipush 10, 2, 0, 0, 0), (.iconst 3, 1, 0, 0, 0), (.iload_n 1, 1, 0, 0, 0), (.imul, 1, 0, 0, 0), (.iadd, 1, 0, 0, 0), (.iload_n 3, 1, 0, 0, 0), (.iadd, 1, 0, 0, 0), (.aload_n 0, 1, 0, 0, 0), (.getfield 13, 3, 11, 3, 1193), (.bipush 10, 2, 0, 0, 0), (.iconst 3, 1, 0, 0, 0), (.iload_n 2, 1, 0, 0, 0), (.imul, 1, 0, 0, 0), (.iadd, 1, 0, 0, 0), (.iload_n 3, 1, 0, 0, 0), (.iadd, 1, 0, 0, 0), (.iaload, 1, 0, 0, 0), (.iastore, 1, 0, 0, 0), (.aload_n 0, 1, 0, 0, 0), (.getfield 13, 3, 11, 3, 1193), (.bipush 10, 2, 0, 0, 0), (.iconst 3, 1, 0, 0, 0), (.iload_n 2, 1, 0, 0, 0), (.imul, 1, 0, 0, 0), (.iadd, 1, 0, 0, 0), (.iload_n 3, 1, 0, 0, 0), (.iadd, 1, 0, 0, 0), (.iload 4, 2, 0, 0, 0), (.iastore, 1, 0, 0, 0), (.iinc 3 1, 3, 0, 0, 0), (.goto (-64), 3, 42, 0, 0)]),
  (109, [(.aload_n 0, 1, 0, 0, 0), (.iconst 0, 1, 0, 0, 0), (.invokevirtual 135, 3, 162, 2, 1354)]),
  (114, [(.ireturn, 1, 0, 0, 0)])]
theorem ck_X11_swap : en_ck 240 bs_X11_swap = true := by decide +kernel
def bs_X11_nobodyOut : en_Bs := [
  (0, [(.iconst 1, 1, 0, 0, 0), (.istore_n 1, 1, 0, 0, 0), (.iconst 0, 1, 0, 0, 0), (.istore_n 2, 1, 0, 0, 0)]),
  (4, [(.iload_n 2, 1, 0, 0, 0), (.aload_n 0, 1, 0, 0, 0), (.getfield 13, 3, 11, 3, 1193), (.iconst 1, 1, 0, 0, 0), (.iaload, 1, 0, 0, 0), (.if_icmp .ge 27, 3, 38, 0, 0)]),
  (14, [(.iload_n 1, 1, 0, 0, 0), (.ifCond .eq 15, 3, 30, 0, 0)]),
  (18, [(.aload_n 0, 1, 0, 0, 0), (.iload_n 2, 1, 0, 0, 0), (.invokevirtual 382, 3, 223, 2, 1606)]),
  (23, [(.ifCond .eq 7, 3, 30, 0, 0)]),
  (26, [(.iconst 1, 1, 0, 0, 0), (.goto 4, 3, 31, 0, 0)]),
  (30, [(.iconst 0, 1, 0, 0, 0)]),
  (31, [(.istore_n 1, 1, 0, 0, 0), (.iinc 2 1, 3, 0, 0, 0), (.goto (-31), 3, 4, 0, 0)]),
  (38, [(.iload_n 1, 1, 0, 0, 0), (.ireturn, 1, 0, 0, 0)])]
theorem ck_X11_nobodyOut : en_ck 241 bs_X11_nobodyOut = true := by decide +kernel
def bs_X11_home : en_Bs := [
  (0, [(.aload_n 0, 1, 0, 0, 0), (.iconst 0, 1, 0, 0, 0), (.putfield 121, 3, 11, 0, 1190), (.iload_n 1, 1, 0, 0, 0), (.i2l, 1, 0, 0, 0), (.lconst 0, 1, 0, 0, 0), (.ldc2_w 421, 3, 0, 2, 1687), (.invokestatic 131, 3, 159, 3, 1351)]),
  (14, [(.ifCond .ne 5, 3, 19, 0, 0)]),
  (17, [(.iconst (-1), 1, 0, 0, 0), (.ireturn, 1, 0, 0, 0)]),
  (19, [(.iconst 0, 1, 0, 0, 0), (.istore_n 2, 1, 0, 0, 0)]),
  (21, [(.iload_n 2, 1, 0, 0, 0), (.iconst 4, 1, 0, 0, 0), (.if_icmp .ge 114, 3, 137, 0, 0)]),
  (26, [(.iconst 0, 1, 0, 0, 0), (.istore_n 3, 1, 0, 0, 0), (.iconst (-1), 1, 0, 0, 0), (.istore 4, 2, 0, 0, 0), (.iconst 0, 1, 0, 0, 0), (.istore 5, 2, 0, 0, 0)]),
  (34, [(.iload 5, 2, 0, 0, 0), (.iconst 1, 1, 0, 0, 0), (.aload_n 0, 1, 0, 0, 0), (.getfield 13, 3, 11, 3, 1193), (.iconst 0, 1, 0, 0, 0), (.iaload, 1, 0, 0, 0), (.ishl, 1, 0, 0, 0), (.if_icmp .ge 63, 3, 107, 0, 0)]),
  (47, [(.iload 5, 2, 0, 0, 0), (.invokestatic 423, 3, 161, 1, 1688)]),
  (52, [(.iload_n 2, 1, 0, 0, 0), (.if_icmp .ne 48, 3, 101, 0, 0)]),
  (56, [(.aload_n 0, 1, 0, 0, 0), (.invokevirtual 391, 3, 215, 1, 1594)]),
  (60, [(.aload_n 0, 1, 0, 0, 0), (.iload 5, 2, 0, 0, 0), (.putfield 355, 3, 11, 36, 1226), (.aload_n 0, 1, 0, 0, 0), (.invokevirtual 426, 3, 241, 1, 1691)]),
  (70, [(.ifCond .eq 31, 3, 101, 0, 0)]),
  (73, [(.aload_n 0, 1, 0, 0, 0), (.sipush 255, 3, 0, 0, 0), (.bipush 99, 2, 0, 0, 0), (.invokevirtual 415, 3, 237, 3, 1675)]),
  (82, [(.ifCond .eq 19, 3, 101, 0, 0)]),
  (85, [(.iload_n 3, 1, 0, 0, 0), (.ifCond .ne 8, 3, 94, 0, 0)]),
  (89, [(.iload 5, 2, 0, 0, 0), (.goto 5, 3, 96, 0, 0)]),
  (94, [(.iload 4, 2, 0, 0, 0)]),
  (96, [(.istore 4, 2, 0, 0, 0), (.iinc 3 1, 3, 0, 0, 0)]),
  (101, [(.iinc 5 1, 3, 0, 0, 0), (.goto (-70), 3, 34, 0, 0)]),
  (107, [(.iload_n 3, 1, 0, 0, 0), (.ifCond .le 23, 3, 131, 0, 0)]),
  (111, [(.iload_n 1, 1, 0, 0, 0), (.ifCond .ne 7, 3, 119, 0, 0)]),
  (115, [(.iload_n 2, 1, 0, 0, 0), (.goto 14, 3, 130, 0, 0)]),
  (119, [(.iload_n 1, 1, 0, 0, 0), (.iconst 1, 1, 0, 0, 0), (.if_icmp .ne 8, 3, 129, 0, 0)]),
  (124, [(.iload 4, 2, 0, 0, 0), (.goto 4, 3, 130, 0, 0)]),
  (129, [(.iload_n 3, 1, 0, 0, 0)]),
  (130, [(.ireturn, 1, 0, 0, 0)]),
  (131, [(.iinc 2 1, 3, 0, 0, 0), (.goto (-113), 3, 21, 0, 0)]),
  (137, [(.iload_n 1, 1, 0, 0, 0), (.iconst 2, 1, 0, 0, 0), (.if_icmp .ne 7, 3, 146, 0, 0)]),
  (142, [(.iconst 0, 1, 0, 0, 0), (.goto 4, 3, 147, 0, 0)]),
  (146, [(.iconst (-1), 1, 0, 0, 0)]),
  (147, [(.ireturn, 1, 0, 0, 0)])]
theorem ck_X11_home : en_ck 242 bs_X11_home = true := by decide +kernel
def bs_X11_costOf : en_Bs := [
  (0, [(.aload_n 0, 1, 0, 0, 0), (.iload_n 1, 1, 0, 0, 0), (.invokevirtual 367, 3, 219, 2, 1574)]),
  (5, [(.istore_n 2, 1, 0, 0, 0), (.iconst 0, 1, 0, 0, 0), (.istore_n 3, 1, 0, 0, 0), (.iconst 0, 1, 0, 0, 0), (.istore 4, 2, 0, 0, 0)]),
  (11, [(.iload 4, 2, 0, 0, 0), (.iload_n 2, 1, 0, 0, 0), (.if_icmp .ge 24, 3, 38, 0, 0)]),
  (17, [(.iload_n 3, 1, 0, 0, 0), (.aload_n 0, 1, 0, 0, 0), (.iload_n 1, 1, 0, 0, 0), (.aload_n 0, 1, 0, 0, 0), (.getfield 91, 3, 11, 37, 1227), (.iload 4, 2, 0, 0, 0), (.iaload, 1, 0, 0, 0), (.invokevirtual 429, 3, 217, 3, 1703)]),
  (30, [(.iadd, 1, 0, 0, 0), (.istore_n 3, 1, 0, 0, 0), (.iinc 4 1, 3, 0, 0, 0), (.goto (-24), 3, 11, 0, 0)]),
  (38, [(.iload_n 2, 1, 0, 0, 0), (.iconst (-1), 1, 0, 0, 0), (.if_icmp .ne 7, 3, 47, 0, 0)]),
  (43, [(.iconst (-1), 1, 0, 0, 0), (.goto 4, 3, 48, 0, 0)]),
  (47, [(.iload_n 3, 1, 0, 0, 0)]),
  (48, [(.ireturn, 1, 0, 0, 0)])]
theorem ck_X11_costOf : en_ck 243 bs_X11_costOf = true := by decide +kernel
def bs_X11_cost : en_Bs := [
  (0, [(.aload_n 0, 1, 0, 0, 0), (.iconst 0, 1, 0, 0, 0), (.putfield 121, 3, 11, 0, 1190), (.aload_n 0, 1, 0, 0, 0), (.iload_n 1, 1, 0, 0, 0), (.invokevirtual 179, 3, 168, 2, 1421)]),
  (10, [(.ifCond .ne 5, 3, 15, 0, 0)]),
  (13, [(.iconst (-1), 1, 0, 0, 0), (.ireturn, 1, 0, 0, 0)]),
  (15, [(.aload_n 0, 1, 0, 0, 0), (.invokevirtual 391, 3, 215, 1, 1594)]),
  (19, [(.aload_n 0, 1, 0, 0, 0), (.iload_n 1, 1, 0, 0, 0), (.invokevirtual 432, 3, 243, 2, 1699)]),
  (24, [(.ireturn, 1, 0, 0, 0)])]
theorem ck_X11_cost : en_ck 244 bs_X11_cost = true := by decide +kernel
def bs_X11_isSent : en_Bs := [
  (0, [(.aload_n 0, 1, 0, 0, 0), (.iload_n 1, 1, 0, 0, 0), (.invokevirtual 432, 3, 243, 2, 1699)]),
  (5, [(.istore_n 2, 1, 0, 0, 0), (.iload_n 2, 1, 0, 0, 0), (.iconst (-1), 1, 0, 0, 0), (.if_icmp .eq 17, 3, 25, 0, 0)]),
  (11, [(.iload_n 2, 1, 0, 0, 0), (.aload_n 0, 1, 0, 0, 0), (.iload_n 1, 1, 0, 0, 0), (.iconst 5, 1, 0, 0, 0), (.invokevirtual 184, 3, 170, 3, 1426)]),
  (18, [(.if_icmp .gt 7, 3, 25, 0, 0)]),
  (21, [(.iconst 1, 1, 0, 0, 0), (.goto 4, 3, 26, 0, 0)]),
  (25, [(.iconst 0, 1, 0, 0, 0)]),
  (26, [(.ireturn, 1, 0, 0, 0)])]
theorem ck_X11_isSent : en_ck 245 bs_X11_isSent = true := by decide +kernel
def bs_X11_sent : en_Bs := [
  (0, [(.aload_n 0, 1, 0, 0, 0), (.iconst 0, 1, 0, 0, 0), (.putfield 121, 3, 11, 0, 1190), (.aload_n 0, 1, 0, 0, 0), (.iload_n 1, 1, 0, 0, 0), (.invokevirtual 179, 3, 168, 2, 1421)]),
  (10, [(.ifCond .ne 5, 3, 15, 0, 0)]),
  (13, [(.iconst (-1), 1, 0, 0, 0), (.ireturn, 1, 0, 0, 0)]),
  (15, [(.aload_n 0, 1, 0, 0, 0), (.invokevirtual 391, 3, 215, 1, 1594)]),
  (19, [(.aload_n 0, 1, 0, 0, 0), (.iload_n 1, 1, 0, 0, 0), (.invokevirtual 435, 3, 245, 2, 1712)]),
  (24, [(.ifCond .eq 7, 3, 31, 0, 0)]),
  (27, [(.iconst 1, 1, 0, 0, 0), (.goto 4, 3, 32, 0, 0)]),
  (31, [(.iconst 0, 1, 0, 0, 0)]),
  (32, [(.ireturn, 1, 0, 0, 0)])]
theorem ck_X11_sent : en_ck 246 bs_X11_sent = true := by decide +kernel
def bs_X11_incomeOf : en_Bs := [
  (0, [(.iconst 0, 1, 0, 0, 0), (.istore_n 2, 1, 0, 0, 0), (.iconst 0, 1, 0, 0, 0), (.istore_n 3, 1, 0, 0, 0)]),
  (4, [(.iload_n 3, 1, 0, 0, 0), (.aload_n 0, 1, 0, 0, 0), (.getfield 13, 3, 11, 3, 1193), (.iconst 1, 1, 0, 0, 0), (.iaload, 1, 0, 0, 0), (.if_icmp .ge 64, 3, 75, 0, 0)]),
  (14, [(.aload_n 0, 1, 0, 0, 0), (.iload_n 3, 1, 0, 0, 0), (.invokevirtual 435, 3, 245, 2, 1712)]),
  (19, [(.ifCond .eq 50, 3, 69, 0, 0)]),
  (22, [(.aload_n 0, 1, 0, 0, 0), (.iload_n 3, 1, 0, 0, 0), (.invokevirtual 367, 3, 219, 2, 1574)]),
  (27, [(.istore 4, 2, 0, 0, 0), (.iconst 0, 1, 0, 0, 0), (.istore 5, 2, 0, 0, 0)]),
  (32, [(.iload 5, 2, 0, 0, 0), (.iload 4, 2, 0, 0, 0), (.if_icmp .ge 33, 3, 69, 0, 0)]),
  (39, [(.iload_n 2, 1, 0, 0, 0), (.aload_n 0, 1, 0, 0, 0), (.getfield 91, 3, 11, 37, 1227), (.iload 5, 2, 0, 0, 0), (.iaload, 1, 0, 0, 0), (.iload_n 1, 1, 0, 0, 0), (.if_icmp .ne 12, 3, 60, 0, 0)]),
  (51, [(.aload_n 0, 1, 0, 0, 0), (.iload_n 3, 1, 0, 0, 0), (.iload_n 1, 1, 0, 0, 0), (.invokevirtual 429, 3, 217, 3, 1703)]),
  (57, [(.goto 4, 3, 61, 0, 0)]),
  (60, [(.iconst 0, 1, 0, 0, 0)]),
  (61, [(.iadd, 1, 0, 0, 0), (.istore_n 2, 1, 0, 0, 0), (.iinc 5 1, 3, 0, 0, 0), (.goto (-34), 3, 32, 0, 0)]),
  (69, [(.iinc 3 1, 3, 0, 0, 0), (.goto (-68), 3, 4, 0, 0)]),
  (75, [(.iload_n 2, 1, 0, 0, 0), (.ireturn, 1, 0, 0, 0)])]
theorem ck_X11_incomeOf : en_ck 247 bs_X11_incomeOf = true := by decide +kernel
def bs_X11_income : en_Bs := [
  (0, [(.aload_n 0, 1, 0, 0, 0), (.iconst 0, 1, 0, 0, 0), (.putfield 121, 3, 11, 0, 1190), (.aload_n 0, 1, 0, 0, 0), (.iload_n 1, 1, 0, 0, 0), (.invokevirtual 150, 3, 167, 2, 1377)]),
  (10, [(.ifCond .ne 5, 3, 15, 0, 0)]),
  (13, [(.iconst (-1), 1, 0, 0, 0), (.ireturn, 1, 0, 0, 0)]),
  (15, [(.aload_n 0, 1, 0, 0, 0), (.invokevirtual 391, 3, 215, 1, 1594)]),
  (19, [(.aload_n 0, 1, 0, 0, 0), (.iload_n 1, 1, 0, 0, 0), (.invokevirtual 438, 3, 247, 2, 1720)]),
  (24, [(.ireturn, 1, 0, 0, 0)])]
theorem ck_X11_income : en_ck 248 bs_X11_income = true := by decide +kernel
def bs_X11_answerOf : en_Bs := [
  (0, [(.aload_n 0, 1, 0, 0, 0), (.getfield 85, 3, 11, 34, 1224), (.iload_n 1, 1, 0, 0, 0), (.iaload, 1, 0, 0, 0), (.istore_n 2, 1, 0, 0, 0), (.iconst 0, 1, 0, 0, 0), (.istore_n 3, 1, 0, 0, 0), (.aload_n 0, 1, 0, 0, 0), (.iconst (-1), 1, 0, 0, 0), (.putfield 441, 3, 11, 47, 1237), (.iconst 0, 1, 0, 0, 0), (.istore 4, 2, 0, 0, 0)]),
  (17, [(.iload 4, 2, 0, 0, 0), (.bipush 100, 2, 0, 0, 0), (.if_icmp .ge 62, 3, 83, 0, 0)]),
  (24, [(.aload_n 0, 1, 0, 0, 0), (.getfield 85, 3, 11, 34, 1224), (.iload_n 1, 1, 0, 0, 0), (.iload 4, 2, 0, 0, 0), (.iastore, 1, 0, 0, 0), (.aload_n 0, 1, 0, 0, 0), (.iload_n 1, 1, 0, 0, 0), (.invokevirtual 438, 3, 247, 2, 1720)]),
  (37, [(.istore 5, 2, 0, 0, 0), (.iload 5, 2, 0, 0, 0), (.aload_n 0, 1, 0, 0, 0), (.getfield 441, 3, 11, 47, 1237), (.if_icmp .le 8, 3, 53, 0, 0)]),
  (48, [(.iload 4, 2, 0, 0, 0), (.goto 4, 3, 54, 0, 0)]),
  (53, [(.iload_n 3, 1, 0, 0, 0)]),
  (54, [(.istore_n 3, 1, 0, 0, 0), (.aload_n 0, 1, 0, 0, 0), (.iload 5, 2, 0, 0, 0), (.aload_n 0, 1, 0, 0, 0), (.getfield 441, 3, 11, 47, 1237), (.if_icmp .le 8, 3, 70, 0, 0)]),
  (65, [(.iload 5, 2, 0, 0, 0), (.goto 7, 3, 74, 0, 0)]),
  (70, [(.aload_n 0, 1, 0, 0, 0), (.getfield 441, 3, 11, 47, 1237)]),
  (74, [(.putfield 441, 3, 11, 47, 1237), (.iinc 4 1, 3, 0, 0, 0), (.goto (-63), 3, 17, 0, 0)]),
  (83, [(.aload_n 0, 1, 0, 0, 0), (.getfield 85, 3, 11, 34, 1224), (.iload_n 1, 1, 0, 0, 0), (.iload_n 2, 1, 0, 0, 0), (.iastore, 1, 0, 0, 0), (.iload_n 3, 1, 0, 0, 0), (.ireturn, 1, 0, 0, 0)])]
theorem ck_X11_answerOf : en_ck 249 bs_X11_answerOf = true := by decide +kernel
def bs_X11_answer : en_Bs := [
  (0, [(.aload_n 0, 1, 0, 0, 0), (.iconst 0, 1, 0, 0, 0), (.putfield 121, 3, 11, 0, 1190), (.aload_n 0, 1, 0, 0, 0), (.iload_n 1, 1, 0, 0, 0), (.invokevirtual 150, 3, 167, 2, 1377)]),
  (10, [(.ifCond .eq 13, 3, 23, 0, 0)]),
  (13, [(.iload_n 2, 1, 0, 0, 0), (.i2l, 1, 0, 0, 0), (.lconst 0, 1, 0, 0, 0), (.lconst 1, 1, 0, 0, 0), (.invokestatic 131, 3, 159, 3, 1351)]),
  (20, [(.ifCond .ne 5, 3, 25, 0, 0)]),
  (23, [(.iconst (-1), 1, 0, 0, 0), (.ireturn, 1, 0, 0, 0)]),
  (25, [(.aload_n 0, 1, 0, 0, 0), (.invokevirtual 391, 3, 215, 1, 1594)]),
  (29, [(.aload_n 0, 1, 0, 0, 0), (.iload_n 1, 1, 0, 0, 0), (.invokevirtual 444, 3, 249, 2, 1728)]),
  (34, [(.istore_n 3, 1, 0, 0, 0), (.iload_n 2, 1, 0, 0, 0), (.ifCond .ne 7, 3, 43, 0, 0)]),
  (39, [(.iload_n 3, 1, 0, 0, 0), (.goto 7, 3, 47, 0, 0)]),
  (43, [(.aload_n 0, 1, 0, 0, 0), (.getfield 441, 3, 11, 47, 1237)]),
  (47, [(.ireturn, 1, 0, 0, 0)])]
theorem ck_X11_answer : en_ck 250 bs_X11_answer = true := by decide +kernel
def bs_X11_restless : en_Bs := [
  (0, [(.aload_n 0, 1, 0, 0, 0), (.iconst 0, 1, 0, 0, 0), (.putfield 121, 3, 11, 0, 1190), (.aload_n 0, 1, 0, 0, 0), (.invokevirtual 391, 3, 215, 1, 1594)]),
  (9, [(.iconst 0, 1, 0, 0, 0), (.istore_n 1, 1, 0, 0, 0)]),
  (11, [(.iload_n 1, 1, 0, 0, 0), (.aload_n 0, 1, 0, 0, 0), (.getfield 13, 3, 11, 3, 1193), (.iconst 0, 1, 0, 0, 0), (.iaload, 1, 0, 0, 0), (.if_icmp .ge 36, 3, 54, 0, 0)]),
  (21, [(.aload_n 0, 1, 0, 0, 0), (.iload_n 1, 1, 0, 0, 0), (.invokevirtual 438, 3, 247, 2, 1720)]),
  (26, [(.istore_n 2, 1, 0, 0, 0), (.aload_n 0, 1, 0, 0, 0), (.iload_n 1, 1, 0, 0, 0), (.invokevirtual 444, 3, 249, 2, 1728)]),
  (32, [(.istore_n 3, 1, 0, 0, 0), (.iload_n 3, 1, 0, 0, 0), (.iconst (-1), 1, 0, 0, 0), (.if_icmp .eq 13, 3, 48, 0, 0)]),
  (38, [(.aload_n 0, 1, 0, 0, 0), (.getfield 441, 3, 11, 47, 1237), (.iload_n 2, 1, 0, 0, 0), (.if_icmp .le 5, 3, 48, 0, 0)]),
  (46, [(.iload_n 1, 1, 0, 0, 0), (.ireturn, 1, 0, 0, 0)]),
  (48, [(.iinc 1 1, 3, 0, 0, 0), (.goto (-40), 3, 11, 0, 0)]),
  (54, [(.iconst (-1), 1, 0, 0, 0), (.ireturn, 1, 0, 0, 0)])]
theorem ck_X11_restless : en_ck 251 bs_X11_restless = true := by decide +kernel
def bs_X11_rests : en_Bs := [
  (0, [(.aload_n 0, 1, 0, 0, 0), (.iconst 0, 1, 0, 0, 0), (.putfield 121, 3, 11, 0, 1190), (.iload_n 1, 1, 0, 0, 0), (.iconst (-1), 1, 0, 0, 0), (.if_icmp .eq 13, 3, 20, 0, 0)]),
  (10, [(.aload_n 0, 1, 0, 0, 0), (.iload_n 1, 1, 0, 0, 0), (.invokevirtual 150, 3, 167, 2, 1377)]),
  (15, [(.ifCond .ne 5, 3, 20, 0, 0)]),
  (18, [(.iconst (-1), 1, 0, 0, 0), (.ireturn, 1, 0, 0, 0)]),
  (20, [(.aload_n 0, 1, 0, 0, 0), (.invokevirtual 391, 3, 215, 1, 1594)]),
  (24, [(.iconst 0, 1, 0, 0, 0), (.istore_n 2, 1, 0, 0, 0), (.iconst 1, 1, 0, 0, 0), (.istore_n 3, 1, 0, 0, 0)]),
  (28, [(.iload_n 3, 1, 0, 0, 0), (.ifCond .eq 73, 3, 102, 0, 0)]),
  (32, [(.iload_n 2, 1, 0, 0, 0), (.bipush 50, 2, 0, 0, 0), (.if_icmp .ge 67, 3, 102, 0, 0)]),
  (38, [(.iconst 0, 1, 0, 0, 0), (.istore_n 3, 1, 0, 0, 0), (.iinc 2 1, 3, 0, 0, 0), (.iconst 0, 1, 0, 0, 0), (.istore 4, 2, 0, 0, 0)]),
  (46, [(.iload 4, 2, 0, 0, 0), (.aload_n 0, 1, 0, 0, 0), (.getfield 13, 3, 11, 3, 1193), (.iconst 0, 1, 0, 0, 0), (.iaload, 1, 0, 0, 0), (.if_icmp .ge 45, 3, 99, 0, 0)]),
  (57, [(.aload_n 0, 1, 0, 0, 0), (.iload 4, 2, 0, 0, 0), (.invokevirtual 438, 3, 247, 2, 1720)]),
  (63, [(.istore 5, 2, 0, 0, 0), (.aload_n 0, 1, 0, 0, 0), (.iload 4, 2, 0, 0, 0), (.invokevirtual 444, 3, 249, 2, 1728)]),
  (71, [(.istore 6, 2, 0, 0, 0), (.aload_n 0, 1, 0, 0, 0), (.getfield 441, 3, 11, 47, 1237), (.iload 5, 2, 0, 0, 0), (.if_icmp .le 14, 3, 93, 0, 0)]),
  (82, [(.aload_n 0, 1, 0, 0, 0), (.getfield 85, 3, 11, 34, 1224), (.iload 4, 2, 0, 0, 0), (.iload 6, 2, 0, 0, 0), (.iastore, 1, 0, 0, 0), (.iconst 1, 1, 0, 0, 0), (.istore_n 3, 1, 0, 0, 0)]),
  (93, [(.iinc 4 1, 3, 0, 0, 0), (.goto (-50), 3, 46, 0, 0)]),
  (99, [(.goto (-71), 3, 28, 0, 0)]),
  (102, [(.iload_n 1, 1, 0, 0, 0), (.iconst (-1), 1, 0, 0, 0), (.if_icmp .eq 12, 3, 116, 0, 0)]),
  (107, [(.aload_n 0, 1, 0, 0, 0), (.getfield 85, 3, 11, 34, 1224), (.iload_n 1, 1, 0, 0, 0), (.iaload, 1, 0, 0, 0), (.goto 13, 3, 126, 0, 0)]),
  (116, [(.iload_n 3, 1, 0, 0, 0), (.ifCond .eq 8, 3, 125, 0, 0)]),
  (120, [(.bipush 51, 2, 0, 0, 0), (.goto 4, 3, 126, 0, 0)]),
  (125, [(.iload_n 2, 1, 0, 0, 0)]),
  (126, [(.ireturn, 1, 0, 0, 0)])]
theorem ck_X11_rests : en_ck 252 bs_X11_rests = true := by decide +kernel
def bs_X11_pieces : en_Bs := [
  (0, [(.aload_n 0, 1, 0, 0, 0), (.iconst 0, 1, 0, 0, 0), (.putfield 121, 3, 11, 0, 1190), (.aload_n 0, 1, 0, 0, 0), (.iload_n 1, 1, 0, 0, 0), (.invokevirtual 179, 3, 168, 2, 1421)]),
  (10, [(.ifCond .ne 5, 3, 15, 0, 0)]),
  (13, [(.iconst (-1), 1, 0, 0, 0), (.ireturn, 1, 0, 0, 0)]),
  (15, [(.aload_n 0, 1, 0, 0, 0), (.iload_n 1, 1, 0, 0, 0), (.invokevirtual 367, 3, 219, 2, 1574)]),
  (20, [(.istore_n 2, 1, 0, 0, 0), (.iload_n 2, 1, 0, 0, 0), (.iconst 1, 1, 0, 0, 0), (.if_icmp .ge 5, 3, 28, 0, 0)]),
  (26, [(.iload_n 2, 1, 0, 0, 0), (.ireturn, 1, 0, 0, 0)]),
  (28, [(.bipush 9, 2, 0, 0, 0), (.istore_n 3, 1, 0, 0, 0), (.iconst 0, 1, 0, 0, 0), (.istore 4, 2, 0, 0, 0)]),
  (34, [(.iload 4, 2, 0, 0, 0), (.iload_n 2, 1, 0, 0, 0), (.if_icmp .ge 42, 3, 79, 0, 0)]),
  (40, [(.aload_n 0, 1, 0, 0, 0), (.aload_n 0, 1, 0, 0, 0), (.getfield 91, 3, 11, 37, 1227), (.iload 4, 2, 0, 0, 0), (.iaload, 1, 0, 0, 0), (.iconst 1, 1, 0, 0, 0), (.invokevirtual 158, 3, 169, 3, 1398)]),
  (52, [(.iload_n 3, 1, 0, 0, 0), (.if_icmp .ge 18, 3, 71, 0, 0)]),
  (56, [(.aload_n 0, 1, 0, 0, 0), (.aload_n 0, 1, 0, 0, 0), (.getfield 91, 3, 11, 37, 1227), (.iload 4, 2, 0, 0, 0), (.iaload, 1, 0, 0, 0), (.iconst 1, 1, 0, 0, 0), (.invokevirtual 158, 3, 169, 3, 1398)]),
  (68, [(.goto 4, 3, 72, 0, 0)]),
  (71, [(.iload_n 3, 1, 0, 0, 0)]),
  (72, [(.istore_n 3, 1, 0, 0, 0), (.iinc 4 1, 3, 0, 0, 0), (.goto (-42), 3, 34, 0, 0)]),
  (79, [(.iload_n 2, 1, 0, 0, 0), (.aload_n 0, 1, 0, 0, 0), (.iload_n 1, 1, 0, 0, 0), (.iconst 0, 1, 0, 0, 0), (.invokevirtual 184, 3, 170, 3, 1426)]),
  (86, [(.iload_n 3, 1, 0, 0, 0), (.iadd, 1, 0, 0, 0), (.iconst 1, 1, 0, 0, 0), (.isub, 1, 0, 0, 0), (.iload_n 3, 1, 0, 0, 0), (.idiv, 1, 0, 0, 0), (.iadd, 1, 0, 0, 0), (.iconst 1, 1, 0, 0, 0), (.isub, 1, 0, 0, 0), (.ireturn, 1, 0, 0, 0)])]
theorem ck_X11_pieces : en_ck 253 bs_X11_pieces = true := by decide +kernel
def bs_X11_sign : en_Bs := [
  (0, [(.aload_n 0, 1, 0, 0, 0), (.iconst 0, 1, 0, 0, 0), (.putfield 121, 3, 11, 0, 1190), (.iload_n 2, 1, 0, 0, 0), (.i2l, 1, 0, 0, 0), (.lconst 0, 1, 0, 0, 0), (.ldc2_w 144, 3, 0, 99, 1372), (.invokestatic 131, 3, 159, 3, 1351)]),
  (14, [(.ifCond .ne 9, 3, 23, 0, 0)]),
  (17, [(.aload_n 0, 1, 0, 0, 0), (.iconst (-1), 1, 0, 0, 0), (.invokevirtual 135, 3, 162, 2, 1354)]),
  (22, [(.ireturn, 1, 0, 0, 0)]),
  (23, [(.aload_n 0, 1, 0, 0, 0), (.iload_n 1, 1, 0, 0, 0), (.invokevirtual 150, 3, 167, 2, 1377)]),
  (28, [(.ifCond .ne 10, 3, 38, 0, 0)]),
  (31, [(.aload_n 0, 1, 0, 0, 0), (.bipush (-2), 2, 0, 0, 0), (.invokevirtual 135, 3, 162, 2, 1354)]),
  (37, [(.ireturn, 1, 0, 0, 0)]),
  (38, [(.aload_n 0, 1, 0, 0, 0), (.getfield 13, 3, 11, 3, 1193), (.iconst 4, 1, 0, 0, 0), (.iaload, 1, 0, 0, 0), (.istore_n 3, 1, 0, 0, 0), (.iload_n 3, 1, 0, 0, 0), (.bipush 8, 2, 0, 0, 0), (.if_icmp .ne 10, 3, 58, 0, 0)]),
  (51, [(.aload_n 0, 1, 0, 0, 0), (.bipush (-5), 2, 0, 0, 0), (.invokevirtual 135, 3, 162, 2, 1354)]),
  (57, [(.ireturn, 1, 0, 0, 0)]),
  (58, [(.aload_n 0, 1, 0, 0, 0), (.getfield 13, 3, 11, 3, 1193), (.bipush 94, 2, 0, 0, 0), (.iconst 2, 1, 0, 0, 0), (.iload_n 3, 1, 0, 0, 0), (.imul, 1, 0, 0, 0), (.iadd, 1, 0, 0, 0), (.iload_n 1, 1, 0, 0, 0), (.iastore, 1, 0, 0, 0), (.aload_n 0, 1, 0, 0, 0), (.getfield 13, 3, 11, 3, 1193), (.bipush 94, 2, 0, 0, 0), (.iconst 2, 1, 0, 0, 0), (.iload_n 3, 1, 0, 0, 0), (.imul, 1, 0, 0, 0), (.iadd, 1, 0, 0, 0), (.iconst 1, 1, 0, 0, 0), (.iadd, 1, 0, 0, 0), (.iload_n 2, 1, 0, 0, 0), (.iastore, 1, 0, 0, 0), (.aload_n 0, 1, 0, 0, 0), (.getfield 13, 3, 11, 3, 1193), (.iconst 4, 1, 0, 0, 0), (.dup2, 1, 0, 0, 0), (.iaload, 1, 0, 0, 0), (.iconst 1, 1, 0, 0, 0), (.iadd, 1, 0, 0, 0), (.iastore, 1, 0, 0, 0), (.aload_n 0, 1, 0, 0, 0), (.iload_n 3, 1, 0, 0, 0), (.iconst 1, 1, 0, 0, 0), (.iadd, 1, 0, 0, 0), (.invokevirtual 135, 3, 162, 2, 1354)]),
  (101, [(.ireturn, 1, 0, 0, 0)])]
theorem ck_X11_sign : en_ck 254 bs_X11_sign = true := by decide +kernel
def bs_X11_clear : en_Bs := [
  (0, [(.aload_n 0, 1, 0, 0, 0), (.iconst 0, 1, 0, 0, 0), (.putfield 121, 3, 11, 0, 1190), (.aload_n 0, 1, 0, 0, 0), (.getfield 13, 3, 11, 3, 1193), (.iconst 4, 1, 0, 0, 0), (.iaload, 1, 0, 0, 0), (.istore_n 1, 1, 0, 0, 0), (.aload_n 0, 1, 0, 0, 0), (.getfield 13, 3, 11, 3, 1193), (.iconst 4, 1, 0, 0, 0), (.iconst 0, 1, 0, 0, 0), (.iastore, 1, 0, 0, 0), (.iload_n 1, 1, 0, 0, 0), (.ireturn, 1, 0, 0, 0)])]
theorem ck_X11_clear : en_ck 255 bs_X11_clear = true := by decide +kernel
def bs_X11_after : en_Bs := [
  (0, [(.iload_n 1, 1, 0, 0, 0), (.istore_n 3, 1, 0, 0, 0), (.iconst 0, 1, 0, 0, 0), (.istore 4, 2, 0, 0, 0)]),
  (5, [(.iload 4, 2, 0, 0, 0), (.iload_n 2, 1, 0, 0, 0), (.if_icmp .ge 21, 3, 29, 0, 0)]),
  (11, [(.iload_n 3, 1, 0, 0, 0), (.iconst (-1), 1, 0, 0, 0), (.if_icmp .eq 16, 3, 29, 0, 0)]),
  (16, [(.aload_n 0, 1, 0, 0, 0), (.iload_n 3, 1, 0, 0, 0), (.iconst 0, 1, 0, 0, 0), (.invokevirtual 166, 3, 174, 3, 1394)]),
  (22, [(.istore_n 3, 1, 0, 0, 0), (.iinc 4 1, 3, 0, 0, 0), (.goto (-21), 3, 5, 0, 0)]),
  (29, [(.iload_n 3, 1, 0, 0, 0), (.ireturn, 1, 0, 0, 0)])]
theorem ck_X11_after : en_ck 256 bs_X11_after = true := by decide +kernel
def bs_X11_thieves : en_Bs := [
  (0, [(.aload_n 0, 1, 0, 0, 0), (.iconst 0, 1, 0, 0, 0), (.putfield 121, 3, 11, 0, 1190), (.iconst 0, 1, 0, 0, 0), (.istore_n 1, 1, 0, 0, 0), (.iconst 0, 1, 0, 0, 0), (.istore_n 2, 1, 0, 0, 0)]),
  (9, [(.iload_n 2, 1, 0, 0, 0), (.aload_n 0, 1, 0, 0, 0), (.getfield 13, 3, 11, 3, 1193), (.iconst 0, 1, 0, 0, 0), (.iaload, 1, 0, 0, 0), (.if_icmp .ge 89, 3, 105, 0, 0)]),
  (19, [(.iconst 1, 1, 0, 0, 0), (.istore_n 3, 1, 0, 0, 0), (.iconst 0, 1, 0, 0, 0), (.istore 4, 2, 0, 0, 0)]),
  (24, [(.iload 4, 2, 0, 0, 0), (.aload_n 0, 1, 0, 0, 0), (.getfield 13, 3, 11, 3, 1193), (.iconst 4, 1, 0, 0, 0), (.iaload, 1, 0, 0, 0), (.if_icmp .ge 53, 3, 85, 0, 0)]),
  (35, [(.iload_n 3, 1, 0, 0, 0), (.ifCond .eq 41, 3, 77, 0, 0)]),
  (39, [(.aload_n 0, 1, 0, 0, 0), (.iload_n 2, 1, 0, 0, 0), (.aload_n 0, 1, 0, 0, 0), (.getfield 13, 3, 11, 3, 1193), (.bipush 94, 2, 0, 0, 0), (.iconst 2, 1, 0, 0, 0), (.iload 4, 2, 0, 0, 0), (.imul, 1, 0, 0, 0), (.iadd, 1, 0, 0, 0), (.iconst 1, 1, 0, 0, 0), (.iadd, 1, 0, 0, 0), (.iaload, 1, 0, 0, 0), (.invokevirtual 447, 3, 256, 3, 1756)]),
  (58, [(.aload_n 0, 1, 0, 0, 0), (.getfield 13, 3, 11, 3, 1193), (.bipush 94, 2, 0, 0, 0), (.iconst 2, 1, 0, 0, 0), (.iload 4, 2, 0, 0, 0), (.imul, 1, 0, 0, 0), (.iadd, 1, 0, 0, 0), (.iaload, 1, 0, 0, 0), (.if_icmp .ne 7, 3, 77, 0, 0)]),
  (73, [(.iconst 1, 1, 0, 0, 0), (.goto 4, 3, 78, 0, 0)]),
  (77, [(.iconst 0, 1, 0, 0, 0)]),
  (78, [(.istore_n 3, 1, 0, 0, 0), (.iinc 4 1, 3, 0, 0, 0), (.goto (-58), 3, 24, 0, 0)]),
  (85, [(.iload_n 1, 1, 0, 0, 0), (.iload_n 3, 1, 0, 0, 0), (.ifCond .eq 9, 3, 96, 0, 0)]),
  (90, [(.iconst 1, 1, 0, 0, 0), (.iload_n 2, 1, 0, 0, 0), (.ishl, 1, 0, 0, 0), (.goto 4, 3, 97, 0, 0)]),
  (96, [(.iconst 0, 1, 0, 0, 0)]),
  (97, [(.ior, 1, 0, 0, 0), (.istore_n 1, 1, 0, 0, 0), (.iinc 2 1, 3, 0, 0, 0), (.goto (-93), 3, 9, 0, 0)]),
  (105, [(.iload_n 1, 1, 0, 0, 0), (.ireturn, 1, 0, 0, 0)])]
theorem ck_X11_thieves : en_ck 257 bs_X11_thieves = true := by decide +kernel
def bs_X11_meet : en_Bs := [
  (0, [(.aload_n 0, 1, 0, 0, 0), (.iconst 0, 1, 0, 0, 0), (.putfield 121, 3, 11, 0, 1190), (.aload_n 0, 1, 0, 0, 0), (.iload_n 1, 1, 0, 0, 0), (.invokevirtual 150, 3, 167, 2, 1377)]),
  (10, [(.ifCond .eq 21, 3, 31, 0, 0)]),
  (13, [(.aload_n 0, 1, 0, 0, 0), (.iload_n 2, 1, 0, 0, 0), (.invokevirtual 150, 3, 167, 2, 1377)]),
  (18, [(.ifCond .eq 13, 3, 31, 0, 0)]),
  (21, [(.iload_n 3, 1, 0, 0, 0), (.i2l, 1, 0, 0, 0), (.lconst 0, 1, 0, 0, 0), (.lconst 1, 1, 0, 0, 0), (.invokestatic 131, 3, 159, 3, 1351)]),
  (28, [(.ifCond .ne 5, 3, 33, 0, 0)]),
  (31, [(.iconst (-1), 1, 0, 0, 0), (.ireturn, 1, 0, 0, 0)]),
  (33, [(.iconst 0, 1, 0, 0, 0), (.istore 4, 2, 0, 0, 0)]),
  (36, [(.iload 4, 2, 0, 0, 0), (.bipush 100, 2, 0, 0, 0), (.if_icmp .ge 48, 3, 88, 0, 0)]),
  (43, [(.aload_n 0, 1, 0, 0, 0), (.iload_n 1, 1, 0, 0, 0), (.iload 4, 2, 0, 0, 0), (.invokevirtual 447, 3, 256, 3, 1756)]),
  (50, [(.istore 5, 2, 0, 0, 0), (.iload 5, 2, 0, 0, 0), (.iconst (-1), 1, 0, 0, 0), (.if_icmp .eq 27, 3, 82, 0, 0)]),
  (58, [(.iload 5, 2, 0, 0, 0), (.aload_n 0, 1, 0, 0, 0), (.iload_n 2, 1, 0, 0, 0), (.iload 4, 2, 0, 0, 0), (.invokevirtual 447, 3, 256, 3, 1756)]),
  (67, [(.if_icmp .ne 15, 3, 82, 0, 0)]),
  (70, [(.iload_n 3, 1, 0, 0, 0), (.ifCond .ne 8, 3, 79, 0, 0)]),
  (74, [(.iload 4, 2, 0, 0, 0), (.goto 5, 3, 81, 0, 0)]),
  (79, [(.iload 5, 2, 0, 0, 0)]),
  (81, [(.ireturn, 1, 0, 0, 0)]),
  (82, [(.iinc 4 1, 3, 0, 0, 0), (.goto (-49), 3, 36, 0, 0)]),
  (88, [(.iconst (-1), 1, 0, 0, 0), (.ireturn, 1, 0, 0, 0)])]
theorem ck_X11_meet : en_ck 258 bs_X11_meet = true := by decide +kernel
def bs_X11_draw3 : en_Bs := [
  (0, [(.aload_n 0, 1, 0, 0, 0), (.aload_n 0, 1, 0, 0, 0), (.getfield 450, 3, 11, 48, 1238), (.ldc2_w 453, 3, 0, 1103, 1772), (.lmul, 1, 0, 0, 0), (.ldc2_w 455, 3, 0, 12345, 1773), (.ladd, 1, 0, 0, 0), (.ldc2_w 457, 3, 0, 1000003, 1774), (.lrem, 1, 0, 0, 0), (.putfield 450, 3, 11, 48, 1238), (.aload_n 0, 1, 0, 0, 0), (.getfield 450, 3, 11, 48, 1238), (.iload_n 1, 1, 0, 0, 0), (.i2l, 1, 0, 0, 0), (.lrem, 1, 0, 0, 0), (.l2i, 1, 0, 0, 0), (.ireturn, 1, 0, 0, 0)])]
theorem ck_X11_draw3 : en_ck 259 bs_X11_draw3 = true := by decide +kernel
def bs_X11_byNoon : en_Bs := [
  (0, [(.iconst 0, 1, 0, 0, 0), (.istore_n 1, 1, 0, 0, 0), (.iconst 0, 1, 0, 0, 0), (.istore_n 2, 1, 0, 0, 0)]),
  (4, [(.iload_n 2, 1, 0, 0, 0), (.aload_n 0, 1, 0, 0, 0), (.getfield 13, 3, 11, 3, 1193), (.iconst 1, 1, 0, 0, 0), (.iaload, 1, 0, 0, 0), (.if_icmp .ge 42, 3, 53, 0, 0)]),
  (14, [(.iload_n 1, 1, 0, 0, 0), (.aload_n 0, 1, 0, 0, 0), (.getfield 103, 3, 11, 41, 1231), (.iload_n 2, 1, 0, 0, 0), (.iaload, 1, 0, 0, 0), (.iconst (-1), 1, 0, 0, 0), (.if_icmp .eq 22, 3, 44, 0, 0)]),
  (25, [(.aload_n 0, 1, 0, 0, 0), (.getfield 103, 3, 11, 41, 1231), (.iload_n 2, 1, 0, 0, 0), (.iaload, 1, 0, 0, 0), (.aload_n 0, 1, 0, 0, 0), (.getfield 13, 3, 11, 3, 1193), (.iconst 5, 1, 0, 0, 0), (.iaload, 1, 0, 0, 0), (.if_icmp .gt 7, 3, 44, 0, 0)]),
  (40, [(.iconst 1, 1, 0, 0, 0), (.goto 4, 3, 45, 0, 0)]),
  (44, [(.iconst 0, 1, 0, 0, 0)]),
  (45, [(.iadd, 1, 0, 0, 0), (.istore_n 1, 1, 0, 0, 0), (.iinc 2 1, 3, 0, 0, 0), (.goto (-46), 3, 4, 0, 0)]),
  (53, [(.iload_n 1, 1, 0, 0, 0), (.ireturn, 1, 0, 0, 0)])]
theorem ck_X11_byNoon : en_ck 260 bs_X11_byNoon = true := by decide +kernel
def bs_X11_draw : en_Bs := [
  (0, [(.aload_n 0, 1, 0, 0, 0), (.iconst 0, 1, 0, 0, 0), (.putfield 121, 3, 11, 0, 1190), (.iload_n 1, 1, 0, 0, 0), (.i2l, 1, 0, 0, 0), (.lconst 0, 1, 0, 0, 0), (.ldc2_w 229, 3, 0, 1000000, 1483), (.invokestatic 131, 3, 159, 3, 1351)]),
  (14, [(.ifCond .ne 9, 3, 23, 0, 0)]),
  (17, [(.aload_n 0, 1, 0, 0, 0), (.iconst (-1), 1, 0, 0, 0), (.invokevirtual 135, 3, 162, 2, 1354)]),
  (22, [(.ireturn, 1, 0, 0, 0)]),
  (23, [(.aload_n 0, 1, 0, 0, 0), (.iload_n 1, 1, 0, 0, 0), (.i2l, 1, 0, 0, 0), (.putfield 450, 3, 11, 48, 1238), (.aload_n 0, 1, 0, 0, 0), (.invokevirtual 391, 3, 215, 1, 1594)]),
  (33, [(.iconst 0, 1, 0, 0, 0), (.istore_n 2, 1, 0, 0, 0)]),
  (35, [(.iload_n 2, 1, 0, 0, 0), (.aload_n 0, 1, 0, 0, 0), (.getfield 13, 3, 11, 3, 1193), (.iconst 1, 1, 0, 0, 0), (.iaload, 1, 0, 0, 0), (.if_icmp .ge 21, 3, 63, 0, 0)]),
  (45, [(.aload_n 0, 1, 0, 0, 0), (.getfield 88, 3, 11, 35, 1225), (.iload_n 2, 1, 0, 0, 0), (.aload_n 0, 1, 0, 0, 0), (.bipush 30, 2, 0, 0, 0), (.invokevirtual 459, 3, 259, 2, 1768)]),
  (56, [(.iastore, 1, 0, 0, 0), (.iinc 2 1, 3, 0, 0, 0), (.goto (-25), 3, 35, 0, 0)]),
  (63, [(.iconst 0, 1, 0, 0, 0), (.istore_n 2, 1, 0, 0, 0)]),
  (65, [(.iload_n 2, 1, 0, 0, 0), (.aload_n 0, 1, 0, 0, 0), (.getfield 13, 3, 11, 3, 1193), (.iconst 0, 1, 0, 0, 0), (.iaload, 1, 0, 0, 0), (.if_icmp .ge 41, 3, 113, 0, 0)]),
  (75, [(.aload_n 0, 1, 0, 0, 0), (.getfield 82, 3, 11, 33, 1223), (.iload_n 2, 1, 0, 0, 0), (.dup2, 1, 0, 0, 0), (.iaload, 1, 0, 0, 0), (.aload_n 0, 1, 0, 0, 0), (.iconst 3, 1, 0, 0, 0), (.invokevirtual 459, 3, 259, 2, 1768)]),
  (87, [(.ifCond .ne 17, 3, 104, 0, 0)]),
  (90, [(.aload_n 0, 1, 0, 0, 0), (.getfield 82, 3, 11, 33, 1223), (.iload_n 2, 1, 0, 0, 0), (.iaload, 1, 0, 0, 0), (.iconst 1, 1, 0, 0, 0), (.if_icmp .le 7, 3, 104, 0, 0)]),
  (100, [(.iconst 1, 1, 0, 0, 0), (.goto 4, 3, 105, 0, 0)]),
  (104, [(.iconst 0, 1, 0, 0, 0)]),
  (105, [(.isub, 1, 0, 0, 0), (.iastore, 1, 0, 0, 0), (.iinc 2 1, 3, 0, 0, 0), (.goto (-45), 3, 65, 0, 0)]),
  (113, [(.aload_n 0, 1, 0, 0, 0), (.invokevirtual 394, 3, 225, 1, 1598)]),
  (117, [(.aload_n 0, 1, 0, 0, 0), (.aload_n 0, 1, 0, 0, 0), (.getfield 13, 3, 11, 3, 1193), (.iconst 1, 1, 0, 0, 0), (.iaload, 1, 0, 0, 0), (.putfield 462, 3, 11, 51, 1241), (.iconst 0, 1, 0, 0, 0), (.istore_n 2, 1, 0, 0, 0)]),
  (129, [(.iload_n 2, 1, 0, 0, 0), (.aload_n 0, 1, 0, 0, 0), (.getfield 462, 3, 11, 51, 1241), (.if_icmp .ge 33, 3, 167, 0, 0)]),
  (137, [(.aload_n 0, 1, 0, 0, 0), (.getfield 115, 3, 11, 49, 1239), (.iload_n 2, 1, 0, 0, 0), (.aload_n 0, 1, 0, 0, 0), (.getfield 103, 3, 11, 41, 1231), (.iload_n 2, 1, 0, 0, 0), (.iaload, 1, 0, 0, 0), (.iastore, 1, 0, 0, 0), (.aload_n 0, 1, 0, 0, 0), (.getfield 118, 3, 11, 50, 1240), (.iload_n 2, 1, 0, 0, 0), (.aload_n 0, 1, 0, 0, 0), (.getfield 88, 3, 11, 35, 1225), (.iload_n 2, 1, 0, 0, 0), (.iaload, 1, 0, 0, 0), (.iastore, 1, 0, 0, 0), (.iinc 2 1, 3, 0, 0, 0), (.goto (-35), 3, 129, 0, 0)]),
  (167, [(.aload_n 0, 1, 0, 0, 0), (.aload_n 0, 1, 0, 0, 0), (.invokevirtual 465, 3, 260, 1, 1775)]),
  (172, [(.invokevirtual 135, 3, 162, 2, 1354)]),
  (175, [(.ireturn, 1, 0, 0, 0)])]
theorem ck_X11_draw : en_ck 261 bs_X11_draw = true := by decide +kernel
def bs_X11_drawn : en_Bs := [
  (0, [(.aload_n 0, 1, 0, 0, 0), (.iconst 0, 1, 0, 0, 0), (.putfield 121, 3, 11, 0, 1190), (.iload_n 1, 1, 0, 0, 0), (.i2l, 1, 0, 0, 0), (.lconst 0, 1, 0, 0, 0), (.aload_n 0, 1, 0, 0, 0), (.getfield 462, 3, 11, 51, 1241), (.i2l, 1, 0, 0, 0), (.lconst 1, 1, 0, 0, 0), (.lsub, 1, 0, 0, 0), (.invokestatic 131, 3, 159, 3, 1351)]),
  (18, [(.ifCond .eq 35, 3, 53, 0, 0)]),
  (21, [(.iload_n 2, 1, 0, 0, 0), (.i2l, 1, 0, 0, 0), (.lconst 0, 1, 0, 0, 0), (.lconst 1, 1, 0, 0, 0), (.invokestatic 131, 3, 159, 3, 1351)]),
  (28, [(.ifCond .eq 25, 3, 53, 0, 0)]),
  (31, [(.iload_n 2, 1, 0, 0, 0), (.ifCond .ne 12, 3, 44, 0, 0)]),
  (35, [(.aload_n 0, 1, 0, 0, 0), (.getfield 115, 3, 11, 49, 1239), (.iload_n 1, 1, 0, 0, 0), (.iaload, 1, 0, 0, 0), (.goto 13, 3, 54, 0, 0)]),
  (44, [(.aload_n 0, 1, 0, 0, 0), (.getfield 118, 3, 11, 50, 1240), (.iload_n 1, 1, 0, 0, 0), (.iaload, 1, 0, 0, 0), (.goto 4, 3, 54, 0, 0)]),
  (53, [(.iconst (-1), 1, 0, 0, 0)]),
  (54, [(.ireturn, 1, 0, 0, 0)])]
theorem ck_X11_drawn : en_ck 262 bs_X11_drawn = true := by decide +kernel
end
section
def bs_X11_count : en_Bs := [
  (0, [(.aload_n 0, 1, 0, 0, 0), (.iconst 0, 1, 0, 0, 0), (.putfield 121, 3, 11, 0, 1190), (.iload_n 1, 1, 0, 0, 0), (.iconst 4, 1, 0, 0, 0), (.if_icmp .eq 8, 3, 15, 0, 0)]),
  (10, [(.iload_n 1, 1, 0, 0, 0), (.iconst 5, 1, 0, 0, 0), (.if_icmp .ne 59, 3, 71, 0, 0)]),
  (15, [(.aload_n 0, 1, 0, 0, 0), (.invokevirtual 397, 3, 229, 1, 1590)]),
  (19, [(.iconst 0, 1, 0, 0, 0), (.istore_n 2, 1, 0, 0, 0), (.iconst 0, 1, 0, 0, 0), (.istore_n 3, 1, 0, 0, 0)]),
  (23, [(.iload_n 3, 1, 0, 0, 0), (.aload_n 0, 1, 0, 0, 0), (.getfield 13, 3, 11, 3, 1193), (.iconst 1, 1, 0, 0, 0), (.iaload, 1, 0, 0, 0), (.if_icmp .ge 27, 3, 57, 0, 0)]),
  (33, [(.iload_n 2, 1, 0, 0, 0), (.aload_n 0, 1, 0, 0, 0), (.getfield 103, 3, 11, 41, 1231), (.iload_n 3, 1, 0, 0, 0), (.iaload, 1, 0, 0, 0), (.iconst (-1), 1, 0, 0, 0), (.if_icmp .ne 7, 3, 48, 0, 0)]),
  (44, [(.iconst 1, 1, 0, 0, 0), (.goto 4, 3, 49, 0, 0)]),
  (48, [(.iconst 0, 1, 0, 0, 0)]),
  (49, [(.iadd, 1, 0, 0, 0), (.istore_n 2, 1, 0, 0, 0), (.iinc 3 1, 3, 0, 0, 0), (.goto (-31), 3, 23, 0, 0)]),
  (57, [(.iload_n 1, 1, 0, 0, 0), (.iconst 4, 1, 0, 0, 0), (.if_icmp .ne 10, 3, 69, 0, 0)]),
  (62, [(.aload_n 0, 1, 0, 0, 0), (.invokevirtual 465, 3, 260, 1, 1775)]),
  (66, [(.goto 4, 3, 70, 0, 0)]),
  (69, [(.iload_n 2, 1, 0, 0, 0)]),
  (70, [(.ireturn, 1, 0, 0, 0)]),
  (71, [(.iload_n 1, 1, 0, 0, 0), (.tableswitch 167 0 14 #[76, 83, 90, 97, 167, 167, 104, 109, 116, 123, 130, 137, 145, 152, 159], 76, 0, 0, 0)]),
  (148, [(.aload_n 0, 1, 0, 0, 0), (.getfield 13, 3, 11, 3, 1193), (.iconst 0, 1, 0, 0, 0), (.iaload, 1, 0, 0, 0), (.ireturn, 1, 0, 0, 0)]),
  (155, [(.aload_n 0, 1, 0, 0, 0), (.getfield 13, 3, 11, 3, 1193), (.iconst 1, 1, 0, 0, 0), (.iaload, 1, 0, 0, 0), (.ireturn, 1, 0, 0, 0)]),
  (162, [(.aload_n 0, 1, 0, 0, 0), (.getfield 13, 3, 11, 3, 1193), (.iconst 2, 1, 0, 0, 0), (.iaload, 1, 0, 0, 0), (.ireturn, 1, 0, 0, 0)]),
  (169, [(.aload_n 0, 1, 0, 0, 0), (.getfield 13, 3, 11, 3, 1193), (.iconst 4, 1, 0, 0, 0), (.iaload, 1, 0, 0, 0), (.ireturn, 1, 0, 0, 0)]),
  (176, [(.aload_n 0, 1, 0, 0, 0), (.getfield 189, 3, 11, 8, 1198), (.ireturn, 1, 0, 0, 0)]),
  (181, [(.aload_n 0, 1, 0, 0, 0), (.getfield 7, 3, 11, 2, 1192), (.iconst 1, 1, 0, 0, 0), (.iaload, 1, 0, 0, 0), (.ireturn, 1, 0, 0, 0)]),
  (188, [(.aload_n 0, 1, 0, 0, 0), (.getfield 7, 3, 11, 2, 1192), (.iconst 2, 1, 0, 0, 0), (.iaload, 1, 0, 0, 0), (.ireturn, 1, 0, 0, 0)]),
  (195, [(.aload_n 0, 1, 0, 0, 0), (.getfield 7, 3, 11, 2, 1192), (.iconst 3, 1, 0, 0, 0), (.iaload, 1, 0, 0, 0), (.ireturn, 1, 0, 0, 0)]),
  (202, [(.aload_n 0, 1, 0, 0, 0), (.getfield 7, 3, 11, 2, 1192), (.iconst 5, 1, 0, 0, 0), (.iaload, 1, 0, 0, 0), (.ireturn, 1, 0, 0, 0)]),
  (209, [(.aload_n 0, 1, 0, 0, 0), (.getfield 7, 3, 11, 2, 1192), (.bipush 6, 2, 0, 0, 0), (.iaload, 1, 0, 0, 0), (.ireturn, 1, 0, 0, 0)]),
  (217, [(.aload_n 0, 1, 0, 0, 0), (.getfield 13, 3, 11, 3, 1193), (.iconst 3, 1, 0, 0, 0), (.iaload, 1, 0, 0, 0), (.ireturn, 1, 0, 0, 0)]),
  (224, [(.aload_n 0, 1, 0, 0, 0), (.getfield 13, 3, 11, 3, 1193), (.iconst 5, 1, 0, 0, 0), (.iaload, 1, 0, 0, 0), (.ireturn, 1, 0, 0, 0)]),
  (231, [(.aload_n 0, 1, 0, 0, 0), (.getfield 13, 3, 11, 3, 1193), (.bipush 6, 2, 0, 0, 0), (.iaload, 1, 0, 0, 0), (.ireturn, 1, 0, 0, 0)]),
  (239, [(.iconst (-1), 1, 0, 0, 0), (.ireturn, 1, 0, 0, 0)])]
theorem ck_X11_count : en_ck 263 bs_X11_count = true := by decide +kernel
def bs_X11_status : en_Bs := [
  (0, [(.aload_n 0, 1, 0, 0, 0), (.iconst 0, 1, 0, 0, 0), (.putfield 121, 3, 11, 0, 1190), (.aload_n 0, 1, 0, 0, 0), (.getfield 124, 3, 11, 1, 1191), (.ireturn, 1, 0, 0, 0)])]
theorem ck_X11_status : en_ck 264 bs_X11_status = true := by decide +kernel
def bs_J6_bitCount_0f7a4 : en_Bs := [
  (0, [(.iload_n 0, 1, 0, 0, 0), (.iload_n 0, 1, 0, 0, 0), (.iconst 1, 1, 0, 0, 0), (.iushr, 1, 0, 0, 0), (.ldc_w 265, 3, 1, 1431655765, 997), (.iand, 1, 0, 0, 0), (.isub, 1, 0, 0, 0), (.istore_n 0, 1, 0, 0, 0), (.iload_n 0, 1, 0, 0, 0), (.ldc_w 266, 3, 1, 858993459, 998), (.iand, 1, 0, 0, 0), (.iload_n 0, 1, 0, 0, 0), (.iconst 2, 1, 0, 0, 0), (.iushr, 1, 0, 0, 0), (.ldc_w 266, 3, 1, 858993459, 998), (.iand, 1, 0, 0, 0), (.iadd, 1, 0, 0, 0), (.istore_n 0, 1, 0, 0, 0), (.iload_n 0, 1, 0, 0, 0), (.iload_n 0, 1, 0, 0, 0), (.iconst 4, 1, 0, 0, 0), (.iushr, 1, 0, 0, 0), (.iadd, 1, 0, 0, 0), (.ldc_w 267, 3, 1, 252645135, 999), (.iand, 1, 0, 0, 0), (.istore_n 0, 1, 0, 0, 0), (.iload_n 0, 1, 0, 0, 0), (.iload_n 0, 1, 0, 0, 0), (.bipush 8, 2, 0, 0, 0), (.iushr, 1, 0, 0, 0), (.iadd, 1, 0, 0, 0), (.istore_n 0, 1, 0, 0, 0), (.iload_n 0, 1, 0, 0, 0), (.iload_n 0, 1, 0, 0, 0), (.bipush 16, 2, 0, 0, 0), (.iushr, 1, 0, 0, 0), (.iadd, 1, 0, 0, 0), (.istore_n 0, 1, 0, 0, 0), (.iload_n 0, 1, 0, 0, 0), (.bipush 63, 2, 0, 0, 0), (.iand, 1, 0, 0, 0), (.ireturn, 1, 0, 0, 0)])]
theorem ck_J6_bitCount_0f7a4 : en_ck 265 bs_J6_bitCount_0f7a4 = true := by decide +kernel
def bs_J7_fill_53178 : en_Bs := [
  (0, [(.iconst 0, 1, 0, 0, 0), (.istore_n 2, 1, 0, 0, 0), (.aload_n 0, 1, 0, 0, 0), (.arraylength, 1, 0, 0, 0), (.istore_n 3, 1, 0, 0, 0)]),
  (5, [(.iload_n 2, 1, 0, 0, 0), (.iload_n 3, 1, 0, 0, 0), (.if_icmp .ge 13, 3, 20, 0, 0)]),
  (10, [(.aload_n 0, 1, 0, 0, 0), (.iload_n 2, 1, 0, 0, 0), (.iload_n 1, 1, 0, 0, 0), (.iastore, 1, 0, 0, 0), (.iinc 2 1, 3, 0, 0, 0), (.goto (-12), 3, 5, 0, 0)]),
  (20, [(.return_, 1, 0, 0, 0)])]
theorem ck_J7_fill_53178 : en_ck 266 bs_J7_fill_53178 = true := by decide +kernel
end
section
theorem en_okB_app (I : en_I) (a b : en_Bs) (h1 : en_okB I a = true) (h2 : en_okB I b = true) : en_okB I (a ++ b) = true := by
  unfold en_okB at *
  rw [List.all_append, h1, h2]
  rfl
def bs_L_0 : en_Bs := [
  (0, [(.new 7, 3, 10, 0, 21), (.dup, 1, 0, 0, 0), (.invokespecial 9, 3, 103, 1, 23)]),
  (7, [(.astore_n 1, 1, 0, 0, 0), (.new 10, 3, 11, 0, 1172), (.dup, 1, 0, 0, 0), (.invokespecial 12, 3, 158, 1, 1174)]),
  (15, [(.astore_n 2, 1, 0, 0, 0), (.iconst 0, 1, 0, 0, 0), (.istore_n 3, 1, 0, 0, 0)]),
  (18, [(.iload_n 3, 1, 0, 0, 0), (.aload_n 0, 1, 0, 0, 0), (.arraylength, 1, 0, 0, 0), (.bipush 7, 2, 0, 0, 0), (.isub, 1, 0, 0, 0), (.if_icmp .gt 1312, 3, 1336, 0, 0)]),
  (27, [(.aload_n 0, 1, 0, 0, 0), (.iload_n 3, 1, 0, 0, 0), (.iaload, 1, 0, 0, 0), (.bipush 63, 2, 0, 0, 0), (.iand, 1, 0, 0, 0), (.tableswitch 1297 0 39 #[175, 218, 261, 294, 369, 402, 425, 458, 521, 544, 557, 570, 583, 596, 619, 652, 685, 718, 751, 794, 807, 840, 873, 896, 919, 942, 965, 998, 1011, 1034, 1057, 1090, 1103, 1116, 1159, 1182, 1215, 1238, 1261, 1284], 175, 0, 0, 0)]),
  (208, [(.aload_n 1, 1, 0, 0, 0), (.aload_n 0, 1, 0, 0, 0), (.iload_n 3, 1, 0, 0, 0), (.iconst 1, 1, 0, 0, 0), (.iadd, 1, 0, 0, 0), (.iaload, 1, 0, 0, 0), (.aload_n 0, 1, 0, 0, 0), (.iload_n 3, 1, 0, 0, 0), (.iconst 2, 1, 0, 0, 0), (.iadd, 1, 0, 0, 0), (.iaload, 1, 0, 0, 0), (.aload_n 0, 1, 0, 0, 0), (.iload_n 3, 1, 0, 0, 0), (.iconst 3, 1, 0, 0, 0), (.iadd, 1, 0, 0, 0), (.iaload, 1, 0, 0, 0), (.invokevirtual 13, 3, 104, 4, 463)]),
  (227, [(.aload_n 2, 1, 0, 0, 0), (.aload_n 0, 1, 0, 0, 0), (.iload_n 3, 1, 0, 0, 0), (.iconst 1, 1, 0, 0, 0), (.iadd, 1, 0, 0, 0), (.iaload, 1, 0, 0, 0), (.aload_n 0, 1, 0, 0, 0), (.iload_n 3, 1, 0, 0, 0), (.iconst 2, 1, 0, 0, 0), (.iadd, 1, 0, 0, 0), (.iaload, 1, 0, 0, 0), (.aload_n 0, 1, 0, 0, 0), (.iload_n 3, 1, 0, 0, 0), (.iconst 3, 1, 0, 0, 0), (.iadd, 1, 0, 0, 0), (.iaload, 1, 0, 0, 0), (.invokevirtual 17, 3, 172, 4, 1362)]),
  (246, [(.if_icmp .eq 1084, 3, 1330, 0, 0)]),
  (249, [(.iconst 0, 1, 0, 0, 0), (.ireturn, 1, 0, 0, 0)])]
theorem ck_L_0 : en_okB en_I0v bs_L_0 = true := by decide +kernel
def bs_L_1 : en_Bs := [
  (251, [(.aload_n 1, 1, 0, 0, 0), (.aload_n 0, 1, 0, 0, 0), (.iload_n 3, 1, 0, 0, 0), (.iconst 1, 1, 0, 0, 0), (.iadd, 1, 0, 0, 0), (.iaload, 1, 0, 0, 0), (.aload_n 0, 1, 0, 0, 0), (.iload_n 3, 1, 0, 0, 0), (.iconst 2, 1, 0, 0, 0), (.iadd, 1, 0, 0, 0), (.iaload, 1, 0, 0, 0), (.aload_n 0, 1, 0, 0, 0), (.iload_n 3, 1, 0, 0, 0), (.iconst 3, 1, 0, 0, 0), (.iadd, 1, 0, 0, 0), (.iaload, 1, 0, 0, 0), (.invokevirtual 18, 3, 105, 4, 504)]),
  (270, [(.aload_n 2, 1, 0, 0, 0), (.aload_n 0, 1, 0, 0, 0), (.iload_n 3, 1, 0, 0, 0), (.iconst 1, 1, 0, 0, 0), (.iadd, 1, 0, 0, 0), (.iaload, 1, 0, 0, 0), (.aload_n 0, 1, 0, 0, 0), (.iload_n 3, 1, 0, 0, 0), (.iconst 2, 1, 0, 0, 0), (.iadd, 1, 0, 0, 0), (.iaload, 1, 0, 0, 0), (.aload_n 0, 1, 0, 0, 0), (.iload_n 3, 1, 0, 0, 0), (.iconst 3, 1, 0, 0, 0), (.iadd, 1, 0, 0, 0), (.iaload, 1, 0, 0, 0), (.invokevirtual 21, 3, 173, 4, 1373)]),
  (289, [(.if_icmp .eq 1041, 3, 1330, 0, 0)]),
  (292, [(.iconst 0, 1, 0, 0, 0), (.ireturn, 1, 0, 0, 0)]),
  (294, [(.aload_n 1, 1, 0, 0, 0), (.aload_n 0, 1, 0, 0, 0), (.iload_n 3, 1, 0, 0, 0), (.iconst 1, 1, 0, 0, 0), (.iadd, 1, 0, 0, 0), (.iaload, 1, 0, 0, 0), (.aload_n 0, 1, 0, 0, 0), (.iload_n 3, 1, 0, 0, 0), (.iconst 2, 1, 0, 0, 0), (.iadd, 1, 0, 0, 0), (.iaload, 1, 0, 0, 0), (.invokevirtual 22, 3, 106, 3, 512)]),
  (308, [(.aload_n 2, 1, 0, 0, 0), (.aload_n 0, 1, 0, 0, 0), (.iload_n 3, 1, 0, 0, 0), (.iconst 1, 1, 0, 0, 0), (.iadd, 1, 0, 0, 0), (.iaload, 1, 0, 0, 0), (.aload_n 0, 1, 0, 0, 0), (.iload_n 3, 1, 0, 0, 0), (.iconst 2, 1, 0, 0, 0), (.iadd, 1, 0, 0, 0), (.iaload, 1, 0, 0, 0), (.invokevirtual 26, 3, 175, 3, 1389)]),
  (322, [(.if_icmp .eq 1008, 3, 1330, 0, 0)]),
  (325, [(.iconst 0, 1, 0, 0, 0), (.ireturn, 1, 0, 0, 0)]),
  (327, [(.aload_n 1, 1, 0, 0, 0), (.aload_n 0, 1, 0, 0, 0), (.iload_n 3, 1, 0, 0, 0), (.iconst 1, 1, 0, 0, 0), (.iadd, 1, 0, 0, 0), (.iaload, 1, 0, 0, 0), (.aload_n 0, 1, 0, 0, 0), (.iload_n 3, 1, 0, 0, 0), (.iconst 2, 1, 0, 0, 0), (.iadd, 1, 0, 0, 0), (.iaload, 1, 0, 0, 0), (.aload_n 0, 1, 0, 0, 0), (.iload_n 3, 1, 0, 0, 0), (.iconst 3, 1, 0, 0, 0), (.iadd, 1, 0, 0, 0), (.iaload, 1, 0, 0, 0), (.aload_n 0, 1, 0, 0, 0), (.iload_n 3, 1, 0, 0, 0), (.iconst 4, 1, 0, 0, 0), (.iadd, 1, 0, 0, 0), (.iaload, 1, 0, 0, 0), (.aload_n 0, 1, 0, 0, 0), (.iload_n 3, 1, 0, 0, 0), (.iconst 5, 1, 0, 0, 0), (.iadd, 1, 0, 0, 0), (.iaload, 1, 0, 0, 0), (.aload_n 0, 1, 0, 0, 0), (.iload_n 3, 1, 0, 0, 0), (.bipush 6, 2, 0, 0, 0), (.iadd, 1, 0, 0, 0), (.iaload, 1, 0, 0, 0), (.invokevirtual 27, 3, 107, 7, 521)])]
theorem ck_L_1 : en_okB en_I0v bs_L_1 = true := by decide +kernel
def bs_L_2 : en_Bs := [
  (362, [(.aload_n 2, 1, 0, 0, 0), (.aload_n 0, 1, 0, 0, 0), (.iload_n 3, 1, 0, 0, 0), (.iconst 1, 1, 0, 0, 0), (.iadd, 1, 0, 0, 0), (.iaload, 1, 0, 0, 0), (.aload_n 0, 1, 0, 0, 0), (.iload_n 3, 1, 0, 0, 0), (.iconst 2, 1, 0, 0, 0), (.iadd, 1, 0, 0, 0), (.iaload, 1, 0, 0, 0), (.aload_n 0, 1, 0, 0, 0), (.iload_n 3, 1, 0, 0, 0), (.iconst 3, 1, 0, 0, 0), (.iadd, 1, 0, 0, 0), (.iaload, 1, 0, 0, 0), (.aload_n 0, 1, 0, 0, 0), (.iload_n 3, 1, 0, 0, 0), (.iconst 4, 1, 0, 0, 0), (.iadd, 1, 0, 0, 0), (.iaload, 1, 0, 0, 0), (.aload_n 0, 1, 0, 0, 0), (.iload_n 3, 1, 0, 0, 0), (.iconst 5, 1, 0, 0, 0), (.iadd, 1, 0, 0, 0), (.iaload, 1, 0, 0, 0), (.aload_n 0, 1, 0, 0, 0), (.iload_n 3, 1, 0, 0, 0), (.bipush 6, 2, 0, 0, 0), (.iadd, 1, 0, 0, 0), (.iaload, 1, 0, 0, 0), (.invokevirtual 31, 3, 178, 7, 1405)]),
  (397, [(.if_icmp .eq 933, 3, 1330, 0, 0)]),
  (400, [(.iconst 0, 1, 0, 0, 0), (.ireturn, 1, 0, 0, 0)]),
  (402, [(.aload_n 1, 1, 0, 0, 0), (.aload_n 0, 1, 0, 0, 0), (.iload_n 3, 1, 0, 0, 0), (.iconst 1, 1, 0, 0, 0), (.iadd, 1, 0, 0, 0), (.iaload, 1, 0, 0, 0), (.aload_n 0, 1, 0, 0, 0), (.iload_n 3, 1, 0, 0, 0), (.iconst 2, 1, 0, 0, 0), (.iadd, 1, 0, 0, 0), (.iaload, 1, 0, 0, 0), (.invokevirtual 32, 3, 108, 3, 533)]),
  (416, [(.aload_n 2, 1, 0, 0, 0), (.aload_n 0, 1, 0, 0, 0), (.iload_n 3, 1, 0, 0, 0), (.iconst 1, 1, 0, 0, 0), (.iadd, 1, 0, 0, 0), (.iaload, 1, 0, 0, 0), (.aload_n 0, 1, 0, 0, 0), (.iload_n 3, 1, 0, 0, 0), (.iconst 2, 1, 0, 0, 0), (.iadd, 1, 0, 0, 0), (.iaload, 1, 0, 0, 0), (.invokevirtual 35, 3, 179, 3, 1417)]),
  (430, [(.if_icmp .eq 900, 3, 1330, 0, 0)]),
  (433, [(.iconst 0, 1, 0, 0, 0), (.ireturn, 1, 0, 0, 0)]),
  (435, [(.aload_n 1, 1, 0, 0, 0), (.aload_n 0, 1, 0, 0, 0), (.iload_n 3, 1, 0, 0, 0), (.iconst 1, 1, 0, 0, 0), (.iadd, 1, 0, 0, 0), (.iaload, 1, 0, 0, 0), (.invokevirtual 36, 3, 109, 2, 545)]),
  (444, [(.aload_n 2, 1, 0, 0, 0), (.aload_n 0, 1, 0, 0, 0), (.iload_n 3, 1, 0, 0, 0), (.iconst 1, 1, 0, 0, 0), (.iadd, 1, 0, 0, 0), (.iaload, 1, 0, 0, 0), (.invokevirtual 40, 3, 180, 2, 1430)])]
theorem ck_L_2 : en_okB en_I0v bs_L_2 = true := by decide +kernel
def bs_L_3 : en_Bs := [
  (453, [(.if_icmp .eq 877, 3, 1330, 0, 0)]),
  (456, [(.iconst 0, 1, 0, 0, 0), (.ireturn, 1, 0, 0, 0)]),
  (458, [(.aload_n 1, 1, 0, 0, 0), (.aload_n 0, 1, 0, 0, 0), (.iload_n 3, 1, 0, 0, 0), (.iconst 1, 1, 0, 0, 0), (.iadd, 1, 0, 0, 0), (.iaload, 1, 0, 0, 0), (.aload_n 0, 1, 0, 0, 0), (.iload_n 3, 1, 0, 0, 0), (.iconst 2, 1, 0, 0, 0), (.iadd, 1, 0, 0, 0), (.iaload, 1, 0, 0, 0), (.invokevirtual 41, 3, 110, 3, 557)]),
  (472, [(.aload_n 2, 1, 0, 0, 0), (.aload_n 0, 1, 0, 0, 0), (.iload_n 3, 1, 0, 0, 0), (.iconst 1, 1, 0, 0, 0), (.iadd, 1, 0, 0, 0), (.iaload, 1, 0, 0, 0), (.aload_n 0, 1, 0, 0, 0), (.iload_n 3, 1, 0, 0, 0), (.iconst 2, 1, 0, 0, 0), (.iadd, 1, 0, 0, 0), (.iaload, 1, 0, 0, 0), (.invokevirtual 44, 3, 181, 3, 1434)]),
  (486, [(.if_icmp .eq 844, 3, 1330, 0, 0)]),
  (489, [(.iconst 0, 1, 0, 0, 0), (.ireturn, 1, 0, 0, 0)]),
  (491, [(.aload_n 1, 1, 0, 0, 0), (.aload_n 0, 1, 0, 0, 0), (.iload_n 3, 1, 0, 0, 0), (.iconst 1, 1, 0, 0, 0), (.iadd, 1, 0, 0, 0), (.iaload, 1, 0, 0, 0), (.aload_n 0, 1, 0, 0, 0), (.iload_n 3, 1, 0, 0, 0), (.iconst 2, 1, 0, 0, 0), (.iadd, 1, 0, 0, 0), (.iaload, 1, 0, 0, 0), (.aload_n 0, 1, 0, 0, 0), (.iload_n 3, 1, 0, 0, 0), (.iconst 3, 1, 0, 0, 0), (.iadd, 1, 0, 0, 0), (.iaload, 1, 0, 0, 0), (.aload_n 0, 1, 0, 0, 0), (.iload_n 3, 1, 0, 0, 0), (.iconst 4, 1, 0, 0, 0), (.iadd, 1, 0, 0, 0), (.iaload, 1, 0, 0, 0), (.aload_n 0, 1, 0, 0, 0), (.iload_n 3, 1, 0, 0, 0), (.iconst 5, 1, 0, 0, 0), (.iadd, 1, 0, 0, 0), (.iaload, 1, 0, 0, 0), (.invokevirtual 45, 3, 111, 6, 561)]),
  (520, [(.aload_n 2, 1, 0, 0, 0), (.aload_n 0, 1, 0, 0, 0), (.iload_n 3, 1, 0, 0, 0), (.iconst 1, 1, 0, 0, 0), (.iadd, 1, 0, 0, 0), (.iaload, 1, 0, 0, 0), (.aload_n 0, 1, 0, 0, 0), (.iload_n 3, 1, 0, 0, 0), (.iconst 2, 1, 0, 0, 0), (.iadd, 1, 0, 0, 0), (.iaload, 1, 0, 0, 0), (.aload_n 0, 1, 0, 0, 0), (.iload_n 3, 1, 0, 0, 0), (.iconst 3, 1, 0, 0, 0), (.iadd, 1, 0, 0, 0), (.iaload, 1, 0, 0, 0), (.aload_n 0, 1, 0, 0, 0), (.iload_n 3, 1, 0, 0, 0), (.iconst 4, 1, 0, 0, 0), (.iadd, 1, 0, 0, 0), (.iaload, 1, 0, 0, 0), (.aload_n 0, 1, 0, 0, 0), (.iload_n 3, 1, 0, 0, 0), (.iconst 5, 1, 0, 0, 0), (.iadd, 1, 0, 0, 0), (.iaload, 1, 0, 0, 0), (.invokevirtual 49, 3, 185, 6, 1447)]),
  (549, [(.if_icmp .eq 781, 3, 1330, 0, 0)])]
theorem ck_L_3 : en_okB en_I0v bs_L_3 = true := by decide +kernel
def bs_L_4 : en_Bs := [
  (552, [(.iconst 0, 1, 0, 0, 0), (.ireturn, 1, 0, 0, 0)]),
  (554, [(.aload_n 1, 1, 0, 0, 0), (.aload_n 0, 1, 0, 0, 0), (.iload_n 3, 1, 0, 0, 0), (.iconst 1, 1, 0, 0, 0), (.iadd, 1, 0, 0, 0), (.iaload, 1, 0, 0, 0), (.invokevirtual 50, 3, 112, 2, 569)]),
  (563, [(.aload_n 2, 1, 0, 0, 0), (.aload_n 0, 1, 0, 0, 0), (.iload_n 3, 1, 0, 0, 0), (.iconst 1, 1, 0, 0, 0), (.iadd, 1, 0, 0, 0), (.iaload, 1, 0, 0, 0), (.invokevirtual 53, 3, 186, 2, 1455)]),
  (572, [(.if_icmp .eq 758, 3, 1330, 0, 0)]),
  (575, [(.iconst 0, 1, 0, 0, 0), (.ireturn, 1, 0, 0, 0)]),
  (577, [(.aload_n 1, 1, 0, 0, 0), (.invokevirtual 54, 3, 113, 1, 573)]),
  (581, [(.aload_n 2, 1, 0, 0, 0), (.invokevirtual 58, 3, 182, 1, 1439)]),
  (585, [(.if_icmp .eq 745, 3, 1330, 0, 0)]),
  (588, [(.iconst 0, 1, 0, 0, 0), (.ireturn, 1, 0, 0, 0)])]
theorem ck_L_4 : en_okB en_I0v bs_L_4 = true := by decide +kernel
def bs_L_5 : en_Bs := [
  (590, [(.aload_n 1, 1, 0, 0, 0), (.invokevirtual 59, 3, 114, 1, 585)]),
  (594, [(.aload_n 2, 1, 0, 0, 0), (.invokevirtual 62, 3, 183, 1, 1443)]),
  (598, [(.if_icmp .eq 732, 3, 1330, 0, 0)]),
  (601, [(.iconst 0, 1, 0, 0, 0), (.ireturn, 1, 0, 0, 0)]),
  (603, [(.aload_n 1, 1, 0, 0, 0), (.invokevirtual 63, 3, 115, 1, 589)]),
  (607, [(.aload_n 2, 1, 0, 0, 0), (.invokevirtual 66, 3, 210, 1, 1463)]),
  (611, [(.if_icmp .eq 719, 3, 1330, 0, 0)]),
  (614, [(.iconst 0, 1, 0, 0, 0), (.ireturn, 1, 0, 0, 0)]),
  (616, [(.aload_n 1, 1, 0, 0, 0), (.invokevirtual 67, 3, 116, 1, 751)])]
theorem ck_L_5 : en_okB en_I0v bs_L_5 = true := by decide +kernel
def bs_L_6 : en_Bs := [
  (620, [(.aload_n 2, 1, 0, 0, 0), (.invokevirtual 70, 3, 194, 1, 1459)]),
  (624, [(.if_icmp .eq 706, 3, 1330, 0, 0)]),
  (627, [(.iconst 0, 1, 0, 0, 0), (.ireturn, 1, 0, 0, 0)]),
  (629, [(.aload_n 1, 1, 0, 0, 0), (.aload_n 0, 1, 0, 0, 0), (.iload_n 3, 1, 0, 0, 0), (.iconst 1, 1, 0, 0, 0), (.iadd, 1, 0, 0, 0), (.iaload, 1, 0, 0, 0), (.invokevirtual 71, 3, 117, 2, 755)]),
  (638, [(.aload_n 2, 1, 0, 0, 0), (.aload_n 0, 1, 0, 0, 0), (.iload_n 3, 1, 0, 0, 0), (.iconst 1, 1, 0, 0, 0), (.iadd, 1, 0, 0, 0), (.iaload, 1, 0, 0, 0), (.invokevirtual 74, 3, 211, 2, 1566)]),
  (647, [(.if_icmp .eq 683, 3, 1330, 0, 0)]),
  (650, [(.iconst 0, 1, 0, 0, 0), (.ireturn, 1, 0, 0, 0)]),
  (652, [(.aload_n 1, 1, 0, 0, 0), (.aload_n 0, 1, 0, 0, 0), (.iload_n 3, 1, 0, 0, 0), (.iconst 1, 1, 0, 0, 0), (.iadd, 1, 0, 0, 0), (.iaload, 1, 0, 0, 0), (.aload_n 0, 1, 0, 0, 0), (.iload_n 3, 1, 0, 0, 0), (.iconst 2, 1, 0, 0, 0), (.iadd, 1, 0, 0, 0), (.iaload, 1, 0, 0, 0), (.invokevirtual 75, 3, 118, 3, 759)]),
  (666, [(.aload_n 2, 1, 0, 0, 0), (.aload_n 0, 1, 0, 0, 0), (.iload_n 3, 1, 0, 0, 0), (.iconst 1, 1, 0, 0, 0), (.iadd, 1, 0, 0, 0), (.iaload, 1, 0, 0, 0), (.aload_n 0, 1, 0, 0, 0), (.iload_n 3, 1, 0, 0, 0), (.iconst 2, 1, 0, 0, 0), (.iadd, 1, 0, 0, 0), (.iaload, 1, 0, 0, 0), (.invokevirtual 78, 3, 220, 3, 1570)])]
theorem ck_L_6 : en_okB en_I0v bs_L_6 = true := by decide +kernel
def bs_L_7 : en_Bs := [
  (680, [(.if_icmp .eq 650, 3, 1330, 0, 0)]),
  (683, [(.iconst 0, 1, 0, 0, 0), (.ireturn, 1, 0, 0, 0)]),
  (685, [(.aload_n 1, 1, 0, 0, 0), (.aload_n 0, 1, 0, 0, 0), (.iload_n 3, 1, 0, 0, 0), (.iconst 1, 1, 0, 0, 0), (.iadd, 1, 0, 0, 0), (.iaload, 1, 0, 0, 0), (.aload_n 0, 1, 0, 0, 0), (.iload_n 3, 1, 0, 0, 0), (.iconst 2, 1, 0, 0, 0), (.iadd, 1, 0, 0, 0), (.iaload, 1, 0, 0, 0), (.invokevirtual 79, 3, 119, 3, 781)]),
  (699, [(.aload_n 2, 1, 0, 0, 0), (.aload_n 0, 1, 0, 0, 0), (.iload_n 3, 1, 0, 0, 0), (.iconst 1, 1, 0, 0, 0), (.iadd, 1, 0, 0, 0), (.iaload, 1, 0, 0, 0), (.aload_n 0, 1, 0, 0, 0), (.iload_n 3, 1, 0, 0, 0), (.iconst 2, 1, 0, 0, 0), (.iadd, 1, 0, 0, 0), (.iaload, 1, 0, 0, 0), (.invokevirtual 82, 3, 222, 3, 1578)]),
  (713, [(.if_icmp .eq 617, 3, 1330, 0, 0)]),
  (716, [(.iconst 0, 1, 0, 0, 0), (.ireturn, 1, 0, 0, 0)]),
  (718, [(.aload_n 1, 1, 0, 0, 0), (.aload_n 0, 1, 0, 0, 0), (.iload_n 3, 1, 0, 0, 0), (.iconst 1, 1, 0, 0, 0), (.iadd, 1, 0, 0, 0), (.iaload, 1, 0, 0, 0), (.aload_n 0, 1, 0, 0, 0), (.iload_n 3, 1, 0, 0, 0), (.iconst 2, 1, 0, 0, 0), (.iadd, 1, 0, 0, 0), (.iaload, 1, 0, 0, 0), (.invokevirtual 83, 3, 120, 3, 795)]),
  (732, [(.aload_n 2, 1, 0, 0, 0), (.aload_n 0, 1, 0, 0, 0), (.iload_n 3, 1, 0, 0, 0), (.iconst 1, 1, 0, 0, 0), (.iadd, 1, 0, 0, 0), (.iaload, 1, 0, 0, 0), (.aload_n 0, 1, 0, 0, 0), (.iload_n 3, 1, 0, 0, 0), (.iconst 2, 1, 0, 0, 0), (.iadd, 1, 0, 0, 0), (.iaload, 1, 0, 0, 0), (.invokevirtual 86, 3, 230, 3, 1586)]),
  (746, [(.if_icmp .eq 584, 3, 1330, 0, 0)])]
theorem ck_L_7 : en_okB en_I0v bs_L_7 = true := by decide +kernel
def bs_L_8 : en_Bs := [
  (749, [(.iconst 0, 1, 0, 0, 0), (.ireturn, 1, 0, 0, 0)]),
  (751, [(.aload_n 1, 1, 0, 0, 0), (.aload_n 0, 1, 0, 0, 0), (.iload_n 3, 1, 0, 0, 0), (.iconst 1, 1, 0, 0, 0), (.iadd, 1, 0, 0, 0), (.iaload, 1, 0, 0, 0), (.aload_n 0, 1, 0, 0, 0), (.iload_n 3, 1, 0, 0, 0), (.iconst 2, 1, 0, 0, 0), (.iadd, 1, 0, 0, 0), (.iaload, 1, 0, 0, 0), (.invokevirtual 87, 3, 121, 3, 891)]),
  (765, [(.aload_n 2, 1, 0, 0, 0), (.aload_n 0, 1, 0, 0, 0), (.iload_n 3, 1, 0, 0, 0), (.iconst 1, 1, 0, 0, 0), (.iadd, 1, 0, 0, 0), (.iaload, 1, 0, 0, 0), (.aload_n 0, 1, 0, 0, 0), (.iload_n 3, 1, 0, 0, 0), (.iconst 2, 1, 0, 0, 0), (.iadd, 1, 0, 0, 0), (.iaload, 1, 0, 0, 0), (.invokevirtual 90, 3, 232, 3, 1644)]),
  (779, [(.if_icmp .eq 551, 3, 1330, 0, 0)]),
  (782, [(.iconst 0, 1, 0, 0, 0), (.ireturn, 1, 0, 0, 0)]),
  (784, [(.aload_n 1, 1, 0, 0, 0), (.aload_n 0, 1, 0, 0, 0), (.iload_n 3, 1, 0, 0, 0), (.iconst 1, 1, 0, 0, 0), (.iadd, 1, 0, 0, 0), (.iaload, 1, 0, 0, 0), (.aload_n 0, 1, 0, 0, 0), (.iload_n 3, 1, 0, 0, 0), (.iconst 2, 1, 0, 0, 0), (.iadd, 1, 0, 0, 0), (.iaload, 1, 0, 0, 0), (.aload_n 0, 1, 0, 0, 0), (.iload_n 3, 1, 0, 0, 0), (.iconst 3, 1, 0, 0, 0), (.iadd, 1, 0, 0, 0), (.iaload, 1, 0, 0, 0), (.invokevirtual 91, 3, 122, 4, 899)]),
  (803, [(.aload_n 2, 1, 0, 0, 0), (.aload_n 0, 1, 0, 0, 0), (.iload_n 3, 1, 0, 0, 0), (.iconst 1, 1, 0, 0, 0), (.iadd, 1, 0, 0, 0), (.iaload, 1, 0, 0, 0), (.aload_n 0, 1, 0, 0, 0), (.iload_n 3, 1, 0, 0, 0), (.iconst 2, 1, 0, 0, 0), (.iadd, 1, 0, 0, 0), (.iaload, 1, 0, 0, 0), (.aload_n 0, 1, 0, 0, 0), (.iload_n 3, 1, 0, 0, 0), (.iconst 3, 1, 0, 0, 0), (.iadd, 1, 0, 0, 0), (.iaload, 1, 0, 0, 0), (.invokevirtual 94, 3, 233, 4, 1651)]),
  (822, [(.if_icmp .eq 508, 3, 1330, 0, 0)]),
  (825, [(.iconst 0, 1, 0, 0, 0), (.ireturn, 1, 0, 0, 0)])]
theorem ck_L_8 : en_okB en_I0v bs_L_8 = true := by decide +kernel
def bs_L_9 : en_Bs := [
  (827, [(.aload_n 1, 1, 0, 0, 0), (.invokevirtual 95, 3, 123, 1, 903)]),
  (831, [(.aload_n 2, 1, 0, 0, 0), (.invokevirtual 98, 3, 235, 1, 1655)]),
  (835, [(.if_icmp .eq 495, 3, 1330, 0, 0)]),
  (838, [(.iconst 0, 1, 0, 0, 0), (.ireturn, 1, 0, 0, 0)]),
  (840, [(.aload_n 1, 1, 0, 0, 0), (.aload_n 0, 1, 0, 0, 0), (.iload_n 3, 1, 0, 0, 0), (.iconst 1, 1, 0, 0, 0), (.iadd, 1, 0, 0, 0), (.iaload, 1, 0, 0, 0), (.aload_n 0, 1, 0, 0, 0), (.iload_n 3, 1, 0, 0, 0), (.iconst 2, 1, 0, 0, 0), (.iadd, 1, 0, 0, 0), (.iaload, 1, 0, 0, 0), (.invokevirtual 99, 3, 124, 3, 921)]),
  (854, [(.aload_n 2, 1, 0, 0, 0), (.aload_n 0, 1, 0, 0, 0), (.iload_n 3, 1, 0, 0, 0), (.iconst 1, 1, 0, 0, 0), (.iadd, 1, 0, 0, 0), (.iaload, 1, 0, 0, 0), (.aload_n 0, 1, 0, 0, 0), (.iload_n 3, 1, 0, 0, 0), (.iconst 2, 1, 0, 0, 0), (.iadd, 1, 0, 0, 0), (.iaload, 1, 0, 0, 0), (.invokevirtual 102, 3, 239, 3, 1663)]),
  (868, [(.if_icmp .eq 462, 3, 1330, 0, 0)]),
  (871, [(.iconst 0, 1, 0, 0, 0), (.ireturn, 1, 0, 0, 0)]),
  (873, [(.aload_n 1, 1, 0, 0, 0), (.aload_n 0, 1, 0, 0, 0), (.iload_n 3, 1, 0, 0, 0), (.iconst 1, 1, 0, 0, 0), (.iadd, 1, 0, 0, 0), (.iaload, 1, 0, 0, 0), (.aload_n 0, 1, 0, 0, 0), (.iload_n 3, 1, 0, 0, 0), (.iconst 2, 1, 0, 0, 0), (.iadd, 1, 0, 0, 0), (.iaload, 1, 0, 0, 0), (.invokevirtual 103, 3, 125, 3, 976)])]
theorem ck_L_9 : en_okB en_I0v bs_L_9 = true := by decide +kernel
def bs_L_10 : en_Bs := [
  (887, [(.aload_n 2, 1, 0, 0, 0), (.aload_n 0, 1, 0, 0, 0), (.iload_n 3, 1, 0, 0, 0), (.iconst 1, 1, 0, 0, 0), (.iadd, 1, 0, 0, 0), (.iaload, 1, 0, 0, 0), (.aload_n 0, 1, 0, 0, 0), (.iload_n 3, 1, 0, 0, 0), (.iconst 2, 1, 0, 0, 0), (.iadd, 1, 0, 0, 0), (.iaload, 1, 0, 0, 0), (.invokevirtual 106, 3, 240, 3, 1679)]),
  (901, [(.if_icmp .eq 429, 3, 1330, 0, 0)]),
  (904, [(.iconst 0, 1, 0, 0, 0), (.ireturn, 1, 0, 0, 0)]),
  (906, [(.aload_n 1, 1, 0, 0, 0), (.aload_n 0, 1, 0, 0, 0), (.iload_n 3, 1, 0, 0, 0), (.iconst 1, 1, 0, 0, 0), (.iadd, 1, 0, 0, 0), (.iaload, 1, 0, 0, 0), (.invokevirtual 107, 3, 126, 2, 981)]),
  (915, [(.aload_n 2, 1, 0, 0, 0), (.aload_n 0, 1, 0, 0, 0), (.iload_n 3, 1, 0, 0, 0), (.iconst 1, 1, 0, 0, 0), (.iadd, 1, 0, 0, 0), (.iaload, 1, 0, 0, 0), (.invokevirtual 110, 3, 242, 2, 1683)]),
  (924, [(.if_icmp .eq 406, 3, 1330, 0, 0)]),
  (927, [(.iconst 0, 1, 0, 0, 0), (.ireturn, 1, 0, 0, 0)]),
  (929, [(.aload_n 1, 1, 0, 0, 0), (.aload_n 0, 1, 0, 0, 0), (.iload_n 3, 1, 0, 0, 0), (.iconst 1, 1, 0, 0, 0), (.iadd, 1, 0, 0, 0), (.iaload, 1, 0, 0, 0), (.invokevirtual 111, 3, 127, 2, 1002)]),
  (938, [(.aload_n 2, 1, 0, 0, 0), (.aload_n 0, 1, 0, 0, 0), (.iload_n 3, 1, 0, 0, 0), (.iconst 1, 1, 0, 0, 0), (.iadd, 1, 0, 0, 0), (.iaload, 1, 0, 0, 0), (.invokevirtual 114, 3, 244, 2, 1695)])]
theorem ck_L_10 : en_okB en_I0v bs_L_10 = true := by decide +kernel
def bs_L_11 : en_Bs := [
  (947, [(.if_icmp .eq 383, 3, 1330, 0, 0)]),
  (950, [(.iconst 0, 1, 0, 0, 0), (.ireturn, 1, 0, 0, 0)]),
  (952, [(.aload_n 1, 1, 0, 0, 0), (.aload_n 0, 1, 0, 0, 0), (.iload_n 3, 1, 0, 0, 0), (.iconst 1, 1, 0, 0, 0), (.iadd, 1, 0, 0, 0), (.iaload, 1, 0, 0, 0), (.invokevirtual 115, 3, 128, 2, 1040)]),
  (961, [(.aload_n 2, 1, 0, 0, 0), (.aload_n 0, 1, 0, 0, 0), (.iload_n 3, 1, 0, 0, 0), (.iconst 1, 1, 0, 0, 0), (.iadd, 1, 0, 0, 0), (.iaload, 1, 0, 0, 0), (.invokevirtual 118, 3, 246, 2, 1708)]),
  (970, [(.if_icmp .eq 360, 3, 1330, 0, 0)]),
  (973, [(.iconst 0, 1, 0, 0, 0), (.ireturn, 1, 0, 0, 0)]),
  (975, [(.aload_n 1, 1, 0, 0, 0), (.aload_n 0, 1, 0, 0, 0), (.iload_n 3, 1, 0, 0, 0), (.iconst 1, 1, 0, 0, 0), (.iadd, 1, 0, 0, 0), (.iaload, 1, 0, 0, 0), (.invokevirtual 119, 3, 129, 2, 1044)]),
  (984, [(.aload_n 2, 1, 0, 0, 0), (.aload_n 0, 1, 0, 0, 0), (.iload_n 3, 1, 0, 0, 0), (.iconst 1, 1, 0, 0, 0), (.iadd, 1, 0, 0, 0), (.iaload, 1, 0, 0, 0), (.invokevirtual 122, 3, 248, 2, 1716)]),
  (993, [(.if_icmp .eq 337, 3, 1330, 0, 0)])]
theorem ck_L_11 : en_okB en_I0v bs_L_11 = true := by decide +kernel
def bs_L_12 : en_Bs := [
  (996, [(.iconst 0, 1, 0, 0, 0), (.ireturn, 1, 0, 0, 0)]),
  (998, [(.aload_n 1, 1, 0, 0, 0), (.aload_n 0, 1, 0, 0, 0), (.iload_n 3, 1, 0, 0, 0), (.iconst 1, 1, 0, 0, 0), (.iadd, 1, 0, 0, 0), (.iaload, 1, 0, 0, 0), (.aload_n 0, 1, 0, 0, 0), (.iload_n 3, 1, 0, 0, 0), (.iconst 2, 1, 0, 0, 0), (.iadd, 1, 0, 0, 0), (.iaload, 1, 0, 0, 0), (.invokevirtual 123, 3, 130, 3, 1060)]),
  (1012, [(.aload_n 2, 1, 0, 0, 0), (.aload_n 0, 1, 0, 0, 0), (.iload_n 3, 1, 0, 0, 0), (.iconst 1, 1, 0, 0, 0), (.iadd, 1, 0, 0, 0), (.iaload, 1, 0, 0, 0), (.aload_n 0, 1, 0, 0, 0), (.iload_n 3, 1, 0, 0, 0), (.iconst 2, 1, 0, 0, 0), (.iadd, 1, 0, 0, 0), (.iaload, 1, 0, 0, 0), (.invokevirtual 126, 3, 250, 3, 1724)]),
  (1026, [(.if_icmp .eq 304, 3, 1330, 0, 0)]),
  (1029, [(.iconst 0, 1, 0, 0, 0), (.ireturn, 1, 0, 0, 0)]),
  (1031, [(.aload_n 1, 1, 0, 0, 0), (.invokevirtual 127, 3, 131, 1, 1068)]),
  (1035, [(.aload_n 2, 1, 0, 0, 0), (.invokevirtual 130, 3, 251, 1, 1732)]),
  (1039, [(.if_icmp .eq 291, 3, 1330, 0, 0)]),
  (1042, [(.iconst 0, 1, 0, 0, 0), (.ireturn, 1, 0, 0, 0)])]
theorem ck_L_12 : en_okB en_I0v bs_L_12 = true := by decide +kernel
def bs_L_13 : en_Bs := [
  (1044, [(.aload_n 1, 1, 0, 0, 0), (.aload_n 0, 1, 0, 0, 0), (.iload_n 3, 1, 0, 0, 0), (.iconst 1, 1, 0, 0, 0), (.iadd, 1, 0, 0, 0), (.iaload, 1, 0, 0, 0), (.invokevirtual 131, 3, 132, 2, 1076)]),
  (1053, [(.aload_n 2, 1, 0, 0, 0), (.aload_n 0, 1, 0, 0, 0), (.iload_n 3, 1, 0, 0, 0), (.iconst 1, 1, 0, 0, 0), (.iadd, 1, 0, 0, 0), (.iaload, 1, 0, 0, 0), (.invokevirtual 134, 3, 252, 2, 1736)]),
  (1062, [(.if_icmp .eq 268, 3, 1330, 0, 0)]),
  (1065, [(.iconst 0, 1, 0, 0, 0), (.ireturn, 1, 0, 0, 0)]),
  (1067, [(.aload_n 1, 1, 0, 0, 0), (.aload_n 0, 1, 0, 0, 0), (.iload_n 3, 1, 0, 0, 0), (.iconst 1, 1, 0, 0, 0), (.iadd, 1, 0, 0, 0), (.iaload, 1, 0, 0, 0), (.invokevirtual 135, 3, 133, 2, 1088)]),
  (1076, [(.aload_n 2, 1, 0, 0, 0), (.aload_n 0, 1, 0, 0, 0), (.iload_n 3, 1, 0, 0, 0), (.iconst 1, 1, 0, 0, 0), (.iadd, 1, 0, 0, 0), (.iaload, 1, 0, 0, 0), (.invokevirtual 138, 3, 253, 2, 1740)]),
  (1085, [(.if_icmp .eq 245, 3, 1330, 0, 0)]),
  (1088, [(.iconst 0, 1, 0, 0, 0), (.ireturn, 1, 0, 0, 0)]),
  (1090, [(.aload_n 1, 1, 0, 0, 0), (.aload_n 0, 1, 0, 0, 0), (.iload_n 3, 1, 0, 0, 0), (.iconst 1, 1, 0, 0, 0), (.iadd, 1, 0, 0, 0), (.iaload, 1, 0, 0, 0), (.aload_n 0, 1, 0, 0, 0), (.iload_n 3, 1, 0, 0, 0), (.iconst 2, 1, 0, 0, 0), (.iadd, 1, 0, 0, 0), (.iaload, 1, 0, 0, 0), (.invokevirtual 139, 3, 134, 3, 1098)])]
theorem ck_L_13 : en_okB en_I0v bs_L_13 = true := by decide +kernel
def bs_L_14 : en_Bs := [
  (1104, [(.aload_n 2, 1, 0, 0, 0), (.aload_n 0, 1, 0, 0, 0), (.iload_n 3, 1, 0, 0, 0), (.iconst 1, 1, 0, 0, 0), (.iadd, 1, 0, 0, 0), (.iaload, 1, 0, 0, 0), (.aload_n 0, 1, 0, 0, 0), (.iload_n 3, 1, 0, 0, 0), (.iconst 2, 1, 0, 0, 0), (.iadd, 1, 0, 0, 0), (.iaload, 1, 0, 0, 0), (.invokevirtual 142, 3, 254, 3, 1744)]),
  (1118, [(.if_icmp .eq 212, 3, 1330, 0, 0)]),
  (1121, [(.iconst 0, 1, 0, 0, 0), (.ireturn, 1, 0, 0, 0)]),
  (1123, [(.aload_n 1, 1, 0, 0, 0), (.invokevirtual 143, 3, 135, 1, 1102)]),
  (1127, [(.aload_n 2, 1, 0, 0, 0), (.invokevirtual 146, 3, 255, 1, 1748)]),
  (1131, [(.if_icmp .eq 199, 3, 1330, 0, 0)]),
  (1134, [(.iconst 0, 1, 0, 0, 0), (.ireturn, 1, 0, 0, 0)]),
  (1136, [(.aload_n 1, 1, 0, 0, 0), (.invokevirtual 147, 3, 136, 1, 1106)]),
  (1140, [(.aload_n 2, 1, 0, 0, 0), (.invokevirtual 150, 3, 257, 1, 1752)])]
theorem ck_L_14 : en_okB en_I0v bs_L_14 = true := by decide +kernel
def bs_L_15 : en_Bs := [
  (1144, [(.if_icmp .eq 186, 3, 1330, 0, 0)]),
  (1147, [(.iconst 0, 1, 0, 0, 0), (.ireturn, 1, 0, 0, 0)]),
  (1149, [(.aload_n 1, 1, 0, 0, 0), (.aload_n 0, 1, 0, 0, 0), (.iload_n 3, 1, 0, 0, 0), (.iconst 1, 1, 0, 0, 0), (.iadd, 1, 0, 0, 0), (.iaload, 1, 0, 0, 0), (.aload_n 0, 1, 0, 0, 0), (.iload_n 3, 1, 0, 0, 0), (.iconst 2, 1, 0, 0, 0), (.iadd, 1, 0, 0, 0), (.iaload, 1, 0, 0, 0), (.aload_n 0, 1, 0, 0, 0), (.iload_n 3, 1, 0, 0, 0), (.iconst 3, 1, 0, 0, 0), (.iadd, 1, 0, 0, 0), (.iaload, 1, 0, 0, 0), (.invokevirtual 151, 3, 137, 4, 1118)]),
  (1168, [(.aload_n 2, 1, 0, 0, 0), (.aload_n 0, 1, 0, 0, 0), (.iload_n 3, 1, 0, 0, 0), (.iconst 1, 1, 0, 0, 0), (.iadd, 1, 0, 0, 0), (.iaload, 1, 0, 0, 0), (.aload_n 0, 1, 0, 0, 0), (.iload_n 3, 1, 0, 0, 0), (.iconst 2, 1, 0, 0, 0), (.iadd, 1, 0, 0, 0), (.iaload, 1, 0, 0, 0), (.aload_n 0, 1, 0, 0, 0), (.iload_n 3, 1, 0, 0, 0), (.iconst 3, 1, 0, 0, 0), (.iadd, 1, 0, 0, 0), (.iaload, 1, 0, 0, 0), (.invokevirtual 154, 3, 258, 4, 1760)]),
  (1187, [(.if_icmp .eq 143, 3, 1330, 0, 0)]),
  (1190, [(.iconst 0, 1, 0, 0, 0), (.ireturn, 1, 0, 0, 0)]),
  (1192, [(.aload_n 1, 1, 0, 0, 0), (.aload_n 0, 1, 0, 0, 0), (.iload_n 3, 1, 0, 0, 0), (.iconst 1, 1, 0, 0, 0), (.iadd, 1, 0, 0, 0), (.iaload, 1, 0, 0, 0), (.invokevirtual 155, 3, 138, 2, 1126)]),
  (1201, [(.aload_n 2, 1, 0, 0, 0), (.aload_n 0, 1, 0, 0, 0), (.iload_n 3, 1, 0, 0, 0), (.iconst 1, 1, 0, 0, 0), (.iadd, 1, 0, 0, 0), (.iaload, 1, 0, 0, 0), (.invokevirtual 158, 3, 261, 2, 1764)]),
  (1210, [(.if_icmp .eq 120, 3, 1330, 0, 0)])]
theorem ck_L_15 : en_okB en_I0v bs_L_15 = true := by decide +kernel
def bs_L_16 : en_Bs := [
  (1213, [(.iconst 0, 1, 0, 0, 0), (.ireturn, 1, 0, 0, 0)]),
  (1215, [(.aload_n 1, 1, 0, 0, 0), (.aload_n 0, 1, 0, 0, 0), (.iload_n 3, 1, 0, 0, 0), (.iconst 1, 1, 0, 0, 0), (.iadd, 1, 0, 0, 0), (.iaload, 1, 0, 0, 0), (.aload_n 0, 1, 0, 0, 0), (.iload_n 3, 1, 0, 0, 0), (.iconst 2, 1, 0, 0, 0), (.iadd, 1, 0, 0, 0), (.iaload, 1, 0, 0, 0), (.invokevirtual 159, 3, 139, 3, 1140)]),
  (1229, [(.aload_n 2, 1, 0, 0, 0), (.aload_n 0, 1, 0, 0, 0), (.iload_n 3, 1, 0, 0, 0), (.iconst 1, 1, 0, 0, 0), (.iadd, 1, 0, 0, 0), (.iaload, 1, 0, 0, 0), (.aload_n 0, 1, 0, 0, 0), (.iload_n 3, 1, 0, 0, 0), (.iconst 2, 1, 0, 0, 0), (.iadd, 1, 0, 0, 0), (.iaload, 1, 0, 0, 0), (.invokevirtual 162, 3, 262, 3, 1779)]),
  (1243, [(.if_icmp .eq 87, 3, 1330, 0, 0)]),
  (1246, [(.iconst 0, 1, 0, 0, 0), (.ireturn, 1, 0, 0, 0)]),
  (1248, [(.aload_n 1, 1, 0, 0, 0), (.aload_n 0, 1, 0, 0, 0), (.iload_n 3, 1, 0, 0, 0), (.iconst 1, 1, 0, 0, 0), (.iadd, 1, 0, 0, 0), (.iaload, 1, 0, 0, 0), (.invokevirtual 163, 3, 140, 2, 1144)]),
  (1257, [(.aload_n 2, 1, 0, 0, 0), (.aload_n 0, 1, 0, 0, 0), (.iload_n 3, 1, 0, 0, 0), (.iconst 1, 1, 0, 0, 0), (.iadd, 1, 0, 0, 0), (.iaload, 1, 0, 0, 0), (.invokevirtual 166, 3, 165, 2, 1347)]),
  (1266, [(.if_icmp .eq 64, 3, 1330, 0, 0)]),
  (1269, [(.iconst 0, 1, 0, 0, 0), (.ireturn, 1, 0, 0, 0)])]
theorem ck_L_16 : en_okB en_I0v bs_L_16 = true := by decide +kernel
def bs_L_17 : en_Bs := [
  (1271, [(.aload_n 1, 1, 0, 0, 0), (.aload_n 0, 1, 0, 0, 0), (.iload_n 3, 1, 0, 0, 0), (.iconst 1, 1, 0, 0, 0), (.iadd, 1, 0, 0, 0), (.iaload, 1, 0, 0, 0), (.invokevirtual 167, 3, 141, 2, 1156)]),
  (1280, [(.aload_n 2, 1, 0, 0, 0), (.aload_n 0, 1, 0, 0, 0), (.iload_n 3, 1, 0, 0, 0), (.iconst 1, 1, 0, 0, 0), (.iadd, 1, 0, 0, 0), (.iaload, 1, 0, 0, 0), (.invokevirtual 170, 3, 166, 2, 1358)]),
  (1289, [(.if_icmp .eq 41, 3, 1330, 0, 0)]),
  (1292, [(.iconst 0, 1, 0, 0, 0), (.ireturn, 1, 0, 0, 0)]),
  (1294, [(.aload_n 1, 1, 0, 0, 0), (.aload_n 0, 1, 0, 0, 0), (.iload_n 3, 1, 0, 0, 0), (.iconst 1, 1, 0, 0, 0), (.iadd, 1, 0, 0, 0), (.iaload, 1, 0, 0, 0), (.invokevirtual 171, 3, 142, 2, 1160)]),
  (1303, [(.aload_n 2, 1, 0, 0, 0), (.aload_n 0, 1, 0, 0, 0), (.iload_n 3, 1, 0, 0, 0), (.iconst 1, 1, 0, 0, 0), (.iadd, 1, 0, 0, 0), (.iaload, 1, 0, 0, 0), (.invokevirtual 174, 3, 263, 2, 1783)]),
  (1312, [(.if_icmp .eq 18, 3, 1330, 0, 0)]),
  (1315, [(.iconst 0, 1, 0, 0, 0), (.ireturn, 1, 0, 0, 0)]),
  (1317, [(.aload_n 1, 1, 0, 0, 0), (.invokevirtual 175, 3, 143, 1, 1168)])]
theorem ck_L_17 : en_okB en_I0v bs_L_17 = true := by decide +kernel
def bs_L_18 : en_Bs := [
  (1321, [(.aload_n 2, 1, 0, 0, 0), (.invokevirtual 178, 3, 264, 1, 1787)]),
  (1325, [(.if_icmp .eq 5, 3, 1330, 0, 0)]),
  (1328, [(.iconst 0, 1, 0, 0, 0), (.ireturn, 1, 0, 0, 0)]),
  (1330, [(.iinc 3 7, 3, 0, 0, 0), (.goto (-1315), 3, 18, 0, 0)]),
  (1336, [(.iconst 1, 1, 0, 0, 0), (.ireturn, 1, 0, 0, 0)])]
theorem ck_L_18 : en_okB en_I0v bs_L_18 = true := by decide +kernel
def bs_L_law : en_Bs := bs_L_0 ++ (bs_L_1 ++ (bs_L_2 ++ (bs_L_3 ++ (bs_L_4 ++ (bs_L_5 ++ (bs_L_6 ++ (bs_L_7 ++ (bs_L_8 ++ (bs_L_9 ++ (bs_L_10 ++ (bs_L_11 ++ (bs_L_12 ++ (bs_L_13 ++ (bs_L_14 ++ (bs_L_15 ++ (bs_L_16 ++ (bs_L_17 ++ (bs_L_18))))))))))))))))))
theorem ck_L_law : en_okB en_I0v bs_L_law = true := en_okB_app _ _ _ ck_L_0 (en_okB_app _ _ _ ck_L_1 (en_okB_app _ _ _ ck_L_2 (en_okB_app _ _ _ ck_L_3 (en_okB_app _ _ _ ck_L_4 (en_okB_app _ _ _ ck_L_5 (en_okB_app _ _ _ ck_L_6 (en_okB_app _ _ _ ck_L_7 (en_okB_app _ _ _ ck_L_8 (en_okB_app _ _ _ ck_L_9 (en_okB_app _ _ _ ck_L_10 (en_okB_app _ _ _ ck_L_11 (en_okB_app _ _ _ ck_L_12 (en_okB_app _ _ _ ck_L_13 (en_okB_app _ _ _ ck_L_14 (en_okB_app _ _ _ ck_L_15 (en_okB_app _ _ _ ck_L_16 (en_okB_app _ _ _ ck_L_17 (ck_L_18))))))))))))))))))
end
section
def en_allck : Nat → List en_Bs → Prop
  | _, [] => True
  | i, b :: r => (b = [] ∨ en_ck i b = true) ∧ en_allck (i + 1) r
theorem en_allck_app : ∀ (a b : List en_Bs) (i : Nat), en_allck i a → en_allck (i + a.length) b → en_allck i (a ++ b)
  | [], b, i, h1, h2 => h2
  | x :: r, b, i, h1, h2 => ⟨h1.1, en_allck_app r b (i + 1) h1.2 (by rw [List.length_cons] at h2; rw [Nat.add_assoc, Nat.add_comm 1]; exact h2)⟩
theorem en_allck_at : ∀ {l : List en_Bs} {i k : Nat} {b : en_Bs}, en_allck i l → l[k]? = some b → b = [] ∨ en_ck (i + k) b = true
  | [], i, k, b, h, hk => by simp at hk
  | x :: r, i, 0, b, h, hk => by
    cases hk
    exact h.1
  | x :: r, i, k + 1, b, h, hk => by
    have h1 := en_allck_at (i := i + 1) (k := k) h.2 (by simpa using hk)
    rw [show i + (k + 1) = i + 1 + k by omega]
    exact h1
def en_BS_0 : List en_Bs := [[], bs_X0_init, bs_X0_become, bs_X0_hasStand, bs_X0_hasLoad, bs_X0_addStand, bs_X0_addLoad, bs_X0_removeLoad, bs_X0_addLaw, bs_X0_lawInForce, bs_X0_lawAt, bs_X0_about, bs_X0_next, bs_X0_nextPast, bs_X0_handsOf, bs_X1_init, bs_X1_layOut, bs_X1_handsToWant, bs_X1_runWhole, bs_X1_comesBy, bs_X1_lastStart, bs_X1_canComeBy, bs_X1_isCarried, bs_X1_begin, bs_X1_arrive, bs_X1_admit, bs_X1_canHold, bs_X1_take, bs_X1_giveUp, bs_X1_lineUp]
theorem en_BSc_0 : en_allck 0 en_BS_0 := ⟨Or.inl rfl, ⟨Or.inr ck_X0_init, ⟨Or.inr ck_X0_become, ⟨Or.inr ck_X0_hasStand, ⟨Or.inr ck_X0_hasLoad, ⟨Or.inr ck_X0_addStand, ⟨Or.inr ck_X0_addLoad, ⟨Or.inr ck_X0_removeLoad, ⟨Or.inr ck_X0_addLaw, ⟨Or.inr ck_X0_lawInForce, ⟨Or.inr ck_X0_lawAt, ⟨Or.inr ck_X0_about, ⟨Or.inr ck_X0_next, ⟨Or.inr ck_X0_nextPast, ⟨Or.inr ck_X0_handsOf, ⟨Or.inr ck_X1_init, ⟨Or.inr ck_X1_layOut, ⟨Or.inr ck_X1_handsToWant, ⟨Or.inr ck_X1_runWhole, ⟨Or.inr ck_X1_comesBy, ⟨Or.inr ck_X1_lastStart, ⟨Or.inr ck_X1_canComeBy, ⟨Or.inr ck_X1_isCarried, ⟨Or.inr ck_X1_begin, ⟨Or.inr ck_X1_arrive, ⟨Or.inr ck_X1_admit, ⟨Or.inr ck_X1_canHold, ⟨Or.inr ck_X1_take, ⟨Or.inr ck_X1_giveUp, ⟨Or.inr ck_X1_lineUp, trivial⟩⟩⟩⟩⟩⟩⟩⟩⟩⟩⟩⟩⟩⟩⟩⟩⟩⟩⟩⟩⟩⟩⟩⟩⟩⟩⟩⟩⟩⟩
def en_BS_1 : List en_Bs := [bs_X1_goOn, bs_X1_placeBehind, bs_X1_comeByNoon, bs_X1_failures, bs_X1_chokingRound, bs_X1_isStuck, bs_X1_roundOf, bs_X2_init, bs_X2_forget, bs_X2_costOf, bs_X2_incomeOf, bs_X2_answerOf, bs_X2_firstRestless, bs_X2_settle, bs_X2_settled, bs_X2_begin, bs_X2_seekAnswer, bs_X2_incomeBy, bs_X2_costBeside, bs_X2_gets, bs_X3_init, bs_X3_nameOf, bs_X3_tells, bs_X3_worth, bs_X3_joined, bs_X4_init, bs_X4_become, bs_X4_wipe, bs_X4_speaksOf, bs_X4_asksOfTime]
theorem en_BSc_1 : en_allck 30 en_BS_1 := ⟨Or.inr ck_X1_goOn, ⟨Or.inr ck_X1_placeBehind, ⟨Or.inr ck_X1_comeByNoon, ⟨Or.inr ck_X1_failures, ⟨Or.inr ck_X1_chokingRound, ⟨Or.inr ck_X1_isStuck, ⟨Or.inr ck_X1_roundOf, ⟨Or.inr ck_X2_init, ⟨Or.inr ck_X2_forget, ⟨Or.inr ck_X2_costOf, ⟨Or.inr ck_X2_incomeOf, ⟨Or.inr ck_X2_answerOf, ⟨Or.inr ck_X2_firstRestless, ⟨Or.inr ck_X2_settle, ⟨Or.inr ck_X2_settled, ⟨Or.inr ck_X2_begin, ⟨Or.inr ck_X2_seekAnswer, ⟨Or.inr ck_X2_incomeBy, ⟨Or.inr ck_X2_costBeside, ⟨Or.inr ck_X2_gets, ⟨Or.inr ck_X3_init, ⟨Or.inr ck_X3_nameOf, ⟨Or.inr ck_X3_tells, ⟨Or.inr ck_X3_worth, ⟨Or.inr ck_X3_joined, ⟨Or.inr ck_X4_init, ⟨Or.inr ck_X4_become, ⟨Or.inr ck_X4_wipe, ⟨Or.inr ck_X4_speaksOf, ⟨Or.inr ck_X4_asksOfTime, trivial⟩⟩⟩⟩⟩⟩⟩⟩⟩⟩⟩⟩⟩⟩⟩⟩⟩⟩⟩⟩⟩⟩⟩⟩⟩⟩⟩⟩⟩⟩
def en_BS_2 : List en_Bs := [bs_X4_add, bs_X4_aimAtEnd, bs_X5_init, bs_X5_read, bs_X5_readClause, bs_X5_readJoined, bs_X5_joinHere, bs_X5_readPlain, bs_X5_comparisonHere, bs_X5_readPart, bs_X5_open, bs_X5_expect, bs_X5_fail, bs_X5_step, bs_X5_kindOf, bs_X5_isSingle, bs_X5_isWord, bs_X5_numberHere, bs_X5_wordHere, bs_X6_init, bs_X6_forget, bs_X6_told, bs_X6_search, bs_X7_init, bs_X7_forget, bs_X7_told, bs_X7_tryNone, bs_X7_tryOne, bs_X7_tryTwo, bs_X7_rowsLike]
theorem en_BSc_2 : en_allck 60 en_BS_2 := ⟨Or.inr ck_X4_add, ⟨Or.inr ck_X4_aimAtEnd, ⟨Or.inr ck_X5_init, ⟨Or.inr ck_X5_read, ⟨Or.inr ck_X5_readClause, ⟨Or.inr ck_X5_readJoined, ⟨Or.inr ck_X5_joinHere, ⟨Or.inr ck_X5_readPlain, ⟨Or.inr ck_X5_comparisonHere, ⟨Or.inr ck_X5_readPart, ⟨Or.inr ck_X5_open, ⟨Or.inr ck_X5_expect, ⟨Or.inr ck_X5_fail, ⟨Or.inr ck_X5_step, ⟨Or.inr ck_X5_kindOf, ⟨Or.inr ck_X5_isSingle, ⟨Or.inr ck_X5_isWord, ⟨Or.inr ck_X5_numberHere, ⟨Or.inr ck_X5_wordHere, ⟨Or.inr ck_X6_init, ⟨Or.inr ck_X6_forget, ⟨Or.inr ck_X6_told, ⟨Or.inr ck_X6_search, ⟨Or.inr ck_X7_init, ⟨Or.inr ck_X7_forget, ⟨Or.inr ck_X7_told, ⟨Or.inr ck_X7_tryNone, ⟨Or.inr ck_X7_tryOne, ⟨Or.inr ck_X7_tryTwo, ⟨Or.inr ck_X7_rowsLike, trivial⟩⟩⟩⟩⟩⟩⟩⟩⟩⟩⟩⟩⟩⟩⟩⟩⟩⟩⟩⟩⟩⟩⟩⟩⟩⟩⟩⟩⟩⟩
def en_BS_3 : List en_Bs := [bs_X7_change, bs_X7_found, bs_X8_init, bs_X8_append, bs_X8_at, bs_X9_init, bs_X9_standOf, bs_X9_comersTo, bs_X9_suspects, bs_X9_fitsSigns, bs_X9_meeting, bs_X9_minutesInPieces, bs_X9_standAfter, bs_X10_init, bs_X10_stand, bs_X10_put, bs_X10_of, bs_X10_load, bs_X10_fact, bs_X10_drop, bs_X10_terms, bs_X10_feed, bs_X10_end, bs_X10_row, bs_X10_dropped, bs_X10_law, bs_X10_fault, bs_X10_force, bs_X10_way, bs_X10_enter]
theorem en_BSc_3 : en_allck 90 en_BS_3 := ⟨Or.inr ck_X7_change, ⟨Or.inr ck_X7_found, ⟨Or.inr ck_X8_init, ⟨Or.inr ck_X8_append, ⟨Or.inr ck_X8_at, ⟨Or.inr ck_X9_init, ⟨Or.inr ck_X9_standOf, ⟨Or.inr ck_X9_comersTo, ⟨Or.inr ck_X9_suspects, ⟨Or.inr ck_X9_fitsSigns, ⟨Or.inr ck_X9_meeting, ⟨Or.inr ck_X9_minutesInPieces, ⟨Or.inr ck_X9_standAfter, ⟨Or.inr ck_X10_init, ⟨Or.inr ck_X10_stand, ⟨Or.inr ck_X10_put, ⟨Or.inr ck_X10_of, ⟨Or.inr ck_X10_load, ⟨Or.inr ck_X10_fact, ⟨Or.inr ck_X10_drop, ⟨Or.inr ck_X10_terms, ⟨Or.inr ck_X10_feed, ⟨Or.inr ck_X10_end, ⟨Or.inr ck_X10_row, ⟨Or.inr ck_X10_dropped, ⟨Or.inr ck_X10_law, ⟨Or.inr ck_X10_fault, ⟨Or.inr ck_X10_force, ⟨Or.inr ck_X10_way, ⟨Or.inr ck_X10_enter, trivial⟩⟩⟩⟩⟩⟩⟩⟩⟩⟩⟩⟩⟩⟩⟩⟩⟩⟩⟩⟩⟩⟩⟩⟩⟩⟩⟩⟩⟩⟩
def en_BS_4 : List en_Bs := [bs_X10_day, bs_X10_where, bs_X10_held, bs_X10_choke, bs_X10_swaps, bs_X10_swap, bs_X10_home, bs_X10_cost, bs_X10_sent, bs_X10_income, bs_X10_answer, bs_X10_restless, bs_X10_rests, bs_X10_pieces, bs_X10_sign, bs_X10_clear, bs_X10_thieves, bs_X10_meet, bs_X10_draw, bs_X10_drawn, bs_X10_image, bs_X10_back, bs_X10_count, bs_X10_status, bs_X10_refused, bs_X10_accepted, bs_X10_changed, bs_X10_dayNow, bs_X10_imageOf, bs_X10_whyNoLoad]
theorem en_BSc_4 : en_allck 120 en_BS_4 := ⟨Or.inr ck_X10_day, ⟨Or.inr ck_X10_where, ⟨Or.inr ck_X10_held, ⟨Or.inr ck_X10_choke, ⟨Or.inr ck_X10_swaps, ⟨Or.inr ck_X10_swap, ⟨Or.inr ck_X10_home, ⟨Or.inr ck_X10_cost, ⟨Or.inr ck_X10_sent, ⟨Or.inr ck_X10_income, ⟨Or.inr ck_X10_answer, ⟨Or.inr ck_X10_restless, ⟨Or.inr ck_X10_rests, ⟨Or.inr ck_X10_pieces, ⟨Or.inr ck_X10_sign, ⟨Or.inr ck_X10_clear, ⟨Or.inr ck_X10_thieves, ⟨Or.inr ck_X10_meet, ⟨Or.inr ck_X10_draw, ⟨Or.inr ck_X10_drawn, ⟨Or.inr ck_X10_image, ⟨Or.inr ck_X10_back, ⟨Or.inr ck_X10_count, ⟨Or.inr ck_X10_status, ⟨Or.inr ck_X10_refused, ⟨Or.inr ck_X10_accepted, ⟨Or.inr ck_X10_changed, ⟨Or.inr ck_X10_dayNow, ⟨Or.inr ck_X10_imageOf, ⟨Or.inr ck_X10_whyNoLoad, trivial⟩⟩⟩⟩⟩⟩⟩⟩⟩⟩⟩⟩⟩⟩⟩⟩⟩⟩⟩⟩⟩⟩⟩⟩⟩⟩⟩⟩⟩⟩
def en_BS_5 : List en_Bs := [bs_X10_addFromTape, bs_X10_drawAfter, bs_X10_isStrength, bs_X10_isFee, bs_X10_within, bs_X10_hasBit, bs_X10_areBits, bs_X10_exchange, bs_X11_init, bs_X11_in, bs_X11_is, bs_X11_bits, bs_X11_tell, bs_X11_was, bs_X11_change, bs_X11_image, bs_X11_back, bs_X11_isStand, bs_X11_isLoad, bs_X11_ofStand, bs_X11_ofLoad, bs_X11_fits, bs_X11_stand, bs_X11_put, bs_X11_nextOf, bs_X11_of, bs_X11_isLoadLike, bs_X11_addLoad, bs_X11_load, bs_X11_fact]
theorem en_BSc_5 : en_allck 150 en_BS_5 := ⟨Or.inr ck_X10_addFromTape, ⟨Or.inr ck_X10_drawAfter, ⟨Or.inr ck_X10_isStrength, ⟨Or.inr ck_X10_isFee, ⟨Or.inr ck_X10_within, ⟨Or.inr ck_X10_hasBit, ⟨Or.inr ck_X10_areBits, ⟨Or.inr ck_X10_exchange, ⟨Or.inr ck_X11_init, ⟨Or.inr ck_X11_in, ⟨Or.inr ck_X11_is, ⟨Or.inr ck_X11_bits, ⟨Or.inr ck_X11_tell, ⟨Or.inr ck_X11_was, ⟨Or.inr ck_X11_change, ⟨Or.inr ck_X11_image, ⟨Or.inr ck_X11_back, ⟨Or.inr ck_X11_isStand, ⟨Or.inr ck_X11_isLoad, ⟨Or.inr ck_X11_ofStand, ⟨Or.inr ck_X11_ofLoad, ⟨Or.inr ck_X11_fits, ⟨Or.inr ck_X11_stand, ⟨Or.inr ck_X11_put, ⟨Or.inr ck_X11_nextOf, ⟨Or.inr ck_X11_of, ⟨Or.inr ck_X11_isLoadLike, ⟨Or.inr ck_X11_addLoad, ⟨Or.inr ck_X11_load, ⟨Or.inr ck_X11_fact, trivial⟩⟩⟩⟩⟩⟩⟩⟩⟩⟩⟩⟩⟩⟩⟩⟩⟩⟩⟩⟩⟩⟩⟩⟩⟩⟩⟩⟩⟩⟩
def en_BS_6 : List en_Bs := [bs_X11_drop, bs_X11_terms, bs_X11_row, bs_X11_dropped, bs_X11_four, bs_X11_feed, bs_X11_end, bs_X11_isSmall, bs_X11_isDigit, bs_X11_begin, bs_X11_next, bs_X11_isWord, bs_X11_isSign, bs_X11_must, bs_X11_fault, bs_X11_emit, bs_X11_push, bs_X11_binds, bs_X11_settle, bs_X11_inner, bs_X11_isCompared, bs_X11_partAt, bs_X11_openBracket, bs_X11_leaf, bs_X11_readPart, bs_X11_readPlain, bs_X11_behindSum, bs_X11_behindTest, bs_X11_readExpression, bs_X11_readClause]
theorem en_BSc_6 : en_allck 180 en_BS_6 := ⟨Or.inr ck_X11_drop, ⟨Or.inr ck_X11_terms, ⟨Or.inr ck_X11_row, ⟨Or.inr ck_X11_dropped, ⟨Or.inr ck_X11_four, ⟨Or.inr ck_X11_feed, ⟨Or.inr ck_X11_end, ⟨Or.inr ck_X11_isSmall, ⟨Or.inr ck_X11_isDigit, ⟨Or.inr ck_X11_begin, ⟨Or.inr ck_X11_next, ⟨Or.inr ck_X11_isWord, ⟨Or.inr ck_X11_isSign, ⟨Or.inr ck_X11_must, ⟨Or.inr ck_X11_fault, ⟨Or.inr ck_X11_emit, ⟨Or.inr ck_X11_push, ⟨Or.inr ck_X11_binds, ⟨Or.inr ck_X11_settle, ⟨Or.inr ck_X11_inner, ⟨Or.inr ck_X11_isCompared, ⟨Or.inr ck_X11_partAt, ⟨Or.inr ck_X11_openBracket, ⟨Or.inr ck_X11_leaf, ⟨Or.inr ck_X11_readPart, ⟨Or.inr ck_X11_readPlain, ⟨Or.inr ck_X11_behindSum, ⟨Or.inr ck_X11_behindTest, ⟨Or.inr ck_X11_readExpression, ⟨Or.inr ck_X11_readClause, trivial⟩⟩⟩⟩⟩⟩⟩⟩⟩⟩⟩⟩⟩⟩⟩⟩⟩⟩⟩⟩⟩⟩⟩⟩⟩⟩⟩⟩⟩⟩
def en_BS_7 : List en_Bs := [bs_X11_law, bs_X11_force, bs_X11_reckon, bs_X11_reckonAll, bs_X11_isSo, bs_X11_asIs, bs_X11_tells, bs_X11_feeOf, bs_X11_isBarred, bs_X11_findWay, bs_X11_way, bs_X11_areStands, bs_X11_enter, bs_X11_takesPart, bs_X11_canHold, bs_X11_run, bs_X11_first, bs_X11_bring, bs_X11_goOn, bs_X11_runDay, bs_X11_day, bs_X11_isMinute, bs_X11_where, bs_X11_held, bs_X11_isStuck, bs_X11_choke, bs_X11_swapAt, bs_X11_allCome, bs_X11_findSwaps, bs_X11_swaps]
theorem en_BSc_7 : en_allck 210 en_BS_7 := ⟨Or.inr ck_X11_law, ⟨Or.inr ck_X11_force, ⟨Or.inr ck_X11_reckon, ⟨Or.inr ck_X11_reckonAll, ⟨Or.inr ck_X11_isSo, ⟨Or.inr ck_X11_asIs, ⟨Or.inr ck_X11_tells, ⟨Or.inr ck_X11_feeOf, ⟨Or.inr ck_X11_isBarred, ⟨Or.inr ck_X11_findWay, ⟨Or.inr ck_X11_way, ⟨Or.inr ck_X11_areStands, ⟨Or.inr ck_X11_enter, ⟨Or.inr ck_X11_takesPart, ⟨Or.inr ck_X11_canHold, ⟨Or.inr ck_X11_run, ⟨Or.inr ck_X11_first, ⟨Or.inr ck_X11_bring, ⟨Or.inr ck_X11_goOn, ⟨Or.inr ck_X11_runDay, ⟨Or.inr ck_X11_day, ⟨Or.inr ck_X11_isMinute, ⟨Or.inr ck_X11_where, ⟨Or.inr ck_X11_held, ⟨Or.inr ck_X11_isStuck, ⟨Or.inr ck_X11_choke, ⟨Or.inr ck_X11_swapAt, ⟨Or.inr ck_X11_allCome, ⟨Or.inr ck_X11_findSwaps, ⟨Or.inr ck_X11_swaps, trivial⟩⟩⟩⟩⟩⟩⟩⟩⟩⟩⟩⟩⟩⟩⟩⟩⟩⟩⟩⟩⟩⟩⟩⟩⟩⟩⟩⟩⟩⟩
def en_BS_8 : List en_Bs := [bs_X11_swap, bs_X11_nobodyOut, bs_X11_home, bs_X11_costOf, bs_X11_cost, bs_X11_isSent, bs_X11_sent, bs_X11_incomeOf, bs_X11_income, bs_X11_answerOf, bs_X11_answer, bs_X11_restless, bs_X11_rests, bs_X11_pieces, bs_X11_sign, bs_X11_clear, bs_X11_after, bs_X11_thieves, bs_X11_meet, bs_X11_draw3, bs_X11_byNoon, bs_X11_draw, bs_X11_drawn, bs_X11_count, bs_X11_status, bs_J6_bitCount_0f7a4, bs_J7_fill_53178]
theorem en_BSc_8 : en_allck 240 en_BS_8 := ⟨Or.inr ck_X11_swap, ⟨Or.inr ck_X11_nobodyOut, ⟨Or.inr ck_X11_home, ⟨Or.inr ck_X11_costOf, ⟨Or.inr ck_X11_cost, ⟨Or.inr ck_X11_isSent, ⟨Or.inr ck_X11_sent, ⟨Or.inr ck_X11_incomeOf, ⟨Or.inr ck_X11_income, ⟨Or.inr ck_X11_answerOf, ⟨Or.inr ck_X11_answer, ⟨Or.inr ck_X11_restless, ⟨Or.inr ck_X11_rests, ⟨Or.inr ck_X11_pieces, ⟨Or.inr ck_X11_sign, ⟨Or.inr ck_X11_clear, ⟨Or.inr ck_X11_after, ⟨Or.inr ck_X11_thieves, ⟨Or.inr ck_X11_meet, ⟨Or.inr ck_X11_draw3, ⟨Or.inr ck_X11_byNoon, ⟨Or.inr ck_X11_draw, ⟨Or.inr ck_X11_drawn, ⟨Or.inr ck_X11_count, ⟨Or.inr ck_X11_status, ⟨Or.inr ck_J6_bitCount_0f7a4, ⟨Or.inr ck_J7_fill_53178, trivial⟩⟩⟩⟩⟩⟩⟩⟩⟩⟩⟩⟩⟩⟩⟩⟩⟩⟩⟩⟩⟩⟩⟩⟩⟩⟩⟩
def en_BS : List en_Bs := en_BS_0 ++ (en_BS_1 ++ (en_BS_2 ++ (en_BS_3 ++ (en_BS_4 ++ (en_BS_5 ++ (en_BS_6 ++ (en_BS_7 ++ (en_BS_8))))))))
theorem en_BSc : en_allck 0 en_BS := en_allck_app _ _ _ en_BSc_0 (en_allck_app _ _ _ en_BSc_1 (en_allck_app _ _ _ en_BSc_2 (en_allck_app _ _ _ en_BSc_3 (en_allck_app _ _ _ en_BSc_4 (en_allck_app _ _ _ en_BSc_5 (en_allck_app _ _ _ en_BSc_6 (en_allck_app _ _ _ en_BSc_7 (en_BSc_8))))))))
theorem en_HBall : en_HB en_BS := by
  intro i J bs hJ hbs hne
  have h1 := en_allck_at en_BSc hbs
  rw [Nat.zero_add] at h1
  rcases h1 with h1 | h1
  · exact absurd h1 hne
  · simp only [en_ck, hJ] at h1
    cases hq : en_ps[i]? with
    | none => rw [hq] at h1; cases h1
    | some q =>
      rw [hq] at h1
      simp only [Bool.and_eq_true] at h1
      exact ⟨⟨q, h1.1⟩, h1.2⟩
end
section
/-! ===== runs of the engine, row by row ===== -/
theorem en_go_up {IS : List en_I} {BS : List en_Bs} {cf cf' : Nat → List Value → en_H → Option (Option Value × en_H)} {xs : Option (List Int32)} {ret : Option FieldType} {bs : en_Bs} (hcf : ∀ i as h w, cf i as h = some w → cf' i as h = some w) : ∀ {f f' : Nat} {c : en_C} {w : Option Value × en_H}, f ≤ f' → en_go IS BS cf xs ret bs f c = some w → en_go IS BS cf' xs ret bs f' c = some w
  | 0, f', c, w, hf, hs => by cases hs
  | f + 1, 0, c, w, hf, hs => absurd hf (by omega)
  | f + 1, f' + 1, c, w, hf, hs => by
    unfold en_go at hs ⊢
    cases hl : en_lk c.1 bs with
    | none => rw [hl] at hs; cases hs
    | some ops =>
      rw [hl] at hs
      dsimp only at hs ⊢
      cases hr : en_rb xs ret ops c with
      | none => rw [hr] at hs; cases hs
      | some x =>
        rw [hr] at hs
        rcases x with c' | ⟨op, c'⟩ | w'
        · dsimp only at hs ⊢
          exact en_go_up hcf (by omega) hs
        · dsimp only at hs ⊢
          cases hq : en_take op c'.2.2.1 with
          | none => rw [hq] at hs; cases hs
          | some q =>
            rw [hq] at hs
            dsimp only at hs ⊢
            cases hw : cf op.2.2.1 q.1 c'.2.2.2 with
            | none => rw [hw] at hs; cases hs
            | some w1 =>
              rw [hw] at hs
              rw [hcf _ _ _ _ hw]
              dsimp only at hs ⊢
              exact en_go_up hcf (by omega) hs
        · exact hs
theorem en_run_up {IS : List en_I} {BS : List en_Bs} {F F' : Nat} (hF : F ≤ F') : ∀ {d i : Nat} {as : List Value} {h : en_H} {w : Option Value × en_H}, en_run IS BS d F i as h = some w → en_run IS BS d F' i as h = some w
  | 0, i, as, h, w, hs => by cases hs
  | d + 1, i, as, h, w, hs => by
    unfold en_run at hs ⊢
    cases hJ : IS[i]? with
    | none => rw [hJ] at hs; cases hs
    | some J =>
      cases hb : BS[i]? with
      | none => rw [hJ, hb] at hs; cases hs
      | some bs =>
        rw [hJ, hb] at hs
        dsimp only at hs ⊢
        split at hs
        · rename_i hc
          rw [if_pos hc]
          exact en_go_up (fun i as h w hw => en_run_up hF hw) hF hs
        · cases hs
def At (d : Nat) (xs : Option (List Int32)) (ret : Option FieldType) (bs : en_Bs) (c : en_C) (Ph : Option Value → en_H → Prop) : Prop := ∃ (F f : Nat) (w : Option Value × en_H), en_go en_IS en_BS (en_run en_IS en_BS d F) xs ret bs f c = some w ∧ Ph w.1 w.2
def Ev (d i : Nat) (as : List Value) (h : en_H) (Ph : Option Value → en_H → Prop) : Prop := ∃ (F : Nat) (w : Option Value × en_H), en_run en_IS en_BS d F i as h = some w ∧ Ph w.1 w.2
section PR
variable {d i : Nat} {xs : Option (List Int32)} {rt : Option FieldType} {bs : en_Bs} {c c' : en_C} {Ph Ps : Option Value → en_H → Prop} {ops : List en_Op} {as : List Value} {h : en_H}
theorem At.go (hl : en_lk c.1 bs = some ops) (hb : en_rb xs rt ops c = some (.inl c')) (k : At d xs rt bs c' Ph) : At d xs rt bs c Ph := by
  obtain ⟨F, f, w, h1, h2⟩ := k
  refine ⟨F, f + 1, w, ?_, h2⟩
  unfold en_go
  rw [hl]
  dsimp only
  rw [hb]
  exact h1
theorem At.rtn {w : Option Value × en_H} (hl : en_lk c.1 bs = some ops) (hb : en_rb xs rt ops c = some (.inr (.inr w))) (k : Ph w.1 w.2) : At d xs rt bs c Ph := by
  refine ⟨0, 1, w, ?_, k⟩
  unfold en_go
  rw [hl]
  dsimp only
  rw [hb]
theorem At.call {op : en_Op} {q : List Value × List Value} (hl : en_lk c.1 bs = some ops) (hb : en_rb xs rt ops c = some (.inr (.inl (op, c')))) (hq : en_take op c'.2.2.1 = some q) (hE : Ev d op.2.2.1 q.1 c'.2.2.2 Ps) (k : ∀ (r : Option Value) (h' : en_H), Ps r h' → At d xs rt bs (c'.1 + 3, c'.2.1, r.toList ++ q.2, h') Ph) : At d xs rt bs c Ph := by
  obtain ⟨F1, w1, e1, p1⟩ := hE
  obtain ⟨F2, f2, w2, e2, p2⟩ := k w1.1 w1.2 p1
  refine ⟨max F1 F2, f2 + 1, w2, ?_, p2⟩
  unfold en_go
  rw [hl]
  dsimp only
  rw [hb]
  dsimp only
  rw [hq]
  dsimp only
  rw [en_run_up (Nat.le_max_left F1 F2) e1]
  exact en_go_up (fun i as h w hw => en_run_up (Nat.le_max_right F1 F2) hw) (Nat.le_refl _) e2
theorem At.bif {b : Bool} {t f : Nat} {l : en_L} {st : List Value} (k1 : b = true → At d xs rt bs (t, l, st, h) Ph) (k2 : b = false → At d xs rt bs (f, l, st, h) Ph) : At d xs rt bs (bif b then t else f, l, st, h) Ph := by
  cases b with
  | true => exact k1 rfl
  | false => exact k2 rfl
theorem At.imp (k : At d xs rt bs c Ps) (hi : ∀ r h, Ps r h → Ph r h) : At d xs rt bs c Ph := by
  obtain ⟨F, f, w, h1, h2⟩ := k
  exact ⟨F, f, w, h1, hi _ _ h2⟩
theorem Ev.imp (k : Ev d i as h Ps) (hi : ∀ r h, Ps r h → Ph r h) : Ev d i as h Ph := by
  obtain ⟨F, w, h1, h2⟩ := k
  exact ⟨F, w, h1, hi _ _ h2⟩
theorem Ev.mk {J : en_I} (hJ : en_IS[i]? = some J) (hbs : en_BS[i]? = some bs) (hc : (lg_sl as).length ≤ J.2.2.1 ∧ (J.2.2.2.2.2 = 1 ∨ en_rc J as h = true)) (k : At d none J.2.2.2.1 bs (0, lv_args 0 as, [], h) Ph) : Ev (d + 1) i as h Ph := by
  obtain ⟨F, f, w, h1, h2⟩ := k
  refine ⟨max F f, w, ?_, h2⟩
  unfold en_run
  rw [hJ, hbs]
  dsimp only
  rw [if_pos hc]
  exact en_go_up (fun i as h w hw => en_run_up (Nat.le_max_left F f) hw) (Nat.le_max_right F f) h1
/-- a run that a program has done -/
theorem Ev.run (F : Nat) {P : Option Value → en_H → Bool} (hr : (match en_run en_IS en_BS d F i as h with | some w => P w.1 w.2 | none => false) = true) : Ev d i as h (fun r h' => P r h' = true) := by
  cases hw : en_run en_IS en_BS d F i as h with
  | none => rw [hw] at hr; cases hr
  | some w =>
    rw [hw] at hr
    exact ⟨F, w, hw, hr⟩
end PR
/-! ===== what a branch tells ===== -/
theorem en_k_eq_t {x : Int32} (h : en_c1 .eq x = true) : x.toInt = 0 := by
  have h2 : x = 0 := of_decide_eq_true h
  rw [h2]; rfl
theorem en_k_eq_f {x : Int32} (h : en_c1 .eq x = false) : x.toInt ≠ 0 := by
  have h2 : ¬ x = 0 := of_decide_eq_false h
  exact fun q => h2 (Int32.toInt_inj.mp q)
theorem en_k_ne_t {x : Int32} (h : en_c1 .ne x = true) : x.toInt ≠ 0 := by
  have h2 : ¬ x = 0 := of_decide_eq_true h
  exact fun q => h2 (Int32.toInt_inj.mp q)
theorem en_k_ne_f {x : Int32} (h : en_c1 .ne x = false) : x.toInt = 0 := by
  have h2 : ¬ ¬ x = 0 := of_decide_eq_false h
  rw [Decidable.of_not_not h2]; rfl
theorem en_k_lt_t {x : Int32} (h : en_c1 .lt x = true) : x.toInt < 0 := Int32.lt_iff_toInt_lt.mp (of_decide_eq_true h)
theorem en_k_lt_f {x : Int32} (h : en_c1 .lt x = false) : x.toInt ≥ 0 := by
  have h2 : ¬ x < 0 := of_decide_eq_false h
  exact Int.not_lt.mp (fun q => h2 (Int32.lt_iff_toInt_lt.mpr q))
theorem en_k_ge_t {x : Int32} (h : en_c1 .ge x = true) : x.toInt ≥ 0 := Int32.le_iff_toInt_le.mp (of_decide_eq_true h)
theorem en_k_ge_f {x : Int32} (h : en_c1 .ge x = false) : x.toInt < 0 := by
  have h2 : ¬ 0 ≤ x := of_decide_eq_false h
  exact Int.not_le.mp (fun q => h2 (Int32.le_iff_toInt_le.mpr q))
theorem en_k_gt_t {x : Int32} (h : en_c1 .gt x = true) : x.toInt > 0 := Int32.lt_iff_toInt_lt.mp (of_decide_eq_true h)
theorem en_k_gt_f {x : Int32} (h : en_c1 .gt x = false) : x.toInt ≤ 0 := by
  have h2 : ¬ 0 < x := of_decide_eq_false h
  exact Int.not_lt.mp (fun q => h2 (Int32.lt_iff_toInt_lt.mpr q))
theorem en_k_le_t {x : Int32} (h : en_c1 .le x = true) : x.toInt ≤ 0 := Int32.le_iff_toInt_le.mp (of_decide_eq_true h)
theorem en_k_le_f {x : Int32} (h : en_c1 .le x = false) : x.toInt > 0 := by
  have h2 : ¬ x ≤ 0 := of_decide_eq_false h
  exact Int.not_le.mp (fun q => h2 (Int32.le_iff_toInt_le.mpr q))
theorem en_i_eq_t {x y : Int32} (h : en_c2 .eq x y = true) : x.toInt = y.toInt := by
  have h2 : x = y := of_decide_eq_true h
  rw [h2]
theorem en_i_eq_f {x y : Int32} (h : en_c2 .eq x y = false) : x.toInt ≠ y.toInt := by
  have h2 : ¬ x = y := of_decide_eq_false h
  exact fun q => h2 (Int32.toInt_inj.mp q)
theorem en_i_ne_t {x y : Int32} (h : en_c2 .ne x y = true) : x.toInt ≠ y.toInt := by
  have h2 : ¬ x = y := of_decide_eq_true h
  exact fun q => h2 (Int32.toInt_inj.mp q)
theorem en_i_ne_f {x y : Int32} (h : en_c2 .ne x y = false) : x.toInt = y.toInt := by
  have h2 : ¬ ¬ x = y := of_decide_eq_false h
  rw [Decidable.of_not_not h2]
theorem en_i_lt_t {x y : Int32} (h : en_c2 .lt x y = true) : x.toInt < y.toInt := Int32.lt_iff_toInt_lt.mp (of_decide_eq_true h)
theorem en_i_lt_f {x y : Int32} (h : en_c2 .lt x y = false) : x.toInt ≥ y.toInt := by
  have h2 : ¬ x < y := of_decide_eq_false h
  exact Int.not_lt.mp (fun q => h2 (Int32.lt_iff_toInt_lt.mpr q))
theorem en_i_ge_t {x y : Int32} (h : en_c2 .ge x y = true) : x.toInt ≥ y.toInt := Int32.le_iff_toInt_le.mp (of_decide_eq_true h)
theorem en_i_ge_f {x y : Int32} (h : en_c2 .ge x y = false) : x.toInt < y.toInt := by
  have h2 : ¬ y ≤ x := of_decide_eq_false h
  exact Int.not_le.mp (fun q => h2 (Int32.le_iff_toInt_le.mpr q))
theorem en_i_gt_t {x y : Int32} (h : en_c2 .gt x y = true) : x.toInt > y.toInt := Int32.lt_iff_toInt_lt.mp (of_decide_eq_true h)
theorem en_i_gt_f {x y : Int32} (h : en_c2 .gt x y = false) : x.toInt ≤ y.toInt := by
  have h2 : ¬ y < x := of_decide_eq_false h
  exact Int.not_lt.mp (fun q => h2 (Int32.lt_iff_toInt_lt.mpr q))
theorem en_i_le_t {x y : Int32} (h : en_c2 .le x y = true) : x.toInt ≤ y.toInt := Int32.le_iff_toInt_le.mp (of_decide_eq_true h)
theorem en_i_le_f {x y : Int32} (h : en_c2 .le x y = false) : x.toInt > y.toInt := by
  have h2 : ¬ x ≤ y := of_decide_eq_false h
  exact Int.not_le.mp (fun q => h2 (Int32.le_iff_toInt_le.mpr q))
theorem en_cmp0 (x y : Int64) : (lg_cmp x y).toInt = if x.toInt < y.toInt then -1 else if y.toInt < x.toInt then 1 else 0 := by
  rcases lg_tri x y with h | h | h
  · have e : lg_cmp x y < 0 := (lg_cmp_lt x y).mpr h
    have h1 := Int64.lt_iff_toInt_lt.mp h
    rw [if_pos h1]
    have e2 : lg_cmp x y = -1 := by simp [lg_cmp, lg_lt_not h, lg_lt_ne h]
    rw [e2]; rfl
  · subst h
    rw [if_neg (Int.lt_irrefl _), if_neg (Int.lt_irrefl _)]
    have e2 : lg_cmp x x = 0 := (lg_cmp_eq x x).mpr rfl
    rw [e2]; rfl
  · have h1 := Int64.lt_iff_toInt_lt.mp h
    rw [if_neg (by omega), if_pos h1]
    have e2 : lg_cmp x y = 1 := by simp [lg_cmp, h]
    rw [e2]; rfl
theorem en_j_eq_t {x y : Int64} (h : en_c1 .eq (lg_cmp x y) = true) : x.toInt = y.toInt := by
  have h1 := en_k_eq_t h
  rw [en_cmp0] at h1
  split at h1 <;> (try split at h1) <;> omega
theorem en_j_eq_f {x y : Int64} (h : en_c1 .eq (lg_cmp x y) = false) : x.toInt ≠ y.toInt := by
  have h1 := en_k_eq_f h
  rw [en_cmp0] at h1
  split at h1 <;> (try split at h1) <;> omega
theorem en_j_ne_t {x y : Int64} (h : en_c1 .ne (lg_cmp x y) = true) : x.toInt ≠ y.toInt := by
  have h1 := en_k_ne_t h
  rw [en_cmp0] at h1
  split at h1 <;> (try split at h1) <;> omega
theorem en_j_ne_f {x y : Int64} (h : en_c1 .ne (lg_cmp x y) = false) : x.toInt = y.toInt := by
  have h1 := en_k_ne_f h
  rw [en_cmp0] at h1
  split at h1 <;> (try split at h1) <;> omega
theorem en_j_lt_t {x y : Int64} (h : en_c1 .lt (lg_cmp x y) = true) : x.toInt < y.toInt := by
  have h1 := en_k_lt_t h
  rw [en_cmp0] at h1
  split at h1 <;> (try split at h1) <;> omega
theorem en_j_lt_f {x y : Int64} (h : en_c1 .lt (lg_cmp x y) = false) : x.toInt ≥ y.toInt := by
  have h1 := en_k_lt_f h
  rw [en_cmp0] at h1
  split at h1 <;> (try split at h1) <;> omega
theorem en_j_ge_t {x y : Int64} (h : en_c1 .ge (lg_cmp x y) = true) : x.toInt ≥ y.toInt := by
  have h1 := en_k_ge_t h
  rw [en_cmp0] at h1
  split at h1 <;> (try split at h1) <;> omega
theorem en_j_ge_f {x y : Int64} (h : en_c1 .ge (lg_cmp x y) = false) : x.toInt < y.toInt := by
  have h1 := en_k_ge_f h
  rw [en_cmp0] at h1
  split at h1 <;> (try split at h1) <;> omega
theorem en_j_gt_t {x y : Int64} (h : en_c1 .gt (lg_cmp x y) = true) : x.toInt > y.toInt := by
  have h1 := en_k_gt_t h
  rw [en_cmp0] at h1
  split at h1 <;> (try split at h1) <;> omega
theorem en_j_gt_f {x y : Int64} (h : en_c1 .gt (lg_cmp x y) = false) : x.toInt ≤ y.toInt := by
  have h1 := en_k_gt_f h
  rw [en_cmp0] at h1
  split at h1 <;> (try split at h1) <;> omega
theorem en_j_le_t {x y : Int64} (h : en_c1 .le (lg_cmp x y) = true) : x.toInt ≤ y.toInt := by
  have h1 := en_k_le_t h
  rw [en_cmp0] at h1
  split at h1 <;> (try split at h1) <;> omega
theorem en_j_le_f {x y : Int64} (h : en_c1 .le (lg_cmp x y) = false) : x.toInt > y.toInt := by
  have h1 := en_k_le_f h
  rw [en_cmp0] at h1
  split at h1 <;> (try split at h1) <;> omega
end
section
/-! ===== rows of runs, an instruction each ===== -/
def en_gr (IS : List en_I) (BS : List en_Bs) (cf : Nat → List Value → en_H → Option (Option Value × en_H)) (xs : Option (List Int32)) (rt : Option FieldType) (bs : en_Bs) (ops : List en_Op) (f : Nat) (c : en_C) : Option (Option Value × en_H) := match en_rb xs rt ops c with
  | none => none
  | some (.inl c') => en_go IS BS cf xs rt bs f c'
  | some (.inr (.inl (op, c'))) => match en_take op c'.2.2.1 with
    | none => none
    | some q => match cf op.2.2.1 q.1 c'.2.2.2 with
      | none => none
      | some w => en_go IS BS cf xs rt bs f (c'.1 + 3, c'.2.1, w.1.toList ++ q.2, w.2)
  | some (.inr (.inr w)) => some w
/-- behind the instructions ahead in a block -/
def Ar (d : Nat) (xs : Option (List Int32)) (rt : Option FieldType) (bs : en_Bs) (ops : List en_Op) (c : en_C) (Ph : Option Value → en_H → Prop) : Prop := ∃ (F f : Nat) (w : Option Value × en_H), en_gr en_IS en_BS (en_run en_IS en_BS d F) xs rt bs ops f c = some w ∧ Ph w.1 w.2
section RW
variable {d : Nat} {xs : Option (List Int32)} {rt : Option FieldType} {bs : en_Bs} {r : List en_Op} {n a b c pc : Nat} {l : en_L} {st : List Value} {h : en_H} {Ph : Option Value → en_H → Prop}
theorem At.enter {ops : List en_Op} (hl : en_lk pc bs = some ops) (k : Ar d xs rt bs ops (pc, l, st, h) Ph) : At d xs rt bs (pc, l, st, h) Ph := by
  obtain ⟨F, f, w, h1, h2⟩ := k
  refine ⟨F, f + 1, w, ?_, h2⟩
  unfold en_go
  dsimp only
  rw [hl]
  exact h1
theorem Ar.fall (pc' : Nat) (hp : pc = pc') (k : At d xs rt bs (pc', l, st, h) Ph) : Ar d xs rt bs [] (pc, l, st, h) Ph := by
  subst hp
  obtain ⟨F, f, w, h1, h2⟩ := k
  exact ⟨F, f, w, h1, h2⟩
theorem Ar.plain {i : Instr} {q : en_L × List Value × en_H} (hc : en_ctl rt (i, n, a, b, c) pc l st h = none) (hs : en_st xs i a b l st h = some q) (k : Ar d xs rt bs r (pc + n, q.1, q.2.1, q.2.2) Ph) : Ar d xs rt bs ((i, n, a, b, c) :: r) (pc, l, st, h) Ph := by
  obtain ⟨F, f, w, h1, h2⟩ := k
  refine ⟨F, f, w, ?_, h2⟩
  unfold en_gr at h1 ⊢
  unfold en_rb
  dsimp only
  rw [hc]
  dsimp only
  rw [hs]
  exact h1
theorem Ar.jump {i : Instr} {c' : en_C} (hc : en_ctl rt (i, n, a, b, c) pc l st h = some (some (.inl c'))) (k : At d xs rt bs c' Ph) : Ar d xs rt bs ((i, n, a, b, c) :: r) (pc, l, st, h) Ph := by
  obtain ⟨F, f, w, h1, h2⟩ := k
  refine ⟨F, f, w, ?_, h2⟩
  unfold en_gr
  unfold en_rb
  dsimp only
  rw [hc]
  exact h1
theorem Ar.leave {i : Instr} {w : Option Value × en_H} (hc : en_ctl rt (i, n, a, b, c) pc l st h = some (some (.inr (.inr w)))) (k : Ph w.1 w.2) : Ar d xs rt bs ((i, n, a, b, c) :: r) (pc, l, st, h) Ph := by
  refine ⟨0, 0, w, ?_, k⟩
  unfold en_gr
  unfold en_rb
  dsimp only
  rw [hc]
theorem Ar.callK {i : Instr} {Ps : Option Value → en_H → Prop} (pc' : Nat) (hp : pc + 3 = pc') (as rest : List Value) (hc : en_ctl rt (i, n, a, b, c) pc l st h = some (some (.inr (.inl ((i, n, a, b, c), pc, l, st, h))))) (hq : en_take (i, n, a, b, c) st = some (as, rest)) (hE : Ev d a as h Ps) (k : ∀ (v : Option Value) (h' : en_H), Ps v h' → At d xs rt bs (pc', l, v.toList ++ rest, h') Ph) : Ar d xs rt bs ((i, n, a, b, c) :: r) (pc, l, st, h) Ph := by
  subst hp
  obtain ⟨F1, w1, e1, p1⟩ := hE
  obtain ⟨F2, f2, w2, e2, p2⟩ := k w1.1 w1.2 p1
  refine ⟨max F1 F2, f2, w2, ?_, p2⟩
  unfold en_gr
  unfold en_rb
  dsimp only
  rw [hc]
  dsimp only
  rw [hq]
  dsimp only
  rw [en_run_up (Nat.le_max_left F1 F2) e1]
  exact en_go_up (fun i as h w hw => en_run_up (Nat.le_max_right F1 F2) hw) (Nat.le_refl _) e2
theorem r_iconst {z : Int} (v : Int32) (hv : Int32.ofInt z = v) (k : Ar d xs rt bs r (pc + n, l, .int v :: st, h) Ph) : Ar d xs rt bs ((.iconst z, n, a, b, c) :: r) (pc, l, st, h) Ph := by subst hv; exact Ar.plain (q := (l, .int _ :: st, h)) rfl rfl k
theorem r_bipush {z : Int} (v : Int32) (hv : (Int8.ofInt z).toInt32 = v) (k : Ar d xs rt bs r (pc + n, l, .int v :: st, h) Ph) : Ar d xs rt bs ((.bipush z, n, a, b, c) :: r) (pc, l, st, h) Ph := by subst hv; exact Ar.plain (q := (l, .int _ :: st, h)) rfl rfl k
theorem r_sipush {z : Int} (v : Int32) (hv : (Int16.ofInt z).toInt32 = v) (k : Ar d xs rt bs r (pc + n, l, .int v :: st, h) Ph) : Ar d xs rt bs ((.sipush z, n, a, b, c) :: r) (pc, l, st, h) Ph := by subst hv; exact Ar.plain (q := (l, .int _ :: st, h)) rfl rfl k
theorem r_lconst {z : Fin 2} (v : Int64) (hv : Int64.ofNat z.val = v) (k : Ar d xs rt bs r (pc + n, l, .long v :: st, h) Ph) : Ar d xs rt bs ((.lconst z, n, a, b, c) :: r) (pc, l, st, h) Ph := by subst hv; exact Ar.plain (q := (l, .long _ :: st, h)) rfl rfl k
theorem r_null  (k : Ar d xs rt bs r (pc + n, l, .null :: st, h) Ph) : Ar d xs rt bs ((.aconst_null, n, a, b, c) :: r) (pc, l, st, h) Ph := Ar.plain (q := (l, .null :: st, h)) rfl rfl k
theorem r_ldcS {z : Nat} (ha : a ≠ 1) (v : UInt32) (hv : UInt32.ofNat (b + 1) = v) (k : Ar d xs rt bs r (pc + n, l, .float v :: st, h) Ph) : Ar d xs rt bs ((.ldc z, n, a, b, c) :: r) (pc, l, st, h) Ph := by subst hv; exact Ar.plain (q := (l, .float _ :: st, h)) rfl (by simp only [en_st]; rw [if_neg ha]) k
theorem r_ldcI {z : Nat} (ha : a = 1) (v : Int32) (hv : Int32.ofNat b = v) (k : Ar d xs rt bs r (pc + n, l, .int v :: st, h) Ph) : Ar d xs rt bs ((.ldc z, n, a, b, c) :: r) (pc, l, st, h) Ph := by subst hv; exact Ar.plain (q := (l, .int _ :: st, h)) rfl (by simp only [en_st]; rw [if_pos ha]) k
theorem r_ldcw {z : Nat} (v : Int32) (hv : Int32.ofNat b = v) (k : Ar d xs rt bs r (pc + n, l, .int v :: st, h) Ph) : Ar d xs rt bs ((.ldc_w z, n, a, b, c) :: r) (pc, l, st, h) Ph := by subst hv; exact Ar.plain (q := (l, .int _ :: st, h)) rfl rfl k
theorem r_ldc2 {z : Nat} (v : Int64) (hv : Int64.ofNat b = v) (k : Ar d xs rt bs r (pc + n, l, .long v :: st, h) Ph) : Ar d xs rt bs ((.ldc2_w z, n, a, b, c) :: r) (pc, l, st, h) Ph := by subst hv; exact Ar.plain (q := (l, .long _ :: st, h)) rfl rfl k
theorem r_iload_n {z : Fin 4} {v : Int32} (hg : en_get z.val l = some (.int v)) (k : Ar d xs rt bs r (pc + n, l, .int v :: st, h) Ph) : Ar d xs rt bs ((.iload_n z, n, a, b, c) :: r) (pc, l, st, h) Ph := Ar.plain (q := (l, .int v :: st, h)) rfl (by show en_ldi z.val l st h = _; unfold en_ldi; rw [hg]) k
theorem r_iload {z : Nat} {v : Int32} (hg : en_get z l = some (.int v)) (k : Ar d xs rt bs r (pc + n, l, .int v :: st, h) Ph) : Ar d xs rt bs ((.iload z, n, a, b, c) :: r) (pc, l, st, h) Ph := Ar.plain (q := (l, .int v :: st, h)) rfl (by show en_ldi z l st h = _; unfold en_ldi; rw [hg]) k
theorem r_lload_n {z : Fin 4} {v : Int64} (hg : en_get z.val l = some (.long v)) (k : Ar d xs rt bs r (pc + n, l, .long v :: st, h) Ph) : Ar d xs rt bs ((.lload_n z, n, a, b, c) :: r) (pc, l, st, h) Ph := Ar.plain (q := (l, .long v :: st, h)) rfl (by show en_ldl z.val l st h = _; unfold en_ldl; rw [hg]) k
theorem r_lload {z : Nat} {v : Int64} (hg : en_get z l = some (.long v)) (k : Ar d xs rt bs r (pc + n, l, .long v :: st, h) Ph) : Ar d xs rt bs ((.lload z, n, a, b, c) :: r) (pc, l, st, h) Ph := Ar.plain (q := (l, .long v :: st, h)) rfl (by show en_ldl z l st h = _; unfold en_ldl; rw [hg]) k
theorem r_aload_n {z : Fin 4} {v : Nat} (hg : en_get z.val l = some (.ref v)) (k : Ar d xs rt bs r (pc + n, l, .ref v :: st, h) Ph) : Ar d xs rt bs ((.aload_n z, n, a, b, c) :: r) (pc, l, st, h) Ph := Ar.plain (q := (l, .ref v :: st, h)) rfl (by show en_lda z.val l st h = _; unfold en_lda; rw [hg]) k
theorem r_aload {z : Nat} {v : Nat} (hg : en_get z l = some (.ref v)) (k : Ar d xs rt bs r (pc + n, l, .ref v :: st, h) Ph) : Ar d xs rt bs ((.aload z, n, a, b, c) :: r) (pc, l, st, h) Ph := Ar.plain (q := (l, .ref v :: st, h)) rfl (by show en_lda z l st h = _; unfold en_lda; rw [hg]) k
theorem r_sload_n {z : Fin 4} {v : UInt32} (hg : en_get z.val l = some (.float v)) (k : Ar d xs rt bs r (pc + n, l, .float v :: st, h) Ph) : Ar d xs rt bs ((.aload_n z, n, a, b, c) :: r) (pc, l, st, h) Ph := Ar.plain (q := (l, .float v :: st, h)) rfl (by show en_lda z.val l st h = _; unfold en_lda; rw [hg]) k
theorem r_sload {z : Nat} {v : UInt32} (hg : en_get z l = some (.float v)) (k : Ar d xs rt bs r (pc + n, l, .float v :: st, h) Ph) : Ar d xs rt bs ((.aload z, n, a, b, c) :: r) (pc, l, st, h) Ph := Ar.plain (q := (l, .float v :: st, h)) rfl (by show en_lda z l st h = _; unfold en_lda; rw [hg]) k
theorem r_zload_n {z : Fin 4}  (hg : en_get z.val l = some (.null)) (k : Ar d xs rt bs r (pc + n, l, .null :: st, h) Ph) : Ar d xs rt bs ((.aload_n z, n, a, b, c) :: r) (pc, l, st, h) Ph := Ar.plain (q := (l, .null :: st, h)) rfl (by show en_lda z.val l st h = _; unfold en_lda; rw [hg]) k
theorem r_zload {z : Nat}  (hg : en_get z l = some (.null)) (k : Ar d xs rt bs r (pc + n, l, .null :: st, h) Ph) : Ar d xs rt bs ((.aload z, n, a, b, c) :: r) (pc, l, st, h) Ph := Ar.plain (q := (l, .null :: st, h)) rfl (by show en_lda z l st h = _; unfold en_lda; rw [hg]) k
theorem r_istore_n {z : Fin 4} {v : Int32} (l' : en_L) (hl : en_put1 z.val (.int v) l = l') (k : Ar d xs rt bs r (pc + n, l', st, h) Ph) : Ar d xs rt bs ((.istore_n z, n, a, b, c) :: r) (pc, l, (.int v :: st), h) Ph := by subst hl; exact Ar.plain (q := (_, st, h)) rfl rfl k
theorem r_istore {z : Nat} {v : Int32} (l' : en_L) (hl : en_put1 z (.int v) l = l') (k : Ar d xs rt bs r (pc + n, l', st, h) Ph) : Ar d xs rt bs ((.istore z, n, a, b, c) :: r) (pc, l, (.int v :: st), h) Ph := by subst hl; exact Ar.plain (q := (_, st, h)) rfl rfl k
theorem r_lstore_n {z : Fin 4} {v : Int64} (l' : en_L) (hl : en_put2 z.val (.long v) l = l') (k : Ar d xs rt bs r (pc + n, l', st, h) Ph) : Ar d xs rt bs ((.lstore_n z, n, a, b, c) :: r) (pc, l, (.long v :: st), h) Ph := by subst hl; exact Ar.plain (q := (_, st, h)) rfl rfl k
theorem r_lstore {z : Nat} {v : Int64} (l' : en_L) (hl : en_put2 z (.long v) l = l') (k : Ar d xs rt bs r (pc + n, l', st, h) Ph) : Ar d xs rt bs ((.lstore z, n, a, b, c) :: r) (pc, l, (.long v :: st), h) Ph := by subst hl; exact Ar.plain (q := (_, st, h)) rfl rfl k
theorem r_astore_n {z : Fin 4} {v : Nat} (l' : en_L) (hl : en_put1 z.val (.ref v) l = l') (k : Ar d xs rt bs r (pc + n, l', st, h) Ph) : Ar d xs rt bs ((.astore_n z, n, a, b, c) :: r) (pc, l, (.ref v :: st), h) Ph := by subst hl; exact Ar.plain (q := (_, st, h)) rfl rfl k
theorem r_astore {z : Nat} {v : Nat} (l' : en_L) (hl : en_put1 z (.ref v) l = l') (k : Ar d xs rt bs r (pc + n, l', st, h) Ph) : Ar d xs rt bs ((.astore z, n, a, b, c) :: r) (pc, l, (.ref v :: st), h) Ph := by subst hl; exact Ar.plain (q := (_, st, h)) rfl rfl k
theorem r_zstore_n {z : Fin 4} (l' : en_L) (hl : en_put1 z.val .null l = l') (k : Ar d xs rt bs r (pc + n, l', st, h) Ph) : Ar d xs rt bs ((.astore_n z, n, a, b, c) :: r) (pc, l, (.null :: st), h) Ph := by subst hl; exact Ar.plain (q := (_, st, h)) rfl rfl k
theorem r_zstore {z : Nat} (l' : en_L) (hl : en_put1 z .null l = l') (k : Ar d xs rt bs r (pc + n, l', st, h) Ph) : Ar d xs rt bs ((.astore z, n, a, b, c) :: r) (pc, l, (.null :: st), h) Ph := by subst hl; exact Ar.plain (q := (_, st, h)) rfl rfl k
theorem r_iinc {z : Nat} {m : Int} {x : Int32} (hg : en_get z l = some (.int x)) (v : Int32) (hv : x + Int32.ofInt m = v) (l' : en_L) (hl : en_put1 z (.int v) l = l') (k : Ar d xs rt bs r (pc + n, l', st, h) Ph) : Ar d xs rt bs ((.iinc z m, n, a, b, c) :: r) (pc, l, st, h) Ph := by subst hv; subst hl; exact Ar.plain (q := (_, st, h)) rfl (by simp only [en_st, hg]; rfl) k
theorem r_iadd {x y : Int32} (v : Int32) (hv : x + y = v) (k : Ar d xs rt bs r (pc + n, l, .int v :: st, h) Ph) : Ar d xs rt bs ((.iadd, n, a, b, c) :: r) (pc, l, (.int y :: .int x :: st), h) Ph := by subst hv; exact Ar.plain (q := (l, .int _ :: st, h)) rfl rfl k
theorem r_isub {x y : Int32} (v : Int32) (hv : x - y = v) (k : Ar d xs rt bs r (pc + n, l, .int v :: st, h) Ph) : Ar d xs rt bs ((.isub, n, a, b, c) :: r) (pc, l, (.int y :: .int x :: st), h) Ph := by subst hv; exact Ar.plain (q := (l, .int _ :: st, h)) rfl rfl k
theorem r_imul {x y : Int32} (v : Int32) (hv : x * y = v) (k : Ar d xs rt bs r (pc + n, l, .int v :: st, h) Ph) : Ar d xs rt bs ((.imul, n, a, b, c) :: r) (pc, l, (.int y :: .int x :: st), h) Ph := by subst hv; exact Ar.plain (q := (l, .int _ :: st, h)) rfl rfl k
theorem r_iand {x y : Int32} (v : Int32) (hv : x &&& y = v) (k : Ar d xs rt bs r (pc + n, l, .int v :: st, h) Ph) : Ar d xs rt bs ((.iand, n, a, b, c) :: r) (pc, l, (.int y :: .int x :: st), h) Ph := by subst hv; exact Ar.plain (q := (l, .int _ :: st, h)) rfl rfl k
theorem r_ior {x y : Int32} (v : Int32) (hv : x ||| y = v) (k : Ar d xs rt bs r (pc + n, l, .int v :: st, h) Ph) : Ar d xs rt bs ((.ior, n, a, b, c) :: r) (pc, l, (.int y :: .int x :: st), h) Ph := by subst hv; exact Ar.plain (q := (l, .int _ :: st, h)) rfl rfl k
theorem r_ishl {x y : Int32} (v : Int32) (hv : x <<< (y &&& 31) = v) (k : Ar d xs rt bs r (pc + n, l, .int v :: st, h) Ph) : Ar d xs rt bs ((.ishl, n, a, b, c) :: r) (pc, l, (.int y :: .int x :: st), h) Ph := by subst hv; exact Ar.plain (q := (l, .int _ :: st, h)) rfl rfl k
theorem r_ishr {x y : Int32} (v : Int32) (hv : x >>> (y &&& 31) = v) (k : Ar d xs rt bs r (pc + n, l, .int v :: st, h) Ph) : Ar d xs rt bs ((.ishr, n, a, b, c) :: r) (pc, l, (.int y :: .int x :: st), h) Ph := by subst hv; exact Ar.plain (q := (l, .int _ :: st, h)) rfl rfl k
theorem r_iushr {x y : Int32} (v : Int32) (hv : (x.toUInt32 >>> (y.toUInt32 &&& Int32.toUInt32 31)).toInt32 = v) (k : Ar d xs rt bs r (pc + n, l, .int v :: st, h) Ph) : Ar d xs rt bs ((.iushr, n, a, b, c) :: r) (pc, l, (.int y :: .int x :: st), h) Ph := by subst hv; exact Ar.plain (q := (l, .int _ :: st, h)) rfl rfl k
theorem r_idiv {x y : Int32} (hy : ¬ y = 0) (v : Int32) (hv : x / y = v) (k : Ar d xs rt bs r (pc + n, l, .int v :: st, h) Ph) : Ar d xs rt bs ((.idiv, n, a, b, c) :: r) (pc, l, (.int y :: .int x :: st), h) Ph := by subst hv; exact Ar.plain (q := (l, .int _ :: st, h)) rfl (by simp only [en_st, en_i2d]; rw [if_neg hy]) k
theorem r_irem {x y : Int32} (hy : ¬ y = 0) (v : Int32) (hv : x - x / y * y = v) (k : Ar d xs rt bs r (pc + n, l, .int v :: st, h) Ph) : Ar d xs rt bs ((.irem, n, a, b, c) :: r) (pc, l, (.int y :: .int x :: st), h) Ph := by subst hv; exact Ar.plain (q := (l, .int _ :: st, h)) rfl (by simp only [en_st, en_i2d]; rw [if_neg hy]) k
theorem r_ladd {x y : Int64} (v : Int64) (hv : x + y = v) (k : Ar d xs rt bs r (pc + n, l, .long v :: st, h) Ph) : Ar d xs rt bs ((.ladd, n, a, b, c) :: r) (pc, l, (.long y :: .long x :: st), h) Ph := by subst hv; exact Ar.plain (q := (l, .long _ :: st, h)) rfl rfl k
theorem r_lsub {x y : Int64} (v : Int64) (hv : x - y = v) (k : Ar d xs rt bs r (pc + n, l, .long v :: st, h) Ph) : Ar d xs rt bs ((.lsub, n, a, b, c) :: r) (pc, l, (.long y :: .long x :: st), h) Ph := by subst hv; exact Ar.plain (q := (l, .long _ :: st, h)) rfl rfl k
theorem r_lmul {x y : Int64} (v : Int64) (hv : x * y = v) (k : Ar d xs rt bs r (pc + n, l, .long v :: st, h) Ph) : Ar d xs rt bs ((.lmul, n, a, b, c) :: r) (pc, l, (.long y :: .long x :: st), h) Ph := by subst hv; exact Ar.plain (q := (l, .long _ :: st, h)) rfl rfl k
theorem r_ldiv {x y : Int64} (hy : ¬ y = 0) (v : Int64) (hv : x / y = v) (k : Ar d xs rt bs r (pc + n, l, .long v :: st, h) Ph) : Ar d xs rt bs ((.ldiv, n, a, b, c) :: r) (pc, l, (.long y :: .long x :: st), h) Ph := by subst hv; exact Ar.plain (q := (l, .long _ :: st, h)) rfl (by simp only [en_st, en_l2d]; rw [if_neg hy]) k
theorem r_lrem {x y : Int64} (hy : ¬ y = 0) (v : Int64) (hv : x - x / y * y = v) (k : Ar d xs rt bs r (pc + n, l, .long v :: st, h) Ph) : Ar d xs rt bs ((.lrem, n, a, b, c) :: r) (pc, l, (.long y :: .long x :: st), h) Ph := by subst hv; exact Ar.plain (q := (l, .long _ :: st, h)) rfl (by simp only [en_st, en_l2d]; rw [if_neg hy]) k
theorem r_ineg {x : Int32} (v : Int32) (hv : -x = v) (k : Ar d xs rt bs r (pc + n, l, .int v :: st, h) Ph) : Ar d xs rt bs ((.ineg, n, a, b, c) :: r) (pc, l, (.int x :: st), h) Ph := by subst hv; exact Ar.plain (q := (l, .int _ :: st, h)) rfl rfl k
theorem r_i2l {x : Int32} (v : Int64) (hv : x.toInt64 = v) (k : Ar d xs rt bs r (pc + n, l, .long v :: st, h) Ph) : Ar d xs rt bs ((.i2l, n, a, b, c) :: r) (pc, l, (.int x :: st), h) Ph := by subst hv; exact Ar.plain (q := (l, .long _ :: st, h)) rfl rfl k
theorem r_l2i {x : Int64} (v : Int32) (hv : x.toInt32 = v) (k : Ar d xs rt bs r (pc + n, l, .int v :: st, h) Ph) : Ar d xs rt bs ((.l2i, n, a, b, c) :: r) (pc, l, (.long x :: st), h) Ph := by subst hv; exact Ar.plain (q := (l, .int _ :: st, h)) rfl rfl k
theorem r_lcmp {x y : Int64} (v : Int32) (hv : lg_cmp x y = v) (k : Ar d xs rt bs r (pc + n, l, .int v :: st, h) Ph) : Ar d xs rt bs ((.lcmp, n, a, b, c) :: r) (pc, l, (.long y :: .long x :: st), h) Ph := by subst hv; exact Ar.plain (q := (l, .int _ :: st, h)) rfl rfl k
theorem r_dup {v : Value} (hc : v.category = 1) (k : Ar d xs rt bs r (pc + n, l, v :: v :: st, h) Ph) : Ar d xs rt bs ((.dup, n, a, b, c) :: r) (pc, l, (v :: st), h) Ph := Ar.plain (q := (l, v :: v :: st, h)) rfl (by simp only [en_st]; rw [if_pos hc]) k
theorem r_dup2 {v w : Value} (hc : v.category = 1 ∧ w.category = 1) (k : Ar d xs rt bs r (pc + n, l, v :: w :: v :: w :: st, h) Ph) : Ar d xs rt bs ((.dup2, n, a, b, c) :: r) (pc, l, (v :: w :: st), h) Ph := Ar.plain (q := (l, v :: w :: v :: w :: st, h)) rfl (by simp only [en_st]; rw [if_pos hc]) k
theorem r_pop {v : Value} (hc : v.category = 1) (k : Ar d xs rt bs r (pc + n, l, st, h) Ph) : Ar d xs rt bs ((.pop, n, a, b, c) :: r) (pc, l, (v :: st), h) Ph := Ar.plain (q := (l, st, h)) rfl (by simp only [en_st]; rw [if_pos hc]) k
theorem r_get {g : List en_E} {N : Nat} {z p : Nat} {fs : List Value} {v : Value} (hp : g[p]? = some (.inr (a, fs))) (hv : fs[b]? = some v) (k : Ar d xs rt bs r (pc + n, l, v :: st, (g, N)) Ph) : Ar d xs rt bs ((.getfield z, n, a, b, c) :: r) (pc, l, (.ref p :: st), (g, N)) Ph := Ar.plain (q := (l, v :: st, (g, N))) rfl (by show en_gf a b l (.ref p :: st) (g, N) = _; simp only [en_gf, hp, if_true, hv]) k
theorem r_putf {g : List en_E} {N : Nat} {z p : Nat} {fs : List Value} {v : Value} (hp : g[p]? = some (.inr (a, fs))) (hb : b < fs.length) (hf : en_fit (en_tyf a b) v = true) (fs' : List Value) (hv : fs.set b v = fs') (k : Ar d xs rt bs r (pc + n, l, st, (g.set p (.inr (a, fs')), N)) Ph) : Ar d xs rt bs ((.putfield z, n, a, b, c) :: r) (pc, l, (v :: .ref p :: st), (g, N)) Ph := by subst hv; exact Ar.plain (q := (l, st, (g.set p (.inr (a, _)), N))) rfl (by show en_pf a b (en_tyf a b) l (v :: .ref p :: st) (g, N) = _; simp only [en_pf, hp]; rw [if_pos ⟨trivial, hb, hf⟩]) k
theorem r_iald {g : List en_E} {N : Nat} {p : Nat} {ys : List Int32} {i v : Int32} (hp : g[p]? = some (.inl (0, .inl ys))) (hi : ¬ i < 0) (hv : ys[i.toNatClampNeg]? = some v) (k : Ar d xs rt bs r (pc + n, l, .int v :: st, (g, N)) Ph) : Ar d xs rt bs ((.iaload, n, a, b, c) :: r) (pc, l, (.int i :: .ref p :: st), (g, N)) Ph := Ar.plain (q := (l, .int v :: st, (g, N))) rfl (by show en_ias 0 xs l (.int i :: .ref p :: st) (g, N) = _; simp only [en_ias, hp]; rw [if_pos ⟨trivial, hi⟩]; simp only [hv]) k
theorem r_bald {g : List en_E} {N : Nat} {p : Nat} {ys : List Int32} {i v : Int32} (hp : g[p]? = some (.inl (2, .inl ys))) (hi : ¬ i < 0) (hv : ys[i.toNatClampNeg]? = some v) (k : Ar d xs rt bs r (pc + n, l, .int v :: st, (g, N)) Ph) : Ar d xs rt bs ((.baload, n, a, b, c) :: r) (pc, l, (.int i :: .ref p :: st), (g, N)) Ph := Ar.plain (q := (l, .int v :: st, (g, N))) rfl (by show en_ias 2 none l (.int i :: .ref p :: st) (g, N) = _; simp only [en_ias, hp]; rw [if_pos ⟨trivial, hi⟩]; simp only [hv]) k
theorem r_scald {ys : List Int32} {i v : Int32} (hi : ¬ i < 0) (hv : ys[i.toNatClampNeg]? = some v) (k : Ar d (some ys) rt bs r (pc + n, l, .int v :: st, h) Ph) : Ar d (some ys) rt bs ((.iaload, n, a, b, c) :: r) (pc, l, (.int i :: .float 0 :: st), h) Ph := Ar.plain (q := (l, .int v :: st, h)) rfl (by show en_ias 0 (some ys) l (.int i :: .float 0 :: st) h = _; simp only [en_ias]; rw [if_pos ⟨trivial, trivial, hi⟩]; simp only [hv]) k
theorem r_sclen {ys : List Int32} (v : Int32) (hv : Int32.ofNat ys.length = v) (k : Ar d (some ys) rt bs r (pc + n, l, .int v :: st, h) Ph) : Ar d (some ys) rt bs ((.arraylength, n, a, b, c) :: r) (pc, l, (.float 0 :: st), h) Ph := by subst hv; exact Ar.plain (q := (l, .int _ :: st, h)) rfl (by show en_alen (some ys) l (.float 0 :: st) h = _; simp only [en_alen]; rw [if_pos trivial]) k
theorem r_lald {g : List en_E} {N : Nat} {p : Nat} {ys : List Int64} {i : Int32} {v : Int64} (hp : g[p]? = some (.inl (1, .inr (.inl ys)))) (hi : ¬ i < 0) (hv : ys[i.toNatClampNeg]? = some v) (k : Ar d xs rt bs r (pc + n, l, .long v :: st, (g, N)) Ph) : Ar d xs rt bs ((.laload, n, a, b, c) :: r) (pc, l, (.int i :: .ref p :: st), (g, N)) Ph := Ar.plain (q := (l, .long v :: st, (g, N))) rfl (by show en_lal l (.int i :: .ref p :: st) (g, N) = _; simp only [en_lal, hp]; rw [if_pos ⟨trivial, hi⟩]; simp only [hv]) k
theorem r_aald {g : List en_E} {N : Nat} {p t : Nat} {ys : List (Option Nat)} {i : Int32} {v : Option Nat} (hp : g[p]? = some (.inl (t, .inr (.inr ys)))) (ht : t = 3 ∨ t = 4) (hi : ¬ i < 0) (hv : ys[i.toNatClampNeg]? = some v) (k : Ar d xs rt bs r (pc + n, l, en_rf v :: st, (g, N)) Ph) : Ar d xs rt bs ((.aaload, n, a, b, c) :: r) (pc, l, (.int i :: .ref p :: st), (g, N)) Ph := Ar.plain (q := (l, en_rf v :: st, (g, N))) rfl (by show en_aal l (.int i :: .ref p :: st) (g, N) = _; simp only [en_aal, hp]; rw [if_pos ⟨ht, hi⟩]; simp only [hv]) k
theorem r_iast {g : List en_E} {N : Nat} {p : Nat} {ys : List Int32} {i v : Int32} (hp : g[p]? = some (.inl (0, .inl ys))) (hi : ¬ i < 0) (hb : i.toNatClampNeg < ys.length) (ys' : List Int32) (hv : ys.set i.toNatClampNeg v = ys') (k : Ar d xs rt bs r (pc + n, l, st, (g.set p (.inl (0, .inl ys')), N)) Ph) : Ar d xs rt bs ((.iastore, n, a, b, c) :: r) (pc, l, (.int v :: .int i :: .ref p :: st), (g, N)) Ph := by subst hv; exact Ar.plain (q := (l, st, (g.set p (.inl (0, .inl _)), N))) rfl (by show en_iast 0 l (.int v :: .int i :: .ref p :: st) (g, N) = _; simp only [en_iast, hp]; rw [if_pos ⟨trivial, hi, hb⟩, if_neg (by decide)]) k
theorem r_bast {g : List en_E} {N : Nat} {p : Nat} {ys : List Int32} {i v : Int32} (hp : g[p]? = some (.inl (2, .inl ys))) (hi : ¬ i < 0) (hb : i.toNatClampNeg < ys.length) (ys' : List Int32) (hv : ys.set i.toNatClampNeg (v &&& 1) = ys') (k : Ar d xs rt bs r (pc + n, l, st, (g.set p (.inl (2, .inl ys')), N)) Ph) : Ar d xs rt bs ((.bastore, n, a, b, c) :: r) (pc, l, (.int v :: .int i :: .ref p :: st), (g, N)) Ph := by subst hv; exact Ar.plain (q := (l, st, (g.set p (.inl (2, .inl _)), N))) rfl (by show en_iast 2 l (.int v :: .int i :: .ref p :: st) (g, N) = _; simp only [en_iast, hp]; rw [if_pos ⟨trivial, hi, hb⟩, if_pos trivial]) k
theorem r_last {g : List en_E} {N : Nat} {p : Nat} {ys : List Int64} {i : Int32} {v : Int64} (hp : g[p]? = some (.inl (1, .inr (.inl ys)))) (hi : ¬ i < 0) (hb : i.toNatClampNeg < ys.length) (ys' : List Int64) (hv : ys.set i.toNatClampNeg v = ys') (k : Ar d xs rt bs r (pc + n, l, st, (g.set p (.inl (1, .inr (.inl ys'))), N)) Ph) : Ar d xs rt bs ((.lastore, n, a, b, c) :: r) (pc, l, (.long v :: .int i :: .ref p :: st), (g, N)) Ph := by subst hv; exact Ar.plain (q := (l, st, (g.set p (.inl (1, .inr (.inl _))), N))) rfl (by show en_last l (.long v :: .int i :: .ref p :: st) (g, N) = _; simp only [en_last, hp]; rw [if_pos ⟨trivial, hi, hb⟩]) k
theorem r_cpy {g : List en_E} {N : Nat} {z p0 p1 : Nat} {f g2 : List Int32} {sp dp m : Int32} (ha : a = 901) (hp0 : g[p0]? = some (.inl (0, .inl f))) (hp1 : g[p1]? = some (.inl (0, .inl g2))) (hc : (((0 : Nat) = 0 ∧ (0 : Nat) = 0 ∧ en_cs st ≤ 8) ∧ (¬ sp < 0 ∧ ¬ dp < 0 ∧ ¬ m < 0) ∧ sp.toNatClampNeg + m.toNatClampNeg ≤ f.length ∧ dp.toNatClampNeg + m.toNatClampNeg ≤ g2.length)) (g' : List Int32) (hv : en_cpy f g2 sp.toNatClampNeg dp.toNatClampNeg m.toNatClampNeg = g') (k : Ar d xs rt bs r (pc + n, l, st, (g.set p1 (.inl (0, .inl g')), N)) Ph) : Ar d xs rt bs ((.invokestatic z, n, a, b, c) :: r) (pc, l, (.int m :: .int dp :: .ref p1 :: .int sp :: .ref p0 :: st), (g, N)) Ph := by subst hv; subst ha; exact Ar.plain (q := (l, st, (g.set p1 (.inl (0, .inl _)), N))) rfl (by show en_nat 901 l (.int m :: .int dp :: .ref p1 :: .int sp :: .ref p0 :: st) (g, N) = _; unfold en_nat; rw [if_neg (by decide), if_pos rfl]; unfold en_acpy; simp only [hp0, hp1]; rw [if_pos ⟨⟨trivial, trivial, hc.1.2.2⟩, hc.2⟩]) k
theorem r_mmax {g : List en_E} {N : Nat} {z : Nat} {x y : Int32} (ha : a = 902) (hc : en_cs st ≤ 8) (v : Int32) (hv : (if x < y then y else x) = v) (k : Ar d xs rt bs r (pc + n, l, .int v :: st, (g, N)) Ph) : Ar d xs rt bs ((.invokestatic z, n, a, b, c) :: r) (pc, l, (.int y :: .int x :: st), (g, N)) Ph := by subst hv; subst ha; exact Ar.plain (q := (l, .int _ :: st, (g, N))) rfl (by show en_nat 902 l (.int y :: .int x :: st) (g, N) = _; unfold en_nat; rw [if_neg (by decide), if_neg (by decide), if_pos rfl]; simp only; rw [if_pos hc]) k
theorem r_mmin {g : List en_E} {N : Nat} {z : Nat} {x y : Int32} (ha : a = 903) (hc : en_cs st ≤ 8) (v : Int32) (hv : (if y < x then y else x) = v) (k : Ar d xs rt bs r (pc + n, l, .int v :: st, (g, N)) Ph) : Ar d xs rt bs ((.invokestatic z, n, a, b, c) :: r) (pc, l, (.int y :: .int x :: st), (g, N)) Ph := by subst hv; subst ha; exact Ar.plain (q := (l, .int _ :: st, (g, N))) rfl (by show en_nat 903 l (.int y :: .int x :: st) (g, N) = _; unfold en_nat; rw [if_neg (by decide), if_neg (by decide), if_neg (by decide), if_pos rfl]; simp only; rw [if_pos hc]) k
theorem r_goto {z : Int} (k : At d xs rt bs (a, l, st, h) Ph) : Ar d xs rt bs ((.goto z, n, a, b, c) :: r) (pc, l, st, h) Ph := Ar.jump (c' := (a, l, st, h)) rfl k
theorem r_ift {z : Int} {x : Int32} {cd : Jvm.ClassFile.Cond} (hb : en_c1 cd x = true) (k : At d xs rt bs (a, l, st, h) Ph) : Ar d xs rt bs ((.ifCond cd z, n, a, b, c) :: r) (pc, l, (.int x :: st), h) Ph := Ar.jump (c' := (bif en_c1 cd x then a else pc + 3, l, st, h)) rfl (by rw [hb]; exact k)
theorem r_iff (pc' : Nat) (hp : pc + 3 = pc') {z : Int} {x : Int32} {cd : Jvm.ClassFile.Cond} (hb : en_c1 cd x = false) (k : At d xs rt bs (pc', l, st, h) Ph) : Ar d xs rt bs ((.ifCond cd z, n, a, b, c) :: r) (pc, l, (.int x :: st), h) Ph := by subst hp; exact Ar.jump (c' := (bif en_c1 cd x then a else pc + 3, l, st, h)) rfl (by rw [hb]; exact k)
theorem r_ifs (pc' : Nat) (hp : pc + 3 = pc') {z : Int} {x : Int32} {cd : Jvm.ClassFile.Cond} (k1 : en_c1 cd x = true → At d xs rt bs (a, l, st, h) Ph) (k2 : en_c1 cd x = false → At d xs rt bs (pc', l, st, h) Ph) : Ar d xs rt bs ((.ifCond cd z, n, a, b, c) :: r) (pc, l, (.int x :: st), h) Ph := by
  cases hb : en_c1 cd x with
  | true => exact r_ift hb (k1 hb)
  | false => exact r_iff pc' hp hb (k2 hb)
theorem r_ict {z : Int} {x y : Int32} {cd : Jvm.ClassFile.Cond} (hb : en_c2 cd x y = true) (k : At d xs rt bs (a, l, st, h) Ph) : Ar d xs rt bs ((.if_icmp cd z, n, a, b, c) :: r) (pc, l, (.int y :: .int x :: st), h) Ph := Ar.jump (c' := (bif en_c2 cd x y then a else pc + 3, l, st, h)) rfl (by rw [hb]; exact k)
theorem r_icf (pc' : Nat) (hp : pc + 3 = pc') {z : Int} {x y : Int32} {cd : Jvm.ClassFile.Cond} (hb : en_c2 cd x y = false) (k : At d xs rt bs (pc', l, st, h) Ph) : Ar d xs rt bs ((.if_icmp cd z, n, a, b, c) :: r) (pc, l, (.int y :: .int x :: st), h) Ph := by subst hp; exact Ar.jump (c' := (bif en_c2 cd x y then a else pc + 3, l, st, h)) rfl (by rw [hb]; exact k)
theorem r_ics (pc' : Nat) (hp : pc + 3 = pc') {z : Int} {x y : Int32} {cd : Jvm.ClassFile.Cond} (k1 : en_c2 cd x y = true → At d xs rt bs (a, l, st, h) Ph) (k2 : en_c2 cd x y = false → At d xs rt bs (pc', l, st, h) Ph) : Ar d xs rt bs ((.if_icmp cd z, n, a, b, c) :: r) (pc, l, (.int y :: .int x :: st), h) Ph := by
  cases hb : en_c2 cd x y with
  | true => exact r_ict hb (k1 hb)
  | false => exact r_icf pc' hp hb (k2 hb)
theorem r_nnr {z : Int} {v : Nat} (k : At d xs rt bs (a, l, st, h) Ph) : Ar d xs rt bs ((.ifnonnull z, n, a, b, c) :: r) (pc, l, (.ref v :: st), h) Ph := Ar.jump (c' := (a, l, st, h)) rfl k
theorem r_nnz (pc' : Nat) (hp : pc + 3 = pc') {z : Int} (k : At d xs rt bs (pc', l, st, h) Ph) : Ar d xs rt bs ((.ifnonnull z, n, a, b, c) :: r) (pc, l, (.null :: st), h) Ph := by subst hp; exact Ar.jump (c' := (pc + 3, l, st, h)) rfl k
theorem r_nlr (pc' : Nat) (hp : pc + 3 = pc') {z : Int} {v : Nat} (k : At d xs rt bs (pc', l, st, h) Ph) : Ar d xs rt bs ((.ifnull z, n, a, b, c) :: r) (pc, l, (.ref v :: st), h) Ph := by subst hp; exact Ar.jump (c' := (pc + 3, l, st, h)) rfl k
theorem r_nlz {z : Int} (k : At d xs rt bs (a, l, st, h) Ph) : Ar d xs rt bs ((.ifnull z, n, a, b, c) :: r) (pc, l, (.null :: st), h) Ph := Ar.jump (c' := (a, l, st, h)) rfl k
theorem r_tsw (t : Nat) {df lo hi : Int} {offs : Array Int} {x : Int32} (ht : en_sw pc df lo hi offs x.toInt = some t) (k : At d xs rt bs (t, l, st, h) Ph) : Ar d xs rt bs ((.tableswitch df lo hi offs, n, a, b, c) :: r) (pc, l, (.int x :: st), h) Ph := Ar.jump (c' := (t, l, st, h)) (by unfold en_ctl; simp only [ht]) k
theorem r_ireti {v : Int32} (k : Ph (some (.int v)) h) : Ar d xs (some .int) bs ((.ireturn, n, a, b, c) :: r) (pc, l, [.int v], h) Ph := Ar.leave (w := (some (.int v), h)) rfl k
theorem r_iretz {v : Int32} (hv : v = 0 ∨ v = 1) (k : Ph (some (.int v)) h) : Ar d xs (some .boolean) bs ((.ireturn, n, a, b, c) :: r) (pc, l, [.int v], h) Ph := Ar.leave (w := (some (.int v), h)) (by unfold en_ctl; simp only; rw [if_pos hv]) k
theorem r_lret {v : Int64} (k : Ph (some (.long v)) h) : Ar d xs (some .long) bs ((.lreturn, n, a, b, c) :: r) (pc, l, [.long v], h) Ph := Ar.leave (w := (some (.long v), h)) rfl k
theorem r_aret {v : Nat} {C : String} (k : Ph (some (.ref v)) h) : Ar d xs (some (.object C)) bs ((.areturn, n, a, b, c) :: r) (pc, l, [.ref v], h) Ph := Ar.leave (w := (some (.ref v), h)) rfl k
theorem r_zret {C : String} (k : Ph (some .null) h) : Ar d xs (some (.object C)) bs ((.areturn, n, a, b, c) :: r) (pc, l, [.null], h) Ph := Ar.leave (w := (some .null, h)) rfl k
theorem r_vret (k : Ph none h) : Ar d xs none bs ((.return_, n, a, b, c) :: r) (pc, l, [], h) Ph := Ar.leave (w := (none, h)) rfl k
theorem r_callV {z : Nat} {Ps : Option Value → en_H → Prop} (pc' : Nat) (hp : pc + 3 = pc') (as rest : List Value) (ha : a < 900) (hq : en_take (.invokevirtual z, n, a, b, c) st = some (as, rest)) (hE : Ev d a as h Ps) (k : ∀ (v : Option Value) (h' : en_H), Ps v h' → At d xs rt bs (pc', l, v.toList ++ rest, h') Ph) : Ar d xs rt bs ((.invokevirtual z, n, a, b, c) :: r) (pc, l, st, h) Ph := Ar.callK pc' hp as rest (by unfold en_ctl; simp only; rw [if_pos ha]) hq hE k
theorem r_callS {z : Nat} {Ps : Option Value → en_H → Prop} (pc' : Nat) (hp : pc + 3 = pc') (as rest : List Value) (ha : a < 900) (hq : en_take (.invokestatic z, n, a, b, c) st = some (as, rest)) (hE : Ev d a as h Ps) (k : ∀ (v : Option Value) (h' : en_H), Ps v h' → At d xs rt bs (pc', l, v.toList ++ rest, h') Ph) : Ar d xs rt bs ((.invokestatic z, n, a, b, c) :: r) (pc, l, st, h) Ph := Ar.callK pc' hp as rest (by unfold en_ctl; simp only; rw [if_pos ha]) hq hE k
theorem r_callI {z : Nat} {Ps : Option Value → en_H → Prop} (pc' : Nat) (hp : pc + 3 = pc') (as rest : List Value) (ha : a < 900) (hq : en_take (.invokespecial z, n, a, b, c) st = some (as, rest)) (hE : Ev d a as h Ps) (k : ∀ (v : Option Value) (h' : en_H), Ps v h' → At d xs rt bs (pc', l, v.toList ++ rest, h') Ph) : Ar d xs rt bs ((.invokespecial z, n, a, b, c) :: r) (pc, l, st, h) Ph := Ar.callK pc' hp as rest (by unfold en_ctl; simp only; rw [if_pos ha]) hq hE k
theorem r_callV1s {z : Nat} (C0 : Prop) (R0 : Value) (H0 : en_H) (pc' : Nat) (hp : pc + 3 = pc') (as rest : List Value) (ha : a < 900) (hq : en_take (.invokevirtual z, n, a, b, c) st = some (as, rest)) (hE : Ev d a as h (fun v h' => (C0 ∧ v = some R0 ∧ h' = H0))) (k0 : C0 → At d xs rt bs (pc', l, R0 :: rest, H0) Ph) : Ar d xs rt bs ((.invokevirtual z, n, a, b, c) :: r) (pc, l, st, h) Ph := by
  refine r_callV pc' hp as rest ha hq hE ?_
  intro v h' hv
  obtain ⟨q1, q2, q3⟩ := hv
  rw [q2, q3]
  exact k0 q1
theorem r_callV1v {z : Nat} (C0 : Prop)  (H0 : en_H) (pc' : Nat) (hp : pc + 3 = pc') (as rest : List Value) (ha : a < 900) (hq : en_take (.invokevirtual z, n, a, b, c) st = some (as, rest)) (hE : Ev d a as h (fun v h' => (C0 ∧ v = none ∧ h' = H0))) (k0 : C0 → At d xs rt bs (pc', l, rest, H0) Ph) : Ar d xs rt bs ((.invokevirtual z, n, a, b, c) :: r) (pc, l, st, h) Ph := by
  refine r_callV pc' hp as rest ha hq hE ?_
  intro v h' hv
  obtain ⟨q1, q2, q3⟩ := hv
  rw [q2, q3]
  exact k0 q1
theorem r_callV2s {z : Nat} (C0 C1 : Prop) (R0 R1 : Value) (H0 H1 : en_H) (pc' : Nat) (hp : pc + 3 = pc') (as rest : List Value) (ha : a < 900) (hq : en_take (.invokevirtual z, n, a, b, c) st = some (as, rest)) (hE : Ev d a as h (fun v h' => (C0 ∧ v = some R0 ∧ h' = H0) ∨ (C1 ∧ v = some R1 ∧ h' = H1))) (k0 : C0 → At d xs rt bs (pc', l, R0 :: rest, H0) Ph) (k1 : C1 → At d xs rt bs (pc', l, R1 :: rest, H1) Ph) : Ar d xs rt bs ((.invokevirtual z, n, a, b, c) :: r) (pc, l, st, h) Ph := by
  refine r_callV pc' hp as rest ha hq hE ?_
  intro v h' hv
  rcases hv with ⟨q1, q2, q3⟩ | ⟨q1, q2, q3⟩
  · rw [q2, q3]; exact k0 q1
  · rw [q2, q3]; exact k1 q1
theorem r_callV2v {z : Nat} (C0 C1 : Prop)  (H0 H1 : en_H) (pc' : Nat) (hp : pc + 3 = pc') (as rest : List Value) (ha : a < 900) (hq : en_take (.invokevirtual z, n, a, b, c) st = some (as, rest)) (hE : Ev d a as h (fun v h' => (C0 ∧ v = none ∧ h' = H0) ∨ (C1 ∧ v = none ∧ h' = H1))) (k0 : C0 → At d xs rt bs (pc', l, rest, H0) Ph) (k1 : C1 → At d xs rt bs (pc', l, rest, H1) Ph) : Ar d xs rt bs ((.invokevirtual z, n, a, b, c) :: r) (pc, l, st, h) Ph := by
  refine r_callV pc' hp as rest ha hq hE ?_
  intro v h' hv
  rcases hv with ⟨q1, q2, q3⟩ | ⟨q1, q2, q3⟩
  · rw [q2, q3]; exact k0 q1
  · rw [q2, q3]; exact k1 q1
theorem r_callV3s {z : Nat} (C0 C1 C2 : Prop) (R0 R1 R2 : Value) (H0 H1 H2 : en_H) (pc' : Nat) (hp : pc + 3 = pc') (as rest : List Value) (ha : a < 900) (hq : en_take (.invokevirtual z, n, a, b, c) st = some (as, rest)) (hE : Ev d a as h (fun v h' => (C0 ∧ v = some R0 ∧ h' = H0) ∨ (C1 ∧ v = some R1 ∧ h' = H1) ∨ (C2 ∧ v = some R2 ∧ h' = H2))) (k0 : C0 → At d xs rt bs (pc', l, R0 :: rest, H0) Ph) (k1 : C1 → At d xs rt bs (pc', l, R1 :: rest, H1) Ph) (k2 : C2 → At d xs rt bs (pc', l, R2 :: rest, H2) Ph) : Ar d xs rt bs ((.invokevirtual z, n, a, b, c) :: r) (pc, l, st, h) Ph := by
  refine r_callV pc' hp as rest ha hq hE ?_
  intro v h' hv
  rcases hv with ⟨q1, q2, q3⟩ | ⟨q1, q2, q3⟩ | ⟨q1, q2, q3⟩
  · rw [q2, q3]; exact k0 q1
  · rw [q2, q3]; exact k1 q1
  · rw [q2, q3]; exact k2 q1
theorem r_callV3v {z : Nat} (C0 C1 C2 : Prop)  (H0 H1 H2 : en_H) (pc' : Nat) (hp : pc + 3 = pc') (as rest : List Value) (ha : a < 900) (hq : en_take (.invokevirtual z, n, a, b, c) st = some (as, rest)) (hE : Ev d a as h (fun v h' => (C0 ∧ v = none ∧ h' = H0) ∨ (C1 ∧ v = none ∧ h' = H1) ∨ (C2 ∧ v = none ∧ h' = H2))) (k0 : C0 → At d xs rt bs (pc', l, rest, H0) Ph) (k1 : C1 → At d xs rt bs (pc', l, rest, H1) Ph) (k2 : C2 → At d xs rt bs (pc', l, rest, H2) Ph) : Ar d xs rt bs ((.invokevirtual z, n, a, b, c) :: r) (pc, l, st, h) Ph := by
  refine r_callV pc' hp as rest ha hq hE ?_
  intro v h' hv
  rcases hv with ⟨q1, q2, q3⟩ | ⟨q1, q2, q3⟩ | ⟨q1, q2, q3⟩
  · rw [q2, q3]; exact k0 q1
  · rw [q2, q3]; exact k1 q1
  · rw [q2, q3]; exact k2 q1
theorem r_callV4s {z : Nat} (C0 C1 C2 C3 : Prop) (R0 R1 R2 R3 : Value) (H0 H1 H2 H3 : en_H) (pc' : Nat) (hp : pc + 3 = pc') (as rest : List Value) (ha : a < 900) (hq : en_take (.invokevirtual z, n, a, b, c) st = some (as, rest)) (hE : Ev d a as h (fun v h' => (C0 ∧ v = some R0 ∧ h' = H0) ∨ (C1 ∧ v = some R1 ∧ h' = H1) ∨ (C2 ∧ v = some R2 ∧ h' = H2) ∨ (C3 ∧ v = some R3 ∧ h' = H3))) (k0 : C0 → At d xs rt bs (pc', l, R0 :: rest, H0) Ph) (k1 : C1 → At d xs rt bs (pc', l, R1 :: rest, H1) Ph) (k2 : C2 → At d xs rt bs (pc', l, R2 :: rest, H2) Ph) (k3 : C3 → At d xs rt bs (pc', l, R3 :: rest, H3) Ph) : Ar d xs rt bs ((.invokevirtual z, n, a, b, c) :: r) (pc, l, st, h) Ph := by
  refine r_callV pc' hp as rest ha hq hE ?_
  intro v h' hv
  rcases hv with ⟨q1, q2, q3⟩ | ⟨q1, q2, q3⟩ | ⟨q1, q2, q3⟩ | ⟨q1, q2, q3⟩
  · rw [q2, q3]; exact k0 q1
  · rw [q2, q3]; exact k1 q1
  · rw [q2, q3]; exact k2 q1
  · rw [q2, q3]; exact k3 q1
theorem r_callV4v {z : Nat} (C0 C1 C2 C3 : Prop)  (H0 H1 H2 H3 : en_H) (pc' : Nat) (hp : pc + 3 = pc') (as rest : List Value) (ha : a < 900) (hq : en_take (.invokevirtual z, n, a, b, c) st = some (as, rest)) (hE : Ev d a as h (fun v h' => (C0 ∧ v = none ∧ h' = H0) ∨ (C1 ∧ v = none ∧ h' = H1) ∨ (C2 ∧ v = none ∧ h' = H2) ∨ (C3 ∧ v = none ∧ h' = H3))) (k0 : C0 → At d xs rt bs (pc', l, rest, H0) Ph) (k1 : C1 → At d xs rt bs (pc', l, rest, H1) Ph) (k2 : C2 → At d xs rt bs (pc', l, rest, H2) Ph) (k3 : C3 → At d xs rt bs (pc', l, rest, H3) Ph) : Ar d xs rt bs ((.invokevirtual z, n, a, b, c) :: r) (pc, l, st, h) Ph := by
  refine r_callV pc' hp as rest ha hq hE ?_
  intro v h' hv
  rcases hv with ⟨q1, q2, q3⟩ | ⟨q1, q2, q3⟩ | ⟨q1, q2, q3⟩ | ⟨q1, q2, q3⟩
  · rw [q2, q3]; exact k0 q1
  · rw [q2, q3]; exact k1 q1
  · rw [q2, q3]; exact k2 q1
  · rw [q2, q3]; exact k3 q1
theorem r_callV5s {z : Nat} (C0 C1 C2 C3 C4 : Prop) (R0 R1 R2 R3 R4 : Value) (H0 H1 H2 H3 H4 : en_H) (pc' : Nat) (hp : pc + 3 = pc') (as rest : List Value) (ha : a < 900) (hq : en_take (.invokevirtual z, n, a, b, c) st = some (as, rest)) (hE : Ev d a as h (fun v h' => (C0 ∧ v = some R0 ∧ h' = H0) ∨ (C1 ∧ v = some R1 ∧ h' = H1) ∨ (C2 ∧ v = some R2 ∧ h' = H2) ∨ (C3 ∧ v = some R3 ∧ h' = H3) ∨ (C4 ∧ v = some R4 ∧ h' = H4))) (k0 : C0 → At d xs rt bs (pc', l, R0 :: rest, H0) Ph) (k1 : C1 → At d xs rt bs (pc', l, R1 :: rest, H1) Ph) (k2 : C2 → At d xs rt bs (pc', l, R2 :: rest, H2) Ph) (k3 : C3 → At d xs rt bs (pc', l, R3 :: rest, H3) Ph) (k4 : C4 → At d xs rt bs (pc', l, R4 :: rest, H4) Ph) : Ar d xs rt bs ((.invokevirtual z, n, a, b, c) :: r) (pc, l, st, h) Ph := by
  refine r_callV pc' hp as rest ha hq hE ?_
  intro v h' hv
  rcases hv with ⟨q1, q2, q3⟩ | ⟨q1, q2, q3⟩ | ⟨q1, q2, q3⟩ | ⟨q1, q2, q3⟩ | ⟨q1, q2, q3⟩
  · rw [q2, q3]; exact k0 q1
  · rw [q2, q3]; exact k1 q1
  · rw [q2, q3]; exact k2 q1
  · rw [q2, q3]; exact k3 q1
  · rw [q2, q3]; exact k4 q1
theorem r_callV5v {z : Nat} (C0 C1 C2 C3 C4 : Prop)  (H0 H1 H2 H3 H4 : en_H) (pc' : Nat) (hp : pc + 3 = pc') (as rest : List Value) (ha : a < 900) (hq : en_take (.invokevirtual z, n, a, b, c) st = some (as, rest)) (hE : Ev d a as h (fun v h' => (C0 ∧ v = none ∧ h' = H0) ∨ (C1 ∧ v = none ∧ h' = H1) ∨ (C2 ∧ v = none ∧ h' = H2) ∨ (C3 ∧ v = none ∧ h' = H3) ∨ (C4 ∧ v = none ∧ h' = H4))) (k0 : C0 → At d xs rt bs (pc', l, rest, H0) Ph) (k1 : C1 → At d xs rt bs (pc', l, rest, H1) Ph) (k2 : C2 → At d xs rt bs (pc', l, rest, H2) Ph) (k3 : C3 → At d xs rt bs (pc', l, rest, H3) Ph) (k4 : C4 → At d xs rt bs (pc', l, rest, H4) Ph) : Ar d xs rt bs ((.invokevirtual z, n, a, b, c) :: r) (pc, l, st, h) Ph := by
  refine r_callV pc' hp as rest ha hq hE ?_
  intro v h' hv
  rcases hv with ⟨q1, q2, q3⟩ | ⟨q1, q2, q3⟩ | ⟨q1, q2, q3⟩ | ⟨q1, q2, q3⟩ | ⟨q1, q2, q3⟩
  · rw [q2, q3]; exact k0 q1
  · rw [q2, q3]; exact k1 q1
  · rw [q2, q3]; exact k2 q1
  · rw [q2, q3]; exact k3 q1
  · rw [q2, q3]; exact k4 q1
theorem r_callV6s {z : Nat} (C0 C1 C2 C3 C4 C5 : Prop) (R0 R1 R2 R3 R4 R5 : Value) (H0 H1 H2 H3 H4 H5 : en_H) (pc' : Nat) (hp : pc + 3 = pc') (as rest : List Value) (ha : a < 900) (hq : en_take (.invokevirtual z, n, a, b, c) st = some (as, rest)) (hE : Ev d a as h (fun v h' => (C0 ∧ v = some R0 ∧ h' = H0) ∨ (C1 ∧ v = some R1 ∧ h' = H1) ∨ (C2 ∧ v = some R2 ∧ h' = H2) ∨ (C3 ∧ v = some R3 ∧ h' = H3) ∨ (C4 ∧ v = some R4 ∧ h' = H4) ∨ (C5 ∧ v = some R5 ∧ h' = H5))) (k0 : C0 → At d xs rt bs (pc', l, R0 :: rest, H0) Ph) (k1 : C1 → At d xs rt bs (pc', l, R1 :: rest, H1) Ph) (k2 : C2 → At d xs rt bs (pc', l, R2 :: rest, H2) Ph) (k3 : C3 → At d xs rt bs (pc', l, R3 :: rest, H3) Ph) (k4 : C4 → At d xs rt bs (pc', l, R4 :: rest, H4) Ph) (k5 : C5 → At d xs rt bs (pc', l, R5 :: rest, H5) Ph) : Ar d xs rt bs ((.invokevirtual z, n, a, b, c) :: r) (pc, l, st, h) Ph := by
  refine r_callV pc' hp as rest ha hq hE ?_
  intro v h' hv
  rcases hv with ⟨q1, q2, q3⟩ | ⟨q1, q2, q3⟩ | ⟨q1, q2, q3⟩ | ⟨q1, q2, q3⟩ | ⟨q1, q2, q3⟩ | ⟨q1, q2, q3⟩
  · rw [q2, q3]; exact k0 q1
  · rw [q2, q3]; exact k1 q1
  · rw [q2, q3]; exact k2 q1
  · rw [q2, q3]; exact k3 q1
  · rw [q2, q3]; exact k4 q1
  · rw [q2, q3]; exact k5 q1
theorem r_callV6v {z : Nat} (C0 C1 C2 C3 C4 C5 : Prop)  (H0 H1 H2 H3 H4 H5 : en_H) (pc' : Nat) (hp : pc + 3 = pc') (as rest : List Value) (ha : a < 900) (hq : en_take (.invokevirtual z, n, a, b, c) st = some (as, rest)) (hE : Ev d a as h (fun v h' => (C0 ∧ v = none ∧ h' = H0) ∨ (C1 ∧ v = none ∧ h' = H1) ∨ (C2 ∧ v = none ∧ h' = H2) ∨ (C3 ∧ v = none ∧ h' = H3) ∨ (C4 ∧ v = none ∧ h' = H4) ∨ (C5 ∧ v = none ∧ h' = H5))) (k0 : C0 → At d xs rt bs (pc', l, rest, H0) Ph) (k1 : C1 → At d xs rt bs (pc', l, rest, H1) Ph) (k2 : C2 → At d xs rt bs (pc', l, rest, H2) Ph) (k3 : C3 → At d xs rt bs (pc', l, rest, H3) Ph) (k4 : C4 → At d xs rt bs (pc', l, rest, H4) Ph) (k5 : C5 → At d xs rt bs (pc', l, rest, H5) Ph) : Ar d xs rt bs ((.invokevirtual z, n, a, b, c) :: r) (pc, l, st, h) Ph := by
  refine r_callV pc' hp as rest ha hq hE ?_
  intro v h' hv
  rcases hv with ⟨q1, q2, q3⟩ | ⟨q1, q2, q3⟩ | ⟨q1, q2, q3⟩ | ⟨q1, q2, q3⟩ | ⟨q1, q2, q3⟩ | ⟨q1, q2, q3⟩
  · rw [q2, q3]; exact k0 q1
  · rw [q2, q3]; exact k1 q1
  · rw [q2, q3]; exact k2 q1
  · rw [q2, q3]; exact k3 q1
  · rw [q2, q3]; exact k4 q1
  · rw [q2, q3]; exact k5 q1
theorem r_callV7s {z : Nat} (C0 C1 C2 C3 C4 C5 C6 : Prop) (R0 R1 R2 R3 R4 R5 R6 : Value) (H0 H1 H2 H3 H4 H5 H6 : en_H) (pc' : Nat) (hp : pc + 3 = pc') (as rest : List Value) (ha : a < 900) (hq : en_take (.invokevirtual z, n, a, b, c) st = some (as, rest)) (hE : Ev d a as h (fun v h' => (C0 ∧ v = some R0 ∧ h' = H0) ∨ (C1 ∧ v = some R1 ∧ h' = H1) ∨ (C2 ∧ v = some R2 ∧ h' = H2) ∨ (C3 ∧ v = some R3 ∧ h' = H3) ∨ (C4 ∧ v = some R4 ∧ h' = H4) ∨ (C5 ∧ v = some R5 ∧ h' = H5) ∨ (C6 ∧ v = some R6 ∧ h' = H6))) (k0 : C0 → At d xs rt bs (pc', l, R0 :: rest, H0) Ph) (k1 : C1 → At d xs rt bs (pc', l, R1 :: rest, H1) Ph) (k2 : C2 → At d xs rt bs (pc', l, R2 :: rest, H2) Ph) (k3 : C3 → At d xs rt bs (pc', l, R3 :: rest, H3) Ph) (k4 : C4 → At d xs rt bs (pc', l, R4 :: rest, H4) Ph) (k5 : C5 → At d xs rt bs (pc', l, R5 :: rest, H5) Ph) (k6 : C6 → At d xs rt bs (pc', l, R6 :: rest, H6) Ph) : Ar d xs rt bs ((.invokevirtual z, n, a, b, c) :: r) (pc, l, st, h) Ph := by
  refine r_callV pc' hp as rest ha hq hE ?_
  intro v h' hv
  rcases hv with ⟨q1, q2, q3⟩ | ⟨q1, q2, q3⟩ | ⟨q1, q2, q3⟩ | ⟨q1, q2, q3⟩ | ⟨q1, q2, q3⟩ | ⟨q1, q2, q3⟩ | ⟨q1, q2, q3⟩
  · rw [q2, q3]; exact k0 q1
  · rw [q2, q3]; exact k1 q1
  · rw [q2, q3]; exact k2 q1
  · rw [q2, q3]; exact k3 q1
  · rw [q2, q3]; exact k4 q1
  · rw [q2, q3]; exact k5 q1
  · rw [q2, q3]; exact k6 q1
theorem r_callV7v {z : Nat} (C0 C1 C2 C3 C4 C5 C6 : Prop)  (H0 H1 H2 H3 H4 H5 H6 : en_H) (pc' : Nat) (hp : pc + 3 = pc') (as rest : List Value) (ha : a < 900) (hq : en_take (.invokevirtual z, n, a, b, c) st = some (as, rest)) (hE : Ev d a as h (fun v h' => (C0 ∧ v = none ∧ h' = H0) ∨ (C1 ∧ v = none ∧ h' = H1) ∨ (C2 ∧ v = none ∧ h' = H2) ∨ (C3 ∧ v = none ∧ h' = H3) ∨ (C4 ∧ v = none ∧ h' = H4) ∨ (C5 ∧ v = none ∧ h' = H5) ∨ (C6 ∧ v = none ∧ h' = H6))) (k0 : C0 → At d xs rt bs (pc', l, rest, H0) Ph) (k1 : C1 → At d xs rt bs (pc', l, rest, H1) Ph) (k2 : C2 → At d xs rt bs (pc', l, rest, H2) Ph) (k3 : C3 → At d xs rt bs (pc', l, rest, H3) Ph) (k4 : C4 → At d xs rt bs (pc', l, rest, H4) Ph) (k5 : C5 → At d xs rt bs (pc', l, rest, H5) Ph) (k6 : C6 → At d xs rt bs (pc', l, rest, H6) Ph) : Ar d xs rt bs ((.invokevirtual z, n, a, b, c) :: r) (pc, l, st, h) Ph := by
  refine r_callV pc' hp as rest ha hq hE ?_
  intro v h' hv
  rcases hv with ⟨q1, q2, q3⟩ | ⟨q1, q2, q3⟩ | ⟨q1, q2, q3⟩ | ⟨q1, q2, q3⟩ | ⟨q1, q2, q3⟩ | ⟨q1, q2, q3⟩ | ⟨q1, q2, q3⟩
  · rw [q2, q3]; exact k0 q1
  · rw [q2, q3]; exact k1 q1
  · rw [q2, q3]; exact k2 q1
  · rw [q2, q3]; exact k3 q1
  · rw [q2, q3]; exact k4 q1
  · rw [q2, q3]; exact k5 q1
  · rw [q2, q3]; exact k6 q1
theorem r_callV8s {z : Nat} (C0 C1 C2 C3 C4 C5 C6 C7 : Prop) (R0 R1 R2 R3 R4 R5 R6 R7 : Value) (H0 H1 H2 H3 H4 H5 H6 H7 : en_H) (pc' : Nat) (hp : pc + 3 = pc') (as rest : List Value) (ha : a < 900) (hq : en_take (.invokevirtual z, n, a, b, c) st = some (as, rest)) (hE : Ev d a as h (fun v h' => (C0 ∧ v = some R0 ∧ h' = H0) ∨ (C1 ∧ v = some R1 ∧ h' = H1) ∨ (C2 ∧ v = some R2 ∧ h' = H2) ∨ (C3 ∧ v = some R3 ∧ h' = H3) ∨ (C4 ∧ v = some R4 ∧ h' = H4) ∨ (C5 ∧ v = some R5 ∧ h' = H5) ∨ (C6 ∧ v = some R6 ∧ h' = H6) ∨ (C7 ∧ v = some R7 ∧ h' = H7))) (k0 : C0 → At d xs rt bs (pc', l, R0 :: rest, H0) Ph) (k1 : C1 → At d xs rt bs (pc', l, R1 :: rest, H1) Ph) (k2 : C2 → At d xs rt bs (pc', l, R2 :: rest, H2) Ph) (k3 : C3 → At d xs rt bs (pc', l, R3 :: rest, H3) Ph) (k4 : C4 → At d xs rt bs (pc', l, R4 :: rest, H4) Ph) (k5 : C5 → At d xs rt bs (pc', l, R5 :: rest, H5) Ph) (k6 : C6 → At d xs rt bs (pc', l, R6 :: rest, H6) Ph) (k7 : C7 → At d xs rt bs (pc', l, R7 :: rest, H7) Ph) : Ar d xs rt bs ((.invokevirtual z, n, a, b, c) :: r) (pc, l, st, h) Ph := by
  refine r_callV pc' hp as rest ha hq hE ?_
  intro v h' hv
  rcases hv with ⟨q1, q2, q3⟩ | ⟨q1, q2, q3⟩ | ⟨q1, q2, q3⟩ | ⟨q1, q2, q3⟩ | ⟨q1, q2, q3⟩ | ⟨q1, q2, q3⟩ | ⟨q1, q2, q3⟩ | ⟨q1, q2, q3⟩
  · rw [q2, q3]; exact k0 q1
  · rw [q2, q3]; exact k1 q1
  · rw [q2, q3]; exact k2 q1
  · rw [q2, q3]; exact k3 q1
  · rw [q2, q3]; exact k4 q1
  · rw [q2, q3]; exact k5 q1
  · rw [q2, q3]; exact k6 q1
  · rw [q2, q3]; exact k7 q1
theorem r_callV8v {z : Nat} (C0 C1 C2 C3 C4 C5 C6 C7 : Prop)  (H0 H1 H2 H3 H4 H5 H6 H7 : en_H) (pc' : Nat) (hp : pc + 3 = pc') (as rest : List Value) (ha : a < 900) (hq : en_take (.invokevirtual z, n, a, b, c) st = some (as, rest)) (hE : Ev d a as h (fun v h' => (C0 ∧ v = none ∧ h' = H0) ∨ (C1 ∧ v = none ∧ h' = H1) ∨ (C2 ∧ v = none ∧ h' = H2) ∨ (C3 ∧ v = none ∧ h' = H3) ∨ (C4 ∧ v = none ∧ h' = H4) ∨ (C5 ∧ v = none ∧ h' = H5) ∨ (C6 ∧ v = none ∧ h' = H6) ∨ (C7 ∧ v = none ∧ h' = H7))) (k0 : C0 → At d xs rt bs (pc', l, rest, H0) Ph) (k1 : C1 → At d xs rt bs (pc', l, rest, H1) Ph) (k2 : C2 → At d xs rt bs (pc', l, rest, H2) Ph) (k3 : C3 → At d xs rt bs (pc', l, rest, H3) Ph) (k4 : C4 → At d xs rt bs (pc', l, rest, H4) Ph) (k5 : C5 → At d xs rt bs (pc', l, rest, H5) Ph) (k6 : C6 → At d xs rt bs (pc', l, rest, H6) Ph) (k7 : C7 → At d xs rt bs (pc', l, rest, H7) Ph) : Ar d xs rt bs ((.invokevirtual z, n, a, b, c) :: r) (pc, l, st, h) Ph := by
  refine r_callV pc' hp as rest ha hq hE ?_
  intro v h' hv
  rcases hv with ⟨q1, q2, q3⟩ | ⟨q1, q2, q3⟩ | ⟨q1, q2, q3⟩ | ⟨q1, q2, q3⟩ | ⟨q1, q2, q3⟩ | ⟨q1, q2, q3⟩ | ⟨q1, q2, q3⟩ | ⟨q1, q2, q3⟩
  · rw [q2, q3]; exact k0 q1
  · rw [q2, q3]; exact k1 q1
  · rw [q2, q3]; exact k2 q1
  · rw [q2, q3]; exact k3 q1
  · rw [q2, q3]; exact k4 q1
  · rw [q2, q3]; exact k5 q1
  · rw [q2, q3]; exact k6 q1
  · rw [q2, q3]; exact k7 q1
theorem r_callV9s {z : Nat} (C0 C1 C2 C3 C4 C5 C6 C7 C8 : Prop) (R0 R1 R2 R3 R4 R5 R6 R7 R8 : Value) (H0 H1 H2 H3 H4 H5 H6 H7 H8 : en_H) (pc' : Nat) (hp : pc + 3 = pc') (as rest : List Value) (ha : a < 900) (hq : en_take (.invokevirtual z, n, a, b, c) st = some (as, rest)) (hE : Ev d a as h (fun v h' => (C0 ∧ v = some R0 ∧ h' = H0) ∨ (C1 ∧ v = some R1 ∧ h' = H1) ∨ (C2 ∧ v = some R2 ∧ h' = H2) ∨ (C3 ∧ v = some R3 ∧ h' = H3) ∨ (C4 ∧ v = some R4 ∧ h' = H4) ∨ (C5 ∧ v = some R5 ∧ h' = H5) ∨ (C6 ∧ v = some R6 ∧ h' = H6) ∨ (C7 ∧ v = some R7 ∧ h' = H7) ∨ (C8 ∧ v = some R8 ∧ h' = H8))) (k0 : C0 → At d xs rt bs (pc', l, R0 :: rest, H0) Ph) (k1 : C1 → At d xs rt bs (pc', l, R1 :: rest, H1) Ph) (k2 : C2 → At d xs rt bs (pc', l, R2 :: rest, H2) Ph) (k3 : C3 → At d xs rt bs (pc', l, R3 :: rest, H3) Ph) (k4 : C4 → At d xs rt bs (pc', l, R4 :: rest, H4) Ph) (k5 : C5 → At d xs rt bs (pc', l, R5 :: rest, H5) Ph) (k6 : C6 → At d xs rt bs (pc', l, R6 :: rest, H6) Ph) (k7 : C7 → At d xs rt bs (pc', l, R7 :: rest, H7) Ph) (k8 : C8 → At d xs rt bs (pc', l, R8 :: rest, H8) Ph) : Ar d xs rt bs ((.invokevirtual z, n, a, b, c) :: r) (pc, l, st, h) Ph := by
  refine r_callV pc' hp as rest ha hq hE ?_
  intro v h' hv
  rcases hv with ⟨q1, q2, q3⟩ | ⟨q1, q2, q3⟩ | ⟨q1, q2, q3⟩ | ⟨q1, q2, q3⟩ | ⟨q1, q2, q3⟩ | ⟨q1, q2, q3⟩ | ⟨q1, q2, q3⟩ | ⟨q1, q2, q3⟩ | ⟨q1, q2, q3⟩
  · rw [q2, q3]; exact k0 q1
  · rw [q2, q3]; exact k1 q1
  · rw [q2, q3]; exact k2 q1
  · rw [q2, q3]; exact k3 q1
  · rw [q2, q3]; exact k4 q1
  · rw [q2, q3]; exact k5 q1
  · rw [q2, q3]; exact k6 q1
  · rw [q2, q3]; exact k7 q1
  · rw [q2, q3]; exact k8 q1
theorem r_callV9v {z : Nat} (C0 C1 C2 C3 C4 C5 C6 C7 C8 : Prop)  (H0 H1 H2 H3 H4 H5 H6 H7 H8 : en_H) (pc' : Nat) (hp : pc + 3 = pc') (as rest : List Value) (ha : a < 900) (hq : en_take (.invokevirtual z, n, a, b, c) st = some (as, rest)) (hE : Ev d a as h (fun v h' => (C0 ∧ v = none ∧ h' = H0) ∨ (C1 ∧ v = none ∧ h' = H1) ∨ (C2 ∧ v = none ∧ h' = H2) ∨ (C3 ∧ v = none ∧ h' = H3) ∨ (C4 ∧ v = none ∧ h' = H4) ∨ (C5 ∧ v = none ∧ h' = H5) ∨ (C6 ∧ v = none ∧ h' = H6) ∨ (C7 ∧ v = none ∧ h' = H7) ∨ (C8 ∧ v = none ∧ h' = H8))) (k0 : C0 → At d xs rt bs (pc', l, rest, H0) Ph) (k1 : C1 → At d xs rt bs (pc', l, rest, H1) Ph) (k2 : C2 → At d xs rt bs (pc', l, rest, H2) Ph) (k3 : C3 → At d xs rt bs (pc', l, rest, H3) Ph) (k4 : C4 → At d xs rt bs (pc', l, rest, H4) Ph) (k5 : C5 → At d xs rt bs (pc', l, rest, H5) Ph) (k6 : C6 → At d xs rt bs (pc', l, rest, H6) Ph) (k7 : C7 → At d xs rt bs (pc', l, rest, H7) Ph) (k8 : C8 → At d xs rt bs (pc', l, rest, H8) Ph) : Ar d xs rt bs ((.invokevirtual z, n, a, b, c) :: r) (pc, l, st, h) Ph := by
  refine r_callV pc' hp as rest ha hq hE ?_
  intro v h' hv
  rcases hv with ⟨q1, q2, q3⟩ | ⟨q1, q2, q3⟩ | ⟨q1, q2, q3⟩ | ⟨q1, q2, q3⟩ | ⟨q1, q2, q3⟩ | ⟨q1, q2, q3⟩ | ⟨q1, q2, q3⟩ | ⟨q1, q2, q3⟩ | ⟨q1, q2, q3⟩
  · rw [q2, q3]; exact k0 q1
  · rw [q2, q3]; exact k1 q1
  · rw [q2, q3]; exact k2 q1
  · rw [q2, q3]; exact k3 q1
  · rw [q2, q3]; exact k4 q1
  · rw [q2, q3]; exact k5 q1
  · rw [q2, q3]; exact k6 q1
  · rw [q2, q3]; exact k7 q1
  · rw [q2, q3]; exact k8 q1
theorem r_callV10s {z : Nat} (C0 C1 C2 C3 C4 C5 C6 C7 C8 C9 : Prop) (R0 R1 R2 R3 R4 R5 R6 R7 R8 R9 : Value) (H0 H1 H2 H3 H4 H5 H6 H7 H8 H9 : en_H) (pc' : Nat) (hp : pc + 3 = pc') (as rest : List Value) (ha : a < 900) (hq : en_take (.invokevirtual z, n, a, b, c) st = some (as, rest)) (hE : Ev d a as h (fun v h' => (C0 ∧ v = some R0 ∧ h' = H0) ∨ (C1 ∧ v = some R1 ∧ h' = H1) ∨ (C2 ∧ v = some R2 ∧ h' = H2) ∨ (C3 ∧ v = some R3 ∧ h' = H3) ∨ (C4 ∧ v = some R4 ∧ h' = H4) ∨ (C5 ∧ v = some R5 ∧ h' = H5) ∨ (C6 ∧ v = some R6 ∧ h' = H6) ∨ (C7 ∧ v = some R7 ∧ h' = H7) ∨ (C8 ∧ v = some R8 ∧ h' = H8) ∨ (C9 ∧ v = some R9 ∧ h' = H9))) (k0 : C0 → At d xs rt bs (pc', l, R0 :: rest, H0) Ph) (k1 : C1 → At d xs rt bs (pc', l, R1 :: rest, H1) Ph) (k2 : C2 → At d xs rt bs (pc', l, R2 :: rest, H2) Ph) (k3 : C3 → At d xs rt bs (pc', l, R3 :: rest, H3) Ph) (k4 : C4 → At d xs rt bs (pc', l, R4 :: rest, H4) Ph) (k5 : C5 → At d xs rt bs (pc', l, R5 :: rest, H5) Ph) (k6 : C6 → At d xs rt bs (pc', l, R6 :: rest, H6) Ph) (k7 : C7 → At d xs rt bs (pc', l, R7 :: rest, H7) Ph) (k8 : C8 → At d xs rt bs (pc', l, R8 :: rest, H8) Ph) (k9 : C9 → At d xs rt bs (pc', l, R9 :: rest, H9) Ph) : Ar d xs rt bs ((.invokevirtual z, n, a, b, c) :: r) (pc, l, st, h) Ph := by
  refine r_callV pc' hp as rest ha hq hE ?_
  intro v h' hv
  rcases hv with ⟨q1, q2, q3⟩ | ⟨q1, q2, q3⟩ | ⟨q1, q2, q3⟩ | ⟨q1, q2, q3⟩ | ⟨q1, q2, q3⟩ | ⟨q1, q2, q3⟩ | ⟨q1, q2, q3⟩ | ⟨q1, q2, q3⟩ | ⟨q1, q2, q3⟩ | ⟨q1, q2, q3⟩
  · rw [q2, q3]; exact k0 q1
  · rw [q2, q3]; exact k1 q1
  · rw [q2, q3]; exact k2 q1
  · rw [q2, q3]; exact k3 q1
  · rw [q2, q3]; exact k4 q1
  · rw [q2, q3]; exact k5 q1
  · rw [q2, q3]; exact k6 q1
  · rw [q2, q3]; exact k7 q1
  · rw [q2, q3]; exact k8 q1
  · rw [q2, q3]; exact k9 q1
theorem r_callV10v {z : Nat} (C0 C1 C2 C3 C4 C5 C6 C7 C8 C9 : Prop)  (H0 H1 H2 H3 H4 H5 H6 H7 H8 H9 : en_H) (pc' : Nat) (hp : pc + 3 = pc') (as rest : List Value) (ha : a < 900) (hq : en_take (.invokevirtual z, n, a, b, c) st = some (as, rest)) (hE : Ev d a as h (fun v h' => (C0 ∧ v = none ∧ h' = H0) ∨ (C1 ∧ v = none ∧ h' = H1) ∨ (C2 ∧ v = none ∧ h' = H2) ∨ (C3 ∧ v = none ∧ h' = H3) ∨ (C4 ∧ v = none ∧ h' = H4) ∨ (C5 ∧ v = none ∧ h' = H5) ∨ (C6 ∧ v = none ∧ h' = H6) ∨ (C7 ∧ v = none ∧ h' = H7) ∨ (C8 ∧ v = none ∧ h' = H8) ∨ (C9 ∧ v = none ∧ h' = H9))) (k0 : C0 → At d xs rt bs (pc', l, rest, H0) Ph) (k1 : C1 → At d xs rt bs (pc', l, rest, H1) Ph) (k2 : C2 → At d xs rt bs (pc', l, rest, H2) Ph) (k3 : C3 → At d xs rt bs (pc', l, rest, H3) Ph) (k4 : C4 → At d xs rt bs (pc', l, rest, H4) Ph) (k5 : C5 → At d xs rt bs (pc', l, rest, H5) Ph) (k6 : C6 → At d xs rt bs (pc', l, rest, H6) Ph) (k7 : C7 → At d xs rt bs (pc', l, rest, H7) Ph) (k8 : C8 → At d xs rt bs (pc', l, rest, H8) Ph) (k9 : C9 → At d xs rt bs (pc', l, rest, H9) Ph) : Ar d xs rt bs ((.invokevirtual z, n, a, b, c) :: r) (pc, l, st, h) Ph := by
  refine r_callV pc' hp as rest ha hq hE ?_
  intro v h' hv
  rcases hv with ⟨q1, q2, q3⟩ | ⟨q1, q2, q3⟩ | ⟨q1, q2, q3⟩ | ⟨q1, q2, q3⟩ | ⟨q1, q2, q3⟩ | ⟨q1, q2, q3⟩ | ⟨q1, q2, q3⟩ | ⟨q1, q2, q3⟩ | ⟨q1, q2, q3⟩ | ⟨q1, q2, q3⟩
  · rw [q2, q3]; exact k0 q1
  · rw [q2, q3]; exact k1 q1
  · rw [q2, q3]; exact k2 q1
  · rw [q2, q3]; exact k3 q1
  · rw [q2, q3]; exact k4 q1
  · rw [q2, q3]; exact k5 q1
  · rw [q2, q3]; exact k6 q1
  · rw [q2, q3]; exact k7 q1
  · rw [q2, q3]; exact k8 q1
  · rw [q2, q3]; exact k9 q1
theorem r_callV11s {z : Nat} (C0 C1 C2 C3 C4 C5 C6 C7 C8 C9 C10 : Prop) (R0 R1 R2 R3 R4 R5 R6 R7 R8 R9 R10 : Value) (H0 H1 H2 H3 H4 H5 H6 H7 H8 H9 H10 : en_H) (pc' : Nat) (hp : pc + 3 = pc') (as rest : List Value) (ha : a < 900) (hq : en_take (.invokevirtual z, n, a, b, c) st = some (as, rest)) (hE : Ev d a as h (fun v h' => (C0 ∧ v = some R0 ∧ h' = H0) ∨ (C1 ∧ v = some R1 ∧ h' = H1) ∨ (C2 ∧ v = some R2 ∧ h' = H2) ∨ (C3 ∧ v = some R3 ∧ h' = H3) ∨ (C4 ∧ v = some R4 ∧ h' = H4) ∨ (C5 ∧ v = some R5 ∧ h' = H5) ∨ (C6 ∧ v = some R6 ∧ h' = H6) ∨ (C7 ∧ v = some R7 ∧ h' = H7) ∨ (C8 ∧ v = some R8 ∧ h' = H8) ∨ (C9 ∧ v = some R9 ∧ h' = H9) ∨ (C10 ∧ v = some R10 ∧ h' = H10))) (k0 : C0 → At d xs rt bs (pc', l, R0 :: rest, H0) Ph) (k1 : C1 → At d xs rt bs (pc', l, R1 :: rest, H1) Ph) (k2 : C2 → At d xs rt bs (pc', l, R2 :: rest, H2) Ph) (k3 : C3 → At d xs rt bs (pc', l, R3 :: rest, H3) Ph) (k4 : C4 → At d xs rt bs (pc', l, R4 :: rest, H4) Ph) (k5 : C5 → At d xs rt bs (pc', l, R5 :: rest, H5) Ph) (k6 : C6 → At d xs rt bs (pc', l, R6 :: rest, H6) Ph) (k7 : C7 → At d xs rt bs (pc', l, R7 :: rest, H7) Ph) (k8 : C8 → At d xs rt bs (pc', l, R8 :: rest, H8) Ph) (k9 : C9 → At d xs rt bs (pc', l, R9 :: rest, H9) Ph) (k10 : C10 → At d xs rt bs (pc', l, R10 :: rest, H10) Ph) : Ar d xs rt bs ((.invokevirtual z, n, a, b, c) :: r) (pc, l, st, h) Ph := by
  refine r_callV pc' hp as rest ha hq hE ?_
  intro v h' hv
  rcases hv with ⟨q1, q2, q3⟩ | ⟨q1, q2, q3⟩ | ⟨q1, q2, q3⟩ | ⟨q1, q2, q3⟩ | ⟨q1, q2, q3⟩ | ⟨q1, q2, q3⟩ | ⟨q1, q2, q3⟩ | ⟨q1, q2, q3⟩ | ⟨q1, q2, q3⟩ | ⟨q1, q2, q3⟩ | ⟨q1, q2, q3⟩
  · rw [q2, q3]; exact k0 q1
  · rw [q2, q3]; exact k1 q1
  · rw [q2, q3]; exact k2 q1
  · rw [q2, q3]; exact k3 q1
  · rw [q2, q3]; exact k4 q1
  · rw [q2, q3]; exact k5 q1
  · rw [q2, q3]; exact k6 q1
  · rw [q2, q3]; exact k7 q1
  · rw [q2, q3]; exact k8 q1
  · rw [q2, q3]; exact k9 q1
  · rw [q2, q3]; exact k10 q1
theorem r_callV11v {z : Nat} (C0 C1 C2 C3 C4 C5 C6 C7 C8 C9 C10 : Prop)  (H0 H1 H2 H3 H4 H5 H6 H7 H8 H9 H10 : en_H) (pc' : Nat) (hp : pc + 3 = pc') (as rest : List Value) (ha : a < 900) (hq : en_take (.invokevirtual z, n, a, b, c) st = some (as, rest)) (hE : Ev d a as h (fun v h' => (C0 ∧ v = none ∧ h' = H0) ∨ (C1 ∧ v = none ∧ h' = H1) ∨ (C2 ∧ v = none ∧ h' = H2) ∨ (C3 ∧ v = none ∧ h' = H3) ∨ (C4 ∧ v = none ∧ h' = H4) ∨ (C5 ∧ v = none ∧ h' = H5) ∨ (C6 ∧ v = none ∧ h' = H6) ∨ (C7 ∧ v = none ∧ h' = H7) ∨ (C8 ∧ v = none ∧ h' = H8) ∨ (C9 ∧ v = none ∧ h' = H9) ∨ (C10 ∧ v = none ∧ h' = H10))) (k0 : C0 → At d xs rt bs (pc', l, rest, H0) Ph) (k1 : C1 → At d xs rt bs (pc', l, rest, H1) Ph) (k2 : C2 → At d xs rt bs (pc', l, rest, H2) Ph) (k3 : C3 → At d xs rt bs (pc', l, rest, H3) Ph) (k4 : C4 → At d xs rt bs (pc', l, rest, H4) Ph) (k5 : C5 → At d xs rt bs (pc', l, rest, H5) Ph) (k6 : C6 → At d xs rt bs (pc', l, rest, H6) Ph) (k7 : C7 → At d xs rt bs (pc', l, rest, H7) Ph) (k8 : C8 → At d xs rt bs (pc', l, rest, H8) Ph) (k9 : C9 → At d xs rt bs (pc', l, rest, H9) Ph) (k10 : C10 → At d xs rt bs (pc', l, rest, H10) Ph) : Ar d xs rt bs ((.invokevirtual z, n, a, b, c) :: r) (pc, l, st, h) Ph := by
  refine r_callV pc' hp as rest ha hq hE ?_
  intro v h' hv
  rcases hv with ⟨q1, q2, q3⟩ | ⟨q1, q2, q3⟩ | ⟨q1, q2, q3⟩ | ⟨q1, q2, q3⟩ | ⟨q1, q2, q3⟩ | ⟨q1, q2, q3⟩ | ⟨q1, q2, q3⟩ | ⟨q1, q2, q3⟩ | ⟨q1, q2, q3⟩ | ⟨q1, q2, q3⟩ | ⟨q1, q2, q3⟩
  · rw [q2, q3]; exact k0 q1
  · rw [q2, q3]; exact k1 q1
  · rw [q2, q3]; exact k2 q1
  · rw [q2, q3]; exact k3 q1
  · rw [q2, q3]; exact k4 q1
  · rw [q2, q3]; exact k5 q1
  · rw [q2, q3]; exact k6 q1
  · rw [q2, q3]; exact k7 q1
  · rw [q2, q3]; exact k8 q1
  · rw [q2, q3]; exact k9 q1
  · rw [q2, q3]; exact k10 q1
theorem r_callV12s {z : Nat} (C0 C1 C2 C3 C4 C5 C6 C7 C8 C9 C10 C11 : Prop) (R0 R1 R2 R3 R4 R5 R6 R7 R8 R9 R10 R11 : Value) (H0 H1 H2 H3 H4 H5 H6 H7 H8 H9 H10 H11 : en_H) (pc' : Nat) (hp : pc + 3 = pc') (as rest : List Value) (ha : a < 900) (hq : en_take (.invokevirtual z, n, a, b, c) st = some (as, rest)) (hE : Ev d a as h (fun v h' => (C0 ∧ v = some R0 ∧ h' = H0) ∨ (C1 ∧ v = some R1 ∧ h' = H1) ∨ (C2 ∧ v = some R2 ∧ h' = H2) ∨ (C3 ∧ v = some R3 ∧ h' = H3) ∨ (C4 ∧ v = some R4 ∧ h' = H4) ∨ (C5 ∧ v = some R5 ∧ h' = H5) ∨ (C6 ∧ v = some R6 ∧ h' = H6) ∨ (C7 ∧ v = some R7 ∧ h' = H7) ∨ (C8 ∧ v = some R8 ∧ h' = H8) ∨ (C9 ∧ v = some R9 ∧ h' = H9) ∨ (C10 ∧ v = some R10 ∧ h' = H10) ∨ (C11 ∧ v = some R11 ∧ h' = H11))) (k0 : C0 → At d xs rt bs (pc', l, R0 :: rest, H0) Ph) (k1 : C1 → At d xs rt bs (pc', l, R1 :: rest, H1) Ph) (k2 : C2 → At d xs rt bs (pc', l, R2 :: rest, H2) Ph) (k3 : C3 → At d xs rt bs (pc', l, R3 :: rest, H3) Ph) (k4 : C4 → At d xs rt bs (pc', l, R4 :: rest, H4) Ph) (k5 : C5 → At d xs rt bs (pc', l, R5 :: rest, H5) Ph) (k6 : C6 → At d xs rt bs (pc', l, R6 :: rest, H6) Ph) (k7 : C7 → At d xs rt bs (pc', l, R7 :: rest, H7) Ph) (k8 : C8 → At d xs rt bs (pc', l, R8 :: rest, H8) Ph) (k9 : C9 → At d xs rt bs (pc', l, R9 :: rest, H9) Ph) (k10 : C10 → At d xs rt bs (pc', l, R10 :: rest, H10) Ph) (k11 : C11 → At d xs rt bs (pc', l, R11 :: rest, H11) Ph) : Ar d xs rt bs ((.invokevirtual z, n, a, b, c) :: r) (pc, l, st, h) Ph := by
  refine r_callV pc' hp as rest ha hq hE ?_
  intro v h' hv
  rcases hv with ⟨q1, q2, q3⟩ | ⟨q1, q2, q3⟩ | ⟨q1, q2, q3⟩ | ⟨q1, q2, q3⟩ | ⟨q1, q2, q3⟩ | ⟨q1, q2, q3⟩ | ⟨q1, q2, q3⟩ | ⟨q1, q2, q3⟩ | ⟨q1, q2, q3⟩ | ⟨q1, q2, q3⟩ | ⟨q1, q2, q3⟩ | ⟨q1, q2, q3⟩
  · rw [q2, q3]; exact k0 q1
  · rw [q2, q3]; exact k1 q1
  · rw [q2, q3]; exact k2 q1
  · rw [q2, q3]; exact k3 q1
  · rw [q2, q3]; exact k4 q1
  · rw [q2, q3]; exact k5 q1
  · rw [q2, q3]; exact k6 q1
  · rw [q2, q3]; exact k7 q1
  · rw [q2, q3]; exact k8 q1
  · rw [q2, q3]; exact k9 q1
  · rw [q2, q3]; exact k10 q1
  · rw [q2, q3]; exact k11 q1
theorem r_callV12v {z : Nat} (C0 C1 C2 C3 C4 C5 C6 C7 C8 C9 C10 C11 : Prop)  (H0 H1 H2 H3 H4 H5 H6 H7 H8 H9 H10 H11 : en_H) (pc' : Nat) (hp : pc + 3 = pc') (as rest : List Value) (ha : a < 900) (hq : en_take (.invokevirtual z, n, a, b, c) st = some (as, rest)) (hE : Ev d a as h (fun v h' => (C0 ∧ v = none ∧ h' = H0) ∨ (C1 ∧ v = none ∧ h' = H1) ∨ (C2 ∧ v = none ∧ h' = H2) ∨ (C3 ∧ v = none ∧ h' = H3) ∨ (C4 ∧ v = none ∧ h' = H4) ∨ (C5 ∧ v = none ∧ h' = H5) ∨ (C6 ∧ v = none ∧ h' = H6) ∨ (C7 ∧ v = none ∧ h' = H7) ∨ (C8 ∧ v = none ∧ h' = H8) ∨ (C9 ∧ v = none ∧ h' = H9) ∨ (C10 ∧ v = none ∧ h' = H10) ∨ (C11 ∧ v = none ∧ h' = H11))) (k0 : C0 → At d xs rt bs (pc', l, rest, H0) Ph) (k1 : C1 → At d xs rt bs (pc', l, rest, H1) Ph) (k2 : C2 → At d xs rt bs (pc', l, rest, H2) Ph) (k3 : C3 → At d xs rt bs (pc', l, rest, H3) Ph) (k4 : C4 → At d xs rt bs (pc', l, rest, H4) Ph) (k5 : C5 → At d xs rt bs (pc', l, rest, H5) Ph) (k6 : C6 → At d xs rt bs (pc', l, rest, H6) Ph) (k7 : C7 → At d xs rt bs (pc', l, rest, H7) Ph) (k8 : C8 → At d xs rt bs (pc', l, rest, H8) Ph) (k9 : C9 → At d xs rt bs (pc', l, rest, H9) Ph) (k10 : C10 → At d xs rt bs (pc', l, rest, H10) Ph) (k11 : C11 → At d xs rt bs (pc', l, rest, H11) Ph) : Ar d xs rt bs ((.invokevirtual z, n, a, b, c) :: r) (pc, l, st, h) Ph := by
  refine r_callV pc' hp as rest ha hq hE ?_
  intro v h' hv
  rcases hv with ⟨q1, q2, q3⟩ | ⟨q1, q2, q3⟩ | ⟨q1, q2, q3⟩ | ⟨q1, q2, q3⟩ | ⟨q1, q2, q3⟩ | ⟨q1, q2, q3⟩ | ⟨q1, q2, q3⟩ | ⟨q1, q2, q3⟩ | ⟨q1, q2, q3⟩ | ⟨q1, q2, q3⟩ | ⟨q1, q2, q3⟩ | ⟨q1, q2, q3⟩
  · rw [q2, q3]; exact k0 q1
  · rw [q2, q3]; exact k1 q1
  · rw [q2, q3]; exact k2 q1
  · rw [q2, q3]; exact k3 q1
  · rw [q2, q3]; exact k4 q1
  · rw [q2, q3]; exact k5 q1
  · rw [q2, q3]; exact k6 q1
  · rw [q2, q3]; exact k7 q1
  · rw [q2, q3]; exact k8 q1
  · rw [q2, q3]; exact k9 q1
  · rw [q2, q3]; exact k10 q1
  · rw [q2, q3]; exact k11 q1
theorem r_callS1s {z : Nat} (C0 : Prop) (R0 : Value) (H0 : en_H) (pc' : Nat) (hp : pc + 3 = pc') (as rest : List Value) (ha : a < 900) (hq : en_take (.invokestatic z, n, a, b, c) st = some (as, rest)) (hE : Ev d a as h (fun v h' => (C0 ∧ v = some R0 ∧ h' = H0))) (k0 : C0 → At d xs rt bs (pc', l, R0 :: rest, H0) Ph) : Ar d xs rt bs ((.invokestatic z, n, a, b, c) :: r) (pc, l, st, h) Ph := by
  refine r_callS pc' hp as rest ha hq hE ?_
  intro v h' hv
  obtain ⟨q1, q2, q3⟩ := hv
  rw [q2, q3]
  exact k0 q1
theorem r_callS1v {z : Nat} (C0 : Prop)  (H0 : en_H) (pc' : Nat) (hp : pc + 3 = pc') (as rest : List Value) (ha : a < 900) (hq : en_take (.invokestatic z, n, a, b, c) st = some (as, rest)) (hE : Ev d a as h (fun v h' => (C0 ∧ v = none ∧ h' = H0))) (k0 : C0 → At d xs rt bs (pc', l, rest, H0) Ph) : Ar d xs rt bs ((.invokestatic z, n, a, b, c) :: r) (pc, l, st, h) Ph := by
  refine r_callS pc' hp as rest ha hq hE ?_
  intro v h' hv
  obtain ⟨q1, q2, q3⟩ := hv
  rw [q2, q3]
  exact k0 q1
theorem r_callS2s {z : Nat} (C0 C1 : Prop) (R0 R1 : Value) (H0 H1 : en_H) (pc' : Nat) (hp : pc + 3 = pc') (as rest : List Value) (ha : a < 900) (hq : en_take (.invokestatic z, n, a, b, c) st = some (as, rest)) (hE : Ev d a as h (fun v h' => (C0 ∧ v = some R0 ∧ h' = H0) ∨ (C1 ∧ v = some R1 ∧ h' = H1))) (k0 : C0 → At d xs rt bs (pc', l, R0 :: rest, H0) Ph) (k1 : C1 → At d xs rt bs (pc', l, R1 :: rest, H1) Ph) : Ar d xs rt bs ((.invokestatic z, n, a, b, c) :: r) (pc, l, st, h) Ph := by
  refine r_callS pc' hp as rest ha hq hE ?_
  intro v h' hv
  rcases hv with ⟨q1, q2, q3⟩ | ⟨q1, q2, q3⟩
  · rw [q2, q3]; exact k0 q1
  · rw [q2, q3]; exact k1 q1
theorem r_callS2v {z : Nat} (C0 C1 : Prop)  (H0 H1 : en_H) (pc' : Nat) (hp : pc + 3 = pc') (as rest : List Value) (ha : a < 900) (hq : en_take (.invokestatic z, n, a, b, c) st = some (as, rest)) (hE : Ev d a as h (fun v h' => (C0 ∧ v = none ∧ h' = H0) ∨ (C1 ∧ v = none ∧ h' = H1))) (k0 : C0 → At d xs rt bs (pc', l, rest, H0) Ph) (k1 : C1 → At d xs rt bs (pc', l, rest, H1) Ph) : Ar d xs rt bs ((.invokestatic z, n, a, b, c) :: r) (pc, l, st, h) Ph := by
  refine r_callS pc' hp as rest ha hq hE ?_
  intro v h' hv
  rcases hv with ⟨q1, q2, q3⟩ | ⟨q1, q2, q3⟩
  · rw [q2, q3]; exact k0 q1
  · rw [q2, q3]; exact k1 q1
theorem r_callS3s {z : Nat} (C0 C1 C2 : Prop) (R0 R1 R2 : Value) (H0 H1 H2 : en_H) (pc' : Nat) (hp : pc + 3 = pc') (as rest : List Value) (ha : a < 900) (hq : en_take (.invokestatic z, n, a, b, c) st = some (as, rest)) (hE : Ev d a as h (fun v h' => (C0 ∧ v = some R0 ∧ h' = H0) ∨ (C1 ∧ v = some R1 ∧ h' = H1) ∨ (C2 ∧ v = some R2 ∧ h' = H2))) (k0 : C0 → At d xs rt bs (pc', l, R0 :: rest, H0) Ph) (k1 : C1 → At d xs rt bs (pc', l, R1 :: rest, H1) Ph) (k2 : C2 → At d xs rt bs (pc', l, R2 :: rest, H2) Ph) : Ar d xs rt bs ((.invokestatic z, n, a, b, c) :: r) (pc, l, st, h) Ph := by
  refine r_callS pc' hp as rest ha hq hE ?_
  intro v h' hv
  rcases hv with ⟨q1, q2, q3⟩ | ⟨q1, q2, q3⟩ | ⟨q1, q2, q3⟩
  · rw [q2, q3]; exact k0 q1
  · rw [q2, q3]; exact k1 q1
  · rw [q2, q3]; exact k2 q1
theorem r_callS3v {z : Nat} (C0 C1 C2 : Prop)  (H0 H1 H2 : en_H) (pc' : Nat) (hp : pc + 3 = pc') (as rest : List Value) (ha : a < 900) (hq : en_take (.invokestatic z, n, a, b, c) st = some (as, rest)) (hE : Ev d a as h (fun v h' => (C0 ∧ v = none ∧ h' = H0) ∨ (C1 ∧ v = none ∧ h' = H1) ∨ (C2 ∧ v = none ∧ h' = H2))) (k0 : C0 → At d xs rt bs (pc', l, rest, H0) Ph) (k1 : C1 → At d xs rt bs (pc', l, rest, H1) Ph) (k2 : C2 → At d xs rt bs (pc', l, rest, H2) Ph) : Ar d xs rt bs ((.invokestatic z, n, a, b, c) :: r) (pc, l, st, h) Ph := by
  refine r_callS pc' hp as rest ha hq hE ?_
  intro v h' hv
  rcases hv with ⟨q1, q2, q3⟩ | ⟨q1, q2, q3⟩ | ⟨q1, q2, q3⟩
  · rw [q2, q3]; exact k0 q1
  · rw [q2, q3]; exact k1 q1
  · rw [q2, q3]; exact k2 q1
theorem r_callS4s {z : Nat} (C0 C1 C2 C3 : Prop) (R0 R1 R2 R3 : Value) (H0 H1 H2 H3 : en_H) (pc' : Nat) (hp : pc + 3 = pc') (as rest : List Value) (ha : a < 900) (hq : en_take (.invokestatic z, n, a, b, c) st = some (as, rest)) (hE : Ev d a as h (fun v h' => (C0 ∧ v = some R0 ∧ h' = H0) ∨ (C1 ∧ v = some R1 ∧ h' = H1) ∨ (C2 ∧ v = some R2 ∧ h' = H2) ∨ (C3 ∧ v = some R3 ∧ h' = H3))) (k0 : C0 → At d xs rt bs (pc', l, R0 :: rest, H0) Ph) (k1 : C1 → At d xs rt bs (pc', l, R1 :: rest, H1) Ph) (k2 : C2 → At d xs rt bs (pc', l, R2 :: rest, H2) Ph) (k3 : C3 → At d xs rt bs (pc', l, R3 :: rest, H3) Ph) : Ar d xs rt bs ((.invokestatic z, n, a, b, c) :: r) (pc, l, st, h) Ph := by
  refine r_callS pc' hp as rest ha hq hE ?_
  intro v h' hv
  rcases hv with ⟨q1, q2, q3⟩ | ⟨q1, q2, q3⟩ | ⟨q1, q2, q3⟩ | ⟨q1, q2, q3⟩
  · rw [q2, q3]; exact k0 q1
  · rw [q2, q3]; exact k1 q1
  · rw [q2, q3]; exact k2 q1
  · rw [q2, q3]; exact k3 q1
theorem r_callS4v {z : Nat} (C0 C1 C2 C3 : Prop)  (H0 H1 H2 H3 : en_H) (pc' : Nat) (hp : pc + 3 = pc') (as rest : List Value) (ha : a < 900) (hq : en_take (.invokestatic z, n, a, b, c) st = some (as, rest)) (hE : Ev d a as h (fun v h' => (C0 ∧ v = none ∧ h' = H0) ∨ (C1 ∧ v = none ∧ h' = H1) ∨ (C2 ∧ v = none ∧ h' = H2) ∨ (C3 ∧ v = none ∧ h' = H3))) (k0 : C0 → At d xs rt bs (pc', l, rest, H0) Ph) (k1 : C1 → At d xs rt bs (pc', l, rest, H1) Ph) (k2 : C2 → At d xs rt bs (pc', l, rest, H2) Ph) (k3 : C3 → At d xs rt bs (pc', l, rest, H3) Ph) : Ar d xs rt bs ((.invokestatic z, n, a, b, c) :: r) (pc, l, st, h) Ph := by
  refine r_callS pc' hp as rest ha hq hE ?_
  intro v h' hv
  rcases hv with ⟨q1, q2, q3⟩ | ⟨q1, q2, q3⟩ | ⟨q1, q2, q3⟩ | ⟨q1, q2, q3⟩
  · rw [q2, q3]; exact k0 q1
  · rw [q2, q3]; exact k1 q1
  · rw [q2, q3]; exact k2 q1
  · rw [q2, q3]; exact k3 q1
theorem r_callS5s {z : Nat} (C0 C1 C2 C3 C4 : Prop) (R0 R1 R2 R3 R4 : Value) (H0 H1 H2 H3 H4 : en_H) (pc' : Nat) (hp : pc + 3 = pc') (as rest : List Value) (ha : a < 900) (hq : en_take (.invokestatic z, n, a, b, c) st = some (as, rest)) (hE : Ev d a as h (fun v h' => (C0 ∧ v = some R0 ∧ h' = H0) ∨ (C1 ∧ v = some R1 ∧ h' = H1) ∨ (C2 ∧ v = some R2 ∧ h' = H2) ∨ (C3 ∧ v = some R3 ∧ h' = H3) ∨ (C4 ∧ v = some R4 ∧ h' = H4))) (k0 : C0 → At d xs rt bs (pc', l, R0 :: rest, H0) Ph) (k1 : C1 → At d xs rt bs (pc', l, R1 :: rest, H1) Ph) (k2 : C2 → At d xs rt bs (pc', l, R2 :: rest, H2) Ph) (k3 : C3 → At d xs rt bs (pc', l, R3 :: rest, H3) Ph) (k4 : C4 → At d xs rt bs (pc', l, R4 :: rest, H4) Ph) : Ar d xs rt bs ((.invokestatic z, n, a, b, c) :: r) (pc, l, st, h) Ph := by
  refine r_callS pc' hp as rest ha hq hE ?_
  intro v h' hv
  rcases hv with ⟨q1, q2, q3⟩ | ⟨q1, q2, q3⟩ | ⟨q1, q2, q3⟩ | ⟨q1, q2, q3⟩ | ⟨q1, q2, q3⟩
  · rw [q2, q3]; exact k0 q1
  · rw [q2, q3]; exact k1 q1
  · rw [q2, q3]; exact k2 q1
  · rw [q2, q3]; exact k3 q1
  · rw [q2, q3]; exact k4 q1
theorem r_callS5v {z : Nat} (C0 C1 C2 C3 C4 : Prop)  (H0 H1 H2 H3 H4 : en_H) (pc' : Nat) (hp : pc + 3 = pc') (as rest : List Value) (ha : a < 900) (hq : en_take (.invokestatic z, n, a, b, c) st = some (as, rest)) (hE : Ev d a as h (fun v h' => (C0 ∧ v = none ∧ h' = H0) ∨ (C1 ∧ v = none ∧ h' = H1) ∨ (C2 ∧ v = none ∧ h' = H2) ∨ (C3 ∧ v = none ∧ h' = H3) ∨ (C4 ∧ v = none ∧ h' = H4))) (k0 : C0 → At d xs rt bs (pc', l, rest, H0) Ph) (k1 : C1 → At d xs rt bs (pc', l, rest, H1) Ph) (k2 : C2 → At d xs rt bs (pc', l, rest, H2) Ph) (k3 : C3 → At d xs rt bs (pc', l, rest, H3) Ph) (k4 : C4 → At d xs rt bs (pc', l, rest, H4) Ph) : Ar d xs rt bs ((.invokestatic z, n, a, b, c) :: r) (pc, l, st, h) Ph := by
  refine r_callS pc' hp as rest ha hq hE ?_
  intro v h' hv
  rcases hv with ⟨q1, q2, q3⟩ | ⟨q1, q2, q3⟩ | ⟨q1, q2, q3⟩ | ⟨q1, q2, q3⟩ | ⟨q1, q2, q3⟩
  · rw [q2, q3]; exact k0 q1
  · rw [q2, q3]; exact k1 q1
  · rw [q2, q3]; exact k2 q1
  · rw [q2, q3]; exact k3 q1
  · rw [q2, q3]; exact k4 q1
theorem r_callS6s {z : Nat} (C0 C1 C2 C3 C4 C5 : Prop) (R0 R1 R2 R3 R4 R5 : Value) (H0 H1 H2 H3 H4 H5 : en_H) (pc' : Nat) (hp : pc + 3 = pc') (as rest : List Value) (ha : a < 900) (hq : en_take (.invokestatic z, n, a, b, c) st = some (as, rest)) (hE : Ev d a as h (fun v h' => (C0 ∧ v = some R0 ∧ h' = H0) ∨ (C1 ∧ v = some R1 ∧ h' = H1) ∨ (C2 ∧ v = some R2 ∧ h' = H2) ∨ (C3 ∧ v = some R3 ∧ h' = H3) ∨ (C4 ∧ v = some R4 ∧ h' = H4) ∨ (C5 ∧ v = some R5 ∧ h' = H5))) (k0 : C0 → At d xs rt bs (pc', l, R0 :: rest, H0) Ph) (k1 : C1 → At d xs rt bs (pc', l, R1 :: rest, H1) Ph) (k2 : C2 → At d xs rt bs (pc', l, R2 :: rest, H2) Ph) (k3 : C3 → At d xs rt bs (pc', l, R3 :: rest, H3) Ph) (k4 : C4 → At d xs rt bs (pc', l, R4 :: rest, H4) Ph) (k5 : C5 → At d xs rt bs (pc', l, R5 :: rest, H5) Ph) : Ar d xs rt bs ((.invokestatic z, n, a, b, c) :: r) (pc, l, st, h) Ph := by
  refine r_callS pc' hp as rest ha hq hE ?_
  intro v h' hv
  rcases hv with ⟨q1, q2, q3⟩ | ⟨q1, q2, q3⟩ | ⟨q1, q2, q3⟩ | ⟨q1, q2, q3⟩ | ⟨q1, q2, q3⟩ | ⟨q1, q2, q3⟩
  · rw [q2, q3]; exact k0 q1
  · rw [q2, q3]; exact k1 q1
  · rw [q2, q3]; exact k2 q1
  · rw [q2, q3]; exact k3 q1
  · rw [q2, q3]; exact k4 q1
  · rw [q2, q3]; exact k5 q1
theorem r_callS6v {z : Nat} (C0 C1 C2 C3 C4 C5 : Prop)  (H0 H1 H2 H3 H4 H5 : en_H) (pc' : Nat) (hp : pc + 3 = pc') (as rest : List Value) (ha : a < 900) (hq : en_take (.invokestatic z, n, a, b, c) st = some (as, rest)) (hE : Ev d a as h (fun v h' => (C0 ∧ v = none ∧ h' = H0) ∨ (C1 ∧ v = none ∧ h' = H1) ∨ (C2 ∧ v = none ∧ h' = H2) ∨ (C3 ∧ v = none ∧ h' = H3) ∨ (C4 ∧ v = none ∧ h' = H4) ∨ (C5 ∧ v = none ∧ h' = H5))) (k0 : C0 → At d xs rt bs (pc', l, rest, H0) Ph) (k1 : C1 → At d xs rt bs (pc', l, rest, H1) Ph) (k2 : C2 → At d xs rt bs (pc', l, rest, H2) Ph) (k3 : C3 → At d xs rt bs (pc', l, rest, H3) Ph) (k4 : C4 → At d xs rt bs (pc', l, rest, H4) Ph) (k5 : C5 → At d xs rt bs (pc', l, rest, H5) Ph) : Ar d xs rt bs ((.invokestatic z, n, a, b, c) :: r) (pc, l, st, h) Ph := by
  refine r_callS pc' hp as rest ha hq hE ?_
  intro v h' hv
  rcases hv with ⟨q1, q2, q3⟩ | ⟨q1, q2, q3⟩ | ⟨q1, q2, q3⟩ | ⟨q1, q2, q3⟩ | ⟨q1, q2, q3⟩ | ⟨q1, q2, q3⟩
  · rw [q2, q3]; exact k0 q1
  · rw [q2, q3]; exact k1 q1
  · rw [q2, q3]; exact k2 q1
  · rw [q2, q3]; exact k3 q1
  · rw [q2, q3]; exact k4 q1
  · rw [q2, q3]; exact k5 q1
theorem r_callS7s {z : Nat} (C0 C1 C2 C3 C4 C5 C6 : Prop) (R0 R1 R2 R3 R4 R5 R6 : Value) (H0 H1 H2 H3 H4 H5 H6 : en_H) (pc' : Nat) (hp : pc + 3 = pc') (as rest : List Value) (ha : a < 900) (hq : en_take (.invokestatic z, n, a, b, c) st = some (as, rest)) (hE : Ev d a as h (fun v h' => (C0 ∧ v = some R0 ∧ h' = H0) ∨ (C1 ∧ v = some R1 ∧ h' = H1) ∨ (C2 ∧ v = some R2 ∧ h' = H2) ∨ (C3 ∧ v = some R3 ∧ h' = H3) ∨ (C4 ∧ v = some R4 ∧ h' = H4) ∨ (C5 ∧ v = some R5 ∧ h' = H5) ∨ (C6 ∧ v = some R6 ∧ h' = H6))) (k0 : C0 → At d xs rt bs (pc', l, R0 :: rest, H0) Ph) (k1 : C1 → At d xs rt bs (pc', l, R1 :: rest, H1) Ph) (k2 : C2 → At d xs rt bs (pc', l, R2 :: rest, H2) Ph) (k3 : C3 → At d xs rt bs (pc', l, R3 :: rest, H3) Ph) (k4 : C4 → At d xs rt bs (pc', l, R4 :: rest, H4) Ph) (k5 : C5 → At d xs rt bs (pc', l, R5 :: rest, H5) Ph) (k6 : C6 → At d xs rt bs (pc', l, R6 :: rest, H6) Ph) : Ar d xs rt bs ((.invokestatic z, n, a, b, c) :: r) (pc, l, st, h) Ph := by
  refine r_callS pc' hp as rest ha hq hE ?_
  intro v h' hv
  rcases hv with ⟨q1, q2, q3⟩ | ⟨q1, q2, q3⟩ | ⟨q1, q2, q3⟩ | ⟨q1, q2, q3⟩ | ⟨q1, q2, q3⟩ | ⟨q1, q2, q3⟩ | ⟨q1, q2, q3⟩
  · rw [q2, q3]; exact k0 q1
  · rw [q2, q3]; exact k1 q1
  · rw [q2, q3]; exact k2 q1
  · rw [q2, q3]; exact k3 q1
  · rw [q2, q3]; exact k4 q1
  · rw [q2, q3]; exact k5 q1
  · rw [q2, q3]; exact k6 q1
theorem r_callS7v {z : Nat} (C0 C1 C2 C3 C4 C5 C6 : Prop)  (H0 H1 H2 H3 H4 H5 H6 : en_H) (pc' : Nat) (hp : pc + 3 = pc') (as rest : List Value) (ha : a < 900) (hq : en_take (.invokestatic z, n, a, b, c) st = some (as, rest)) (hE : Ev d a as h (fun v h' => (C0 ∧ v = none ∧ h' = H0) ∨ (C1 ∧ v = none ∧ h' = H1) ∨ (C2 ∧ v = none ∧ h' = H2) ∨ (C3 ∧ v = none ∧ h' = H3) ∨ (C4 ∧ v = none ∧ h' = H4) ∨ (C5 ∧ v = none ∧ h' = H5) ∨ (C6 ∧ v = none ∧ h' = H6))) (k0 : C0 → At d xs rt bs (pc', l, rest, H0) Ph) (k1 : C1 → At d xs rt bs (pc', l, rest, H1) Ph) (k2 : C2 → At d xs rt bs (pc', l, rest, H2) Ph) (k3 : C3 → At d xs rt bs (pc', l, rest, H3) Ph) (k4 : C4 → At d xs rt bs (pc', l, rest, H4) Ph) (k5 : C5 → At d xs rt bs (pc', l, rest, H5) Ph) (k6 : C6 → At d xs rt bs (pc', l, rest, H6) Ph) : Ar d xs rt bs ((.invokestatic z, n, a, b, c) :: r) (pc, l, st, h) Ph := by
  refine r_callS pc' hp as rest ha hq hE ?_
  intro v h' hv
  rcases hv with ⟨q1, q2, q3⟩ | ⟨q1, q2, q3⟩ | ⟨q1, q2, q3⟩ | ⟨q1, q2, q3⟩ | ⟨q1, q2, q3⟩ | ⟨q1, q2, q3⟩ | ⟨q1, q2, q3⟩
  · rw [q2, q3]; exact k0 q1
  · rw [q2, q3]; exact k1 q1
  · rw [q2, q3]; exact k2 q1
  · rw [q2, q3]; exact k3 q1
  · rw [q2, q3]; exact k4 q1
  · rw [q2, q3]; exact k5 q1
  · rw [q2, q3]; exact k6 q1
theorem r_callS8s {z : Nat} (C0 C1 C2 C3 C4 C5 C6 C7 : Prop) (R0 R1 R2 R3 R4 R5 R6 R7 : Value) (H0 H1 H2 H3 H4 H5 H6 H7 : en_H) (pc' : Nat) (hp : pc + 3 = pc') (as rest : List Value) (ha : a < 900) (hq : en_take (.invokestatic z, n, a, b, c) st = some (as, rest)) (hE : Ev d a as h (fun v h' => (C0 ∧ v = some R0 ∧ h' = H0) ∨ (C1 ∧ v = some R1 ∧ h' = H1) ∨ (C2 ∧ v = some R2 ∧ h' = H2) ∨ (C3 ∧ v = some R3 ∧ h' = H3) ∨ (C4 ∧ v = some R4 ∧ h' = H4) ∨ (C5 ∧ v = some R5 ∧ h' = H5) ∨ (C6 ∧ v = some R6 ∧ h' = H6) ∨ (C7 ∧ v = some R7 ∧ h' = H7))) (k0 : C0 → At d xs rt bs (pc', l, R0 :: rest, H0) Ph) (k1 : C1 → At d xs rt bs (pc', l, R1 :: rest, H1) Ph) (k2 : C2 → At d xs rt bs (pc', l, R2 :: rest, H2) Ph) (k3 : C3 → At d xs rt bs (pc', l, R3 :: rest, H3) Ph) (k4 : C4 → At d xs rt bs (pc', l, R4 :: rest, H4) Ph) (k5 : C5 → At d xs rt bs (pc', l, R5 :: rest, H5) Ph) (k6 : C6 → At d xs rt bs (pc', l, R6 :: rest, H6) Ph) (k7 : C7 → At d xs rt bs (pc', l, R7 :: rest, H7) Ph) : Ar d xs rt bs ((.invokestatic z, n, a, b, c) :: r) (pc, l, st, h) Ph := by
  refine r_callS pc' hp as rest ha hq hE ?_
  intro v h' hv
  rcases hv with ⟨q1, q2, q3⟩ | ⟨q1, q2, q3⟩ | ⟨q1, q2, q3⟩ | ⟨q1, q2, q3⟩ | ⟨q1, q2, q3⟩ | ⟨q1, q2, q3⟩ | ⟨q1, q2, q3⟩ | ⟨q1, q2, q3⟩
  · rw [q2, q3]; exact k0 q1
  · rw [q2, q3]; exact k1 q1
  · rw [q2, q3]; exact k2 q1
  · rw [q2, q3]; exact k3 q1
  · rw [q2, q3]; exact k4 q1
  · rw [q2, q3]; exact k5 q1
  · rw [q2, q3]; exact k6 q1
  · rw [q2, q3]; exact k7 q1
theorem r_callS8v {z : Nat} (C0 C1 C2 C3 C4 C5 C6 C7 : Prop)  (H0 H1 H2 H3 H4 H5 H6 H7 : en_H) (pc' : Nat) (hp : pc + 3 = pc') (as rest : List Value) (ha : a < 900) (hq : en_take (.invokestatic z, n, a, b, c) st = some (as, rest)) (hE : Ev d a as h (fun v h' => (C0 ∧ v = none ∧ h' = H0) ∨ (C1 ∧ v = none ∧ h' = H1) ∨ (C2 ∧ v = none ∧ h' = H2) ∨ (C3 ∧ v = none ∧ h' = H3) ∨ (C4 ∧ v = none ∧ h' = H4) ∨ (C5 ∧ v = none ∧ h' = H5) ∨ (C6 ∧ v = none ∧ h' = H6) ∨ (C7 ∧ v = none ∧ h' = H7))) (k0 : C0 → At d xs rt bs (pc', l, rest, H0) Ph) (k1 : C1 → At d xs rt bs (pc', l, rest, H1) Ph) (k2 : C2 → At d xs rt bs (pc', l, rest, H2) Ph) (k3 : C3 → At d xs rt bs (pc', l, rest, H3) Ph) (k4 : C4 → At d xs rt bs (pc', l, rest, H4) Ph) (k5 : C5 → At d xs rt bs (pc', l, rest, H5) Ph) (k6 : C6 → At d xs rt bs (pc', l, rest, H6) Ph) (k7 : C7 → At d xs rt bs (pc', l, rest, H7) Ph) : Ar d xs rt bs ((.invokestatic z, n, a, b, c) :: r) (pc, l, st, h) Ph := by
  refine r_callS pc' hp as rest ha hq hE ?_
  intro v h' hv
  rcases hv with ⟨q1, q2, q3⟩ | ⟨q1, q2, q3⟩ | ⟨q1, q2, q3⟩ | ⟨q1, q2, q3⟩ | ⟨q1, q2, q3⟩ | ⟨q1, q2, q3⟩ | ⟨q1, q2, q3⟩ | ⟨q1, q2, q3⟩
  · rw [q2, q3]; exact k0 q1
  · rw [q2, q3]; exact k1 q1
  · rw [q2, q3]; exact k2 q1
  · rw [q2, q3]; exact k3 q1
  · rw [q2, q3]; exact k4 q1
  · rw [q2, q3]; exact k5 q1
  · rw [q2, q3]; exact k6 q1
  · rw [q2, q3]; exact k7 q1
theorem r_callS9s {z : Nat} (C0 C1 C2 C3 C4 C5 C6 C7 C8 : Prop) (R0 R1 R2 R3 R4 R5 R6 R7 R8 : Value) (H0 H1 H2 H3 H4 H5 H6 H7 H8 : en_H) (pc' : Nat) (hp : pc + 3 = pc') (as rest : List Value) (ha : a < 900) (hq : en_take (.invokestatic z, n, a, b, c) st = some (as, rest)) (hE : Ev d a as h (fun v h' => (C0 ∧ v = some R0 ∧ h' = H0) ∨ (C1 ∧ v = some R1 ∧ h' = H1) ∨ (C2 ∧ v = some R2 ∧ h' = H2) ∨ (C3 ∧ v = some R3 ∧ h' = H3) ∨ (C4 ∧ v = some R4 ∧ h' = H4) ∨ (C5 ∧ v = some R5 ∧ h' = H5) ∨ (C6 ∧ v = some R6 ∧ h' = H6) ∨ (C7 ∧ v = some R7 ∧ h' = H7) ∨ (C8 ∧ v = some R8 ∧ h' = H8))) (k0 : C0 → At d xs rt bs (pc', l, R0 :: rest, H0) Ph) (k1 : C1 → At d xs rt bs (pc', l, R1 :: rest, H1) Ph) (k2 : C2 → At d xs rt bs (pc', l, R2 :: rest, H2) Ph) (k3 : C3 → At d xs rt bs (pc', l, R3 :: rest, H3) Ph) (k4 : C4 → At d xs rt bs (pc', l, R4 :: rest, H4) Ph) (k5 : C5 → At d xs rt bs (pc', l, R5 :: rest, H5) Ph) (k6 : C6 → At d xs rt bs (pc', l, R6 :: rest, H6) Ph) (k7 : C7 → At d xs rt bs (pc', l, R7 :: rest, H7) Ph) (k8 : C8 → At d xs rt bs (pc', l, R8 :: rest, H8) Ph) : Ar d xs rt bs ((.invokestatic z, n, a, b, c) :: r) (pc, l, st, h) Ph := by
  refine r_callS pc' hp as rest ha hq hE ?_
  intro v h' hv
  rcases hv with ⟨q1, q2, q3⟩ | ⟨q1, q2, q3⟩ | ⟨q1, q2, q3⟩ | ⟨q1, q2, q3⟩ | ⟨q1, q2, q3⟩ | ⟨q1, q2, q3⟩ | ⟨q1, q2, q3⟩ | ⟨q1, q2, q3⟩ | ⟨q1, q2, q3⟩
  · rw [q2, q3]; exact k0 q1
  · rw [q2, q3]; exact k1 q1
  · rw [q2, q3]; exact k2 q1
  · rw [q2, q3]; exact k3 q1
  · rw [q2, q3]; exact k4 q1
  · rw [q2, q3]; exact k5 q1
  · rw [q2, q3]; exact k6 q1
  · rw [q2, q3]; exact k7 q1
  · rw [q2, q3]; exact k8 q1
theorem r_callS9v {z : Nat} (C0 C1 C2 C3 C4 C5 C6 C7 C8 : Prop)  (H0 H1 H2 H3 H4 H5 H6 H7 H8 : en_H) (pc' : Nat) (hp : pc + 3 = pc') (as rest : List Value) (ha : a < 900) (hq : en_take (.invokestatic z, n, a, b, c) st = some (as, rest)) (hE : Ev d a as h (fun v h' => (C0 ∧ v = none ∧ h' = H0) ∨ (C1 ∧ v = none ∧ h' = H1) ∨ (C2 ∧ v = none ∧ h' = H2) ∨ (C3 ∧ v = none ∧ h' = H3) ∨ (C4 ∧ v = none ∧ h' = H4) ∨ (C5 ∧ v = none ∧ h' = H5) ∨ (C6 ∧ v = none ∧ h' = H6) ∨ (C7 ∧ v = none ∧ h' = H7) ∨ (C8 ∧ v = none ∧ h' = H8))) (k0 : C0 → At d xs rt bs (pc', l, rest, H0) Ph) (k1 : C1 → At d xs rt bs (pc', l, rest, H1) Ph) (k2 : C2 → At d xs rt bs (pc', l, rest, H2) Ph) (k3 : C3 → At d xs rt bs (pc', l, rest, H3) Ph) (k4 : C4 → At d xs rt bs (pc', l, rest, H4) Ph) (k5 : C5 → At d xs rt bs (pc', l, rest, H5) Ph) (k6 : C6 → At d xs rt bs (pc', l, rest, H6) Ph) (k7 : C7 → At d xs rt bs (pc', l, rest, H7) Ph) (k8 : C8 → At d xs rt bs (pc', l, rest, H8) Ph) : Ar d xs rt bs ((.invokestatic z, n, a, b, c) :: r) (pc, l, st, h) Ph := by
  refine r_callS pc' hp as rest ha hq hE ?_
  intro v h' hv
  rcases hv with ⟨q1, q2, q3⟩ | ⟨q1, q2, q3⟩ | ⟨q1, q2, q3⟩ | ⟨q1, q2, q3⟩ | ⟨q1, q2, q3⟩ | ⟨q1, q2, q3⟩ | ⟨q1, q2, q3⟩ | ⟨q1, q2, q3⟩ | ⟨q1, q2, q3⟩
  · rw [q2, q3]; exact k0 q1
  · rw [q2, q3]; exact k1 q1
  · rw [q2, q3]; exact k2 q1
  · rw [q2, q3]; exact k3 q1
  · rw [q2, q3]; exact k4 q1
  · rw [q2, q3]; exact k5 q1
  · rw [q2, q3]; exact k6 q1
  · rw [q2, q3]; exact k7 q1
  · rw [q2, q3]; exact k8 q1
theorem r_callS10s {z : Nat} (C0 C1 C2 C3 C4 C5 C6 C7 C8 C9 : Prop) (R0 R1 R2 R3 R4 R5 R6 R7 R8 R9 : Value) (H0 H1 H2 H3 H4 H5 H6 H7 H8 H9 : en_H) (pc' : Nat) (hp : pc + 3 = pc') (as rest : List Value) (ha : a < 900) (hq : en_take (.invokestatic z, n, a, b, c) st = some (as, rest)) (hE : Ev d a as h (fun v h' => (C0 ∧ v = some R0 ∧ h' = H0) ∨ (C1 ∧ v = some R1 ∧ h' = H1) ∨ (C2 ∧ v = some R2 ∧ h' = H2) ∨ (C3 ∧ v = some R3 ∧ h' = H3) ∨ (C4 ∧ v = some R4 ∧ h' = H4) ∨ (C5 ∧ v = some R5 ∧ h' = H5) ∨ (C6 ∧ v = some R6 ∧ h' = H6) ∨ (C7 ∧ v = some R7 ∧ h' = H7) ∨ (C8 ∧ v = some R8 ∧ h' = H8) ∨ (C9 ∧ v = some R9 ∧ h' = H9))) (k0 : C0 → At d xs rt bs (pc', l, R0 :: rest, H0) Ph) (k1 : C1 → At d xs rt bs (pc', l, R1 :: rest, H1) Ph) (k2 : C2 → At d xs rt bs (pc', l, R2 :: rest, H2) Ph) (k3 : C3 → At d xs rt bs (pc', l, R3 :: rest, H3) Ph) (k4 : C4 → At d xs rt bs (pc', l, R4 :: rest, H4) Ph) (k5 : C5 → At d xs rt bs (pc', l, R5 :: rest, H5) Ph) (k6 : C6 → At d xs rt bs (pc', l, R6 :: rest, H6) Ph) (k7 : C7 → At d xs rt bs (pc', l, R7 :: rest, H7) Ph) (k8 : C8 → At d xs rt bs (pc', l, R8 :: rest, H8) Ph) (k9 : C9 → At d xs rt bs (pc', l, R9 :: rest, H9) Ph) : Ar d xs rt bs ((.invokestatic z, n, a, b, c) :: r) (pc, l, st, h) Ph := by
  refine r_callS pc' hp as rest ha hq hE ?_
  intro v h' hv
  rcases hv with ⟨q1, q2, q3⟩ | ⟨q1, q2, q3⟩ | ⟨q1, q2, q3⟩ | ⟨q1, q2, q3⟩ | ⟨q1, q2, q3⟩ | ⟨q1, q2, q3⟩ | ⟨q1, q2, q3⟩ | ⟨q1, q2, q3⟩ | ⟨q1, q2, q3⟩ | ⟨q1, q2, q3⟩
  · rw [q2, q3]; exact k0 q1
  · rw [q2, q3]; exact k1 q1
  · rw [q2, q3]; exact k2 q1
  · rw [q2, q3]; exact k3 q1
  · rw [q2, q3]; exact k4 q1
  · rw [q2, q3]; exact k5 q1
  · rw [q2, q3]; exact k6 q1
  · rw [q2, q3]; exact k7 q1
  · rw [q2, q3]; exact k8 q1
  · rw [q2, q3]; exact k9 q1
theorem r_callS10v {z : Nat} (C0 C1 C2 C3 C4 C5 C6 C7 C8 C9 : Prop)  (H0 H1 H2 H3 H4 H5 H6 H7 H8 H9 : en_H) (pc' : Nat) (hp : pc + 3 = pc') (as rest : List Value) (ha : a < 900) (hq : en_take (.invokestatic z, n, a, b, c) st = some (as, rest)) (hE : Ev d a as h (fun v h' => (C0 ∧ v = none ∧ h' = H0) ∨ (C1 ∧ v = none ∧ h' = H1) ∨ (C2 ∧ v = none ∧ h' = H2) ∨ (C3 ∧ v = none ∧ h' = H3) ∨ (C4 ∧ v = none ∧ h' = H4) ∨ (C5 ∧ v = none ∧ h' = H5) ∨ (C6 ∧ v = none ∧ h' = H6) ∨ (C7 ∧ v = none ∧ h' = H7) ∨ (C8 ∧ v = none ∧ h' = H8) ∨ (C9 ∧ v = none ∧ h' = H9))) (k0 : C0 → At d xs rt bs (pc', l, rest, H0) Ph) (k1 : C1 → At d xs rt bs (pc', l, rest, H1) Ph) (k2 : C2 → At d xs rt bs (pc', l, rest, H2) Ph) (k3 : C3 → At d xs rt bs (pc', l, rest, H3) Ph) (k4 : C4 → At d xs rt bs (pc', l, rest, H4) Ph) (k5 : C5 → At d xs rt bs (pc', l, rest, H5) Ph) (k6 : C6 → At d xs rt bs (pc', l, rest, H6) Ph) (k7 : C7 → At d xs rt bs (pc', l, rest, H7) Ph) (k8 : C8 → At d xs rt bs (pc', l, rest, H8) Ph) (k9 : C9 → At d xs rt bs (pc', l, rest, H9) Ph) : Ar d xs rt bs ((.invokestatic z, n, a, b, c) :: r) (pc, l, st, h) Ph := by
  refine r_callS pc' hp as rest ha hq hE ?_
  intro v h' hv
  rcases hv with ⟨q1, q2, q3⟩ | ⟨q1, q2, q3⟩ | ⟨q1, q2, q3⟩ | ⟨q1, q2, q3⟩ | ⟨q1, q2, q3⟩ | ⟨q1, q2, q3⟩ | ⟨q1, q2, q3⟩ | ⟨q1, q2, q3⟩ | ⟨q1, q2, q3⟩ | ⟨q1, q2, q3⟩
  · rw [q2, q3]; exact k0 q1
  · rw [q2, q3]; exact k1 q1
  · rw [q2, q3]; exact k2 q1
  · rw [q2, q3]; exact k3 q1
  · rw [q2, q3]; exact k4 q1
  · rw [q2, q3]; exact k5 q1
  · rw [q2, q3]; exact k6 q1
  · rw [q2, q3]; exact k7 q1
  · rw [q2, q3]; exact k8 q1
  · rw [q2, q3]; exact k9 q1
theorem r_callS11s {z : Nat} (C0 C1 C2 C3 C4 C5 C6 C7 C8 C9 C10 : Prop) (R0 R1 R2 R3 R4 R5 R6 R7 R8 R9 R10 : Value) (H0 H1 H2 H3 H4 H5 H6 H7 H8 H9 H10 : en_H) (pc' : Nat) (hp : pc + 3 = pc') (as rest : List Value) (ha : a < 900) (hq : en_take (.invokestatic z, n, a, b, c) st = some (as, rest)) (hE : Ev d a as h (fun v h' => (C0 ∧ v = some R0 ∧ h' = H0) ∨ (C1 ∧ v = some R1 ∧ h' = H1) ∨ (C2 ∧ v = some R2 ∧ h' = H2) ∨ (C3 ∧ v = some R3 ∧ h' = H3) ∨ (C4 ∧ v = some R4 ∧ h' = H4) ∨ (C5 ∧ v = some R5 ∧ h' = H5) ∨ (C6 ∧ v = some R6 ∧ h' = H6) ∨ (C7 ∧ v = some R7 ∧ h' = H7) ∨ (C8 ∧ v = some R8 ∧ h' = H8) ∨ (C9 ∧ v = some R9 ∧ h' = H9) ∨ (C10 ∧ v = some R10 ∧ h' = H10))) (k0 : C0 → At d xs rt bs (pc', l, R0 :: rest, H0) Ph) (k1 : C1 → At d xs rt bs (pc', l, R1 :: rest, H1) Ph) (k2 : C2 → At d xs rt bs (pc', l, R2 :: rest, H2) Ph) (k3 : C3 → At d xs rt bs (pc', l, R3 :: rest, H3) Ph) (k4 : C4 → At d xs rt bs (pc', l, R4 :: rest, H4) Ph) (k5 : C5 → At d xs rt bs (pc', l, R5 :: rest, H5) Ph) (k6 : C6 → At d xs rt bs (pc', l, R6 :: rest, H6) Ph) (k7 : C7 → At d xs rt bs (pc', l, R7 :: rest, H7) Ph) (k8 : C8 → At d xs rt bs (pc', l, R8 :: rest, H8) Ph) (k9 : C9 → At d xs rt bs (pc', l, R9 :: rest, H9) Ph) (k10 : C10 → At d xs rt bs (pc', l, R10 :: rest, H10) Ph) : Ar d xs rt bs ((.invokestatic z, n, a, b, c) :: r) (pc, l, st, h) Ph := by
  refine r_callS pc' hp as rest ha hq hE ?_
  intro v h' hv
  rcases hv with ⟨q1, q2, q3⟩ | ⟨q1, q2, q3⟩ | ⟨q1, q2, q3⟩ | ⟨q1, q2, q3⟩ | ⟨q1, q2, q3⟩ | ⟨q1, q2, q3⟩ | ⟨q1, q2, q3⟩ | ⟨q1, q2, q3⟩ | ⟨q1, q2, q3⟩ | ⟨q1, q2, q3⟩ | ⟨q1, q2, q3⟩
  · rw [q2, q3]; exact k0 q1
  · rw [q2, q3]; exact k1 q1
  · rw [q2, q3]; exact k2 q1
  · rw [q2, q3]; exact k3 q1
  · rw [q2, q3]; exact k4 q1
  · rw [q2, q3]; exact k5 q1
  · rw [q2, q3]; exact k6 q1
  · rw [q2, q3]; exact k7 q1
  · rw [q2, q3]; exact k8 q1
  · rw [q2, q3]; exact k9 q1
  · rw [q2, q3]; exact k10 q1
theorem r_callS11v {z : Nat} (C0 C1 C2 C3 C4 C5 C6 C7 C8 C9 C10 : Prop)  (H0 H1 H2 H3 H4 H5 H6 H7 H8 H9 H10 : en_H) (pc' : Nat) (hp : pc + 3 = pc') (as rest : List Value) (ha : a < 900) (hq : en_take (.invokestatic z, n, a, b, c) st = some (as, rest)) (hE : Ev d a as h (fun v h' => (C0 ∧ v = none ∧ h' = H0) ∨ (C1 ∧ v = none ∧ h' = H1) ∨ (C2 ∧ v = none ∧ h' = H2) ∨ (C3 ∧ v = none ∧ h' = H3) ∨ (C4 ∧ v = none ∧ h' = H4) ∨ (C5 ∧ v = none ∧ h' = H5) ∨ (C6 ∧ v = none ∧ h' = H6) ∨ (C7 ∧ v = none ∧ h' = H7) ∨ (C8 ∧ v = none ∧ h' = H8) ∨ (C9 ∧ v = none ∧ h' = H9) ∨ (C10 ∧ v = none ∧ h' = H10))) (k0 : C0 → At d xs rt bs (pc', l, rest, H0) Ph) (k1 : C1 → At d xs rt bs (pc', l, rest, H1) Ph) (k2 : C2 → At d xs rt bs (pc', l, rest, H2) Ph) (k3 : C3 → At d xs rt bs (pc', l, rest, H3) Ph) (k4 : C4 → At d xs rt bs (pc', l, rest, H4) Ph) (k5 : C5 → At d xs rt bs (pc', l, rest, H5) Ph) (k6 : C6 → At d xs rt bs (pc', l, rest, H6) Ph) (k7 : C7 → At d xs rt bs (pc', l, rest, H7) Ph) (k8 : C8 → At d xs rt bs (pc', l, rest, H8) Ph) (k9 : C9 → At d xs rt bs (pc', l, rest, H9) Ph) (k10 : C10 → At d xs rt bs (pc', l, rest, H10) Ph) : Ar d xs rt bs ((.invokestatic z, n, a, b, c) :: r) (pc, l, st, h) Ph := by
  refine r_callS pc' hp as rest ha hq hE ?_
  intro v h' hv
  rcases hv with ⟨q1, q2, q3⟩ | ⟨q1, q2, q3⟩ | ⟨q1, q2, q3⟩ | ⟨q1, q2, q3⟩ | ⟨q1, q2, q3⟩ | ⟨q1, q2, q3⟩ | ⟨q1, q2, q3⟩ | ⟨q1, q2, q3⟩ | ⟨q1, q2, q3⟩ | ⟨q1, q2, q3⟩ | ⟨q1, q2, q3⟩
  · rw [q2, q3]; exact k0 q1
  · rw [q2, q3]; exact k1 q1
  · rw [q2, q3]; exact k2 q1
  · rw [q2, q3]; exact k3 q1
  · rw [q2, q3]; exact k4 q1
  · rw [q2, q3]; exact k5 q1
  · rw [q2, q3]; exact k6 q1
  · rw [q2, q3]; exact k7 q1
  · rw [q2, q3]; exact k8 q1
  · rw [q2, q3]; exact k9 q1
  · rw [q2, q3]; exact k10 q1
theorem r_callS12s {z : Nat} (C0 C1 C2 C3 C4 C5 C6 C7 C8 C9 C10 C11 : Prop) (R0 R1 R2 R3 R4 R5 R6 R7 R8 R9 R10 R11 : Value) (H0 H1 H2 H3 H4 H5 H6 H7 H8 H9 H10 H11 : en_H) (pc' : Nat) (hp : pc + 3 = pc') (as rest : List Value) (ha : a < 900) (hq : en_take (.invokestatic z, n, a, b, c) st = some (as, rest)) (hE : Ev d a as h (fun v h' => (C0 ∧ v = some R0 ∧ h' = H0) ∨ (C1 ∧ v = some R1 ∧ h' = H1) ∨ (C2 ∧ v = some R2 ∧ h' = H2) ∨ (C3 ∧ v = some R3 ∧ h' = H3) ∨ (C4 ∧ v = some R4 ∧ h' = H4) ∨ (C5 ∧ v = some R5 ∧ h' = H5) ∨ (C6 ∧ v = some R6 ∧ h' = H6) ∨ (C7 ∧ v = some R7 ∧ h' = H7) ∨ (C8 ∧ v = some R8 ∧ h' = H8) ∨ (C9 ∧ v = some R9 ∧ h' = H9) ∨ (C10 ∧ v = some R10 ∧ h' = H10) ∨ (C11 ∧ v = some R11 ∧ h' = H11))) (k0 : C0 → At d xs rt bs (pc', l, R0 :: rest, H0) Ph) (k1 : C1 → At d xs rt bs (pc', l, R1 :: rest, H1) Ph) (k2 : C2 → At d xs rt bs (pc', l, R2 :: rest, H2) Ph) (k3 : C3 → At d xs rt bs (pc', l, R3 :: rest, H3) Ph) (k4 : C4 → At d xs rt bs (pc', l, R4 :: rest, H4) Ph) (k5 : C5 → At d xs rt bs (pc', l, R5 :: rest, H5) Ph) (k6 : C6 → At d xs rt bs (pc', l, R6 :: rest, H6) Ph) (k7 : C7 → At d xs rt bs (pc', l, R7 :: rest, H7) Ph) (k8 : C8 → At d xs rt bs (pc', l, R8 :: rest, H8) Ph) (k9 : C9 → At d xs rt bs (pc', l, R9 :: rest, H9) Ph) (k10 : C10 → At d xs rt bs (pc', l, R10 :: rest, H10) Ph) (k11 : C11 → At d xs rt bs (pc', l, R11 :: rest, H11) Ph) : Ar d xs rt bs ((.invokestatic z, n, a, b, c) :: r) (pc, l, st, h) Ph := by
  refine r_callS pc' hp as rest ha hq hE ?_
  intro v h' hv
  rcases hv with ⟨q1, q2, q3⟩ | ⟨q1, q2, q3⟩ | ⟨q1, q2, q3⟩ | ⟨q1, q2, q3⟩ | ⟨q1, q2, q3⟩ | ⟨q1, q2, q3⟩ | ⟨q1, q2, q3⟩ | ⟨q1, q2, q3⟩ | ⟨q1, q2, q3⟩ | ⟨q1, q2, q3⟩ | ⟨q1, q2, q3⟩ | ⟨q1, q2, q3⟩
  · rw [q2, q3]; exact k0 q1
  · rw [q2, q3]; exact k1 q1
  · rw [q2, q3]; exact k2 q1
  · rw [q2, q3]; exact k3 q1
  · rw [q2, q3]; exact k4 q1
  · rw [q2, q3]; exact k5 q1
  · rw [q2, q3]; exact k6 q1
  · rw [q2, q3]; exact k7 q1
  · rw [q2, q3]; exact k8 q1
  · rw [q2, q3]; exact k9 q1
  · rw [q2, q3]; exact k10 q1
  · rw [q2, q3]; exact k11 q1
theorem r_callS12v {z : Nat} (C0 C1 C2 C3 C4 C5 C6 C7 C8 C9 C10 C11 : Prop)  (H0 H1 H2 H3 H4 H5 H6 H7 H8 H9 H10 H11 : en_H) (pc' : Nat) (hp : pc + 3 = pc') (as rest : List Value) (ha : a < 900) (hq : en_take (.invokestatic z, n, a, b, c) st = some (as, rest)) (hE : Ev d a as h (fun v h' => (C0 ∧ v = none ∧ h' = H0) ∨ (C1 ∧ v = none ∧ h' = H1) ∨ (C2 ∧ v = none ∧ h' = H2) ∨ (C3 ∧ v = none ∧ h' = H3) ∨ (C4 ∧ v = none ∧ h' = H4) ∨ (C5 ∧ v = none ∧ h' = H5) ∨ (C6 ∧ v = none ∧ h' = H6) ∨ (C7 ∧ v = none ∧ h' = H7) ∨ (C8 ∧ v = none ∧ h' = H8) ∨ (C9 ∧ v = none ∧ h' = H9) ∨ (C10 ∧ v = none ∧ h' = H10) ∨ (C11 ∧ v = none ∧ h' = H11))) (k0 : C0 → At d xs rt bs (pc', l, rest, H0) Ph) (k1 : C1 → At d xs rt bs (pc', l, rest, H1) Ph) (k2 : C2 → At d xs rt bs (pc', l, rest, H2) Ph) (k3 : C3 → At d xs rt bs (pc', l, rest, H3) Ph) (k4 : C4 → At d xs rt bs (pc', l, rest, H4) Ph) (k5 : C5 → At d xs rt bs (pc', l, rest, H5) Ph) (k6 : C6 → At d xs rt bs (pc', l, rest, H6) Ph) (k7 : C7 → At d xs rt bs (pc', l, rest, H7) Ph) (k8 : C8 → At d xs rt bs (pc', l, rest, H8) Ph) (k9 : C9 → At d xs rt bs (pc', l, rest, H9) Ph) (k10 : C10 → At d xs rt bs (pc', l, rest, H10) Ph) (k11 : C11 → At d xs rt bs (pc', l, rest, H11) Ph) : Ar d xs rt bs ((.invokestatic z, n, a, b, c) :: r) (pc, l, st, h) Ph := by
  refine r_callS pc' hp as rest ha hq hE ?_
  intro v h' hv
  rcases hv with ⟨q1, q2, q3⟩ | ⟨q1, q2, q3⟩ | ⟨q1, q2, q3⟩ | ⟨q1, q2, q3⟩ | ⟨q1, q2, q3⟩ | ⟨q1, q2, q3⟩ | ⟨q1, q2, q3⟩ | ⟨q1, q2, q3⟩ | ⟨q1, q2, q3⟩ | ⟨q1, q2, q3⟩ | ⟨q1, q2, q3⟩ | ⟨q1, q2, q3⟩
  · rw [q2, q3]; exact k0 q1
  · rw [q2, q3]; exact k1 q1
  · rw [q2, q3]; exact k2 q1
  · rw [q2, q3]; exact k3 q1
  · rw [q2, q3]; exact k4 q1
  · rw [q2, q3]; exact k5 q1
  · rw [q2, q3]; exact k6 q1
  · rw [q2, q3]; exact k7 q1
  · rw [q2, q3]; exact k8 q1
  · rw [q2, q3]; exact k9 q1
  · rw [q2, q3]; exact k10 q1
  · rw [q2, q3]; exact k11 q1
theorem r_callI1s {z : Nat} (C0 : Prop) (R0 : Value) (H0 : en_H) (pc' : Nat) (hp : pc + 3 = pc') (as rest : List Value) (ha : a < 900) (hq : en_take (.invokespecial z, n, a, b, c) st = some (as, rest)) (hE : Ev d a as h (fun v h' => (C0 ∧ v = some R0 ∧ h' = H0))) (k0 : C0 → At d xs rt bs (pc', l, R0 :: rest, H0) Ph) : Ar d xs rt bs ((.invokespecial z, n, a, b, c) :: r) (pc, l, st, h) Ph := by
  refine r_callI pc' hp as rest ha hq hE ?_
  intro v h' hv
  obtain ⟨q1, q2, q3⟩ := hv
  rw [q2, q3]
  exact k0 q1
theorem r_callI1v {z : Nat} (C0 : Prop)  (H0 : en_H) (pc' : Nat) (hp : pc + 3 = pc') (as rest : List Value) (ha : a < 900) (hq : en_take (.invokespecial z, n, a, b, c) st = some (as, rest)) (hE : Ev d a as h (fun v h' => (C0 ∧ v = none ∧ h' = H0))) (k0 : C0 → At d xs rt bs (pc', l, rest, H0) Ph) : Ar d xs rt bs ((.invokespecial z, n, a, b, c) :: r) (pc, l, st, h) Ph := by
  refine r_callI pc' hp as rest ha hq hE ?_
  intro v h' hv
  obtain ⟨q1, q2, q3⟩ := hv
  rw [q2, q3]
  exact k0 q1
theorem r_callI2s {z : Nat} (C0 C1 : Prop) (R0 R1 : Value) (H0 H1 : en_H) (pc' : Nat) (hp : pc + 3 = pc') (as rest : List Value) (ha : a < 900) (hq : en_take (.invokespecial z, n, a, b, c) st = some (as, rest)) (hE : Ev d a as h (fun v h' => (C0 ∧ v = some R0 ∧ h' = H0) ∨ (C1 ∧ v = some R1 ∧ h' = H1))) (k0 : C0 → At d xs rt bs (pc', l, R0 :: rest, H0) Ph) (k1 : C1 → At d xs rt bs (pc', l, R1 :: rest, H1) Ph) : Ar d xs rt bs ((.invokespecial z, n, a, b, c) :: r) (pc, l, st, h) Ph := by
  refine r_callI pc' hp as rest ha hq hE ?_
  intro v h' hv
  rcases hv with ⟨q1, q2, q3⟩ | ⟨q1, q2, q3⟩
  · rw [q2, q3]; exact k0 q1
  · rw [q2, q3]; exact k1 q1
theorem r_callI2v {z : Nat} (C0 C1 : Prop)  (H0 H1 : en_H) (pc' : Nat) (hp : pc + 3 = pc') (as rest : List Value) (ha : a < 900) (hq : en_take (.invokespecial z, n, a, b, c) st = some (as, rest)) (hE : Ev d a as h (fun v h' => (C0 ∧ v = none ∧ h' = H0) ∨ (C1 ∧ v = none ∧ h' = H1))) (k0 : C0 → At d xs rt bs (pc', l, rest, H0) Ph) (k1 : C1 → At d xs rt bs (pc', l, rest, H1) Ph) : Ar d xs rt bs ((.invokespecial z, n, a, b, c) :: r) (pc, l, st, h) Ph := by
  refine r_callI pc' hp as rest ha hq hE ?_
  intro v h' hv
  rcases hv with ⟨q1, q2, q3⟩ | ⟨q1, q2, q3⟩
  · rw [q2, q3]; exact k0 q1
  · rw [q2, q3]; exact k1 q1
theorem r_callI3s {z : Nat} (C0 C1 C2 : Prop) (R0 R1 R2 : Value) (H0 H1 H2 : en_H) (pc' : Nat) (hp : pc + 3 = pc') (as rest : List Value) (ha : a < 900) (hq : en_take (.invokespecial z, n, a, b, c) st = some (as, rest)) (hE : Ev d a as h (fun v h' => (C0 ∧ v = some R0 ∧ h' = H0) ∨ (C1 ∧ v = some R1 ∧ h' = H1) ∨ (C2 ∧ v = some R2 ∧ h' = H2))) (k0 : C0 → At d xs rt bs (pc', l, R0 :: rest, H0) Ph) (k1 : C1 → At d xs rt bs (pc', l, R1 :: rest, H1) Ph) (k2 : C2 → At d xs rt bs (pc', l, R2 :: rest, H2) Ph) : Ar d xs rt bs ((.invokespecial z, n, a, b, c) :: r) (pc, l, st, h) Ph := by
  refine r_callI pc' hp as rest ha hq hE ?_
  intro v h' hv
  rcases hv with ⟨q1, q2, q3⟩ | ⟨q1, q2, q3⟩ | ⟨q1, q2, q3⟩
  · rw [q2, q3]; exact k0 q1
  · rw [q2, q3]; exact k1 q1
  · rw [q2, q3]; exact k2 q1
theorem r_callI3v {z : Nat} (C0 C1 C2 : Prop)  (H0 H1 H2 : en_H) (pc' : Nat) (hp : pc + 3 = pc') (as rest : List Value) (ha : a < 900) (hq : en_take (.invokespecial z, n, a, b, c) st = some (as, rest)) (hE : Ev d a as h (fun v h' => (C0 ∧ v = none ∧ h' = H0) ∨ (C1 ∧ v = none ∧ h' = H1) ∨ (C2 ∧ v = none ∧ h' = H2))) (k0 : C0 → At d xs rt bs (pc', l, rest, H0) Ph) (k1 : C1 → At d xs rt bs (pc', l, rest, H1) Ph) (k2 : C2 → At d xs rt bs (pc', l, rest, H2) Ph) : Ar d xs rt bs ((.invokespecial z, n, a, b, c) :: r) (pc, l, st, h) Ph := by
  refine r_callI pc' hp as rest ha hq hE ?_
  intro v h' hv
  rcases hv with ⟨q1, q2, q3⟩ | ⟨q1, q2, q3⟩ | ⟨q1, q2, q3⟩
  · rw [q2, q3]; exact k0 q1
  · rw [q2, q3]; exact k1 q1
  · rw [q2, q3]; exact k2 q1
theorem r_callI4s {z : Nat} (C0 C1 C2 C3 : Prop) (R0 R1 R2 R3 : Value) (H0 H1 H2 H3 : en_H) (pc' : Nat) (hp : pc + 3 = pc') (as rest : List Value) (ha : a < 900) (hq : en_take (.invokespecial z, n, a, b, c) st = some (as, rest)) (hE : Ev d a as h (fun v h' => (C0 ∧ v = some R0 ∧ h' = H0) ∨ (C1 ∧ v = some R1 ∧ h' = H1) ∨ (C2 ∧ v = some R2 ∧ h' = H2) ∨ (C3 ∧ v = some R3 ∧ h' = H3))) (k0 : C0 → At d xs rt bs (pc', l, R0 :: rest, H0) Ph) (k1 : C1 → At d xs rt bs (pc', l, R1 :: rest, H1) Ph) (k2 : C2 → At d xs rt bs (pc', l, R2 :: rest, H2) Ph) (k3 : C3 → At d xs rt bs (pc', l, R3 :: rest, H3) Ph) : Ar d xs rt bs ((.invokespecial z, n, a, b, c) :: r) (pc, l, st, h) Ph := by
  refine r_callI pc' hp as rest ha hq hE ?_
  intro v h' hv
  rcases hv with ⟨q1, q2, q3⟩ | ⟨q1, q2, q3⟩ | ⟨q1, q2, q3⟩ | ⟨q1, q2, q3⟩
  · rw [q2, q3]; exact k0 q1
  · rw [q2, q3]; exact k1 q1
  · rw [q2, q3]; exact k2 q1
  · rw [q2, q3]; exact k3 q1
theorem r_callI4v {z : Nat} (C0 C1 C2 C3 : Prop)  (H0 H1 H2 H3 : en_H) (pc' : Nat) (hp : pc + 3 = pc') (as rest : List Value) (ha : a < 900) (hq : en_take (.invokespecial z, n, a, b, c) st = some (as, rest)) (hE : Ev d a as h (fun v h' => (C0 ∧ v = none ∧ h' = H0) ∨ (C1 ∧ v = none ∧ h' = H1) ∨ (C2 ∧ v = none ∧ h' = H2) ∨ (C3 ∧ v = none ∧ h' = H3))) (k0 : C0 → At d xs rt bs (pc', l, rest, H0) Ph) (k1 : C1 → At d xs rt bs (pc', l, rest, H1) Ph) (k2 : C2 → At d xs rt bs (pc', l, rest, H2) Ph) (k3 : C3 → At d xs rt bs (pc', l, rest, H3) Ph) : Ar d xs rt bs ((.invokespecial z, n, a, b, c) :: r) (pc, l, st, h) Ph := by
  refine r_callI pc' hp as rest ha hq hE ?_
  intro v h' hv
  rcases hv with ⟨q1, q2, q3⟩ | ⟨q1, q2, q3⟩ | ⟨q1, q2, q3⟩ | ⟨q1, q2, q3⟩
  · rw [q2, q3]; exact k0 q1
  · rw [q2, q3]; exact k1 q1
  · rw [q2, q3]; exact k2 q1
  · rw [q2, q3]; exact k3 q1
theorem r_callI5s {z : Nat} (C0 C1 C2 C3 C4 : Prop) (R0 R1 R2 R3 R4 : Value) (H0 H1 H2 H3 H4 : en_H) (pc' : Nat) (hp : pc + 3 = pc') (as rest : List Value) (ha : a < 900) (hq : en_take (.invokespecial z, n, a, b, c) st = some (as, rest)) (hE : Ev d a as h (fun v h' => (C0 ∧ v = some R0 ∧ h' = H0) ∨ (C1 ∧ v = some R1 ∧ h' = H1) ∨ (C2 ∧ v = some R2 ∧ h' = H2) ∨ (C3 ∧ v = some R3 ∧ h' = H3) ∨ (C4 ∧ v = some R4 ∧ h' = H4))) (k0 : C0 → At d xs rt bs (pc', l, R0 :: rest, H0) Ph) (k1 : C1 → At d xs rt bs (pc', l, R1 :: rest, H1) Ph) (k2 : C2 → At d xs rt bs (pc', l, R2 :: rest, H2) Ph) (k3 : C3 → At d xs rt bs (pc', l, R3 :: rest, H3) Ph) (k4 : C4 → At d xs rt bs (pc', l, R4 :: rest, H4) Ph) : Ar d xs rt bs ((.invokespecial z, n, a, b, c) :: r) (pc, l, st, h) Ph := by
  refine r_callI pc' hp as rest ha hq hE ?_
  intro v h' hv
  rcases hv with ⟨q1, q2, q3⟩ | ⟨q1, q2, q3⟩ | ⟨q1, q2, q3⟩ | ⟨q1, q2, q3⟩ | ⟨q1, q2, q3⟩
  · rw [q2, q3]; exact k0 q1
  · rw [q2, q3]; exact k1 q1
  · rw [q2, q3]; exact k2 q1
  · rw [q2, q3]; exact k3 q1
  · rw [q2, q3]; exact k4 q1
theorem r_callI5v {z : Nat} (C0 C1 C2 C3 C4 : Prop)  (H0 H1 H2 H3 H4 : en_H) (pc' : Nat) (hp : pc + 3 = pc') (as rest : List Value) (ha : a < 900) (hq : en_take (.invokespecial z, n, a, b, c) st = some (as, rest)) (hE : Ev d a as h (fun v h' => (C0 ∧ v = none ∧ h' = H0) ∨ (C1 ∧ v = none ∧ h' = H1) ∨ (C2 ∧ v = none ∧ h' = H2) ∨ (C3 ∧ v = none ∧ h' = H3) ∨ (C4 ∧ v = none ∧ h' = H4))) (k0 : C0 → At d xs rt bs (pc', l, rest, H0) Ph) (k1 : C1 → At d xs rt bs (pc', l, rest, H1) Ph) (k2 : C2 → At d xs rt bs (pc', l, rest, H2) Ph) (k3 : C3 → At d xs rt bs (pc', l, rest, H3) Ph) (k4 : C4 → At d xs rt bs (pc', l, rest, H4) Ph) : Ar d xs rt bs ((.invokespecial z, n, a, b, c) :: r) (pc, l, st, h) Ph := by
  refine r_callI pc' hp as rest ha hq hE ?_
  intro v h' hv
  rcases hv with ⟨q1, q2, q3⟩ | ⟨q1, q2, q3⟩ | ⟨q1, q2, q3⟩ | ⟨q1, q2, q3⟩ | ⟨q1, q2, q3⟩
  · rw [q2, q3]; exact k0 q1
  · rw [q2, q3]; exact k1 q1
  · rw [q2, q3]; exact k2 q1
  · rw [q2, q3]; exact k3 q1
  · rw [q2, q3]; exact k4 q1
theorem r_callI6s {z : Nat} (C0 C1 C2 C3 C4 C5 : Prop) (R0 R1 R2 R3 R4 R5 : Value) (H0 H1 H2 H3 H4 H5 : en_H) (pc' : Nat) (hp : pc + 3 = pc') (as rest : List Value) (ha : a < 900) (hq : en_take (.invokespecial z, n, a, b, c) st = some (as, rest)) (hE : Ev d a as h (fun v h' => (C0 ∧ v = some R0 ∧ h' = H0) ∨ (C1 ∧ v = some R1 ∧ h' = H1) ∨ (C2 ∧ v = some R2 ∧ h' = H2) ∨ (C3 ∧ v = some R3 ∧ h' = H3) ∨ (C4 ∧ v = some R4 ∧ h' = H4) ∨ (C5 ∧ v = some R5 ∧ h' = H5))) (k0 : C0 → At d xs rt bs (pc', l, R0 :: rest, H0) Ph) (k1 : C1 → At d xs rt bs (pc', l, R1 :: rest, H1) Ph) (k2 : C2 → At d xs rt bs (pc', l, R2 :: rest, H2) Ph) (k3 : C3 → At d xs rt bs (pc', l, R3 :: rest, H3) Ph) (k4 : C4 → At d xs rt bs (pc', l, R4 :: rest, H4) Ph) (k5 : C5 → At d xs rt bs (pc', l, R5 :: rest, H5) Ph) : Ar d xs rt bs ((.invokespecial z, n, a, b, c) :: r) (pc, l, st, h) Ph := by
  refine r_callI pc' hp as rest ha hq hE ?_
  intro v h' hv
  rcases hv with ⟨q1, q2, q3⟩ | ⟨q1, q2, q3⟩ | ⟨q1, q2, q3⟩ | ⟨q1, q2, q3⟩ | ⟨q1, q2, q3⟩ | ⟨q1, q2, q3⟩
  · rw [q2, q3]; exact k0 q1
  · rw [q2, q3]; exact k1 q1
  · rw [q2, q3]; exact k2 q1
  · rw [q2, q3]; exact k3 q1
  · rw [q2, q3]; exact k4 q1
  · rw [q2, q3]; exact k5 q1
theorem r_callI6v {z : Nat} (C0 C1 C2 C3 C4 C5 : Prop)  (H0 H1 H2 H3 H4 H5 : en_H) (pc' : Nat) (hp : pc + 3 = pc') (as rest : List Value) (ha : a < 900) (hq : en_take (.invokespecial z, n, a, b, c) st = some (as, rest)) (hE : Ev d a as h (fun v h' => (C0 ∧ v = none ∧ h' = H0) ∨ (C1 ∧ v = none ∧ h' = H1) ∨ (C2 ∧ v = none ∧ h' = H2) ∨ (C3 ∧ v = none ∧ h' = H3) ∨ (C4 ∧ v = none ∧ h' = H4) ∨ (C5 ∧ v = none ∧ h' = H5))) (k0 : C0 → At d xs rt bs (pc', l, rest, H0) Ph) (k1 : C1 → At d xs rt bs (pc', l, rest, H1) Ph) (k2 : C2 → At d xs rt bs (pc', l, rest, H2) Ph) (k3 : C3 → At d xs rt bs (pc', l, rest, H3) Ph) (k4 : C4 → At d xs rt bs (pc', l, rest, H4) Ph) (k5 : C5 → At d xs rt bs (pc', l, rest, H5) Ph) : Ar d xs rt bs ((.invokespecial z, n, a, b, c) :: r) (pc, l, st, h) Ph := by
  refine r_callI pc' hp as rest ha hq hE ?_
  intro v h' hv
  rcases hv with ⟨q1, q2, q3⟩ | ⟨q1, q2, q3⟩ | ⟨q1, q2, q3⟩ | ⟨q1, q2, q3⟩ | ⟨q1, q2, q3⟩ | ⟨q1, q2, q3⟩
  · rw [q2, q3]; exact k0 q1
  · rw [q2, q3]; exact k1 q1
  · rw [q2, q3]; exact k2 q1
  · rw [q2, q3]; exact k3 q1
  · rw [q2, q3]; exact k4 q1
  · rw [q2, q3]; exact k5 q1
theorem r_callI7s {z : Nat} (C0 C1 C2 C3 C4 C5 C6 : Prop) (R0 R1 R2 R3 R4 R5 R6 : Value) (H0 H1 H2 H3 H4 H5 H6 : en_H) (pc' : Nat) (hp : pc + 3 = pc') (as rest : List Value) (ha : a < 900) (hq : en_take (.invokespecial z, n, a, b, c) st = some (as, rest)) (hE : Ev d a as h (fun v h' => (C0 ∧ v = some R0 ∧ h' = H0) ∨ (C1 ∧ v = some R1 ∧ h' = H1) ∨ (C2 ∧ v = some R2 ∧ h' = H2) ∨ (C3 ∧ v = some R3 ∧ h' = H3) ∨ (C4 ∧ v = some R4 ∧ h' = H4) ∨ (C5 ∧ v = some R5 ∧ h' = H5) ∨ (C6 ∧ v = some R6 ∧ h' = H6))) (k0 : C0 → At d xs rt bs (pc', l, R0 :: rest, H0) Ph) (k1 : C1 → At d xs rt bs (pc', l, R1 :: rest, H1) Ph) (k2 : C2 → At d xs rt bs (pc', l, R2 :: rest, H2) Ph) (k3 : C3 → At d xs rt bs (pc', l, R3 :: rest, H3) Ph) (k4 : C4 → At d xs rt bs (pc', l, R4 :: rest, H4) Ph) (k5 : C5 → At d xs rt bs (pc', l, R5 :: rest, H5) Ph) (k6 : C6 → At d xs rt bs (pc', l, R6 :: rest, H6) Ph) : Ar d xs rt bs ((.invokespecial z, n, a, b, c) :: r) (pc, l, st, h) Ph := by
  refine r_callI pc' hp as rest ha hq hE ?_
  intro v h' hv
  rcases hv with ⟨q1, q2, q3⟩ | ⟨q1, q2, q3⟩ | ⟨q1, q2, q3⟩ | ⟨q1, q2, q3⟩ | ⟨q1, q2, q3⟩ | ⟨q1, q2, q3⟩ | ⟨q1, q2, q3⟩
  · rw [q2, q3]; exact k0 q1
  · rw [q2, q3]; exact k1 q1
  · rw [q2, q3]; exact k2 q1
  · rw [q2, q3]; exact k3 q1
  · rw [q2, q3]; exact k4 q1
  · rw [q2, q3]; exact k5 q1
  · rw [q2, q3]; exact k6 q1
theorem r_callI7v {z : Nat} (C0 C1 C2 C3 C4 C5 C6 : Prop)  (H0 H1 H2 H3 H4 H5 H6 : en_H) (pc' : Nat) (hp : pc + 3 = pc') (as rest : List Value) (ha : a < 900) (hq : en_take (.invokespecial z, n, a, b, c) st = some (as, rest)) (hE : Ev d a as h (fun v h' => (C0 ∧ v = none ∧ h' = H0) ∨ (C1 ∧ v = none ∧ h' = H1) ∨ (C2 ∧ v = none ∧ h' = H2) ∨ (C3 ∧ v = none ∧ h' = H3) ∨ (C4 ∧ v = none ∧ h' = H4) ∨ (C5 ∧ v = none ∧ h' = H5) ∨ (C6 ∧ v = none ∧ h' = H6))) (k0 : C0 → At d xs rt bs (pc', l, rest, H0) Ph) (k1 : C1 → At d xs rt bs (pc', l, rest, H1) Ph) (k2 : C2 → At d xs rt bs (pc', l, rest, H2) Ph) (k3 : C3 → At d xs rt bs (pc', l, rest, H3) Ph) (k4 : C4 → At d xs rt bs (pc', l, rest, H4) Ph) (k5 : C5 → At d xs rt bs (pc', l, rest, H5) Ph) (k6 : C6 → At d xs rt bs (pc', l, rest, H6) Ph) : Ar d xs rt bs ((.invokespecial z, n, a, b, c) :: r) (pc, l, st, h) Ph := by
  refine r_callI pc' hp as rest ha hq hE ?_
  intro v h' hv
  rcases hv with ⟨q1, q2, q3⟩ | ⟨q1, q2, q3⟩ | ⟨q1, q2, q3⟩ | ⟨q1, q2, q3⟩ | ⟨q1, q2, q3⟩ | ⟨q1, q2, q3⟩ | ⟨q1, q2, q3⟩
  · rw [q2, q3]; exact k0 q1
  · rw [q2, q3]; exact k1 q1
  · rw [q2, q3]; exact k2 q1
  · rw [q2, q3]; exact k3 q1
  · rw [q2, q3]; exact k4 q1
  · rw [q2, q3]; exact k5 q1
  · rw [q2, q3]; exact k6 q1
theorem r_callI8s {z : Nat} (C0 C1 C2 C3 C4 C5 C6 C7 : Prop) (R0 R1 R2 R3 R4 R5 R6 R7 : Value) (H0 H1 H2 H3 H4 H5 H6 H7 : en_H) (pc' : Nat) (hp : pc + 3 = pc') (as rest : List Value) (ha : a < 900) (hq : en_take (.invokespecial z, n, a, b, c) st = some (as, rest)) (hE : Ev d a as h (fun v h' => (C0 ∧ v = some R0 ∧ h' = H0) ∨ (C1 ∧ v = some R1 ∧ h' = H1) ∨ (C2 ∧ v = some R2 ∧ h' = H2) ∨ (C3 ∧ v = some R3 ∧ h' = H3) ∨ (C4 ∧ v = some R4 ∧ h' = H4) ∨ (C5 ∧ v = some R5 ∧ h' = H5) ∨ (C6 ∧ v = some R6 ∧ h' = H6) ∨ (C7 ∧ v = some R7 ∧ h' = H7))) (k0 : C0 → At d xs rt bs (pc', l, R0 :: rest, H0) Ph) (k1 : C1 → At d xs rt bs (pc', l, R1 :: rest, H1) Ph) (k2 : C2 → At d xs rt bs (pc', l, R2 :: rest, H2) Ph) (k3 : C3 → At d xs rt bs (pc', l, R3 :: rest, H3) Ph) (k4 : C4 → At d xs rt bs (pc', l, R4 :: rest, H4) Ph) (k5 : C5 → At d xs rt bs (pc', l, R5 :: rest, H5) Ph) (k6 : C6 → At d xs rt bs (pc', l, R6 :: rest, H6) Ph) (k7 : C7 → At d xs rt bs (pc', l, R7 :: rest, H7) Ph) : Ar d xs rt bs ((.invokespecial z, n, a, b, c) :: r) (pc, l, st, h) Ph := by
  refine r_callI pc' hp as rest ha hq hE ?_
  intro v h' hv
  rcases hv with ⟨q1, q2, q3⟩ | ⟨q1, q2, q3⟩ | ⟨q1, q2, q3⟩ | ⟨q1, q2, q3⟩ | ⟨q1, q2, q3⟩ | ⟨q1, q2, q3⟩ | ⟨q1, q2, q3⟩ | ⟨q1, q2, q3⟩
  · rw [q2, q3]; exact k0 q1
  · rw [q2, q3]; exact k1 q1
  · rw [q2, q3]; exact k2 q1
  · rw [q2, q3]; exact k3 q1
  · rw [q2, q3]; exact k4 q1
  · rw [q2, q3]; exact k5 q1
  · rw [q2, q3]; exact k6 q1
  · rw [q2, q3]; exact k7 q1
theorem r_callI8v {z : Nat} (C0 C1 C2 C3 C4 C5 C6 C7 : Prop)  (H0 H1 H2 H3 H4 H5 H6 H7 : en_H) (pc' : Nat) (hp : pc + 3 = pc') (as rest : List Value) (ha : a < 900) (hq : en_take (.invokespecial z, n, a, b, c) st = some (as, rest)) (hE : Ev d a as h (fun v h' => (C0 ∧ v = none ∧ h' = H0) ∨ (C1 ∧ v = none ∧ h' = H1) ∨ (C2 ∧ v = none ∧ h' = H2) ∨ (C3 ∧ v = none ∧ h' = H3) ∨ (C4 ∧ v = none ∧ h' = H4) ∨ (C5 ∧ v = none ∧ h' = H5) ∨ (C6 ∧ v = none ∧ h' = H6) ∨ (C7 ∧ v = none ∧ h' = H7))) (k0 : C0 → At d xs rt bs (pc', l, rest, H0) Ph) (k1 : C1 → At d xs rt bs (pc', l, rest, H1) Ph) (k2 : C2 → At d xs rt bs (pc', l, rest, H2) Ph) (k3 : C3 → At d xs rt bs (pc', l, rest, H3) Ph) (k4 : C4 → At d xs rt bs (pc', l, rest, H4) Ph) (k5 : C5 → At d xs rt bs (pc', l, rest, H5) Ph) (k6 : C6 → At d xs rt bs (pc', l, rest, H6) Ph) (k7 : C7 → At d xs rt bs (pc', l, rest, H7) Ph) : Ar d xs rt bs ((.invokespecial z, n, a, b, c) :: r) (pc, l, st, h) Ph := by
  refine r_callI pc' hp as rest ha hq hE ?_
  intro v h' hv
  rcases hv with ⟨q1, q2, q3⟩ | ⟨q1, q2, q3⟩ | ⟨q1, q2, q3⟩ | ⟨q1, q2, q3⟩ | ⟨q1, q2, q3⟩ | ⟨q1, q2, q3⟩ | ⟨q1, q2, q3⟩ | ⟨q1, q2, q3⟩
  · rw [q2, q3]; exact k0 q1
  · rw [q2, q3]; exact k1 q1
  · rw [q2, q3]; exact k2 q1
  · rw [q2, q3]; exact k3 q1
  · rw [q2, q3]; exact k4 q1
  · rw [q2, q3]; exact k5 q1
  · rw [q2, q3]; exact k6 q1
  · rw [q2, q3]; exact k7 q1
theorem r_callI9s {z : Nat} (C0 C1 C2 C3 C4 C5 C6 C7 C8 : Prop) (R0 R1 R2 R3 R4 R5 R6 R7 R8 : Value) (H0 H1 H2 H3 H4 H5 H6 H7 H8 : en_H) (pc' : Nat) (hp : pc + 3 = pc') (as rest : List Value) (ha : a < 900) (hq : en_take (.invokespecial z, n, a, b, c) st = some (as, rest)) (hE : Ev d a as h (fun v h' => (C0 ∧ v = some R0 ∧ h' = H0) ∨ (C1 ∧ v = some R1 ∧ h' = H1) ∨ (C2 ∧ v = some R2 ∧ h' = H2) ∨ (C3 ∧ v = some R3 ∧ h' = H3) ∨ (C4 ∧ v = some R4 ∧ h' = H4) ∨ (C5 ∧ v = some R5 ∧ h' = H5) ∨ (C6 ∧ v = some R6 ∧ h' = H6) ∨ (C7 ∧ v = some R7 ∧ h' = H7) ∨ (C8 ∧ v = some R8 ∧ h' = H8))) (k0 : C0 → At d xs rt bs (pc', l, R0 :: rest, H0) Ph) (k1 : C1 → At d xs rt bs (pc', l, R1 :: rest, H1) Ph) (k2 : C2 → At d xs rt bs (pc', l, R2 :: rest, H2) Ph) (k3 : C3 → At d xs rt bs (pc', l, R3 :: rest, H3) Ph) (k4 : C4 → At d xs rt bs (pc', l, R4 :: rest, H4) Ph) (k5 : C5 → At d xs rt bs (pc', l, R5 :: rest, H5) Ph) (k6 : C6 → At d xs rt bs (pc', l, R6 :: rest, H6) Ph) (k7 : C7 → At d xs rt bs (pc', l, R7 :: rest, H7) Ph) (k8 : C8 → At d xs rt bs (pc', l, R8 :: rest, H8) Ph) : Ar d xs rt bs ((.invokespecial z, n, a, b, c) :: r) (pc, l, st, h) Ph := by
  refine r_callI pc' hp as rest ha hq hE ?_
  intro v h' hv
  rcases hv with ⟨q1, q2, q3⟩ | ⟨q1, q2, q3⟩ | ⟨q1, q2, q3⟩ | ⟨q1, q2, q3⟩ | ⟨q1, q2, q3⟩ | ⟨q1, q2, q3⟩ | ⟨q1, q2, q3⟩ | ⟨q1, q2, q3⟩ | ⟨q1, q2, q3⟩
  · rw [q2, q3]; exact k0 q1
  · rw [q2, q3]; exact k1 q1
  · rw [q2, q3]; exact k2 q1
  · rw [q2, q3]; exact k3 q1
  · rw [q2, q3]; exact k4 q1
  · rw [q2, q3]; exact k5 q1
  · rw [q2, q3]; exact k6 q1
  · rw [q2, q3]; exact k7 q1
  · rw [q2, q3]; exact k8 q1
theorem r_callI9v {z : Nat} (C0 C1 C2 C3 C4 C5 C6 C7 C8 : Prop)  (H0 H1 H2 H3 H4 H5 H6 H7 H8 : en_H) (pc' : Nat) (hp : pc + 3 = pc') (as rest : List Value) (ha : a < 900) (hq : en_take (.invokespecial z, n, a, b, c) st = some (as, rest)) (hE : Ev d a as h (fun v h' => (C0 ∧ v = none ∧ h' = H0) ∨ (C1 ∧ v = none ∧ h' = H1) ∨ (C2 ∧ v = none ∧ h' = H2) ∨ (C3 ∧ v = none ∧ h' = H3) ∨ (C4 ∧ v = none ∧ h' = H4) ∨ (C5 ∧ v = none ∧ h' = H5) ∨ (C6 ∧ v = none ∧ h' = H6) ∨ (C7 ∧ v = none ∧ h' = H7) ∨ (C8 ∧ v = none ∧ h' = H8))) (k0 : C0 → At d xs rt bs (pc', l, rest, H0) Ph) (k1 : C1 → At d xs rt bs (pc', l, rest, H1) Ph) (k2 : C2 → At d xs rt bs (pc', l, rest, H2) Ph) (k3 : C3 → At d xs rt bs (pc', l, rest, H3) Ph) (k4 : C4 → At d xs rt bs (pc', l, rest, H4) Ph) (k5 : C5 → At d xs rt bs (pc', l, rest, H5) Ph) (k6 : C6 → At d xs rt bs (pc', l, rest, H6) Ph) (k7 : C7 → At d xs rt bs (pc', l, rest, H7) Ph) (k8 : C8 → At d xs rt bs (pc', l, rest, H8) Ph) : Ar d xs rt bs ((.invokespecial z, n, a, b, c) :: r) (pc, l, st, h) Ph := by
  refine r_callI pc' hp as rest ha hq hE ?_
  intro v h' hv
  rcases hv with ⟨q1, q2, q3⟩ | ⟨q1, q2, q3⟩ | ⟨q1, q2, q3⟩ | ⟨q1, q2, q3⟩ | ⟨q1, q2, q3⟩ | ⟨q1, q2, q3⟩ | ⟨q1, q2, q3⟩ | ⟨q1, q2, q3⟩ | ⟨q1, q2, q3⟩
  · rw [q2, q3]; exact k0 q1
  · rw [q2, q3]; exact k1 q1
  · rw [q2, q3]; exact k2 q1
  · rw [q2, q3]; exact k3 q1
  · rw [q2, q3]; exact k4 q1
  · rw [q2, q3]; exact k5 q1
  · rw [q2, q3]; exact k6 q1
  · rw [q2, q3]; exact k7 q1
  · rw [q2, q3]; exact k8 q1
theorem r_callI10s {z : Nat} (C0 C1 C2 C3 C4 C5 C6 C7 C8 C9 : Prop) (R0 R1 R2 R3 R4 R5 R6 R7 R8 R9 : Value) (H0 H1 H2 H3 H4 H5 H6 H7 H8 H9 : en_H) (pc' : Nat) (hp : pc + 3 = pc') (as rest : List Value) (ha : a < 900) (hq : en_take (.invokespecial z, n, a, b, c) st = some (as, rest)) (hE : Ev d a as h (fun v h' => (C0 ∧ v = some R0 ∧ h' = H0) ∨ (C1 ∧ v = some R1 ∧ h' = H1) ∨ (C2 ∧ v = some R2 ∧ h' = H2) ∨ (C3 ∧ v = some R3 ∧ h' = H3) ∨ (C4 ∧ v = some R4 ∧ h' = H4) ∨ (C5 ∧ v = some R5 ∧ h' = H5) ∨ (C6 ∧ v = some R6 ∧ h' = H6) ∨ (C7 ∧ v = some R7 ∧ h' = H7) ∨ (C8 ∧ v = some R8 ∧ h' = H8) ∨ (C9 ∧ v = some R9 ∧ h' = H9))) (k0 : C0 → At d xs rt bs (pc', l, R0 :: rest, H0) Ph) (k1 : C1 → At d xs rt bs (pc', l, R1 :: rest, H1) Ph) (k2 : C2 → At d xs rt bs (pc', l, R2 :: rest, H2) Ph) (k3 : C3 → At d xs rt bs (pc', l, R3 :: rest, H3) Ph) (k4 : C4 → At d xs rt bs (pc', l, R4 :: rest, H4) Ph) (k5 : C5 → At d xs rt bs (pc', l, R5 :: rest, H5) Ph) (k6 : C6 → At d xs rt bs (pc', l, R6 :: rest, H6) Ph) (k7 : C7 → At d xs rt bs (pc', l, R7 :: rest, H7) Ph) (k8 : C8 → At d xs rt bs (pc', l, R8 :: rest, H8) Ph) (k9 : C9 → At d xs rt bs (pc', l, R9 :: rest, H9) Ph) : Ar d xs rt bs ((.invokespecial z, n, a, b, c) :: r) (pc, l, st, h) Ph := by
  refine r_callI pc' hp as rest ha hq hE ?_
  intro v h' hv
  rcases hv with ⟨q1, q2, q3⟩ | ⟨q1, q2, q3⟩ | ⟨q1, q2, q3⟩ | ⟨q1, q2, q3⟩ | ⟨q1, q2, q3⟩ | ⟨q1, q2, q3⟩ | ⟨q1, q2, q3⟩ | ⟨q1, q2, q3⟩ | ⟨q1, q2, q3⟩ | ⟨q1, q2, q3⟩
  · rw [q2, q3]; exact k0 q1
  · rw [q2, q3]; exact k1 q1
  · rw [q2, q3]; exact k2 q1
  · rw [q2, q3]; exact k3 q1
  · rw [q2, q3]; exact k4 q1
  · rw [q2, q3]; exact k5 q1
  · rw [q2, q3]; exact k6 q1
  · rw [q2, q3]; exact k7 q1
  · rw [q2, q3]; exact k8 q1
  · rw [q2, q3]; exact k9 q1
theorem r_callI10v {z : Nat} (C0 C1 C2 C3 C4 C5 C6 C7 C8 C9 : Prop)  (H0 H1 H2 H3 H4 H5 H6 H7 H8 H9 : en_H) (pc' : Nat) (hp : pc + 3 = pc') (as rest : List Value) (ha : a < 900) (hq : en_take (.invokespecial z, n, a, b, c) st = some (as, rest)) (hE : Ev d a as h (fun v h' => (C0 ∧ v = none ∧ h' = H0) ∨ (C1 ∧ v = none ∧ h' = H1) ∨ (C2 ∧ v = none ∧ h' = H2) ∨ (C3 ∧ v = none ∧ h' = H3) ∨ (C4 ∧ v = none ∧ h' = H4) ∨ (C5 ∧ v = none ∧ h' = H5) ∨ (C6 ∧ v = none ∧ h' = H6) ∨ (C7 ∧ v = none ∧ h' = H7) ∨ (C8 ∧ v = none ∧ h' = H8) ∨ (C9 ∧ v = none ∧ h' = H9))) (k0 : C0 → At d xs rt bs (pc', l, rest, H0) Ph) (k1 : C1 → At d xs rt bs (pc', l, rest, H1) Ph) (k2 : C2 → At d xs rt bs (pc', l, rest, H2) Ph) (k3 : C3 → At d xs rt bs (pc', l, rest, H3) Ph) (k4 : C4 → At d xs rt bs (pc', l, rest, H4) Ph) (k5 : C5 → At d xs rt bs (pc', l, rest, H5) Ph) (k6 : C6 → At d xs rt bs (pc', l, rest, H6) Ph) (k7 : C7 → At d xs rt bs (pc', l, rest, H7) Ph) (k8 : C8 → At d xs rt bs (pc', l, rest, H8) Ph) (k9 : C9 → At d xs rt bs (pc', l, rest, H9) Ph) : Ar d xs rt bs ((.invokespecial z, n, a, b, c) :: r) (pc, l, st, h) Ph := by
  refine r_callI pc' hp as rest ha hq hE ?_
  intro v h' hv
  rcases hv with ⟨q1, q2, q3⟩ | ⟨q1, q2, q3⟩ | ⟨q1, q2, q3⟩ | ⟨q1, q2, q3⟩ | ⟨q1, q2, q3⟩ | ⟨q1, q2, q3⟩ | ⟨q1, q2, q3⟩ | ⟨q1, q2, q3⟩ | ⟨q1, q2, q3⟩ | ⟨q1, q2, q3⟩
  · rw [q2, q3]; exact k0 q1
  · rw [q2, q3]; exact k1 q1
  · rw [q2, q3]; exact k2 q1
  · rw [q2, q3]; exact k3 q1
  · rw [q2, q3]; exact k4 q1
  · rw [q2, q3]; exact k5 q1
  · rw [q2, q3]; exact k6 q1
  · rw [q2, q3]; exact k7 q1
  · rw [q2, q3]; exact k8 q1
  · rw [q2, q3]; exact k9 q1
theorem r_callI11s {z : Nat} (C0 C1 C2 C3 C4 C5 C6 C7 C8 C9 C10 : Prop) (R0 R1 R2 R3 R4 R5 R6 R7 R8 R9 R10 : Value) (H0 H1 H2 H3 H4 H5 H6 H7 H8 H9 H10 : en_H) (pc' : Nat) (hp : pc + 3 = pc') (as rest : List Value) (ha : a < 900) (hq : en_take (.invokespecial z, n, a, b, c) st = some (as, rest)) (hE : Ev d a as h (fun v h' => (C0 ∧ v = some R0 ∧ h' = H0) ∨ (C1 ∧ v = some R1 ∧ h' = H1) ∨ (C2 ∧ v = some R2 ∧ h' = H2) ∨ (C3 ∧ v = some R3 ∧ h' = H3) ∨ (C4 ∧ v = some R4 ∧ h' = H4) ∨ (C5 ∧ v = some R5 ∧ h' = H5) ∨ (C6 ∧ v = some R6 ∧ h' = H6) ∨ (C7 ∧ v = some R7 ∧ h' = H7) ∨ (C8 ∧ v = some R8 ∧ h' = H8) ∨ (C9 ∧ v = some R9 ∧ h' = H9) ∨ (C10 ∧ v = some R10 ∧ h' = H10))) (k0 : C0 → At d xs rt bs (pc', l, R0 :: rest, H0) Ph) (k1 : C1 → At d xs rt bs (pc', l, R1 :: rest, H1) Ph) (k2 : C2 → At d xs rt bs (pc', l, R2 :: rest, H2) Ph) (k3 : C3 → At d xs rt bs (pc', l, R3 :: rest, H3) Ph) (k4 : C4 → At d xs rt bs (pc', l, R4 :: rest, H4) Ph) (k5 : C5 → At d xs rt bs (pc', l, R5 :: rest, H5) Ph) (k6 : C6 → At d xs rt bs (pc', l, R6 :: rest, H6) Ph) (k7 : C7 → At d xs rt bs (pc', l, R7 :: rest, H7) Ph) (k8 : C8 → At d xs rt bs (pc', l, R8 :: rest, H8) Ph) (k9 : C9 → At d xs rt bs (pc', l, R9 :: rest, H9) Ph) (k10 : C10 → At d xs rt bs (pc', l, R10 :: rest, H10) Ph) : Ar d xs rt bs ((.invokespecial z, n, a, b, c) :: r) (pc, l, st, h) Ph := by
  refine r_callI pc' hp as rest ha hq hE ?_
  intro v h' hv
  rcases hv with ⟨q1, q2, q3⟩ | ⟨q1, q2, q3⟩ | ⟨q1, q2, q3⟩ | ⟨q1, q2, q3⟩ | ⟨q1, q2, q3⟩ | ⟨q1, q2, q3⟩ | ⟨q1, q2, q3⟩ | ⟨q1, q2, q3⟩ | ⟨q1, q2, q3⟩ | ⟨q1, q2, q3⟩ | ⟨q1, q2, q3⟩
  · rw [q2, q3]; exact k0 q1
  · rw [q2, q3]; exact k1 q1
  · rw [q2, q3]; exact k2 q1
  · rw [q2, q3]; exact k3 q1
  · rw [q2, q3]; exact k4 q1
  · rw [q2, q3]; exact k5 q1
  · rw [q2, q3]; exact k6 q1
  · rw [q2, q3]; exact k7 q1
  · rw [q2, q3]; exact k8 q1
  · rw [q2, q3]; exact k9 q1
  · rw [q2, q3]; exact k10 q1
theorem r_callI11v {z : Nat} (C0 C1 C2 C3 C4 C5 C6 C7 C8 C9 C10 : Prop)  (H0 H1 H2 H3 H4 H5 H6 H7 H8 H9 H10 : en_H) (pc' : Nat) (hp : pc + 3 = pc') (as rest : List Value) (ha : a < 900) (hq : en_take (.invokespecial z, n, a, b, c) st = some (as, rest)) (hE : Ev d a as h (fun v h' => (C0 ∧ v = none ∧ h' = H0) ∨ (C1 ∧ v = none ∧ h' = H1) ∨ (C2 ∧ v = none ∧ h' = H2) ∨ (C3 ∧ v = none ∧ h' = H3) ∨ (C4 ∧ v = none ∧ h' = H4) ∨ (C5 ∧ v = none ∧ h' = H5) ∨ (C6 ∧ v = none ∧ h' = H6) ∨ (C7 ∧ v = none ∧ h' = H7) ∨ (C8 ∧ v = none ∧ h' = H8) ∨ (C9 ∧ v = none ∧ h' = H9) ∨ (C10 ∧ v = none ∧ h' = H10))) (k0 : C0 → At d xs rt bs (pc', l, rest, H0) Ph) (k1 : C1 → At d xs rt bs (pc', l, rest, H1) Ph) (k2 : C2 → At d xs rt bs (pc', l, rest, H2) Ph) (k3 : C3 → At d xs rt bs (pc', l, rest, H3) Ph) (k4 : C4 → At d xs rt bs (pc', l, rest, H4) Ph) (k5 : C5 → At d xs rt bs (pc', l, rest, H5) Ph) (k6 : C6 → At d xs rt bs (pc', l, rest, H6) Ph) (k7 : C7 → At d xs rt bs (pc', l, rest, H7) Ph) (k8 : C8 → At d xs rt bs (pc', l, rest, H8) Ph) (k9 : C9 → At d xs rt bs (pc', l, rest, H9) Ph) (k10 : C10 → At d xs rt bs (pc', l, rest, H10) Ph) : Ar d xs rt bs ((.invokespecial z, n, a, b, c) :: r) (pc, l, st, h) Ph := by
  refine r_callI pc' hp as rest ha hq hE ?_
  intro v h' hv
  rcases hv with ⟨q1, q2, q3⟩ | ⟨q1, q2, q3⟩ | ⟨q1, q2, q3⟩ | ⟨q1, q2, q3⟩ | ⟨q1, q2, q3⟩ | ⟨q1, q2, q3⟩ | ⟨q1, q2, q3⟩ | ⟨q1, q2, q3⟩ | ⟨q1, q2, q3⟩ | ⟨q1, q2, q3⟩ | ⟨q1, q2, q3⟩
  · rw [q2, q3]; exact k0 q1
  · rw [q2, q3]; exact k1 q1
  · rw [q2, q3]; exact k2 q1
  · rw [q2, q3]; exact k3 q1
  · rw [q2, q3]; exact k4 q1
  · rw [q2, q3]; exact k5 q1
  · rw [q2, q3]; exact k6 q1
  · rw [q2, q3]; exact k7 q1
  · rw [q2, q3]; exact k8 q1
  · rw [q2, q3]; exact k9 q1
  · rw [q2, q3]; exact k10 q1
theorem r_callI12s {z : Nat} (C0 C1 C2 C3 C4 C5 C6 C7 C8 C9 C10 C11 : Prop) (R0 R1 R2 R3 R4 R5 R6 R7 R8 R9 R10 R11 : Value) (H0 H1 H2 H3 H4 H5 H6 H7 H8 H9 H10 H11 : en_H) (pc' : Nat) (hp : pc + 3 = pc') (as rest : List Value) (ha : a < 900) (hq : en_take (.invokespecial z, n, a, b, c) st = some (as, rest)) (hE : Ev d a as h (fun v h' => (C0 ∧ v = some R0 ∧ h' = H0) ∨ (C1 ∧ v = some R1 ∧ h' = H1) ∨ (C2 ∧ v = some R2 ∧ h' = H2) ∨ (C3 ∧ v = some R3 ∧ h' = H3) ∨ (C4 ∧ v = some R4 ∧ h' = H4) ∨ (C5 ∧ v = some R5 ∧ h' = H5) ∨ (C6 ∧ v = some R6 ∧ h' = H6) ∨ (C7 ∧ v = some R7 ∧ h' = H7) ∨ (C8 ∧ v = some R8 ∧ h' = H8) ∨ (C9 ∧ v = some R9 ∧ h' = H9) ∨ (C10 ∧ v = some R10 ∧ h' = H10) ∨ (C11 ∧ v = some R11 ∧ h' = H11))) (k0 : C0 → At d xs rt bs (pc', l, R0 :: rest, H0) Ph) (k1 : C1 → At d xs rt bs (pc', l, R1 :: rest, H1) Ph) (k2 : C2 → At d xs rt bs (pc', l, R2 :: rest, H2) Ph) (k3 : C3 → At d xs rt bs (pc', l, R3 :: rest, H3) Ph) (k4 : C4 → At d xs rt bs (pc', l, R4 :: rest, H4) Ph) (k5 : C5 → At d xs rt bs (pc', l, R5 :: rest, H5) Ph) (k6 : C6 → At d xs rt bs (pc', l, R6 :: rest, H6) Ph) (k7 : C7 → At d xs rt bs (pc', l, R7 :: rest, H7) Ph) (k8 : C8 → At d xs rt bs (pc', l, R8 :: rest, H8) Ph) (k9 : C9 → At d xs rt bs (pc', l, R9 :: rest, H9) Ph) (k10 : C10 → At d xs rt bs (pc', l, R10 :: rest, H10) Ph) (k11 : C11 → At d xs rt bs (pc', l, R11 :: rest, H11) Ph) : Ar d xs rt bs ((.invokespecial z, n, a, b, c) :: r) (pc, l, st, h) Ph := by
  refine r_callI pc' hp as rest ha hq hE ?_
  intro v h' hv
  rcases hv with ⟨q1, q2, q3⟩ | ⟨q1, q2, q3⟩ | ⟨q1, q2, q3⟩ | ⟨q1, q2, q3⟩ | ⟨q1, q2, q3⟩ | ⟨q1, q2, q3⟩ | ⟨q1, q2, q3⟩ | ⟨q1, q2, q3⟩ | ⟨q1, q2, q3⟩ | ⟨q1, q2, q3⟩ | ⟨q1, q2, q3⟩ | ⟨q1, q2, q3⟩
  · rw [q2, q3]; exact k0 q1
  · rw [q2, q3]; exact k1 q1
  · rw [q2, q3]; exact k2 q1
  · rw [q2, q3]; exact k3 q1
  · rw [q2, q3]; exact k4 q1
  · rw [q2, q3]; exact k5 q1
  · rw [q2, q3]; exact k6 q1
  · rw [q2, q3]; exact k7 q1
  · rw [q2, q3]; exact k8 q1
  · rw [q2, q3]; exact k9 q1
  · rw [q2, q3]; exact k10 q1
  · rw [q2, q3]; exact k11 q1
theorem r_callI12v {z : Nat} (C0 C1 C2 C3 C4 C5 C6 C7 C8 C9 C10 C11 : Prop)  (H0 H1 H2 H3 H4 H5 H6 H7 H8 H9 H10 H11 : en_H) (pc' : Nat) (hp : pc + 3 = pc') (as rest : List Value) (ha : a < 900) (hq : en_take (.invokespecial z, n, a, b, c) st = some (as, rest)) (hE : Ev d a as h (fun v h' => (C0 ∧ v = none ∧ h' = H0) ∨ (C1 ∧ v = none ∧ h' = H1) ∨ (C2 ∧ v = none ∧ h' = H2) ∨ (C3 ∧ v = none ∧ h' = H3) ∨ (C4 ∧ v = none ∧ h' = H4) ∨ (C5 ∧ v = none ∧ h' = H5) ∨ (C6 ∧ v = none ∧ h' = H6) ∨ (C7 ∧ v = none ∧ h' = H7) ∨ (C8 ∧ v = none ∧ h' = H8) ∨ (C9 ∧ v = none ∧ h' = H9) ∨ (C10 ∧ v = none ∧ h' = H10) ∨ (C11 ∧ v = none ∧ h' = H11))) (k0 : C0 → At d xs rt bs (pc', l, rest, H0) Ph) (k1 : C1 → At d xs rt bs (pc', l, rest, H1) Ph) (k2 : C2 → At d xs rt bs (pc', l, rest, H2) Ph) (k3 : C3 → At d xs rt bs (pc', l, rest, H3) Ph) (k4 : C4 → At d xs rt bs (pc', l, rest, H4) Ph) (k5 : C5 → At d xs rt bs (pc', l, rest, H5) Ph) (k6 : C6 → At d xs rt bs (pc', l, rest, H6) Ph) (k7 : C7 → At d xs rt bs (pc', l, rest, H7) Ph) (k8 : C8 → At d xs rt bs (pc', l, rest, H8) Ph) (k9 : C9 → At d xs rt bs (pc', l, rest, H9) Ph) (k10 : C10 → At d xs rt bs (pc', l, rest, H10) Ph) (k11 : C11 → At d xs rt bs (pc', l, rest, H11) Ph) : Ar d xs rt bs ((.invokespecial z, n, a, b, c) :: r) (pc, l, st, h) Ph := by
  refine r_callI pc' hp as rest ha hq hE ?_
  intro v h' hv
  rcases hv with ⟨q1, q2, q3⟩ | ⟨q1, q2, q3⟩ | ⟨q1, q2, q3⟩ | ⟨q1, q2, q3⟩ | ⟨q1, q2, q3⟩ | ⟨q1, q2, q3⟩ | ⟨q1, q2, q3⟩ | ⟨q1, q2, q3⟩ | ⟨q1, q2, q3⟩ | ⟨q1, q2, q3⟩ | ⟨q1, q2, q3⟩ | ⟨q1, q2, q3⟩
  · rw [q2, q3]; exact k0 q1
  · rw [q2, q3]; exact k1 q1
  · rw [q2, q3]; exact k2 q1
  · rw [q2, q3]; exact k3 q1
  · rw [q2, q3]; exact k4 q1
  · rw [q2, q3]; exact k5 q1
  · rw [q2, q3]; exact k6 q1
  · rw [q2, q3]; exact k7 q1
  · rw [q2, q3]; exact k8 q1
  · rw [q2, q3]; exact k9 q1
  · rw [q2, q3]; exact k10 q1
  · rw [q2, q3]; exact k11 q1
end RW
end
section
-- the cells behind new LeftHands(), and those behind new LeftHandsModel() (its own refs from 231 on)
def hp_X : List en_E := [
  .inr (10, [.ref 1, .ref 58, .ref 173, .ref 174, .ref 176, .ref 184, .ref 188, .ref 204, .ref 220, .ref 222, .ref 223, .ref 228, .ref 229, .ref 230, .int 0, .int 0, .int 0, .int 0]),
  .inr (0, [.int 0, .ref 2, .ref 3, .ref 4, .int 0, .ref 5, .int 0, .ref 6, .ref 7, .int (-1), .int 60, .int 2, .int 0, .ref 14, .ref 15]),
  .inl (0, .inl (List.replicate 12 0)),
  .inl (0, .inl (List.replicate 12 0)),
  .inl (0, .inl (List.replicate 12 0)),
  .inl (0, .inl (List.replicate 48 0)),
  .inl (3, .inr (.inr ([some 16, some 23, some 30, some 37, some 44, some 51]))),
  .inr (4, [.int 0, .ref 8, .ref 9, .int 0, .int 0, .ref 10, .ref 11, .ref 12, .ref 13]),
  .inl (0, .inl (List.replicate 400 0)),
  .inl (0, .inl (List.replicate 400 0)),
  .inl (0, .inl (List.replicate 12 0)),
  .inl (0, .inl (List.replicate 12 0)),
  .inl (0, .inl (List.replicate 12 0)),
  .inl (0, .inl (List.replicate 12 0)),
  .inl (0, .inl (List.replicate 8 0)),
  .inl (0, .inl (List.replicate 8 0)),
  .inr (4, [.int 0, .ref 17, .ref 18, .int 0, .int 0, .ref 19, .ref 20, .ref 21, .ref 22]),
  .inl (0, .inl (List.replicate 400 0)),
  .inl (0, .inl (List.replicate 400 0)),
  .inl (0, .inl (List.replicate 12 0)),
  .inl (0, .inl (List.replicate 12 0)),
  .inl (0, .inl (List.replicate 12 0)),
  .inl (0, .inl (List.replicate 12 0)),
  .inr (4, [.int 0, .ref 24, .ref 25, .int 0, .int 0, .ref 26, .ref 27, .ref 28, .ref 29]),
  .inl (0, .inl (List.replicate 400 0)),
  .inl (0, .inl (List.replicate 400 0)),
  .inl (0, .inl (List.replicate 12 0)),
  .inl (0, .inl (List.replicate 12 0)),
  .inl (0, .inl (List.replicate 12 0)),
  .inl (0, .inl (List.replicate 12 0)),
  .inr (4, [.int 0, .ref 31, .ref 32, .int 0, .int 0, .ref 33, .ref 34, .ref 35, .ref 36]),
  .inl (0, .inl (List.replicate 400 0)),
  .inl (0, .inl (List.replicate 400 0)),
  .inl (0, .inl (List.replicate 12 0)),
  .inl (0, .inl (List.replicate 12 0)),
  .inl (0, .inl (List.replicate 12 0)),
  .inl (0, .inl (List.replicate 12 0)),
  .inr (4, [.int 0, .ref 38, .ref 39, .int 0, .int 0, .ref 40, .ref 41, .ref 42, .ref 43]),
  .inl (0, .inl (List.replicate 400 0)),
  .inl (0, .inl (List.replicate 400 0)),
  .inl (0, .inl (List.replicate 12 0)),
  .inl (0, .inl (List.replicate 12 0)),
  .inl (0, .inl (List.replicate 12 0)),
  .inl (0, .inl (List.replicate 12 0)),
  .inr (4, [.int 0, .ref 45, .ref 46, .int 0, .int 0, .ref 47, .ref 48, .ref 49, .ref 50]),
  .inl (0, .inl (List.replicate 400 0)),
  .inl (0, .inl (List.replicate 400 0)),
  .inl (0, .inl (List.replicate 12 0)),
  .inl (0, .inl (List.replicate 12 0)),
  .inl (0, .inl (List.replicate 12 0)),
  .inl (0, .inl (List.replicate 12 0)),
  .inr (4, [.int 0, .ref 52, .ref 53, .int 0, .int 0, .ref 54, .ref 55, .ref 56, .ref 57]),
  .inl (0, .inl (List.replicate 400 0)),
  .inl (0, .inl (List.replicate 400 0)),
  .inl (0, .inl (List.replicate 12 0)),
  .inl (0, .inl (List.replicate 12 0)),
  .inl (0, .inl (List.replicate 12 0)),
  .inl (0, .inl (List.replicate 12 0)),
  .inl (4, .inr (.inr ([some 59, some 116]))),
  .inr (0, [.int 0, .ref 60, .ref 61, .ref 62, .int 0, .ref 63, .int 0, .ref 64, .ref 65, .int (-1), .int 60, .int 2, .int 0, .ref 72, .ref 73]),
  .inl (0, .inl (List.replicate 12 0)),
  .inl (0, .inl (List.replicate 12 0)),
  .inl (0, .inl (List.replicate 12 0)),
  .inl (0, .inl (List.replicate 48 0)),
  .inl (3, .inr (.inr ([some 74, some 81, some 88, some 95, some 102, some 109]))),
  .inr (4, [.int 0, .ref 66, .ref 67, .int 0, .int 0, .ref 68, .ref 69, .ref 70, .ref 71]),
  .inl (0, .inl (List.replicate 400 0)),
  .inl (0, .inl (List.replicate 400 0)),
  .inl (0, .inl (List.replicate 12 0)),
  .inl (0, .inl (List.replicate 12 0)),
  .inl (0, .inl (List.replicate 12 0)),
  .inl (0, .inl (List.replicate 12 0)),
  .inl (0, .inl (List.replicate 8 0)),
  .inl (0, .inl (List.replicate 8 0)),
  .inr (4, [.int 0, .ref 75, .ref 76, .int 0, .int 0, .ref 77, .ref 78, .ref 79, .ref 80]),
  .inl (0, .inl (List.replicate 400 0)),
  .inl (0, .inl (List.replicate 400 0)),
  .inl (0, .inl (List.replicate 12 0)),
  .inl (0, .inl (List.replicate 12 0)),
  .inl (0, .inl (List.replicate 12 0)),
  .inl (0, .inl (List.replicate 12 0)),
  .inr (4, [.int 0, .ref 82, .ref 83, .int 0, .int 0, .ref 84, .ref 85, .ref 86, .ref 87]),
  .inl (0, .inl (List.replicate 400 0)),
  .inl (0, .inl (List.replicate 400 0)),
  .inl (0, .inl (List.replicate 12 0)),
  .inl (0, .inl (List.replicate 12 0)),
  .inl (0, .inl (List.replicate 12 0)),
  .inl (0, .inl (List.replicate 12 0)),
  .inr (4, [.int 0, .ref 89, .ref 90, .int 0, .int 0, .ref 91, .ref 92, .ref 93, .ref 94]),
  .inl (0, .inl (List.replicate 400 0)),
  .inl (0, .inl (List.replicate 400 0)),
  .inl (0, .inl (List.replicate 12 0)),
  .inl (0, .inl (List.replicate 12 0)),
  .inl (0, .inl (List.replicate 12 0)),
  .inl (0, .inl (List.replicate 12 0)),
  .inr (4, [.int 0, .ref 96, .ref 97, .int 0, .int 0, .ref 98, .ref 99, .ref 100, .ref 101]),
  .inl (0, .inl (List.replicate 400 0)),
  .inl (0, .inl (List.replicate 400 0)),
  .inl (0, .inl (List.replicate 12 0)),
  .inl (0, .inl (List.replicate 12 0)),
  .inl (0, .inl (List.replicate 12 0)),
  .inl (0, .inl (List.replicate 12 0)),
  .inr (4, [.int 0, .ref 103, .ref 104, .int 0, .int 0, .ref 105, .ref 106, .ref 107, .ref 108]),
  .inl (0, .inl (List.replicate 400 0)),
  .inl (0, .inl (List.replicate 400 0)),
  .inl (0, .inl (List.replicate 12 0)),
  .inl (0, .inl (List.replicate 12 0)),
  .inl (0, .inl (List.replicate 12 0)),
  .inl (0, .inl (List.replicate 12 0)),
  .inr (4, [.int 0, .ref 110, .ref 111, .int 0, .int 0, .ref 112, .ref 113, .ref 114, .ref 115]),
  .inl (0, .inl (List.replicate 400 0)),
  .inl (0, .inl (List.replicate 400 0)),
  .inl (0, .inl (List.replicate 12 0)),
  .inl (0, .inl (List.replicate 12 0)),
  .inl (0, .inl (List.replicate 12 0)),
  .inl (0, .inl (List.replicate 12 0)),
  .inr (0, [.int 0, .ref 117, .ref 118, .ref 119, .int 0, .ref 120, .int 0, .ref 121, .ref 122, .int (-1), .int 60, .int 2, .int 0, .ref 129, .ref 130]),
  .inl (0, .inl (List.replicate 12 0)),
  .inl (0, .inl (List.replicate 12 0)),
  .inl (0, .inl (List.replicate 12 0)),
  .inl (0, .inl (List.replicate 48 0)),
  .inl (3, .inr (.inr ([some 131, some 138, some 145, some 152, some 159, some 166]))),
  .inr (4, [.int 0, .ref 123, .ref 124, .int 0, .int 0, .ref 125, .ref 126, .ref 127, .ref 128]),
  .inl (0, .inl (List.replicate 400 0)),
  .inl (0, .inl (List.replicate 400 0)),
  .inl (0, .inl (List.replicate 12 0)),
  .inl (0, .inl (List.replicate 12 0)),
  .inl (0, .inl (List.replicate 12 0)),
  .inl (0, .inl (List.replicate 12 0)),
  .inl (0, .inl (List.replicate 8 0)),
  .inl (0, .inl (List.replicate 8 0)),
  .inr (4, [.int 0, .ref 132, .ref 133, .int 0, .int 0, .ref 134, .ref 135, .ref 136, .ref 137]),
  .inl (0, .inl (List.replicate 400 0)),
  .inl (0, .inl (List.replicate 400 0)),
  .inl (0, .inl (List.replicate 12 0)),
  .inl (0, .inl (List.replicate 12 0)),
  .inl (0, .inl (List.replicate 12 0)),
  .inl (0, .inl (List.replicate 12 0)),
  .inr (4, [.int 0, .ref 139, .ref 140, .int 0, .int 0, .ref 141, .ref 142, .ref 143, .ref 144]),
  .inl (0, .inl (List.replicate 400 0)),
  .inl (0, .inl (List.replicate 400 0)),
  .inl (0, .inl (List.replicate 12 0)),
  .inl (0, .inl (List.replicate 12 0)),
  .inl (0, .inl (List.replicate 12 0)),
  .inl (0, .inl (List.replicate 12 0)),
  .inr (4, [.int 0, .ref 146, .ref 147, .int 0, .int 0, .ref 148, .ref 149, .ref 150, .ref 151]),
  .inl (0, .inl (List.replicate 400 0)),
  .inl (0, .inl (List.replicate 400 0)),
  .inl (0, .inl (List.replicate 12 0)),
  .inl (0, .inl (List.replicate 12 0)),
  .inl (0, .inl (List.replicate 12 0)),
  .inl (0, .inl (List.replicate 12 0)),
  .inr (4, [.int 0, .ref 153, .ref 154, .int 0, .int 0, .ref 155, .ref 156, .ref 157, .ref 158]),
  .inl (0, .inl (List.replicate 400 0)),
  .inl (0, .inl (List.replicate 400 0)),
  .inl (0, .inl (List.replicate 12 0)),
  .inl (0, .inl (List.replicate 12 0)),
  .inl (0, .inl (List.replicate 12 0)),
  .inl (0, .inl (List.replicate 12 0)),
  .inr (4, [.int 0, .ref 160, .ref 161, .int 0, .int 0, .ref 162, .ref 163, .ref 164, .ref 165]),
  .inl (0, .inl (List.replicate 400 0)),
  .inl (0, .inl (List.replicate 400 0)),
  .inl (0, .inl (List.replicate 12 0)),
  .inl (0, .inl (List.replicate 12 0)),
  .inl (0, .inl (List.replicate 12 0)),
  .inl (0, .inl (List.replicate 12 0)),
  .inr (4, [.int 0, .ref 167, .ref 168, .int 0, .int 0, .ref 169, .ref 170, .ref 171, .ref 172]),
  .inl (0, .inl (List.replicate 400 0)),
  .inl (0, .inl (List.replicate 400 0)),
  .inl (0, .inl (List.replicate 12 0)),
  .inl (0, .inl (List.replicate 12 0)),
  .inl (0, .inl (List.replicate 12 0)),
  .inl (0, .inl (List.replicate 12 0)),
  .inl (2, .inl ([0, 0])),
  .inr (8, [.ref 175, .int 0]),
  .inl (0, .inl (List.replicate 400 0)),
  .inr (5, [.ref 174, .ref 177, .int (-1), .int 0, .int 0, .int 0, .int 0]),
  .inr (4, [.int 0, .ref 178, .ref 179, .int 0, .int 0, .ref 180, .ref 181, .ref 182, .ref 183]),
  .inl (0, .inl (List.replicate 400 0)),
  .inl (0, .inl (List.replicate 400 0)),
  .inl (0, .inl (List.replicate 12 0)),
  .inl (0, .inl (List.replicate 12 0)),
  .inl (0, .inl (List.replicate 12 0)),
  .inl (0, .inl (List.replicate 12 0)),
  .inr (9, [.ref 1]),
  .inr (3, [.ref 1, .ref 186, .ref 187, .int 0]),
  .inl (1, .inr (.inl (List.replicate 9 0))),
  .inl (1, .inr (.inl (List.replicate 64 0))),
  .inr (1, [.ref 1, .ref 185, .ref 189, .ref 190, .ref 191, .ref 192, .ref 193, .ref 194, .ref 195, .ref 196, .ref 197, .ref 198, .ref 199, .ref 200, .ref 201, .ref 202, .int 0, .ref 203, .int 0]),
  .inl (0, .inl (List.replicate 12 0)),
  .inl (0, .inl (List.replicate 12 0)),
  .inl (0, .inl (List.replicate 8 0)),
  .inl (0, .inl (List.replicate 12 0)),
  .inl (0, .inl (List.replicate 8 0)),
  .inl (0, .inl (List.replicate 8 0)),
  .inl (0, .inl (List.replicate 8 0)),
  .inl (0, .inl (List.replicate 8 0)),
  .inl (0, .inl (List.replicate 8 0)),
  .inl (0, .inl (List.replicate 8 0)),
  .inl (0, .inl (List.replicate 12 0)),
  .inl (0, .inl (List.replicate 12 0)),
  .inl (1, .inr (.inl (List.replicate 8 0))),
  .inl (0, .inl (List.replicate 8 0)),
  .inl (0, .inl (List.replicate 800 0)),
  .inr (1, [.ref 1, .ref 185, .ref 205, .ref 206, .ref 207, .ref 208, .ref 209, .ref 210, .ref 211, .ref 212, .ref 213, .ref 214, .ref 215, .ref 216, .ref 217, .ref 218, .int 0, .ref 219, .int 0]),
  .inl (0, .inl (List.replicate 12 0)),
  .inl (0, .inl (List.replicate 12 0)),
  .inl (0, .inl (List.replicate 8 0)),
  .inl (0, .inl (List.replicate 12 0)),
  .inl (0, .inl (List.replicate 8 0)),
  .inl (0, .inl (List.replicate 8 0)),
  .inl (0, .inl (List.replicate 8 0)),
  .inl (0, .inl (List.replicate 8 0)),
  .inl (0, .inl (List.replicate 8 0)),
  .inl (0, .inl (List.replicate 8 0)),
  .inl (0, .inl (List.replicate 12 0)),
  .inl (0, .inl (List.replicate 12 0)),
  .inl (1, .inr (.inl (List.replicate 8 0))),
  .inl (0, .inl (List.replicate 8 0)),
  .inl (0, .inl (List.replicate 800 0)),
  .inr (7, [.ref 1, .ref 204, .int (-1), .int 0, .int 0, .ref 221]),
  .inl (0, .inl ([0, 0, 0, 0])),
  .inr (6, [.ref 1, .ref 204, .int 0, .int 0, .int 0, .int 0]),
  .inr (2, [.ref 1, .ref 185, .ref 224, .ref 225, .ref 226, .int 0, .int 0, .int 0, .int 0, .int 0, .int 0, .int 0, .ref 227]),
  .inl (0, .inl (List.replicate 12 0)),
  .inl (0, .inl (List.replicate 8 0)),
  .inl (0, .inl (List.replicate 9600 0)),
  .inl (0, .inl (List.replicate 12 0)),
  .inl (0, .inl (List.replicate 8 0)),
  .inl (0, .inl (List.replicate 8 0)),
  .inl (0, .inl (List.replicate 7 0))]
def hp_M : List en_E := [
  .inr (11, [.int 0, .int 0, .ref 232, .ref 233, .ref 234, .ref 235, .int 0, .ref 236, .int 0, .int 0, .int 0, .int 0, .long 0, .int (-1), .int 0, .int 0, .ref 237, .int 0, .ref 238, .ref 239, .int 0, .ref 240, .ref 241, .int 0, .int 0, .ref 242, .ref 243, .int 0, .ref 244, .ref 245, .int 0, .long 0, .long 0, .ref 246, .ref 247, .ref 248, .int 0, .ref 249, .ref 250, .ref 251, .ref 252, .ref 253, .ref 254, .ref 255, .ref 256, .int 0, .int 0, .int 0, .long 0, .ref 257, .ref 258, .int 0]),
  .inl (0, .inl (List.replicate 7 0)),
  .inl (0, .inl ([0, 0, 0, -1, 0, 60, 2] ++ List.replicate 5503 0)),
  .inl (0, .inl (List.replicate 11020 0)),
  .inl (2, .inl ([0, 0])),
  .inl (0, .inl (List.replicate 400 0)),
  .inl (0, .inl (List.replicate 96 0)),
  .inl (0, .inl (List.replicate 400 0)),
  .inl (0, .inl (List.replicate 400 0)),
  .inl (0, .inl (List.replicate 400 0)),
  .inl (0, .inl (List.replicate 400 0)),
  .inl (1, .inr (.inl ([408612, 777297172, 8441477, 20579780, 398548, 446125701, 24159891, 674919554696, 52595]))),
  .inl (1, .inr (.inl ([6605428, 6309, 67155]))),
  .inl (1, .inr (.inl (List.replicate 13 0))),
  .inl (1, .inr (.inl (List.replicate 400 0))),
  .inl (0, .inl (List.replicate 12 0)),
  .inl (0, .inl (List.replicate 12 0)),
  .inl (0, .inl (List.replicate 8 0)),
  .inl (0, .inl (List.replicate 13 0)),
  .inl (0, .inl (List.replicate 8 0)),
  .inl (0, .inl (List.replicate 8 0)),
  .inl (0, .inl (List.replicate 8 0)),
  .inl (0, .inl (List.replicate 8 0)),
  .inl (0, .inl (List.replicate 8 0)),
  .inl (2, .inl (List.replicate 8 0)),
  .inl (0, .inl (List.replicate 800 0)),
  .inl (0, .inl (List.replicate 8 0)),
  .inl (0, .inl (List.replicate 8 0))]

def en_eqR {α : Type} (q : α → α → Bool) : List α → List α → Bool
  | [], [] => true
  | x :: r, y :: t => bif q x y then en_eqR q r t else false
  | _, _ => false
theorem en_eqR_eq {α : Type} {q : α → α → Bool} (hq : ∀ x y, q x y = true → x = y) : ∀ {x y : List α}, en_eqR q x y = true → x = y
  | [], [], h => rfl
  | [], y :: t, h => by cases h
  | x :: r, [], h => by cases h
  | x :: r, y :: t, h => by
    unfold en_eqR at h
    cases hb : q x y with
    | true =>
      rw [hb] at h
      rw [hq _ _ hb, en_eqR_eq hq h]
    | false =>
      rw [hb] at h
      cases h
def en_eqI (x y : Int32) : Bool := decide (x = y)
def en_eqJ (x y : Int64) : Bool := decide (x = y)
def en_eqO (x y : Option Nat) : Bool := decide (x = y)
def en_eqV (x y : Value) : Bool := decide (x = y)
def en_eqA (x y : en_A) : Bool := match x, y with
  | .inl a, .inl b => en_eqR en_eqI a b
  | .inr (.inl a), .inr (.inl b) => en_eqR en_eqJ a b
  | .inr (.inr a), .inr (.inr b) => en_eqR en_eqO a b
  | _, _ => false
def en_eqE (x y : en_E) : Bool := match x, y with
  | .inl a, .inl b => Nat.beq a.1 b.1 && en_eqA a.2 b.2
  | .inr a, .inr b => Nat.beq a.1 b.1 && en_eqR en_eqV a.2 b.2
  | _, _ => false
def en_eqL : List en_E → List en_E → Bool := en_eqR en_eqE
theorem en_eqA_eq {x y : en_A} (h : en_eqA x y = true) : x = y := by
  unfold en_eqA at h
  split at h
  · rw [en_eqR_eq (fun x y h => of_decide_eq_true h) h]
  · rw [en_eqR_eq (fun x y h => of_decide_eq_true h) h]
  · rw [en_eqR_eq (fun x y h => of_decide_eq_true h) h]
  · cases h
theorem en_eqE_eq {x y : en_E} (h : en_eqE x y = true) : x = y := by
  unfold en_eqE at h
  split at h
  · rename_i a b
    simp only [Bool.and_eq_true] at h
    obtain ⟨a1, a2⟩ := a
    obtain ⟨b1, b2⟩ := b
    have h1 : a1 = b1 := Nat.eq_of_beq_eq_true h.1
    have h2 : a2 = b2 := en_eqA_eq h.2
    rw [h1, h2]
  · rename_i a b
    simp only [Bool.and_eq_true] at h
    obtain ⟨a1, a2⟩ := a
    obtain ⟨b1, b2⟩ := b
    have h1 : a1 = b1 := Nat.eq_of_beq_eq_true h.1
    have h2 : a2 = b2 := en_eqR_eq (fun x y h => of_decide_eq_true h) h.2
    rw [h1, h2]
  · cases h
theorem en_eqL_eq {x y : List en_E} (h : en_eqL x y = true) : x = y := en_eqR_eq (fun x y h => en_eqE_eq h) h
theorem hp_t1 : (match en_run en_IS en_BS 8 2000 103 [.ref 0] ([.inr (10, en_dflt 10)], 18) with | some w => w.1.isNone && en_eqL w.2.1 hp_X && decide (w.2.2 = 31312) | none => false) = true := by decide +kernel
theorem hp_t2 : (match en_run en_IS en_BS 8 2000 158 [.ref 231] (hp_X ++ [.inr (11, en_dflt 11)], 31364) with | some w => w.1.isNone && en_eqL w.2.1 (hp_X ++ hp_M) && decide (w.2.2 = 51333) | none => false) = true := by decide +kernel
end
section
def en_pre (a : Nat → en_E) : Nat → List en_E → List en_E
  | 0, M => M
  | n + 1, M => a n :: en_pre a n M
theorem hp_Xl : hp_X.length = 231 := by decide +kernel
theorem en_rcI {J : en_I} {p ci : Nat} {fs as : List Value} {g : List en_E} {N : Nat} (hp : g[p]? = some (.inr (ci, fs))) (hJ : Nat.beq ci J.2.2.2.2.1 = true) : en_rc J (.ref p :: as) (g, N) = true := by
  unfold en_rc
  simp only [hp]
  exact hJ
theorem en_shr0 (x : Int32) : x >>> (0 &&& 31) = x := by
  have h : (0 : Int32) &&& 31 = 0 := by decide
  rw [h]
  exact Int32.toInt_inj.mp (by simp)
theorem en_gs_ne {g : List en_E} {p q : Nat} {e x : en_E} (h : q ≠ p) (k : g[p]? = some x) : (g.set q e)[p]? = some x := by
  rw [List.getElem?_set, if_neg h]
  exact k
theorem en_gs_eq {g : List en_E} {p : Nat} {e x : en_E} (k : g[p]? = some x) : (g.set p e)[p]? = some e := by
  rw [List.getElem?_set, if_pos rfl, if_pos (List.getElem?_eq_some_iff.mp k).1]
theorem en_gr1 {α : Type} {x : α} {n i : Nat} (h : Nat.ble (i + 1) n = true) : (List.replicate n x)[i]? = some x := by
  rw [List.getElem?_replicate]
  exact if_pos (Nat.le_of_ble_eq_true h)
theorem en_gr2 {α : Type} {P : List α} {x : α} {n i : Nat} (k : Nat) (hk : P.length = k) (h : Nat.ble k i = true) (h2 : Nat.ble (i - k + 1) n = true) : (P ++ List.replicate n x)[i]? = some x := by
  rw [List.getElem?_append_right (by rw [hk]; exact Nat.le_of_ble_eq_true h), hk]
  exact en_gr1 h2
theorem en_sd0 {g : List en_E} {p : Nat} {a c : en_E} : (g.set p a).set p c = g.set p c := List.set_set ..
theorem en_sdS {g G : List en_E} {p q : Nat} {x c : en_E} (hq : q ≠ p) (h : g.set p c = G) : (g.set q x).set p c = G.set q x := by
  rw [← h]
  exact List.set_comm _ _ hq
theorem Ar.hp {d : Nat} {xs : Option (List Int32)} {rt : Option FieldType} {bs : en_Bs} {r : List en_Op} {pc : Nat} {l : en_L} {st : List Value} {g G : List en_E} {N : Nat} {Ph : Option Value → en_H → Prop} (e : g = G) (k : Ar d xs rt bs r (pc, l, st, (G, N)) Ph) : Ar d xs rt bs r (pc, l, st, (g, N)) Ph := by
  rw [e]
  exact k
def IsX (g : List en_E) : Prop := ∃ A : List en_E, A.length = 231 ∧ g = A ++ hp_M
theorem IsX.base : IsX (hp_X ++ hp_M) := ⟨hp_X, hp_Xl, rfl⟩
theorem IsX.set {g : List en_E} {k : Nat} {e : en_E} (h : IsX g) (hk : k < 231) : IsX (g.set k e) := by
  obtain ⟨A, hA, rfl⟩ := h
  refine ⟨A.set k e, by rw [List.length_set, hA], ?_⟩
  rw [List.set_append_left _ _ (by omega)]
theorem hp_Ml : hp_M.length = 28 := by decide +kernel
theorem en_pre_len (a : Nat → en_E) : ∀ (n : Nat) (M : List en_E), (en_pre a n M).length = n + M.length
  | 0, M => (Nat.zero_add _).symm
  | n + 1, M => by
    unfold en_pre
    rw [List.length_cons, en_pre_len a n M]
    omega
theorem en_prel (a : Nat → en_E) : (en_pre a 231 hp_M).length = 259 := (en_pre_len a 231 hp_M).trans (by rw [hp_Ml])
theorem en_lset {g : List en_E} {N k : Nat} {e : en_E} (h : g.length = N) : (g.set k e).length = N := by
  rw [List.length_set]
  exact h
theorem en_pre_congr {a b : Nat → en_E} : ∀ {n : Nat} {M : List en_E}, (∀ k, k < n → a k = b k) → en_pre a n M = en_pre b n M
  | 0, M, h => rfl
  | n + 1, M, h => by
    unfold en_pre
    rw [h n (Nat.lt_succ_self n), en_pre_congr (fun k hk => h k (Nat.lt_succ_of_lt hk))]
theorem en_pre_of (M : List en_E) : ∀ A : List en_E, ∃ a : Nat → en_E, A ++ M = en_pre a A.length M
  | [] => ⟨fun _ => .inr (0, []), rfl⟩
  | e :: A => by
    obtain ⟨a, ha⟩ := en_pre_of M A
    refine ⟨fun k => if k = A.length then e else a k, ?_⟩
    rw [List.length_cons, List.cons_append]
    unfold en_pre
    rw [if_pos rfl, ha, en_pre_congr (fun k hk => (if_neg (Nat.ne_of_lt hk)).symm)]
theorem IsX.pre {g : List en_E} (h : IsX g) : ∃ a : Nat → en_E, g = en_pre a 231 hp_M := by
  obtain ⟨A, hA, rfl⟩ := h
  obtain ⟨a, ha⟩ := en_pre_of hp_M A
  exact ⟨a, by rw [ha, hA]⟩
set_option maxRecDepth 100000 in
theorem hx_0 : (hp_X ++ hp_M)[0]? = some (.inr (10, [.ref 1, .ref 58, .ref 173, .ref 174, .ref 176, .ref 184, .ref 188, .ref 204, .ref 220, .ref 222, .ref 223, .ref 228, .ref 229, .ref 230, .int 0, .int 0, .int 0, .int 0])) := rfl
set_option maxRecDepth 100000 in
theorem hx_1 : (hp_X ++ hp_M)[1]? = some (.inr (0, [.int 0, .ref 2, .ref 3, .ref 4, .int 0, .ref 5, .int 0, .ref 6, .ref 7, .int (-1), .int 60, .int 2, .int 0, .ref 14, .ref 15])) := rfl
set_option maxRecDepth 100000 in
theorem hx_2 : (hp_X ++ hp_M)[2]? = some (.inl (0, .inl (List.replicate 12 0))) := rfl
set_option maxRecDepth 100000 in
theorem hx_3 : (hp_X ++ hp_M)[3]? = some (.inl (0, .inl (List.replicate 12 0))) := rfl
set_option maxRecDepth 100000 in
theorem hx_4 : (hp_X ++ hp_M)[4]? = some (.inl (0, .inl (List.replicate 12 0))) := rfl
set_option maxRecDepth 100000 in
theorem hx_5 : (hp_X ++ hp_M)[5]? = some (.inl (0, .inl (List.replicate 48 0))) := rfl
set_option maxRecDepth 100000 in
theorem hx_6 : (hp_X ++ hp_M)[6]? = some (.inl (3, .inr (.inr ([some 16, some 23, some 30, some 37, some 44, some 51])))) := rfl
set_option maxRecDepth 100000 in
theorem hx_7 : (hp_X ++ hp_M)[7]? = some (.inr (4, [.int 0, .ref 8, .ref 9, .int 0, .int 0, .ref 10, .ref 11, .ref 12, .ref 13])) := rfl
set_option maxRecDepth 100000 in
theorem hx_8 : (hp_X ++ hp_M)[8]? = some (.inl (0, .inl (List.replicate 400 0))) := rfl
set_option maxRecDepth 100000 in
theorem hx_9 : (hp_X ++ hp_M)[9]? = some (.inl (0, .inl (List.replicate 400 0))) := rfl
set_option maxRecDepth 100000 in
theorem hx_10 : (hp_X ++ hp_M)[10]? = some (.inl (0, .inl (List.replicate 12 0))) := rfl
set_option maxRecDepth 100000 in
theorem hx_11 : (hp_X ++ hp_M)[11]? = some (.inl (0, .inl (List.replicate 12 0))) := rfl
set_option maxRecDepth 100000 in
theorem hx_12 : (hp_X ++ hp_M)[12]? = some (.inl (0, .inl (List.replicate 12 0))) := rfl
set_option maxRecDepth 100000 in
theorem hx_13 : (hp_X ++ hp_M)[13]? = some (.inl (0, .inl (List.replicate 12 0))) := rfl
set_option maxRecDepth 100000 in
theorem hx_14 : (hp_X ++ hp_M)[14]? = some (.inl (0, .inl (List.replicate 8 0))) := rfl
set_option maxRecDepth 100000 in
theorem hx_15 : (hp_X ++ hp_M)[15]? = some (.inl (0, .inl (List.replicate 8 0))) := rfl
set_option maxRecDepth 100000 in
theorem hx_16 : (hp_X ++ hp_M)[16]? = some (.inr (4, [.int 0, .ref 17, .ref 18, .int 0, .int 0, .ref 19, .ref 20, .ref 21, .ref 22])) := rfl
set_option maxRecDepth 100000 in
theorem hx_17 : (hp_X ++ hp_M)[17]? = some (.inl (0, .inl (List.replicate 400 0))) := rfl
set_option maxRecDepth 100000 in
theorem hx_18 : (hp_X ++ hp_M)[18]? = some (.inl (0, .inl (List.replicate 400 0))) := rfl
set_option maxRecDepth 100000 in
theorem hx_19 : (hp_X ++ hp_M)[19]? = some (.inl (0, .inl (List.replicate 12 0))) := rfl
set_option maxRecDepth 100000 in
theorem hx_20 : (hp_X ++ hp_M)[20]? = some (.inl (0, .inl (List.replicate 12 0))) := rfl
set_option maxRecDepth 100000 in
theorem hx_21 : (hp_X ++ hp_M)[21]? = some (.inl (0, .inl (List.replicate 12 0))) := rfl
set_option maxRecDepth 100000 in
theorem hx_22 : (hp_X ++ hp_M)[22]? = some (.inl (0, .inl (List.replicate 12 0))) := rfl
set_option maxRecDepth 100000 in
theorem hx_23 : (hp_X ++ hp_M)[23]? = some (.inr (4, [.int 0, .ref 24, .ref 25, .int 0, .int 0, .ref 26, .ref 27, .ref 28, .ref 29])) := rfl
set_option maxRecDepth 100000 in
theorem hx_24 : (hp_X ++ hp_M)[24]? = some (.inl (0, .inl (List.replicate 400 0))) := rfl
set_option maxRecDepth 100000 in
theorem hx_25 : (hp_X ++ hp_M)[25]? = some (.inl (0, .inl (List.replicate 400 0))) := rfl
set_option maxRecDepth 100000 in
theorem hx_26 : (hp_X ++ hp_M)[26]? = some (.inl (0, .inl (List.replicate 12 0))) := rfl
set_option maxRecDepth 100000 in
theorem hx_27 : (hp_X ++ hp_M)[27]? = some (.inl (0, .inl (List.replicate 12 0))) := rfl
set_option maxRecDepth 100000 in
theorem hx_28 : (hp_X ++ hp_M)[28]? = some (.inl (0, .inl (List.replicate 12 0))) := rfl
set_option maxRecDepth 100000 in
theorem hx_29 : (hp_X ++ hp_M)[29]? = some (.inl (0, .inl (List.replicate 12 0))) := rfl
set_option maxRecDepth 100000 in
theorem hx_30 : (hp_X ++ hp_M)[30]? = some (.inr (4, [.int 0, .ref 31, .ref 32, .int 0, .int 0, .ref 33, .ref 34, .ref 35, .ref 36])) := rfl
set_option maxRecDepth 100000 in
theorem hx_31 : (hp_X ++ hp_M)[31]? = some (.inl (0, .inl (List.replicate 400 0))) := rfl
set_option maxRecDepth 100000 in
theorem hx_32 : (hp_X ++ hp_M)[32]? = some (.inl (0, .inl (List.replicate 400 0))) := rfl
set_option maxRecDepth 100000 in
theorem hx_33 : (hp_X ++ hp_M)[33]? = some (.inl (0, .inl (List.replicate 12 0))) := rfl
set_option maxRecDepth 100000 in
theorem hx_34 : (hp_X ++ hp_M)[34]? = some (.inl (0, .inl (List.replicate 12 0))) := rfl
set_option maxRecDepth 100000 in
theorem hx_35 : (hp_X ++ hp_M)[35]? = some (.inl (0, .inl (List.replicate 12 0))) := rfl
set_option maxRecDepth 100000 in
theorem hx_36 : (hp_X ++ hp_M)[36]? = some (.inl (0, .inl (List.replicate 12 0))) := rfl
set_option maxRecDepth 100000 in
theorem hx_37 : (hp_X ++ hp_M)[37]? = some (.inr (4, [.int 0, .ref 38, .ref 39, .int 0, .int 0, .ref 40, .ref 41, .ref 42, .ref 43])) := rfl
set_option maxRecDepth 100000 in
theorem hx_38 : (hp_X ++ hp_M)[38]? = some (.inl (0, .inl (List.replicate 400 0))) := rfl
set_option maxRecDepth 100000 in
theorem hx_39 : (hp_X ++ hp_M)[39]? = some (.inl (0, .inl (List.replicate 400 0))) := rfl
set_option maxRecDepth 100000 in
theorem hx_40 : (hp_X ++ hp_M)[40]? = some (.inl (0, .inl (List.replicate 12 0))) := rfl
set_option maxRecDepth 100000 in
theorem hx_41 : (hp_X ++ hp_M)[41]? = some (.inl (0, .inl (List.replicate 12 0))) := rfl
set_option maxRecDepth 100000 in
theorem hx_42 : (hp_X ++ hp_M)[42]? = some (.inl (0, .inl (List.replicate 12 0))) := rfl
set_option maxRecDepth 100000 in
theorem hx_43 : (hp_X ++ hp_M)[43]? = some (.inl (0, .inl (List.replicate 12 0))) := rfl
set_option maxRecDepth 100000 in
theorem hx_44 : (hp_X ++ hp_M)[44]? = some (.inr (4, [.int 0, .ref 45, .ref 46, .int 0, .int 0, .ref 47, .ref 48, .ref 49, .ref 50])) := rfl
set_option maxRecDepth 100000 in
theorem hx_45 : (hp_X ++ hp_M)[45]? = some (.inl (0, .inl (List.replicate 400 0))) := rfl
set_option maxRecDepth 100000 in
theorem hx_46 : (hp_X ++ hp_M)[46]? = some (.inl (0, .inl (List.replicate 400 0))) := rfl
set_option maxRecDepth 100000 in
theorem hx_47 : (hp_X ++ hp_M)[47]? = some (.inl (0, .inl (List.replicate 12 0))) := rfl
set_option maxRecDepth 100000 in
theorem hx_48 : (hp_X ++ hp_M)[48]? = some (.inl (0, .inl (List.replicate 12 0))) := rfl
set_option maxRecDepth 100000 in
theorem hx_49 : (hp_X ++ hp_M)[49]? = some (.inl (0, .inl (List.replicate 12 0))) := rfl
set_option maxRecDepth 100000 in
theorem hx_50 : (hp_X ++ hp_M)[50]? = some (.inl (0, .inl (List.replicate 12 0))) := rfl
set_option maxRecDepth 100000 in
theorem hx_51 : (hp_X ++ hp_M)[51]? = some (.inr (4, [.int 0, .ref 52, .ref 53, .int 0, .int 0, .ref 54, .ref 55, .ref 56, .ref 57])) := rfl
set_option maxRecDepth 100000 in
theorem hx_52 : (hp_X ++ hp_M)[52]? = some (.inl (0, .inl (List.replicate 400 0))) := rfl
set_option maxRecDepth 100000 in
theorem hx_53 : (hp_X ++ hp_M)[53]? = some (.inl (0, .inl (List.replicate 400 0))) := rfl
set_option maxRecDepth 100000 in
theorem hx_54 : (hp_X ++ hp_M)[54]? = some (.inl (0, .inl (List.replicate 12 0))) := rfl
set_option maxRecDepth 100000 in
theorem hx_55 : (hp_X ++ hp_M)[55]? = some (.inl (0, .inl (List.replicate 12 0))) := rfl
set_option maxRecDepth 100000 in
theorem hx_56 : (hp_X ++ hp_M)[56]? = some (.inl (0, .inl (List.replicate 12 0))) := rfl
set_option maxRecDepth 100000 in
theorem hx_57 : (hp_X ++ hp_M)[57]? = some (.inl (0, .inl (List.replicate 12 0))) := rfl
set_option maxRecDepth 100000 in
theorem hx_58 : (hp_X ++ hp_M)[58]? = some (.inl (4, .inr (.inr ([some 59, some 116])))) := rfl
set_option maxRecDepth 100000 in
theorem hx_59 : (hp_X ++ hp_M)[59]? = some (.inr (0, [.int 0, .ref 60, .ref 61, .ref 62, .int 0, .ref 63, .int 0, .ref 64, .ref 65, .int (-1), .int 60, .int 2, .int 0, .ref 72, .ref 73])) := rfl
set_option maxRecDepth 100000 in
theorem hx_60 : (hp_X ++ hp_M)[60]? = some (.inl (0, .inl (List.replicate 12 0))) := rfl
set_option maxRecDepth 100000 in
theorem hx_61 : (hp_X ++ hp_M)[61]? = some (.inl (0, .inl (List.replicate 12 0))) := rfl
set_option maxRecDepth 100000 in
theorem hx_62 : (hp_X ++ hp_M)[62]? = some (.inl (0, .inl (List.replicate 12 0))) := rfl
set_option maxRecDepth 100000 in
theorem hx_63 : (hp_X ++ hp_M)[63]? = some (.inl (0, .inl (List.replicate 48 0))) := rfl
set_option maxRecDepth 100000 in
theorem hx_64 : (hp_X ++ hp_M)[64]? = some (.inl (3, .inr (.inr ([some 74, some 81, some 88, some 95, some 102, some 109])))) := rfl
set_option maxRecDepth 100000 in
theorem hx_65 : (hp_X ++ hp_M)[65]? = some (.inr (4, [.int 0, .ref 66, .ref 67, .int 0, .int 0, .ref 68, .ref 69, .ref 70, .ref 71])) := rfl
set_option maxRecDepth 100000 in
theorem hx_66 : (hp_X ++ hp_M)[66]? = some (.inl (0, .inl (List.replicate 400 0))) := rfl
set_option maxRecDepth 100000 in
theorem hx_67 : (hp_X ++ hp_M)[67]? = some (.inl (0, .inl (List.replicate 400 0))) := rfl
set_option maxRecDepth 100000 in
theorem hx_68 : (hp_X ++ hp_M)[68]? = some (.inl (0, .inl (List.replicate 12 0))) := rfl
set_option maxRecDepth 100000 in
theorem hx_69 : (hp_X ++ hp_M)[69]? = some (.inl (0, .inl (List.replicate 12 0))) := rfl
set_option maxRecDepth 100000 in
theorem hx_70 : (hp_X ++ hp_M)[70]? = some (.inl (0, .inl (List.replicate 12 0))) := rfl
set_option maxRecDepth 100000 in
theorem hx_71 : (hp_X ++ hp_M)[71]? = some (.inl (0, .inl (List.replicate 12 0))) := rfl
set_option maxRecDepth 100000 in
theorem hx_72 : (hp_X ++ hp_M)[72]? = some (.inl (0, .inl (List.replicate 8 0))) := rfl
set_option maxRecDepth 100000 in
theorem hx_73 : (hp_X ++ hp_M)[73]? = some (.inl (0, .inl (List.replicate 8 0))) := rfl
set_option maxRecDepth 100000 in
theorem hx_74 : (hp_X ++ hp_M)[74]? = some (.inr (4, [.int 0, .ref 75, .ref 76, .int 0, .int 0, .ref 77, .ref 78, .ref 79, .ref 80])) := rfl
set_option maxRecDepth 100000 in
theorem hx_75 : (hp_X ++ hp_M)[75]? = some (.inl (0, .inl (List.replicate 400 0))) := rfl
set_option maxRecDepth 100000 in
theorem hx_76 : (hp_X ++ hp_M)[76]? = some (.inl (0, .inl (List.replicate 400 0))) := rfl
set_option maxRecDepth 100000 in
theorem hx_77 : (hp_X ++ hp_M)[77]? = some (.inl (0, .inl (List.replicate 12 0))) := rfl
set_option maxRecDepth 100000 in
theorem hx_78 : (hp_X ++ hp_M)[78]? = some (.inl (0, .inl (List.replicate 12 0))) := rfl
set_option maxRecDepth 100000 in
theorem hx_79 : (hp_X ++ hp_M)[79]? = some (.inl (0, .inl (List.replicate 12 0))) := rfl
set_option maxRecDepth 100000 in
theorem hx_80 : (hp_X ++ hp_M)[80]? = some (.inl (0, .inl (List.replicate 12 0))) := rfl
set_option maxRecDepth 100000 in
theorem hx_81 : (hp_X ++ hp_M)[81]? = some (.inr (4, [.int 0, .ref 82, .ref 83, .int 0, .int 0, .ref 84, .ref 85, .ref 86, .ref 87])) := rfl
set_option maxRecDepth 100000 in
theorem hx_82 : (hp_X ++ hp_M)[82]? = some (.inl (0, .inl (List.replicate 400 0))) := rfl
set_option maxRecDepth 100000 in
theorem hx_83 : (hp_X ++ hp_M)[83]? = some (.inl (0, .inl (List.replicate 400 0))) := rfl
set_option maxRecDepth 100000 in
theorem hx_84 : (hp_X ++ hp_M)[84]? = some (.inl (0, .inl (List.replicate 12 0))) := rfl
set_option maxRecDepth 100000 in
theorem hx_85 : (hp_X ++ hp_M)[85]? = some (.inl (0, .inl (List.replicate 12 0))) := rfl
set_option maxRecDepth 100000 in
theorem hx_86 : (hp_X ++ hp_M)[86]? = some (.inl (0, .inl (List.replicate 12 0))) := rfl
set_option maxRecDepth 100000 in
theorem hx_87 : (hp_X ++ hp_M)[87]? = some (.inl (0, .inl (List.replicate 12 0))) := rfl
set_option maxRecDepth 100000 in
theorem hx_88 : (hp_X ++ hp_M)[88]? = some (.inr (4, [.int 0, .ref 89, .ref 90, .int 0, .int 0, .ref 91, .ref 92, .ref 93, .ref 94])) := rfl
set_option maxRecDepth 100000 in
theorem hx_89 : (hp_X ++ hp_M)[89]? = some (.inl (0, .inl (List.replicate 400 0))) := rfl
set_option maxRecDepth 100000 in
theorem hx_90 : (hp_X ++ hp_M)[90]? = some (.inl (0, .inl (List.replicate 400 0))) := rfl
set_option maxRecDepth 100000 in
theorem hx_91 : (hp_X ++ hp_M)[91]? = some (.inl (0, .inl (List.replicate 12 0))) := rfl
set_option maxRecDepth 100000 in
theorem hx_92 : (hp_X ++ hp_M)[92]? = some (.inl (0, .inl (List.replicate 12 0))) := rfl
set_option maxRecDepth 100000 in
theorem hx_93 : (hp_X ++ hp_M)[93]? = some (.inl (0, .inl (List.replicate 12 0))) := rfl
set_option maxRecDepth 100000 in
theorem hx_94 : (hp_X ++ hp_M)[94]? = some (.inl (0, .inl (List.replicate 12 0))) := rfl
set_option maxRecDepth 100000 in
theorem hx_95 : (hp_X ++ hp_M)[95]? = some (.inr (4, [.int 0, .ref 96, .ref 97, .int 0, .int 0, .ref 98, .ref 99, .ref 100, .ref 101])) := rfl
set_option maxRecDepth 100000 in
theorem hx_96 : (hp_X ++ hp_M)[96]? = some (.inl (0, .inl (List.replicate 400 0))) := rfl
set_option maxRecDepth 100000 in
theorem hx_97 : (hp_X ++ hp_M)[97]? = some (.inl (0, .inl (List.replicate 400 0))) := rfl
set_option maxRecDepth 100000 in
theorem hx_98 : (hp_X ++ hp_M)[98]? = some (.inl (0, .inl (List.replicate 12 0))) := rfl
set_option maxRecDepth 100000 in
theorem hx_99 : (hp_X ++ hp_M)[99]? = some (.inl (0, .inl (List.replicate 12 0))) := rfl
set_option maxRecDepth 100000 in
theorem hx_100 : (hp_X ++ hp_M)[100]? = some (.inl (0, .inl (List.replicate 12 0))) := rfl
set_option maxRecDepth 100000 in
theorem hx_101 : (hp_X ++ hp_M)[101]? = some (.inl (0, .inl (List.replicate 12 0))) := rfl
set_option maxRecDepth 100000 in
theorem hx_102 : (hp_X ++ hp_M)[102]? = some (.inr (4, [.int 0, .ref 103, .ref 104, .int 0, .int 0, .ref 105, .ref 106, .ref 107, .ref 108])) := rfl
set_option maxRecDepth 100000 in
theorem hx_103 : (hp_X ++ hp_M)[103]? = some (.inl (0, .inl (List.replicate 400 0))) := rfl
set_option maxRecDepth 100000 in
theorem hx_104 : (hp_X ++ hp_M)[104]? = some (.inl (0, .inl (List.replicate 400 0))) := rfl
set_option maxRecDepth 100000 in
theorem hx_105 : (hp_X ++ hp_M)[105]? = some (.inl (0, .inl (List.replicate 12 0))) := rfl
set_option maxRecDepth 100000 in
theorem hx_106 : (hp_X ++ hp_M)[106]? = some (.inl (0, .inl (List.replicate 12 0))) := rfl
set_option maxRecDepth 100000 in
theorem hx_107 : (hp_X ++ hp_M)[107]? = some (.inl (0, .inl (List.replicate 12 0))) := rfl
set_option maxRecDepth 100000 in
theorem hx_108 : (hp_X ++ hp_M)[108]? = some (.inl (0, .inl (List.replicate 12 0))) := rfl
set_option maxRecDepth 100000 in
theorem hx_109 : (hp_X ++ hp_M)[109]? = some (.inr (4, [.int 0, .ref 110, .ref 111, .int 0, .int 0, .ref 112, .ref 113, .ref 114, .ref 115])) := rfl
set_option maxRecDepth 100000 in
theorem hx_110 : (hp_X ++ hp_M)[110]? = some (.inl (0, .inl (List.replicate 400 0))) := rfl
set_option maxRecDepth 100000 in
theorem hx_111 : (hp_X ++ hp_M)[111]? = some (.inl (0, .inl (List.replicate 400 0))) := rfl
set_option maxRecDepth 100000 in
theorem hx_112 : (hp_X ++ hp_M)[112]? = some (.inl (0, .inl (List.replicate 12 0))) := rfl
set_option maxRecDepth 100000 in
theorem hx_113 : (hp_X ++ hp_M)[113]? = some (.inl (0, .inl (List.replicate 12 0))) := rfl
set_option maxRecDepth 100000 in
theorem hx_114 : (hp_X ++ hp_M)[114]? = some (.inl (0, .inl (List.replicate 12 0))) := rfl
set_option maxRecDepth 100000 in
theorem hx_115 : (hp_X ++ hp_M)[115]? = some (.inl (0, .inl (List.replicate 12 0))) := rfl
set_option maxRecDepth 100000 in
theorem hx_116 : (hp_X ++ hp_M)[116]? = some (.inr (0, [.int 0, .ref 117, .ref 118, .ref 119, .int 0, .ref 120, .int 0, .ref 121, .ref 122, .int (-1), .int 60, .int 2, .int 0, .ref 129, .ref 130])) := rfl
set_option maxRecDepth 100000 in
theorem hx_117 : (hp_X ++ hp_M)[117]? = some (.inl (0, .inl (List.replicate 12 0))) := rfl
set_option maxRecDepth 100000 in
theorem hx_118 : (hp_X ++ hp_M)[118]? = some (.inl (0, .inl (List.replicate 12 0))) := rfl
set_option maxRecDepth 100000 in
theorem hx_119 : (hp_X ++ hp_M)[119]? = some (.inl (0, .inl (List.replicate 12 0))) := rfl
set_option maxRecDepth 100000 in
theorem hx_120 : (hp_X ++ hp_M)[120]? = some (.inl (0, .inl (List.replicate 48 0))) := rfl
set_option maxRecDepth 100000 in
theorem hx_121 : (hp_X ++ hp_M)[121]? = some (.inl (3, .inr (.inr ([some 131, some 138, some 145, some 152, some 159, some 166])))) := rfl
set_option maxRecDepth 100000 in
theorem hx_122 : (hp_X ++ hp_M)[122]? = some (.inr (4, [.int 0, .ref 123, .ref 124, .int 0, .int 0, .ref 125, .ref 126, .ref 127, .ref 128])) := rfl
set_option maxRecDepth 100000 in
theorem hx_123 : (hp_X ++ hp_M)[123]? = some (.inl (0, .inl (List.replicate 400 0))) := rfl
set_option maxRecDepth 100000 in
theorem hx_124 : (hp_X ++ hp_M)[124]? = some (.inl (0, .inl (List.replicate 400 0))) := rfl
set_option maxRecDepth 100000 in
theorem hx_125 : (hp_X ++ hp_M)[125]? = some (.inl (0, .inl (List.replicate 12 0))) := rfl
set_option maxRecDepth 100000 in
theorem hx_126 : (hp_X ++ hp_M)[126]? = some (.inl (0, .inl (List.replicate 12 0))) := rfl
set_option maxRecDepth 100000 in
theorem hx_127 : (hp_X ++ hp_M)[127]? = some (.inl (0, .inl (List.replicate 12 0))) := rfl
set_option maxRecDepth 100000 in
theorem hx_128 : (hp_X ++ hp_M)[128]? = some (.inl (0, .inl (List.replicate 12 0))) := rfl
set_option maxRecDepth 100000 in
theorem hx_129 : (hp_X ++ hp_M)[129]? = some (.inl (0, .inl (List.replicate 8 0))) := rfl
set_option maxRecDepth 100000 in
theorem hx_130 : (hp_X ++ hp_M)[130]? = some (.inl (0, .inl (List.replicate 8 0))) := rfl
set_option maxRecDepth 100000 in
theorem hx_131 : (hp_X ++ hp_M)[131]? = some (.inr (4, [.int 0, .ref 132, .ref 133, .int 0, .int 0, .ref 134, .ref 135, .ref 136, .ref 137])) := rfl
set_option maxRecDepth 100000 in
theorem hx_132 : (hp_X ++ hp_M)[132]? = some (.inl (0, .inl (List.replicate 400 0))) := rfl
set_option maxRecDepth 100000 in
theorem hx_133 : (hp_X ++ hp_M)[133]? = some (.inl (0, .inl (List.replicate 400 0))) := rfl
set_option maxRecDepth 100000 in
theorem hx_134 : (hp_X ++ hp_M)[134]? = some (.inl (0, .inl (List.replicate 12 0))) := rfl
set_option maxRecDepth 100000 in
theorem hx_135 : (hp_X ++ hp_M)[135]? = some (.inl (0, .inl (List.replicate 12 0))) := rfl
set_option maxRecDepth 100000 in
theorem hx_136 : (hp_X ++ hp_M)[136]? = some (.inl (0, .inl (List.replicate 12 0))) := rfl
set_option maxRecDepth 100000 in
theorem hx_137 : (hp_X ++ hp_M)[137]? = some (.inl (0, .inl (List.replicate 12 0))) := rfl
set_option maxRecDepth 100000 in
theorem hx_138 : (hp_X ++ hp_M)[138]? = some (.inr (4, [.int 0, .ref 139, .ref 140, .int 0, .int 0, .ref 141, .ref 142, .ref 143, .ref 144])) := rfl
set_option maxRecDepth 100000 in
theorem hx_139 : (hp_X ++ hp_M)[139]? = some (.inl (0, .inl (List.replicate 400 0))) := rfl
set_option maxRecDepth 100000 in
theorem hx_140 : (hp_X ++ hp_M)[140]? = some (.inl (0, .inl (List.replicate 400 0))) := rfl
set_option maxRecDepth 100000 in
theorem hx_141 : (hp_X ++ hp_M)[141]? = some (.inl (0, .inl (List.replicate 12 0))) := rfl
set_option maxRecDepth 100000 in
theorem hx_142 : (hp_X ++ hp_M)[142]? = some (.inl (0, .inl (List.replicate 12 0))) := rfl
set_option maxRecDepth 100000 in
theorem hx_143 : (hp_X ++ hp_M)[143]? = some (.inl (0, .inl (List.replicate 12 0))) := rfl
set_option maxRecDepth 100000 in
theorem hx_144 : (hp_X ++ hp_M)[144]? = some (.inl (0, .inl (List.replicate 12 0))) := rfl
set_option maxRecDepth 100000 in
theorem hx_145 : (hp_X ++ hp_M)[145]? = some (.inr (4, [.int 0, .ref 146, .ref 147, .int 0, .int 0, .ref 148, .ref 149, .ref 150, .ref 151])) := rfl
set_option maxRecDepth 100000 in
theorem hx_146 : (hp_X ++ hp_M)[146]? = some (.inl (0, .inl (List.replicate 400 0))) := rfl
set_option maxRecDepth 100000 in
theorem hx_147 : (hp_X ++ hp_M)[147]? = some (.inl (0, .inl (List.replicate 400 0))) := rfl
set_option maxRecDepth 100000 in
theorem hx_148 : (hp_X ++ hp_M)[148]? = some (.inl (0, .inl (List.replicate 12 0))) := rfl
set_option maxRecDepth 100000 in
theorem hx_149 : (hp_X ++ hp_M)[149]? = some (.inl (0, .inl (List.replicate 12 0))) := rfl
set_option maxRecDepth 100000 in
theorem hx_150 : (hp_X ++ hp_M)[150]? = some (.inl (0, .inl (List.replicate 12 0))) := rfl
set_option maxRecDepth 100000 in
theorem hx_151 : (hp_X ++ hp_M)[151]? = some (.inl (0, .inl (List.replicate 12 0))) := rfl
set_option maxRecDepth 100000 in
theorem hx_152 : (hp_X ++ hp_M)[152]? = some (.inr (4, [.int 0, .ref 153, .ref 154, .int 0, .int 0, .ref 155, .ref 156, .ref 157, .ref 158])) := rfl
set_option maxRecDepth 100000 in
theorem hx_153 : (hp_X ++ hp_M)[153]? = some (.inl (0, .inl (List.replicate 400 0))) := rfl
set_option maxRecDepth 100000 in
theorem hx_154 : (hp_X ++ hp_M)[154]? = some (.inl (0, .inl (List.replicate 400 0))) := rfl
set_option maxRecDepth 100000 in
theorem hx_155 : (hp_X ++ hp_M)[155]? = some (.inl (0, .inl (List.replicate 12 0))) := rfl
set_option maxRecDepth 100000 in
theorem hx_156 : (hp_X ++ hp_M)[156]? = some (.inl (0, .inl (List.replicate 12 0))) := rfl
set_option maxRecDepth 100000 in
theorem hx_157 : (hp_X ++ hp_M)[157]? = some (.inl (0, .inl (List.replicate 12 0))) := rfl
set_option maxRecDepth 100000 in
theorem hx_158 : (hp_X ++ hp_M)[158]? = some (.inl (0, .inl (List.replicate 12 0))) := rfl
set_option maxRecDepth 100000 in
theorem hx_159 : (hp_X ++ hp_M)[159]? = some (.inr (4, [.int 0, .ref 160, .ref 161, .int 0, .int 0, .ref 162, .ref 163, .ref 164, .ref 165])) := rfl
set_option maxRecDepth 100000 in
theorem hx_160 : (hp_X ++ hp_M)[160]? = some (.inl (0, .inl (List.replicate 400 0))) := rfl
set_option maxRecDepth 100000 in
theorem hx_161 : (hp_X ++ hp_M)[161]? = some (.inl (0, .inl (List.replicate 400 0))) := rfl
set_option maxRecDepth 100000 in
theorem hx_162 : (hp_X ++ hp_M)[162]? = some (.inl (0, .inl (List.replicate 12 0))) := rfl
set_option maxRecDepth 100000 in
theorem hx_163 : (hp_X ++ hp_M)[163]? = some (.inl (0, .inl (List.replicate 12 0))) := rfl
set_option maxRecDepth 100000 in
theorem hx_164 : (hp_X ++ hp_M)[164]? = some (.inl (0, .inl (List.replicate 12 0))) := rfl
set_option maxRecDepth 100000 in
theorem hx_165 : (hp_X ++ hp_M)[165]? = some (.inl (0, .inl (List.replicate 12 0))) := rfl
set_option maxRecDepth 100000 in
theorem hx_166 : (hp_X ++ hp_M)[166]? = some (.inr (4, [.int 0, .ref 167, .ref 168, .int 0, .int 0, .ref 169, .ref 170, .ref 171, .ref 172])) := rfl
set_option maxRecDepth 100000 in
theorem hx_167 : (hp_X ++ hp_M)[167]? = some (.inl (0, .inl (List.replicate 400 0))) := rfl
set_option maxRecDepth 100000 in
theorem hx_168 : (hp_X ++ hp_M)[168]? = some (.inl (0, .inl (List.replicate 400 0))) := rfl
set_option maxRecDepth 100000 in
theorem hx_169 : (hp_X ++ hp_M)[169]? = some (.inl (0, .inl (List.replicate 12 0))) := rfl
set_option maxRecDepth 100000 in
theorem hx_170 : (hp_X ++ hp_M)[170]? = some (.inl (0, .inl (List.replicate 12 0))) := rfl
set_option maxRecDepth 100000 in
theorem hx_171 : (hp_X ++ hp_M)[171]? = some (.inl (0, .inl (List.replicate 12 0))) := rfl
set_option maxRecDepth 100000 in
theorem hx_172 : (hp_X ++ hp_M)[172]? = some (.inl (0, .inl (List.replicate 12 0))) := rfl
set_option maxRecDepth 100000 in
theorem hx_173 : (hp_X ++ hp_M)[173]? = some (.inl (2, .inl ([0, 0]))) := rfl
set_option maxRecDepth 100000 in
theorem hx_174 : (hp_X ++ hp_M)[174]? = some (.inr (8, [.ref 175, .int 0])) := rfl
set_option maxRecDepth 100000 in
theorem hx_175 : (hp_X ++ hp_M)[175]? = some (.inl (0, .inl (List.replicate 400 0))) := rfl
set_option maxRecDepth 100000 in
theorem hx_176 : (hp_X ++ hp_M)[176]? = some (.inr (5, [.ref 174, .ref 177, .int (-1), .int 0, .int 0, .int 0, .int 0])) := rfl
set_option maxRecDepth 100000 in
theorem hx_177 : (hp_X ++ hp_M)[177]? = some (.inr (4, [.int 0, .ref 178, .ref 179, .int 0, .int 0, .ref 180, .ref 181, .ref 182, .ref 183])) := rfl
set_option maxRecDepth 100000 in
theorem hx_178 : (hp_X ++ hp_M)[178]? = some (.inl (0, .inl (List.replicate 400 0))) := rfl
set_option maxRecDepth 100000 in
theorem hx_179 : (hp_X ++ hp_M)[179]? = some (.inl (0, .inl (List.replicate 400 0))) := rfl
set_option maxRecDepth 100000 in
theorem hx_180 : (hp_X ++ hp_M)[180]? = some (.inl (0, .inl (List.replicate 12 0))) := rfl
set_option maxRecDepth 100000 in
theorem hx_181 : (hp_X ++ hp_M)[181]? = some (.inl (0, .inl (List.replicate 12 0))) := rfl
set_option maxRecDepth 100000 in
theorem hx_182 : (hp_X ++ hp_M)[182]? = some (.inl (0, .inl (List.replicate 12 0))) := rfl
set_option maxRecDepth 100000 in
theorem hx_183 : (hp_X ++ hp_M)[183]? = some (.inl (0, .inl (List.replicate 12 0))) := rfl
set_option maxRecDepth 100000 in
theorem hx_184 : (hp_X ++ hp_M)[184]? = some (.inr (9, [.ref 1])) := rfl
set_option maxRecDepth 100000 in
theorem hx_185 : (hp_X ++ hp_M)[185]? = some (.inr (3, [.ref 1, .ref 186, .ref 187, .int 0])) := rfl
set_option maxRecDepth 100000 in
theorem hx_186 : (hp_X ++ hp_M)[186]? = some (.inl (1, .inr (.inl (List.replicate 9 0)))) := rfl
set_option maxRecDepth 100000 in
theorem hx_187 : (hp_X ++ hp_M)[187]? = some (.inl (1, .inr (.inl (List.replicate 64 0)))) := rfl
set_option maxRecDepth 100000 in
theorem hx_188 : (hp_X ++ hp_M)[188]? = some (.inr (1, [.ref 1, .ref 185, .ref 189, .ref 190, .ref 191, .ref 192, .ref 193, .ref 194, .ref 195, .ref 196, .ref 197, .ref 198, .ref 199, .ref 200, .ref 201, .ref 202, .int 0, .ref 203, .int 0])) := rfl
set_option maxRecDepth 100000 in
theorem hx_189 : (hp_X ++ hp_M)[189]? = some (.inl (0, .inl (List.replicate 12 0))) := rfl
set_option maxRecDepth 100000 in
theorem hx_190 : (hp_X ++ hp_M)[190]? = some (.inl (0, .inl (List.replicate 12 0))) := rfl
set_option maxRecDepth 100000 in
theorem hx_191 : (hp_X ++ hp_M)[191]? = some (.inl (0, .inl (List.replicate 8 0))) := rfl
set_option maxRecDepth 100000 in
theorem hx_192 : (hp_X ++ hp_M)[192]? = some (.inl (0, .inl (List.replicate 12 0))) := rfl
set_option maxRecDepth 100000 in
theorem hx_193 : (hp_X ++ hp_M)[193]? = some (.inl (0, .inl (List.replicate 8 0))) := rfl
set_option maxRecDepth 100000 in
theorem hx_194 : (hp_X ++ hp_M)[194]? = some (.inl (0, .inl (List.replicate 8 0))) := rfl
set_option maxRecDepth 100000 in
theorem hx_195 : (hp_X ++ hp_M)[195]? = some (.inl (0, .inl (List.replicate 8 0))) := rfl
set_option maxRecDepth 100000 in
theorem hx_196 : (hp_X ++ hp_M)[196]? = some (.inl (0, .inl (List.replicate 8 0))) := rfl
set_option maxRecDepth 100000 in
theorem hx_197 : (hp_X ++ hp_M)[197]? = some (.inl (0, .inl (List.replicate 8 0))) := rfl
set_option maxRecDepth 100000 in
theorem hx_198 : (hp_X ++ hp_M)[198]? = some (.inl (0, .inl (List.replicate 8 0))) := rfl
set_option maxRecDepth 100000 in
theorem hx_199 : (hp_X ++ hp_M)[199]? = some (.inl (0, .inl (List.replicate 12 0))) := rfl
set_option maxRecDepth 100000 in
theorem hx_200 : (hp_X ++ hp_M)[200]? = some (.inl (0, .inl (List.replicate 12 0))) := rfl
set_option maxRecDepth 100000 in
theorem hx_201 : (hp_X ++ hp_M)[201]? = some (.inl (1, .inr (.inl (List.replicate 8 0)))) := rfl
set_option maxRecDepth 100000 in
theorem hx_202 : (hp_X ++ hp_M)[202]? = some (.inl (0, .inl (List.replicate 8 0))) := rfl
set_option maxRecDepth 100000 in
theorem hx_203 : (hp_X ++ hp_M)[203]? = some (.inl (0, .inl (List.replicate 800 0))) := rfl
set_option maxRecDepth 100000 in
theorem hx_204 : (hp_X ++ hp_M)[204]? = some (.inr (1, [.ref 1, .ref 185, .ref 205, .ref 206, .ref 207, .ref 208, .ref 209, .ref 210, .ref 211, .ref 212, .ref 213, .ref 214, .ref 215, .ref 216, .ref 217, .ref 218, .int 0, .ref 219, .int 0])) := rfl
set_option maxRecDepth 100000 in
theorem hx_205 : (hp_X ++ hp_M)[205]? = some (.inl (0, .inl (List.replicate 12 0))) := rfl
set_option maxRecDepth 100000 in
theorem hx_206 : (hp_X ++ hp_M)[206]? = some (.inl (0, .inl (List.replicate 12 0))) := rfl
set_option maxRecDepth 100000 in
theorem hx_207 : (hp_X ++ hp_M)[207]? = some (.inl (0, .inl (List.replicate 8 0))) := rfl
set_option maxRecDepth 100000 in
theorem hx_208 : (hp_X ++ hp_M)[208]? = some (.inl (0, .inl (List.replicate 12 0))) := rfl
set_option maxRecDepth 100000 in
theorem hx_209 : (hp_X ++ hp_M)[209]? = some (.inl (0, .inl (List.replicate 8 0))) := rfl
set_option maxRecDepth 100000 in
theorem hx_210 : (hp_X ++ hp_M)[210]? = some (.inl (0, .inl (List.replicate 8 0))) := rfl
set_option maxRecDepth 100000 in
theorem hx_211 : (hp_X ++ hp_M)[211]? = some (.inl (0, .inl (List.replicate 8 0))) := rfl
set_option maxRecDepth 100000 in
theorem hx_212 : (hp_X ++ hp_M)[212]? = some (.inl (0, .inl (List.replicate 8 0))) := rfl
set_option maxRecDepth 100000 in
theorem hx_213 : (hp_X ++ hp_M)[213]? = some (.inl (0, .inl (List.replicate 8 0))) := rfl
set_option maxRecDepth 100000 in
theorem hx_214 : (hp_X ++ hp_M)[214]? = some (.inl (0, .inl (List.replicate 8 0))) := rfl
set_option maxRecDepth 100000 in
theorem hx_215 : (hp_X ++ hp_M)[215]? = some (.inl (0, .inl (List.replicate 12 0))) := rfl
set_option maxRecDepth 100000 in
theorem hx_216 : (hp_X ++ hp_M)[216]? = some (.inl (0, .inl (List.replicate 12 0))) := rfl
set_option maxRecDepth 100000 in
theorem hx_217 : (hp_X ++ hp_M)[217]? = some (.inl (1, .inr (.inl (List.replicate 8 0)))) := rfl
set_option maxRecDepth 100000 in
theorem hx_218 : (hp_X ++ hp_M)[218]? = some (.inl (0, .inl (List.replicate 8 0))) := rfl
set_option maxRecDepth 100000 in
theorem hx_219 : (hp_X ++ hp_M)[219]? = some (.inl (0, .inl (List.replicate 800 0))) := rfl
set_option maxRecDepth 100000 in
theorem hx_220 : (hp_X ++ hp_M)[220]? = some (.inr (7, [.ref 1, .ref 204, .int (-1), .int 0, .int 0, .ref 221])) := rfl
set_option maxRecDepth 100000 in
theorem hx_221 : (hp_X ++ hp_M)[221]? = some (.inl (0, .inl ([0, 0, 0, 0]))) := rfl
set_option maxRecDepth 100000 in
theorem hx_222 : (hp_X ++ hp_M)[222]? = some (.inr (6, [.ref 1, .ref 204, .int 0, .int 0, .int 0, .int 0])) := rfl
set_option maxRecDepth 100000 in
theorem hx_223 : (hp_X ++ hp_M)[223]? = some (.inr (2, [.ref 1, .ref 185, .ref 224, .ref 225, .ref 226, .int 0, .int 0, .int 0, .int 0, .int 0, .int 0, .int 0, .ref 227])) := rfl
set_option maxRecDepth 100000 in
theorem hx_224 : (hp_X ++ hp_M)[224]? = some (.inl (0, .inl (List.replicate 12 0))) := rfl
set_option maxRecDepth 100000 in
theorem hx_225 : (hp_X ++ hp_M)[225]? = some (.inl (0, .inl (List.replicate 8 0))) := rfl
set_option maxRecDepth 100000 in
theorem hx_226 : (hp_X ++ hp_M)[226]? = some (.inl (0, .inl (List.replicate 9600 0))) := rfl
set_option maxRecDepth 100000 in
theorem hx_227 : (hp_X ++ hp_M)[227]? = some (.inl (0, .inl (List.replicate 12 0))) := rfl
set_option maxRecDepth 100000 in
theorem hx_228 : (hp_X ++ hp_M)[228]? = some (.inl (0, .inl (List.replicate 8 0))) := rfl
set_option maxRecDepth 100000 in
theorem hx_229 : (hp_X ++ hp_M)[229]? = some (.inl (0, .inl (List.replicate 8 0))) := rfl
set_option maxRecDepth 100000 in
theorem hx_230 : (hp_X ++ hp_M)[230]? = some (.inl (0, .inl (List.replicate 7 0))) := rfl
set_option maxRecDepth 100000 in
theorem hx_231 : (hp_X ++ hp_M)[231]? = some (.inr (11, [.int 0, .int 0, .ref 232, .ref 233, .ref 234, .ref 235, .int 0, .ref 236, .int 0, .int 0, .int 0, .int 0, .long 0, .int (-1), .int 0, .int 0, .ref 237, .int 0, .ref 238, .ref 239, .int 0, .ref 240, .ref 241, .int 0, .int 0, .ref 242, .ref 243, .int 0, .ref 244, .ref 245, .int 0, .long 0, .long 0, .ref 246, .ref 247, .ref 248, .int 0, .ref 249, .ref 250, .ref 251, .ref 252, .ref 253, .ref 254, .ref 255, .ref 256, .int 0, .int 0, .int 0, .long 0, .ref 257, .ref 258, .int 0])) := rfl
set_option maxRecDepth 100000 in
theorem hx_232 : (hp_X ++ hp_M)[232]? = some (.inl (0, .inl (List.replicate 7 0))) := rfl
set_option maxRecDepth 100000 in
theorem hx_233 : (hp_X ++ hp_M)[233]? = some (.inl (0, .inl ([0, 0, 0, (-1), 0, 60, 2] ++ List.replicate 5503 0))) := rfl
set_option maxRecDepth 100000 in
theorem hx_234 : (hp_X ++ hp_M)[234]? = some (.inl (0, .inl (List.replicate 11020 0))) := rfl
set_option maxRecDepth 100000 in
theorem hx_235 : (hp_X ++ hp_M)[235]? = some (.inl (2, .inl ([0, 0]))) := rfl
set_option maxRecDepth 100000 in
theorem hx_236 : (hp_X ++ hp_M)[236]? = some (.inl (0, .inl (List.replicate 400 0))) := rfl
set_option maxRecDepth 100000 in
theorem hx_237 : (hp_X ++ hp_M)[237]? = some (.inl (0, .inl (List.replicate 96 0))) := rfl
set_option maxRecDepth 100000 in
theorem hx_238 : (hp_X ++ hp_M)[238]? = some (.inl (0, .inl (List.replicate 400 0))) := rfl
set_option maxRecDepth 100000 in
theorem hx_239 : (hp_X ++ hp_M)[239]? = some (.inl (0, .inl (List.replicate 400 0))) := rfl
set_option maxRecDepth 100000 in
theorem hx_240 : (hp_X ++ hp_M)[240]? = some (.inl (0, .inl (List.replicate 400 0))) := rfl
set_option maxRecDepth 100000 in
theorem hx_241 : (hp_X ++ hp_M)[241]? = some (.inl (0, .inl (List.replicate 400 0))) := rfl
set_option maxRecDepth 100000 in
theorem hx_242 : (hp_X ++ hp_M)[242]? = some (.inl (1, .inr (.inl ([408612, 777297172, 8441477, 20579780, 398548, 446125701, 24159891, 674919554696, 52595])))) := rfl
set_option maxRecDepth 100000 in
theorem hx_243 : (hp_X ++ hp_M)[243]? = some (.inl (1, .inr (.inl ([6605428, 6309, 67155])))) := rfl
set_option maxRecDepth 100000 in
theorem hx_244 : (hp_X ++ hp_M)[244]? = some (.inl (1, .inr (.inl (List.replicate 13 0)))) := rfl
set_option maxRecDepth 100000 in
theorem hx_245 : (hp_X ++ hp_M)[245]? = some (.inl (1, .inr (.inl (List.replicate 400 0)))) := rfl
set_option maxRecDepth 100000 in
theorem hx_246 : (hp_X ++ hp_M)[246]? = some (.inl (0, .inl (List.replicate 12 0))) := rfl
set_option maxRecDepth 100000 in
theorem hx_247 : (hp_X ++ hp_M)[247]? = some (.inl (0, .inl (List.replicate 12 0))) := rfl
set_option maxRecDepth 100000 in
theorem hx_248 : (hp_X ++ hp_M)[248]? = some (.inl (0, .inl (List.replicate 8 0))) := rfl
set_option maxRecDepth 100000 in
theorem hx_249 : (hp_X ++ hp_M)[249]? = some (.inl (0, .inl (List.replicate 13 0))) := rfl
set_option maxRecDepth 100000 in
theorem hx_250 : (hp_X ++ hp_M)[250]? = some (.inl (0, .inl (List.replicate 8 0))) := rfl
set_option maxRecDepth 100000 in
theorem hx_251 : (hp_X ++ hp_M)[251]? = some (.inl (0, .inl (List.replicate 8 0))) := rfl
set_option maxRecDepth 100000 in
theorem hx_252 : (hp_X ++ hp_M)[252]? = some (.inl (0, .inl (List.replicate 8 0))) := rfl
set_option maxRecDepth 100000 in
theorem hx_253 : (hp_X ++ hp_M)[253]? = some (.inl (0, .inl (List.replicate 8 0))) := rfl
set_option maxRecDepth 100000 in
theorem hx_254 : (hp_X ++ hp_M)[254]? = some (.inl (0, .inl (List.replicate 8 0))) := rfl
set_option maxRecDepth 100000 in
theorem hx_255 : (hp_X ++ hp_M)[255]? = some (.inl (2, .inl (List.replicate 8 0))) := rfl
set_option maxRecDepth 100000 in
theorem hx_256 : (hp_X ++ hp_M)[256]? = some (.inl (0, .inl (List.replicate 800 0))) := rfl
set_option maxRecDepth 100000 in
theorem hx_257 : (hp_X ++ hp_M)[257]? = some (.inl (0, .inl (List.replicate 8 0))) := rfl
set_option maxRecDepth 100000 in
theorem hx_258 : (hp_X ++ hp_M)[258]? = some (.inl (0, .inl (List.replicate 8 0))) := rfl
set_option maxRecDepth 100000 in
theorem hm_231 (a : Nat → en_E) : (en_pre a 231 hp_M)[231]? = some (.inr (11, [.int 0, .int 0, .ref 232, .ref 233, .ref 234, .ref 235, .int 0, .ref 236, .int 0, .int 0, .int 0, .int 0, .long 0, .int (-1), .int 0, .int 0, .ref 237, .int 0, .ref 238, .ref 239, .int 0, .ref 240, .ref 241, .int 0, .int 0, .ref 242, .ref 243, .int 0, .ref 244, .ref 245, .int 0, .long 0, .long 0, .ref 246, .ref 247, .ref 248, .int 0, .ref 249, .ref 250, .ref 251, .ref 252, .ref 253, .ref 254, .ref 255, .ref 256, .int 0, .int 0, .int 0, .long 0, .ref 257, .ref 258, .int 0])) := rfl
set_option maxRecDepth 100000 in
theorem hm_232 (a : Nat → en_E) : (en_pre a 231 hp_M)[232]? = some (.inl (0, .inl (List.replicate 7 0))) := rfl
set_option maxRecDepth 100000 in
theorem hm_233 (a : Nat → en_E) : (en_pre a 231 hp_M)[233]? = some (.inl (0, .inl ([0, 0, 0, (-1), 0, 60, 2] ++ List.replicate 5503 0))) := rfl
set_option maxRecDepth 100000 in
theorem hm_234 (a : Nat → en_E) : (en_pre a 231 hp_M)[234]? = some (.inl (0, .inl (List.replicate 11020 0))) := rfl
set_option maxRecDepth 100000 in
theorem hm_235 (a : Nat → en_E) : (en_pre a 231 hp_M)[235]? = some (.inl (2, .inl ([0, 0]))) := rfl
set_option maxRecDepth 100000 in
theorem hm_236 (a : Nat → en_E) : (en_pre a 231 hp_M)[236]? = some (.inl (0, .inl (List.replicate 400 0))) := rfl
set_option maxRecDepth 100000 in
theorem hm_237 (a : Nat → en_E) : (en_pre a 231 hp_M)[237]? = some (.inl (0, .inl (List.replicate 96 0))) := rfl
set_option maxRecDepth 100000 in
theorem hm_238 (a : Nat → en_E) : (en_pre a 231 hp_M)[238]? = some (.inl (0, .inl (List.replicate 400 0))) := rfl
set_option maxRecDepth 100000 in
theorem hm_239 (a : Nat → en_E) : (en_pre a 231 hp_M)[239]? = some (.inl (0, .inl (List.replicate 400 0))) := rfl
set_option maxRecDepth 100000 in
theorem hm_240 (a : Nat → en_E) : (en_pre a 231 hp_M)[240]? = some (.inl (0, .inl (List.replicate 400 0))) := rfl
set_option maxRecDepth 100000 in
theorem hm_241 (a : Nat → en_E) : (en_pre a 231 hp_M)[241]? = some (.inl (0, .inl (List.replicate 400 0))) := rfl
set_option maxRecDepth 100000 in
theorem hm_242 (a : Nat → en_E) : (en_pre a 231 hp_M)[242]? = some (.inl (1, .inr (.inl ([408612, 777297172, 8441477, 20579780, 398548, 446125701, 24159891, 674919554696, 52595])))) := rfl
set_option maxRecDepth 100000 in
theorem hm_243 (a : Nat → en_E) : (en_pre a 231 hp_M)[243]? = some (.inl (1, .inr (.inl ([6605428, 6309, 67155])))) := rfl
set_option maxRecDepth 100000 in
theorem hm_244 (a : Nat → en_E) : (en_pre a 231 hp_M)[244]? = some (.inl (1, .inr (.inl (List.replicate 13 0)))) := rfl
set_option maxRecDepth 100000 in
theorem hm_245 (a : Nat → en_E) : (en_pre a 231 hp_M)[245]? = some (.inl (1, .inr (.inl (List.replicate 400 0)))) := rfl
set_option maxRecDepth 100000 in
theorem hm_246 (a : Nat → en_E) : (en_pre a 231 hp_M)[246]? = some (.inl (0, .inl (List.replicate 12 0))) := rfl
set_option maxRecDepth 100000 in
theorem hm_247 (a : Nat → en_E) : (en_pre a 231 hp_M)[247]? = some (.inl (0, .inl (List.replicate 12 0))) := rfl
set_option maxRecDepth 100000 in
theorem hm_248 (a : Nat → en_E) : (en_pre a 231 hp_M)[248]? = some (.inl (0, .inl (List.replicate 8 0))) := rfl
set_option maxRecDepth 100000 in
theorem hm_249 (a : Nat → en_E) : (en_pre a 231 hp_M)[249]? = some (.inl (0, .inl (List.replicate 13 0))) := rfl
set_option maxRecDepth 100000 in
theorem hm_250 (a : Nat → en_E) : (en_pre a 231 hp_M)[250]? = some (.inl (0, .inl (List.replicate 8 0))) := rfl
set_option maxRecDepth 100000 in
theorem hm_251 (a : Nat → en_E) : (en_pre a 231 hp_M)[251]? = some (.inl (0, .inl (List.replicate 8 0))) := rfl
set_option maxRecDepth 100000 in
theorem hm_252 (a : Nat → en_E) : (en_pre a 231 hp_M)[252]? = some (.inl (0, .inl (List.replicate 8 0))) := rfl
set_option maxRecDepth 100000 in
theorem hm_253 (a : Nat → en_E) : (en_pre a 231 hp_M)[253]? = some (.inl (0, .inl (List.replicate 8 0))) := rfl
set_option maxRecDepth 100000 in
theorem hm_254 (a : Nat → en_E) : (en_pre a 231 hp_M)[254]? = some (.inl (0, .inl (List.replicate 8 0))) := rfl
set_option maxRecDepth 100000 in
theorem hm_255 (a : Nat → en_E) : (en_pre a 231 hp_M)[255]? = some (.inl (2, .inl (List.replicate 8 0))) := rfl
set_option maxRecDepth 100000 in
theorem hm_256 (a : Nat → en_E) : (en_pre a 231 hp_M)[256]? = some (.inl (0, .inl (List.replicate 800 0))) := rfl
set_option maxRecDepth 100000 in
theorem hm_257 (a : Nat → en_E) : (en_pre a 231 hp_M)[257]? = some (.inl (0, .inl (List.replicate 8 0))) := rfl
set_option maxRecDepth 100000 in
theorem hm_258 (a : Nat → en_E) : (en_pre a 231 hp_M)[258]? = some (.inl (0, .inl (List.replicate 8 0))) := rfl
end
section
theorem r_alen {d : Nat} {xs : Option (List Int32)} {rt : Option FieldType} {bs : en_Bs} {r : List en_Op} {pc n a b c : Nat} {l : en_L} {st : List Value} {h : en_H} {Ph : Option Value → en_H → Prop} {p t : Nat} {x : en_A} (hp : h.1[p]? = some (.inl (t, x))) (ht : t < 5) (v : Int32) (hv : Int32.ofNat (en_sz x) = v) (k : Ar d xs rt bs r (pc + n, l, .int v :: st, h) Ph) : Ar d xs rt bs ((.arraylength, n, a, b, c) :: r) (pc, l, (.ref p :: st), h) Ph := by
  subst hv
  exact Ar.plain (q := (l, .int _ :: st, h)) rfl (by show en_alen xs l (.ref p :: st) h = _; simp only [en_alen, hp]; rw [if_pos ht]) k
/-! ===== loops of the reference over no LOADS ===== -/
theorem en_get_ne {k i : Nat} {x v : Value} (hk : k ≠ i) (hc : x.category = 1) : ∀ {l : en_L}, en_get k l = some x → en_get k (en_put1 i v l) = some x := by
  intro l h
  have hf : ∀ {l : en_L}, en_get k l = some x → en_get k (l.filter (fun q => !(q.1 == i) && !(q.1 + 1 == i && q.2.category == 2))) = some x := by
    intro l
    induction l with
    | nil => intro h; cases h
    | cons q r ih =>
      intro h
      unfold en_get at h
      by_cases hq : Nat.beq q.1 k = true
      · have e : q.1 = k := Nat.eq_of_beq_eq_true hq
        rw [hq] at h
        have hx : q.2 = x := Option.some.inj h
        rw [List.filter_cons_of_pos (by simp [e, hk, hx, hc])]
        unfold en_get
        rw [hq]
        exact h
      · have hq' : Nat.beq q.1 k = false := Bool.eq_false_iff.mpr hq
        rw [hq'] at h
        rw [List.filter_cons]
        split
        · unfold en_get
          rw [hq']
          exact ih h
        · exact ih h
  unfold en_put1
  unfold en_get
  have hq' : Nat.beq i k = false := by
    cases hb : Nat.beq i k with
    | false => rfl
    | true => exact absurd (Nat.eq_of_beq_eq_true hb).symm hk
  dsimp only
  rw [hq']
  exact hf h
theorem en_get_eq (i : Nat) (v : Value) (l : en_L) : en_get i (en_put1 i v l) = some v := by
  unfold en_put1 en_get
  dsimp only
  rw [show Nat.beq i i = true from Nat.beq_refl i]
  rfl
theorem en_inc {i : Int32} (h0 : 0 ≤ i.toInt) (h : i.toInt < 1000000) : (i + 1).toInt = i.toInt + 1 := by
  rw [Int32.toInt_add, show (1 : Int32).toInt = 1 from rfl]
  exact Int.bmod_eq_of_le (by omega) (by omega)
section LP
variable {g : List en_E} {N : Nat} {fs : List Value} {ROW : List Int32}
abbrev LpH (g : List en_E) (fs : List Value) (ROW : List Int32) : Prop := g[231]? = some (.inr (11, fs)) ∧ fs[3]? = some (.ref 233) ∧ g[233]? = some (.inl (0, .inl ROW)) ∧ ROW[1]? = some 0
theorem zr_first (d : Nat) (hh : LpH g fs ROW) : Ev (d + 1) 226 [.ref 231] (g, N) (fun r h' => True ∧ r = some (.int (-1)) ∧ h' = (g, N)) := by
  obtain ⟨h1, h2, h3, h4⟩ := hh
  refine Ev.mk rfl rfl ⟨Nat.le_of_ble_eq_true rfl, Or.inr (en_rcI h1 rfl)⟩ ?_
  show At _ none _ _ (0, [(0, .ref 231)], [], (g, N)) _
  refine At.enter rfl ?_
  refine r_iconst (-1) rfl ?_
  refine r_istore_n ([(1, .int (-1)), (0, .ref 231)]) rfl ?_
  refine r_iconst 0 rfl ?_
  refine r_istore_n ([(2, .int 0), (1, .int (-1)), (0, .ref 231)]) rfl ?_
  refine Ar.fall 4 rfl ?_
  refine At.enter rfl ?_
  refine r_iload_n rfl ?_
  refine r_aload_n rfl ?_
  refine r_get (v := .ref 233) h1 h2 ?_
  refine r_iconst 1 rfl ?_
  refine r_iald (v := 0) h3 (by decide) h4 ?_
  refine r_ict (by decide) ?_
  refine At.enter rfl ?_
  refine r_iload_n rfl ?_
  refine r_ireti ?_
  exact ⟨trivial, rfl, rfl⟩
theorem zr_bring_loop (d : Nat) (hh : LpH g fs ROW) (m : Int32) (hm : 0 ≤ m.toInt ∧ m.toInt < 100) : ∀ (n : Nat) (i : Int32) (l : en_L), i.toInt + n = m.toInt + 1 → 0 ≤ i.toInt → en_get 0 l = some (.ref 231) → en_get 1 l = some (.int m) → en_get 2 l = some (.int i) → At d none none bs_X11_bring (2, l, [], (g, N)) (fun r h' => True ∧ r = none ∧ h' = (g, N)) := by
  obtain ⟨h1, h2, h3, h4⟩ := hh
  intro n
  induction n with
  | zero =>
    intro i l e h0 g0 g1 g2
    refine At.enter rfl ?_
    refine r_iload_n g2 ?_
    refine r_iload_n g1 ?_
    refine r_ict (decide_eq_true (Int32.lt_iff_toInt_lt.mpr (by omega))) ?_
    refine At.enter rfl ?_
    refine r_vret ?_
    exact ⟨trivial, rfl, rfl⟩
  | succ n ih =>
    intro i l e h0 g0 g1 g2
    refine At.enter rfl ?_
    refine r_iload_n g2 ?_
    refine r_iload_n g1 ?_
    refine r_icf 7 rfl (decide_eq_false (fun h => by have := Int32.lt_iff_toInt_lt.mp h; omega)) ?_
    refine At.enter rfl ?_
    refine r_iconst 0 rfl ?_
    refine r_istore_n _ rfl ?_
    refine Ar.fall 9 rfl ?_
    refine At.enter rfl ?_
    refine r_iload_n (en_get_eq 3 _ _) ?_
    refine r_aload_n (en_get_ne (by decide) rfl g0) ?_
    refine r_get (v := .ref 233) h1 h2 ?_
    refine r_iconst 1 rfl ?_
    refine r_iald (v := 0) h3 (by decide) h4 ?_
    refine r_ict (by decide) ?_
    refine At.enter rfl ?_
    refine r_iinc (en_get_ne (by decide) rfl g2) (i + 1) rfl _ rfl ?_
    refine r_goto ?_
    refine ih (i + 1) _ ?_ ?_ (en_get_ne (by decide) rfl (en_get_ne (by decide) rfl g0)) (en_get_ne (by decide) rfl (en_get_ne (by decide) rfl g1)) (en_get_eq 2 _ _)
    · rw [en_inc h0 (by omega)]; omega
    · rw [en_inc h0 (by omega)]; omega
theorem zr_bring (d : Nat) (hh : LpH g fs ROW) (m : Int32) (hm : 0 ≤ m.toInt ∧ m.toInt < 100) : Ev (d + 1) 227 [.ref 231, .int m] (g, N) (fun r h' => True ∧ r = none ∧ h' = (g, N)) := by
  refine Ev.mk rfl rfl ⟨Nat.le_of_ble_eq_true rfl, Or.inr (en_rcI hh.1 rfl)⟩ ?_
  show At _ none _ _ (0, [(0, .ref 231), (1, .int m)], [], (g, N)) _
  refine At.enter rfl ?_
  refine r_iconst 0 rfl ?_
  refine r_istore_n ([(2, .int 0), (0, .ref 231), (1, .int m)]) rfl ?_
  refine Ar.fall 2 rfl ?_
  exact zr_bring_loop d hh m hm (m.toInt + 1).toNat 0 _ (by have : (0 : Int32).toInt = 0 := rfl; omega) (by decide) rfl rfl rfl
theorem zr_run_loop (d : Nat) (hh : LpH g fs ROW) : ∀ (n : Nat) (m : Int32) (l : en_L), m.toInt + n = 100 → 0 ≤ m.toInt → en_get 0 l = some (.ref 231) → en_get 1 l = some (.int m) → At (d + 1) none none bs_X11_run (48, l, [], (g, N)) (fun r h' => True ∧ r = none ∧ h' = (g, N)) := by
  obtain ⟨h1, h2, h3, h4⟩ := id hh
  intro n
  induction n with
  | zero =>
    intro m l e h0 g0 g1
    refine At.enter rfl ?_
    refine r_iload_n g1 ?_
    refine r_bipush 100 rfl ?_
    refine r_ict (decide_eq_true (Int32.le_iff_toInt_le.mpr (by have : (100 : Int32).toInt = 100 := rfl; omega))) ?_
    refine At.enter rfl ?_
    refine r_vret ?_
    exact ⟨trivial, rfl, rfl⟩
  | succ n ih =>
    intro m l e h0 g0 g1
    refine At.enter rfl ?_
    refine r_iload_n g1 ?_
    refine r_bipush 100 rfl ?_
    refine r_icf 54 rfl (decide_eq_false (fun h => by have h5 := Int32.le_iff_toInt_le.mp h; have : (100 : Int32).toInt = 100 := rfl; omega)) ?_
    refine At.enter rfl ?_
    refine r_aload_n g0 ?_
    refine r_iload_n g1 ?_
    refine r_callV1v True (g, N) 59 rfl [.ref 231, .int m] [] (Nat.le_of_ble_eq_true rfl) rfl (zr_bring d hh m ⟨h0, by omega⟩) (fun _ => ?_)
    refine At.enter rfl ?_
    refine r_iconst 0 rfl ?_
    refine r_istore_n _ rfl ?_
    refine Ar.fall 61 rfl ?_
    refine At.enter rfl ?_
    refine r_iload_n (en_get_eq 2 _ _) ?_
    refine r_aload_n (en_get_ne (by decide) rfl g0) ?_
    refine r_get (v := .ref 233) h1 h2 ?_
    refine r_iconst 1 rfl ?_
    refine r_iald (v := 0) h3 (by decide) h4 ?_
    refine r_ict (by decide) ?_
    refine At.enter rfl ?_
    refine r_aload_n (en_get_ne (by decide) rfl g0) ?_
    refine r_callV1s True (.int (-1)) (g, N) 141 rfl [.ref 231] [] (Nat.le_of_ble_eq_true rfl) rfl (zr_first d hh) (fun _ => ?_)
    refine At.enter rfl ?_
    refine r_istore_n _ rfl ?_
    refine Ar.fall 142 rfl ?_
    refine At.enter rfl ?_
    refine r_iload_n (en_get_eq 2 _ _) ?_
    refine r_iconst (-1) rfl ?_
    refine r_ict (by decide) ?_
    refine At.enter rfl ?_
    refine r_iconst 0 rfl ?_
    refine r_istore_n _ rfl ?_
    refine Ar.fall 170 rfl ?_
    refine At.enter rfl ?_
    refine r_iload_n (en_get_eq 3 _ _) ?_
    refine r_aload_n (en_get_ne (by decide) rfl (en_get_ne (by decide) rfl (en_get_ne (by decide) rfl g0))) ?_
    refine r_get (v := .ref 233) h1 h2 ?_
    refine r_iconst 1 rfl ?_
    refine r_iald (v := 0) h3 (by decide) h4 ?_
    refine r_ict (by decide) ?_
    refine At.enter rfl ?_
    refine r_iinc (en_get_ne (by decide) rfl (en_get_ne (by decide) rfl (en_get_ne (by decide) rfl g1))) (m + 1) rfl _ rfl ?_
    refine r_goto ?_
    refine ih (m + 1) _ ?_ ?_ (en_get_ne (by decide) rfl (en_get_ne (by decide) rfl (en_get_ne (by decide) rfl (en_get_ne (by decide) rfl g0)))) (en_get_eq 1 _ _)
    · rw [en_inc h0 (by omega)]; omega
    · rw [en_inc h0 (by omega)]; omega
theorem zr_run (d : Nat) (hh : LpH g fs ROW) : Ev (d + 2) 225 [.ref 231] (g, N) (fun r h' => True ∧ r = none ∧ h' = (g, N)) := by
  obtain ⟨h1, h2, h3, h4⟩ := id hh
  refine Ev.mk rfl rfl ⟨Nat.le_of_ble_eq_true rfl, Or.inr (en_rcI h1 rfl)⟩ ?_
  show At _ none _ _ (0, [(0, .ref 231)], [], (g, N)) _
  refine At.enter rfl ?_
  refine r_iconst 0 rfl ?_
  refine r_istore_n ([(1, .int 0), (0, .ref 231)]) rfl ?_
  refine Ar.fall 2 rfl ?_
  refine At.enter rfl ?_
  refine r_iload_n rfl ?_
  refine r_aload_n rfl ?_
  refine r_get (v := .ref 233) h1 h2 ?_
  refine r_iconst 1 rfl ?_
  refine r_iald (v := 0) h3 (by decide) h4 ?_
  refine r_ict (by decide) ?_
  refine At.enter rfl ?_
  refine r_iconst 0 rfl ?_
  refine r_istore_n ([(1, .int 0), (0, .ref 231)]) rfl ?_
  refine Ar.fall 48 rfl ?_
  exact zr_run_loop d hh 100 0 _ (by decide) (by decide) rfl rfl
end LP
end
section
theorem en_sg {g : List en_E} {p : Nat} {e : en_E} (h : g[p]? = some e) : g = g.set p e := by
  obtain ⟨hp, he⟩ := List.getElem?_eq_some_iff.mp h
  rw [← he]
  exact (List.set_getElem_self hp).symm
theorem At.hp {d : Nat} {xs : Option (List Int32)} {rt : Option FieldType} {bs : en_Bs} {pc : Nat} {l : en_L} {st : List Value} {g G : List en_E} {N : Nat} {Ph : Option Value → en_H → Prop} (e : g = G) (k : At d xs rt bs (pc, l, st, (G, N)) Ph) : At d xs rt bs (pc, l, st, (g, N)) Ph := by
  rw [e]
  exact k
theorem zr_img_loop {B : List en_E} {N : Nat} {k : Int32} {fs : List Value} {ROW : List Int32} {e0 : en_E} {Ph : Option Value → en_H → Prop} (d : Nat) (h1 : B[231]? = some (.inr (11, fs))) (f3 : fs[3]? = some (.ref 233)) (f4 : fs[4]? = some (.ref 234)) (h3 : B[233]? = some (.inl (0, .inl ROW))) (h4 : B[234]? = some e0) (hR : ROW.length = 5510) (hk : 0 ≤ k.toInt ∧ k.toInt ≤ 1) (K : ∀ (ys' : List Int32) (l' : en_L), ys'.length = 11020 → en_get 0 l' = some (.ref 231) → en_get 1 l' = some (.int k) → At d none (some .int) bs_X11_image (54, l', [], (B.set 234 (.inl (0, .inl ys')), N)) Ph) : ∀ (n : Nat) (i : Int32) (ys : List Int32) (l : en_L), i.toInt + n = 5510 → 0 ≤ i.toInt → ys.length = 11020 → en_get 0 l = some (.ref 231) → en_get 1 l = some (.int k) → en_get 2 l = some (.int i) → At d none (some .int) bs_X11_image (23, l, [], (B.set 234 (.inl (0, .inl ys)), N)) Ph := by
  have c0 : (5510 : Int32).toInt = 5510 := rfl
  intro n
  induction n with
  | zero =>
    intro i ys l e h0 hy g0 g1 g2
    refine At.enter rfl ?_
    refine r_iload_n g2 ?_
    refine r_sipush 5510 rfl ?_
    refine r_ict (decide_eq_true (Int32.le_iff_toInt_le.mpr (by omega))) ?_
    exact K ys l hy g0 g1
  | succ n ih =>
    intro i ys l e h0 hy g0 g1 g2
    have ej : (5510 * k + i).toInt = 5510 * k.toInt + i.toInt := by
      rw [Int32.toInt_add, Int32.toInt_mul, c0, Int.bmod_eq_of_le (n := 5510 * k.toInt) (by omega) (by omega)]
      exact Int.bmod_eq_of_le (by omega) (by omega)
    have ni : ¬ i < 0 := fun h => by have h5 := Int32.lt_iff_toInt_lt.mp h; have : (0 : Int32).toInt = 0 := rfl; omega
    have nj : ¬ 5510 * k + i < 0 := fun h => by have h5 := Int32.lt_iff_toInt_lt.mp h; have : (0 : Int32).toInt = 0 := rfl; omega
    have bi : i.toNatClampNeg < ROW.length := by show i.toInt.toNat < _; omega
    have bj : (5510 * k + i).toNatClampNeg < ys.length := by show (5510 * k + i).toInt.toNat < _; omega
    refine At.enter rfl ?_
    refine r_iload_n g2 ?_
    refine r_sipush 5510 rfl ?_
    refine r_icf 30 rfl (decide_eq_false (fun h => by have h5 := Int32.le_iff_toInt_le.mp h; omega)) ?_
    refine At.enter rfl ?_
    refine r_aload_n g0 ?_
    refine r_get (v := .ref 234) (en_gs_ne (by decide) h1) f4 ?_
    refine r_sipush 5510 rfl ?_
    refine r_iload_n g1 ?_
    refine r_imul (5510 * k) rfl ?_
    refine r_iload_n g2 ?_
    refine r_iadd (5510 * k + i) rfl ?_
    refine r_aload_n g0 ?_
    refine r_get (v := .ref 233) (en_gs_ne (by decide) h1) f3 ?_
    refine r_iload_n g2 ?_
    refine r_iald (en_gs_ne (by decide) h3) ni (List.getElem?_eq_getElem bi) ?_
    refine r_iast (en_gs_eq h4) nj bj _ rfl ?_
    refine Ar.hp en_sd0 ?_
    refine r_iinc g2 (i + 1) rfl _ rfl ?_
    refine r_goto ?_
    refine ih (i + 1) _ _ ?_ ?_ ?_ (en_get_ne (by decide) rfl g0) (en_get_ne (by decide) rfl g1) (en_get_eq 2 _ _)
    · rw [en_inc h0 (by omega)]; omega
    · rw [en_inc h0 (by omega)]; omega
    · rw [List.length_set]; exact hy
end
section
set_option maxRecDepth 100000 in
set_option maxHeartbeats 4000000 in
theorem zm_X11_choke (a : Nat → en_E) (n : Nat) : Ev 14 235 [.ref 231] (en_pre a 231 hp_M, n) (fun r h' => r = some (.int (0)) ∧ h'.1.length = 259 ∧ h'.2 = n) := by
  refine Ev.mk rfl rfl ⟨Nat.le_of_ble_eq_true rfl, Or.inr (en_rcI (hm_231 _) rfl)⟩ ?_
  show At _ none _ _ (0, [(0, .ref 231)], [], (en_pre a 231 hp_M, n)) _
  refine At.enter rfl ?_
  refine r_aload_n rfl ?_
  refine r_iconst 0 rfl ?_
  refine r_putf (hm_231 _) (Nat.le_of_ble_eq_true rfl) rfl [.int 0, .int 0, .ref 232, .ref 233, .ref 234, .ref 235, .int 0, .ref 236, .int 0, .int 0, .int 0, .int 0, .long 0, .int (-1), .int 0, .int 0, .ref 237, .int 0, .ref 238, .ref 239, .int 0, .ref 240, .ref 241, .int 0, .int 0, .ref 242, .ref 243, .int 0, .ref 244, .ref 245, .int 0, .long 0, .long 0, .ref 246, .ref 247, .ref 248, .int 0, .ref 249, .ref 250, .ref 251, .ref 252, .ref 253, .ref 254, .ref 255, .ref 256, .int 0, .int 0, .int 0, .long 0, .ref 257, .ref 258, .int 0] rfl ?_
  refine r_aload_n rfl ?_
  refine r_callV1v (True)  (((((en_pre a 231 hp_M).set 231 (.inr (11, [.int 0, .int 0, .ref 232, .ref 233, .ref 234, .ref 235, .int 0, .ref 236, .int 0, .int 0, .int 0, .int 0, .long 0, .int (-1), .int 0, .int 0, .ref 237, .int 0, .ref 238, .ref 239, .int 0, .ref 240, .ref 241, .int 0, .int 0, .ref 242, .ref 243, .int 0, .ref 244, .ref 245, .int 0, .long 0, .long 0, .ref 246, .ref 247, .ref 248, .int 0, .ref 249, .ref 250, .ref 251, .ref 252, .ref 253, .ref 254, .ref 255, .ref 256, .int 0, .int 0, .int 0, .long 0, .ref 257, .ref 258, .int 0]))).set 246 (.inl (0, .inl (List.replicate 12 0)))).set 247 (.inl (0, .inl (List.replicate 12 0)))).set 248 (.inl (0, .inl (List.replicate 8 0))), n) 9 rfl [.ref 231] [] (Nat.le_of_ble_eq_true rfl) rfl ?_ (fun _ => ?_)
  · refine Ev.mk rfl rfl ⟨Nat.le_of_ble_eq_true rfl, Or.inr (en_rcI (en_gs_eq (hm_231 _)) rfl)⟩ ?_
    show At _ none _ _ (0, [(0, .ref 231)], [], ((en_pre a 231 hp_M).set 231 (.inr (11, [.int 0, .int 0, .ref 232, .ref 233, .ref 234, .ref 235, .int 0, .ref 236, .int 0, .int 0, .int 0, .int 0, .long 0, .int (-1), .int 0, .int 0, .ref 237, .int 0, .ref 238, .ref 239, .int 0, .ref 240, .ref 241, .int 0, .int 0, .ref 242, .ref 243, .int 0, .ref 244, .ref 245, .int 0, .long 0, .long 0, .ref 246, .ref 247, .ref 248, .int 0, .ref 249, .ref 250, .ref 251, .ref 252, .ref 253, .ref 254, .ref 255, .ref 256, .int 0, .int 0, .int 0, .long 0, .ref 257, .ref 258, .int 0])), n)) _
    refine At.enter rfl ?_
    refine r_aload_n rfl ?_
    refine r_callV1v (True)  (((((en_pre a 231 hp_M).set 231 (.inr (11, [.int 0, .int 0, .ref 232, .ref 233, .ref 234, .ref 235, .int 0, .ref 236, .int 0, .int 0, .int 0, .int 0, .long 0, .int (-1), .int 0, .int 0, .ref 237, .int 0, .ref 238, .ref 239, .int 0, .ref 240, .ref 241, .int 0, .int 0, .ref 242, .ref 243, .int 0, .ref 244, .ref 245, .int 0, .long 0, .long 0, .ref 246, .ref 247, .ref 248, .int 0, .ref 249, .ref 250, .ref 251, .ref 252, .ref 253, .ref 254, .ref 255, .ref 256, .int 0, .int 0, .int 0, .long 0, .ref 257, .ref 258, .int 0]))).set 246 (.inl (0, .inl (List.replicate 12 0)))).set 247 (.inl (0, .inl (List.replicate 12 0)))).set 248 (.inl (0, .inl (List.replicate 8 0))), n) 4 rfl [.ref 231] [] (Nat.le_of_ble_eq_true rfl) rfl ?_ (fun _ => ?_)
    · refine Ev.mk rfl rfl ⟨Nat.le_of_ble_eq_true rfl, Or.inr (en_rcI (en_gs_eq (hm_231 _)) rfl)⟩ ?_
      show At _ none _ _ (0, [(0, .ref 231)], [], ((en_pre a 231 hp_M).set 231 (.inr (11, [.int 0, .int 0, .ref 232, .ref 233, .ref 234, .ref 235, .int 0, .ref 236, .int 0, .int 0, .int 0, .int 0, .long 0, .int (-1), .int 0, .int 0, .ref 237, .int 0, .ref 238, .ref 239, .int 0, .ref 240, .ref 241, .int 0, .int 0, .ref 242, .ref 243, .int 0, .ref 244, .ref 245, .int 0, .long 0, .long 0, .ref 246, .ref 247, .ref 248, .int 0, .ref 249, .ref 250, .ref 251, .ref 252, .ref 253, .ref 254, .ref 255, .ref 256, .int 0, .int 0, .int 0, .long 0, .ref 257, .ref 258, .int 0])), n)) _
      refine At.enter rfl ?_
      refine r_iconst 0 rfl ?_
      refine r_istore_n ([(1, .int 0), (0, .ref 231)]) rfl ?_
      refine Ar.fall 2 rfl ?_
      refine At.enter rfl ?_
      refine r_iload_n rfl ?_
      refine r_bipush 12 rfl ?_
      refine r_icf 8 rfl (by decide) ?_
      refine At.enter rfl ?_
      refine r_aload_n rfl ?_
      refine r_get (v := .ref 246) (en_gs_eq (hm_231 _)) rfl ?_
      refine r_iload_n rfl ?_
      refine r_aload_n rfl ?_
      refine r_iload_n rfl ?_
      refine r_iconst 1 rfl ?_
      refine r_callV1s (True) (.int 0) ((en_pre a 231 hp_M).set 231 (.inr (11, [.int 0, .int 0, .ref 232, .ref 233, .ref 234, .ref 235, .int 0, .ref 236, .int 0, .int 0, .int 0, .int 0, .long 0, .int (-1), .int 0, .int 0, .ref 237, .int 0, .ref 238, .ref 239, .int 0, .ref 240, .ref 241, .int 0, .int 0, .ref 242, .ref 243, .int 0, .ref 244, .ref 245, .int 0, .long 0, .long 0, .ref 246, .ref 247, .ref 248, .int 0, .ref 249, .ref 250, .ref 251, .ref 252, .ref 253, .ref 254, .ref 255, .ref 256, .int 0, .int 0, .int 0, .long 0, .ref 257, .ref 258, .int 0])), n) 19 rfl [.ref 231, .int 0, .int 1] [.int 0, .ref 246] (Nat.le_of_ble_eq_true rfl) rfl ?_ (fun _ => ?_)
      · refine Ev.mk rfl rfl ⟨Nat.le_of_ble_eq_true rfl, Or.inr (en_rcI (en_gs_eq (hm_231 _)) rfl)⟩ ?_
        show At _ none _ _ (0, [(0, .ref 231), (1, .int 0), (2, .int 1)], [], ((en_pre a 231 hp_M).set 231 (.inr (11, [.int 0, .int 0, .ref 232, .ref 233, .ref 234, .ref 235, .int 0, .ref 236, .int 0, .int 0, .int 0, .int 0, .long 0, .int (-1), .int 0, .int 0, .ref 237, .int 0, .ref 238, .ref 239, .int 0, .ref 240, .ref 241, .int 0, .int 0, .ref 242, .ref 243, .int 0, .ref 244, .ref 245, .int 0, .long 0, .long 0, .ref 246, .ref 247, .ref 248, .int 0, .ref 249, .ref 250, .ref 251, .ref 252, .ref 253, .ref 254, .ref 255, .ref 256, .int 0, .int 0, .int 0, .long 0, .ref 257, .ref 258, .int 0])), n)) _
        refine At.enter rfl ?_
        refine r_aload_n rfl ?_
        refine r_get (v := .ref 233) (en_gs_eq (hm_231 _)) rfl ?_
        refine r_bipush 10 rfl ?_
        refine r_iconst 3 rfl ?_
        refine r_iload_n rfl ?_
        refine r_imul 0 (by decide) ?_
        refine r_iadd 10 rfl ?_
        refine r_iload_n rfl ?_
        refine r_iadd 11 rfl ?_
        refine r_iald (v := 0) (en_gs_ne (by decide) (hm_233 _)) (by decide) rfl ?_
        refine r_ireti ?_
        exact ⟨trivial, rfl, rfl⟩
      refine At.enter rfl ?_
      refine r_iast (en_gs_ne (by decide) (hm_246 _)) (by decide) (Nat.le_of_ble_eq_true rfl) (List.replicate 12 0) (by decide +kernel) ?_
      refine r_aload_n rfl ?_
      refine r_get (v := .ref 247) (en_gs_ne (by decide) (en_gs_eq (hm_231 _))) rfl ?_
      refine r_iload_n rfl ?_
      refine r_aload_n rfl ?_
      refine r_iload_n rfl ?_
      refine r_iconst 2 rfl ?_
      refine r_callV1s (True) (.int 0) (((en_pre a 231 hp_M).set 231 (.inr (11, [.int 0, .int 0, .ref 232, .ref 233, .ref 234, .ref 235, .int 0, .ref 236, .int 0, .int 0, .int 0, .int 0, .long 0, .int (-1), .int 0, .int 0, .ref 237, .int 0, .ref 238, .ref 239, .int 0, .ref 240, .ref 241, .int 0, .int 0, .ref 242, .ref 243, .int 0, .ref 244, .ref 245, .int 0, .long 0, .long 0, .ref 246, .ref 247, .ref 248, .int 0, .ref 249, .ref 250, .ref 251, .ref 252, .ref 253, .ref 254, .ref 255, .ref 256, .int 0, .int 0, .int 0, .long 0, .ref 257, .ref 258, .int 0]))).set 246 (.inl (0, .inl (List.replicate 12 0))), n) 31 rfl [.ref 231, .int 0, .int 2] [.int 0, .ref 247] (Nat.le_of_ble_eq_true rfl) rfl ?_ (fun _ => ?_)
      · refine Ev.mk rfl rfl ⟨Nat.le_of_ble_eq_true rfl, Or.inr (en_rcI (en_gs_ne (by decide) (en_gs_eq (hm_231 _))) rfl)⟩ ?_
        show At _ none _ _ (0, [(0, .ref 231), (1, .int 0), (2, .int 2)], [], (((en_pre a 231 hp_M).set 231 (.inr (11, [.int 0, .int 0, .ref 232, .ref 233, .ref 234, .ref 235, .int 0, .ref 236, .int 0, .int 0, .int 0, .int 0, .long 0, .int (-1), .int 0, .int 0, .ref 237, .int 0, .ref 238, .ref 239, .int 0, .ref 240, .ref 241, .int 0, .int 0, .ref 242, .ref 243, .int 0, .ref 244, .ref 245, .int 0, .long 0, .long 0, .ref 246, .ref 247, .ref 248, .int 0, .ref 249, .ref 250, .ref 251, .ref 252, .ref 253, .ref 254, .ref 255, .ref 256, .int 0, .int 0, .int 0, .long 0, .ref 257, .ref 258, .int 0]))).set 246 (.inl (0, .inl (List.replicate 12 0))), n)) _
        refine At.enter rfl ?_
        refine r_aload_n rfl ?_
        refine r_get (v := .ref 233) (en_gs_ne (by decide) (en_gs_eq (hm_231 _))) rfl ?_
        refine r_bipush 10 rfl ?_
        refine r_iconst 3 rfl ?_
        refine r_iload_n rfl ?_
        refine r_imul 0 (by decide) ?_
        refine r_iadd 10 rfl ?_
        refine r_iload_n rfl ?_
        refine r_iadd 12 rfl ?_
        refine r_iald (v := 0) (en_gs_ne (by decide) (en_gs_ne (by decide) (hm_233 _))) (by decide) (en_gr2 7 rfl (by decide +kernel) (by decide +kernel)) ?_
        refine r_ireti ?_
        exact ⟨trivial, rfl, rfl⟩
      refine At.enter rfl ?_
      refine r_iast (en_gs_ne (by decide) (en_gs_ne (by decide) (hm_247 _))) (by decide) (Nat.le_of_ble_eq_true rfl) (List.replicate 12 0) (by decide +kernel) ?_
      refine r_iinc rfl 1 rfl ([(1, .int 1), (0, .ref 231)]) rfl ?_
      refine r_goto ?_
      refine At.enter rfl ?_
      refine r_iload_n rfl ?_
      refine r_bipush 12 rfl ?_
      refine r_icf 8 rfl (by decide) ?_
      refine At.enter rfl ?_
      refine r_aload_n rfl ?_
      refine r_get (v := .ref 246) (en_gs_ne (by decide) (en_gs_ne (by decide) (en_gs_eq (hm_231 _)))) rfl ?_
      refine r_iload_n rfl ?_
      refine r_aload_n rfl ?_
      refine r_iload_n rfl ?_
      refine r_iconst 1 rfl ?_
      refine r_callV1s (True) (.int 0) ((((en_pre a 231 hp_M).set 231 (.inr (11, [.int 0, .int 0, .ref 232, .ref 233, .ref 234, .ref 235, .int 0, .ref 236, .int 0, .int 0, .int 0, .int 0, .long 0, .int (-1), .int 0, .int 0, .ref 237, .int 0, .ref 238, .ref 239, .int 0, .ref 240, .ref 241, .int 0, .int 0, .ref 242, .ref 243, .int 0, .ref 244, .ref 245, .int 0, .long 0, .long 0, .ref 246, .ref 247, .ref 248, .int 0, .ref 249, .ref 250, .ref 251, .ref 252, .ref 253, .ref 254, .ref 255, .ref 256, .int 0, .int 0, .int 0, .long 0, .ref 257, .ref 258, .int 0]))).set 246 (.inl (0, .inl (List.replicate 12 0)))).set 247 (.inl (0, .inl (List.replicate 12 0))), n) 19 rfl [.ref 231, .int 1, .int 1] [.int 1, .ref 246] (Nat.le_of_ble_eq_true rfl) rfl ?_ (fun _ => ?_)
      · refine Ev.mk rfl rfl ⟨Nat.le_of_ble_eq_true rfl, Or.inr (en_rcI (en_gs_ne (by decide) (en_gs_ne (by decide) (en_gs_eq (hm_231 _)))) rfl)⟩ ?_
        show At _ none _ _ (0, [(0, .ref 231), (1, .int 1), (2, .int 1)], [], ((((en_pre a 231 hp_M).set 231 (.inr (11, [.int 0, .int 0, .ref 232, .ref 233, .ref 234, .ref 235, .int 0, .ref 236, .int 0, .int 0, .int 0, .int 0, .long 0, .int (-1), .int 0, .int 0, .ref 237, .int 0, .ref 238, .ref 239, .int 0, .ref 240, .ref 241, .int 0, .int 0, .ref 242, .ref 243, .int 0, .ref 244, .ref 245, .int 0, .long 0, .long 0, .ref 246, .ref 247, .ref 248, .int 0, .ref 249, .ref 250, .ref 251, .ref 252, .ref 253, .ref 254, .ref 255, .ref 256, .int 0, .int 0, .int 0, .long 0, .ref 257, .ref 258, .int 0]))).set 246 (.inl (0, .inl (List.replicate 12 0)))).set 247 (.inl (0, .inl (List.replicate 12 0))), n)) _
        refine At.enter rfl ?_
        refine r_aload_n rfl ?_
        refine r_get (v := .ref 233) (en_gs_ne (by decide) (en_gs_ne (by decide) (en_gs_eq (hm_231 _)))) rfl ?_
        refine r_bipush 10 rfl ?_
        refine r_iconst 3 rfl ?_
        refine r_iload_n rfl ?_
        refine r_imul 3 (by decide) ?_
        refine r_iadd 13 rfl ?_
        refine r_iload_n rfl ?_
        refine r_iadd 14 rfl ?_
        refine r_iald (v := 0) (en_gs_ne (by decide) (en_gs_ne (by decide) (en_gs_ne (by decide) (hm_233 _)))) (by decide) (en_gr2 7 rfl (by decide +kernel) (by decide +kernel)) ?_
        refine r_ireti ?_
        exact ⟨trivial, rfl, rfl⟩
      refine At.enter rfl ?_
      refine r_iast (en_gs_ne (by decide) (en_gs_eq (en_gs_ne (by decide) (hm_246 _)))) (by decide) (Nat.le_of_ble_eq_true rfl) (List.replicate 12 0) (by decide +kernel) ?_
      refine Ar.hp (en_sdS (by decide) en_sd0) ?_
      refine r_aload_n rfl ?_
      refine r_get (v := .ref 247) (en_gs_ne (by decide) (en_gs_ne (by decide) (en_gs_eq (hm_231 _)))) rfl ?_
      refine r_iload_n rfl ?_
      refine r_aload_n rfl ?_
      refine r_iload_n rfl ?_
      refine r_iconst 2 rfl ?_
      refine r_callV1s (True) (.int 0) ((((en_pre a 231 hp_M).set 231 (.inr (11, [.int 0, .int 0, .ref 232, .ref 233, .ref 234, .ref 235, .int 0, .ref 236, .int 0, .int 0, .int 0, .int 0, .long 0, .int (-1), .int 0, .int 0, .ref 237, .int 0, .ref 238, .ref 239, .int 0, .ref 240, .ref 241, .int 0, .int 0, .ref 242, .ref 243, .int 0, .ref 244, .ref 245, .int 0, .long 0, .long 0, .ref 246, .ref 247, .ref 248, .int 0, .ref 249, .ref 250, .ref 251, .ref 252, .ref 253, .ref 254, .ref 255, .ref 256, .int 0, .int 0, .int 0, .long 0, .ref 257, .ref 258, .int 0]))).set 246 (.inl (0, .inl (List.replicate 12 0)))).set 247 (.inl (0, .inl (List.replicate 12 0))), n) 31 rfl [.ref 231, .int 1, .int 2] [.int 1, .ref 247] (Nat.le_of_ble_eq_true rfl) rfl ?_ (fun _ => ?_)
      · refine Ev.mk rfl rfl ⟨Nat.le_of_ble_eq_true rfl, Or.inr (en_rcI (en_gs_ne (by decide) (en_gs_ne (by decide) (en_gs_eq (hm_231 _)))) rfl)⟩ ?_
        show At _ none _ _ (0, [(0, .ref 231), (1, .int 1), (2, .int 2)], [], ((((en_pre a 231 hp_M).set 231 (.inr (11, [.int 0, .int 0, .ref 232, .ref 233, .ref 234, .ref 235, .int 0, .ref 236, .int 0, .int 0, .int 0, .int 0, .long 0, .int (-1), .int 0, .int 0, .ref 237, .int 0, .ref 238, .ref 239, .int 0, .ref 240, .ref 241, .int 0, .int 0, .ref 242, .ref 243, .int 0, .ref 244, .ref 245, .int 0, .long 0, .long 0, .ref 246, .ref 247, .ref 248, .int 0, .ref 249, .ref 250, .ref 251, .ref 252, .ref 253, .ref 254, .ref 255, .ref 256, .int 0, .int 0, .int 0, .long 0, .ref 257, .ref 258, .int 0]))).set 246 (.inl (0, .inl (List.replicate 12 0)))).set 247 (.inl (0, .inl (List.replicate 12 0))), n)) _
        refine At.enter rfl ?_
        refine r_aload_n rfl ?_
        refine r_get (v := .ref 233) (en_gs_ne (by decide) (en_gs_ne (by decide) (en_gs_eq (hm_231 _)))) rfl ?_
        refine r_bipush 10 rfl ?_
        refine r_iconst 3 rfl ?_
        refine r_iload_n rfl ?_
        refine r_imul 3 (by decide) ?_
        refine r_iadd 13 rfl ?_
        refine r_iload_n rfl ?_
        refine r_iadd 15 rfl ?_
        refine r_iald (v := 0) (en_gs_ne (by decide) (en_gs_ne (by decide) (en_gs_ne (by decide) (hm_233 _)))) (by decide) (en_gr2 7 rfl (by decide +kernel) (by decide +kernel)) ?_
        refine r_ireti ?_
        exact ⟨trivial, rfl, rfl⟩
      refine At.enter rfl ?_
      refine r_iast (en_gs_eq (en_gs_ne (by decide) (en_gs_ne (by decide) (hm_247 _)))) (by decide) (Nat.le_of_ble_eq_true rfl) (List.replicate 12 0) (by decide +kernel) ?_
      refine Ar.hp en_sd0 ?_
      refine r_iinc rfl 2 rfl ([(1, .int 2), (0, .ref 231)]) rfl ?_
      refine r_goto ?_
      refine At.enter rfl ?_
      refine r_iload_n rfl ?_
      refine r_bipush 12 rfl ?_
      refine r_icf 8 rfl (by decide) ?_
      refine At.enter rfl ?_
      refine r_aload_n rfl ?_
      refine r_get (v := .ref 246) (en_gs_ne (by decide) (en_gs_ne (by decide) (en_gs_eq (hm_231 _)))) rfl ?_
      refine r_iload_n rfl ?_
      refine r_aload_n rfl ?_
      refine r_iload_n rfl ?_
      refine r_iconst 1 rfl ?_
      refine r_callV1s (True) (.int 0) ((((en_pre a 231 hp_M).set 231 (.inr (11, [.int 0, .int 0, .ref 232, .ref 233, .ref 234, .ref 235, .int 0, .ref 236, .int 0, .int 0, .int 0, .int 0, .long 0, .int (-1), .int 0, .int 0, .ref 237, .int 0, .ref 238, .ref 239, .int 0, .ref 240, .ref 241, .int 0, .int 0, .ref 242, .ref 243, .int 0, .ref 244, .ref 245, .int 0, .long 0, .long 0, .ref 246, .ref 247, .ref 248, .int 0, .ref 249, .ref 250, .ref 251, .ref 252, .ref 253, .ref 254, .ref 255, .ref 256, .int 0, .int 0, .int 0, .long 0, .ref 257, .ref 258, .int 0]))).set 246 (.inl (0, .inl (List.replicate 12 0)))).set 247 (.inl (0, .inl (List.replicate 12 0))), n) 19 rfl [.ref 231, .int 2, .int 1] [.int 2, .ref 246] (Nat.le_of_ble_eq_true rfl) rfl ?_ (fun _ => ?_)
      · refine Ev.mk rfl rfl ⟨Nat.le_of_ble_eq_true rfl, Or.inr (en_rcI (en_gs_ne (by decide) (en_gs_ne (by decide) (en_gs_eq (hm_231 _)))) rfl)⟩ ?_
        show At _ none _ _ (0, [(0, .ref 231), (1, .int 2), (2, .int 1)], [], ((((en_pre a 231 hp_M).set 231 (.inr (11, [.int 0, .int 0, .ref 232, .ref 233, .ref 234, .ref 235, .int 0, .ref 236, .int 0, .int 0, .int 0, .int 0, .long 0, .int (-1), .int 0, .int 0, .ref 237, .int 0, .ref 238, .ref 239, .int 0, .ref 240, .ref 241, .int 0, .int 0, .ref 242, .ref 243, .int 0, .ref 244, .ref 245, .int 0, .long 0, .long 0, .ref 246, .ref 247, .ref 248, .int 0, .ref 249, .ref 250, .ref 251, .ref 252, .ref 253, .ref 254, .ref 255, .ref 256, .int 0, .int 0, .int 0, .long 0, .ref 257, .ref 258, .int 0]))).set 246 (.inl (0, .inl (List.replicate 12 0)))).set 247 (.inl (0, .inl (List.replicate 12 0))), n)) _
        refine At.enter rfl ?_
        refine r_aload_n rfl ?_
        refine r_get (v := .ref 233) (en_gs_ne (by decide) (en_gs_ne (by decide) (en_gs_eq (hm_231 _)))) rfl ?_
        refine r_bipush 10 rfl ?_
        refine r_iconst 3 rfl ?_
        refine r_iload_n rfl ?_
        refine r_imul 6 (by decide) ?_
        refine r_iadd 16 rfl ?_
        refine r_iload_n rfl ?_
        refine r_iadd 17 rfl ?_
        refine r_iald (v := 0) (en_gs_ne (by decide) (en_gs_ne (by decide) (en_gs_ne (by decide) (hm_233 _)))) (by decide) (en_gr2 7 rfl (by decide +kernel) (by decide +kernel)) ?_
        refine r_ireti ?_
        exact ⟨trivial, rfl, rfl⟩
      refine At.enter rfl ?_
      refine r_iast (en_gs_ne (by decide) (en_gs_eq (en_gs_ne (by decide) (hm_246 _)))) (by decide) (Nat.le_of_ble_eq_true rfl) (List.replicate 12 0) (by decide +kernel) ?_
      refine Ar.hp (en_sdS (by decide) en_sd0) ?_
      refine r_aload_n rfl ?_
      refine r_get (v := .ref 247) (en_gs_ne (by decide) (en_gs_ne (by decide) (en_gs_eq (hm_231 _)))) rfl ?_
      refine r_iload_n rfl ?_
      refine r_aload_n rfl ?_
      refine r_iload_n rfl ?_
      refine r_iconst 2 rfl ?_
      refine r_callV1s (True) (.int 0) ((((en_pre a 231 hp_M).set 231 (.inr (11, [.int 0, .int 0, .ref 232, .ref 233, .ref 234, .ref 235, .int 0, .ref 236, .int 0, .int 0, .int 0, .int 0, .long 0, .int (-1), .int 0, .int 0, .ref 237, .int 0, .ref 238, .ref 239, .int 0, .ref 240, .ref 241, .int 0, .int 0, .ref 242, .ref 243, .int 0, .ref 244, .ref 245, .int 0, .long 0, .long 0, .ref 246, .ref 247, .ref 248, .int 0, .ref 249, .ref 250, .ref 251, .ref 252, .ref 253, .ref 254, .ref 255, .ref 256, .int 0, .int 0, .int 0, .long 0, .ref 257, .ref 258, .int 0]))).set 246 (.inl (0, .inl (List.replicate 12 0)))).set 247 (.inl (0, .inl (List.replicate 12 0))), n) 31 rfl [.ref 231, .int 2, .int 2] [.int 2, .ref 247] (Nat.le_of_ble_eq_true rfl) rfl ?_ (fun _ => ?_)
      · refine Ev.mk rfl rfl ⟨Nat.le_of_ble_eq_true rfl, Or.inr (en_rcI (en_gs_ne (by decide) (en_gs_ne (by decide) (en_gs_eq (hm_231 _)))) rfl)⟩ ?_
        show At _ none _ _ (0, [(0, .ref 231), (1, .int 2), (2, .int 2)], [], ((((en_pre a 231 hp_M).set 231 (.inr (11, [.int 0, .int 0, .ref 232, .ref 233, .ref 234, .ref 235, .int 0, .ref 236, .int 0, .int 0, .int 0, .int 0, .long 0, .int (-1), .int 0, .int 0, .ref 237, .int 0, .ref 238, .ref 239, .int 0, .ref 240, .ref 241, .int 0, .int 0, .ref 242, .ref 243, .int 0, .ref 244, .ref 245, .int 0, .long 0, .long 0, .ref 246, .ref 247, .ref 248, .int 0, .ref 249, .ref 250, .ref 251, .ref 252, .ref 253, .ref 254, .ref 255, .ref 256, .int 0, .int 0, .int 0, .long 0, .ref 257, .ref 258, .int 0]))).set 246 (.inl (0, .inl (List.replicate 12 0)))).set 247 (.inl (0, .inl (List.replicate 12 0))), n)) _
        refine At.enter rfl ?_
        refine r_aload_n rfl ?_
        refine r_get (v := .ref 233) (en_gs_ne (by decide) (en_gs_ne (by decide) (en_gs_eq (hm_231 _)))) rfl ?_
        refine r_bipush 10 rfl ?_
        refine r_iconst 3 rfl ?_
        refine r_iload_n rfl ?_
        refine r_imul 6 (by decide) ?_
        refine r_iadd 16 rfl ?_
        refine r_iload_n rfl ?_
        refine r_iadd 18 rfl ?_
        refine r_iald (v := 0) (en_gs_ne (by decide) (en_gs_ne (by decide) (en_gs_ne (by decide) (hm_233 _)))) (by decide) (en_gr2 7 rfl (by decide +kernel) (by decide +kernel)) ?_
        refine r_ireti ?_
        exact ⟨trivial, rfl, rfl⟩
      refine At.enter rfl ?_
      refine r_iast (en_gs_eq (en_gs_ne (by decide) (en_gs_ne (by decide) (hm_247 _)))) (by decide) (Nat.le_of_ble_eq_true rfl) (List.replicate 12 0) (by decide +kernel) ?_
      refine Ar.hp en_sd0 ?_
      refine r_iinc rfl 3 rfl ([(1, .int 3), (0, .ref 231)]) rfl ?_
      refine r_goto ?_
      refine At.enter rfl ?_
      refine r_iload_n rfl ?_
      refine r_bipush 12 rfl ?_
      refine r_icf 8 rfl (by decide) ?_
      refine At.enter rfl ?_
      refine r_aload_n rfl ?_
      refine r_get (v := .ref 246) (en_gs_ne (by decide) (en_gs_ne (by decide) (en_gs_eq (hm_231 _)))) rfl ?_
      refine r_iload_n rfl ?_
      refine r_aload_n rfl ?_
      refine r_iload_n rfl ?_
      refine r_iconst 1 rfl ?_
      refine r_callV1s (True) (.int 0) ((((en_pre a 231 hp_M).set 231 (.inr (11, [.int 0, .int 0, .ref 232, .ref 233, .ref 234, .ref 235, .int 0, .ref 236, .int 0, .int 0, .int 0, .int 0, .long 0, .int (-1), .int 0, .int 0, .ref 237, .int 0, .ref 238, .ref 239, .int 0, .ref 240, .ref 241, .int 0, .int 0, .ref 242, .ref 243, .int 0, .ref 244, .ref 245, .int 0, .long 0, .long 0, .ref 246, .ref 247, .ref 248, .int 0, .ref 249, .ref 250, .ref 251, .ref 252, .ref 253, .ref 254, .ref 255, .ref 256, .int 0, .int 0, .int 0, .long 0, .ref 257, .ref 258, .int 0]))).set 246 (.inl (0, .inl (List.replicate 12 0)))).set 247 (.inl (0, .inl (List.replicate 12 0))), n) 19 rfl [.ref 231, .int 3, .int 1] [.int 3, .ref 246] (Nat.le_of_ble_eq_true rfl) rfl ?_ (fun _ => ?_)
      · refine Ev.mk rfl rfl ⟨Nat.le_of_ble_eq_true rfl, Or.inr (en_rcI (en_gs_ne (by decide) (en_gs_ne (by decide) (en_gs_eq (hm_231 _)))) rfl)⟩ ?_
        show At _ none _ _ (0, [(0, .ref 231), (1, .int 3), (2, .int 1)], [], ((((en_pre a 231 hp_M).set 231 (.inr (11, [.int 0, .int 0, .ref 232, .ref 233, .ref 234, .ref 235, .int 0, .ref 236, .int 0, .int 0, .int 0, .int 0, .long 0, .int (-1), .int 0, .int 0, .ref 237, .int 0, .ref 238, .ref 239, .int 0, .ref 240, .ref 241, .int 0, .int 0, .ref 242, .ref 243, .int 0, .ref 244, .ref 245, .int 0, .long 0, .long 0, .ref 246, .ref 247, .ref 248, .int 0, .ref 249, .ref 250, .ref 251, .ref 252, .ref 253, .ref 254, .ref 255, .ref 256, .int 0, .int 0, .int 0, .long 0, .ref 257, .ref 258, .int 0]))).set 246 (.inl (0, .inl (List.replicate 12 0)))).set 247 (.inl (0, .inl (List.replicate 12 0))), n)) _
        refine At.enter rfl ?_
        refine r_aload_n rfl ?_
        refine r_get (v := .ref 233) (en_gs_ne (by decide) (en_gs_ne (by decide) (en_gs_eq (hm_231 _)))) rfl ?_
        refine r_bipush 10 rfl ?_
        refine r_iconst 3 rfl ?_
        refine r_iload_n rfl ?_
        refine r_imul 9 (by decide) ?_
        refine r_iadd 19 rfl ?_
        refine r_iload_n rfl ?_
        refine r_iadd 20 rfl ?_
        refine r_iald (v := 0) (en_gs_ne (by decide) (en_gs_ne (by decide) (en_gs_ne (by decide) (hm_233 _)))) (by decide) (en_gr2 7 rfl (by decide +kernel) (by decide +kernel)) ?_
        refine r_ireti ?_
        exact ⟨trivial, rfl, rfl⟩
      refine At.enter rfl ?_
      refine r_iast (en_gs_ne (by decide) (en_gs_eq (en_gs_ne (by decide) (hm_246 _)))) (by decide) (Nat.le_of_ble_eq_true rfl) (List.replicate 12 0) (by decide +kernel) ?_
      refine Ar.hp (en_sdS (by decide) en_sd0) ?_
      refine r_aload_n rfl ?_
      refine r_get (v := .ref 247) (en_gs_ne (by decide) (en_gs_ne (by decide) (en_gs_eq (hm_231 _)))) rfl ?_
      refine r_iload_n rfl ?_
      refine r_aload_n rfl ?_
      refine r_iload_n rfl ?_
      refine r_iconst 2 rfl ?_
      refine r_callV1s (True) (.int 0) ((((en_pre a 231 hp_M).set 231 (.inr (11, [.int 0, .int 0, .ref 232, .ref 233, .ref 234, .ref 235, .int 0, .ref 236, .int 0, .int 0, .int 0, .int 0, .long 0, .int (-1), .int 0, .int 0, .ref 237, .int 0, .ref 238, .ref 239, .int 0, .ref 240, .ref 241, .int 0, .int 0, .ref 242, .ref 243, .int 0, .ref 244, .ref 245, .int 0, .long 0, .long 0, .ref 246, .ref 247, .ref 248, .int 0, .ref 249, .ref 250, .ref 251, .ref 252, .ref 253, .ref 254, .ref 255, .ref 256, .int 0, .int 0, .int 0, .long 0, .ref 257, .ref 258, .int 0]))).set 246 (.inl (0, .inl (List.replicate 12 0)))).set 247 (.inl (0, .inl (List.replicate 12 0))), n) 31 rfl [.ref 231, .int 3, .int 2] [.int 3, .ref 247] (Nat.le_of_ble_eq_true rfl) rfl ?_ (fun _ => ?_)
      · refine Ev.mk rfl rfl ⟨Nat.le_of_ble_eq_true rfl, Or.inr (en_rcI (en_gs_ne (by decide) (en_gs_ne (by decide) (en_gs_eq (hm_231 _)))) rfl)⟩ ?_
        show At _ none _ _ (0, [(0, .ref 231), (1, .int 3), (2, .int 2)], [], ((((en_pre a 231 hp_M).set 231 (.inr (11, [.int 0, .int 0, .ref 232, .ref 233, .ref 234, .ref 235, .int 0, .ref 236, .int 0, .int 0, .int 0, .int 0, .long 0, .int (-1), .int 0, .int 0, .ref 237, .int 0, .ref 238, .ref 239, .int 0, .ref 240, .ref 241, .int 0, .int 0, .ref 242, .ref 243, .int 0, .ref 244, .ref 245, .int 0, .long 0, .long 0, .ref 246, .ref 247, .ref 248, .int 0, .ref 249, .ref 250, .ref 251, .ref 252, .ref 253, .ref 254, .ref 255, .ref 256, .int 0, .int 0, .int 0, .long 0, .ref 257, .ref 258, .int 0]))).set 246 (.inl (0, .inl (List.replicate 12 0)))).set 247 (.inl (0, .inl (List.replicate 12 0))), n)) _
        refine At.enter rfl ?_
        refine r_aload_n rfl ?_
        refine r_get (v := .ref 233) (en_gs_ne (by decide) (en_gs_ne (by decide) (en_gs_eq (hm_231 _)))) rfl ?_
        refine r_bipush 10 rfl ?_
        refine r_iconst 3 rfl ?_
        refine r_iload_n rfl ?_
        refine r_imul 9 (by decide) ?_
        refine r_iadd 19 rfl ?_
        refine r_iload_n rfl ?_
        refine r_iadd 21 rfl ?_
        refine r_iald (v := 0) (en_gs_ne (by decide) (en_gs_ne (by decide) (en_gs_ne (by decide) (hm_233 _)))) (by decide) (en_gr2 7 rfl (by decide +kernel) (by decide +kernel)) ?_
        refine r_ireti ?_
        exact ⟨trivial, rfl, rfl⟩
      refine At.enter rfl ?_
      refine r_iast (en_gs_eq (en_gs_ne (by decide) (en_gs_ne (by decide) (hm_247 _)))) (by decide) (Nat.le_of_ble_eq_true rfl) (List.replicate 12 0) (by decide +kernel) ?_
      refine Ar.hp en_sd0 ?_
      refine r_iinc rfl 4 rfl ([(1, .int 4), (0, .ref 231)]) rfl ?_
      refine r_goto ?_
      refine At.enter rfl ?_
      refine r_iload_n rfl ?_
      refine r_bipush 12 rfl ?_
      refine r_icf 8 rfl (by decide) ?_
      refine At.enter rfl ?_
      refine r_aload_n rfl ?_
      refine r_get (v := .ref 246) (en_gs_ne (by decide) (en_gs_ne (by decide) (en_gs_eq (hm_231 _)))) rfl ?_
      refine r_iload_n rfl ?_
      refine r_aload_n rfl ?_
      refine r_iload_n rfl ?_
      refine r_iconst 1 rfl ?_
      refine r_callV1s (True) (.int 0) ((((en_pre a 231 hp_M).set 231 (.inr (11, [.int 0, .int 0, .ref 232, .ref 233, .ref 234, .ref 235, .int 0, .ref 236, .int 0, .int 0, .int 0, .int 0, .long 0, .int (-1), .int 0, .int 0, .ref 237, .int 0, .ref 238, .ref 239, .int 0, .ref 240, .ref 241, .int 0, .int 0, .ref 242, .ref 243, .int 0, .ref 244, .ref 245, .int 0, .long 0, .long 0, .ref 246, .ref 247, .ref 248, .int 0, .ref 249, .ref 250, .ref 251, .ref 252, .ref 253, .ref 254, .ref 255, .ref 256, .int 0, .int 0, .int 0, .long 0, .ref 257, .ref 258, .int 0]))).set 246 (.inl (0, .inl (List.replicate 12 0)))).set 247 (.inl (0, .inl (List.replicate 12 0))), n) 19 rfl [.ref 231, .int 4, .int 1] [.int 4, .ref 246] (Nat.le_of_ble_eq_true rfl) rfl ?_ (fun _ => ?_)
      · refine Ev.mk rfl rfl ⟨Nat.le_of_ble_eq_true rfl, Or.inr (en_rcI (en_gs_ne (by decide) (en_gs_ne (by decide) (en_gs_eq (hm_231 _)))) rfl)⟩ ?_
        show At _ none _ _ (0, [(0, .ref 231), (1, .int 4), (2, .int 1)], [], ((((en_pre a 231 hp_M).set 231 (.inr (11, [.int 0, .int 0, .ref 232, .ref 233, .ref 234, .ref 235, .int 0, .ref 236, .int 0, .int 0, .int 0, .int 0, .long 0, .int (-1), .int 0, .int 0, .ref 237, .int 0, .ref 238, .ref 239, .int 0, .ref 240, .ref 241, .int 0, .int 0, .ref 242, .ref 243, .int 0, .ref 244, .ref 245, .int 0, .long 0, .long 0, .ref 246, .ref 247, .ref 248, .int 0, .ref 249, .ref 250, .ref 251, .ref 252, .ref 253, .ref 254, .ref 255, .ref 256, .int 0, .int 0, .int 0, .long 0, .ref 257, .ref 258, .int 0]))).set 246 (.inl (0, .inl (List.replicate 12 0)))).set 247 (.inl (0, .inl (List.replicate 12 0))), n)) _
        refine At.enter rfl ?_
        refine r_aload_n rfl ?_
        refine r_get (v := .ref 233) (en_gs_ne (by decide) (en_gs_ne (by decide) (en_gs_eq (hm_231 _)))) rfl ?_
        refine r_bipush 10 rfl ?_
        refine r_iconst 3 rfl ?_
        refine r_iload_n rfl ?_
        refine r_imul 12 (by decide) ?_
        refine r_iadd 22 rfl ?_
        refine r_iload_n rfl ?_
        refine r_iadd 23 rfl ?_
        refine r_iald (v := 0) (en_gs_ne (by decide) (en_gs_ne (by decide) (en_gs_ne (by decide) (hm_233 _)))) (by decide) (en_gr2 7 rfl (by decide +kernel) (by decide +kernel)) ?_
        refine r_ireti ?_
        exact ⟨trivial, rfl, rfl⟩
      refine At.enter rfl ?_
      refine r_iast (en_gs_ne (by decide) (en_gs_eq (en_gs_ne (by decide) (hm_246 _)))) (by decide) (Nat.le_of_ble_eq_true rfl) (List.replicate 12 0) (by decide +kernel) ?_
      refine Ar.hp (en_sdS (by decide) en_sd0) ?_
      refine r_aload_n rfl ?_
      refine r_get (v := .ref 247) (en_gs_ne (by decide) (en_gs_ne (by decide) (en_gs_eq (hm_231 _)))) rfl ?_
      refine r_iload_n rfl ?_
      refine r_aload_n rfl ?_
      refine r_iload_n rfl ?_
      refine r_iconst 2 rfl ?_
      refine r_callV1s (True) (.int 0) ((((en_pre a 231 hp_M).set 231 (.inr (11, [.int 0, .int 0, .ref 232, .ref 233, .ref 234, .ref 235, .int 0, .ref 236, .int 0, .int 0, .int 0, .int 0, .long 0, .int (-1), .int 0, .int 0, .ref 237, .int 0, .ref 238, .ref 239, .int 0, .ref 240, .ref 241, .int 0, .int 0, .ref 242, .ref 243, .int 0, .ref 244, .ref 245, .int 0, .long 0, .long 0, .ref 246, .ref 247, .ref 248, .int 0, .ref 249, .ref 250, .ref 251, .ref 252, .ref 253, .ref 254, .ref 255, .ref 256, .int 0, .int 0, .int 0, .long 0, .ref 257, .ref 258, .int 0]))).set 246 (.inl (0, .inl (List.replicate 12 0)))).set 247 (.inl (0, .inl (List.replicate 12 0))), n) 31 rfl [.ref 231, .int 4, .int 2] [.int 4, .ref 247] (Nat.le_of_ble_eq_true rfl) rfl ?_ (fun _ => ?_)
      · refine Ev.mk rfl rfl ⟨Nat.le_of_ble_eq_true rfl, Or.inr (en_rcI (en_gs_ne (by decide) (en_gs_ne (by decide) (en_gs_eq (hm_231 _)))) rfl)⟩ ?_
        show At _ none _ _ (0, [(0, .ref 231), (1, .int 4), (2, .int 2)], [], ((((en_pre a 231 hp_M).set 231 (.inr (11, [.int 0, .int 0, .ref 232, .ref 233, .ref 234, .ref 235, .int 0, .ref 236, .int 0, .int 0, .int 0, .int 0, .long 0, .int (-1), .int 0, .int 0, .ref 237, .int 0, .ref 238, .ref 239, .int 0, .ref 240, .ref 241, .int 0, .int 0, .ref 242, .ref 243, .int 0, .ref 244, .ref 245, .int 0, .long 0, .long 0, .ref 246, .ref 247, .ref 248, .int 0, .ref 249, .ref 250, .ref 251, .ref 252, .ref 253, .ref 254, .ref 255, .ref 256, .int 0, .int 0, .int 0, .long 0, .ref 257, .ref 258, .int 0]))).set 246 (.inl (0, .inl (List.replicate 12 0)))).set 247 (.inl (0, .inl (List.replicate 12 0))), n)) _
        refine At.enter rfl ?_
        refine r_aload_n rfl ?_
        refine r_get (v := .ref 233) (en_gs_ne (by decide) (en_gs_ne (by decide) (en_gs_eq (hm_231 _)))) rfl ?_
        refine r_bipush 10 rfl ?_
        refine r_iconst 3 rfl ?_
        refine r_iload_n rfl ?_
        refine r_imul 12 (by decide) ?_
        refine r_iadd 22 rfl ?_
        refine r_iload_n rfl ?_
        refine r_iadd 24 rfl ?_
        refine r_iald (v := 0) (en_gs_ne (by decide) (en_gs_ne (by decide) (en_gs_ne (by decide) (hm_233 _)))) (by decide) (en_gr2 7 rfl (by decide +kernel) (by decide +kernel)) ?_
        refine r_ireti ?_
        exact ⟨trivial, rfl, rfl⟩
      refine At.enter rfl ?_
      refine r_iast (en_gs_eq (en_gs_ne (by decide) (en_gs_ne (by decide) (hm_247 _)))) (by decide) (Nat.le_of_ble_eq_true rfl) (List.replicate 12 0) (by decide +kernel) ?_
      refine Ar.hp en_sd0 ?_
      refine r_iinc rfl 5 rfl ([(1, .int 5), (0, .ref 231)]) rfl ?_
      refine r_goto ?_
      refine At.enter rfl ?_
      refine r_iload_n rfl ?_
      refine r_bipush 12 rfl ?_
      refine r_icf 8 rfl (by decide) ?_
      refine At.enter rfl ?_
      refine r_aload_n rfl ?_
      refine r_get (v := .ref 246) (en_gs_ne (by decide) (en_gs_ne (by decide) (en_gs_eq (hm_231 _)))) rfl ?_
      refine r_iload_n rfl ?_
      refine r_aload_n rfl ?_
      refine r_iload_n rfl ?_
      refine r_iconst 1 rfl ?_
      refine r_callV1s (True) (.int 0) ((((en_pre a 231 hp_M).set 231 (.inr (11, [.int 0, .int 0, .ref 232, .ref 233, .ref 234, .ref 235, .int 0, .ref 236, .int 0, .int 0, .int 0, .int 0, .long 0, .int (-1), .int 0, .int 0, .ref 237, .int 0, .ref 238, .ref 239, .int 0, .ref 240, .ref 241, .int 0, .int 0, .ref 242, .ref 243, .int 0, .ref 244, .ref 245, .int 0, .long 0, .long 0, .ref 246, .ref 247, .ref 248, .int 0, .ref 249, .ref 250, .ref 251, .ref 252, .ref 253, .ref 254, .ref 255, .ref 256, .int 0, .int 0, .int 0, .long 0, .ref 257, .ref 258, .int 0]))).set 246 (.inl (0, .inl (List.replicate 12 0)))).set 247 (.inl (0, .inl (List.replicate 12 0))), n) 19 rfl [.ref 231, .int 5, .int 1] [.int 5, .ref 246] (Nat.le_of_ble_eq_true rfl) rfl ?_ (fun _ => ?_)
      · refine Ev.mk rfl rfl ⟨Nat.le_of_ble_eq_true rfl, Or.inr (en_rcI (en_gs_ne (by decide) (en_gs_ne (by decide) (en_gs_eq (hm_231 _)))) rfl)⟩ ?_
        show At _ none _ _ (0, [(0, .ref 231), (1, .int 5), (2, .int 1)], [], ((((en_pre a 231 hp_M).set 231 (.inr (11, [.int 0, .int 0, .ref 232, .ref 233, .ref 234, .ref 235, .int 0, .ref 236, .int 0, .int 0, .int 0, .int 0, .long 0, .int (-1), .int 0, .int 0, .ref 237, .int 0, .ref 238, .ref 239, .int 0, .ref 240, .ref 241, .int 0, .int 0, .ref 242, .ref 243, .int 0, .ref 244, .ref 245, .int 0, .long 0, .long 0, .ref 246, .ref 247, .ref 248, .int 0, .ref 249, .ref 250, .ref 251, .ref 252, .ref 253, .ref 254, .ref 255, .ref 256, .int 0, .int 0, .int 0, .long 0, .ref 257, .ref 258, .int 0]))).set 246 (.inl (0, .inl (List.replicate 12 0)))).set 247 (.inl (0, .inl (List.replicate 12 0))), n)) _
        refine At.enter rfl ?_
        refine r_aload_n rfl ?_
        refine r_get (v := .ref 233) (en_gs_ne (by decide) (en_gs_ne (by decide) (en_gs_eq (hm_231 _)))) rfl ?_
        refine r_bipush 10 rfl ?_
        refine r_iconst 3 rfl ?_
        refine r_iload_n rfl ?_
        refine r_imul 15 (by decide) ?_
        refine r_iadd 25 rfl ?_
        refine r_iload_n rfl ?_
        refine r_iadd 26 rfl ?_
        refine r_iald (v := 0) (en_gs_ne (by decide) (en_gs_ne (by decide) (en_gs_ne (by decide) (hm_233 _)))) (by decide) (en_gr2 7 rfl (by decide +kernel) (by decide +kernel)) ?_
        refine r_ireti ?_
        exact ⟨trivial, rfl, rfl⟩
      refine At.enter rfl ?_
      refine r_iast (en_gs_ne (by decide) (en_gs_eq (en_gs_ne (by decide) (hm_246 _)))) (by decide) (Nat.le_of_ble_eq_true rfl) (List.replicate 12 0) (by decide +kernel) ?_
      refine Ar.hp (en_sdS (by decide) en_sd0) ?_
      refine r_aload_n rfl ?_
      refine r_get (v := .ref 247) (en_gs_ne (by decide) (en_gs_ne (by decide) (en_gs_eq (hm_231 _)))) rfl ?_
      refine r_iload_n rfl ?_
      refine r_aload_n rfl ?_
      refine r_iload_n rfl ?_
      refine r_iconst 2 rfl ?_
      refine r_callV1s (True) (.int 0) ((((en_pre a 231 hp_M).set 231 (.inr (11, [.int 0, .int 0, .ref 232, .ref 233, .ref 234, .ref 235, .int 0, .ref 236, .int 0, .int 0, .int 0, .int 0, .long 0, .int (-1), .int 0, .int 0, .ref 237, .int 0, .ref 238, .ref 239, .int 0, .ref 240, .ref 241, .int 0, .int 0, .ref 242, .ref 243, .int 0, .ref 244, .ref 245, .int 0, .long 0, .long 0, .ref 246, .ref 247, .ref 248, .int 0, .ref 249, .ref 250, .ref 251, .ref 252, .ref 253, .ref 254, .ref 255, .ref 256, .int 0, .int 0, .int 0, .long 0, .ref 257, .ref 258, .int 0]))).set 246 (.inl (0, .inl (List.replicate 12 0)))).set 247 (.inl (0, .inl (List.replicate 12 0))), n) 31 rfl [.ref 231, .int 5, .int 2] [.int 5, .ref 247] (Nat.le_of_ble_eq_true rfl) rfl ?_ (fun _ => ?_)
      · refine Ev.mk rfl rfl ⟨Nat.le_of_ble_eq_true rfl, Or.inr (en_rcI (en_gs_ne (by decide) (en_gs_ne (by decide) (en_gs_eq (hm_231 _)))) rfl)⟩ ?_
        show At _ none _ _ (0, [(0, .ref 231), (1, .int 5), (2, .int 2)], [], ((((en_pre a 231 hp_M).set 231 (.inr (11, [.int 0, .int 0, .ref 232, .ref 233, .ref 234, .ref 235, .int 0, .ref 236, .int 0, .int 0, .int 0, .int 0, .long 0, .int (-1), .int 0, .int 0, .ref 237, .int 0, .ref 238, .ref 239, .int 0, .ref 240, .ref 241, .int 0, .int 0, .ref 242, .ref 243, .int 0, .ref 244, .ref 245, .int 0, .long 0, .long 0, .ref 246, .ref 247, .ref 248, .int 0, .ref 249, .ref 250, .ref 251, .ref 252, .ref 253, .ref 254, .ref 255, .ref 256, .int 0, .int 0, .int 0, .long 0, .ref 257, .ref 258, .int 0]))).set 246 (.inl (0, .inl (List.replicate 12 0)))).set 247 (.inl (0, .inl (List.replicate 12 0))), n)) _
        refine At.enter rfl ?_
        refine r_aload_n rfl ?_
        refine r_get (v := .ref 233) (en_gs_ne (by decide) (en_gs_ne (by decide) (en_gs_eq (hm_231 _)))) rfl ?_
        refine r_bipush 10 rfl ?_
        refine r_iconst 3 rfl ?_
        refine r_iload_n rfl ?_
        refine r_imul 15 (by decide) ?_
        refine r_iadd 25 rfl ?_
        refine r_iload_n rfl ?_
        refine r_iadd 27 rfl ?_
        refine r_iald (v := 0) (en_gs_ne (by decide) (en_gs_ne (by decide) (en_gs_ne (by decide) (hm_233 _)))) (by decide) (en_gr2 7 rfl (by decide +kernel) (by decide +kernel)) ?_
        refine r_ireti ?_
        exact ⟨trivial, rfl, rfl⟩
      refine At.enter rfl ?_
      refine r_iast (en_gs_eq (en_gs_ne (by decide) (en_gs_ne (by decide) (hm_247 _)))) (by decide) (Nat.le_of_ble_eq_true rfl) (List.replicate 12 0) (by decide +kernel) ?_
      refine Ar.hp en_sd0 ?_
      refine r_iinc rfl 6 rfl ([(1, .int 6), (0, .ref 231)]) rfl ?_
      refine r_goto ?_
      refine At.enter rfl ?_
      refine r_iload_n rfl ?_
      refine r_bipush 12 rfl ?_
      refine r_icf 8 rfl (by decide) ?_
      refine At.enter rfl ?_
      refine r_aload_n rfl ?_
      refine r_get (v := .ref 246) (en_gs_ne (by decide) (en_gs_ne (by decide) (en_gs_eq (hm_231 _)))) rfl ?_
      refine r_iload_n rfl ?_
      refine r_aload_n rfl ?_
      refine r_iload_n rfl ?_
      refine r_iconst 1 rfl ?_
      refine r_callV1s (True) (.int 0) ((((en_pre a 231 hp_M).set 231 (.inr (11, [.int 0, .int 0, .ref 232, .ref 233, .ref 234, .ref 235, .int 0, .ref 236, .int 0, .int 0, .int 0, .int 0, .long 0, .int (-1), .int 0, .int 0, .ref 237, .int 0, .ref 238, .ref 239, .int 0, .ref 240, .ref 241, .int 0, .int 0, .ref 242, .ref 243, .int 0, .ref 244, .ref 245, .int 0, .long 0, .long 0, .ref 246, .ref 247, .ref 248, .int 0, .ref 249, .ref 250, .ref 251, .ref 252, .ref 253, .ref 254, .ref 255, .ref 256, .int 0, .int 0, .int 0, .long 0, .ref 257, .ref 258, .int 0]))).set 246 (.inl (0, .inl (List.replicate 12 0)))).set 247 (.inl (0, .inl (List.replicate 12 0))), n) 19 rfl [.ref 231, .int 6, .int 1] [.int 6, .ref 246] (Nat.le_of_ble_eq_true rfl) rfl ?_ (fun _ => ?_)
      · refine Ev.mk rfl rfl ⟨Nat.le_of_ble_eq_true rfl, Or.inr (en_rcI (en_gs_ne (by decide) (en_gs_ne (by decide) (en_gs_eq (hm_231 _)))) rfl)⟩ ?_
        show At _ none _ _ (0, [(0, .ref 231), (1, .int 6), (2, .int 1)], [], ((((en_pre a 231 hp_M).set 231 (.inr (11, [.int 0, .int 0, .ref 232, .ref 233, .ref 234, .ref 235, .int 0, .ref 236, .int 0, .int 0, .int 0, .int 0, .long 0, .int (-1), .int 0, .int 0, .ref 237, .int 0, .ref 238, .ref 239, .int 0, .ref 240, .ref 241, .int 0, .int 0, .ref 242, .ref 243, .int 0, .ref 244, .ref 245, .int 0, .long 0, .long 0, .ref 246, .ref 247, .ref 248, .int 0, .ref 249, .ref 250, .ref 251, .ref 252, .ref 253, .ref 254, .ref 255, .ref 256, .int 0, .int 0, .int 0, .long 0, .ref 257, .ref 258, .int 0]))).set 246 (.inl (0, .inl (List.replicate 12 0)))).set 247 (.inl (0, .inl (List.replicate 12 0))), n)) _
        refine At.enter rfl ?_
        refine r_aload_n rfl ?_
        refine r_get (v := .ref 233) (en_gs_ne (by decide) (en_gs_ne (by decide) (en_gs_eq (hm_231 _)))) rfl ?_
        refine r_bipush 10 rfl ?_
        refine r_iconst 3 rfl ?_
        refine r_iload_n rfl ?_
        refine r_imul 18 (by decide) ?_
        refine r_iadd 28 rfl ?_
        refine r_iload_n rfl ?_
        refine r_iadd 29 rfl ?_
        refine r_iald (v := 0) (en_gs_ne (by decide) (en_gs_ne (by decide) (en_gs_ne (by decide) (hm_233 _)))) (by decide) (en_gr2 7 rfl (by decide +kernel) (by decide +kernel)) ?_
        refine r_ireti ?_
        exact ⟨trivial, rfl, rfl⟩
      refine At.enter rfl ?_
      refine r_iast (en_gs_ne (by decide) (en_gs_eq (en_gs_ne (by decide) (hm_246 _)))) (by decide) (Nat.le_of_ble_eq_true rfl) (List.replicate 12 0) (by decide +kernel) ?_
      refine Ar.hp (en_sdS (by decide) en_sd0) ?_
      refine r_aload_n rfl ?_
      refine r_get (v := .ref 247) (en_gs_ne (by decide) (en_gs_ne (by decide) (en_gs_eq (hm_231 _)))) rfl ?_
      refine r_iload_n rfl ?_
      refine r_aload_n rfl ?_
      refine r_iload_n rfl ?_
      refine r_iconst 2 rfl ?_
      refine r_callV1s (True) (.int 0) ((((en_pre a 231 hp_M).set 231 (.inr (11, [.int 0, .int 0, .ref 232, .ref 233, .ref 234, .ref 235, .int 0, .ref 236, .int 0, .int 0, .int 0, .int 0, .long 0, .int (-1), .int 0, .int 0, .ref 237, .int 0, .ref 238, .ref 239, .int 0, .ref 240, .ref 241, .int 0, .int 0, .ref 242, .ref 243, .int 0, .ref 244, .ref 245, .int 0, .long 0, .long 0, .ref 246, .ref 247, .ref 248, .int 0, .ref 249, .ref 250, .ref 251, .ref 252, .ref 253, .ref 254, .ref 255, .ref 256, .int 0, .int 0, .int 0, .long 0, .ref 257, .ref 258, .int 0]))).set 246 (.inl (0, .inl (List.replicate 12 0)))).set 247 (.inl (0, .inl (List.replicate 12 0))), n) 31 rfl [.ref 231, .int 6, .int 2] [.int 6, .ref 247] (Nat.le_of_ble_eq_true rfl) rfl ?_ (fun _ => ?_)
      · refine Ev.mk rfl rfl ⟨Nat.le_of_ble_eq_true rfl, Or.inr (en_rcI (en_gs_ne (by decide) (en_gs_ne (by decide) (en_gs_eq (hm_231 _)))) rfl)⟩ ?_
        show At _ none _ _ (0, [(0, .ref 231), (1, .int 6), (2, .int 2)], [], ((((en_pre a 231 hp_M).set 231 (.inr (11, [.int 0, .int 0, .ref 232, .ref 233, .ref 234, .ref 235, .int 0, .ref 236, .int 0, .int 0, .int 0, .int 0, .long 0, .int (-1), .int 0, .int 0, .ref 237, .int 0, .ref 238, .ref 239, .int 0, .ref 240, .ref 241, .int 0, .int 0, .ref 242, .ref 243, .int 0, .ref 244, .ref 245, .int 0, .long 0, .long 0, .ref 246, .ref 247, .ref 248, .int 0, .ref 249, .ref 250, .ref 251, .ref 252, .ref 253, .ref 254, .ref 255, .ref 256, .int 0, .int 0, .int 0, .long 0, .ref 257, .ref 258, .int 0]))).set 246 (.inl (0, .inl (List.replicate 12 0)))).set 247 (.inl (0, .inl (List.replicate 12 0))), n)) _
        refine At.enter rfl ?_
        refine r_aload_n rfl ?_
        refine r_get (v := .ref 233) (en_gs_ne (by decide) (en_gs_ne (by decide) (en_gs_eq (hm_231 _)))) rfl ?_
        refine r_bipush 10 rfl ?_
        refine r_iconst 3 rfl ?_
        refine r_iload_n rfl ?_
        refine r_imul 18 (by decide) ?_
        refine r_iadd 28 rfl ?_
        refine r_iload_n rfl ?_
        refine r_iadd 30 rfl ?_
        refine r_iald (v := 0) (en_gs_ne (by decide) (en_gs_ne (by decide) (en_gs_ne (by decide) (hm_233 _)))) (by decide) (en_gr2 7 rfl (by decide +kernel) (by decide +kernel)) ?_
        refine r_ireti ?_
        exact ⟨trivial, rfl, rfl⟩
      refine At.enter rfl ?_
      refine r_iast (en_gs_eq (en_gs_ne (by decide) (en_gs_ne (by decide) (hm_247 _)))) (by decide) (Nat.le_of_ble_eq_true rfl) (List.replicate 12 0) (by decide +kernel) ?_
      refine Ar.hp en_sd0 ?_
      refine r_iinc rfl 7 rfl ([(1, .int 7), (0, .ref 231)]) rfl ?_
      refine r_goto ?_
      refine At.enter rfl ?_
      refine r_iload_n rfl ?_
      refine r_bipush 12 rfl ?_
      refine r_icf 8 rfl (by decide) ?_
      refine At.enter rfl ?_
      refine r_aload_n rfl ?_
      refine r_get (v := .ref 246) (en_gs_ne (by decide) (en_gs_ne (by decide) (en_gs_eq (hm_231 _)))) rfl ?_
      refine r_iload_n rfl ?_
      refine r_aload_n rfl ?_
      refine r_iload_n rfl ?_
      refine r_iconst 1 rfl ?_
      refine r_callV1s (True) (.int 0) ((((en_pre a 231 hp_M).set 231 (.inr (11, [.int 0, .int 0, .ref 232, .ref 233, .ref 234, .ref 235, .int 0, .ref 236, .int 0, .int 0, .int 0, .int 0, .long 0, .int (-1), .int 0, .int 0, .ref 237, .int 0, .ref 238, .ref 239, .int 0, .ref 240, .ref 241, .int 0, .int 0, .ref 242, .ref 243, .int 0, .ref 244, .ref 245, .int 0, .long 0, .long 0, .ref 246, .ref 247, .ref 248, .int 0, .ref 249, .ref 250, .ref 251, .ref 252, .ref 253, .ref 254, .ref 255, .ref 256, .int 0, .int 0, .int 0, .long 0, .ref 257, .ref 258, .int 0]))).set 246 (.inl (0, .inl (List.replicate 12 0)))).set 247 (.inl (0, .inl (List.replicate 12 0))), n) 19 rfl [.ref 231, .int 7, .int 1] [.int 7, .ref 246] (Nat.le_of_ble_eq_true rfl) rfl ?_ (fun _ => ?_)
      · refine Ev.mk rfl rfl ⟨Nat.le_of_ble_eq_true rfl, Or.inr (en_rcI (en_gs_ne (by decide) (en_gs_ne (by decide) (en_gs_eq (hm_231 _)))) rfl)⟩ ?_
        show At _ none _ _ (0, [(0, .ref 231), (1, .int 7), (2, .int 1)], [], ((((en_pre a 231 hp_M).set 231 (.inr (11, [.int 0, .int 0, .ref 232, .ref 233, .ref 234, .ref 235, .int 0, .ref 236, .int 0, .int 0, .int 0, .int 0, .long 0, .int (-1), .int 0, .int 0, .ref 237, .int 0, .ref 238, .ref 239, .int 0, .ref 240, .ref 241, .int 0, .int 0, .ref 242, .ref 243, .int 0, .ref 244, .ref 245, .int 0, .long 0, .long 0, .ref 246, .ref 247, .ref 248, .int 0, .ref 249, .ref 250, .ref 251, .ref 252, .ref 253, .ref 254, .ref 255, .ref 256, .int 0, .int 0, .int 0, .long 0, .ref 257, .ref 258, .int 0]))).set 246 (.inl (0, .inl (List.replicate 12 0)))).set 247 (.inl (0, .inl (List.replicate 12 0))), n)) _
        refine At.enter rfl ?_
        refine r_aload_n rfl ?_
        refine r_get (v := .ref 233) (en_gs_ne (by decide) (en_gs_ne (by decide) (en_gs_eq (hm_231 _)))) rfl ?_
        refine r_bipush 10 rfl ?_
        refine r_iconst 3 rfl ?_
        refine r_iload_n rfl ?_
        refine r_imul 21 (by decide) ?_
        refine r_iadd 31 rfl ?_
        refine r_iload_n rfl ?_
        refine r_iadd 32 rfl ?_
        refine r_iald (v := 0) (en_gs_ne (by decide) (en_gs_ne (by decide) (en_gs_ne (by decide) (hm_233 _)))) (by decide) (en_gr2 7 rfl (by decide +kernel) (by decide +kernel)) ?_
        refine r_ireti ?_
        exact ⟨trivial, rfl, rfl⟩
      refine At.enter rfl ?_
      refine r_iast (en_gs_ne (by decide) (en_gs_eq (en_gs_ne (by decide) (hm_246 _)))) (by decide) (Nat.le_of_ble_eq_true rfl) (List.replicate 12 0) (by decide +kernel) ?_
      refine Ar.hp (en_sdS (by decide) en_sd0) ?_
      refine r_aload_n rfl ?_
      refine r_get (v := .ref 247) (en_gs_ne (by decide) (en_gs_ne (by decide) (en_gs_eq (hm_231 _)))) rfl ?_
      refine r_iload_n rfl ?_
      refine r_aload_n rfl ?_
      refine r_iload_n rfl ?_
      refine r_iconst 2 rfl ?_
      refine r_callV1s (True) (.int 0) ((((en_pre a 231 hp_M).set 231 (.inr (11, [.int 0, .int 0, .ref 232, .ref 233, .ref 234, .ref 235, .int 0, .ref 236, .int 0, .int 0, .int 0, .int 0, .long 0, .int (-1), .int 0, .int 0, .ref 237, .int 0, .ref 238, .ref 239, .int 0, .ref 240, .ref 241, .int 0, .int 0, .ref 242, .ref 243, .int 0, .ref 244, .ref 245, .int 0, .long 0, .long 0, .ref 246, .ref 247, .ref 248, .int 0, .ref 249, .ref 250, .ref 251, .ref 252, .ref 253, .ref 254, .ref 255, .ref 256, .int 0, .int 0, .int 0, .long 0, .ref 257, .ref 258, .int 0]))).set 246 (.inl (0, .inl (List.replicate 12 0)))).set 247 (.inl (0, .inl (List.replicate 12 0))), n) 31 rfl [.ref 231, .int 7, .int 2] [.int 7, .ref 247] (Nat.le_of_ble_eq_true rfl) rfl ?_ (fun _ => ?_)
      · refine Ev.mk rfl rfl ⟨Nat.le_of_ble_eq_true rfl, Or.inr (en_rcI (en_gs_ne (by decide) (en_gs_ne (by decide) (en_gs_eq (hm_231 _)))) rfl)⟩ ?_
        show At _ none _ _ (0, [(0, .ref 231), (1, .int 7), (2, .int 2)], [], ((((en_pre a 231 hp_M).set 231 (.inr (11, [.int 0, .int 0, .ref 232, .ref 233, .ref 234, .ref 235, .int 0, .ref 236, .int 0, .int 0, .int 0, .int 0, .long 0, .int (-1), .int 0, .int 0, .ref 237, .int 0, .ref 238, .ref 239, .int 0, .ref 240, .ref 241, .int 0, .int 0, .ref 242, .ref 243, .int 0, .ref 244, .ref 245, .int 0, .long 0, .long 0, .ref 246, .ref 247, .ref 248, .int 0, .ref 249, .ref 250, .ref 251, .ref 252, .ref 253, .ref 254, .ref 255, .ref 256, .int 0, .int 0, .int 0, .long 0, .ref 257, .ref 258, .int 0]))).set 246 (.inl (0, .inl (List.replicate 12 0)))).set 247 (.inl (0, .inl (List.replicate 12 0))), n)) _
        refine At.enter rfl ?_
        refine r_aload_n rfl ?_
        refine r_get (v := .ref 233) (en_gs_ne (by decide) (en_gs_ne (by decide) (en_gs_eq (hm_231 _)))) rfl ?_
        refine r_bipush 10 rfl ?_
        refine r_iconst 3 rfl ?_
        refine r_iload_n rfl ?_
        refine r_imul 21 (by decide) ?_
        refine r_iadd 31 rfl ?_
        refine r_iload_n rfl ?_
        refine r_iadd 33 rfl ?_
        refine r_iald (v := 0) (en_gs_ne (by decide) (en_gs_ne (by decide) (en_gs_ne (by decide) (hm_233 _)))) (by decide) (en_gr2 7 rfl (by decide +kernel) (by decide +kernel)) ?_
        refine r_ireti ?_
        exact ⟨trivial, rfl, rfl⟩
      refine At.enter rfl ?_
      refine r_iast (en_gs_eq (en_gs_ne (by decide) (en_gs_ne (by decide) (hm_247 _)))) (by decide) (Nat.le_of_ble_eq_true rfl) (List.replicate 12 0) (by decide +kernel) ?_
      refine Ar.hp en_sd0 ?_
      refine r_iinc rfl 8 rfl ([(1, .int 8), (0, .ref 231)]) rfl ?_
      refine r_goto ?_
      refine At.enter rfl ?_
      refine r_iload_n rfl ?_
      refine r_bipush 12 rfl ?_
      refine r_icf 8 rfl (by decide) ?_
      refine At.enter rfl ?_
      refine r_aload_n rfl ?_
      refine r_get (v := .ref 246) (en_gs_ne (by decide) (en_gs_ne (by decide) (en_gs_eq (hm_231 _)))) rfl ?_
      refine r_iload_n rfl ?_
      refine r_aload_n rfl ?_
      refine r_iload_n rfl ?_
      refine r_iconst 1 rfl ?_
      refine r_callV1s (True) (.int 0) ((((en_pre a 231 hp_M).set 231 (.inr (11, [.int 0, .int 0, .ref 232, .ref 233, .ref 234, .ref 235, .int 0, .ref 236, .int 0, .int 0, .int 0, .int 0, .long 0, .int (-1), .int 0, .int 0, .ref 237, .int 0, .ref 238, .ref 239, .int 0, .ref 240, .ref 241, .int 0, .int 0, .ref 242, .ref 243, .int 0, .ref 244, .ref 245, .int 0, .long 0, .long 0, .ref 246, .ref 247, .ref 248, .int 0, .ref 249, .ref 250, .ref 251, .ref 252, .ref 253, .ref 254, .ref 255, .ref 256, .int 0, .int 0, .int 0, .long 0, .ref 257, .ref 258, .int 0]))).set 246 (.inl (0, .inl (List.replicate 12 0)))).set 247 (.inl (0, .inl (List.replicate 12 0))), n) 19 rfl [.ref 231, .int 8, .int 1] [.int 8, .ref 246] (Nat.le_of_ble_eq_true rfl) rfl ?_ (fun _ => ?_)
      · refine Ev.mk rfl rfl ⟨Nat.le_of_ble_eq_true rfl, Or.inr (en_rcI (en_gs_ne (by decide) (en_gs_ne (by decide) (en_gs_eq (hm_231 _)))) rfl)⟩ ?_
        show At _ none _ _ (0, [(0, .ref 231), (1, .int 8), (2, .int 1)], [], ((((en_pre a 231 hp_M).set 231 (.inr (11, [.int 0, .int 0, .ref 232, .ref 233, .ref 234, .ref 235, .int 0, .ref 236, .int 0, .int 0, .int 0, .int 0, .long 0, .int (-1), .int 0, .int 0, .ref 237, .int 0, .ref 238, .ref 239, .int 0, .ref 240, .ref 241, .int 0, .int 0, .ref 242, .ref 243, .int 0, .ref 244, .ref 245, .int 0, .long 0, .long 0, .ref 246, .ref 247, .ref 248, .int 0, .ref 249, .ref 250, .ref 251, .ref 252, .ref 253, .ref 254, .ref 255, .ref 256, .int 0, .int 0, .int 0, .long 0, .ref 257, .ref 258, .int 0]))).set 246 (.inl (0, .inl (List.replicate 12 0)))).set 247 (.inl (0, .inl (List.replicate 12 0))), n)) _
        refine At.enter rfl ?_
        refine r_aload_n rfl ?_
        refine r_get (v := .ref 233) (en_gs_ne (by decide) (en_gs_ne (by decide) (en_gs_eq (hm_231 _)))) rfl ?_
        refine r_bipush 10 rfl ?_
        refine r_iconst 3 rfl ?_
        refine r_iload_n rfl ?_
        refine r_imul 24 (by decide) ?_
        refine r_iadd 34 rfl ?_
        refine r_iload_n rfl ?_
        refine r_iadd 35 rfl ?_
        refine r_iald (v := 0) (en_gs_ne (by decide) (en_gs_ne (by decide) (en_gs_ne (by decide) (hm_233 _)))) (by decide) (en_gr2 7 rfl (by decide +kernel) (by decide +kernel)) ?_
        refine r_ireti ?_
        exact ⟨trivial, rfl, rfl⟩
      refine At.enter rfl ?_
      refine r_iast (en_gs_ne (by decide) (en_gs_eq (en_gs_ne (by decide) (hm_246 _)))) (by decide) (Nat.le_of_ble_eq_true rfl) (List.replicate 12 0) (by decide +kernel) ?_
      refine Ar.hp (en_sdS (by decide) en_sd0) ?_
      refine r_aload_n rfl ?_
      refine r_get (v := .ref 247) (en_gs_ne (by decide) (en_gs_ne (by decide) (en_gs_eq (hm_231 _)))) rfl ?_
      refine r_iload_n rfl ?_
      refine r_aload_n rfl ?_
      refine r_iload_n rfl ?_
      refine r_iconst 2 rfl ?_
      refine r_callV1s (True) (.int 0) ((((en_pre a 231 hp_M).set 231 (.inr (11, [.int 0, .int 0, .ref 232, .ref 233, .ref 234, .ref 235, .int 0, .ref 236, .int 0, .int 0, .int 0, .int 0, .long 0, .int (-1), .int 0, .int 0, .ref 237, .int 0, .ref 238, .ref 239, .int 0, .ref 240, .ref 241, .int 0, .int 0, .ref 242, .ref 243, .int 0, .ref 244, .ref 245, .int 0, .long 0, .long 0, .ref 246, .ref 247, .ref 248, .int 0, .ref 249, .ref 250, .ref 251, .ref 252, .ref 253, .ref 254, .ref 255, .ref 256, .int 0, .int 0, .int 0, .long 0, .ref 257, .ref 258, .int 0]))).set 246 (.inl (0, .inl (List.replicate 12 0)))).set 247 (.inl (0, .inl (List.replicate 12 0))), n) 31 rfl [.ref 231, .int 8, .int 2] [.int 8, .ref 247] (Nat.le_of_ble_eq_true rfl) rfl ?_ (fun _ => ?_)
      · refine Ev.mk rfl rfl ⟨Nat.le_of_ble_eq_true rfl, Or.inr (en_rcI (en_gs_ne (by decide) (en_gs_ne (by decide) (en_gs_eq (hm_231 _)))) rfl)⟩ ?_
        show At _ none _ _ (0, [(0, .ref 231), (1, .int 8), (2, .int 2)], [], ((((en_pre a 231 hp_M).set 231 (.inr (11, [.int 0, .int 0, .ref 232, .ref 233, .ref 234, .ref 235, .int 0, .ref 236, .int 0, .int 0, .int 0, .int 0, .long 0, .int (-1), .int 0, .int 0, .ref 237, .int 0, .ref 238, .ref 239, .int 0, .ref 240, .ref 241, .int 0, .int 0, .ref 242, .ref 243, .int 0, .ref 244, .ref 245, .int 0, .long 0, .long 0, .ref 246, .ref 247, .ref 248, .int 0, .ref 249, .ref 250, .ref 251, .ref 252, .ref 253, .ref 254, .ref 255, .ref 256, .int 0, .int 0, .int 0, .long 0, .ref 257, .ref 258, .int 0]))).set 246 (.inl (0, .inl (List.replicate 12 0)))).set 247 (.inl (0, .inl (List.replicate 12 0))), n)) _
        refine At.enter rfl ?_
        refine r_aload_n rfl ?_
        refine r_get (v := .ref 233) (en_gs_ne (by decide) (en_gs_ne (by decide) (en_gs_eq (hm_231 _)))) rfl ?_
        refine r_bipush 10 rfl ?_
        refine r_iconst 3 rfl ?_
        refine r_iload_n rfl ?_
        refine r_imul 24 (by decide) ?_
        refine r_iadd 34 rfl ?_
        refine r_iload_n rfl ?_
        refine r_iadd 36 rfl ?_
        refine r_iald (v := 0) (en_gs_ne (by decide) (en_gs_ne (by decide) (en_gs_ne (by decide) (hm_233 _)))) (by decide) (en_gr2 7 rfl (by decide +kernel) (by decide +kernel)) ?_
        refine r_ireti ?_
        exact ⟨trivial, rfl, rfl⟩
      refine At.enter rfl ?_
      refine r_iast (en_gs_eq (en_gs_ne (by decide) (en_gs_ne (by decide) (hm_247 _)))) (by decide) (Nat.le_of_ble_eq_true rfl) (List.replicate 12 0) (by decide +kernel) ?_
      refine Ar.hp en_sd0 ?_
      refine r_iinc rfl 9 rfl ([(1, .int 9), (0, .ref 231)]) rfl ?_
      refine r_goto ?_
      refine At.enter rfl ?_
      refine r_iload_n rfl ?_
      refine r_bipush 12 rfl ?_
      refine r_icf 8 rfl (by decide) ?_
      refine At.enter rfl ?_
      refine r_aload_n rfl ?_
      refine r_get (v := .ref 246) (en_gs_ne (by decide) (en_gs_ne (by decide) (en_gs_eq (hm_231 _)))) rfl ?_
      refine r_iload_n rfl ?_
      refine r_aload_n rfl ?_
      refine r_iload_n rfl ?_
      refine r_iconst 1 rfl ?_
      refine r_callV1s (True) (.int 0) ((((en_pre a 231 hp_M).set 231 (.inr (11, [.int 0, .int 0, .ref 232, .ref 233, .ref 234, .ref 235, .int 0, .ref 236, .int 0, .int 0, .int 0, .int 0, .long 0, .int (-1), .int 0, .int 0, .ref 237, .int 0, .ref 238, .ref 239, .int 0, .ref 240, .ref 241, .int 0, .int 0, .ref 242, .ref 243, .int 0, .ref 244, .ref 245, .int 0, .long 0, .long 0, .ref 246, .ref 247, .ref 248, .int 0, .ref 249, .ref 250, .ref 251, .ref 252, .ref 253, .ref 254, .ref 255, .ref 256, .int 0, .int 0, .int 0, .long 0, .ref 257, .ref 258, .int 0]))).set 246 (.inl (0, .inl (List.replicate 12 0)))).set 247 (.inl (0, .inl (List.replicate 12 0))), n) 19 rfl [.ref 231, .int 9, .int 1] [.int 9, .ref 246] (Nat.le_of_ble_eq_true rfl) rfl ?_ (fun _ => ?_)
      · refine Ev.mk rfl rfl ⟨Nat.le_of_ble_eq_true rfl, Or.inr (en_rcI (en_gs_ne (by decide) (en_gs_ne (by decide) (en_gs_eq (hm_231 _)))) rfl)⟩ ?_
        show At _ none _ _ (0, [(0, .ref 231), (1, .int 9), (2, .int 1)], [], ((((en_pre a 231 hp_M).set 231 (.inr (11, [.int 0, .int 0, .ref 232, .ref 233, .ref 234, .ref 235, .int 0, .ref 236, .int 0, .int 0, .int 0, .int 0, .long 0, .int (-1), .int 0, .int 0, .ref 237, .int 0, .ref 238, .ref 239, .int 0, .ref 240, .ref 241, .int 0, .int 0, .ref 242, .ref 243, .int 0, .ref 244, .ref 245, .int 0, .long 0, .long 0, .ref 246, .ref 247, .ref 248, .int 0, .ref 249, .ref 250, .ref 251, .ref 252, .ref 253, .ref 254, .ref 255, .ref 256, .int 0, .int 0, .int 0, .long 0, .ref 257, .ref 258, .int 0]))).set 246 (.inl (0, .inl (List.replicate 12 0)))).set 247 (.inl (0, .inl (List.replicate 12 0))), n)) _
        refine At.enter rfl ?_
        refine r_aload_n rfl ?_
        refine r_get (v := .ref 233) (en_gs_ne (by decide) (en_gs_ne (by decide) (en_gs_eq (hm_231 _)))) rfl ?_
        refine r_bipush 10 rfl ?_
        refine r_iconst 3 rfl ?_
        refine r_iload_n rfl ?_
        refine r_imul 27 (by decide) ?_
        refine r_iadd 37 rfl ?_
        refine r_iload_n rfl ?_
        refine r_iadd 38 rfl ?_
        refine r_iald (v := 0) (en_gs_ne (by decide) (en_gs_ne (by decide) (en_gs_ne (by decide) (hm_233 _)))) (by decide) (en_gr2 7 rfl (by decide +kernel) (by decide +kernel)) ?_
        refine r_ireti ?_
        exact ⟨trivial, rfl, rfl⟩
      refine At.enter rfl ?_
      refine r_iast (en_gs_ne (by decide) (en_gs_eq (en_gs_ne (by decide) (hm_246 _)))) (by decide) (Nat.le_of_ble_eq_true rfl) (List.replicate 12 0) (by decide +kernel) ?_
      refine Ar.hp (en_sdS (by decide) en_sd0) ?_
      refine r_aload_n rfl ?_
      refine r_get (v := .ref 247) (en_gs_ne (by decide) (en_gs_ne (by decide) (en_gs_eq (hm_231 _)))) rfl ?_
      refine r_iload_n rfl ?_
      refine r_aload_n rfl ?_
      refine r_iload_n rfl ?_
      refine r_iconst 2 rfl ?_
      refine r_callV1s (True) (.int 0) ((((en_pre a 231 hp_M).set 231 (.inr (11, [.int 0, .int 0, .ref 232, .ref 233, .ref 234, .ref 235, .int 0, .ref 236, .int 0, .int 0, .int 0, .int 0, .long 0, .int (-1), .int 0, .int 0, .ref 237, .int 0, .ref 238, .ref 239, .int 0, .ref 240, .ref 241, .int 0, .int 0, .ref 242, .ref 243, .int 0, .ref 244, .ref 245, .int 0, .long 0, .long 0, .ref 246, .ref 247, .ref 248, .int 0, .ref 249, .ref 250, .ref 251, .ref 252, .ref 253, .ref 254, .ref 255, .ref 256, .int 0, .int 0, .int 0, .long 0, .ref 257, .ref 258, .int 0]))).set 246 (.inl (0, .inl (List.replicate 12 0)))).set 247 (.inl (0, .inl (List.replicate 12 0))), n) 31 rfl [.ref 231, .int 9, .int 2] [.int 9, .ref 247] (Nat.le_of_ble_eq_true rfl) rfl ?_ (fun _ => ?_)
      · refine Ev.mk rfl rfl ⟨Nat.le_of_ble_eq_true rfl, Or.inr (en_rcI (en_gs_ne (by decide) (en_gs_ne (by decide) (en_gs_eq (hm_231 _)))) rfl)⟩ ?_
        show At _ none _ _ (0, [(0, .ref 231), (1, .int 9), (2, .int 2)], [], ((((en_pre a 231 hp_M).set 231 (.inr (11, [.int 0, .int 0, .ref 232, .ref 233, .ref 234, .ref 235, .int 0, .ref 236, .int 0, .int 0, .int 0, .int 0, .long 0, .int (-1), .int 0, .int 0, .ref 237, .int 0, .ref 238, .ref 239, .int 0, .ref 240, .ref 241, .int 0, .int 0, .ref 242, .ref 243, .int 0, .ref 244, .ref 245, .int 0, .long 0, .long 0, .ref 246, .ref 247, .ref 248, .int 0, .ref 249, .ref 250, .ref 251, .ref 252, .ref 253, .ref 254, .ref 255, .ref 256, .int 0, .int 0, .int 0, .long 0, .ref 257, .ref 258, .int 0]))).set 246 (.inl (0, .inl (List.replicate 12 0)))).set 247 (.inl (0, .inl (List.replicate 12 0))), n)) _
        refine At.enter rfl ?_
        refine r_aload_n rfl ?_
        refine r_get (v := .ref 233) (en_gs_ne (by decide) (en_gs_ne (by decide) (en_gs_eq (hm_231 _)))) rfl ?_
        refine r_bipush 10 rfl ?_
        refine r_iconst 3 rfl ?_
        refine r_iload_n rfl ?_
        refine r_imul 27 (by decide) ?_
        refine r_iadd 37 rfl ?_
        refine r_iload_n rfl ?_
        refine r_iadd 39 rfl ?_
        refine r_iald (v := 0) (en_gs_ne (by decide) (en_gs_ne (by decide) (en_gs_ne (by decide) (hm_233 _)))) (by decide) (en_gr2 7 rfl (by decide +kernel) (by decide +kernel)) ?_
        refine r_ireti ?_
        exact ⟨trivial, rfl, rfl⟩
      refine At.enter rfl ?_
      refine r_iast (en_gs_eq (en_gs_ne (by decide) (en_gs_ne (by decide) (hm_247 _)))) (by decide) (Nat.le_of_ble_eq_true rfl) (List.replicate 12 0) (by decide +kernel) ?_
      refine Ar.hp en_sd0 ?_
      refine r_iinc rfl 10 rfl ([(1, .int 10), (0, .ref 231)]) rfl ?_
      refine r_goto ?_
      refine At.enter rfl ?_
      refine r_iload_n rfl ?_
      refine r_bipush 12 rfl ?_
      refine r_icf 8 rfl (by decide) ?_
      refine At.enter rfl ?_
      refine r_aload_n rfl ?_
      refine r_get (v := .ref 246) (en_gs_ne (by decide) (en_gs_ne (by decide) (en_gs_eq (hm_231 _)))) rfl ?_
      refine r_iload_n rfl ?_
      refine r_aload_n rfl ?_
      refine r_iload_n rfl ?_
      refine r_iconst 1 rfl ?_
      refine r_callV1s (True) (.int 0) ((((en_pre a 231 hp_M).set 231 (.inr (11, [.int 0, .int 0, .ref 232, .ref 233, .ref 234, .ref 235, .int 0, .ref 236, .int 0, .int 0, .int 0, .int 0, .long 0, .int (-1), .int 0, .int 0, .ref 237, .int 0, .ref 238, .ref 239, .int 0, .ref 240, .ref 241, .int 0, .int 0, .ref 242, .ref 243, .int 0, .ref 244, .ref 245, .int 0, .long 0, .long 0, .ref 246, .ref 247, .ref 248, .int 0, .ref 249, .ref 250, .ref 251, .ref 252, .ref 253, .ref 254, .ref 255, .ref 256, .int 0, .int 0, .int 0, .long 0, .ref 257, .ref 258, .int 0]))).set 246 (.inl (0, .inl (List.replicate 12 0)))).set 247 (.inl (0, .inl (List.replicate 12 0))), n) 19 rfl [.ref 231, .int 10, .int 1] [.int 10, .ref 246] (Nat.le_of_ble_eq_true rfl) rfl ?_ (fun _ => ?_)
      · refine Ev.mk rfl rfl ⟨Nat.le_of_ble_eq_true rfl, Or.inr (en_rcI (en_gs_ne (by decide) (en_gs_ne (by decide) (en_gs_eq (hm_231 _)))) rfl)⟩ ?_
        show At _ none _ _ (0, [(0, .ref 231), (1, .int 10), (2, .int 1)], [], ((((en_pre a 231 hp_M).set 231 (.inr (11, [.int 0, .int 0, .ref 232, .ref 233, .ref 234, .ref 235, .int 0, .ref 236, .int 0, .int 0, .int 0, .int 0, .long 0, .int (-1), .int 0, .int 0, .ref 237, .int 0, .ref 238, .ref 239, .int 0, .ref 240, .ref 241, .int 0, .int 0, .ref 242, .ref 243, .int 0, .ref 244, .ref 245, .int 0, .long 0, .long 0, .ref 246, .ref 247, .ref 248, .int 0, .ref 249, .ref 250, .ref 251, .ref 252, .ref 253, .ref 254, .ref 255, .ref 256, .int 0, .int 0, .int 0, .long 0, .ref 257, .ref 258, .int 0]))).set 246 (.inl (0, .inl (List.replicate 12 0)))).set 247 (.inl (0, .inl (List.replicate 12 0))), n)) _
        refine At.enter rfl ?_
        refine r_aload_n rfl ?_
        refine r_get (v := .ref 233) (en_gs_ne (by decide) (en_gs_ne (by decide) (en_gs_eq (hm_231 _)))) rfl ?_
        refine r_bipush 10 rfl ?_
        refine r_iconst 3 rfl ?_
        refine r_iload_n rfl ?_
        refine r_imul 30 (by decide) ?_
        refine r_iadd 40 rfl ?_
        refine r_iload_n rfl ?_
        refine r_iadd 41 rfl ?_
        refine r_iald (v := 0) (en_gs_ne (by decide) (en_gs_ne (by decide) (en_gs_ne (by decide) (hm_233 _)))) (by decide) (en_gr2 7 rfl (by decide +kernel) (by decide +kernel)) ?_
        refine r_ireti ?_
        exact ⟨trivial, rfl, rfl⟩
      refine At.enter rfl ?_
      refine r_iast (en_gs_ne (by decide) (en_gs_eq (en_gs_ne (by decide) (hm_246 _)))) (by decide) (Nat.le_of_ble_eq_true rfl) (List.replicate 12 0) (by decide +kernel) ?_
      refine Ar.hp (en_sdS (by decide) en_sd0) ?_
      refine r_aload_n rfl ?_
      refine r_get (v := .ref 247) (en_gs_ne (by decide) (en_gs_ne (by decide) (en_gs_eq (hm_231 _)))) rfl ?_
      refine r_iload_n rfl ?_
      refine r_aload_n rfl ?_
      refine r_iload_n rfl ?_
      refine r_iconst 2 rfl ?_
      refine r_callV1s (True) (.int 0) ((((en_pre a 231 hp_M).set 231 (.inr (11, [.int 0, .int 0, .ref 232, .ref 233, .ref 234, .ref 235, .int 0, .ref 236, .int 0, .int 0, .int 0, .int 0, .long 0, .int (-1), .int 0, .int 0, .ref 237, .int 0, .ref 238, .ref 239, .int 0, .ref 240, .ref 241, .int 0, .int 0, .ref 242, .ref 243, .int 0, .ref 244, .ref 245, .int 0, .long 0, .long 0, .ref 246, .ref 247, .ref 248, .int 0, .ref 249, .ref 250, .ref 251, .ref 252, .ref 253, .ref 254, .ref 255, .ref 256, .int 0, .int 0, .int 0, .long 0, .ref 257, .ref 258, .int 0]))).set 246 (.inl (0, .inl (List.replicate 12 0)))).set 247 (.inl (0, .inl (List.replicate 12 0))), n) 31 rfl [.ref 231, .int 10, .int 2] [.int 10, .ref 247] (Nat.le_of_ble_eq_true rfl) rfl ?_ (fun _ => ?_)
      · refine Ev.mk rfl rfl ⟨Nat.le_of_ble_eq_true rfl, Or.inr (en_rcI (en_gs_ne (by decide) (en_gs_ne (by decide) (en_gs_eq (hm_231 _)))) rfl)⟩ ?_
        show At _ none _ _ (0, [(0, .ref 231), (1, .int 10), (2, .int 2)], [], ((((en_pre a 231 hp_M).set 231 (.inr (11, [.int 0, .int 0, .ref 232, .ref 233, .ref 234, .ref 235, .int 0, .ref 236, .int 0, .int 0, .int 0, .int 0, .long 0, .int (-1), .int 0, .int 0, .ref 237, .int 0, .ref 238, .ref 239, .int 0, .ref 240, .ref 241, .int 0, .int 0, .ref 242, .ref 243, .int 0, .ref 244, .ref 245, .int 0, .long 0, .long 0, .ref 246, .ref 247, .ref 248, .int 0, .ref 249, .ref 250, .ref 251, .ref 252, .ref 253, .ref 254, .ref 255, .ref 256, .int 0, .int 0, .int 0, .long 0, .ref 257, .ref 258, .int 0]))).set 246 (.inl (0, .inl (List.replicate 12 0)))).set 247 (.inl (0, .inl (List.replicate 12 0))), n)) _
        refine At.enter rfl ?_
        refine r_aload_n rfl ?_
        refine r_get (v := .ref 233) (en_gs_ne (by decide) (en_gs_ne (by decide) (en_gs_eq (hm_231 _)))) rfl ?_
        refine r_bipush 10 rfl ?_
        refine r_iconst 3 rfl ?_
        refine r_iload_n rfl ?_
        refine r_imul 30 (by decide) ?_
        refine r_iadd 40 rfl ?_
        refine r_iload_n rfl ?_
        refine r_iadd 42 rfl ?_
        refine r_iald (v := 0) (en_gs_ne (by decide) (en_gs_ne (by decide) (en_gs_ne (by decide) (hm_233 _)))) (by decide) (en_gr2 7 rfl (by decide +kernel) (by decide +kernel)) ?_
        refine r_ireti ?_
        exact ⟨trivial, rfl, rfl⟩
      refine At.enter rfl ?_
      refine r_iast (en_gs_eq (en_gs_ne (by decide) (en_gs_ne (by decide) (hm_247 _)))) (by decide) (Nat.le_of_ble_eq_true rfl) (List.replicate 12 0) (by decide +kernel) ?_
      refine Ar.hp en_sd0 ?_
      refine r_iinc rfl 11 rfl ([(1, .int 11), (0, .ref 231)]) rfl ?_
      refine r_goto ?_
      refine At.enter rfl ?_
      refine r_iload_n rfl ?_
      refine r_bipush 12 rfl ?_
      refine r_icf 8 rfl (by decide) ?_
      refine At.enter rfl ?_
      refine r_aload_n rfl ?_
      refine r_get (v := .ref 246) (en_gs_ne (by decide) (en_gs_ne (by decide) (en_gs_eq (hm_231 _)))) rfl ?_
      refine r_iload_n rfl ?_
      refine r_aload_n rfl ?_
      refine r_iload_n rfl ?_
      refine r_iconst 1 rfl ?_
      refine r_callV1s (True) (.int 0) ((((en_pre a 231 hp_M).set 231 (.inr (11, [.int 0, .int 0, .ref 232, .ref 233, .ref 234, .ref 235, .int 0, .ref 236, .int 0, .int 0, .int 0, .int 0, .long 0, .int (-1), .int 0, .int 0, .ref 237, .int 0, .ref 238, .ref 239, .int 0, .ref 240, .ref 241, .int 0, .int 0, .ref 242, .ref 243, .int 0, .ref 244, .ref 245, .int 0, .long 0, .long 0, .ref 246, .ref 247, .ref 248, .int 0, .ref 249, .ref 250, .ref 251, .ref 252, .ref 253, .ref 254, .ref 255, .ref 256, .int 0, .int 0, .int 0, .long 0, .ref 257, .ref 258, .int 0]))).set 246 (.inl (0, .inl (List.replicate 12 0)))).set 247 (.inl (0, .inl (List.replicate 12 0))), n) 19 rfl [.ref 231, .int 11, .int 1] [.int 11, .ref 246] (Nat.le_of_ble_eq_true rfl) rfl ?_ (fun _ => ?_)
      · refine Ev.mk rfl rfl ⟨Nat.le_of_ble_eq_true rfl, Or.inr (en_rcI (en_gs_ne (by decide) (en_gs_ne (by decide) (en_gs_eq (hm_231 _)))) rfl)⟩ ?_
        show At _ none _ _ (0, [(0, .ref 231), (1, .int 11), (2, .int 1)], [], ((((en_pre a 231 hp_M).set 231 (.inr (11, [.int 0, .int 0, .ref 232, .ref 233, .ref 234, .ref 235, .int 0, .ref 236, .int 0, .int 0, .int 0, .int 0, .long 0, .int (-1), .int 0, .int 0, .ref 237, .int 0, .ref 238, .ref 239, .int 0, .ref 240, .ref 241, .int 0, .int 0, .ref 242, .ref 243, .int 0, .ref 244, .ref 245, .int 0, .long 0, .long 0, .ref 246, .ref 247, .ref 248, .int 0, .ref 249, .ref 250, .ref 251, .ref 252, .ref 253, .ref 254, .ref 255, .ref 256, .int 0, .int 0, .int 0, .long 0, .ref 257, .ref 258, .int 0]))).set 246 (.inl (0, .inl (List.replicate 12 0)))).set 247 (.inl (0, .inl (List.replicate 12 0))), n)) _
        refine At.enter rfl ?_
        refine r_aload_n rfl ?_
        refine r_get (v := .ref 233) (en_gs_ne (by decide) (en_gs_ne (by decide) (en_gs_eq (hm_231 _)))) rfl ?_
        refine r_bipush 10 rfl ?_
        refine r_iconst 3 rfl ?_
        refine r_iload_n rfl ?_
        refine r_imul 33 (by decide) ?_
        refine r_iadd 43 rfl ?_
        refine r_iload_n rfl ?_
        refine r_iadd 44 rfl ?_
        refine r_iald (v := 0) (en_gs_ne (by decide) (en_gs_ne (by decide) (en_gs_ne (by decide) (hm_233 _)))) (by decide) (en_gr2 7 rfl (by decide +kernel) (by decide +kernel)) ?_
        refine r_ireti ?_
        exact ⟨trivial, rfl, rfl⟩
      refine At.enter rfl ?_
      refine r_iast (en_gs_ne (by decide) (en_gs_eq (en_gs_ne (by decide) (hm_246 _)))) (by decide) (Nat.le_of_ble_eq_true rfl) (List.replicate 12 0) (by decide +kernel) ?_
      refine Ar.hp (en_sdS (by decide) en_sd0) ?_
      refine r_aload_n rfl ?_
      refine r_get (v := .ref 247) (en_gs_ne (by decide) (en_gs_ne (by decide) (en_gs_eq (hm_231 _)))) rfl ?_
      refine r_iload_n rfl ?_
      refine r_aload_n rfl ?_
      refine r_iload_n rfl ?_
      refine r_iconst 2 rfl ?_
      refine r_callV1s (True) (.int 0) ((((en_pre a 231 hp_M).set 231 (.inr (11, [.int 0, .int 0, .ref 232, .ref 233, .ref 234, .ref 235, .int 0, .ref 236, .int 0, .int 0, .int 0, .int 0, .long 0, .int (-1), .int 0, .int 0, .ref 237, .int 0, .ref 238, .ref 239, .int 0, .ref 240, .ref 241, .int 0, .int 0, .ref 242, .ref 243, .int 0, .ref 244, .ref 245, .int 0, .long 0, .long 0, .ref 246, .ref 247, .ref 248, .int 0, .ref 249, .ref 250, .ref 251, .ref 252, .ref 253, .ref 254, .ref 255, .ref 256, .int 0, .int 0, .int 0, .long 0, .ref 257, .ref 258, .int 0]))).set 246 (.inl (0, .inl (List.replicate 12 0)))).set 247 (.inl (0, .inl (List.replicate 12 0))), n) 31 rfl [.ref 231, .int 11, .int 2] [.int 11, .ref 247] (Nat.le_of_ble_eq_true rfl) rfl ?_ (fun _ => ?_)
      · refine Ev.mk rfl rfl ⟨Nat.le_of_ble_eq_true rfl, Or.inr (en_rcI (en_gs_ne (by decide) (en_gs_ne (by decide) (en_gs_eq (hm_231 _)))) rfl)⟩ ?_
        show At _ none _ _ (0, [(0, .ref 231), (1, .int 11), (2, .int 2)], [], ((((en_pre a 231 hp_M).set 231 (.inr (11, [.int 0, .int 0, .ref 232, .ref 233, .ref 234, .ref 235, .int 0, .ref 236, .int 0, .int 0, .int 0, .int 0, .long 0, .int (-1), .int 0, .int 0, .ref 237, .int 0, .ref 238, .ref 239, .int 0, .ref 240, .ref 241, .int 0, .int 0, .ref 242, .ref 243, .int 0, .ref 244, .ref 245, .int 0, .long 0, .long 0, .ref 246, .ref 247, .ref 248, .int 0, .ref 249, .ref 250, .ref 251, .ref 252, .ref 253, .ref 254, .ref 255, .ref 256, .int 0, .int 0, .int 0, .long 0, .ref 257, .ref 258, .int 0]))).set 246 (.inl (0, .inl (List.replicate 12 0)))).set 247 (.inl (0, .inl (List.replicate 12 0))), n)) _
        refine At.enter rfl ?_
        refine r_aload_n rfl ?_
        refine r_get (v := .ref 233) (en_gs_ne (by decide) (en_gs_ne (by decide) (en_gs_eq (hm_231 _)))) rfl ?_
        refine r_bipush 10 rfl ?_
        refine r_iconst 3 rfl ?_
        refine r_iload_n rfl ?_
        refine r_imul 33 (by decide) ?_
        refine r_iadd 43 rfl ?_
        refine r_iload_n rfl ?_
        refine r_iadd 45 rfl ?_
        refine r_iald (v := 0) (en_gs_ne (by decide) (en_gs_ne (by decide) (en_gs_ne (by decide) (hm_233 _)))) (by decide) (en_gr2 7 rfl (by decide +kernel) (by decide +kernel)) ?_
        refine r_ireti ?_
        exact ⟨trivial, rfl, rfl⟩
      refine At.enter rfl ?_
      refine r_iast (en_gs_eq (en_gs_ne (by decide) (en_gs_ne (by decide) (hm_247 _)))) (by decide) (Nat.le_of_ble_eq_true rfl) (List.replicate 12 0) (by decide +kernel) ?_
      refine Ar.hp en_sd0 ?_
      refine r_iinc rfl 12 rfl ([(1, .int 12), (0, .ref 231)]) rfl ?_
      refine r_goto ?_
      refine At.enter rfl ?_
      refine r_iload_n rfl ?_
      refine r_bipush 12 rfl ?_
      refine r_ict (by decide) ?_
      refine At.enter rfl ?_
      refine r_iconst 0 rfl ?_
      refine r_istore_n ([(1, .int 0), (0, .ref 231)]) rfl ?_
      refine Ar.fall 40 rfl ?_
      refine At.enter rfl ?_
      refine r_iload_n rfl ?_
      refine r_bipush 8 rfl ?_
      refine r_icf 46 rfl (by decide) ?_
      refine At.enter rfl ?_
      refine r_aload_n rfl ?_
      refine r_get (v := .ref 248) (en_gs_ne (by decide) (en_gs_ne (by decide) (en_gs_eq (hm_231 _)))) rfl ?_
      refine r_iload_n rfl ?_
      refine r_aload_n rfl ?_
      refine r_iload_n rfl ?_
      refine r_iconst 3 rfl ?_
      refine r_callV1s (True) (.int 0) ((((en_pre a 231 hp_M).set 231 (.inr (11, [.int 0, .int 0, .ref 232, .ref 233, .ref 234, .ref 235, .int 0, .ref 236, .int 0, .int 0, .int 0, .int 0, .long 0, .int (-1), .int 0, .int 0, .ref 237, .int 0, .ref 238, .ref 239, .int 0, .ref 240, .ref 241, .int 0, .int 0, .ref 242, .ref 243, .int 0, .ref 244, .ref 245, .int 0, .long 0, .long 0, .ref 246, .ref 247, .ref 248, .int 0, .ref 249, .ref 250, .ref 251, .ref 252, .ref 253, .ref 254, .ref 255, .ref 256, .int 0, .int 0, .int 0, .long 0, .ref 257, .ref 258, .int 0]))).set 246 (.inl (0, .inl (List.replicate 12 0)))).set 247 (.inl (0, .inl (List.replicate 12 0))), n) 57 rfl [.ref 231, .int 0, .int 3] [.int 0, .ref 248] (Nat.le_of_ble_eq_true rfl) rfl ?_ (fun _ => ?_)
      · refine Ev.mk rfl rfl ⟨Nat.le_of_ble_eq_true rfl, Or.inr (en_rcI (en_gs_ne (by decide) (en_gs_ne (by decide) (en_gs_eq (hm_231 _)))) rfl)⟩ ?_
        show At _ none _ _ (0, [(0, .ref 231), (1, .int 0), (2, .int 3)], [], ((((en_pre a 231 hp_M).set 231 (.inr (11, [.int 0, .int 0, .ref 232, .ref 233, .ref 234, .ref 235, .int 0, .ref 236, .int 0, .int 0, .int 0, .int 0, .long 0, .int (-1), .int 0, .int 0, .ref 237, .int 0, .ref 238, .ref 239, .int 0, .ref 240, .ref 241, .int 0, .int 0, .ref 242, .ref 243, .int 0, .ref 244, .ref 245, .int 0, .long 0, .long 0, .ref 246, .ref 247, .ref 248, .int 0, .ref 249, .ref 250, .ref 251, .ref 252, .ref 253, .ref 254, .ref 255, .ref 256, .int 0, .int 0, .int 0, .long 0, .ref 257, .ref 258, .int 0]))).set 246 (.inl (0, .inl (List.replicate 12 0)))).set 247 (.inl (0, .inl (List.replicate 12 0))), n)) _
        refine At.enter rfl ?_
        refine r_aload_n rfl ?_
        refine r_get (v := .ref 233) (en_gs_ne (by decide) (en_gs_ne (by decide) (en_gs_eq (hm_231 _)))) rfl ?_
        refine r_bipush 46 rfl ?_
        refine r_bipush 6 rfl ?_
        refine r_iload_n rfl ?_
        refine r_imul 0 (by decide) ?_
        refine r_iadd 46 rfl ?_
        refine r_iload_n rfl ?_
        refine r_iadd 49 rfl ?_
        refine r_iald (v := 0) (en_gs_ne (by decide) (en_gs_ne (by decide) (en_gs_ne (by decide) (hm_233 _)))) (by decide) (en_gr2 7 rfl (by decide +kernel) (by decide +kernel)) ?_
        refine r_ireti ?_
        exact ⟨trivial, rfl, rfl⟩
      refine At.enter rfl ?_
      refine r_iast (en_gs_ne (by decide) (en_gs_ne (by decide) (en_gs_ne (by decide) (hm_248 _)))) (by decide) (Nat.le_of_ble_eq_true rfl) (List.replicate 8 0) (by decide +kernel) ?_
      refine r_iinc rfl 1 rfl ([(1, .int 1), (0, .ref 231)]) rfl ?_
      refine r_goto ?_
      refine At.enter rfl ?_
      refine r_iload_n rfl ?_
      refine r_bipush 8 rfl ?_
      refine r_icf 46 rfl (by decide) ?_
      refine At.enter rfl ?_
      refine r_aload_n rfl ?_
      refine r_get (v := .ref 248) (en_gs_ne (by decide) (en_gs_ne (by decide) (en_gs_ne (by decide) (en_gs_eq (hm_231 _))))) rfl ?_
      refine r_iload_n rfl ?_
      refine r_aload_n rfl ?_
      refine r_iload_n rfl ?_
      refine r_iconst 3 rfl ?_
      refine r_callV1s (True) (.int 0) (((((en_pre a 231 hp_M).set 231 (.inr (11, [.int 0, .int 0, .ref 232, .ref 233, .ref 234, .ref 235, .int 0, .ref 236, .int 0, .int 0, .int 0, .int 0, .long 0, .int (-1), .int 0, .int 0, .ref 237, .int 0, .ref 238, .ref 239, .int 0, .ref 240, .ref 241, .int 0, .int 0, .ref 242, .ref 243, .int 0, .ref 244, .ref 245, .int 0, .long 0, .long 0, .ref 246, .ref 247, .ref 248, .int 0, .ref 249, .ref 250, .ref 251, .ref 252, .ref 253, .ref 254, .ref 255, .ref 256, .int 0, .int 0, .int 0, .long 0, .ref 257, .ref 258, .int 0]))).set 246 (.inl (0, .inl (List.replicate 12 0)))).set 247 (.inl (0, .inl (List.replicate 12 0)))).set 248 (.inl (0, .inl (List.replicate 8 0))), n) 57 rfl [.ref 231, .int 1, .int 3] [.int 1, .ref 248] (Nat.le_of_ble_eq_true rfl) rfl ?_ (fun _ => ?_)
      · refine Ev.mk rfl rfl ⟨Nat.le_of_ble_eq_true rfl, Or.inr (en_rcI (en_gs_ne (by decide) (en_gs_ne (by decide) (en_gs_ne (by decide) (en_gs_eq (hm_231 _))))) rfl)⟩ ?_
        show At _ none _ _ (0, [(0, .ref 231), (1, .int 1), (2, .int 3)], [], (((((en_pre a 231 hp_M).set 231 (.inr (11, [.int 0, .int 0, .ref 232, .ref 233, .ref 234, .ref 235, .int 0, .ref 236, .int 0, .int 0, .int 0, .int 0, .long 0, .int (-1), .int 0, .int 0, .ref 237, .int 0, .ref 238, .ref 239, .int 0, .ref 240, .ref 241, .int 0, .int 0, .ref 242, .ref 243, .int 0, .ref 244, .ref 245, .int 0, .long 0, .long 0, .ref 246, .ref 247, .ref 248, .int 0, .ref 249, .ref 250, .ref 251, .ref 252, .ref 253, .ref 254, .ref 255, .ref 256, .int 0, .int 0, .int 0, .long 0, .ref 257, .ref 258, .int 0]))).set 246 (.inl (0, .inl (List.replicate 12 0)))).set 247 (.inl (0, .inl (List.replicate 12 0)))).set 248 (.inl (0, .inl (List.replicate 8 0))), n)) _
        refine At.enter rfl ?_
        refine r_aload_n rfl ?_
        refine r_get (v := .ref 233) (en_gs_ne (by decide) (en_gs_ne (by decide) (en_gs_ne (by decide) (en_gs_eq (hm_231 _))))) rfl ?_
        refine r_bipush 46 rfl ?_
        refine r_bipush 6 rfl ?_
        refine r_iload_n rfl ?_
        refine r_imul 6 (by decide) ?_
        refine r_iadd 52 rfl ?_
        refine r_iload_n rfl ?_
        refine r_iadd 55 rfl ?_
        refine r_iald (v := 0) (en_gs_ne (by decide) (en_gs_ne (by decide) (en_gs_ne (by decide) (en_gs_ne (by decide) (hm_233 _))))) (by decide) (en_gr2 7 rfl (by decide +kernel) (by decide +kernel)) ?_
        refine r_ireti ?_
        exact ⟨trivial, rfl, rfl⟩
      refine At.enter rfl ?_
      refine r_iast (en_gs_eq (en_gs_ne (by decide) (en_gs_ne (by decide) (en_gs_ne (by decide) (hm_248 _))))) (by decide) (Nat.le_of_ble_eq_true rfl) (List.replicate 8 0) (by decide +kernel) ?_
      refine Ar.hp en_sd0 ?_
      refine r_iinc rfl 2 rfl ([(1, .int 2), (0, .ref 231)]) rfl ?_
      refine r_goto ?_
      refine At.enter rfl ?_
      refine r_iload_n rfl ?_
      refine r_bipush 8 rfl ?_
      refine r_icf 46 rfl (by decide) ?_
      refine At.enter rfl ?_
      refine r_aload_n rfl ?_
      refine r_get (v := .ref 248) (en_gs_ne (by decide) (en_gs_ne (by decide) (en_gs_ne (by decide) (en_gs_eq (hm_231 _))))) rfl ?_
      refine r_iload_n rfl ?_
      refine r_aload_n rfl ?_
      refine r_iload_n rfl ?_
      refine r_iconst 3 rfl ?_
      refine r_callV1s (True) (.int 0) (((((en_pre a 231 hp_M).set 231 (.inr (11, [.int 0, .int 0, .ref 232, .ref 233, .ref 234, .ref 235, .int 0, .ref 236, .int 0, .int 0, .int 0, .int 0, .long 0, .int (-1), .int 0, .int 0, .ref 237, .int 0, .ref 238, .ref 239, .int 0, .ref 240, .ref 241, .int 0, .int 0, .ref 242, .ref 243, .int 0, .ref 244, .ref 245, .int 0, .long 0, .long 0, .ref 246, .ref 247, .ref 248, .int 0, .ref 249, .ref 250, .ref 251, .ref 252, .ref 253, .ref 254, .ref 255, .ref 256, .int 0, .int 0, .int 0, .long 0, .ref 257, .ref 258, .int 0]))).set 246 (.inl (0, .inl (List.replicate 12 0)))).set 247 (.inl (0, .inl (List.replicate 12 0)))).set 248 (.inl (0, .inl (List.replicate 8 0))), n) 57 rfl [.ref 231, .int 2, .int 3] [.int 2, .ref 248] (Nat.le_of_ble_eq_true rfl) rfl ?_ (fun _ => ?_)
      · refine Ev.mk rfl rfl ⟨Nat.le_of_ble_eq_true rfl, Or.inr (en_rcI (en_gs_ne (by decide) (en_gs_ne (by decide) (en_gs_ne (by decide) (en_gs_eq (hm_231 _))))) rfl)⟩ ?_
        show At _ none _ _ (0, [(0, .ref 231), (1, .int 2), (2, .int 3)], [], (((((en_pre a 231 hp_M).set 231 (.inr (11, [.int 0, .int 0, .ref 232, .ref 233, .ref 234, .ref 235, .int 0, .ref 236, .int 0, .int 0, .int 0, .int 0, .long 0, .int (-1), .int 0, .int 0, .ref 237, .int 0, .ref 238, .ref 239, .int 0, .ref 240, .ref 241, .int 0, .int 0, .ref 242, .ref 243, .int 0, .ref 244, .ref 245, .int 0, .long 0, .long 0, .ref 246, .ref 247, .ref 248, .int 0, .ref 249, .ref 250, .ref 251, .ref 252, .ref 253, .ref 254, .ref 255, .ref 256, .int 0, .int 0, .int 0, .long 0, .ref 257, .ref 258, .int 0]))).set 246 (.inl (0, .inl (List.replicate 12 0)))).set 247 (.inl (0, .inl (List.replicate 12 0)))).set 248 (.inl (0, .inl (List.replicate 8 0))), n)) _
        refine At.enter rfl ?_
        refine r_aload_n rfl ?_
        refine r_get (v := .ref 233) (en_gs_ne (by decide) (en_gs_ne (by decide) (en_gs_ne (by decide) (en_gs_eq (hm_231 _))))) rfl ?_
        refine r_bipush 46 rfl ?_
        refine r_bipush 6 rfl ?_
        refine r_iload_n rfl ?_
        refine r_imul 12 (by decide) ?_
        refine r_iadd 58 rfl ?_
        refine r_iload_n rfl ?_
        refine r_iadd 61 rfl ?_
        refine r_iald (v := 0) (en_gs_ne (by decide) (en_gs_ne (by decide) (en_gs_ne (by decide) (en_gs_ne (by decide) (hm_233 _))))) (by decide) (en_gr2 7 rfl (by decide +kernel) (by decide +kernel)) ?_
        refine r_ireti ?_
        exact ⟨trivial, rfl, rfl⟩
      refine At.enter rfl ?_
      refine r_iast (en_gs_eq (en_gs_ne (by decide) (en_gs_ne (by decide) (en_gs_ne (by decide) (hm_248 _))))) (by decide) (Nat.le_of_ble_eq_true rfl) (List.replicate 8 0) (by decide +kernel) ?_
      refine Ar.hp en_sd0 ?_
      refine r_iinc rfl 3 rfl ([(1, .int 3), (0, .ref 231)]) rfl ?_
      refine r_goto ?_
      refine At.enter rfl ?_
      refine r_iload_n rfl ?_
      refine r_bipush 8 rfl ?_
      refine r_icf 46 rfl (by decide) ?_
      refine At.enter rfl ?_
      refine r_aload_n rfl ?_
      refine r_get (v := .ref 248) (en_gs_ne (by decide) (en_gs_ne (by decide) (en_gs_ne (by decide) (en_gs_eq (hm_231 _))))) rfl ?_
      refine r_iload_n rfl ?_
      refine r_aload_n rfl ?_
      refine r_iload_n rfl ?_
      refine r_iconst 3 rfl ?_
      refine r_callV1s (True) (.int 0) (((((en_pre a 231 hp_M).set 231 (.inr (11, [.int 0, .int 0, .ref 232, .ref 233, .ref 234, .ref 235, .int 0, .ref 236, .int 0, .int 0, .int 0, .int 0, .long 0, .int (-1), .int 0, .int 0, .ref 237, .int 0, .ref 238, .ref 239, .int 0, .ref 240, .ref 241, .int 0, .int 0, .ref 242, .ref 243, .int 0, .ref 244, .ref 245, .int 0, .long 0, .long 0, .ref 246, .ref 247, .ref 248, .int 0, .ref 249, .ref 250, .ref 251, .ref 252, .ref 253, .ref 254, .ref 255, .ref 256, .int 0, .int 0, .int 0, .long 0, .ref 257, .ref 258, .int 0]))).set 246 (.inl (0, .inl (List.replicate 12 0)))).set 247 (.inl (0, .inl (List.replicate 12 0)))).set 248 (.inl (0, .inl (List.replicate 8 0))), n) 57 rfl [.ref 231, .int 3, .int 3] [.int 3, .ref 248] (Nat.le_of_ble_eq_true rfl) rfl ?_ (fun _ => ?_)
      · refine Ev.mk rfl rfl ⟨Nat.le_of_ble_eq_true rfl, Or.inr (en_rcI (en_gs_ne (by decide) (en_gs_ne (by decide) (en_gs_ne (by decide) (en_gs_eq (hm_231 _))))) rfl)⟩ ?_
        show At _ none _ _ (0, [(0, .ref 231), (1, .int 3), (2, .int 3)], [], (((((en_pre a 231 hp_M).set 231 (.inr (11, [.int 0, .int 0, .ref 232, .ref 233, .ref 234, .ref 235, .int 0, .ref 236, .int 0, .int 0, .int 0, .int 0, .long 0, .int (-1), .int 0, .int 0, .ref 237, .int 0, .ref 238, .ref 239, .int 0, .ref 240, .ref 241, .int 0, .int 0, .ref 242, .ref 243, .int 0, .ref 244, .ref 245, .int 0, .long 0, .long 0, .ref 246, .ref 247, .ref 248, .int 0, .ref 249, .ref 250, .ref 251, .ref 252, .ref 253, .ref 254, .ref 255, .ref 256, .int 0, .int 0, .int 0, .long 0, .ref 257, .ref 258, .int 0]))).set 246 (.inl (0, .inl (List.replicate 12 0)))).set 247 (.inl (0, .inl (List.replicate 12 0)))).set 248 (.inl (0, .inl (List.replicate 8 0))), n)) _
        refine At.enter rfl ?_
        refine r_aload_n rfl ?_
        refine r_get (v := .ref 233) (en_gs_ne (by decide) (en_gs_ne (by decide) (en_gs_ne (by decide) (en_gs_eq (hm_231 _))))) rfl ?_
        refine r_bipush 46 rfl ?_
        refine r_bipush 6 rfl ?_
        refine r_iload_n rfl ?_
        refine r_imul 18 (by decide) ?_
        refine r_iadd 64 rfl ?_
        refine r_iload_n rfl ?_
        refine r_iadd 67 rfl ?_
        refine r_iald (v := 0) (en_gs_ne (by decide) (en_gs_ne (by decide) (en_gs_ne (by decide) (en_gs_ne (by decide) (hm_233 _))))) (by decide) (en_gr2 7 rfl (by decide +kernel) (by decide +kernel)) ?_
        refine r_ireti ?_
        exact ⟨trivial, rfl, rfl⟩
      refine At.enter rfl ?_
      refine r_iast (en_gs_eq (en_gs_ne (by decide) (en_gs_ne (by decide) (en_gs_ne (by decide) (hm_248 _))))) (by decide) (Nat.le_of_ble_eq_true rfl) (List.replicate 8 0) (by decide +kernel) ?_
      refine Ar.hp en_sd0 ?_
      refine r_iinc rfl 4 rfl ([(1, .int 4), (0, .ref 231)]) rfl ?_
      refine r_goto ?_
      refine At.enter rfl ?_
      refine r_iload_n rfl ?_
      refine r_bipush 8 rfl ?_
      refine r_icf 46 rfl (by decide) ?_
      refine At.enter rfl ?_
      refine r_aload_n rfl ?_
      refine r_get (v := .ref 248) (en_gs_ne (by decide) (en_gs_ne (by decide) (en_gs_ne (by decide) (en_gs_eq (hm_231 _))))) rfl ?_
      refine r_iload_n rfl ?_
      refine r_aload_n rfl ?_
      refine r_iload_n rfl ?_
      refine r_iconst 3 rfl ?_
      refine r_callV1s (True) (.int 0) (((((en_pre a 231 hp_M).set 231 (.inr (11, [.int 0, .int 0, .ref 232, .ref 233, .ref 234, .ref 235, .int 0, .ref 236, .int 0, .int 0, .int 0, .int 0, .long 0, .int (-1), .int 0, .int 0, .ref 237, .int 0, .ref 238, .ref 239, .int 0, .ref 240, .ref 241, .int 0, .int 0, .ref 242, .ref 243, .int 0, .ref 244, .ref 245, .int 0, .long 0, .long 0, .ref 246, .ref 247, .ref 248, .int 0, .ref 249, .ref 250, .ref 251, .ref 252, .ref 253, .ref 254, .ref 255, .ref 256, .int 0, .int 0, .int 0, .long 0, .ref 257, .ref 258, .int 0]))).set 246 (.inl (0, .inl (List.replicate 12 0)))).set 247 (.inl (0, .inl (List.replicate 12 0)))).set 248 (.inl (0, .inl (List.replicate 8 0))), n) 57 rfl [.ref 231, .int 4, .int 3] [.int 4, .ref 248] (Nat.le_of_ble_eq_true rfl) rfl ?_ (fun _ => ?_)
      · refine Ev.mk rfl rfl ⟨Nat.le_of_ble_eq_true rfl, Or.inr (en_rcI (en_gs_ne (by decide) (en_gs_ne (by decide) (en_gs_ne (by decide) (en_gs_eq (hm_231 _))))) rfl)⟩ ?_
        show At _ none _ _ (0, [(0, .ref 231), (1, .int 4), (2, .int 3)], [], (((((en_pre a 231 hp_M).set 231 (.inr (11, [.int 0, .int 0, .ref 232, .ref 233, .ref 234, .ref 235, .int 0, .ref 236, .int 0, .int 0, .int 0, .int 0, .long 0, .int (-1), .int 0, .int 0, .ref 237, .int 0, .ref 238, .ref 239, .int 0, .ref 240, .ref 241, .int 0, .int 0, .ref 242, .ref 243, .int 0, .ref 244, .ref 245, .int 0, .long 0, .long 0, .ref 246, .ref 247, .ref 248, .int 0, .ref 249, .ref 250, .ref 251, .ref 252, .ref 253, .ref 254, .ref 255, .ref 256, .int 0, .int 0, .int 0, .long 0, .ref 257, .ref 258, .int 0]))).set 246 (.inl (0, .inl (List.replicate 12 0)))).set 247 (.inl (0, .inl (List.replicate 12 0)))).set 248 (.inl (0, .inl (List.replicate 8 0))), n)) _
        refine At.enter rfl ?_
        refine r_aload_n rfl ?_
        refine r_get (v := .ref 233) (en_gs_ne (by decide) (en_gs_ne (by decide) (en_gs_ne (by decide) (en_gs_eq (hm_231 _))))) rfl ?_
        refine r_bipush 46 rfl ?_
        refine r_bipush 6 rfl ?_
        refine r_iload_n rfl ?_
        refine r_imul 24 (by decide) ?_
        refine r_iadd 70 rfl ?_
        refine r_iload_n rfl ?_
        refine r_iadd 73 rfl ?_
        refine r_iald (v := 0) (en_gs_ne (by decide) (en_gs_ne (by decide) (en_gs_ne (by decide) (en_gs_ne (by decide) (hm_233 _))))) (by decide) (en_gr2 7 rfl (by decide +kernel) (by decide +kernel)) ?_
        refine r_ireti ?_
        exact ⟨trivial, rfl, rfl⟩
      refine At.enter rfl ?_
      refine r_iast (en_gs_eq (en_gs_ne (by decide) (en_gs_ne (by decide) (en_gs_ne (by decide) (hm_248 _))))) (by decide) (Nat.le_of_ble_eq_true rfl) (List.replicate 8 0) (by decide +kernel) ?_
      refine Ar.hp en_sd0 ?_
      refine r_iinc rfl 5 rfl ([(1, .int 5), (0, .ref 231)]) rfl ?_
      refine r_goto ?_
      refine At.enter rfl ?_
      refine r_iload_n rfl ?_
      refine r_bipush 8 rfl ?_
      refine r_icf 46 rfl (by decide) ?_
      refine At.enter rfl ?_
      refine r_aload_n rfl ?_
      refine r_get (v := .ref 248) (en_gs_ne (by decide) (en_gs_ne (by decide) (en_gs_ne (by decide) (en_gs_eq (hm_231 _))))) rfl ?_
      refine r_iload_n rfl ?_
      refine r_aload_n rfl ?_
      refine r_iload_n rfl ?_
      refine r_iconst 3 rfl ?_
      refine r_callV1s (True) (.int 0) (((((en_pre a 231 hp_M).set 231 (.inr (11, [.int 0, .int 0, .ref 232, .ref 233, .ref 234, .ref 235, .int 0, .ref 236, .int 0, .int 0, .int 0, .int 0, .long 0, .int (-1), .int 0, .int 0, .ref 237, .int 0, .ref 238, .ref 239, .int 0, .ref 240, .ref 241, .int 0, .int 0, .ref 242, .ref 243, .int 0, .ref 244, .ref 245, .int 0, .long 0, .long 0, .ref 246, .ref 247, .ref 248, .int 0, .ref 249, .ref 250, .ref 251, .ref 252, .ref 253, .ref 254, .ref 255, .ref 256, .int 0, .int 0, .int 0, .long 0, .ref 257, .ref 258, .int 0]))).set 246 (.inl (0, .inl (List.replicate 12 0)))).set 247 (.inl (0, .inl (List.replicate 12 0)))).set 248 (.inl (0, .inl (List.replicate 8 0))), n) 57 rfl [.ref 231, .int 5, .int 3] [.int 5, .ref 248] (Nat.le_of_ble_eq_true rfl) rfl ?_ (fun _ => ?_)
      · refine Ev.mk rfl rfl ⟨Nat.le_of_ble_eq_true rfl, Or.inr (en_rcI (en_gs_ne (by decide) (en_gs_ne (by decide) (en_gs_ne (by decide) (en_gs_eq (hm_231 _))))) rfl)⟩ ?_
        show At _ none _ _ (0, [(0, .ref 231), (1, .int 5), (2, .int 3)], [], (((((en_pre a 231 hp_M).set 231 (.inr (11, [.int 0, .int 0, .ref 232, .ref 233, .ref 234, .ref 235, .int 0, .ref 236, .int 0, .int 0, .int 0, .int 0, .long 0, .int (-1), .int 0, .int 0, .ref 237, .int 0, .ref 238, .ref 239, .int 0, .ref 240, .ref 241, .int 0, .int 0, .ref 242, .ref 243, .int 0, .ref 244, .ref 245, .int 0, .long 0, .long 0, .ref 246, .ref 247, .ref 248, .int 0, .ref 249, .ref 250, .ref 251, .ref 252, .ref 253, .ref 254, .ref 255, .ref 256, .int 0, .int 0, .int 0, .long 0, .ref 257, .ref 258, .int 0]))).set 246 (.inl (0, .inl (List.replicate 12 0)))).set 247 (.inl (0, .inl (List.replicate 12 0)))).set 248 (.inl (0, .inl (List.replicate 8 0))), n)) _
        refine At.enter rfl ?_
        refine r_aload_n rfl ?_
        refine r_get (v := .ref 233) (en_gs_ne (by decide) (en_gs_ne (by decide) (en_gs_ne (by decide) (en_gs_eq (hm_231 _))))) rfl ?_
        refine r_bipush 46 rfl ?_
        refine r_bipush 6 rfl ?_
        refine r_iload_n rfl ?_
        refine r_imul 30 (by decide) ?_
        refine r_iadd 76 rfl ?_
        refine r_iload_n rfl ?_
        refine r_iadd 79 rfl ?_
        refine r_iald (v := 0) (en_gs_ne (by decide) (en_gs_ne (by decide) (en_gs_ne (by decide) (en_gs_ne (by decide) (hm_233 _))))) (by decide) (en_gr2 7 rfl (by decide +kernel) (by decide +kernel)) ?_
        refine r_ireti ?_
        exact ⟨trivial, rfl, rfl⟩
      refine At.enter rfl ?_
      refine r_iast (en_gs_eq (en_gs_ne (by decide) (en_gs_ne (by decide) (en_gs_ne (by decide) (hm_248 _))))) (by decide) (Nat.le_of_ble_eq_true rfl) (List.replicate 8 0) (by decide +kernel) ?_
      refine Ar.hp en_sd0 ?_
      refine r_iinc rfl 6 rfl ([(1, .int 6), (0, .ref 231)]) rfl ?_
      refine r_goto ?_
      refine At.enter rfl ?_
      refine r_iload_n rfl ?_
      refine r_bipush 8 rfl ?_
      refine r_icf 46 rfl (by decide) ?_
      refine At.enter rfl ?_
      refine r_aload_n rfl ?_
      refine r_get (v := .ref 248) (en_gs_ne (by decide) (en_gs_ne (by decide) (en_gs_ne (by decide) (en_gs_eq (hm_231 _))))) rfl ?_
      refine r_iload_n rfl ?_
      refine r_aload_n rfl ?_
      refine r_iload_n rfl ?_
      refine r_iconst 3 rfl ?_
      refine r_callV1s (True) (.int 0) (((((en_pre a 231 hp_M).set 231 (.inr (11, [.int 0, .int 0, .ref 232, .ref 233, .ref 234, .ref 235, .int 0, .ref 236, .int 0, .int 0, .int 0, .int 0, .long 0, .int (-1), .int 0, .int 0, .ref 237, .int 0, .ref 238, .ref 239, .int 0, .ref 240, .ref 241, .int 0, .int 0, .ref 242, .ref 243, .int 0, .ref 244, .ref 245, .int 0, .long 0, .long 0, .ref 246, .ref 247, .ref 248, .int 0, .ref 249, .ref 250, .ref 251, .ref 252, .ref 253, .ref 254, .ref 255, .ref 256, .int 0, .int 0, .int 0, .long 0, .ref 257, .ref 258, .int 0]))).set 246 (.inl (0, .inl (List.replicate 12 0)))).set 247 (.inl (0, .inl (List.replicate 12 0)))).set 248 (.inl (0, .inl (List.replicate 8 0))), n) 57 rfl [.ref 231, .int 6, .int 3] [.int 6, .ref 248] (Nat.le_of_ble_eq_true rfl) rfl ?_ (fun _ => ?_)
      · refine Ev.mk rfl rfl ⟨Nat.le_of_ble_eq_true rfl, Or.inr (en_rcI (en_gs_ne (by decide) (en_gs_ne (by decide) (en_gs_ne (by decide) (en_gs_eq (hm_231 _))))) rfl)⟩ ?_
        show At _ none _ _ (0, [(0, .ref 231), (1, .int 6), (2, .int 3)], [], (((((en_pre a 231 hp_M).set 231 (.inr (11, [.int 0, .int 0, .ref 232, .ref 233, .ref 234, .ref 235, .int 0, .ref 236, .int 0, .int 0, .int 0, .int 0, .long 0, .int (-1), .int 0, .int 0, .ref 237, .int 0, .ref 238, .ref 239, .int 0, .ref 240, .ref 241, .int 0, .int 0, .ref 242, .ref 243, .int 0, .ref 244, .ref 245, .int 0, .long 0, .long 0, .ref 246, .ref 247, .ref 248, .int 0, .ref 249, .ref 250, .ref 251, .ref 252, .ref 253, .ref 254, .ref 255, .ref 256, .int 0, .int 0, .int 0, .long 0, .ref 257, .ref 258, .int 0]))).set 246 (.inl (0, .inl (List.replicate 12 0)))).set 247 (.inl (0, .inl (List.replicate 12 0)))).set 248 (.inl (0, .inl (List.replicate 8 0))), n)) _
        refine At.enter rfl ?_
        refine r_aload_n rfl ?_
        refine r_get (v := .ref 233) (en_gs_ne (by decide) (en_gs_ne (by decide) (en_gs_ne (by decide) (en_gs_eq (hm_231 _))))) rfl ?_
        refine r_bipush 46 rfl ?_
        refine r_bipush 6 rfl ?_
        refine r_iload_n rfl ?_
        refine r_imul 36 (by decide) ?_
        refine r_iadd 82 rfl ?_
        refine r_iload_n rfl ?_
        refine r_iadd 85 rfl ?_
        refine r_iald (v := 0) (en_gs_ne (by decide) (en_gs_ne (by decide) (en_gs_ne (by decide) (en_gs_ne (by decide) (hm_233 _))))) (by decide) (en_gr2 7 rfl (by decide +kernel) (by decide +kernel)) ?_
        refine r_ireti ?_
        exact ⟨trivial, rfl, rfl⟩
      refine At.enter rfl ?_
      refine r_iast (en_gs_eq (en_gs_ne (by decide) (en_gs_ne (by decide) (en_gs_ne (by decide) (hm_248 _))))) (by decide) (Nat.le_of_ble_eq_true rfl) (List.replicate 8 0) (by decide +kernel) ?_
      refine Ar.hp en_sd0 ?_
      refine r_iinc rfl 7 rfl ([(1, .int 7), (0, .ref 231)]) rfl ?_
      refine r_goto ?_
      refine At.enter rfl ?_
      refine r_iload_n rfl ?_
      refine r_bipush 8 rfl ?_
      refine r_icf 46 rfl (by decide) ?_
      refine At.enter rfl ?_
      refine r_aload_n rfl ?_
      refine r_get (v := .ref 248) (en_gs_ne (by decide) (en_gs_ne (by decide) (en_gs_ne (by decide) (en_gs_eq (hm_231 _))))) rfl ?_
      refine r_iload_n rfl ?_
      refine r_aload_n rfl ?_
      refine r_iload_n rfl ?_
      refine r_iconst 3 rfl ?_
      refine r_callV1s (True) (.int 0) (((((en_pre a 231 hp_M).set 231 (.inr (11, [.int 0, .int 0, .ref 232, .ref 233, .ref 234, .ref 235, .int 0, .ref 236, .int 0, .int 0, .int 0, .int 0, .long 0, .int (-1), .int 0, .int 0, .ref 237, .int 0, .ref 238, .ref 239, .int 0, .ref 240, .ref 241, .int 0, .int 0, .ref 242, .ref 243, .int 0, .ref 244, .ref 245, .int 0, .long 0, .long 0, .ref 246, .ref 247, .ref 248, .int 0, .ref 249, .ref 250, .ref 251, .ref 252, .ref 253, .ref 254, .ref 255, .ref 256, .int 0, .int 0, .int 0, .long 0, .ref 257, .ref 258, .int 0]))).set 246 (.inl (0, .inl (List.replicate 12 0)))).set 247 (.inl (0, .inl (List.replicate 12 0)))).set 248 (.inl (0, .inl (List.replicate 8 0))), n) 57 rfl [.ref 231, .int 7, .int 3] [.int 7, .ref 248] (Nat.le_of_ble_eq_true rfl) rfl ?_ (fun _ => ?_)
      · refine Ev.mk rfl rfl ⟨Nat.le_of_ble_eq_true rfl, Or.inr (en_rcI (en_gs_ne (by decide) (en_gs_ne (by decide) (en_gs_ne (by decide) (en_gs_eq (hm_231 _))))) rfl)⟩ ?_
        show At _ none _ _ (0, [(0, .ref 231), (1, .int 7), (2, .int 3)], [], (((((en_pre a 231 hp_M).set 231 (.inr (11, [.int 0, .int 0, .ref 232, .ref 233, .ref 234, .ref 235, .int 0, .ref 236, .int 0, .int 0, .int 0, .int 0, .long 0, .int (-1), .int 0, .int 0, .ref 237, .int 0, .ref 238, .ref 239, .int 0, .ref 240, .ref 241, .int 0, .int 0, .ref 242, .ref 243, .int 0, .ref 244, .ref 245, .int 0, .long 0, .long 0, .ref 246, .ref 247, .ref 248, .int 0, .ref 249, .ref 250, .ref 251, .ref 252, .ref 253, .ref 254, .ref 255, .ref 256, .int 0, .int 0, .int 0, .long 0, .ref 257, .ref 258, .int 0]))).set 246 (.inl (0, .inl (List.replicate 12 0)))).set 247 (.inl (0, .inl (List.replicate 12 0)))).set 248 (.inl (0, .inl (List.replicate 8 0))), n)) _
        refine At.enter rfl ?_
        refine r_aload_n rfl ?_
        refine r_get (v := .ref 233) (en_gs_ne (by decide) (en_gs_ne (by decide) (en_gs_ne (by decide) (en_gs_eq (hm_231 _))))) rfl ?_
        refine r_bipush 46 rfl ?_
        refine r_bipush 6 rfl ?_
        refine r_iload_n rfl ?_
        refine r_imul 42 (by decide) ?_
        refine r_iadd 88 rfl ?_
        refine r_iload_n rfl ?_
        refine r_iadd 91 rfl ?_
        refine r_iald (v := 0) (en_gs_ne (by decide) (en_gs_ne (by decide) (en_gs_ne (by decide) (en_gs_ne (by decide) (hm_233 _))))) (by decide) (en_gr2 7 rfl (by decide +kernel) (by decide +kernel)) ?_
        refine r_ireti ?_
        exact ⟨trivial, rfl, rfl⟩
      refine At.enter rfl ?_
      refine r_iast (en_gs_eq (en_gs_ne (by decide) (en_gs_ne (by decide) (en_gs_ne (by decide) (hm_248 _))))) (by decide) (Nat.le_of_ble_eq_true rfl) (List.replicate 8 0) (by decide +kernel) ?_
      refine Ar.hp en_sd0 ?_
      refine r_iinc rfl 8 rfl ([(1, .int 8), (0, .ref 231)]) rfl ?_
      refine r_goto ?_
      refine At.enter rfl ?_
      refine r_iload_n rfl ?_
      refine r_bipush 8 rfl ?_
      refine r_ict (by decide) ?_
      refine At.enter rfl ?_
      refine r_aload_n rfl ?_
      refine r_iconst 0 rfl ?_
      refine r_putf (en_gs_ne (by decide) (en_gs_ne (by decide) (en_gs_ne (by decide) (en_gs_eq (hm_231 _))))) (Nat.le_of_ble_eq_true rfl) rfl [.int 0, .int 0, .ref 232, .ref 233, .ref 234, .ref 235, .int 0, .ref 236, .int 0, .int 0, .int 0, .int 0, .long 0, .int (-1), .int 0, .int 0, .ref 237, .int 0, .ref 238, .ref 239, .int 0, .ref 240, .ref 241, .int 0, .int 0, .ref 242, .ref 243, .int 0, .ref 244, .ref 245, .int 0, .long 0, .long 0, .ref 246, .ref 247, .ref 248, .int 0, .ref 249, .ref 250, .ref 251, .ref 252, .ref 253, .ref 254, .ref 255, .ref 256, .int 0, .int 0, .int 0, .long 0, .ref 257, .ref 258, .int 0] rfl ?_
      refine Ar.hp (en_sdS (by decide) (en_sdS (by decide) (en_sdS (by decide) en_sd0))) ?_
      refine r_vret ?_
      exact ⟨trivial, rfl, rfl⟩
    refine At.enter rfl ?_
    refine r_aload_n rfl ?_
    refine r_callV1v (True)  (((((en_pre a 231 hp_M).set 231 (.inr (11, [.int 0, .int 0, .ref 232, .ref 233, .ref 234, .ref 235, .int 0, .ref 236, .int 0, .int 0, .int 0, .int 0, .long 0, .int (-1), .int 0, .int 0, .ref 237, .int 0, .ref 238, .ref 239, .int 0, .ref 240, .ref 241, .int 0, .int 0, .ref 242, .ref 243, .int 0, .ref 244, .ref 245, .int 0, .long 0, .long 0, .ref 246, .ref 247, .ref 248, .int 0, .ref 249, .ref 250, .ref 251, .ref 252, .ref 253, .ref 254, .ref 255, .ref 256, .int 0, .int 0, .int 0, .long 0, .ref 257, .ref 258, .int 0]))).set 246 (.inl (0, .inl (List.replicate 12 0)))).set 247 (.inl (0, .inl (List.replicate 12 0)))).set 248 (.inl (0, .inl (List.replicate 8 0))), n) 8 rfl [.ref 231] [] (Nat.le_of_ble_eq_true rfl) rfl ?_ (fun _ => ?_)
    · exact zr_run _ ⟨(en_gs_ne (by decide) (en_gs_ne (by decide) (en_gs_ne (by decide) (en_gs_eq (hm_231 _))))), rfl, (en_gs_ne (by decide) (en_gs_ne (by decide) (en_gs_ne (by decide) (en_gs_ne (by decide) (hm_233 _))))), rfl⟩
    refine At.enter rfl ?_
    refine r_vret ?_
    exact ⟨trivial, rfl, rfl⟩
  refine At.enter rfl ?_
  refine r_iconst 0 rfl ?_
  refine r_istore_n ([(1, .int 0), (0, .ref 231)]) rfl ?_
  refine Ar.fall 11 rfl ?_
  refine At.enter rfl ?_
  refine r_iload_n rfl ?_
  refine r_aload_n rfl ?_
  refine r_get (v := .ref 233) (en_gs_ne (by decide) (en_gs_ne (by decide) (en_gs_ne (by decide) (en_gs_eq (hm_231 _))))) rfl ?_
  refine r_iconst 0 rfl ?_
  refine r_iald (v := 0) (en_gs_ne (by decide) (en_gs_ne (by decide) (en_gs_ne (by decide) (en_gs_ne (by decide) (hm_233 _))))) (by decide) rfl ?_
  refine r_ict (by decide) ?_
  refine At.enter rfl ?_
  refine r_iconst 0 rfl ?_
  refine r_ireti ?_
  exact ⟨congrArg (fun z => some (Value.int z)) rfl, (en_lset (en_lset (en_lset (en_lset (en_prel a))))), rfl⟩
end
