-- ===== PART A: goes FIRST, ahead of the names: the tables' words, and 'selects' of the private methods out of them =====
/-- a private method of a class that the tables say can be made, by its rows of tables_1 -/
def lw_okq (q : MethodName × Nat) : Prop := (q.1.cls ≠ "java/lang/invoke/MethodHandle" ∧ q.1.cls ≠ "java/lang/invoke/VarHandle") ∧ Cond.instantiable q.1.cls q.2 ∈ tables_1 ∧ Cond.privateMethod q.1 ∈ tables_1 ∧ Cond.instanceMethod q.1 ∈ tables_1
theorem lw_p0 : lw_okq (⟨"BornAboard", "refuse", "(I)I"⟩, 12) := ⟨⟨by decide +kernel, by decide +kernel⟩, List.mem_of_getElem? (i := 21) (by decide +kernel), List.mem_of_getElem? (i := 467) (by decide +kernel), List.mem_of_getElem? (i := 468) (by decide +kernel)⟩
theorem lw_p1 : lw_okq (⟨"BornAboard", "deny", "(I)Z"⟩, 12) := ⟨⟨by decide +kernel, by decide +kernel⟩, List.mem_of_getElem? (i := 21) (by decide +kernel), List.mem_of_getElem? (i := 479) (by decide +kernel), List.mem_of_getElem? (i := 480) (by decide +kernel)⟩
theorem lw_p2 : lw_okq (⟨"BornAboard$Tokens", "addAt", "(LBornAboard$Tape;I)I"⟩, 5) := ⟨⟨by decide +kernel, by decide +kernel⟩, List.mem_of_getElem? (i := 53) (by decide +kernel), List.mem_of_getElem? (i := 499) (by decide +kernel), List.mem_of_getElem? (i := 500) (by decide +kernel)⟩
theorem lw_p3 : lw_okq (⟨"BornAboard$Tokens", "add", "(III)V"⟩, 5) := ⟨⟨by decide +kernel, by decide +kernel⟩, List.mem_of_getElem? (i := 53) (by decide +kernel), List.mem_of_getElem? (i := 503) (by decide +kernel), List.mem_of_getElem? (i := 504) (by decide +kernel)⟩
theorem lw_p4 : lw_okq (⟨"BornAboard$Tokens", "addWord", "(LBornAboard$Tape;I)I"⟩, 5) := ⟨⟨by decide +kernel, by decide +kernel⟩, List.mem_of_getElem? (i := 53) (by decide +kernel), List.mem_of_getElem? (i := 510) (by decide +kernel), List.mem_of_getElem? (i := 511) (by decide +kernel)⟩
theorem lw_p5 : lw_okq (⟨"BornAboard$Tokens", "addBad", "(LBornAboard$Tape;II)I"⟩, 5) := ⟨⟨by decide +kernel, by decide +kernel⟩, List.mem_of_getElem? (i := 53) (by decide +kernel), List.mem_of_getElem? (i := 581) (by decide +kernel), List.mem_of_getElem? (i := 582) (by decide +kernel)⟩
theorem lw_p6 : lw_okq (⟨"BornAboard$Tokens", "addWhole", "(IIII)I"⟩, 5) := ⟨⟨by decide +kernel, by decide +kernel⟩, List.mem_of_getElem? (i := 53) (by decide +kernel), List.mem_of_getElem? (i := 585) (by decide +kernel), List.mem_of_getElem? (i := 586) (by decide +kernel)⟩
theorem lw_p7 : lw_okq (⟨"BornAboard$Tokens", "addNumber", "(LBornAboard$Tape;I)I"⟩, 5) := ⟨⟨by decide +kernel, by decide +kernel⟩, List.mem_of_getElem? (i := 53) (by decide +kernel), List.mem_of_getElem? (i := 592) (by decide +kernel), List.mem_of_getElem? (i := 593) (by decide +kernel)⟩
theorem lw_p8 : lw_okq (⟨"BornAboard$Parser", "kind", "()I"⟩, 6) := ⟨⟨by decide +kernel, by decide +kernel⟩, List.mem_of_getElem? (i := 47) (by decide +kernel), List.mem_of_getElem? (i := 599) (by decide +kernel), List.mem_of_getElem? (i := 600) (by decide +kernel)⟩
theorem lw_p9 : lw_okq (⟨"BornAboard$Parser", "readStatement", "()Z"⟩, 6) := ⟨⟨by decide +kernel, by decide +kernel⟩, List.mem_of_getElem? (i := 47) (by decide +kernel), List.mem_of_getElem? (i := 603) (by decide +kernel), List.mem_of_getElem? (i := 604) (by decide +kernel)⟩
theorem lw_p10 : lw_okq (⟨"BornAboard$Parser", "fail", "(I)Z"⟩, 6) := ⟨⟨by decide +kernel, by decide +kernel⟩, List.mem_of_getElem? (i := 47) (by decide +kernel), List.mem_of_getElem? (i := 607) (by decide +kernel), List.mem_of_getElem? (i := 608) (by decide +kernel)⟩
theorem lw_p11 : lw_okq (⟨"BornAboard$Parser", "readStation", "()Z"⟩, 6) := ⟨⟨by decide +kernel, by decide +kernel⟩, List.mem_of_getElem? (i := 47) (by decide +kernel), List.mem_of_getElem? (i := 611) (by decide +kernel), List.mem_of_getElem? (i := 612) (by decide +kernel)⟩
theorem lw_p12 : lw_okq (⟨"BornAboard$Parser", "take", "(I)Z"⟩, 6) := ⟨⟨by decide +kernel, by decide +kernel⟩, List.mem_of_getElem? (i := 47) (by decide +kernel), List.mem_of_getElem? (i := 615) (by decide +kernel), List.mem_of_getElem? (i := 616) (by decide +kernel)⟩
theorem lw_p13 : lw_okq (⟨"BornAboard$Parser", "takeNewName", "()Z"⟩, 6) := ⟨⟨by decide +kernel, by decide +kernel⟩, List.mem_of_getElem? (i := 47) (by decide +kernel), List.mem_of_getElem? (i := 619) (by decide +kernel), List.mem_of_getElem? (i := 620) (by decide +kernel)⟩
theorem lw_p14 : lw_okq (⟨"BornAboard$Parser", "readStop", "()Z"⟩, 6) := ⟨⟨by decide +kernel, by decide +kernel⟩, List.mem_of_getElem? (i := 47) (by decide +kernel), List.mem_of_getElem? (i := 630) (by decide +kernel), List.mem_of_getElem? (i := 631) (by decide +kernel)⟩
theorem lw_p15 : lw_okq (⟨"BornAboard$Parser", "takeNumber", "(II)Z"⟩, 6) := ⟨⟨by decide +kernel, by decide +kernel⟩, List.mem_of_getElem? (i := 47) (by decide +kernel), List.mem_of_getElem? (i := 634) (by decide +kernel), List.mem_of_getElem? (i := 635) (by decide +kernel)⟩
def lw_privs_1 : List (MethodName × Nat) := [(⟨"BornAboard", "refuse", "(I)I"⟩, 12), (⟨"BornAboard", "deny", "(I)Z"⟩, 12), (⟨"BornAboard$Tokens", "addAt", "(LBornAboard$Tape;I)I"⟩, 5), (⟨"BornAboard$Tokens", "add", "(III)V"⟩, 5), (⟨"BornAboard$Tokens", "addWord", "(LBornAboard$Tape;I)I"⟩, 5), (⟨"BornAboard$Tokens", "addBad", "(LBornAboard$Tape;II)I"⟩, 5), (⟨"BornAboard$Tokens", "addWhole", "(IIII)I"⟩, 5), (⟨"BornAboard$Tokens", "addNumber", "(LBornAboard$Tape;I)I"⟩, 5), (⟨"BornAboard$Parser", "kind", "()I"⟩, 6), (⟨"BornAboard$Parser", "readStatement", "()Z"⟩, 6), (⟨"BornAboard$Parser", "fail", "(I)Z"⟩, 6), (⟨"BornAboard$Parser", "readStation", "()Z"⟩, 6), (⟨"BornAboard$Parser", "take", "(I)Z"⟩, 6), (⟨"BornAboard$Parser", "takeNewName", "()Z"⟩, 6), (⟨"BornAboard$Parser", "readStop", "()Z"⟩, 6), (⟨"BornAboard$Parser", "takeNumber", "(II)Z"⟩, 6)]
theorem lw_r1 : ∀ q ∈ lw_privs_1, lw_okq q := List.forall_mem_cons.mpr ⟨lw_p0, List.forall_mem_cons.mpr ⟨lw_p1, List.forall_mem_cons.mpr ⟨lw_p2, List.forall_mem_cons.mpr ⟨lw_p3, List.forall_mem_cons.mpr ⟨lw_p4, List.forall_mem_cons.mpr ⟨lw_p5, List.forall_mem_cons.mpr ⟨lw_p6, List.forall_mem_cons.mpr ⟨lw_p7, List.forall_mem_cons.mpr ⟨lw_p8, List.forall_mem_cons.mpr ⟨lw_p9, List.forall_mem_cons.mpr ⟨lw_p10, List.forall_mem_cons.mpr ⟨lw_p11, List.forall_mem_cons.mpr ⟨lw_p12, List.forall_mem_cons.mpr ⟨lw_p13, List.forall_mem_cons.mpr ⟨lw_p14, List.forall_mem_cons.mpr ⟨lw_p15, fun _ h => absurd h List.not_mem_nil⟩⟩⟩⟩⟩⟩⟩⟩⟩⟩⟩⟩⟩⟩⟩⟩
theorem lw_p16 : lw_okq (⟨"BornAboard$Parser", "readTrain", "()Z"⟩, 6) := ⟨⟨by decide +kernel, by decide +kernel⟩, List.mem_of_getElem? (i := 47) (by decide +kernel), List.mem_of_getElem? (i := 638) (by decide +kernel), List.mem_of_getElem? (i := 639) (by decide +kernel)⟩
theorem lw_p17 : lw_okq (⟨"BornAboard$Parser", "readCalls", "(I)Z"⟩, 6) := ⟨⟨by decide +kernel, by decide +kernel⟩, List.mem_of_getElem? (i := 47) (by decide +kernel), List.mem_of_getElem? (i := 642) (by decide +kernel), List.mem_of_getElem? (i := 643) (by decide +kernel)⟩
theorem lw_p18 : lw_okq (⟨"BornAboard$Parser", "takeStation", "(I)Z"⟩, 6) := ⟨⟨by decide +kernel, by decide +kernel⟩, List.mem_of_getElem? (i := 47) (by decide +kernel), List.mem_of_getElem? (i := 646) (by decide +kernel), List.mem_of_getElem? (i := 647) (by decide +kernel)⟩
theorem lw_p19 : lw_okq (⟨"BornAboard$Parser", "readPerson", "()Z"⟩, 6) := ⟨⟨by decide +kernel, by decide +kernel⟩, List.mem_of_getElem? (i := 47) (by decide +kernel), List.mem_of_getElem? (i := 654) (by decide +kernel), List.mem_of_getElem? (i := 655) (by decide +kernel)⟩
theorem lw_p20 : lw_okq (⟨"BornAboard$Parser", "readBirth", "(I)Z"⟩, 6) := ⟨⟨by decide +kernel, by decide +kernel⟩, List.mem_of_getElem? (i := 47) (by decide +kernel), List.mem_of_getElem? (i := 658) (by decide +kernel), List.mem_of_getElem? (i := 659) (by decide +kernel)⟩
theorem lw_p21 : lw_okq (⟨"BornAboard", "startAnew", "()V"⟩, 12) := ⟨⟨by decide +kernel, by decide +kernel⟩, List.mem_of_getElem? (i := 21) (by decide +kernel), List.mem_of_getElem? (i := 673) (by decide +kernel), List.mem_of_getElem? (i := 674) (by decide +kernel)⟩
theorem lw_p22 : lw_okq (⟨"BornAboard", "countDead", "()I"⟩, 12) := ⟨⟨by decide +kernel, by decide +kernel⟩, List.mem_of_getElem? (i := 21) (by decide +kernel), List.mem_of_getElem? (i := 697) (by decide +kernel), List.mem_of_getElem? (i := 698) (by decide +kernel)⟩
theorem lw_p23 : lw_okq (⟨"BornAboard", "isStation", "(I)Z"⟩, 12) := ⟨⟨by decide +kernel, by decide +kernel⟩, List.mem_of_getElem? (i := 21) (by decide +kernel), List.mem_of_getElem? (i := 713) (by decide +kernel), List.mem_of_getElem? (i := 714) (by decide +kernel)⟩
theorem lw_p24 : lw_okq (⟨"BornAboard", "isTrain", "(I)Z"⟩, 12) := ⟨⟨by decide +kernel, by decide +kernel⟩, List.mem_of_getElem? (i := 21) (by decide +kernel), List.mem_of_getElem? (i := 720) (by decide +kernel), List.mem_of_getElem? (i := 721) (by decide +kernel)⟩
theorem lw_p25 : lw_okq (⟨"BornAboard", "isPerson", "(I)Z"⟩, 12) := ⟨⟨by decide +kernel, by decide +kernel⟩, List.mem_of_getElem? (i := 21) (by decide +kernel), List.mem_of_getElem? (i := 724) (by decide +kernel), List.mem_of_getElem? (i := 725) (by decide +kernel)⟩
theorem lw_p26 : lw_okq (⟨"BornAboard", "isCall", "(II)Z"⟩, 12) := ⟨⟨by decide +kernel, by decide +kernel⟩, List.mem_of_getElem? (i := 21) (by decide +kernel), List.mem_of_getElem? (i := 748) (by decide +kernel), List.mem_of_getElem? (i := 749) (by decide +kernel)⟩
theorem lw_p27 : lw_okq (⟨"BornAboard", "beginAct", "()V"⟩, 12) := ⟨⟨by decide +kernel, by decide +kernel⟩, List.mem_of_getElem? (i := 21) (by decide +kernel), List.mem_of_getElem? (i := 761) (by decide +kernel), List.mem_of_getElem? (i := 762) (by decide +kernel)⟩
theorem lw_p28 : lw_okq (⟨"BornAboard", "passDay", "(LBornAboard$People;)Z"⟩, 12) := ⟨⟨by decide +kernel, by decide +kernel⟩, List.mem_of_getElem? (i := 21) (by decide +kernel), List.mem_of_getElem? (i := 785) (by decide +kernel), List.mem_of_getElem? (i := 786) (by decide +kernel)⟩
theorem lw_p29 : lw_okq (⟨"BornAboard", "tryDay", "(LBornAboard$People;)V"⟩, 12) := ⟨⟨by decide +kernel, by decide +kernel⟩, List.mem_of_getElem? (i := 21) (by decide +kernel), List.mem_of_getElem? (i := 789) (by decide +kernel), List.mem_of_getElem? (i := 790) (by decide +kernel)⟩
theorem lw_p30 : lw_okq (⟨"BornAboard$Ties", "learnTrain", "(LBornAboard$Line;LBornAboard$People;I)V"⟩, 4) := ⟨⟨by decide +kernel, by decide +kernel⟩, List.mem_of_getElem? (i := 272) (by decide +kernel), List.mem_of_getElem? (i := 802) (by decide +kernel), List.mem_of_getElem? (i := 803) (by decide +kernel)⟩
theorem lw_p31 : lw_okq (⟨"BornAboard$Day", "placePeople", "(I)V"⟩, 18) := ⟨⟨by decide +kernel, by decide +kernel⟩, List.mem_of_getElem? (i := 266) (by decide +kernel), List.mem_of_getElem? (i := 814) (by decide +kernel), List.mem_of_getElem? (i := 815) (by decide +kernel)⟩
def lw_privs_2 : List (MethodName × Nat) := [(⟨"BornAboard$Parser", "readTrain", "()Z"⟩, 6), (⟨"BornAboard$Parser", "readCalls", "(I)Z"⟩, 6), (⟨"BornAboard$Parser", "takeStation", "(I)Z"⟩, 6), (⟨"BornAboard$Parser", "readPerson", "()Z"⟩, 6), (⟨"BornAboard$Parser", "readBirth", "(I)Z"⟩, 6), (⟨"BornAboard", "startAnew", "()V"⟩, 12), (⟨"BornAboard", "countDead", "()I"⟩, 12), (⟨"BornAboard", "isStation", "(I)Z"⟩, 12), (⟨"BornAboard", "isTrain", "(I)Z"⟩, 12), (⟨"BornAboard", "isPerson", "(I)Z"⟩, 12), (⟨"BornAboard", "isCall", "(II)Z"⟩, 12), (⟨"BornAboard", "beginAct", "()V"⟩, 12), (⟨"BornAboard", "passDay", "(LBornAboard$People;)Z"⟩, 12), (⟨"BornAboard", "tryDay", "(LBornAboard$People;)V"⟩, 12), (⟨"BornAboard$Ties", "learnTrain", "(LBornAboard$Line;LBornAboard$People;I)V"⟩, 4), (⟨"BornAboard$Day", "placePeople", "(I)V"⟩, 18)]
theorem lw_r2 : ∀ q ∈ lw_privs_2, lw_okq q := List.forall_mem_cons.mpr ⟨lw_p16, List.forall_mem_cons.mpr ⟨lw_p17, List.forall_mem_cons.mpr ⟨lw_p18, List.forall_mem_cons.mpr ⟨lw_p19, List.forall_mem_cons.mpr ⟨lw_p20, List.forall_mem_cons.mpr ⟨lw_p21, List.forall_mem_cons.mpr ⟨lw_p22, List.forall_mem_cons.mpr ⟨lw_p23, List.forall_mem_cons.mpr ⟨lw_p24, List.forall_mem_cons.mpr ⟨lw_p25, List.forall_mem_cons.mpr ⟨lw_p26, List.forall_mem_cons.mpr ⟨lw_p27, List.forall_mem_cons.mpr ⟨lw_p28, List.forall_mem_cons.mpr ⟨lw_p29, List.forall_mem_cons.mpr ⟨lw_p30, List.forall_mem_cons.mpr ⟨lw_p31, fun _ h => absurd h List.not_mem_nil⟩⟩⟩⟩⟩⟩⟩⟩⟩⟩⟩⟩⟩⟩⟩⟩
theorem lw_p32 : lw_okq (⟨"BornAboard$Day", "placeTrains", "()V"⟩, 18) := ⟨⟨by decide +kernel, by decide +kernel⟩, List.mem_of_getElem? (i := 266) (by decide +kernel), List.mem_of_getElem? (i := 818) (by decide +kernel), List.mem_of_getElem? (i := 819) (by decide +kernel)⟩
theorem lw_p33 : lw_okq (⟨"BornAboard$Day", "firstDue", "(I)I"⟩, 18) := ⟨⟨by decide +kernel, by decide +kernel⟩, List.mem_of_getElem? (i := 266) (by decide +kernel), List.mem_of_getElem? (i := 822) (by decide +kernel), List.mem_of_getElem? (i := 823) (by decide +kernel)⟩
theorem lw_p34 : lw_okq (⟨"BornAboard$Day", "come", "(I)V"⟩, 18) := ⟨⟨by decide +kernel, by decide +kernel⟩, List.mem_of_getElem? (i := 266) (by decide +kernel), List.mem_of_getElem? (i := 826) (by decide +kernel), List.mem_of_getElem? (i := 827) (by decide +kernel)⟩
theorem lw_p35 : lw_okq (⟨"BornAboard$Day", "letOff", "(IIZ)V"⟩, 18) := ⟨⟨by decide +kernel, by decide +kernel⟩, List.mem_of_getElem? (i := 266) (by decide +kernel), List.mem_of_getElem? (i := 830) (by decide +kernel), List.mem_of_getElem? (i := 831) (by decide +kernel)⟩
theorem lw_p36 : lw_okq (⟨"BornAboard$Day", "letOn", "(IIZ)V"⟩, 18) := ⟨⟨by decide +kernel, by decide +kernel⟩, List.mem_of_getElem? (i := 266) (by decide +kernel), List.mem_of_getElem? (i := 835) (by decide +kernel), List.mem_of_getElem? (i := 836) (by decide +kernel)⟩
theorem lw_p37 : lw_okq (⟨"BornAboard$Day", "headFor", "(II)V"⟩, 18) := ⟨⟨by decide +kernel, by decide +kernel⟩, List.mem_of_getElem? (i := 266) (by decide +kernel), List.mem_of_getElem? (i := 840) (by decide +kernel), List.mem_of_getElem? (i := 841) (by decide +kernel)⟩
theorem lw_p38 : lw_okq (⟨"BornAboard", "passYears", "(LBornAboard$People;I)I"⟩, 12) := ⟨⟨by decide +kernel, by decide +kernel⟩, List.mem_of_getElem? (i := 21) (by decide +kernel), List.mem_of_getElem? (i := 848) (by decide +kernel), List.mem_of_getElem? (i := 849) (by decide +kernel)⟩
theorem lw_p39 : lw_okq (⟨"BornAboard", "ageAll", "(LBornAboard$People;)I"⟩, 12) := ⟨⟨by decide +kernel, by decide +kernel⟩, List.mem_of_getElem? (i := 21) (by decide +kernel), List.mem_of_getElem? (i := 852) (by decide +kernel), List.mem_of_getElem? (i := 853) (by decide +kernel)⟩
theorem lw_p40 : lw_okq (⟨"BornAboard", "drawOfHundred", "()I"⟩, 12) := ⟨⟨by decide +kernel, by decide +kernel⟩, List.mem_of_getElem? (i := 21) (by decide +kernel), List.mem_of_getElem? (i := 856) (by decide +kernel), List.mem_of_getElem? (i := 857) (by decide +kernel)⟩
theorem lw_p41 : lw_okq (⟨"BornAboard", "coinOrBits", "(II)I"⟩, 12) := ⟨⟨by decide +kernel, by decide +kernel⟩, List.mem_of_getElem? (i := 21) (by decide +kernel), List.mem_of_getElem? (i := 921) (by decide +kernel), List.mem_of_getElem? (i := 922) (by decide +kernel)⟩
theorem lw_p42 : lw_okq (⟨"BornAboard$Hirings", "isHiring", "(I)Z"⟩, 5) := ⟨⟨by decide +kernel, by decide +kernel⟩, List.mem_of_getElem? (i := 402) (by decide +kernel), List.mem_of_getElem? (i := 934) (by decide +kernel), List.mem_of_getElem? (i := 935) (by decide +kernel)⟩
theorem lw_p43 : lw_okq (⟨"BornAboard$Hirings", "isSmaller", "(II)Z"⟩, 5) := ⟨⟨by decide +kernel, by decide +kernel⟩, List.mem_of_getElem? (i := 402) (by decide +kernel), List.mem_of_getElem? (i := 971) (by decide +kernel), List.mem_of_getElem? (i := 972) (by decide +kernel)⟩
theorem lw_p44 : lw_okq (⟨"BornAboard", "canBeSeen", "(II)Z"⟩, 12) := ⟨⟨by decide +kernel, by decide +kernel⟩, List.mem_of_getElem? (i := 21) (by decide +kernel), List.mem_of_getElem? (i := 996) (by decide +kernel), List.mem_of_getElem? (i := 997) (by decide +kernel)⟩
theorem lw_p45 : lw_okq (⟨"BornAboard", "stopsBy", "(II)I"⟩, 12) := ⟨⟨by decide +kernel, by decide +kernel⟩, List.mem_of_getElem? (i := 21) (by decide +kernel), List.mem_of_getElem? (i := 1001) (by decide +kernel), List.mem_of_getElem? (i := 1002) (by decide +kernel)⟩
theorem lw_p46 : lw_okq (⟨"BornAboard", "isImage", "()Z"⟩, 12) := ⟨⟨by decide +kernel, by decide +kernel⟩, List.mem_of_getElem? (i := 21) (by decide +kernel), List.mem_of_getElem? (i := 1056) (by decide +kernel), List.mem_of_getElem? (i := 1057) (by decide +kernel)⟩
theorem lw_p47 : lw_okq (⟨"BornAboard", "isPersonImage", "(II)Z"⟩, 12) := ⟨⟨by decide +kernel, by decide +kernel⟩, List.mem_of_getElem? (i := 21) (by decide +kernel), List.mem_of_getElem? (i := 1060) (by decide +kernel), List.mem_of_getElem? (i := 1061) (by decide +kernel)⟩
def lw_privs_3 : List (MethodName × Nat) := [(⟨"BornAboard$Day", "placeTrains", "()V"⟩, 18), (⟨"BornAboard$Day", "firstDue", "(I)I"⟩, 18), (⟨"BornAboard$Day", "come", "(I)V"⟩, 18), (⟨"BornAboard$Day", "letOff", "(IIZ)V"⟩, 18), (⟨"BornAboard$Day", "letOn", "(IIZ)V"⟩, 18), (⟨"BornAboard$Day", "headFor", "(II)V"⟩, 18), (⟨"BornAboard", "passYears", "(LBornAboard$People;I)I"⟩, 12), (⟨"BornAboard", "ageAll", "(LBornAboard$People;)I"⟩, 12), (⟨"BornAboard", "drawOfHundred", "()I"⟩, 12), (⟨"BornAboard", "coinOrBits", "(II)I"⟩, 12), (⟨"BornAboard$Hirings", "isHiring", "(I)Z"⟩, 5), (⟨"BornAboard$Hirings", "isSmaller", "(II)Z"⟩, 5), (⟨"BornAboard", "canBeSeen", "(II)Z"⟩, 12), (⟨"BornAboard", "stopsBy", "(II)I"⟩, 12), (⟨"BornAboard", "isImage", "()Z"⟩, 12), (⟨"BornAboard", "isPersonImage", "(II)Z"⟩, 12)]
theorem lw_r3 : ∀ q ∈ lw_privs_3, lw_okq q := List.forall_mem_cons.mpr ⟨lw_p32, List.forall_mem_cons.mpr ⟨lw_p33, List.forall_mem_cons.mpr ⟨lw_p34, List.forall_mem_cons.mpr ⟨lw_p35, List.forall_mem_cons.mpr ⟨lw_p36, List.forall_mem_cons.mpr ⟨lw_p37, List.forall_mem_cons.mpr ⟨lw_p38, List.forall_mem_cons.mpr ⟨lw_p39, List.forall_mem_cons.mpr ⟨lw_p40, List.forall_mem_cons.mpr ⟨lw_p41, List.forall_mem_cons.mpr ⟨lw_p42, List.forall_mem_cons.mpr ⟨lw_p43, List.forall_mem_cons.mpr ⟨lw_p44, List.forall_mem_cons.mpr ⟨lw_p45, List.forall_mem_cons.mpr ⟨lw_p46, List.forall_mem_cons.mpr ⟨lw_p47, fun _ h => absurd h List.not_mem_nil⟩⟩⟩⟩⟩⟩⟩⟩⟩⟩⟩⟩⟩⟩⟩⟩
theorem lw_p48 : lw_okq (⟨"BornAboard", "takeImage", "()V"⟩, 12) := ⟨⟨by decide +kernel, by decide +kernel⟩, List.mem_of_getElem? (i := 21) (by decide +kernel), List.mem_of_getElem? (i := 1064) (by decide +kernel), List.mem_of_getElem? (i := 1065) (by decide +kernel)⟩
theorem lw_p49 : lw_okq (⟨"BornAboardModel", "refuses", "(I)I"⟩, 65) := ⟨⟨by decide +kernel, by decide +kernel⟩, List.mem_of_getElem? (i := 1072) (by decide +kernel), List.mem_of_getElem? (i := 1279) (by decide +kernel), List.mem_of_getElem? (i := 1280) (by decide +kernel)⟩
theorem lw_p50 : lw_okq (⟨"BornAboardModel", "put", "(I)V"⟩, 65) := ⟨⟨by decide +kernel, by decide +kernel⟩, List.mem_of_getElem? (i := 1072) (by decide +kernel), List.mem_of_getElem? (i := 1283) (by decide +kernel), List.mem_of_getElem? (i := 1284) (by decide +kernel)⟩
theorem lw_p51 : lw_okq (⟨"BornAboardModel", "ahead", "()V"⟩, 65) := ⟨⟨by decide +kernel, by decide +kernel⟩, List.mem_of_getElem? (i := 1072) (by decide +kernel), List.mem_of_getElem? (i := 1295) (by decide +kernel), List.mem_of_getElem? (i := 1296) (by decide +kernel)⟩
theorem lw_p52 : lw_okq (⟨"BornAboardModel", "isOwn", "(J)Z"⟩, 65) := ⟨⟨by decide +kernel, by decide +kernel⟩, List.mem_of_getElem? (i := 1072) (by decide +kernel), List.mem_of_getElem? (i := 1305) (by decide +kernel), List.mem_of_getElem? (i := 1306) (by decide +kernel)⟩
theorem lw_p53 : lw_okq (⟨"BornAboardModel", "statement", "()V"⟩, 65) := ⟨⟨by decide +kernel, by decide +kernel⟩, List.mem_of_getElem? (i := 1072) (by decide +kernel), List.mem_of_getElem? (i := 1322) (by decide +kernel), List.mem_of_getElem? (i := 1323) (by decide +kernel)⟩
theorem lw_p54 : lw_okq (⟨"BornAboardModel", "lex", "()V"⟩, 65) := ⟨⟨by decide +kernel, by decide +kernel⟩, List.mem_of_getElem? (i := 1072) (by decide +kernel), List.mem_of_getElem? (i := 1326) (by decide +kernel), List.mem_of_getElem? (i := 1327) (by decide +kernel)⟩
theorem lw_p55 : lw_okq (⟨"BornAboardModel", "blame", "(II)V"⟩, 65) := ⟨⟨by decide +kernel, by decide +kernel⟩, List.mem_of_getElem? (i := 1072) (by decide +kernel), List.mem_of_getElem? (i := 1330) (by decide +kernel), List.mem_of_getElem? (i := 1331) (by decide +kernel)⟩
theorem lw_p56 : lw_okq (⟨"BornAboardModel", "isWord", "(J)Z"⟩, 65) := ⟨⟨by decide +kernel, by decide +kernel⟩, List.mem_of_getElem? (i := 1072) (by decide +kernel), List.mem_of_getElem? (i := 1334) (by decide +kernel), List.mem_of_getElem? (i := 1335) (by decide +kernel)⟩
theorem lw_p57 : lw_okq (⟨"BornAboardModel", "stationing", "()V"⟩, 65) := ⟨⟨by decide +kernel, by decide +kernel⟩, List.mem_of_getElem? (i := 1072) (by decide +kernel), List.mem_of_getElem? (i := 1338) (by decide +kernel), List.mem_of_getElem? (i := 1339) (by decide +kernel)⟩
theorem lw_p58 : lw_okq (⟨"BornAboardModel", "counts", "(Z)Z"⟩, 65) := ⟨⟨by decide +kernel, by decide +kernel⟩, List.mem_of_getElem? (i := 1072) (by decide +kernel), List.mem_of_getElem? (i := 1342) (by decide +kernel), List.mem_of_getElem? (i := 1343) (by decide +kernel)⟩
theorem lw_p59 : lw_okq (⟨"BornAboardModel", "fresh", "()J"⟩, 65) := ⟨⟨by decide +kernel, by decide +kernel⟩, List.mem_of_getElem? (i := 1072) (by decide +kernel), List.mem_of_getElem? (i := 1346) (by decide +kernel), List.mem_of_getElem? (i := 1347) (by decide +kernel)⟩
theorem lw_p60 : lw_okq (⟨"BornAboardModel", "named", "(IJ)I"⟩, 65) := ⟨⟨by decide +kernel, by decide +kernel⟩, List.mem_of_getElem? (i := 1072) (by decide +kernel), List.mem_of_getElem? (i := 1350) (by decide +kernel), List.mem_of_getElem? (i := 1351) (by decide +kernel)⟩
theorem lw_p61 : lw_okq (⟨"BornAboardModel", "manyOf", "(II)I"⟩, 65) := ⟨⟨by decide +kernel, by decide +kernel⟩, List.mem_of_getElem? (i := 1072) (by decide +kernel), List.mem_of_getElem? (i := 1354) (by decide +kernel), List.mem_of_getElem? (i := 1355) (by decide +kernel)⟩
theorem lw_p62 : lw_okq (⟨"BornAboardModel", "nameOf", "(III)J"⟩, 65) := ⟨⟨by decide +kernel, by decide +kernel⟩, List.mem_of_getElem? (i := 1072) (by decide +kernel), List.mem_of_getElem? (i := 1358) (by decide +kernel), List.mem_of_getElem? (i := 1359) (by decide +kernel)⟩
theorem lw_p63 : lw_okq (⟨"BornAboardModel", "stopping", "()V"⟩, 65) := ⟨⟨by decide +kernel, by decide +kernel⟩, List.mem_of_getElem? (i := 1072) (by decide +kernel), List.mem_of_getElem? (i := 1362) (by decide +kernel), List.mem_of_getElem? (i := 1363) (by decide +kernel)⟩
def lw_privs_4 : List (MethodName × Nat) := [(⟨"BornAboard", "takeImage", "()V"⟩, 12), (⟨"BornAboardModel", "refuses", "(I)I"⟩, 65), (⟨"BornAboardModel", "put", "(I)V"⟩, 65), (⟨"BornAboardModel", "ahead", "()V"⟩, 65), (⟨"BornAboardModel", "isOwn", "(J)Z"⟩, 65), (⟨"BornAboardModel", "statement", "()V"⟩, 65), (⟨"BornAboardModel", "lex", "()V"⟩, 65), (⟨"BornAboardModel", "blame", "(II)V"⟩, 65), (⟨"BornAboardModel", "isWord", "(J)Z"⟩, 65), (⟨"BornAboardModel", "stationing", "()V"⟩, 65), (⟨"BornAboardModel", "counts", "(Z)Z"⟩, 65), (⟨"BornAboardModel", "fresh", "()J"⟩, 65), (⟨"BornAboardModel", "named", "(IJ)I"⟩, 65), (⟨"BornAboardModel", "manyOf", "(II)I"⟩, 65), (⟨"BornAboardModel", "nameOf", "(III)J"⟩, 65), (⟨"BornAboardModel", "stopping", "()V"⟩, 65)]
theorem lw_r4 : ∀ q ∈ lw_privs_4, lw_okq q := List.forall_mem_cons.mpr ⟨lw_p48, List.forall_mem_cons.mpr ⟨lw_p49, List.forall_mem_cons.mpr ⟨lw_p50, List.forall_mem_cons.mpr ⟨lw_p51, List.forall_mem_cons.mpr ⟨lw_p52, List.forall_mem_cons.mpr ⟨lw_p53, List.forall_mem_cons.mpr ⟨lw_p54, List.forall_mem_cons.mpr ⟨lw_p55, List.forall_mem_cons.mpr ⟨lw_p56, List.forall_mem_cons.mpr ⟨lw_p57, List.forall_mem_cons.mpr ⟨lw_p58, List.forall_mem_cons.mpr ⟨lw_p59, List.forall_mem_cons.mpr ⟨lw_p60, List.forall_mem_cons.mpr ⟨lw_p61, List.forall_mem_cons.mpr ⟨lw_p62, List.forall_mem_cons.mpr ⟨lw_p63, fun _ h => absurd h List.not_mem_nil⟩⟩⟩⟩⟩⟩⟩⟩⟩⟩⟩⟩⟩⟩⟩⟩
theorem lw_p64 : lw_okq (⟨"BornAboardModel", "number", "(II)I"⟩, 65) := ⟨⟨by decide +kernel, by decide +kernel⟩, List.mem_of_getElem? (i := 1072) (by decide +kernel), List.mem_of_getElem? (i := 1366) (by decide +kernel), List.mem_of_getElem? (i := 1367) (by decide +kernel)⟩
theorem lw_p65 : lw_okq (⟨"BornAboardModel", "training", "()V"⟩, 65) := ⟨⟨by decide +kernel, by decide +kernel⟩, List.mem_of_getElem? (i := 1072) (by decide +kernel), List.mem_of_getElem? (i := 1373) (by decide +kernel), List.mem_of_getElem? (i := 1374) (by decide +kernel)⟩
theorem lw_p66 : lw_okq (⟨"BornAboardModel", "must", "(J)V"⟩, 65) := ⟨⟨by decide +kernel, by decide +kernel⟩, List.mem_of_getElem? (i := 1072) (by decide +kernel), List.mem_of_getElem? (i := 1377) (by decide +kernel), List.mem_of_getElem? (i := 1378) (by decide +kernel)⟩
theorem lw_p67 : lw_okq (⟨"BornAboardModel", "calling", "(II)V"⟩, 65) := ⟨⟨by decide +kernel, by decide +kernel⟩, List.mem_of_getElem? (i := 1072) (by decide +kernel), List.mem_of_getElem? (i := 1381) (by decide +kernel), List.mem_of_getElem? (i := 1382) (by decide +kernel)⟩
theorem lw_p68 : lw_okq (⟨"BornAboardModel", "looked", "()I"⟩, 65) := ⟨⟨by decide +kernel, by decide +kernel⟩, List.mem_of_getElem? (i := 1072) (by decide +kernel), List.mem_of_getElem? (i := 1385) (by decide +kernel), List.mem_of_getElem? (i := 1386) (by decide +kernel)⟩
theorem lw_p69 : lw_okq (⟨"BornAboardModel", "personing", "()V"⟩, 65) := ⟨⟨by decide +kernel, by decide +kernel⟩, List.mem_of_getElem? (i := 1072) (by decide +kernel), List.mem_of_getElem? (i := 1389) (by decide +kernel), List.mem_of_getElem? (i := 1390) (by decide +kernel)⟩
theorem lw_p70 : lw_okq (⟨"BornAboardModel", "asked", "()I"⟩, 65) := ⟨⟨by decide +kernel, by decide +kernel⟩, List.mem_of_getElem? (i := 1072) (by decide +kernel), List.mem_of_getElem? (i := 1393) (by decide +kernel), List.mem_of_getElem? (i := 1394) (by decide +kernel)⟩
theorem lw_p71 : lw_okq (⟨"BornAboardModel", "finishes", "(I)V"⟩, 65) := ⟨⟨by decide +kernel, by decide +kernel⟩, List.mem_of_getElem? (i := 1072) (by decide +kernel), List.mem_of_getElem? (i := 1397) (by decide +kernel), List.mem_of_getElem? (i := 1398) (by decide +kernel)⟩
theorem lw_p72 : lw_okq (⟨"BornAboardModel", "isSign", "(I)Z"⟩, 65) := ⟨⟨by decide +kernel, by decide +kernel⟩, List.mem_of_getElem? (i := 1072) (by decide +kernel), List.mem_of_getElem? (i := 1401) (by decide +kernel), List.mem_of_getElem? (i := 1402) (by decide +kernel)⟩
theorem lw_p73 : lw_okq (⟨"BornAboardModel", "must", "(I)V"⟩, 65) := ⟨⟨by decide +kernel, by decide +kernel⟩, List.mem_of_getElem? (i := 1072) (by decide +kernel), List.mem_of_getElem? (i := 1405) (by decide +kernel), List.mem_of_getElem? (i := 1406) (by decide +kernel)⟩
theorem lw_p74 : lw_okq (⟨"BornAboardModel", "begin", "()V"⟩, 65) := ⟨⟨by decide +kernel, by decide +kernel⟩, List.mem_of_getElem? (i := 1072) (by decide +kernel), List.mem_of_getElem? (i := 1409) (by decide +kernel), List.mem_of_getElem? (i := 1410) (by decide +kernel)⟩
theorem lw_p75 : lw_okq (⟨"BornAboardModel", "ring", "(I)I"⟩, 65) := ⟨⟨by decide +kernel, by decide +kernel⟩, List.mem_of_getElem? (i := 1072) (by decide +kernel), List.mem_of_getElem? (i := 1425) (by decide +kernel), List.mem_of_getElem? (i := 1426) (by decide +kernel)⟩
theorem lw_p76 : lw_okq (⟨"BornAboardModel", "copies", "(II)V"⟩, 65) := ⟨⟨by decide +kernel, by decide +kernel⟩, List.mem_of_getElem? (i := 1072) (by decide +kernel), List.mem_of_getElem? (i := 1429) (by decide +kernel), List.mem_of_getElem? (i := 1430) (by decide +kernel)⟩
theorem lw_p77 : lw_okq (⟨"BornAboardModel", "priceOf", "(I)I"⟩, 65) := ⟨⟨by decide +kernel, by decide +kernel⟩, List.mem_of_getElem? (i := 1072) (by decide +kernel), List.mem_of_getElem? (i := 1437) (by decide +kernel), List.mem_of_getElem? (i := 1438) (by decide +kernel)⟩
theorem lw_p78 : lw_okq (⟨"BornAboardModel", "deadMany", "()I"⟩, 65) := ⟨⟨by decide +kernel, by decide +kernel⟩, List.mem_of_getElem? (i := 1072) (by decide +kernel), List.mem_of_getElem? (i := 1441) (by decide +kernel), List.mem_of_getElem? (i := 1442) (by decide +kernel)⟩
theorem lw_p79 : lw_okq (⟨"BornAboardModel", "isDead", "(II)Z"⟩, 65) := ⟨⟨by decide +kernel, by decide +kernel⟩, List.mem_of_getElem? (i := 1072) (by decide +kernel), List.mem_of_getElem? (i := 1445) (by decide +kernel), List.mem_of_getElem? (i := 1446) (by decide +kernel)⟩
def lw_privs_5 : List (MethodName × Nat) := [(⟨"BornAboardModel", "number", "(II)I"⟩, 65), (⟨"BornAboardModel", "training", "()V"⟩, 65), (⟨"BornAboardModel", "must", "(J)V"⟩, 65), (⟨"BornAboardModel", "calling", "(II)V"⟩, 65), (⟨"BornAboardModel", "looked", "()I"⟩, 65), (⟨"BornAboardModel", "personing", "()V"⟩, 65), (⟨"BornAboardModel", "asked", "()I"⟩, 65), (⟨"BornAboardModel", "finishes", "(I)V"⟩, 65), (⟨"BornAboardModel", "isSign", "(I)Z"⟩, 65), (⟨"BornAboardModel", "must", "(I)V"⟩, 65), (⟨"BornAboardModel", "begin", "()V"⟩, 65), (⟨"BornAboardModel", "ring", "(I)I"⟩, 65), (⟨"BornAboardModel", "copies", "(II)V"⟩, 65), (⟨"BornAboardModel", "priceOf", "(I)I"⟩, 65), (⟨"BornAboardModel", "deadMany", "()I"⟩, 65), (⟨"BornAboardModel", "isDead", "(II)Z"⟩, 65)]
theorem lw_r5 : ∀ q ∈ lw_privs_5, lw_okq q := List.forall_mem_cons.mpr ⟨lw_p64, List.forall_mem_cons.mpr ⟨lw_p65, List.forall_mem_cons.mpr ⟨lw_p66, List.forall_mem_cons.mpr ⟨lw_p67, List.forall_mem_cons.mpr ⟨lw_p68, List.forall_mem_cons.mpr ⟨lw_p69, List.forall_mem_cons.mpr ⟨lw_p70, List.forall_mem_cons.mpr ⟨lw_p71, List.forall_mem_cons.mpr ⟨lw_p72, List.forall_mem_cons.mpr ⟨lw_p73, List.forall_mem_cons.mpr ⟨lw_p74, List.forall_mem_cons.mpr ⟨lw_p75, List.forall_mem_cons.mpr ⟨lw_p76, List.forall_mem_cons.mpr ⟨lw_p77, List.forall_mem_cons.mpr ⟨lw_p78, List.forall_mem_cons.mpr ⟨lw_p79, fun _ h => absurd h List.not_mem_nil⟩⟩⟩⟩⟩⟩⟩⟩⟩⟩⟩⟩⟩⟩⟩⟩
theorem lw_p80 : lw_okq (⟨"BornAboardModel", "isBornAt", "(II)Z"⟩, 65) := ⟨⟨by decide +kernel, by decide +kernel⟩, List.mem_of_getElem? (i := 1072) (by decide +kernel), List.mem_of_getElem? (i := 1449) (by decide +kernel), List.mem_of_getElem? (i := 1450) (by decide +kernel)⟩
theorem lw_p81 : lw_okq (⟨"BornAboardModel", "isStation", "(I)Z"⟩, 65) := ⟨⟨by decide +kernel, by decide +kernel⟩, List.mem_of_getElem? (i := 1072) (by decide +kernel), List.mem_of_getElem? (i := 1462) (by decide +kernel), List.mem_of_getElem? (i := 1463) (by decide +kernel)⟩
theorem lw_p82 : lw_okq (⟨"BornAboardModel", "comesLater", "(III)Z"⟩, 65) := ⟨⟨by decide +kernel, by decide +kernel⟩, List.mem_of_getElem? (i := 1072) (by decide +kernel), List.mem_of_getElem? (i := 1466) (by decide +kernel), List.mem_of_getElem? (i := 1467) (by decide +kernel)⟩
theorem lw_p83 : lw_okq (⟨"BornAboardModel", "callsOf", "(I)I"⟩, 65) := ⟨⟨by decide +kernel, by decide +kernel⟩, List.mem_of_getElem? (i := 1072) (by decide +kernel), List.mem_of_getElem? (i := 1470) (by decide +kernel), List.mem_of_getElem? (i := 1471) (by decide +kernel)⟩
theorem lw_p84 : lw_okq (⟨"BornAboardModel", "callOf", "(II)I"⟩, 65) := ⟨⟨by decide +kernel, by decide +kernel⟩, List.mem_of_getElem? (i := 1072) (by decide +kernel), List.mem_of_getElem? (i := 1474) (by decide +kernel), List.mem_of_getElem? (i := 1475) (by decide +kernel)⟩
theorem lw_p85 : lw_okq (⟨"BornAboardModel", "isTrain", "(I)Z"⟩, 65) := ⟨⟨by decide +kernel, by decide +kernel⟩, List.mem_of_getElem? (i := 1072) (by decide +kernel), List.mem_of_getElem? (i := 1482) (by decide +kernel), List.mem_of_getElem? (i := 1483) (by decide +kernel)⟩
theorem lw_p86 : lw_okq (⟨"BornAboardModel", "afterOf", "(II)I"⟩, 65) := ⟨⟨by decide +kernel, by decide +kernel⟩, List.mem_of_getElem? (i := 1072) (by decide +kernel), List.mem_of_getElem? (i := 1486) (by decide +kernel), List.mem_of_getElem? (i := 1487) (by decide +kernel)⟩
theorem lw_p87 : lw_okq (⟨"BornAboardModel", "isPerson", "(I)Z"⟩, 65) := ⟨⟨by decide +kernel, by decide +kernel⟩, List.mem_of_getElem? (i := 1072) (by decide +kernel), List.mem_of_getElem? (i := 1494) (by decide +kernel), List.mem_of_getElem? (i := 1495) (by decide +kernel)⟩
theorem lw_p88 : lw_okq (⟨"BornAboardModel", "keeps", "()V"⟩, 65) := ⟨⟨by decide +kernel, by decide +kernel⟩, List.mem_of_getElem? (i := 1072) (by decide +kernel), List.mem_of_getElem? (i := 1502) (by decide +kernel), List.mem_of_getElem? (i := 1503) (by decide +kernel)⟩
theorem lw_p89 : lw_okq (⟨"BornAboardModel", "dayOf", "(I)V"⟩, 65) := ⟨⟨by decide +kernel, by decide +kernel⟩, List.mem_of_getElem? (i := 1072) (by decide +kernel), List.mem_of_getElem? (i := 1518) (by decide +kernel), List.mem_of_getElem? (i := 1519) (by decide +kernel)⟩
theorem lw_p90 : lw_okq (⟨"BornAboardModel", "happens", "(I)V"⟩, 65) := ⟨⟨by decide +kernel, by decide +kernel⟩, List.mem_of_getElem? (i := 1072) (by decide +kernel), List.mem_of_getElem? (i := 1522) (by decide +kernel), List.mem_of_getElem? (i := 1523) (by decide +kernel)⟩
theorem lw_p91 : lw_okq (⟨"BornAboardModel", "stopsAt", "(II)Z"⟩, 65) := ⟨⟨by decide +kernel, by decide +kernel⟩, List.mem_of_getElem? (i := 1072) (by decide +kernel), List.mem_of_getElem? (i := 1526) (by decide +kernel), List.mem_of_getElem? (i := 1527) (by decide +kernel)⟩
theorem lw_p92 : lw_okq (⟨"BornAboardModel", "getOff", "(III)V"⟩, 65) := ⟨⟨by decide +kernel, by decide +kernel⟩, List.mem_of_getElem? (i := 1072) (by decide +kernel), List.mem_of_getElem? (i := 1530) (by decide +kernel), List.mem_of_getElem? (i := 1531) (by decide +kernel)⟩
theorem lw_p93 : lw_okq (⟨"BornAboardModel", "isHired", "(I)Z"⟩, 65) := ⟨⟨by decide +kernel, by decide +kernel⟩, List.mem_of_getElem? (i := 1072) (by decide +kernel), List.mem_of_getElem? (i := 1534) (by decide +kernel), List.mem_of_getElem? (i := 1535) (by decide +kernel)⟩
theorem lw_p94 : lw_okq (⟨"BornAboardModel", "wishOf", "(I)I"⟩, 65) := ⟨⟨by decide +kernel, by decide +kernel⟩, List.mem_of_getElem? (i := 1072) (by decide +kernel), List.mem_of_getElem? (i := 1538) (by decide +kernel), List.mem_of_getElem? (i := 1539) (by decide +kernel)⟩
theorem lw_p95 : lw_okq (⟨"BornAboardModel", "getsOff", "(III)V"⟩, 65) := ⟨⟨by decide +kernel, by decide +kernel⟩, List.mem_of_getElem? (i := 1072) (by decide +kernel), List.mem_of_getElem? (i := 1542) (by decide +kernel), List.mem_of_getElem? (i := 1543) (by decide +kernel)⟩
def lw_privs_6 : List (MethodName × Nat) := [(⟨"BornAboardModel", "isBornAt", "(II)Z"⟩, 65), (⟨"BornAboardModel", "isStation", "(I)Z"⟩, 65), (⟨"BornAboardModel", "comesLater", "(III)Z"⟩, 65), (⟨"BornAboardModel", "callsOf", "(I)I"⟩, 65), (⟨"BornAboardModel", "callOf", "(II)I"⟩, 65), (⟨"BornAboardModel", "isTrain", "(I)Z"⟩, 65), (⟨"BornAboardModel", "afterOf", "(II)I"⟩, 65), (⟨"BornAboardModel", "isPerson", "(I)Z"⟩, 65), (⟨"BornAboardModel", "keeps", "()V"⟩, 65), (⟨"BornAboardModel", "dayOf", "(I)V"⟩, 65), (⟨"BornAboardModel", "happens", "(I)V"⟩, 65), (⟨"BornAboardModel", "stopsAt", "(II)Z"⟩, 65), (⟨"BornAboardModel", "getOff", "(III)V"⟩, 65), (⟨"BornAboardModel", "isHired", "(I)Z"⟩, 65), (⟨"BornAboardModel", "wishOf", "(I)I"⟩, 65), (⟨"BornAboardModel", "getsOff", "(III)V"⟩, 65)]
theorem lw_r6 : ∀ q ∈ lw_privs_6, lw_okq q := List.forall_mem_cons.mpr ⟨lw_p80, List.forall_mem_cons.mpr ⟨lw_p81, List.forall_mem_cons.mpr ⟨lw_p82, List.forall_mem_cons.mpr ⟨lw_p83, List.forall_mem_cons.mpr ⟨lw_p84, List.forall_mem_cons.mpr ⟨lw_p85, List.forall_mem_cons.mpr ⟨lw_p86, List.forall_mem_cons.mpr ⟨lw_p87, List.forall_mem_cons.mpr ⟨lw_p88, List.forall_mem_cons.mpr ⟨lw_p89, List.forall_mem_cons.mpr ⟨lw_p90, List.forall_mem_cons.mpr ⟨lw_p91, List.forall_mem_cons.mpr ⟨lw_p92, List.forall_mem_cons.mpr ⟨lw_p93, List.forall_mem_cons.mpr ⟨lw_p94, List.forall_mem_cons.mpr ⟨lw_p95, fun _ h => absurd h List.not_mem_nil⟩⟩⟩⟩⟩⟩⟩⟩⟩⟩⟩⟩⟩⟩⟩⟩
theorem lw_p96 : lw_okq (⟨"BornAboardModel", "getOn", "(III)V"⟩, 65) := ⟨⟨by decide +kernel, by decide +kernel⟩, List.mem_of_getElem? (i := 1072) (by decide +kernel), List.mem_of_getElem? (i := 1546) (by decide +kernel), List.mem_of_getElem? (i := 1547) (by decide +kernel)⟩
theorem lw_p97 : lw_okq (⟨"BornAboardModel", "aboardOf", "(I)I"⟩, 65) := ⟨⟨by decide +kernel, by decide +kernel⟩, List.mem_of_getElem? (i := 1072) (by decide +kernel), List.mem_of_getElem? (i := 1550) (by decide +kernel), List.mem_of_getElem? (i := 1551) (by decide +kernel)⟩
theorem lw_p98 : lw_okq (⟨"BornAboardModel", "stopsBetween", "(II)Z"⟩, 65) := ⟨⟨by decide +kernel, by decide +kernel⟩, List.mem_of_getElem? (i := 1072) (by decide +kernel), List.mem_of_getElem? (i := 1554) (by decide +kernel), List.mem_of_getElem? (i := 1555) (by decide +kernel)⟩
theorem lw_p99 : lw_okq (⟨"BornAboardModel", "isBornBetween", "(III)Z"⟩, 65) := ⟨⟨by decide +kernel, by decide +kernel⟩, List.mem_of_getElem? (i := 1072) (by decide +kernel), List.mem_of_getElem? (i := 1558) (by decide +kernel), List.mem_of_getElem? (i := 1559) (by decide +kernel)⟩
theorem lw_p100 : lw_okq (⟨"BornAboardModel", "arrivedMany", "()I"⟩, 65) := ⟨⟨by decide +kernel, by decide +kernel⟩, List.mem_of_getElem? (i := 1072) (by decide +kernel), List.mem_of_getElem? (i := 1562) (by decide +kernel), List.mem_of_getElem? (i := 1563) (by decide +kernel)⟩
theorem lw_p101 : lw_okq (⟨"BornAboardModel", "yearOf", "(I)I"⟩, 65) := ⟨⟨by decide +kernel, by decide +kernel⟩, List.mem_of_getElem? (i := 1072) (by decide +kernel), List.mem_of_getElem? (i := 1570) (by decide +kernel), List.mem_of_getElem? (i := 1571) (by decide +kernel)⟩
theorem lw_p102 : lw_okq (⟨"BornAboardModel", "draw", "(I)I"⟩, 65) := ⟨⟨by decide +kernel, by decide +kernel⟩, List.mem_of_getElem? (i := 1072) (by decide +kernel), List.mem_of_getElem? (i := 1574) (by decide +kernel), List.mem_of_getElem? (i := 1575) (by decide +kernel)⟩
theorem lw_p103 : lw_okq (⟨"BornAboardModel", "dies", "(I)V"⟩, 65) := ⟨⟨by decide +kernel, by decide +kernel⟩, List.mem_of_getElem? (i := 1072) (by decide +kernel), List.mem_of_getElem? (i := 1582) (by decide +kernel), List.mem_of_getElem? (i := 1583) (by decide +kernel)⟩
theorem lw_p104 : lw_okq (⟨"BornAboardModel", "isStranded", "(I)Z"⟩, 65) := ⟨⟨by decide +kernel, by decide +kernel⟩, List.mem_of_getElem? (i := 1072) (by decide +kernel), List.mem_of_getElem? (i := 1598) (by decide +kernel), List.mem_of_getElem? (i := 1599) (by decide +kernel)⟩
theorem lw_p105 : lw_okq (⟨"BornAboardModel", "stopMany", "(Z)I"⟩, 65) := ⟨⟨by decide +kernel, by decide +kernel⟩, List.mem_of_getElem? (i := 1072) (by decide +kernel), List.mem_of_getElem? (i := 1606) (by decide +kernel), List.mem_of_getElem? (i := 1607) (by decide +kernel)⟩
theorem lw_p106 : lw_okq (⟨"BornAboardModel", "good", "()I"⟩, 65) := ⟨⟨by decide +kernel, by decide +kernel⟩, List.mem_of_getElem? (i := 1072) (by decide +kernel), List.mem_of_getElem? (i := 1610) (by decide +kernel), List.mem_of_getElem? (i := 1611) (by decide +kernel)⟩
theorem lw_p107 : lw_okq (⟨"BornAboardModel", "isUnderWay", "(II)Z"⟩, 65) := ⟨⟨by decide +kernel, by decide +kernel⟩, List.mem_of_getElem? (i := 1072) (by decide +kernel), List.mem_of_getElem? (i := 1626) (by decide +kernel), List.mem_of_getElem? (i := 1627) (by decide +kernel)⟩
theorem lw_p108 : lw_okq (⟨"BornAboardModel", "goodOf", "(I)I"⟩, 65) := ⟨⟨by decide +kernel, by decide +kernel⟩, List.mem_of_getElem? (i := 1072) (by decide +kernel), List.mem_of_getElem? (i := 1634) (by decide +kernel), List.mem_of_getElem? (i := 1635) (by decide +kernel)⟩
theorem lw_p109 : lw_okq (⟨"BornAboardModel", "isSettled", "()Z"⟩, 65) := ⟨⟨by decide +kernel, by decide +kernel⟩, List.mem_of_getElem? (i := 1072) (by decide +kernel), List.mem_of_getElem? (i := 1638) (by decide +kernel), List.mem_of_getElem? (i := 1639) (by decide +kernel)⟩
theorem lw_p110 : lw_okq (⟨"BornAboardModel", "canHire", "(I)Z"⟩, 65) := ⟨⟨by decide +kernel, by decide +kernel⟩, List.mem_of_getElem? (i := 1072) (by decide +kernel), List.mem_of_getElem? (i := 1647) (by decide +kernel), List.mem_of_getElem? (i := 1648) (by decide +kernel)⟩
theorem lw_p111 : lw_okq (⟨"BornAboardModel", "coinOf", "(I)I"⟩, 65) := ⟨⟨by decide +kernel, by decide +kernel⟩, List.mem_of_getElem? (i := 1072) (by decide +kernel), List.mem_of_getElem? (i := 1651) (by decide +kernel), List.mem_of_getElem? (i := 1652) (by decide +kernel)⟩
def lw_privs_7 : List (MethodName × Nat) := [(⟨"BornAboardModel", "getOn", "(III)V"⟩, 65), (⟨"BornAboardModel", "aboardOf", "(I)I"⟩, 65), (⟨"BornAboardModel", "stopsBetween", "(II)Z"⟩, 65), (⟨"BornAboardModel", "isBornBetween", "(III)Z"⟩, 65), (⟨"BornAboardModel", "arrivedMany", "()I"⟩, 65), (⟨"BornAboardModel", "yearOf", "(I)I"⟩, 65), (⟨"BornAboardModel", "draw", "(I)I"⟩, 65), (⟨"BornAboardModel", "dies", "(I)V"⟩, 65), (⟨"BornAboardModel", "isStranded", "(I)Z"⟩, 65), (⟨"BornAboardModel", "stopMany", "(Z)I"⟩, 65), (⟨"BornAboardModel", "good", "()I"⟩, 65), (⟨"BornAboardModel", "isUnderWay", "(II)Z"⟩, 65), (⟨"BornAboardModel", "goodOf", "(I)I"⟩, 65), (⟨"BornAboardModel", "isSettled", "()Z"⟩, 65), (⟨"BornAboardModel", "canHire", "(I)Z"⟩, 65), (⟨"BornAboardModel", "coinOf", "(I)I"⟩, 65)]
theorem lw_r7 : ∀ q ∈ lw_privs_7, lw_okq q := List.forall_mem_cons.mpr ⟨lw_p96, List.forall_mem_cons.mpr ⟨lw_p97, List.forall_mem_cons.mpr ⟨lw_p98, List.forall_mem_cons.mpr ⟨lw_p99, List.forall_mem_cons.mpr ⟨lw_p100, List.forall_mem_cons.mpr ⟨lw_p101, List.forall_mem_cons.mpr ⟨lw_p102, List.forall_mem_cons.mpr ⟨lw_p103, List.forall_mem_cons.mpr ⟨lw_p104, List.forall_mem_cons.mpr ⟨lw_p105, List.forall_mem_cons.mpr ⟨lw_p106, List.forall_mem_cons.mpr ⟨lw_p107, List.forall_mem_cons.mpr ⟨lw_p108, List.forall_mem_cons.mpr ⟨lw_p109, List.forall_mem_cons.mpr ⟨lw_p110, List.forall_mem_cons.mpr ⟨lw_p111, fun _ h => absurd h List.not_mem_nil⟩⟩⟩⟩⟩⟩⟩⟩⟩⟩⟩⟩⟩⟩⟩⟩
theorem lw_p112 : lw_okq (⟨"BornAboardModel", "dayWith", "(I)V"⟩, 65) := ⟨⟨by decide +kernel, by decide +kernel⟩, List.mem_of_getElem? (i := 1072) (by decide +kernel), List.mem_of_getElem? (i := 1655) (by decide +kernel), List.mem_of_getElem? (i := 1656) (by decide +kernel)⟩
theorem lw_p113 : lw_okq (⟨"BornAboardModel", "isEachStopped", "()Z"⟩, 65) := ⟨⟨by decide +kernel, by decide +kernel⟩, List.mem_of_getElem? (i := 1072) (by decide +kernel), List.mem_of_getElem? (i := 1674) (by decide +kernel), List.mem_of_getElem? (i := 1675) (by decide +kernel)⟩
theorem lw_p114 : lw_okq (⟨"BornAboardModel", "stopsBy", "(II)I"⟩, 65) := ⟨⟨by decide +kernel, by decide +kernel⟩, List.mem_of_getElem? (i := 1072) (by decide +kernel), List.mem_of_getElem? (i := 1698) (by decide +kernel), List.mem_of_getElem? (i := 1699) (by decide +kernel)⟩
theorem lw_p115 : lw_okq (⟨"BornAboardModel", "writes", "(I)V"⟩, 65) := ⟨⟨by decide +kernel, by decide +kernel⟩, List.mem_of_getElem? (i := 1072) (by decide +kernel), List.mem_of_getElem? (i := 1714) (by decide +kernel), List.mem_of_getElem? (i := 1715) (by decide +kernel)⟩
theorem lw_p116 : lw_okq (⟨"BornAboardModel", "isImage", "(I)Z"⟩, 65) := ⟨⟨by decide +kernel, by decide +kernel⟩, List.mem_of_getElem? (i := 1072) (by decide +kernel), List.mem_of_getElem? (i := 1726) (by decide +kernel), List.mem_of_getElem? (i := 1727) (by decide +kernel)⟩
theorem lw_p117 : lw_okq (⟨"BornAboardModel", "isPersonOn", "(I)Z"⟩, 65) := ⟨⟨by decide +kernel, by decide +kernel⟩, List.mem_of_getElem? (i := 1072) (by decide +kernel), List.mem_of_getElem? (i := 1730) (by decide +kernel), List.mem_of_getElem? (i := 1731) (by decide +kernel)⟩
def lw_privs_8 : List (MethodName × Nat) := [(⟨"BornAboardModel", "dayWith", "(I)V"⟩, 65), (⟨"BornAboardModel", "isEachStopped", "()Z"⟩, 65), (⟨"BornAboardModel", "stopsBy", "(II)I"⟩, 65), (⟨"BornAboardModel", "writes", "(I)V"⟩, 65), (⟨"BornAboardModel", "isImage", "(I)Z"⟩, 65), (⟨"BornAboardModel", "isPersonOn", "(I)Z"⟩, 65)]
theorem lw_r8 : ∀ q ∈ lw_privs_8, lw_okq q := List.forall_mem_cons.mpr ⟨lw_p112, List.forall_mem_cons.mpr ⟨lw_p113, List.forall_mem_cons.mpr ⟨lw_p114, List.forall_mem_cons.mpr ⟨lw_p115, List.forall_mem_cons.mpr ⟨lw_p116, List.forall_mem_cons.mpr ⟨lw_p117, fun _ h => absurd h List.not_mem_nil⟩⟩⟩⟩⟩⟩
def lw_privs : List (MethodName × Nat) := lw_privs_1 ++ (lw_privs_2 ++ (lw_privs_3 ++ (lw_privs_4 ++ (lw_privs_5 ++ (lw_privs_6 ++ (lw_privs_7 ++ (lw_privs_8)))))))
def lw_tbl : List Cond := k2_sels lw_privs ++ tables_1
theorem lw_privs_ok : ∀ q ∈ lw_privs, lw_okq q := by
  show ∀ q ∈ lw_privs_1 ++ (lw_privs_2 ++ (lw_privs_3 ++ (lw_privs_4 ++ (lw_privs_5 ++ (lw_privs_6 ++ (lw_privs_7 ++ (lw_privs_8))))))), lw_okq q
  exact List.forall_mem_append.mpr ⟨lw_r1, List.forall_mem_append.mpr ⟨lw_r2, List.forall_mem_append.mpr ⟨lw_r3, List.forall_mem_append.mpr ⟨lw_r4, List.forall_mem_append.mpr ⟨lw_r5, List.forall_mem_append.mpr ⟨lw_r6, List.forall_mem_append.mpr ⟨lw_r7, lw_r8⟩⟩⟩⟩⟩⟩⟩
def RX0 : String := "BornAboard$Acts"
def TX0 : u_T := fun k => match k with
  | 0 => ("BornAboard$Acts", "count", "I", false)
  | 1 => ("BornAboard$Acts", "saved", "[LBornAboard$People;", true)
  | _ => ("BornAboard$Acts", "top", "I", false)
def tyX0 : Nat → FieldType := fun k => match k with
  | 0 => .int
  | 1 => .array (.object "BornAboard$People")
  | _ => .int
abbrev wsX00 : List Cond := u_ws RX0 TX0 3
theorem nmX0 : ∀ a, a < 3 → ∀ b, b < 3 → a ≠ b → (TX0 a).2.1 ≠ (TX0 b).2.1 := by decide +kernel
theorem tyX0_ok : ∀ k, k < 3 → parseFieldDescriptor (TX0 k).2.2.1 = some (tyX0 k) := by decide +kernel
abbrev cX0_init : ByteArray := prog_2_method_1_code
def yX0_init : MethodName := ⟨RX0, "<init>", "()V"⟩
abbrev cX0_save : ByteArray := prog_2_method_2_code
def yX0_save : MethodName := ⟨RX0, "save", "(LBornAboard$People;)V"⟩
abbrev cX0_restore : ByteArray := prog_2_method_3_code
def yX0_restore : MethodName := ⟨RX0, "restore", "(LBornAboard$People;)Z"⟩
def RX1 : String := "BornAboard$Day"
def TX1 : u_T := fun k => match k with
  | 0 => ("BornAboard$Day", "ties", "LBornAboard$Ties;", true)
  | 1 => ("BornAboard$Day", "log", "LBornAboard$Log;", true)
  | 2 => ("BornAboard$Day", "at", "[I", true)
  | 3 => ("BornAboard$Day", "offMinute", "[I", true)
  | 4 => ("BornAboard$Day", "rides", "[I", true)
  | 5 => ("BornAboard$Day", "next", "[I", true)
  | 6 => ("BornAboard$Day", "leaves", "[I", true)
  | 7 => ("BornAboard$Day", "arrived", "I", false)
  | 8 => ("BornAboard$Day", "due", "[I", true)
  | 9 => ("BornAboard$Day", "aboard", "[I", true)
  | 10 => ("BornAboard$Day", "here", "[I", true)
  | 11 => ("BornAboard$Day", "line", "LBornAboard$Line;", false)
  | 12 => ("BornAboard$Day", "people", "LBornAboard$People;", false)
  | 13 => ("BornAboard$Day", "hired", "I", false)
  | 14 => ("BornAboard$Day", "keeping", "I", false)
  | 15 => ("BornAboard$Day", "ridden", "I", false)
  | 16 => ("BornAboard$Day", "called", "I", false)
  | _ => ("BornAboard$Day", "served", "I", false)
def tyX1 : Nat → FieldType := fun k => match k with
  | 0 => .object "BornAboard$Ties"
  | 1 => .object "BornAboard$Log"
  | 2 => .array .int
  | 3 => .array .int
  | 4 => .array .int
  | 5 => .array .int
  | 6 => .array .int
  | 7 => .int
  | 8 => .array .int
  | 9 => .array .int
  | 10 => .array .int
  | 11 => .object "BornAboard$Line"
  | 12 => .object "BornAboard$People"
  | 13 => .int
  | 14 => .int
  | 15 => .int
  | 16 => .int
  | _ => .int
abbrev wsX10 : List Cond := u_ws RX1 TX1 18
theorem nmX1 : ∀ a, a < 18 → ∀ b, b < 18 → a ≠ b → (TX1 a).2.1 ≠ (TX1 b).2.1 := by decide +kernel
theorem tyX1_ok : ∀ k, k < 18 → parseFieldDescriptor (TX1 k).2.2.1 = some (tyX1 k) := by decide +kernel
abbrev cX1_init : ByteArray := prog_3_method_1_code
def yX1_init : MethodName := ⟨RX1, "<init>", "()V"⟩
abbrev cX1_prepare : ByteArray := prog_3_method_2_code
def yX1_prepare : MethodName := ⟨RX1, "prepare", "(LBornAboard$Line;LBornAboard$People;)V"⟩
abbrev cX1_go : ByteArray := prog_3_method_3_code
def yX1_go : MethodName := ⟨RX1, "go", "(IIII)V"⟩
abbrev cX1_placePeople : ByteArray := prog_3_method_4_code
def yX1_placePeople : MethodName := ⟨RX1, "placePeople", "(I)V"⟩
abbrev cX1_placeTrains : ByteArray := prog_3_method_5_code
def yX1_placeTrains : MethodName := ⟨RX1, "placeTrains", "()V"⟩
abbrev cX1_firstDue : ByteArray := prog_3_method_6_code
def yX1_firstDue : MethodName := ⟨RX1, "firstDue", "(I)I"⟩
abbrev cX1_come : ByteArray := prog_3_method_7_code
def yX1_come : MethodName := ⟨RX1, "come", "(I)V"⟩
abbrev cX1_letOff : ByteArray := prog_3_method_8_code
def yX1_letOff : MethodName := ⟨RX1, "letOff", "(IIZ)V"⟩
abbrev cX1_letOn : ByteArray := prog_3_method_9_code
def yX1_letOn : MethodName := ⟨RX1, "letOn", "(IIZ)V"⟩
abbrev cX1_headFor : ByteArray := prog_3_method_10_code
def yX1_headFor : MethodName := ⟨RX1, "headFor", "(II)V"⟩
abbrev cX1_trainOf : ByteArray := prog_3_method_11_code
def yX1_trainOf : MethodName := ⟨RX1, "trainOf", "(I)I"⟩
abbrev cX1_stranded : ByteArray := prog_3_method_12_code
def yX1_stranded : MethodName := ⟨RX1, "stranded", "()I"⟩
abbrev cX1_good : ByteArray := prog_3_method_13_code
def yX1_good : MethodName := ⟨RX1, "good", "()I"⟩
abbrev cX1_countGood : ByteArray := prog_3_method_14_code
def yX1_countGood : MethodName := ⟨RX1, "countGood", "()I"⟩
abbrev cX1_servesAll : ByteArray := prog_3_method_15_code
def yX1_servesAll : MethodName := ⟨RX1, "servesAll", "()Z"⟩
def RX2 : String := "BornAboard$Hirings"
def TX2 : u_T := fun k => match k with
  | 0 => ("BornAboard$Hirings", "known", "Z", false)
  | 1 => ("BornAboard$Hirings", "there", "[I", true)
  | 2 => ("BornAboard$Hirings", "coins", "[I", true)
  | 3 => ("BornAboard$Hirings", "serves", "[Z", true)
  | _ => ("BornAboard$Hirings", "priced", "I", false)
def tyX2 : Nat → FieldType := fun k => match k with
  | 0 => .boolean
  | 1 => .array .int
  | 2 => .array .int
  | 3 => .array .boolean
  | _ => .int
abbrev wsX20 : List Cond := u_ws RX2 TX2 5
theorem nmX2 : ∀ a, a < 5 → ∀ b, b < 5 → a ≠ b → (TX2 a).2.1 ≠ (TX2 b).2.1 := by decide +kernel
theorem tyX2_ok : ∀ k, k < 5 → parseFieldDescriptor (TX2 k).2.2.1 = some (tyX2 k) := by decide +kernel
abbrev cX2_init : ByteArray := prog_4_method_1_code
def yX2_init : MethodName := ⟨RX2, "<init>", "()V"⟩
abbrev cX2_learn : ByteArray := prog_4_method_2_code
def yX2_learn : MethodName := ⟨RX2, "learn", "(LBornAboard$Line;LBornAboard$People;LBornAboard$Day;)V"⟩
abbrev cX2_isHiring : ByteArray := prog_4_method_3_code
def yX2_isHiring : MethodName := ⟨RX2, "isHiring", "(I)Z"⟩
abbrev cX2_countThere : ByteArray := prog_4_method_4_code
def yX2_countThere : MethodName := ⟨RX2, "countThere", "(I)I"⟩
abbrev cX2_cheapest : ByteArray := prog_4_method_5_code
def yX2_cheapest : MethodName := ⟨RX2, "cheapest", "(I)I"⟩
abbrev cX2_best : ByteArray := prog_4_method_6_code
def yX2_best : MethodName := ⟨RX2, "best", "()I"⟩
abbrev cX2_fewest : ByteArray := prog_4_method_7_code
def yX2_fewest : MethodName := ⟨RX2, "fewest", "()I"⟩
abbrev cX2_isSmaller : ByteArray := prog_4_method_8_code
def yX2_isSmaller : MethodName := ⟨RX2, "isSmaller", "(II)Z"⟩
def RX3 : String := "BornAboard$Line"
def TX3 : u_T := fun k => match k with
  | 0 => ("BornAboard$Line", "statements", "I", false)
  | 1 => ("BornAboard$Line", "stations", "I", false)
  | 2 => ("BornAboard$Line", "trains", "I", false)
  | 3 => ("BornAboard$Line", "stopMinutes", "I", false)
  | 4 => ("BornAboard$Line", "stationNames", "[I", true)
  | 5 => ("BornAboard$Line", "trainNames", "[I", true)
  | 6 => ("BornAboard$Line", "personNames", "[I", true)
  | 7 => ("BornAboard$Line", "prices", "[I", true)
  | 8 => ("BornAboard$Line", "from", "[I", true)
  | 9 => ("BornAboard$Line", "seats", "[I", true)
  | 10 => ("BornAboard$Line", "lengths", "[I", true)
  | 11 => ("BornAboard$Line", "calls", "[[I", true)
  | 12 => ("BornAboard$Line", "after", "[[I", true)
  | _ => ("BornAboard$Line", "people", "LBornAboard$People;", true)
def tyX3 : Nat → FieldType := fun k => match k with
  | 0 => .int
  | 1 => .int
  | 2 => .int
  | 3 => .int
  | 4 => .array .int
  | 5 => .array .int
  | 6 => .array .int
  | 7 => .array .int
  | 8 => .array .int
  | 9 => .array .int
  | 10 => .array .int
  | 11 => .array (.array .int)
  | 12 => .array (.array .int)
  | _ => .object "BornAboard$People"
abbrev wsX30 : List Cond := u_ws RX3 TX3 14
theorem nmX3 : ∀ a, a < 14 → ∀ b, b < 14 → a ≠ b → (TX3 a).2.1 ≠ (TX3 b).2.1 := by decide +kernel
theorem tyX3_ok : ∀ k, k < 14 → parseFieldDescriptor (TX3 k).2.2.1 = some (tyX3 k) := by decide +kernel
abbrev cX3_init : ByteArray := prog_5_method_1_code
def yX3_init : MethodName := ⟨RX3, "<init>", "()V"⟩
abbrev cX3_clear : ByteArray := prog_5_method_2_code
def yX3_clear : MethodName := ⟨RX3, "clear", "()V"⟩
abbrev cX3_hasName : ByteArray := prog_5_method_3_code
def yX3_hasName : MethodName := ⟨RX3, "hasName", "(I)Z"⟩
abbrev cX3_indexOf : ByteArray := prog_5_method_4_code
def yX3_indexOf : MethodName := ⟨RX3, "indexOf", "([III)I"⟩
abbrev cX3_countCalls : ByteArray := prog_5_method_5_code
def yX3_countCalls : MethodName := ⟨RX3, "countCalls", "(I)I"⟩
abbrev cX3_priced : ByteArray := prog_5_method_6_code
def yX3_priced : MethodName := ⟨RX3, "priced", "()I"⟩
abbrev cX3_coin : ByteArray := prog_5_method_7_code
def yX3_coin : MethodName := ⟨RX3, "coin", "(I)I"⟩
def RX4 : String := "BornAboard$Log"
def TX4 : u_T := fun k => match k with
  | 0 => ("BornAboard$Log", "comes", "[[I", true)
  | 1 => ("BornAboard$Log", "came", "[[I", true)
  | 2 => ("BornAboard$Log", "off", "[[I", true)
  | 3 => ("BornAboard$Log", "on", "[[I", true)
  | 4 => ("BornAboard$Log", "stopped", "[I", true)
  | _ => ("BornAboard$Log", "between", "[I", true)
def tyX4 : Nat → FieldType := fun k => match k with
  | 0 => .array (.array .int)
  | 1 => .array (.array .int)
  | 2 => .array (.array .int)
  | 3 => .array (.array .int)
  | 4 => .array .int
  | _ => .array .int
abbrev wsX40 : List Cond := u_ws RX4 TX4 6
theorem nmX4 : ∀ a, a < 6 → ∀ b, b < 6 → a ≠ b → (TX4 a).2.1 ≠ (TX4 b).2.1 := by decide +kernel
theorem tyX4_ok : ∀ k, k < 6 → parseFieldDescriptor (TX4 k).2.2.1 = some (tyX4 k) := by decide +kernel
abbrev cX4_init : ByteArray := prog_6_method_1_code
def yX4_init : MethodName := ⟨RX4, "<init>", "()V"⟩
abbrev cX4_countStops : ByteArray := prog_6_method_2_code
def yX4_countStops : MethodName := ⟨RX4, "countStops", "(I)I"⟩
abbrev cX4_countBetween : ByteArray := prog_6_method_3_code
def yX4_countBetween : MethodName := ⟨RX4, "countBetween", "(I)I"⟩
abbrev cX4_lastMinute : ByteArray := prog_6_method_4_code
def yX4_lastMinute : MethodName := ⟨RX4, "lastMinute", "(LBornAboard$Line;)I"⟩
def RX5 : String := "BornAboard$Parser"
def TX5 : u_T := fun k => match k with
  | 0 => ("BornAboard$Parser", "fault", "I", false)
  | 1 => ("BornAboard$Parser", "place", "I", false)
  | 2 => ("BornAboard$Parser", "tokens", "LBornAboard$Tokens;", true)
  | 3 => ("BornAboard$Parser", "draft", "LBornAboard$Line;", false)
  | 4 => ("BornAboard$Parser", "index", "I", false)
  | _ => ("BornAboard$Parser", "taken", "I", false)
def tyX5 : Nat → FieldType := fun k => match k with
  | 0 => .int
  | 1 => .int
  | 2 => .object "BornAboard$Tokens"
  | 3 => .object "BornAboard$Line"
  | 4 => .int
  | _ => .int
abbrev wsX50 : List Cond := u_ws RX5 TX5 6
theorem nmX5 : ∀ a, a < 6 → ∀ b, b < 6 → a ≠ b → (TX5 a).2.1 ≠ (TX5 b).2.1 := by decide +kernel
theorem tyX5_ok : ∀ k, k < 6 → parseFieldDescriptor (TX5 k).2.2.1 = some (tyX5 k) := by decide +kernel
abbrev cX5_init : ByteArray := prog_7_method_1_code
def yX5_init : MethodName := ⟨RX5, "<init>", "()V"⟩
abbrev cX5_read : ByteArray := prog_7_method_2_code
def yX5_read : MethodName := ⟨RX5, "read", "(LBornAboard$Tape;)Z"⟩
abbrev cX5_exchange : ByteArray := prog_7_method_3_code
def yX5_exchange : MethodName := ⟨RX5, "exchange", "(LBornAboard$Line;)LBornAboard$Line;"⟩
abbrev cX5_kind : ByteArray := prog_7_method_4_code
def yX5_kind : MethodName := ⟨RX5, "kind", "()I"⟩
abbrev cX5_fail : ByteArray := prog_7_method_5_code
def yX5_fail : MethodName := ⟨RX5, "fail", "(I)Z"⟩
abbrev cX5_readStatement : ByteArray := prog_7_method_6_code
def yX5_readStatement : MethodName := ⟨RX5, "readStatement", "()Z"⟩
abbrev cX5_readStation : ByteArray := prog_7_method_7_code
def yX5_readStation : MethodName := ⟨RX5, "readStation", "()Z"⟩
abbrev cX5_readStop : ByteArray := prog_7_method_8_code
def yX5_readStop : MethodName := ⟨RX5, "readStop", "()Z"⟩
abbrev cX5_readTrain : ByteArray := prog_7_method_9_code
def yX5_readTrain : MethodName := ⟨RX5, "readTrain", "()Z"⟩
abbrev cX5_readCalls : ByteArray := prog_7_method_10_code
def yX5_readCalls : MethodName := ⟨RX5, "readCalls", "(I)Z"⟩
abbrev cX5_readPerson : ByteArray := prog_7_method_11_code
def yX5_readPerson : MethodName := ⟨RX5, "readPerson", "()Z"⟩
abbrev cX5_readBirth : ByteArray := prog_7_method_12_code
def yX5_readBirth : MethodName := ⟨RX5, "readBirth", "(I)Z"⟩
abbrev cX5_take : ByteArray := prog_7_method_13_code
def yX5_take : MethodName := ⟨RX5, "take", "(I)Z"⟩
abbrev cX5_takeNumber : ByteArray := prog_7_method_14_code
def yX5_takeNumber : MethodName := ⟨RX5, "takeNumber", "(II)Z"⟩
abbrev cX5_takeNewName : ByteArray := prog_7_method_15_code
def yX5_takeNewName : MethodName := ⟨RX5, "takeNewName", "()Z"⟩
abbrev cX5_takeStation : ByteArray := prog_7_method_16_code
def yX5_takeStation : MethodName := ⟨RX5, "takeStation", "(I)Z"⟩
def RX6 : String := "BornAboard$People"
def TX6 : u_T := fun k => match k with
  | 0 => ("BornAboard$People", "count", "I", false)
  | 1 => ("BornAboard$People", "year", "I", false)
  | 2 => ("BornAboard$People", "hired", "I", false)
  | 3 => ("BornAboard$People", "age", "[I", true)
  | 4 => ("BornAboard$People", "born", "[I", true)
  | 5 => ("BornAboard$People", "second", "[I", true)
  | 6 => ("BornAboard$People", "at", "[I", true)
  | _ => ("BornAboard$People", "to", "[I", true)
def tyX6 : Nat → FieldType := fun k => match k with
  | 0 => .int
  | 1 => .int
  | 2 => .int
  | 3 => .array .int
  | 4 => .array .int
  | 5 => .array .int
  | 6 => .array .int
  | _ => .array .int
abbrev wsX60 : List Cond := u_ws RX6 TX6 8
theorem nmX6 : ∀ a, a < 8 → ∀ b, b < 8 → a ≠ b → (TX6 a).2.1 ≠ (TX6 b).2.1 := by decide +kernel
theorem tyX6_ok : ∀ k, k < 8 → parseFieldDescriptor (TX6 k).2.2.1 = some (tyX6 k) := by decide +kernel
abbrev cX6_init : ByteArray := prog_8_method_1_code
def yX6_init : MethodName := ⟨RX6, "<init>", "()V"⟩
abbrev cX6_copy : ByteArray := prog_8_method_2_code
def yX6_copy : MethodName := ⟨RX6, "copy", "(LBornAboard$People;)V"⟩
abbrev cX6_bornAt : ByteArray := prog_8_method_3_code
def yX6_bornAt : MethodName := ⟨RX6, "bornAt", "(I)I"⟩
abbrev cX6_bornBetween : ByteArray := prog_8_method_4_code
def yX6_bornBetween : MethodName := ⟨RX6, "bornBetween", "(II)I"⟩
abbrev cX6_countAt : ByteArray := prog_8_method_5_code
def yX6_countAt : MethodName := ⟨RX6, "countAt", "(I)I"⟩
abbrev cX6_countTo : ByteArray := prog_8_method_6_code
def yX6_countTo : MethodName := ⟨RX6, "countTo", "(I)I"⟩
abbrev cX6_content : ByteArray := prog_8_method_7_code
def yX6_content : MethodName := ⟨RX6, "content", "()I"⟩
abbrev cX6_countElsewhere : ByteArray := prog_8_method_8_code
def yX6_countElsewhere : MethodName := ⟨RX6, "countElsewhere", "(LBornAboard$People;)I"⟩
abbrev cX6_giveWay : ByteArray := prog_8_method_9_code
def yX6_giveWay : MethodName := ⟨RX6, "giveWay", "(I)V"⟩
def RX7 : String := "BornAboard$Tape"
def TX7 : u_T := fun k => match k with
  | 0 => ("BornAboard$Tape", "bytes", "[I", true)
  | _ => ("BornAboard$Tape", "length", "I", false)
def tyX7 : Nat → FieldType := fun k => match k with
  | 0 => .array .int
  | _ => .int
abbrev wsX70 : List Cond := u_ws RX7 TX7 2
theorem nmX7 : ∀ a, a < 2 → ∀ b, b < 2 → a ≠ b → (TX7 a).2.1 ≠ (TX7 b).2.1 := by decide +kernel
theorem tyX7_ok : ∀ k, k < 2 → parseFieldDescriptor (TX7 k).2.2.1 = some (tyX7 k) := by decide +kernel
abbrev cX7_init : ByteArray := prog_9_method_1_code
def yX7_init : MethodName := ⟨RX7, "<init>", "()V"⟩
abbrev cX7_append : ByteArray := prog_9_method_2_code
def yX7_append : MethodName := ⟨RX7, "append", "(I)V"⟩
def RX8 : String := "BornAboard$Ties"
def TX8 : u_T := fun k => match k with
  | 0 => ("BornAboard$Ties", "bornAt", "[I", true)
  | 1 => ("BornAboard$Ties", "wishAt", "[I", true)
  | 2 => ("BornAboard$Ties", "between", "[[I", true)
  | _ => ("BornAboard$Ties", "later", "[[I", true)
def tyX8 : Nat → FieldType := fun k => match k with
  | 0 => .array .int
  | 1 => .array .int
  | 2 => .array (.array .int)
  | _ => .array (.array .int)
abbrev wsX80 : List Cond := u_ws RX8 TX8 4
theorem nmX8 : ∀ a, a < 4 → ∀ b, b < 4 → a ≠ b → (TX8 a).2.1 ≠ (TX8 b).2.1 := by decide +kernel
theorem tyX8_ok : ∀ k, k < 4 → parseFieldDescriptor (TX8 k).2.2.1 = some (tyX8 k) := by decide +kernel
abbrev cX8_init : ByteArray := prog_10_method_1_code
def yX8_init : MethodName := ⟨RX8, "<init>", "()V"⟩
abbrev cX8_learn : ByteArray := prog_10_method_2_code
def yX8_learn : MethodName := ⟨RX8, "learn", "(LBornAboard$Line;LBornAboard$People;)V"⟩
abbrev cX8_learnTrain : ByteArray := prog_10_method_3_code
def yX8_learnTrain : MethodName := ⟨RX8, "learnTrain", "(LBornAboard$Line;LBornAboard$People;I)V"⟩
def RX9 : String := "BornAboard$Tokens"
def TX9 : u_T := fun k => match k with
  | 0 => ("BornAboard$Tokens", "kinds", "[I", true)
  | 1 => ("BornAboard$Tokens", "starts", "[I", true)
  | 2 => ("BornAboard$Tokens", "values", "[I", true)
  | 3 => ("BornAboard$Tokens", "count", "I", false)
  | _ => ("BornAboard$Tokens", "edge", "I", false)
def tyX9 : Nat → FieldType := fun k => match k with
  | 0 => .array .int
  | 1 => .array .int
  | 2 => .array .int
  | 3 => .int
  | _ => .int
abbrev wsX90 : List Cond := u_ws RX9 TX9 5
theorem nmX9 : ∀ a, a < 5 → ∀ b, b < 5 → a ≠ b → (TX9 a).2.1 ≠ (TX9 b).2.1 := by decide +kernel
theorem tyX9_ok : ∀ k, k < 5 → parseFieldDescriptor (TX9 k).2.2.1 = some (tyX9 k) := by decide +kernel
abbrev cX9_init : ByteArray := prog_11_method_1_code
def yX9_init : MethodName := ⟨RX9, "<init>", "()V"⟩
abbrev cX9_split : ByteArray := prog_11_method_2_code
def yX9_split : MethodName := ⟨RX9, "split", "(LBornAboard$Tape;)V"⟩
abbrev cX9_add : ByteArray := prog_11_method_3_code
def yX9_add : MethodName := ⟨RX9, "add", "(III)V"⟩
abbrev cX9_addAt : ByteArray := prog_11_method_4_code
def yX9_addAt : MethodName := ⟨RX9, "addAt", "(LBornAboard$Tape;I)I"⟩
abbrev cX9_addBad : ByteArray := prog_11_method_5_code
def yX9_addBad : MethodName := ⟨RX9, "addBad", "(LBornAboard$Tape;II)I"⟩
abbrev cX9_addWord : ByteArray := prog_11_method_6_code
def yX9_addWord : MethodName := ⟨RX9, "addWord", "(LBornAboard$Tape;I)I"⟩
abbrev cX9_addNumber : ByteArray := prog_11_method_7_code
def yX9_addNumber : MethodName := ⟨RX9, "addNumber", "(LBornAboard$Tape;I)I"⟩
abbrev cX9_addWhole : ByteArray := prog_11_method_8_code
def yX9_addWhole : MethodName := ⟨RX9, "addWhole", "(IIII)I"⟩
abbrev cX9_isLetter : ByteArray := prog_11_method_9_code
def yX9_isLetter : MethodName := ⟨RX9, "isLetter", "(I)Z"⟩
abbrev cX9_isDigit : ByteArray := prog_11_method_10_code
def yX9_isDigit : MethodName := ⟨RX9, "isDigit", "(I)Z"⟩
abbrev cX9_ownWord : ByteArray := prog_11_method_11_code
def yX9_ownWord : MethodName := ⟨RX9, "ownWord", "(LBornAboard$Tape;II)I"⟩
abbrev cX9_spelling : ByteArray := prog_11_method_12_code
def yX9_spelling : MethodName := ⟨RX9, "spelling", "(I)Ljava/lang/String;"⟩
def RX10 : String := "BornAboard"
def TX10 : u_T := fun k => match k with
  | 0 => ("BornAboard", "tape", "LBornAboard$Tape;", true)
  | 1 => ("BornAboard", "parser", "LBornAboard$Parser;", true)
  | 2 => ("BornAboard", "now", "LBornAboard$People;", true)
  | 3 => ("BornAboard", "spare", "LBornAboard$People;", true)
  | 4 => ("BornAboard", "acts", "LBornAboard$Acts;", true)
  | 5 => ("BornAboard", "line", "LBornAboard$Line;", false)
  | 6 => ("BornAboard", "day", "LBornAboard$Day;", true)
  | 7 => ("BornAboard", "hirings", "LBornAboard$Hirings;", true)
  | 8 => ("BornAboard", "refused", "[I", true)
  | 9 => ("BornAboard", "written", "[I", true)
  | 10 => ("BornAboard", "writtenLength", "I", false)
  | _ => ("BornAboard", "seed", "I", false)
def tyX10 : Nat → FieldType := fun k => match k with
  | 0 => .object "BornAboard$Tape"
  | 1 => .object "BornAboard$Parser"
  | 2 => .object "BornAboard$People"
  | 3 => .object "BornAboard$People"
  | 4 => .object "BornAboard$Acts"
  | 5 => .object "BornAboard$Line"
  | 6 => .object "BornAboard$Day"
  | 7 => .object "BornAboard$Hirings"
  | 8 => .array .int
  | 9 => .array .int
  | 10 => .int
  | _ => .int
abbrev wsX100 : List Cond := u_ws RX10 TX10 12
theorem nmX10 : ∀ a, a < 12 → ∀ b, b < 12 → a ≠ b → (TX10 a).2.1 ≠ (TX10 b).2.1 := by decide +kernel
theorem tyX10_ok : ∀ k, k < 12 → parseFieldDescriptor (TX10 k).2.2.1 = some (tyX10 k) := by decide +kernel
abbrev cX10_init : ByteArray := prog_1_method_1_code
def yX10_init : MethodName := ⟨RX10, "<init>", "()V"⟩
abbrev cX10_feed : ByteArray := prog_1_method_2_code
def yX10_feed : MethodName := ⟨RX10, "feed", "(IIIII)I"⟩
abbrev cX10_end : ByteArray := prog_1_method_3_code
def yX10_end : MethodName := ⟨RX10, "end", "(I)Z"⟩
abbrev cX10_line : ByteArray := prog_1_method_4_code
def yX10_line : MethodName := ⟨RX10, "line", "()I"⟩
abbrev cX10_fault : ByteArray := prog_1_method_5_code
def yX10_fault : MethodName := ⟨RX10, "fault", "(I)I"⟩
abbrev cX10_has : ByteArray := prog_1_method_6_code
def yX10_has : MethodName := ⟨RX10, "has", "(I)I"⟩
abbrev cX10_letter : ByteArray := prog_1_method_7_code
def yX10_letter : MethodName := ⟨RX10, "letter", "(III)I"⟩
abbrev cX10_station : ByteArray := prog_1_method_8_code
def yX10_station : MethodName := ⟨RX10, "station", "(II)I"⟩
abbrev cX10_train : ByteArray := prog_1_method_9_code
def yX10_train : MethodName := ⟨RX10, "train", "(II)I"⟩
abbrev cX10_person : ByteArray := prog_1_method_10_code
def yX10_person : MethodName := ⟨RX10, "person", "(II)I"⟩
abbrev cX10_hire : ByteArray := prog_1_method_11_code
def yX10_hire : MethodName := ⟨RX10, "hire", "(IZ)Z"⟩
abbrev cX10_wish : ByteArray := prog_1_method_12_code
def yX10_wish : MethodName := ⟨RX10, "wish", "(II)Z"⟩
abbrev cX10_move : ByteArray := prog_1_method_13_code
def yX10_move : MethodName := ⟨RX10, "move", "(II)Z"⟩
abbrev cX10_day : ByteArray := prog_1_method_14_code
def yX10_day : MethodName := ⟨RX10, "day", "()I"⟩
abbrev cX10_years : ByteArray := prog_1_method_15_code
def yX10_years : MethodName := ⟨RX10, "years", "(I)I"⟩
abbrev cX10_undo : ByteArray := prog_1_method_16_code
def yX10_undo : MethodName := ⟨RX10, "undo", "()Z"⟩
abbrev cX10_seed : ByteArray := prog_1_method_17_code
def yX10_seed : MethodName := ⟨RX10, "seed", "(I)Z"⟩
abbrev cX10_stops : ByteArray := prog_1_method_18_code
def yX10_stops : MethodName := ⟨RX10, "stops", "(III)I"⟩
abbrev cX10_fares : ByteArray := prog_1_method_19_code
def yX10_fares : MethodName := ⟨RX10, "fares", "(II)I"⟩
abbrev cX10_whole : ByteArray := prog_1_method_20_code
def yX10_whole : MethodName := ⟨RX10, "whole", "(I)I"⟩
abbrev cX10_least : ByteArray := prog_1_method_21_code
def yX10_least : MethodName := ⟨RX10, "least", "(II)I"⟩
abbrev cX10_most : ByteArray := prog_1_method_22_code
def yX10_most : MethodName := ⟨RX10, "most", "(I)I"⟩
abbrev cX10_places : ByteArray := prog_1_method_23_code
def yX10_places : MethodName := ⟨RX10, "places", "(I)I"⟩
abbrev cX10_hiring : ByteArray := prog_1_method_24_code
def yX10_hiring : MethodName := ⟨RX10, "hiring", "(I)Z"⟩
abbrev cX10_worth : ByteArray := prog_1_method_25_code
def yX10_worth : MethodName := ⟨RX10, "worth", "(I)I"⟩
abbrev cX10_bear : ByteArray := prog_1_method_26_code
def yX10_bear : MethodName := ⟨RX10, "bear", "(II)I"⟩
abbrev cX10_stay : ByteArray := prog_1_method_27_code
def yX10_stay : MethodName := ⟨RX10, "stay", "(I)I"⟩
abbrev cX10_seen : ByteArray := prog_1_method_28_code
def yX10_seen : MethodName := ⟨RX10, "seen", "(III)I"⟩
abbrev cX10_dead : ByteArray := prog_1_method_29_code
def yX10_dead : MethodName := ⟨RX10, "dead", "(I)I"⟩
abbrev cX10_runs : ByteArray := prog_1_method_30_code
def yX10_runs : MethodName := ⟨RX10, "runs", "(IIII)I"⟩
abbrev cX10_because : ByteArray := prog_1_method_31_code
def yX10_because : MethodName := ⟨RX10, "because", "(II)I"⟩
abbrev cX10_left : ByteArray := prog_1_method_32_code
def yX10_left : MethodName := ⟨RX10, "left", "(II)I"⟩
abbrev cX10_child : ByteArray := prog_1_method_33_code
def yX10_child : MethodName := ⟨RX10, "child", "(III)I"⟩
abbrev cX10_settles : ByteArray := prog_1_method_34_code
def yX10_settles : MethodName := ⟨RX10, "settles", "(I)I"⟩
abbrev cX10_both : ByteArray := prog_1_method_35_code
def yX10_both : MethodName := ⟨RX10, "both", "(III)I"⟩
abbrev cX10_image : ByteArray := prog_1_method_36_code
def yX10_image : MethodName := ⟨RX10, "image", "()I"⟩
abbrev cX10_octet : ByteArray := prog_1_method_37_code
def yX10_octet : MethodName := ⟨RX10, "octet", "(I)I"⟩
abbrev cX10_on : ByteArray := prog_1_method_38_code
def yX10_on : MethodName := ⟨RX10, "on", "()Z"⟩
abbrev cX10_status : ByteArray := prog_1_method_39_code
def yX10_status : MethodName := ⟨RX10, "status", "(I)I"⟩
abbrev cX10_refuse : ByteArray := prog_1_method_40_code
def yX10_refuse : MethodName := ⟨RX10, "refuse", "(I)I"⟩
abbrev cX10_deny : ByteArray := prog_1_method_41_code
def yX10_deny : MethodName := ⟨RX10, "deny", "(I)Z"⟩
abbrev cX10_bit : ByteArray := prog_1_method_42_code
def yX10_bit : MethodName := ⟨RX10, "bit", "(II)I"⟩
abbrev cX10_letterOf : ByteArray := prog_1_method_43_code
def yX10_letterOf : MethodName := ⟨RX10, "letterOf", "(II)I"⟩
abbrev cX10_isStation : ByteArray := prog_1_method_44_code
def yX10_isStation : MethodName := ⟨RX10, "isStation", "(I)Z"⟩
abbrev cX10_isTrain : ByteArray := prog_1_method_45_code
def yX10_isTrain : MethodName := ⟨RX10, "isTrain", "(I)Z"⟩
abbrev cX10_isPerson : ByteArray := prog_1_method_46_code
def yX10_isPerson : MethodName := ⟨RX10, "isPerson", "(I)Z"⟩
abbrev cX10_isCall : ByteArray := prog_1_method_47_code
def yX10_isCall : MethodName := ⟨RX10, "isCall", "(II)Z"⟩
abbrev cX10_countDead : ByteArray := prog_1_method_48_code
def yX10_countDead : MethodName := ⟨RX10, "countDead", "()I"⟩
abbrev cX10_startAnew : ByteArray := prog_1_method_49_code
def yX10_startAnew : MethodName := ⟨RX10, "startAnew", "()V"⟩
abbrev cX10_beginAct : ByteArray := prog_1_method_50_code
def yX10_beginAct : MethodName := ⟨RX10, "beginAct", "()V"⟩
abbrev cX10_tryDay : ByteArray := prog_1_method_51_code
def yX10_tryDay : MethodName := ⟨RX10, "tryDay", "(LBornAboard$People;)V"⟩
abbrev cX10_passDay : ByteArray := prog_1_method_52_code
def yX10_passDay : MethodName := ⟨RX10, "passDay", "(LBornAboard$People;)Z"⟩
abbrev cX10_passYears : ByteArray := prog_1_method_53_code
def yX10_passYears : MethodName := ⟨RX10, "passYears", "(LBornAboard$People;I)I"⟩
abbrev cX10_ageAll : ByteArray := prog_1_method_54_code
def yX10_ageAll : MethodName := ⟨RX10, "ageAll", "(LBornAboard$People;)I"⟩
abbrev cX10_drawOfHundred : ByteArray := prog_1_method_55_code
def yX10_drawOfHundred : MethodName := ⟨RX10, "drawOfHundred", "()I"⟩
abbrev cX10_coinOrBits : ByteArray := prog_1_method_56_code
def yX10_coinOrBits : MethodName := ⟨RX10, "coinOrBits", "(II)I"⟩
abbrev cX10_canBeSeen : ByteArray := prog_1_method_57_code
def yX10_canBeSeen : MethodName := ⟨RX10, "canBeSeen", "(II)Z"⟩
abbrev cX10_stopsBy : ByteArray := prog_1_method_58_code
def yX10_stopsBy : MethodName := ⟨RX10, "stopsBy", "(II)I"⟩
abbrev cX10_checksum : ByteArray := prog_1_method_59_code
def yX10_checksum : MethodName := ⟨RX10, "checksum", "([II)I"⟩
abbrev cX10_isImage : ByteArray := prog_1_method_60_code
def yX10_isImage : MethodName := ⟨RX10, "isImage", "()Z"⟩
abbrev cX10_isPersonImage : ByteArray := prog_1_method_61_code
def yX10_isPersonImage : MethodName := ⟨RX10, "isPersonImage", "(II)Z"⟩
abbrev cX10_takeImage : ByteArray := prog_1_method_62_code
def yX10_takeImage : MethodName := ⟨RX10, "takeImage", "()V"⟩
def RX11 : String := "BornAboardModel"
def TX11 : u_T := fun k => match k with
  | 0 => ("BornAboardModel", "tape", "[I", true)
  | 1 => ("BornAboardModel", "taped", "I", false)
  | 2 => ("BornAboardModel", "size", "I", false)
  | 3 => ("BornAboardModel", "sign", "I", false)
  | 4 => ("BornAboardModel", "signAt", "I", false)
  | 5 => ("BornAboardModel", "signEnd", "I", false)
  | 6 => ("BornAboardModel", "value", "I", false)
  | 7 => ("BornAboardModel", "word", "J", false)
  | 8 => ("BornAboardModel", "faultKind", "I", false)
  | 9 => ("BornAboardModel", "faultPlace", "I", false)
  | 10 => ("BornAboardModel", "toldKind", "I", false)
  | 11 => ("BornAboardModel", "toldPlace", "I", false)
  | 12 => ("BornAboardModel", "lexAt", "I", false)
  | 13 => ("BornAboardModel", "bank", "I", false)
  | 14 => ("BornAboardModel", "stations", "[I", true)
  | 15 => ("BornAboardModel", "stationName", "[J", true)
  | 16 => ("BornAboardModel", "stopCost", "[I", true)
  | 17 => ("BornAboardModel", "trains", "[I", true)
  | 18 => ("BornAboardModel", "trainName", "[J", true)
  | 19 => ("BornAboardModel", "trainFrom", "[I", true)
  | 20 => ("BornAboardModel", "trainSeats", "[I", true)
  | 21 => ("BornAboardModel", "calls", "[I", true)
  | 22 => ("BornAboardModel", "callAt", "[I", true)
  | 23 => ("BornAboardModel", "callAfter", "[I", true)
  | 24 => ("BornAboardModel", "people", "[I", true)
  | 25 => ("BornAboardModel", "personName", "[J", true)
  | 26 => ("BornAboardModel", "ageTold", "[I", true)
  | 27 => ("BornAboardModel", "bornTold", "[I", true)
  | 28 => ("BornAboardModel", "secondTold", "[I", true)
  | 29 => ("BornAboardModel", "atTold", "[I", true)
  | 30 => ("BornAboardModel", "wishTold", "[I", true)
  | 31 => ("BornAboardModel", "price", "[I", true)
  | 32 => ("BornAboardModel", "in", "I", false)
  | 33 => ("BornAboardModel", "refused", "[I", true)
  | 34 => ("BornAboardModel", "year", "[I", true)
  | 35 => ("BornAboardModel", "age", "[I", true)
  | 36 => ("BornAboardModel", "born", "[I", true)
  | 37 => ("BornAboardModel", "second", "[I", true)
  | 38 => ("BornAboardModel", "at", "[I", true)
  | 39 => ("BornAboardModel", "wished", "[I", true)
  | 40 => ("BornAboardModel", "hired", "[I", true)
  | 41 => ("BornAboardModel", "undoFirst", "I", false)
  | 42 => ("BornAboardModel", "undos", "I", false)
  | 43 => ("BornAboardModel", "seeds", "J", false)
  | 44 => ("BornAboardModel", "absent", "I", false)
  | 45 => ("BornAboardModel", "staying", "I", false)
  | 46 => ("BornAboardModel", "layer", "I", false)
  | 47 => ("BornAboardModel", "next", "[I", true)
  | 48 => ("BornAboardModel", "comes", "[I", true)
  | 49 => ("BornAboardModel", "stopped", "[I", true)
  | 50 => ("BornAboardModel", "came", "[I", true)
  | 51 => ("BornAboardModel", "offs", "[I", true)
  | 52 => ("BornAboardModel", "ons", "[I", true)
  | 53 => ("BornAboardModel", "behind", "[I", true)
  | 54 => ("BornAboardModel", "between", "[I", true)
  | 55 => ("BornAboardModel", "byBirth", "[I", true)
  | 56 => ("BornAboardModel", "offBits", "[I", true)
  | 57 => ("BornAboardModel", "until", "I", false)
  | 58 => ("BornAboardModel", "aboard", "[I", true)
  | 59 => ("BornAboardModel", "where", "[I", true)
  | 60 => ("BornAboardModel", "gotOff", "[I", true)
  | 61 => ("BornAboardModel", "rides", "[I", true)
  | 62 => ("BornAboardModel", "arrived", "[I", true)
  | 63 => ("BornAboardModel", "out", "[I", true)
  | _ => ("BornAboardModel", "outs", "I", false)
def tyX11 : Nat → FieldType := fun k => match k with
  | 0 => .array .int
  | 1 => .int
  | 2 => .int
  | 3 => .int
  | 4 => .int
  | 5 => .int
  | 6 => .int
  | 7 => .long
  | 8 => .int
  | 9 => .int
  | 10 => .int
  | 11 => .int
  | 12 => .int
  | 13 => .int
  | 14 => .array .int
  | 15 => .array .long
  | 16 => .array .int
  | 17 => .array .int
  | 18 => .array .long
  | 19 => .array .int
  | 20 => .array .int
  | 21 => .array .int
  | 22 => .array .int
  | 23 => .array .int
  | 24 => .array .int
  | 25 => .array .long
  | 26 => .array .int
  | 27 => .array .int
  | 28 => .array .int
  | 29 => .array .int
  | 30 => .array .int
  | 31 => .array .int
  | 32 => .int
  | 33 => .array .int
  | 34 => .array .int
  | 35 => .array .int
  | 36 => .array .int
  | 37 => .array .int
  | 38 => .array .int
  | 39 => .array .int
  | 40 => .array .int
  | 41 => .int
  | 42 => .int
  | 43 => .long
  | 44 => .int
  | 45 => .int
  | 46 => .int
  | 47 => .array .int
  | 48 => .array .int
  | 49 => .array .int
  | 50 => .array .int
  | 51 => .array .int
  | 52 => .array .int
  | 53 => .array .int
  | 54 => .array .int
  | 55 => .array .int
  | 56 => .array .int
  | 57 => .int
  | 58 => .array .int
  | 59 => .array .int
  | 60 => .array .int
  | 61 => .array .int
  | 62 => .array .int
  | 63 => .array .int
  | _ => .int
abbrev wsX110 : List Cond := u_ws RX11 TX11 65
theorem nmX11 : ∀ a, a < 65 → ∀ b, b < 65 → a ≠ b → (TX11 a).2.1 ≠ (TX11 b).2.1 := by decide +kernel
theorem tyX11_ok : ∀ k, k < 65 → parseFieldDescriptor (TX11 k).2.2.1 = some (tyX11 k) := by decide +kernel
abbrev cX11_init : ByteArray := prog_13_method_1_code
def yX11_init : MethodName := ⟨RX11, "<init>", "()V"⟩
abbrev cX11_is : ByteArray := prog_13_method_2_code
def yX11_is : MethodName := ⟨RX11, "is", "(III)Z"⟩
abbrev cX11_put : ByteArray := prog_13_method_3_code
def yX11_put : MethodName := ⟨RX11, "put", "(I)V"⟩
abbrev cX11_feed : ByteArray := prog_13_method_4_code
def yX11_feed : MethodName := ⟨RX11, "feed", "(IIIII)I"⟩
abbrev cX11_end : ByteArray := prog_13_method_5_code
def yX11_end : MethodName := ⟨RX11, "end", "(I)Z"⟩
abbrev cX11_blame : ByteArray := prog_13_method_6_code
def yX11_blame : MethodName := ⟨RX11, "blame", "(II)V"⟩
abbrev cX11_isLetter : ByteArray := prog_13_method_7_code
def yX11_isLetter : MethodName := ⟨RX11, "isLetter", "(I)Z"⟩
abbrev cX11_isDigit : ByteArray := prog_13_method_8_code
def yX11_isDigit : MethodName := ⟨RX11, "isDigit", "(I)Z"⟩
abbrev cX11_lex : ByteArray := prog_13_method_9_code
def yX11_lex : MethodName := ⟨RX11, "lex", "()V"⟩
abbrev cX11_ahead : ByteArray := prog_13_method_10_code
def yX11_ahead : MethodName := ⟨RX11, "ahead", "()V"⟩
abbrev cX11_isSign : ByteArray := prog_13_method_11_code
def yX11_isSign : MethodName := ⟨RX11, "isSign", "(I)Z"⟩
abbrev cX11_isWord : ByteArray := prog_13_method_12_code
def yX11_isWord : MethodName := ⟨RX11, "isWord", "(J)Z"⟩
abbrev cX11_must : ByteArray := prog_13_method_13_code
def yX11_must : MethodName := ⟨RX11, "must", "(I)V"⟩
abbrev cX11_isOwn : ByteArray := prog_13_method_14_code
def yX11_isOwn : MethodName := ⟨RX11, "isOwn", "(J)Z"⟩
abbrev cX11_manyOf : ByteArray := prog_13_method_15_code
def yX11_manyOf : MethodName := ⟨RX11, "manyOf", "(II)I"⟩
abbrev cX11_nameOf : ByteArray := prog_13_method_16_code
def yX11_nameOf : MethodName := ⟨RX11, "nameOf", "(III)J"⟩
abbrev cX11_named : ByteArray := prog_13_method_17_code
def yX11_named : MethodName := ⟨RX11, "named", "(IJ)I"⟩
abbrev cX11_number : ByteArray := prog_13_method_18_code
def yX11_number : MethodName := ⟨RX11, "number", "(II)I"⟩
abbrev cX11_counts : ByteArray := prog_13_method_19_code
def yX11_counts : MethodName := ⟨RX11, "counts", "(Z)Z"⟩
abbrev cX11_must_ : ByteArray := prog_13_method_20_code
def yX11_must_ : MethodName := ⟨RX11, "must", "(J)V"⟩
abbrev cX11_fresh : ByteArray := prog_13_method_21_code
def yX11_fresh : MethodName := ⟨RX11, "fresh", "()J"⟩
abbrev cX11_looked : ByteArray := prog_13_method_22_code
def yX11_looked : MethodName := ⟨RX11, "looked", "()I"⟩
abbrev cX11_asked : ByteArray := prog_13_method_23_code
def yX11_asked : MethodName := ⟨RX11, "asked", "()I"⟩
abbrev cX11_stationing : ByteArray := prog_13_method_24_code
def yX11_stationing : MethodName := ⟨RX11, "stationing", "()V"⟩
abbrev cX11_stopping : ByteArray := prog_13_method_25_code
def yX11_stopping : MethodName := ⟨RX11, "stopping", "()V"⟩
abbrev cX11_calling : ByteArray := prog_13_method_26_code
def yX11_calling : MethodName := ⟨RX11, "calling", "(II)V"⟩
abbrev cX11_training : ByteArray := prog_13_method_27_code
def yX11_training : MethodName := ⟨RX11, "training", "()V"⟩
abbrev cX11_personing : ByteArray := prog_13_method_28_code
def yX11_personing : MethodName := ⟨RX11, "personing", "()V"⟩
abbrev cX11_statement : ByteArray := prog_13_method_29_code
def yX11_statement : MethodName := ⟨RX11, "statement", "()V"⟩
abbrev cX11_finishes : ByteArray := prog_13_method_30_code
def yX11_finishes : MethodName := ⟨RX11, "finishes", "(I)V"⟩
abbrev cX11_line : ByteArray := prog_13_method_31_code
def yX11_line : MethodName := ⟨RX11, "line", "()I"⟩
abbrev cX11_fault : ByteArray := prog_13_method_32_code
def yX11_fault : MethodName := ⟨RX11, "fault", "(I)I"⟩
abbrev cX11_refuses : ByteArray := prog_13_method_33_code
def yX11_refuses : MethodName := ⟨RX11, "refuses", "(I)I"⟩
abbrev cX11_status : ByteArray := prog_13_method_34_code
def yX11_status : MethodName := ⟨RX11, "status", "(I)I"⟩
abbrev cX11_isStation : ByteArray := prog_13_method_35_code
def yX11_isStation : MethodName := ⟨RX11, "isStation", "(I)Z"⟩
abbrev cX11_isTrain : ByteArray := prog_13_method_36_code
def yX11_isTrain : MethodName := ⟨RX11, "isTrain", "(I)Z"⟩
abbrev cX11_isPerson : ByteArray := prog_13_method_37_code
def yX11_isPerson : MethodName := ⟨RX11, "isPerson", "(I)Z"⟩
abbrev cX11_priceOf : ByteArray := prog_13_method_38_code
def yX11_priceOf : MethodName := ⟨RX11, "priceOf", "(I)I"⟩
abbrev cX11_callsOf : ByteArray := prog_13_method_39_code
def yX11_callsOf : MethodName := ⟨RX11, "callsOf", "(I)I"⟩
abbrev cX11_callOf : ByteArray := prog_13_method_40_code
def yX11_callOf : MethodName := ⟨RX11, "callOf", "(II)I"⟩
abbrev cX11_afterOf : ByteArray := prog_13_method_41_code
def yX11_afterOf : MethodName := ⟨RX11, "afterOf", "(II)I"⟩
abbrev cX11_copies : ByteArray := prog_13_method_42_code
def yX11_copies : MethodName := ⟨RX11, "copies", "(II)V"⟩
abbrev cX11_begin : ByteArray := prog_13_method_43_code
def yX11_begin : MethodName := ⟨RX11, "begin", "()V"⟩
abbrev cX11_ring : ByteArray := prog_13_method_44_code
def yX11_ring : MethodName := ⟨RX11, "ring", "(I)I"⟩
abbrev cX11_keeps : ByteArray := prog_13_method_45_code
def yX11_keeps : MethodName := ⟨RX11, "keeps", "()V"⟩
abbrev cX11_undo : ByteArray := prog_13_method_46_code
def yX11_undo : MethodName := ⟨RX11, "undo", "()Z"⟩
abbrev cX11_isHired : ByteArray := prog_13_method_47_code
def yX11_isHired : MethodName := ⟨RX11, "isHired", "(I)Z"⟩
abbrev cX11_wishOf : ByteArray := prog_13_method_48_code
def yX11_wishOf : MethodName := ⟨RX11, "wishOf", "(I)I"⟩
abbrev cX11_isBornAt : ByteArray := prog_13_method_49_code
def yX11_isBornAt : MethodName := ⟨RX11, "isBornAt", "(II)Z"⟩
abbrev cX11_isBornBetween : ByteArray := prog_13_method_50_code
def yX11_isBornBetween : MethodName := ⟨RX11, "isBornBetween", "(III)Z"⟩
abbrev cX11_stopsAt : ByteArray := prog_13_method_51_code
def yX11_stopsAt : MethodName := ⟨RX11, "stopsAt", "(II)Z"⟩
abbrev cX11_stopsBetween : ByteArray := prog_13_method_52_code
def yX11_stopsBetween : MethodName := ⟨RX11, "stopsBetween", "(II)Z"⟩
abbrev cX11_getsOff : ByteArray := prog_13_method_53_code
def yX11_getsOff : MethodName := ⟨RX11, "getsOff", "(III)V"⟩
abbrev cX11_comesLater : ByteArray := prog_13_method_54_code
def yX11_comesLater : MethodName := ⟨RX11, "comesLater", "(III)Z"⟩
abbrev cX11_aboardOf : ByteArray := prog_13_method_55_code
def yX11_aboardOf : MethodName := ⟨RX11, "aboardOf", "(I)I"⟩
abbrev cX11_getOff : ByteArray := prog_13_method_56_code
def yX11_getOff : MethodName := ⟨RX11, "getOff", "(III)V"⟩
abbrev cX11_getOn : ByteArray := prog_13_method_57_code
def yX11_getOn : MethodName := ⟨RX11, "getOn", "(III)V"⟩
abbrev cX11_happens : ByteArray := prog_13_method_58_code
def yX11_happens : MethodName := ⟨RX11, "happens", "(I)V"⟩
abbrev cX11_dayOf : ByteArray := prog_13_method_59_code
def yX11_dayOf : MethodName := ⟨RX11, "dayOf", "(I)V"⟩
abbrev cX11_good : ByteArray := prog_13_method_60_code
def yX11_good : MethodName := ⟨RX11, "good", "()I"⟩
abbrev cX11_goodOf : ByteArray := prog_13_method_61_code
def yX11_goodOf : MethodName := ⟨RX11, "goodOf", "(I)I"⟩
abbrev cX11_arrivedMany : ByteArray := prog_13_method_62_code
def yX11_arrivedMany : MethodName := ⟨RX11, "arrivedMany", "()I"⟩
abbrev cX11_isStranded : ByteArray := prog_13_method_63_code
def yX11_isStranded : MethodName := ⟨RX11, "isStranded", "(I)Z"⟩
abbrev cX11_isDead : ByteArray := prog_13_method_64_code
def yX11_isDead : MethodName := ⟨RX11, "isDead", "(II)Z"⟩
abbrev cX11_deadMany : ByteArray := prog_13_method_65_code
def yX11_deadMany : MethodName := ⟨RX11, "deadMany", "()I"⟩
abbrev cX11_has : ByteArray := prog_13_method_66_code
def yX11_has : MethodName := ⟨RX11, "has", "(I)I"⟩
abbrev cX11_letter : ByteArray := prog_13_method_67_code
def yX11_letter : MethodName := ⟨RX11, "letter", "(III)I"⟩
abbrev cX11_station : ByteArray := prog_13_method_68_code
def yX11_station : MethodName := ⟨RX11, "station", "(II)I"⟩
abbrev cX11_train : ByteArray := prog_13_method_69_code
def yX11_train : MethodName := ⟨RX11, "train", "(II)I"⟩
abbrev cX11_person : ByteArray := prog_13_method_70_code
def yX11_person : MethodName := ⟨RX11, "person", "(II)I"⟩
abbrev cX11_hire : ByteArray := prog_13_method_71_code
def yX11_hire : MethodName := ⟨RX11, "hire", "(IZ)Z"⟩
abbrev cX11_wish : ByteArray := prog_13_method_72_code
def yX11_wish : MethodName := ⟨RX11, "wish", "(II)Z"⟩
abbrev cX11_move : ByteArray := prog_13_method_73_code
def yX11_move : MethodName := ⟨RX11, "move", "(II)Z"⟩
abbrev cX11_day : ByteArray := prog_13_method_74_code
def yX11_day : MethodName := ⟨RX11, "day", "()I"⟩
abbrev cX11_draw : ByteArray := prog_13_method_75_code
def yX11_draw : MethodName := ⟨RX11, "draw", "(I)I"⟩
abbrev cX11_dies : ByteArray := prog_13_method_76_code
def yX11_dies : MethodName := ⟨RX11, "dies", "(I)V"⟩
abbrev cX11_yearOf : ByteArray := prog_13_method_77_code
def yX11_yearOf : MethodName := ⟨RX11, "yearOf", "(I)I"⟩
abbrev cX11_years : ByteArray := prog_13_method_78_code
def yX11_years : MethodName := ⟨RX11, "years", "(I)I"⟩
abbrev cX11_seed : ByteArray := prog_13_method_79_code
def yX11_seed : MethodName := ⟨RX11, "seed", "(I)Z"⟩
abbrev cX11_stops : ByteArray := prog_13_method_80_code
def yX11_stops : MethodName := ⟨RX11, "stops", "(III)I"⟩
abbrev cX11_fares : ByteArray := prog_13_method_81_code
def yX11_fares : MethodName := ⟨RX11, "fares", "(II)I"⟩
abbrev cX11_stopMany : ByteArray := prog_13_method_82_code
def yX11_stopMany : MethodName := ⟨RX11, "stopMany", "(Z)I"⟩
abbrev cX11_whole : ByteArray := prog_13_method_83_code
def yX11_whole : MethodName := ⟨RX11, "whole", "(I)I"⟩
abbrev cX11_because : ByteArray := prog_13_method_84_code
def yX11_because : MethodName := ⟨RX11, "because", "(II)I"⟩
abbrev cX11_left : ByteArray := prog_13_method_85_code
def yX11_left : MethodName := ⟨RX11, "left", "(II)I"⟩
abbrev cX11_isUnderWay : ByteArray := prog_13_method_86_code
def yX11_isUnderWay : MethodName := ⟨RX11, "isUnderWay", "(II)Z"⟩
abbrev cX11_child : ByteArray := prog_13_method_87_code
def yX11_child : MethodName := ⟨RX11, "child", "(III)I"⟩
abbrev cX11_isSettled : ByteArray := prog_13_method_88_code
def yX11_isSettled : MethodName := ⟨RX11, "isSettled", "()Z"⟩
abbrev cX11_settles : ByteArray := prog_13_method_89_code
def yX11_settles : MethodName := ⟨RX11, "settles", "(I)I"⟩
abbrev cX11_bits : ByteArray := prog_13_method_90_code
def yX11_bits : MethodName := ⟨RX11, "bits", "(I)I"⟩
abbrev cX11_coinOf : ByteArray := prog_13_method_91_code
def yX11_coinOf : MethodName := ⟨RX11, "coinOf", "(I)I"⟩
abbrev cX11_canHire : ByteArray := prog_13_method_92_code
def yX11_canHire : MethodName := ⟨RX11, "canHire", "(I)Z"⟩
abbrev cX11_dayWith : ByteArray := prog_13_method_93_code
def yX11_dayWith : MethodName := ⟨RX11, "dayWith", "(I)V"⟩
abbrev cX11_least : ByteArray := prog_13_method_94_code
def yX11_least : MethodName := ⟨RX11, "least", "(II)I"⟩
abbrev cX11_both : ByteArray := prog_13_method_95_code
def yX11_both : MethodName := ⟨RX11, "both", "(III)I"⟩
abbrev cX11_most : ByteArray := prog_13_method_96_code
def yX11_most : MethodName := ⟨RX11, "most", "(I)I"⟩
abbrev cX11_isEachStopped : ByteArray := prog_13_method_97_code
def yX11_isEachStopped : MethodName := ⟨RX11, "isEachStopped", "()Z"⟩
abbrev cX11_places : ByteArray := prog_13_method_98_code
def yX11_places : MethodName := ⟨RX11, "places", "(I)I"⟩
abbrev cX11_hiring : ByteArray := prog_13_method_99_code
def yX11_hiring : MethodName := ⟨RX11, "hiring", "(I)Z"⟩
abbrev cX11_worth : ByteArray := prog_13_method_100_code
def yX11_worth : MethodName := ⟨RX11, "worth", "(I)I"⟩
abbrev cX11_bear : ByteArray := prog_13_method_101_code
def yX11_bear : MethodName := ⟨RX11, "bear", "(II)I"⟩
abbrev cX11_stay : ByteArray := prog_13_method_102_code
def yX11_stay : MethodName := ⟨RX11, "stay", "(I)I"⟩
abbrev cX11_stopsBy : ByteArray := prog_13_method_103_code
def yX11_stopsBy : MethodName := ⟨RX11, "stopsBy", "(II)I"⟩
abbrev cX11_seen : ByteArray := prog_13_method_104_code
def yX11_seen : MethodName := ⟨RX11, "seen", "(III)I"⟩
abbrev cX11_dead : ByteArray := prog_13_method_105_code
def yX11_dead : MethodName := ⟨RX11, "dead", "(I)I"⟩
abbrev cX11_runs : ByteArray := prog_13_method_106_code
def yX11_runs : MethodName := ⟨RX11, "runs", "(IIII)I"⟩
abbrev cX11_writes : ByteArray := prog_13_method_107_code
def yX11_writes : MethodName := ⟨RX11, "writes", "(I)V"⟩
abbrev cX11_image : ByteArray := prog_13_method_108_code
def yX11_image : MethodName := ⟨RX11, "image", "()I"⟩
abbrev cX11_octet : ByteArray := prog_13_method_109_code
def yX11_octet : MethodName := ⟨RX11, "octet", "(I)I"⟩
abbrev cX11_isPersonOn : ByteArray := prog_13_method_110_code
def yX11_isPersonOn : MethodName := ⟨RX11, "isPersonOn", "(I)Z"⟩
abbrev cX11_isImage : ByteArray := prog_13_method_111_code
def yX11_isImage : MethodName := ⟨RX11, "isImage", "(I)Z"⟩
abbrev cX11_on : ByteArray := prog_13_method_112_code
def yX11_on : MethodName := ⟨RX11, "on", "()Z"⟩
def RJ6 : String := "java/lang/Integer"
def TJ6 : u_T := fun k => match k with
  | _ => ("", "", "", false)
def tyJ6 : Nat → FieldType := fun k => match k with
  | _ => .int
theorem nmJ6 : ∀ a, a < 0 → ∀ b, b < 0 → a ≠ b → (TJ6 a).2.1 ≠ (TJ6 b).2.1 := by decide +kernel
abbrev cJ6_bitCount_0f7a4 : ByteArray := prog_14_method_49_code
def yJ6_bitCount_0f7a4 : MethodName := ⟨RJ6, "bitCount", "(I)I"⟩
def RJ9 : String := "java/lang/Math"
def TJ9 : u_T := fun k => match k with
  | _ => ("", "", "", false)
def tyJ9 : Nat → FieldType := fun k => match k with
  | _ => .int
theorem nmJ9 : ∀ a, a < 0 → ∀ b, b < 0 → a ≠ b → (TJ9 a).2.1 ≠ (TJ9 b).2.1 := by decide +kernel
abbrev cJ9_max_7cf53 : ByteArray := prog_15_method_65_code
def yJ9_max_7cf53 : MethodName := ⟨RJ9, "max", "(II)I"⟩
abbrev cJ9_min_7cf53 : ByteArray := prog_15_method_69_code
def yJ9_min_7cf53 : MethodName := ⟨RJ9, "min", "(II)I"⟩
def RL : String := "BornAboardLaw"
abbrev cL_law : ByteArray := code
def yL_law : MethodName := ⟨RL, "law", "([I)Z"⟩
abbrev vwCl : List vw_C := [(RX0, TX0, 3), (RX1, TX1, 18), (RX2, TX2, 5), (RX3, TX3, 14), (RX4, TX4, 6), (RX5, TX5, 6), (RX6, TX6, 8), (RX7, TX7, 2), (RX8, TX8, 4), (RX9, TX9, 5), (RX10, TX10, 12), (RX11, TX11, 65)]
