section
-- ===== PART A: goes FIRST, ahead of the names: the tables' words, and 'selects' of the private methods out of them =====
/-- a private method of a class that the tables say can be made, by its rows of tables_1 -/
def lw_okq (q : MethodName × Nat) : Prop := (q.1.cls ≠ "java/lang/invoke/MethodHandle" ∧ q.1.cls ≠ "java/lang/invoke/VarHandle") ∧ Cond.instantiable q.1.cls q.2 ∈ tables_1 ∧ Cond.privateMethod q.1 ∈ tables_1 ∧ Cond.instanceMethod q.1 ∈ tables_1
theorem lw_p0 : lw_okq (⟨"HatWorks", "findBest", "()V"⟩, 12) := ⟨⟨by decide +kernel, by decide +kernel⟩, List.mem_of_getElem? (i := 18) (by decide +kernel), List.mem_of_getElem? (i := 185) (by decide +kernel), List.mem_of_getElem? (i := 186) (by decide +kernel)⟩
theorem lw_p1 : lw_okq (⟨"HatWorks", "isWaiting", "(I)Z"⟩, 12) := ⟨⟨by decide +kernel, by decide +kernel⟩, List.mem_of_getElem? (i := 18) (by decide +kernel), List.mem_of_getElem? (i := 193) (by decide +kernel), List.mem_of_getElem? (i := 194) (by decide +kernel)⟩
theorem lw_p2 : lw_okq (⟨"HatWorks$Planner", "tryAll", "(IIJ)V"⟩, 12) := ⟨⟨by decide +kernel, by decide +kernel⟩, List.mem_of_getElem? (i := 87) (by decide +kernel), List.mem_of_getElem? (i := 206) (by decide +kernel), List.mem_of_getElem? (i := 207) (by decide +kernel)⟩
theorem lw_p3 : lw_okq (⟨"HatWorks$Planner", "keepTried", "(J)V"⟩, 12) := ⟨⟨by decide +kernel, by decide +kernel⟩, List.mem_of_getElem? (i := 87) (by decide +kernel), List.mem_of_getElem? (i := 210) (by decide +kernel), List.mem_of_getElem? (i := 211) (by decide +kernel)⟩
theorem lw_p4 : lw_okq (⟨"HatWorks$Planner", "tryNext", "(IIIJ)V"⟩, 12) := ⟨⟨by decide +kernel, by decide +kernel⟩, List.mem_of_getElem? (i := 87) (by decide +kernel), List.mem_of_getElem? (i := 214) (by decide +kernel), List.mem_of_getElem? (i := 215) (by decide +kernel)⟩
theorem lw_p5 : lw_okq (⟨"HatWorks", "send", "(I)I"⟩, 12) := ⟨⟨by decide +kernel, by decide +kernel⟩, List.mem_of_getElem? (i := 18) (by decide +kernel), List.mem_of_getElem? (i := 240) (by decide +kernel), List.mem_of_getElem? (i := 241) (by decide +kernel)⟩
theorem lw_p6 : lw_okq (⟨"HatWorks", "holderOf", "(II)I"⟩, 12) := ⟨⟨by decide +kernel, by decide +kernel⟩, List.mem_of_getElem? (i := 18) (by decide +kernel), List.mem_of_getElem? (i := 245) (by decide +kernel), List.mem_of_getElem? (i := 246) (by decide +kernel)⟩
theorem lw_p7 : lw_okq (⟨"HatWorks", "isLate", "(I)Z"⟩, 12) := ⟨⟨by decide +kernel, by decide +kernel⟩, List.mem_of_getElem? (i := 18) (by decide +kernel), List.mem_of_getElem? (i := 253) (by decide +kernel), List.mem_of_getElem? (i := 254) (by decide +kernel)⟩
theorem lw_p8 : lw_okq (⟨"HatWorks", "countWaiting", "()I"⟩, 12) := ⟨⟨by decide +kernel, by decide +kernel⟩, List.mem_of_getElem? (i := 18) (by decide +kernel), List.mem_of_getElem? (i := 261) (by decide +kernel), List.mem_of_getElem? (i := 262) (by decide +kernel)⟩
theorem lw_p9 : lw_okq (⟨"java/lang/Throwable", "fillInStackTrace", "(I)Ljava/lang/Throwable;"⟩, 6) := ⟨⟨by decide +kernel, by decide +kernel⟩, List.mem_of_getElem? (i := 311) (by decide +kernel), List.mem_of_getElem? (i := 309) (by decide +kernel), List.mem_of_getElem? (i := 310) (by decide +kernel)⟩
theorem lw_p10 : lw_okq (⟨"HatWorks", "checkOrderArguments", "(III)V"⟩, 12) := ⟨⟨by decide +kernel, by decide +kernel⟩, List.mem_of_getElem? (i := 18) (by decide +kernel), List.mem_of_getElem? (i := 375) (by decide +kernel), List.mem_of_getElem? (i := 376) (by decide +kernel)⟩
theorem lw_p11 : lw_okq (⟨"HatWorks$Tape", "startReading", "(I)V"⟩, 7) := ⟨⟨by decide +kernel, by decide +kernel⟩, List.mem_of_getElem? (i := 26) (by decide +kernel), List.mem_of_getElem? (i := 387) (by decide +kernel), List.mem_of_getElem? (i := 388) (by decide +kernel)⟩
theorem lw_p12 : lw_okq (⟨"HatWorks$Tape", "readPart", "()Z"⟩, 7) := ⟨⟨by decide +kernel, by decide +kernel⟩, List.mem_of_getElem? (i := 26) (by decide +kernel), List.mem_of_getElem? (i := 391) (by decide +kernel), List.mem_of_getElem? (i := 392) (by decide +kernel)⟩
theorem lw_p13 : lw_okq (⟨"HatWorks$Tape", "skipBlanks", "()V"⟩, 7) := ⟨⟨by decide +kernel, by decide +kernel⟩, List.mem_of_getElem? (i := 26) (by decide +kernel), List.mem_of_getElem? (i := 395) (by decide +kernel), List.mem_of_getElem? (i := 396) (by decide +kernel)⟩
theorem lw_p14 : lw_okq (⟨"HatWorks$Tape", "skipLetters", "()V"⟩, 7) := ⟨⟨by decide +kernel, by decide +kernel⟩, List.mem_of_getElem? (i := 26) (by decide +kernel), List.mem_of_getElem? (i := 399) (by decide +kernel), List.mem_of_getElem? (i := 400) (by decide +kernel)⟩
theorem lw_p15 : lw_okq (⟨"HatWorks$Tape", "partNamed", "(I)I"⟩, 7) := ⟨⟨by decide +kernel, by decide +kernel⟩, List.mem_of_getElem? (i := 26) (by decide +kernel), List.mem_of_getElem? (i := 403) (by decide +kernel), List.mem_of_getElem? (i := 404) (by decide +kernel)⟩
def lw_privs_1 : List (MethodName × Nat) := [(⟨"HatWorks", "findBest", "()V"⟩, 12), (⟨"HatWorks", "isWaiting", "(I)Z"⟩, 12), (⟨"HatWorks$Planner", "tryAll", "(IIJ)V"⟩, 12), (⟨"HatWorks$Planner", "keepTried", "(J)V"⟩, 12), (⟨"HatWorks$Planner", "tryNext", "(IIIJ)V"⟩, 12), (⟨"HatWorks", "send", "(I)I"⟩, 12), (⟨"HatWorks", "holderOf", "(II)I"⟩, 12), (⟨"HatWorks", "isLate", "(I)Z"⟩, 12), (⟨"HatWorks", "countWaiting", "()I"⟩, 12), (⟨"java/lang/Throwable", "fillInStackTrace", "(I)Ljava/lang/Throwable;"⟩, 6), (⟨"HatWorks", "checkOrderArguments", "(III)V"⟩, 12), (⟨"HatWorks$Tape", "startReading", "(I)V"⟩, 7), (⟨"HatWorks$Tape", "readPart", "()Z"⟩, 7), (⟨"HatWorks$Tape", "skipBlanks", "()V"⟩, 7), (⟨"HatWorks$Tape", "skipLetters", "()V"⟩, 7), (⟨"HatWorks$Tape", "partNamed", "(I)I"⟩, 7)]
theorem lw_r1 : ∀ q ∈ lw_privs_1, lw_okq q := List.forall_mem_cons.mpr ⟨lw_p0, List.forall_mem_cons.mpr ⟨lw_p1, List.forall_mem_cons.mpr ⟨lw_p2, List.forall_mem_cons.mpr ⟨lw_p3, List.forall_mem_cons.mpr ⟨lw_p4, List.forall_mem_cons.mpr ⟨lw_p5, List.forall_mem_cons.mpr ⟨lw_p6, List.forall_mem_cons.mpr ⟨lw_p7, List.forall_mem_cons.mpr ⟨lw_p8, List.forall_mem_cons.mpr ⟨lw_p9, List.forall_mem_cons.mpr ⟨lw_p10, List.forall_mem_cons.mpr ⟨lw_p11, List.forall_mem_cons.mpr ⟨lw_p12, List.forall_mem_cons.mpr ⟨lw_p13, List.forall_mem_cons.mpr ⟨lw_p14, List.forall_mem_cons.mpr ⟨lw_p15, fun _ h => absurd h List.not_mem_nil⟩⟩⟩⟩⟩⟩⟩⟩⟩⟩⟩⟩⟩⟩⟩⟩
theorem lw_p16 : lw_okq (⟨"HatWorks$Tape", "isWord", "(Ljava/lang/String;I)Z"⟩, 7) := ⟨⟨by decide +kernel, by decide +kernel⟩, List.mem_of_getElem? (i := 26) (by decide +kernel), List.mem_of_getElem? (i := 414) (by decide +kernel), List.mem_of_getElem? (i := 415) (by decide +kernel)⟩
theorem lw_p17 : lw_okq (⟨"HatWorks$Tape", "blame", "(II)V"⟩, 7) := ⟨⟨by decide +kernel, by decide +kernel⟩, List.mem_of_getElem? (i := 26) (by decide +kernel), List.mem_of_getElem? (i := 466) (by decide +kernel), List.mem_of_getElem? (i := 467) (by decide +kernel)⟩
theorem lw_p18 : lw_okq (⟨"HatWorks$Tape", "readNumber", "()I"⟩, 7) := ⟨⟨by decide +kernel, by decide +kernel⟩, List.mem_of_getElem? (i := 26) (by decide +kernel), List.mem_of_getElem? (i := 470) (by decide +kernel), List.mem_of_getElem? (i := 471) (by decide +kernel)⟩
theorem lw_p19 : lw_okq (⟨"HatWorks$Tape", "readComma", "()Z"⟩, 7) := ⟨⟨by decide +kernel, by decide +kernel⟩, List.mem_of_getElem? (i := 26) (by decide +kernel), List.mem_of_getElem? (i := 481) (by decide +kernel), List.mem_of_getElem? (i := 482) (by decide +kernel)⟩
theorem lw_p20 : lw_okq (⟨"HatWorks", "addOrder", "(II)I"⟩, 12) := ⟨⟨by decide +kernel, by decide +kernel⟩, List.mem_of_getElem? (i := 18) (by decide +kernel), List.mem_of_getElem? (i := 485) (by decide +kernel), List.mem_of_getElem? (i := 486) (by decide +kernel)⟩
theorem lw_p21 : lw_okq (⟨"HatWorks$Tape", "valueOf", "(I)I"⟩, 7) := ⟨⟨by decide +kernel, by decide +kernel⟩, List.mem_of_getElem? (i := 26) (by decide +kernel), List.mem_of_getElem? (i := 502) (by decide +kernel), List.mem_of_getElem? (i := 503) (by decide +kernel)⟩
theorem lw_p22 : lw_okq (⟨"HatWorks", "checkBlock", "(I)V"⟩, 12) := ⟨⟨by decide +kernel, by decide +kernel⟩, List.mem_of_getElem? (i := 18) (by decide +kernel), List.mem_of_getElem? (i := 522) (by decide +kernel), List.mem_of_getElem? (i := 523) (by decide +kernel)⟩
theorem lw_p23 : lw_okq (⟨"HatWorks", "checkOrder", "(I)V"⟩, 12) := ⟨⟨by decide +kernel, by decide +kernel⟩, List.mem_of_getElem? (i := 18) (by decide +kernel), List.mem_of_getElem? (i := 551) (by decide +kernel), List.mem_of_getElem? (i := 552) (by decide +kernel)⟩
theorem lw_p24 : lw_okq (⟨"HatWorks", "stateOf", "(I)I"⟩, 12) := ⟨⟨by decide +kernel, by decide +kernel⟩, List.mem_of_getElem? (i := 18) (by decide +kernel), List.mem_of_getElem? (i := 557) (by decide +kernel), List.mem_of_getElem? (i := 558) (by decide +kernel)⟩
theorem lw_p25 : lw_okq (⟨"HatWorks", "isDone", "(I)Z"⟩, 12) := ⟨⟨by decide +kernel, by decide +kernel⟩, List.mem_of_getElem? (i := 18) (by decide +kernel), List.mem_of_getElem? (i := 561) (by decide +kernel), List.mem_of_getElem? (i := 562) (by decide +kernel)⟩
theorem lw_p26 : lw_okq (⟨"HatWorksModel", "bad", "(ZI)Z"⟩, 28) := ⟨⟨by decide +kernel, by decide +kernel⟩, List.mem_of_getElem? (i := 597) (by decide +kernel), List.mem_of_getElem? (i := 696) (by decide +kernel), List.mem_of_getElem? (i := 697) (by decide +kernel)⟩
theorem lw_p27 : lw_okq (⟨"HatWorksModel", "isBlock", "(I)Z"⟩, 28) := ⟨⟨by decide +kernel, by decide +kernel⟩, List.mem_of_getElem? (i := 597) (by decide +kernel), List.mem_of_getElem? (i := 708) (by decide +kernel), List.mem_of_getElem? (i := 709) (by decide +kernel)⟩
theorem lw_p28 : lw_okq (⟨"HatWorksModel", "misfitOf", "(II)I"⟩, 28) := ⟨⟨by decide +kernel, by decide +kernel⟩, List.mem_of_getElem? (i := 597) (by decide +kernel), List.mem_of_getElem? (i := 712) (by decide +kernel), List.mem_of_getElem? (i := 713) (by decide +kernel)⟩
theorem lw_p29 : lw_okq (⟨"HatWorksModel", "readHat", "()V"⟩, 28) := ⟨⟨by decide +kernel, by decide +kernel⟩, List.mem_of_getElem? (i := 597) (by decide +kernel), List.mem_of_getElem? (i := 725) (by decide +kernel), List.mem_of_getElem? (i := 726) (by decide +kernel)⟩
theorem lw_p30 : lw_okq (⟨"HatWorksModel", "readPart", "()V"⟩, 28) := ⟨⟨by decide +kernel, by decide +kernel⟩, List.mem_of_getElem? (i := 597) (by decide +kernel), List.mem_of_getElem? (i := 729) (by decide +kernel), List.mem_of_getElem? (i := 730) (by decide +kernel)⟩
theorem lw_p31 : lw_okq (⟨"HatWorksModel", "blanks", "()V"⟩, 28) := ⟨⟨by decide +kernel, by decide +kernel⟩, List.mem_of_getElem? (i := 597) (by decide +kernel), List.mem_of_getElem? (i := 733) (by decide +kernel), List.mem_of_getElem? (i := 734) (by decide +kernel)⟩
def lw_privs_2 : List (MethodName × Nat) := [(⟨"HatWorks$Tape", "isWord", "(Ljava/lang/String;I)Z"⟩, 7), (⟨"HatWorks$Tape", "blame", "(II)V"⟩, 7), (⟨"HatWorks$Tape", "readNumber", "()I"⟩, 7), (⟨"HatWorks$Tape", "readComma", "()Z"⟩, 7), (⟨"HatWorks", "addOrder", "(II)I"⟩, 12), (⟨"HatWorks$Tape", "valueOf", "(I)I"⟩, 7), (⟨"HatWorks", "checkBlock", "(I)V"⟩, 12), (⟨"HatWorks", "checkOrder", "(I)V"⟩, 12), (⟨"HatWorks", "stateOf", "(I)I"⟩, 12), (⟨"HatWorks", "isDone", "(I)Z"⟩, 12), (⟨"HatWorksModel", "bad", "(ZI)Z"⟩, 28), (⟨"HatWorksModel", "isBlock", "(I)Z"⟩, 28), (⟨"HatWorksModel", "misfitOf", "(II)I"⟩, 28), (⟨"HatWorksModel", "readHat", "()V"⟩, 28), (⟨"HatWorksModel", "readPart", "()V"⟩, 28), (⟨"HatWorksModel", "blanks", "()V"⟩, 28)]
theorem lw_r2 : ∀ q ∈ lw_privs_2, lw_okq q := List.forall_mem_cons.mpr ⟨lw_p16, List.forall_mem_cons.mpr ⟨lw_p17, List.forall_mem_cons.mpr ⟨lw_p18, List.forall_mem_cons.mpr ⟨lw_p19, List.forall_mem_cons.mpr ⟨lw_p20, List.forall_mem_cons.mpr ⟨lw_p21, List.forall_mem_cons.mpr ⟨lw_p22, List.forall_mem_cons.mpr ⟨lw_p23, List.forall_mem_cons.mpr ⟨lw_p24, List.forall_mem_cons.mpr ⟨lw_p25, List.forall_mem_cons.mpr ⟨lw_p26, List.forall_mem_cons.mpr ⟨lw_p27, List.forall_mem_cons.mpr ⟨lw_p28, List.forall_mem_cons.mpr ⟨lw_p29, List.forall_mem_cons.mpr ⟨lw_p30, List.forall_mem_cons.mpr ⟨lw_p31, fun _ h => absurd h List.not_mem_nil⟩⟩⟩⟩⟩⟩⟩⟩⟩⟩⟩⟩⟩⟩⟩⟩
theorem lw_p32 : lw_okq (⟨"HatWorksModel", "byteAt", "(I)I"⟩, 28) := ⟨⟨by decide +kernel, by decide +kernel⟩, List.mem_of_getElem? (i := 597) (by decide +kernel), List.mem_of_getElem? (i := 737) (by decide +kernel), List.mem_of_getElem? (i := 738) (by decide +kernel)⟩
theorem lw_p33 : lw_okq (⟨"HatWorksModel", "isWord", "(Ljava/lang/String;)Z"⟩, 28) := ⟨⟨by decide +kernel, by decide +kernel⟩, List.mem_of_getElem? (i := 597) (by decide +kernel), List.mem_of_getElem? (i := 748) (by decide +kernel), List.mem_of_getElem? (i := 749) (by decide +kernel)⟩
theorem lw_p34 : lw_okq (⟨"HatWorksModel", "wrong", "(II)V"⟩, 28) := ⟨⟨by decide +kernel, by decide +kernel⟩, List.mem_of_getElem? (i := 597) (by decide +kernel), List.mem_of_getElem? (i := 757) (by decide +kernel), List.mem_of_getElem? (i := 758) (by decide +kernel)⟩
theorem lw_p35 : lw_okq (⟨"HatWorksModel", "isOrder", "(I)Z"⟩, 28) := ⟨⟨by decide +kernel, by decide +kernel⟩, List.mem_of_getElem? (i := 597) (by decide +kernel), List.mem_of_getElem? (i := 772) (by decide +kernel), List.mem_of_getElem? (i := 773) (by decide +kernel)⟩
theorem lw_p36 : lw_okq (⟨"HatWorksModel", "waits", "(I)Z"⟩, 28) := ⟨⟨by decide +kernel, by decide +kernel⟩, List.mem_of_getElem? (i := 597) (by decide +kernel), List.mem_of_getElem? (i := 780) (by decide +kernel), List.mem_of_getElem? (i := 781) (by decide +kernel)⟩
theorem lw_p37 : lw_okq (⟨"HatWorksModel", "goes", "(I)I"⟩, 28) := ⟨⟨by decide +kernel, by decide +kernel⟩, List.mem_of_getElem? (i := 597) (by decide +kernel), List.mem_of_getElem? (i := 784) (by decide +kernel), List.mem_of_getElem? (i := 785) (by decide +kernel)⟩
theorem lw_p38 : lw_okq (⟨"HatWorksModel", "plans", "()V"⟩, 28) := ⟨⟨by decide +kernel, by decide +kernel⟩, List.mem_of_getElem? (i := 597) (by decide +kernel), List.mem_of_getElem? (i := 796) (by decide +kernel), List.mem_of_getElem? (i := 797) (by decide +kernel)⟩
theorem lw_p39 : lw_okq (⟨"HatWorksModel", "costOf", "()J"⟩, 28) := ⟨⟨by decide +kernel, by decide +kernel⟩, List.mem_of_getElem? (i := 597) (by decide +kernel), List.mem_of_getElem? (i := 801) (by decide +kernel), List.mem_of_getElem? (i := 802) (by decide +kernel)⟩
theorem lw_p40 : lw_okq (⟨"HatWorksModel", "isUsed", "(II)Z"⟩, 28) := ⟨⟨by decide +kernel, by decide +kernel⟩, List.mem_of_getElem? (i := 597) (by decide +kernel), List.mem_of_getElem? (i := 805) (by decide +kernel), List.mem_of_getElem? (i := 806) (by decide +kernel)⟩
def lw_privs_3 : List (MethodName × Nat) := [(⟨"HatWorksModel", "byteAt", "(I)I"⟩, 28), (⟨"HatWorksModel", "isWord", "(Ljava/lang/String;)Z"⟩, 28), (⟨"HatWorksModel", "wrong", "(II)V"⟩, 28), (⟨"HatWorksModel", "isOrder", "(I)Z"⟩, 28), (⟨"HatWorksModel", "waits", "(I)Z"⟩, 28), (⟨"HatWorksModel", "goes", "(I)I"⟩, 28), (⟨"HatWorksModel", "plans", "()V"⟩, 28), (⟨"HatWorksModel", "costOf", "()J"⟩, 28), (⟨"HatWorksModel", "isUsed", "(II)Z"⟩, 28)]
theorem lw_r3 : ∀ q ∈ lw_privs_3, lw_okq q := List.forall_mem_cons.mpr ⟨lw_p32, List.forall_mem_cons.mpr ⟨lw_p33, List.forall_mem_cons.mpr ⟨lw_p34, List.forall_mem_cons.mpr ⟨lw_p35, List.forall_mem_cons.mpr ⟨lw_p36, List.forall_mem_cons.mpr ⟨lw_p37, List.forall_mem_cons.mpr ⟨lw_p38, List.forall_mem_cons.mpr ⟨lw_p39, List.forall_mem_cons.mpr ⟨lw_p40, fun _ h => absurd h List.not_mem_nil⟩⟩⟩⟩⟩⟩⟩⟩⟩
def lw_privs : List (MethodName × Nat) := lw_privs_1 ++ (lw_privs_2 ++ (lw_privs_3))
def lw_tbl : List Cond := k2_sels lw_privs ++ tables_1
theorem lw_privs_ok : ∀ q ∈ lw_privs, lw_okq q := by
  show ∀ q ∈ lw_privs_1 ++ (lw_privs_2 ++ (lw_privs_3)), lw_okq q
  exact List.forall_mem_append.mpr ⟨lw_r1, List.forall_mem_append.mpr ⟨lw_r2, lw_r3⟩⟩
end
section
/-! ===== BEGIN words of one list among another's, by their places ===== -/
theorem goodIn_r {big : List Cond} (ws : List Cond) (ps : List Nat) (hp : ws = ps.filterMap (fun i => big[i]?)) (h : ws.all goodWord = true) : GoodIn big ws := by
  intro w hw
  have h1 := List.all_eq_true.mp h w hw
  rw [hp] at hw
  obtain ⟨i, -, hi⟩ := List.mem_filterMap.mp hw
  have hm : w ∈ big := by first | exact List.mem_of_getElem? hi | exact List.getElem?_mem hi
  exact ⟨hm, good_of_word h1⟩
theorem goodIn_app {big a b : List Cond} (ha : GoodIn big a) (hb : GoodIn big b) : GoodIn big (a ++ b) := fun w h => (List.mem_append.mp h).elim (ha w) (hb w)
theorem goodIn_ca {big a b : List Cond} {c : Cond} (ha : GoodIn big (c :: a)) (hb : GoodIn big b) : GoodIn big (c :: (a ++ b)) := fun w h => (List.mem_cons.mp h).elim (fun e => ha w (List.mem_cons.mpr (Or.inl e))) (fun h => (List.mem_append.mp h).elim (fun h => ha w (List.mem_cons.mpr (Or.inr h))) (hb w))
theorem goodIn_sub {big ws : List Cond} (hm : ∀ w ∈ ws, w ∈ big) (h : ws.all goodWord = true) : GoodIn big ws := fun w hw => ⟨hm w hw, good_of_word (List.all_eq_true.mp h w hw)⟩
/-! ===== END ===== -/

/-! ===== BEGIN new T[n][m]: the outer array a place, the inner ones among the pooled ===== -/
/-- f, but v at every address of l -/
def vr_up {α : Type} (f : Nat → α) (l : List Nat) (v : α) : Nat → α := fun a => if a ∈ l then v else f a
theorem vr_up_in {α : Type} {f : Nat → α} {l : List Nat} {v : α} {a : Nat} (h : a ∈ l) : vr_up f l v a = v := if_pos h
theorem vr_up_ne {α : Type} {f : Nat → α} {l : List Nat} {v : α} {a : Nat} (h : a ∉ l) : vr_up f l v a = f a := if_neg h
theorem vr_rows {L l : List Nat} {f : Nat → va_E} {e : va_E} (h : ∀ a, a ∈ l → a ∉ L) : va_pl L f ++ l.map (fun a => (a, e)) = va_pl (L ++ l) (vr_up f l e) := by
  unfold va_pl
  rw [List.map_append]
  congr 1
  · apply List.map_congr_left
    intro a ha
    rw [vr_up_ne (fun q => h a q ha)]
  · apply List.map_congr_left
    intro a ha
    rw [vr_up_in ha]
theorem vr_lay {X rows : va_W} {x : Nat × va_E} {pl : va_W} {D : va_G} {cl : List vw_C} {H : Heap} (hP : va_P D cl (((X ++ pl) ++ [x]) ++ rows) H) : va_P D cl ((X ++ [x]) ++ (pl ++ rows)) H := by
  rw [List.append_assoc (X ++ pl)] at hP
  have h := va_P.swap hP
  rw [← List.append_assoc X] at h
  have h2 := va_P.swap h
  rw [List.append_assoc (X ++ [x])] at h2
  exact h2
theorem vr_layD {X rows : va_W} {x : Nat × va_E} {pl : va_W} {A : Nat → Prop} (hD : va_D A (((X ++ pl) ++ [x]) ++ rows)) : va_D A ((X ++ [x]) ++ (pl ++ rows)) := by
  rw [List.append_assoc (X ++ pl)] at hD
  have h := va_D.swap hD
  rw [← List.append_assoc X] at h
  have h2 := va_D.swap h
  rw [List.append_assoc (X ++ [x])] at h2
  exact h2
theorem vr_outer (c : ClassId) (N h0 : Nat) : ∀ i : Nat, Jvm.Free.Multi.outerC c N h0 i = arrV c N (fun j => va_rf (if j < i then some (h0 + 1 + j) else none))
  | 0 => by
    show ({ cls := c, slots := Array.replicate N .null, vm := .none } : Cell) = _
    rw [arrV_new]
    refine congrArg (arrV c N) (funext fun j => ?_)
    simp [va_rf]
  | i + 1 => by
    show (Jvm.Free.Multi.outerC c N h0 i).setSlot i (.ref (h0 + 1 + i)) = _
    rw [vr_outer c N h0 i, arrV_store]
    refine congrArg (arrV c N) (funext fun j => ?_)
    by_cases e : j = i
    · subst e
      simp [updV, va_rf]
    · by_cases h : j < i
      · simp [updV, e, h, Nat.lt_succ_of_lt h]
      · simp [updV, e, h, show ¬ j < i + 1 by omega]
def va_AOA (ty : FieldType) (U : State) : Prop := (Cond.arrayOver (.array ty)).before #[] U = true
theorem va_AOA.of {ty : FieldType} {A : Array Value} {U : State} (h : (Cond.arrayOver (.array ty)).before A U = true) : va_AOA ty U := h
theorem va_AOA.use {ty : FieldType} {A : Array Value} {U : State} (h : va_AOA ty U) : (Cond.arrayOver (.array ty)).before A U = true := h
section VGM
variable {p : Program} {l : Launch} {e : Env} {R : Room} {s : State} {m : MethodId} {args : Array Value} {below : List Frame} {meth : Method} {c : Code} {H : Heap} {locs : List Loc} {cells slots : Nat} {Q : State → Prop}
variable {cc : ByteArray} {pc : Nat} {ls : Array Slot} {rest : List Value} {D : va_G} {cl : List vw_C} {A : Nat → Prop} {a : Nat} {tys : List (ClassId × FieldType)} {ws : va_W} {H0 : Heap}
theorem va_mna {X : va_W} {L : List Nat} {f : Nat → va_E} {cc : ByteArray} (hexec : p.tables.exec = Jvm.exec) (hb : c.code = cc) {own : String} {index : Nat} {ty : FieldType} {cy : ClassId} (hown : s.vm.findClass own = some m.cls) (hclink : (Cond.classLink own index ("[" ++ (FieldType.array ty).toString)).before args s = true) (hover : va_AOA ty s) (harr : (Cond.arrayClass ty).before args s = true) (hcy : s.vm.findClass (FieldType.array ty).toString = some cy)
    (hK : va_K D cl tys s) (hP : va_P D cl (X ++ va_pl L f) H) (hD : va_D A (X ++ va_pl L f)) (hS : va_S A H0 H locs) (hA : ∀ q, H0.size ≤ q → A q) {n k : Int32} {N' K' : Nat} {z : vp_A} (hn : ¬ n < 0) (hk : ¬ k < 0) (hN : n.toNatClampNeg = N') (hM : k.toNatClampNeg = K')
    (hb1 : N' * 4 ≤ 536870912) (hb2 : K' * componentBytes ty ≤ 536870912) (hb3 : K' ≤ 536870912) (hdf : fits ty (defaultValue ty) = true) (hdd : (defaultValue ty).isDefault = true) (hcells : cells + (1 + N') ≤ R.cells) (hslots : slots + (N' + N' * K') ≤ R.slots) (hz : ∀ c : ClassId, Jvm.Free.Multi.innerC c K' (defaultValue ty) = vp_cell c z) (hdg : decode cc pc = .ok (.multianewarray index 2, 4))
    (kk : ∀ (q : Nat) (r : Nat → Nat) (cA : ClassId) (H1 : Heap), (∀ i j : Nat, i < N' → j < N' → r i = r j → i = j) → (∀ i : Nat, i < N' → r i ∉ L) → va_K D cl (tys ++ [(cA, .array ty)]) s →
      va_P D cl ((X ++ [(q, .inl (cA, N', .inr (.inr (.inr (.inr (fun i => if i < N' then some (r i) else none))))))]) ++ va_pl (L ++ (List.range N').map r) (vr_up f ((List.range N').map r) (.inl (cy, z)))) H1 → va_D A ((X ++ [(q, .inl (cA, N', .inr (.inr (.inr (.inr (fun i => if i < N' then some (r i) else none))))))]) ++ va_pl (L ++ (List.range N').map r) (vr_up f ((List.range N').map r) (.inl (cy, z)))) → va_S A H0 H1 locs →
      W p l e R s m args below meth c H1 locs (cells + 1 + N') (slots + N' + N' * K') Q (F0 m (pc + 4) ls (.ref q :: rest))) : W p l e R s m args below meth c H locs cells slots Q (F0 m pc ls (.int k :: .int n :: rest)) := by
  subst hN
  subst hM
  intro T hT Xs
  obtain ⟨vm₁, cA, comp, -, fA, fC, hO, -, X', step⟩ := Xs.multianewarray2F hexec hown hclink (va_AOA.use hover) harr (g := F0 m pc ls (.int k :: .int n :: rest)) rfl (by rw [hb]; exact hdg) rfl hn hk hb1 hb2 hb3 hdf hdd hcells hslots
  have ec : some cy = some comp := hcy.symm.trans fC
  cases ec
  generalize hF : Jvm.Free.Multi.fill (T.setVm vm₁) cA cy n.toNatClampNeg k.toNatClampNeg (defaultValue ty) n.toNatClampNeg = F at X' step
  have hTh : (T.setVm vm₁).heap = H := hT
  obtain ⟨f1, f2, -, -⟩ := Jvm.Free.Multi.fill_facts (T.setVm vm₁) cA cy n.toNatClampNeg k.toNatClampNeg (defaultValue ty) n.toNatClampNeg
  rw [hF, hTh] at f1 f2
  have hold : ∀ x : Nat, x < H.size → F.heap[x]? = H[x]? := fun x hx => by
    have := Jvm.Free.Multi.fill_old (T.setVm vm₁) cA cy n.toNatClampNeg k.toNatClampNeg (defaultValue ty) (a := x) (by rw [hTh]; exact hx) n.toNatClampNeg
    rw [hF, hTh] at this
    exact this
  have hrow : ∀ j : Nat, j < n.toNatClampNeg → F.heap[H.size + 1 + j]? = some (vp_cell cy z) := fun j hj => by
    have := Jvm.Free.Multi.fill_inner (T.setVm vm₁) cA cy n.toNatClampNeg k.toNatClampNeg (defaultValue ty) n.toNatClampNeg j hj
    rw [hF, hTh, hz] at this
    exact this
  have hout : Jvm.Free.Multi.outerC cA n.toNatClampNeg H.size n.toNatClampNeg = vp_cell cA (n.toNatClampNeg, .inr (.inr (.inr (.inr (fun i => if i < n.toNatClampNeg then some (H.size + 1 + i) else none))))) := by
    rw [vp_cell_q]
    exact vr_outer cA n.toNatClampNeg H.size n.toNatClampNeg
  rw [hout] at f2
  have hlt : ∀ a, a ∈ L → a < H.size := fun a ha => by
    obtain ⟨k9, hk9⟩ := va_pl_get (X := X) (f := f) ha
    exact (hP k9 _ hk9).lt
  have hnl : ∀ i : Nat, i < n.toNatClampNeg → H.size + 1 + i ∉ L := fun i _ h => by
    have := hlt _ h
    omega
  have hnm : ∀ a, a ∈ (List.range n.toNatClampNeg).map (fun i => H.size + 1 + i) → a ∉ L := fun a ha h => by
    obtain ⟨i, -, rfl⟩ := List.mem_map.mp ha
    have := hlt _ h
    omega
  have hP0 : va_P D cl (X ++ va_pl L f) F.heap := hP.kept (fun k9 x hx => hold x.1 ((hP k9 x hx).lt))
  have hP1 : va_P D cl ((X ++ va_pl L f) ++ [(H.size, .inl (cA, n.toNatClampNeg, .inr (.inr (.inr (.inr (fun i => if i < n.toNatClampNeg then some (H.size + 1 + i) else none))))))]) F.heap := hP0.app (fun k9 x hx => by
    have h0 : k9 < 1 := (List.getElem?_eq_some_iff.mp hx).1
    rw [show k9 = 0 by omega] at hx
    cases hx
    exact f2)
  have hP2 : va_P D cl (((X ++ va_pl L f) ++ [(H.size, .inl (cA, n.toNatClampNeg, .inr (.inr (.inr (.inr (fun i => if i < n.toNatClampNeg then some (H.size + 1 + i) else none))))))]) ++ ((List.range n.toNatClampNeg).map (fun i => H.size + 1 + i)).map (fun a => (a, .inl (cy, z)))) F.heap := hP1.app (fun k9 x hx => by
    obtain ⟨a, ha, rfl⟩ := List.mem_map.mp (List.mem_of_getElem? hx)
    obtain ⟨i, hi, rfl⟩ := List.mem_map.mp ha
    exact hrow i (List.mem_range.mp hi))
  have hD2 : va_D A (((X ++ va_pl L f) ++ [(H.size, .inl (cA, n.toNatClampNeg, .inr (.inr (.inr (.inr (fun i => if i < n.toNatClampNeg then some (H.size + 1 + i) else none))))))]) ++ ((List.range n.toNatClampNeg).map (fun i => H.size + 1 + i)).map (fun a => (a, .inl (cy, z)))) := by
    have hD1 := hD.push (e := .inl (cA, n.toNatClampNeg, .inr (.inr (.inr (.inr (fun i => if i < n.toNatClampNeg then some (H.size + 1 + i) else none)))))) hP rfl (hA _ hS.1)
    generalize hW1 : (X ++ va_pl L f) ++ [(H.size, .inl (cA, n.toNatClampNeg, .inr (.inr (.inr (.inr (fun i => if i < n.toNatClampNeg then some (H.size + 1 + i) else none))))))] = W1 at hD1 hP1 ⊢
    have hle : ∀ (k9 : Nat) (x : Nat × va_E), W1[k9]? = some x → x.1 ≤ H.size := fun k9 x hx => by
      rw [← hW1] at hx
      by_cases hl : k9 < (X ++ va_pl L f).length
      · rw [List.getElem?_append_left hl] at hx
        exact Nat.le_of_lt ((hP k9 x hx).lt)
      · rw [List.getElem?_append_right (by omega)] at hx
        have h0 : k9 - (X ++ va_pl L f).length < 1 := (List.getElem?_eq_some_iff.mp hx).1
        rw [show k9 - (X ++ va_pl L f).length = 0 by omega] at hx
        cases hx
        exact Nat.le_refl _
    have hr : ∀ (k9 : Nat) (x : Nat × va_E), (((List.range n.toNatClampNeg).map (fun i => H.size + 1 + i)).map (fun a => ((a, .inl (cy, z)) : Nat × va_E)))[k9]? = some x → x.1 = H.size + 1 + k9 := fun k9 x hx => by
      rw [List.getElem?_map, List.getElem?_map] at hx
      by_cases h9 : k9 < n.toNatClampNeg
      · rw [List.getElem?_range h9] at hx
        cases hx
        rfl
      · have hn0 : (List.range n.toNatClampNeg)[k9]? = none := List.getElem?_eq_none (by rw [List.length_range]; omega)
        rw [hn0] at hx
        cases hx
    refine ⟨fun i j x y hi hj hxy => ?_, fun k9 x hx => ?_⟩
    · by_cases h1 : i < W1.length <;> by_cases h2 : j < W1.length
      · rw [List.getElem?_append_left h1] at hi
        rw [List.getElem?_append_left h2] at hj
        exact hD1.1 i j x y hi hj hxy
      · rw [List.getElem?_append_left h1] at hi
        rw [List.getElem?_append_right (by omega)] at hj
        have := hle _ _ hi
        have := hr _ _ hj
        omega
      · rw [List.getElem?_append_right (by omega)] at hi
        rw [List.getElem?_append_left h2] at hj
        have := hle _ _ hj
        have := hr _ _ hi
        omega
      · rw [List.getElem?_append_right (by omega)] at hi hj
        have := hr _ _ hi
        have := hr _ _ hj
        omega
    · by_cases h1 : k9 < W1.length
      · rw [List.getElem?_append_left h1] at hx
        exact hD1.2 k9 x hx
      · rw [List.getElem?_append_right (by omega)] at hx
        have := hr _ _ hx
        exact hA _ (by have := hS.1; omega)
  have hAr : ArrOfT s cA (.array ty) := fun N9 z9 => by
    obtain ⟨-, k9, hk9, cm9, hkk9⟩ := (hO 0 0 0).1
    exact ⟨(fun q hq => by cases hq), k9, hk9, cm9, hkk9⟩
  have hK2 : va_K D cl (tys ++ [(cA, .array ty)]) s := ⟨hK.1, fun k9 x hx => by
    by_cases hl : k9 < tys.length
    · rw [List.getElem?_append_left hl] at hx
      exact hK.2 k9 x hx
    · rw [List.getElem?_append_right (by omega)] at hx
      have h0 : k9 - tys.length < 1 := (List.getElem?_eq_some_iff.mp hx).1
      rw [show k9 - tys.length = 0 by omega] at hx
      cases hx
      exact ⟨hAr, fA⟩⟩
  obtain ⟨t, a1, b1⟩ := kk H.size (fun i => H.size + 1 + i) cA F.heap (fun i j _ _ h => by have h9 : H.size + 1 + i = H.size + 1 + j := h; omega) hnl hK2 (by rw [← vr_rows hnm]; exact vr_lay hP2) (by rw [← vr_rows hnm]; exact vr_layD hD2) ⟨by rw [f1]; have := hS.1; omega, fun x h1 h2 => (hold x (Nat.lt_of_lt_of_le h1 hS.1)).trans (hS.2.1 x h1 h2), hS.2.2⟩ F rfl X'
  refine ⟨t, step t ?_, b1⟩
  have e : T.heap.size = H.size := by rw [hT]
  rw [e]
  exact a1
end VGM
/-! ===== END ===== -/

/-! ===== BEGIN exceptions that leave a method, and their catching by the caller (launches without stack traces) ===== -/
section VXA
/-! The laws vx_back, vx_callV, vx_callS, vx_callSW, vx_throw0, vx_throwS follow proofs of the library, with one case more: JvmDerived/Free/Laws.lean (Back.of_free), Shelf42/LK1.lean (callV, callS), Shelf/KitTraced.lean (throwNew0V, throwNewS). -/
/-- where a method has thrown q: the class by its name, the cell, what was written, the world -/
def vx_T (XC : String → State → State → Prop) (st : State) (q : Addr) (t : State) (mc ms : Nat) (free : Addr → Prop) : Prop :=
  ∃ (E : String) (ce : Cell) (L : List Loc), XC E st t ∧ t.heap[q]? = some ce ∧ ce.vm = .none ∧ st.vm.findClass E = some ce.cls ∧ st.WarmedH t.vm ∧ st.sameButNew ({ t with vm := st.vm } : State) L mc ms ∧ ∀ z ∈ L, free z.base
def vx_Q (Qc : Array Value → State → Outcome → State → Prop) (XC : String → State → State → Prop) (mc ms : Nat) (free : Addr → Prop) : Array Value → State → Outcome → State → Prop := fun a st o t =>
  (Qc a st o t ∧ ∃ L, FrameEnd st o t L mc ms ∧ ∀ q ∈ L, free q.base) ∨ ∃ q, o = .threw q ∧ vx_T XC st q t mc ms free
/-- a callee that returns or throws -/
def vx_Met (l : Launch) (y : MethodName) (ws : List Cond) (rm : Room) (Pc : Array Value → State → Prop) (Qc : Array Value → State → Outcome → State → Prop) (XC : String → State → State → Prop) (mc ms : Nat) (free : Addr → Prop) : Prop :=
  MetFree l y (headSpec ws rm) Pc (fun _ _ _ _ _ => True) (vx_Q Qc XC mc ms free)
def vx_Post (XC : String → State → State → Prop) (mc ms : Nat) (free : Addr → Prop) : Pt → Array Value → Addr → Pt → Prop := fun A a q B =>
  ∃ (g : JFrame) (mk : MethodId) (t : State) (L : List Loc) (E : String) (ce : Cell), B.U.heap = t.heap ∧ B.U.vm = t.vm ∧ XC E (A.U.calling g mk a) t ∧ t.heap[q]? = some ce ∧ ce.vm = .none ∧ A.U.vm.findClass E = some ce.cls ∧ B.locs = A.locs ++ L ∧ (∀ z ∈ L, free z.base) ∧ B.cells = A.cells + mc ∧ B.slots = A.slots + ms
def vx_Back (l : Launch) (R : Room) (p : Program) (e : Env) (below : List Frame) (s : State) (sargs : Array Value) (y : MethodName) (len W9 : Nat)
    (Pre : Pt → Array Value → Prop) (Post : Pt → Array Value → Option Value → Pt → Prop) (PostX : Pt → Array Value → Addr → Pt → Prop) : Prop :=
  ∀ (m : MethodId) (meth : Method) (c : Code) (A : Pt) (g : JFrame) (ig : Instr) (mk : MethodId) (a : Array Value),
    Stand p l e R s m sargs below meth c A.U A.locs A.cells A.slots → g.method = m → g.locals.size = c.maxLocals → decode c.code g.pc = .ok (ig, len) →
    2 * g.monitorRoom + (g.stack.map fun v => v.category).sum ≤ W9 → A.U.methodNamed? y = some mk → Pre A a →
    (∃ (v : Option Value) (B : Pt), Stand p l e R s m sargs below meth c B.U B.locs B.cells B.slots ∧ Post A a v B ∧
      Steps p.tables e below (doInvoke e (A.U.setTop g) [] mk a).1 (B.U.setTop { g with pc := g.pc + len, stack := v.toList ++ g.stack })) ∨
    (∃ (q : Addr) (B : Pt), Stand p l e R s m sargs below meth c B.U B.locs B.cells B.slots ∧ PostX A a q B ∧
      Steps p.tables e below (doInvoke e (A.U.setTop g) [] mk a).1 ((B.U.setTop g).pushFrame (.throwing q)))
section Payer
variable {l : Launch} {R : Room} {p : Program} {e : Env} {below : List Frame} {s : State} {sargs : Array Value} {y : MethodName} {len W9 : Nat}
theorem vx_back {ws : List Cond} {rm : Room} {Pc : Array Value → State → Prop} {Qc : Array Value → State → Outcome → State → Prop} {XC : String → State → State → Prop} {mc ms : Nat} {free : Addr → Prop} {bytes : ByteArray} {maxL : Nat} {ret : Option FieldType}
    (hM : vx_Met l y ws rm Pc Qc XC mc ms free) (hblind : FrameBlind Pc) (hrc : rm.cells = mc) (hrs : rm.slots = ms)
    (hframes : rm.frames + 1 ≤ R.frames) (hlocals : W9 + (maxL + 11) + rm.locals ≤ R.locals)
    (hws : ∀ w ∈ ws, ∀ a' U, s.WarmedH U.vm → w.before a' U = true) (hcode : Cond.code y bytes maxL ret ∈ ws) (hinit : ∀ a' U, s.WarmedH U.vm → (Cond.initialized y.cls).before a' U = true) :
    vx_Back l R p e below s sargs y len W9 (PreOf R mc ms Pc) (PostOf Qc mc ms free) (vx_Post XC mc ms free) := by
  intro m meth c A g ig mk a X hg hsize hdg hW hn hp
  have h1 : (headSpec ws rm).pre.before a A.U = true := atoms_intro fun w hw => hws w hw _ _ X.warmed
  have h2 : (Cond.code y bytes maxL ret).before a A.U = true := hws _ hcode _ _ X.warmed
  have h3 : (Cond.initialized y.cls).before a A.U = true := hinit _ _ X.warmed
  have h4 : A.cells + (headSpec ws rm).room.cells ≤ R.cells := by rw [show (headSpec ws rm).room.cells = mc from hrc]; exact hp.1
  have h5 : A.slots + (headSpec ws rm).room.slots ≤ R.slots := by rw [show (headSpec ws rm).room.slots = ms from hrs]; exact hp.2.1
  have hPc : Pc a (A.U.calling g mk a) := hblind _ _ _ _ hp.2.2
  obtain ⟨U, Ls, c0, s0⟩ := A
  dsimp only [Pt.U, Pt.locs, Pt.cells, Pt.slots] at h1 h2 h3 h4 h5 X hn hPc ⊢
  obtain ⟨methY, cY, hmY, hcY, -, hlY, -, -, -, -⟩ := Cond.code_spec hn h2
  obtain ⟨kY, hkY, -⟩ := className_of_methodNamed hn
  have hinitY : kY.init = .initialized := Cond.initialized_spec (findClass_of_methodNamed hn) hkY h3
  have h : At U g.method c below := by rw [hg]; exact X.here
  have hlocals9 : W9 + (maxL + 11) + (headSpec ws rm).room.locals ≤ R.locals := hlocals
  have happ : (headSpec ws rm).appliesLoose y e.platform (U.calling g mk a) = true :=
    Spec.appliesLoose_calling (g := g) h hdg hn hkY hinitY
      (X.room_calling (g := g) (R' := (headSpec ws rm).room) hsize hmY hcY hframes (by rw [hlY]; omega) h4 h5) h1
  obtain ⟨mid, hmid⟩ := h.above
  have hfr : (U.setTop g).frames = (.java g :: mid) ++ below := by rw [State.frames_setTop' g h.top, hmid]; rfl
  obtain ⟨o, s₂, hsteps, -, hend, hq⟩ := Steps.callFree hM p X.admits X.cas X.clock (acts := []) hfr happ hPc trivial
  have hq' : vx_Q Qc XC mc ms free a (U.calling g mk a) o s₂ := hq
  rw [State.frames_setTop' g h.top] at hend
  obtain ⟨g₀, hg0⟩ := Option.isSome_iff_exists.mp h.top
  obtain ⟨r, hr⟩ := State.topJava?_eq_some.mp hg0
  have hr' : (({ U with heap := s₂.heap, slotsUsed := s₂.slotsUsed } : State).setVm s₂.vm).frames = .java g₀ :: r := hr
  rcases hq' with ⟨hqc, L, hfe, hL⟩ | ⟨q, rfl, E, ce, L, hx, hce, hcv, hcl, hW₂, hsm, hL⟩
  · obtain ⟨⟨v, rfl⟩, hW₂, e2, q2, q3, q4, q5, q6⟩ := id hfe
    have e3 : s₂ = ({ (U.calling g mk a).setFrames s₂.frames with heap := s₂.heap, slotsUsed := s₂.slotsUsed } : State).setVm s₂.vm := by
      have : s₂ = ({ s₂ with vm := (U.calling g mk a).vm } : State).setVm s₂.vm := rfl
      rw [e2] at this
      exact this
    obtain ⟨c₂, i₂, len₂, hc₂, hd₂, hf₂⟩ := hend
    have hW' : U.WarmedH s₂.vm := hW₂
    have hcc : c₂ = c := by
      have h1 : s₂.code? g.method = U.code? g.method := by
        rw [State.code?_eq, State.code?_eq, hW'.alike.method?]
      exact Option.some.inj (hc₂.symm.trans (h1.trans h.code))
    subst hcc
    have hlen : len₂ = len := by rw [hdg] at hd₂; cases hd₂; rfl
    subst hlen
    have hs₂ : s₂ = (({ U with heap := s₂.heap, slotsUsed := s₂.slotsUsed } : State).setVm s₂.vm).setTop { g with pc := g.pc + len₂, stack := v.toList ++ g.stack } := by
      refine e3.trans ?_
      rw [hf₂, State.calling_eq h.top, State.setFrames_setFrames, State.setTop_of_frames _ hr', hr]
      rfl
    have hsame : U.sameButNew ({ U with heap := s₂.heap, slotsUsed := s₂.slotsUsed } : State) L mc ms := by
      refine ⟨?_, q2, q3, q4, q5, q6⟩
      obtain ⟨t, ht, -⟩ := State.frames_cons hr
      show ({ U with heap := s₂.heap, slotsUsed := s₂.slotsUsed } : State) = { U.setFrames U.frames with heap := s₂.heap, slotsUsed := s₂.slotsUsed }
      rw [State.setFrames_self ht]
    subst hg
    refine Or.inl ⟨v, ⟨(({ U with heap := s₂.heap, slotsUsed := s₂.slotsUsed } : State).setVm s₂.vm), Ls ++ L, c0 + mc, s0 + ms⟩,
      ⟨X.admits, X.cas, X.clock, X.frames, X.room, X.hears, X.method, X.code, (X.here.setHeapUsed s₂.heap s₂.slotsUsed).setVm hW'.alike, X.tail, State.WarmedH.trans X.warmed hW', X.limits, X.bytes, X.same.trans (hsame.setVm s.vm)⟩,
      ⟨g, mk, s₂, L, rfl, rfl, hqc, rfl, hL, rfl, rfl⟩, ?_⟩
    show Steps p.tables e below _ ((({ U with heap := s₂.heap, slotsUsed := s₂.slotsUsed } : State).setVm s₂.vm).setTop { g with pc := g.pc + len₂, stack := v.toList ++ g.stack })
    rw [← hs₂]
    exact hsteps
  · obtain ⟨e2, q2, q3, q4, q5, q6⟩ := id hsm
    have e3 : s₂ = ({ (U.calling g mk a).setFrames s₂.frames with heap := s₂.heap, slotsUsed := s₂.slotsUsed } : State).setVm s₂.vm := by
      have : s₂ = ({ s₂ with vm := (U.calling g mk a).vm } : State).setVm s₂.vm := rfl
      rw [e2] at this
      exact this
    have hf₂ : s₂.frames = .throwing q :: .java g :: U.frames.tail := hend
    have hW' : U.WarmedH s₂.vm := hW₂
    have hs₂ : s₂ = ((({ U with heap := s₂.heap, slotsUsed := s₂.slotsUsed } : State).setVm s₂.vm).setTop g).pushFrame (.throwing q) := by
      refine e3.trans ?_
      rw [hf₂, State.calling_eq h.top, State.setFrames_setFrames, State.pushFrame, State.frames_setTop _ hr', State.setTop_of_frames _ hr', State.setFrames_setFrames, hr]
      rfl
    have hsame : U.sameButNew ({ U with heap := s₂.heap, slotsUsed := s₂.slotsUsed } : State) L mc ms := by
      refine ⟨?_, q2, q3, q4, q5, q6⟩
      obtain ⟨t, ht, -⟩ := State.frames_cons hr
      show ({ U with heap := s₂.heap, slotsUsed := s₂.slotsUsed } : State) = { U.setFrames U.frames with heap := s₂.heap, slotsUsed := s₂.slotsUsed }
      rw [State.setFrames_self ht]
    subst hg
    refine Or.inr ⟨q, ⟨(({ U with heap := s₂.heap, slotsUsed := s₂.slotsUsed } : State).setVm s₂.vm), Ls ++ L, c0 + mc, s0 + ms⟩,
      ⟨X.admits, X.cas, X.clock, X.frames, X.room, X.hears, X.method, X.code, (X.here.setHeapUsed s₂.heap s₂.slotsUsed).setVm hW'.alike, X.tail, State.WarmedH.trans X.warmed hW', X.limits, X.bytes, X.same.trans (hsame.setVm s.vm)⟩,
      ⟨g, mk, s₂, L, E, ce, rfl, rfl, hx, hce, hcv, hcl, rfl, hL, rfl, rfl⟩, ?_⟩
    show Steps p.tables e below _ (((({ U with heap := s₂.heap, slotsUsed := s₂.slotsUsed } : State).setVm s₂.vm).setTop g).pushFrame (.throwing q))
    rw [← hs₂]
    exact hsteps
end Payer
section Calls
variable {p : Program} {l : Launch} {e : Env} {R : Room} {s : State} {m : MethodId} {args : Array Value} {below : List Frame} {meth : Method} {c : Code} {T : State} {locs : List Loc} {cells slots : Nat}
theorem vx_callV (X : Stand p l e R s m args below meth c T locs cells slots) (hexec : p.tables.exec = Jvm.exec) {own C : String} {index : Nat} {y : MethodName} {bytes : ByteArray} {maxL : Nat} {ret : Option FieldType}
    (hown : s.vm.findClass own = some m.cls) (hlink : (Cond.methodLink own index y).before args s = true) (hinst : (Cond.instanceMethod y).before args s = true) (hsel : (Cond.selects C y y).before args s = true)
    (hcode : (Cond.code y bytes maxL ret).before args s = true) (hy : y.cls ≠ "java/lang/invoke/MethodHandle" ∧ y.cls ≠ "java/lang/invoke/VarHandle")
    {W9 : Nat} {Pre : Pt → Array Value → Prop} {Post : Pt → Array Value → Option Value → Pt → Prop} {PostX : Pt → Array Value → Addr → Pt → Prop} (hK : vx_Back l R p e below s args y 3 W9 Pre Post PostX)
    {b : Addr} {cellB : Cell} (hcell : T.heap[b]? = some cellB) (hobj : cellB.vm.isStatics = false) (hcls : s.vm.findClass C = some cellB.cls)
    {g : JFrame} (hg : g.method = m) (hsize : g.locals.size = c.maxLocals) {argsL rest : List Value} (hlen : ∀ sig, parseMethodDescriptor y.desc = some sig → argsL.length = sig.parameters.length)
    (hstack : g.stack = argsL.reverse ++ .ref b :: rest) (hW : 2 * g.monitorRoom + (rest.map fun v => v.category).sum ≤ W9) (hdg : decode c.code g.pc = .ok (.invokevirtual index, 3))
    (hpre : ∀ vm₁, s.WarmedH vm₁ → Pre ⟨T.setVm vm₁, locs, cells, slots⟩ (Value.ref b :: argsL).toArray) :
    (∃ (v : Option Value) (vm₁ : Vm) (B : Pt), s.WarmedH vm₁ ∧ Stand p l e R s m args below meth c B.U B.locs B.cells B.slots ∧ Post ⟨T.setVm vm₁, locs, cells, slots⟩ (Value.ref b :: argsL).toArray v B ∧
      ∀ target, Steps p.tables e below (B.U.setTop { g with pc := g.pc + 3, stack := v.toList ++ rest }) target → Steps p.tables e below (T.setTop g) target) ∨
    (∃ (q : Addr) (vm₁ : Vm) (B : Pt), s.WarmedH vm₁ ∧ Stand p l e R s m args below meth c B.U B.locs B.cells B.slots ∧ PostX ⟨T.setVm vm₁, locs, cells, slots⟩ (Value.ref b :: argsL).toArray q B ∧
      Steps p.tables e below (T.setTop g) ((B.U.setTop { g with stack := rest }).pushFrame (.throwing q))) := by
  obtain ⟨mk, methM, hnamed, hmethM, hstM, habM⟩ := Cond.instanceMethod_spec hinst
  obtain ⟨methM', cM, hmethM', -, -, -, -, -, -, hsigM⟩ := Cond.code_spec hnamed hcode
  cases hmethM.symm.trans hmethM'
  obtain ⟨c2, r2, m2, q1, q2, q3, q4, kP, hkP, hkPi⟩ := Cond.selects_spec hsel
  cases hcls.symm.trans q1
  cases (State.methodFound?_of_named hnamed hy).symm.trans q2
  cases hnamed.symm.trans q3
  have hselP : selectMethod e.platform s.vm cellB.cls mk = .method mk := by rw [Launch.admits_selectMethod X.admits]; exact q4
  obtain ⟨vm₁, X₁, hstep₁⟩ := X.invokevirtual hexec hown hlink hnamed hmethM hstM hkP hkPi hy (a := b) (cell := cellB) hcell
    (fun z h => by rw [h] at hobj; cases hobj) hselP hmethM habM hkP hkPi (g := g) hg (argsL := argsL) (rest := rest) (hlen _ hsigM) hstack hdg
  rcases hK m meth c ⟨T.setVm vm₁, locs, cells, slots⟩ { g with stack := rest } (.invokevirtual index) mk (Value.ref b :: argsL).toArray X₁ hg hsize hdg hW (X₁.named hnamed) (hpre vm₁ X₁.warmed) with ⟨v, B, X', hpost, hsteps⟩ | ⟨q, B, X', hpost, hsteps⟩
  · exact Or.inl ⟨v, vm₁, B, X₁.warmed, X', hpost, fun target h => hstep₁ _ fun acts => by rw [doInvoke_state]; exact hsteps.trans h⟩
  · exact Or.inr ⟨q, vm₁, B, X₁.warmed, X', hpost, hstep₁ _ fun acts => by rw [doInvoke_state]; exact hsteps⟩
theorem vx_callS (X : Stand p l e R s m args below meth c T locs cells slots) (hexec : p.tables.exec = Jvm.exec) {own : String} {index : Nat} {y : MethodName} {bytes : ByteArray} {maxL : Nat} {ret : Option FieldType}
    (hown : s.vm.findClass own = some m.cls) (hlink : (Cond.methodLink own index y).before args s = true) (hstat : (Cond.static y).before args s = true) (hinit : (Cond.initialized y.cls).before args s = true)
    (hcode : (Cond.code y bytes maxL ret).before args s = true) (hy : y.cls ≠ "java/lang/invoke/MethodHandle" ∧ y.cls ≠ "java/lang/invoke/VarHandle")
    {W9 : Nat} {Pre : Pt → Array Value → Prop} {Post : Pt → Array Value → Option Value → Pt → Prop} {PostX : Pt → Array Value → Addr → Pt → Prop} (hK : vx_Back l R p e below s args y 3 W9 Pre Post PostX)
    {g : JFrame} (hg : g.method = m) (hsize : g.locals.size = c.maxLocals) {argsL rest : List Value} (hlen : ∀ sig, parseMethodDescriptor y.desc = some sig → argsL.length = sig.parameters.length)
    (hstack : g.stack = argsL.reverse ++ rest) (hW : 2 * g.monitorRoom + (rest.map fun v => v.category).sum ≤ W9) (hdg : decode c.code g.pc = .ok (.invokestatic index, 3))
    (hpre : ∀ vm₁, s.WarmedH vm₁ → Pre ⟨T.setVm vm₁, locs, cells, slots⟩ argsL.toArray) :
    (∃ (v : Option Value) (vm₁ : Vm) (B : Pt), s.WarmedH vm₁ ∧ Stand p l e R s m args below meth c B.U B.locs B.cells B.slots ∧ Post ⟨T.setVm vm₁, locs, cells, slots⟩ argsL.toArray v B ∧
      ∀ target, Steps p.tables e below (B.U.setTop { g with pc := g.pc + 3, stack := v.toList ++ rest }) target → Steps p.tables e below (T.setTop g) target) ∨
    (∃ (q : Addr) (vm₁ : Vm) (B : Pt), s.WarmedH vm₁ ∧ Stand p l e R s m args below meth c B.U B.locs B.cells B.slots ∧ PostX ⟨T.setVm vm₁, locs, cells, slots⟩ argsL.toArray q B ∧
      Steps p.tables e below (T.setTop g) ((B.U.setTop { g with stack := rest }).pushFrame (.throwing q))) := by
  obtain ⟨mk, hnamed⟩ := Cond.code_named hcode
  obtain ⟨methM, cM, hmethM, -, -, -, -, -, -, hsigM⟩ := Cond.code_spec hnamed hcode
  have hstatic : methM.isStatic = true := Cond.static_spec hnamed hmethM hstat
  obtain ⟨kP, hkP, -⟩ := className_of_methodNamed hnamed
  have hinitP : kP.init = .initialized := Cond.initialized_spec (findClass_of_methodNamed hnamed) hkP hinit
  obtain ⟨vm₁, X₁, hstep₁⟩ := X.invokestatic hexec hown hlink hnamed hmethM hstatic hkP hinitP hy (g := g) hg (argsL := argsL) (rest := rest) (hlen _ hsigM) hstack hdg
  rcases hK m meth c ⟨T.setVm vm₁, locs, cells, slots⟩ { g with stack := rest } (.invokestatic index) mk argsL.toArray X₁ hg hsize hdg hW (X₁.named hnamed) (hpre vm₁ X₁.warmed) with ⟨v, B, X', hpost, hsteps⟩ | ⟨q, B, X', hpost, hsteps⟩
  · exact Or.inl ⟨v, vm₁, B, X₁.warmed, X', hpost, fun target h => hstep₁ _ fun acts => by rw [doInvoke_state]; exact hsteps.trans h⟩
  · exact Or.inr ⟨q, vm₁, B, X₁.warmed, X', hpost, hstep₁ _ fun acts => by rw [doInvoke_state]; exact hsteps⟩
end Calls
theorem vx_cls {s : State} {T : State} {vm₁ : Vm} {E : String} {k : ClassId} (hW : s.WarmedH vm₁) (h : (T.setVm vm₁).vm.findClass E = some k) : s.vm.findClass E = some k := by
  have h1 : vm₁.findClass E = some k := h
  rw [hW.alike.findClass] at h1
  exact h1
/-- the method's frame g, with q thrown over it -/
def vx_W (p : Program) (l : Launch) (e : Env) (R : Room) (s : State) (m : MethodId) (args : Array Value) (below : List Frame) (meth : Method) (c : Code) (H : Heap) (locs : List Loc) (cells slots : Nat) (Q : State → Prop) (g : JFrame) (q : Addr) : Prop :=
  ∀ T : State, T.heap = H → Stand p l e R s m args below meth c T locs cells slots → ∃ t, Steps p.tables e below ((T.setTop g).pushFrame (.throwing q)) t ∧ Q t
def vx_Run (p : Program) (l : Launch) (e : Env) (R : Room) (s : State) (m : MethodId) (args : Array Value) (below : List Frame) (meth : Method) (c : Code) (H : Heap) (locs : List Loc) (cells slots mc ms : Nat) (g : JFrame) (rest : List Value) (Qa : State → Outcome → State → Prop) (XC : String → State → State → Prop) (free : Addr → Prop) : Prop :=
  ∀ T : State, T.heap = H → Stand p l e R s m args below meth c T locs cells slots →
    (∃ (v : Option Value) (st₀ t T' : State) (L : List Loc), st₀.heap = H ∧ Stand p l e R s m args below meth c T' (locs ++ L) (cells + mc) (slots + ms) ∧ (∀ q ∈ L, free q.base) ∧ T'.heap = t.heap ∧ T'.vm = t.vm ∧ Qa st₀ (.returned v) t ∧
      Goes p e below T g T' { g with pc := g.pc + 3, stack := v.toList ++ rest }) ∨
    (∃ (q : Addr) (st₀ t T' : State) (L : List Loc) (E : String) (ce : Cell), st₀.heap = H ∧ Stand p l e R s m args below meth c T' (locs ++ L) (cells + mc) (slots + ms) ∧ (∀ z ∈ L, free z.base) ∧ T'.heap = t.heap ∧ T'.vm = t.vm ∧ XC E st₀ t ∧ t.heap[q]? = some ce ∧ ce.vm = .none ∧ s.vm.findClass E = some ce.cls ∧
      Steps p.tables e below (T.setTop g) ((T'.setTop { g with stack := rest }).pushFrame (.throwing q)))
def vx_X {S : Type} (px : S → Prop) (B : String → S → State → Prop) (A : Nat → Prop) : String → State → State → Prop := fun E st t => ∃ u : S, px u ∧ B E u t ∧ va_F A st t
section Runs
variable {p : Program} {l : Launch} {e : Env} {R : Room} {s : State} {m : MethodId} {args : Array Value} {below : List Frame} {meth : Method} {c : Code} {H : Heap} {locs : List Loc} {cells slots : Nat}
variable {y : MethodName} {bytes cc : ByteArray} {maxL nL mc ms n index : Nat} {ret : Option FieldType} {ws : List Cond} {rm : Room} {Pc : Array Value → State → Prop} {Qc : Array Value → State → Outcome → State → Prop} {XC : String → State → State → Prop} {free : Addr → Prop} {Ts : List Cond} {own C : String} {b : Addr} {As rest : List Value} {g : JFrame}
theorem vx_callBack (cb : CallB R s args own index y bytes maxL ret ws rm mc ms n) (hM : vx_Met l y ws rm Pc Qc XC mc ms free) (hbl : FrameBlind Pc) : vx_Back l R p e below s args y 3 8 (PreOf R mc ms Pc) (PostOf Qc mc ms free) (vx_Post XC mc ms free) := by
  obtain ⟨hrc, hrs, hfr, hlo, hws, hcw, -, hini, -⟩ := cb
  exact vx_back (bytes := bytes) (maxL := maxL) (ret := ret) hM hbl hrc hrs hfr hlo hws hcw (fun a' U hW => word_at hW (Or.inl (by first | rfl | simp [Cond.onTables, Cond.keeps, Cond.steady])) hini)
theorem vx_runV (S : CallFix p m c cc nL s args Ts own) (hM : vx_Met l y ws rm Pc Qc XC mc ms free) (cw : CallW R s args own C index y bytes maxL ret ws rm mc ms n) (hp : PreV s H C b Pc As)
    (hg : g.method = m) (hn : As.length = n) (hsize : g.locals.size = nL) (hstack : g.stack = As.reverse ++ .ref b :: rest) (hW : 2 * g.monitorRoom + (rest.map fun v => v.category).sum ≤ 8) (hdg : decode cc g.pc = .ok (.invokevirtual index, 3)) (hf : cells + mc ≤ R.cells ∧ slots + ms ≤ R.slots) :
    vx_Run p l e R s m args below meth c H locs cells slots mc ms g rest (Qc (Value.ref b :: As).toArray) XC free := by
  have hK : vx_Back l R p e below s args y 3 8 (PreOf R mc ms Pc) (PostOf Qc mc ms free) (vx_Post XC mc ms free) := vx_callBack cw.1 hM hp.1
  obtain ⟨⟨-, -, -, -, -, -, hcode, -, hy, hlen, hl⟩, hin, hse⟩ := cw
  obtain ⟨hx, hb, hml, ho, -⟩ := S
  obtain ⟨-, ⟨cellB, hcB, hoB, hclB⟩, hPc⟩ := hp
  intro T hT X
  rcases vx_callV X hx (C := C) (bytes := bytes) (maxL := maxL) (ret := ret) ho hl hin hse hcode hy hK (by rw [hT]; exact hcB) hoB hclB hg (hsize.trans hml.symm) (argsL := As) (rest := rest) (fun sig h => hn.trans (hlen sig h)) hstack hW (by rw [hb]; exact hdg)
    (fun vm₁ hW₁ => ⟨hf.1, hf.2, hPc (T.setVm vm₁) hT hW₁⟩) with ⟨v, vm₁, ⟨U', l2, c2, s2⟩, hW₁, X', ⟨g', mk, t, L, e1, e2, hq, h1, hL, h2, h3⟩, st⟩ | ⟨q, vm₁, ⟨U', l2, c2, s2⟩, hW₁, X', ⟨g', mk, t, L, E, ce, e1, e2, hq, hce, hcv, hcl, h1, hL, h2, h3⟩, st⟩
  · dsimp only [Pt.U, Pt.locs, Pt.cells, Pt.slots] at X' e1 e2 h1 h2 h3 st
    subst h1; subst h2; subst h3
    exact Or.inl ⟨v, (T.setVm vm₁).calling g' mk (Value.ref b :: As).toArray, t, U', L, hT, X', hL, e1, e2, hq, st⟩
  · dsimp only [Pt.U, Pt.locs, Pt.cells, Pt.slots] at X' e1 e2 h1 h2 h3 st hcl
    subst h1; subst h2; subst h3
    exact Or.inr ⟨q, (T.setVm vm₁).calling g' mk (Value.ref b :: As).toArray, t, U', L, E, ce, hT, X', hL, e1, e2, hq, hce, hcv, vx_cls hW₁ hcl, st⟩
theorem vx_runS (S : CallFix p m c cc nL s args Ts own) (hM : vx_Met l y ws rm Pc Qc XC mc ms free) (cw : CallB R s args own index y bytes maxL ret ws rm mc ms n ∧ (Cond.static y).before args s = true) (hp : PreS s H Pc As)
    (hg : g.method = m) (hn : As.length = n) (hsize : g.locals.size = nL) (hstack : g.stack = As.reverse ++ rest) (hW : 2 * g.monitorRoom + (rest.map fun v => v.category).sum ≤ 8) (hdg : decode cc g.pc = .ok (.invokestatic index, 3)) (hf : cells + mc ≤ R.cells ∧ slots + ms ≤ R.slots) :
    vx_Run p l e R s m args below meth c H locs cells slots mc ms g rest (Qc As.toArray) XC free := by
  have hK : vx_Back l R p e below s args y 3 8 (PreOf R mc ms Pc) (PostOf Qc mc ms free) (vx_Post XC mc ms free) := vx_callBack cw.1 hM hp.1
  obtain ⟨⟨-, -, -, -, -, -, hcode, hini, hy, hlen, hl⟩, hstt⟩ := cw
  obtain ⟨hx, hb, hml, ho, -⟩ := S
  intro T hT X
  rcases vx_callS X hx (bytes := bytes) (maxL := maxL) (ret := ret) ho hl hstt hini hcode hy hK hg (hsize.trans hml.symm) (argsL := As) (rest := rest) (fun sig h => hn.trans (hlen sig h)) hstack hW (by rw [hb]; exact hdg)
    (fun vm₁ hW₁ => ⟨hf.1, hf.2, hp.2 (T.setVm vm₁) hT hW₁⟩) with ⟨v, vm₁, ⟨U', l2, c2, s2⟩, hW₁, X', ⟨g', mk, t, L, e1, e2, hq, h1, hL, h2, h3⟩, st⟩ | ⟨q, vm₁, ⟨U', l2, c2, s2⟩, hW₁, X', ⟨g', mk, t, L, E, ce, e1, e2, hq, hce, hcv, hcl, h1, hL, h2, h3⟩, st⟩
  · dsimp only [Pt.U, Pt.locs, Pt.cells, Pt.slots] at X' e1 e2 h1 h2 h3 st
    subst h1; subst h2; subst h3
    exact Or.inl ⟨v, (T.setVm vm₁).calling g' mk As.toArray, t, U', L, hT, X', hL, e1, e2, hq, st⟩
  · dsimp only [Pt.U, Pt.locs, Pt.cells, Pt.slots] at X' e1 e2 h1 h2 h3 st hcl
    subst h1; subst h2; subst h3
    exact Or.inr ⟨q, (T.setVm vm₁).calling g' mk As.toArray, t, U', L, E, ce, hT, X', hL, e1, e2, hq, hce, hcv, vx_cls hW₁ hcl, st⟩
end Runs
section Rows
variable {p : Program} {l : Launch} {e : Env} {R : Room} {s : State} {m : MethodId} {args : Array Value} {below : List Frame} {meth : Method} {c : Code} {H : Heap} {locs : List Loc} {cells slots : Nat} {Q : State → Prop}
variable {mc ms : Nat} {free : Addr → Prop} {A0 A1 : Nat → Prop} {H0 : Heap} {a : Array Value} {pc : Nat} {ls : Array Slot} {st0 rest : List Value}
theorem vx_keep {st₀ t T' : State} {L : List Loc} (h0 : st₀.heap = H) (e1 : T'.heap = t.heap) (hS : va_S A0 H0 H locs) (hA : ∀ q, q < H.size → A1 q → A0 q) (hf : ∀ q, free q → A0 q) (hL : ∀ q ∈ L, free q.base) (hF : va_F A1 st₀ t) :
    H.size ≤ T'.heap.size ∧ (∀ q : Nat, q < H.size → ¬ A1 q → T'.heap[q]? = H[q]?) ∧ va_S A0 H0 T'.heap (locs ++ L) := by
  obtain ⟨hz, hk⟩ := hF
  rw [h0] at hz hk
  exact ⟨by rw [e1]; exact hz, fun q h1 h2 => by rw [e1]; exact hk q h1 h2,
    ⟨Nat.le_trans hS.1 (by rw [e1]; exact hz), fun q h1 h2 => by rw [e1, hk q (Nat.lt_of_lt_of_le h1 hS.1) (fun z => h2 (hA q (Nat.lt_of_lt_of_le h1 hS.1) z))]; exact hS.2.1 q h1 h2, fun q hq => by
      rcases List.mem_append.mp hq with h | h
      · exact hS.2.2 q h
      · exact hf _ (hL q h)⟩⟩
theorem vx_calli {S SX : Type} {post : Int32 → S → Prop} {px : SX → Prop} {B : S → State → Prop} {BX : String → SX → State → Prop} {AX : Nat → Prop} (hr : vx_Run p l e R s m args below meth c H locs cells slots mc ms (F0 m pc ls st0) rest (va_Qi post B A1 a) (vx_X px BX AX) free) (hS : va_S A0 H0 H locs) (hA : ∀ q, q < H.size → A1 q → A0 q) (hf : ∀ q, free q → A0 q) (hAX : ∀ q, q < H.size → AX q → A0 q)
    (kx : ∀ (E : String) (ce : Cell) (q9 : Addr) (u : SX) (t : State) (H1 : Heap) (locs1 : List Loc), t.heap = H1 → s.vm.Alike t.vm → px u → BX E u t → H.size ≤ H1.size → (∀ q : Nat, q < H.size → ¬ AX q → H1[q]? = H[q]?) → va_S A0 H0 H1 locs1 → H1[q9]? = some ce → ce.vm = .none → s.vm.findClass E = some ce.cls → vx_W p l e R s m args below meth c H1 locs1 (cells + mc) (slots + ms) Q (F0 m pc ls rest) q9)
    (kk : ∀ (r : Int32) (u : S) (t : State) (H1 : Heap) (locs1 : List Loc), t.heap = H1 → s.vm.Alike t.vm → post r u → B u t → H.size ≤ H1.size → (∀ q : Nat, q < H.size → ¬ A1 q → H1[q]? = H[q]?) → va_S A0 H0 H1 locs1 → W p l e R s m args below meth c H1 locs1 (cells + mc) (slots + ms) Q (F0 m (pc + 3) ls (.int r :: rest))) : W p l e R s m args below meth c H locs cells slots Q (F0 m pc ls st0) := by
  intro T hT X
  rcases hr T hT X with ⟨v, st₀, t, T', L, h0, X', hL, e1, e2, ⟨⟨r, u, hv, hp, hb⟩, hF⟩, st⟩ | ⟨q, st₀, t, T', L, E, ce, h0, X', hL, e1, e2, ⟨u, hp, hb, hF⟩, hce, hcv, hcl, st⟩
  · cases hv
    obtain ⟨k1, k2, k3⟩ := vx_keep h0 e1 hS hA hf hL hF
    obtain ⟨t2, a1, b1⟩ := kk r u t T'.heap (locs ++ L) e1.symm (by rw [← e2]; exact X'.warmed.alike) hp hb k1 k2 k3 T' rfl X'
    exact ⟨t2, st t2 a1, b1⟩
  · obtain ⟨k1, k2, k3⟩ := vx_keep h0 e1 hS hAX hf hL hF
    obtain ⟨t2, a1, b1⟩ := kx E ce q u t T'.heap (locs ++ L) e1.symm (by rw [← e2]; exact X'.warmed.alike) hp hb k1 k2 k3 (by rw [e1]; exact hce) hcv hcl T' rfl X'
    exact ⟨t2, st.trans a1, b1⟩
theorem vx_calll {S SX : Type} {post : Int64 → S → Prop} {px : SX → Prop} {B : S → State → Prop} {BX : String → SX → State → Prop} {AX : Nat → Prop} (hr : vx_Run p l e R s m args below meth c H locs cells slots mc ms (F0 m pc ls st0) rest (va_Ql post B A1 a) (vx_X px BX AX) free) (hS : va_S A0 H0 H locs) (hA : ∀ q, q < H.size → A1 q → A0 q) (hf : ∀ q, free q → A0 q) (hAX : ∀ q, q < H.size → AX q → A0 q)
    (kx : ∀ (E : String) (ce : Cell) (q9 : Addr) (u : SX) (t : State) (H1 : Heap) (locs1 : List Loc), t.heap = H1 → s.vm.Alike t.vm → px u → BX E u t → H.size ≤ H1.size → (∀ q : Nat, q < H.size → ¬ AX q → H1[q]? = H[q]?) → va_S A0 H0 H1 locs1 → H1[q9]? = some ce → ce.vm = .none → s.vm.findClass E = some ce.cls → vx_W p l e R s m args below meth c H1 locs1 (cells + mc) (slots + ms) Q (F0 m pc ls rest) q9)
    (kk : ∀ (r : Int64) (u : S) (t : State) (H1 : Heap) (locs1 : List Loc), t.heap = H1 → s.vm.Alike t.vm → post r u → B u t → H.size ≤ H1.size → (∀ q : Nat, q < H.size → ¬ A1 q → H1[q]? = H[q]?) → va_S A0 H0 H1 locs1 → W p l e R s m args below meth c H1 locs1 (cells + mc) (slots + ms) Q (F0 m (pc + 3) ls (.long r :: rest))) : W p l e R s m args below meth c H locs cells slots Q (F0 m pc ls st0) := by
  intro T hT X
  rcases hr T hT X with ⟨v, st₀, t, T', L, h0, X', hL, e1, e2, ⟨⟨r, u, hv, hp, hb⟩, hF⟩, st⟩ | ⟨q, st₀, t, T', L, E, ce, h0, X', hL, e1, e2, ⟨u, hp, hb, hF⟩, hce, hcv, hcl, st⟩
  · cases hv
    obtain ⟨k1, k2, k3⟩ := vx_keep h0 e1 hS hA hf hL hF
    obtain ⟨t2, a1, b1⟩ := kk r u t T'.heap (locs ++ L) e1.symm (by rw [← e2]; exact X'.warmed.alike) hp hb k1 k2 k3 T' rfl X'
    exact ⟨t2, st t2 a1, b1⟩
  · obtain ⟨k1, k2, k3⟩ := vx_keep h0 e1 hS hAX hf hL hF
    obtain ⟨t2, a1, b1⟩ := kx E ce q u t T'.heap (locs ++ L) e1.symm (by rw [← e2]; exact X'.warmed.alike) hp hb k1 k2 k3 (by rw [e1]; exact hce) hcv hcl T' rfl X'
    exact ⟨t2, st.trans a1, b1⟩
theorem vx_callf {S SX : Type} {post : UInt32 → S → Prop} {px : SX → Prop} {B : S → State → Prop} {BX : String → SX → State → Prop} {AX : Nat → Prop} (hr : vx_Run p l e R s m args below meth c H locs cells slots mc ms (F0 m pc ls st0) rest (va_Qf post B A1 a) (vx_X px BX AX) free) (hS : va_S A0 H0 H locs) (hA : ∀ q, q < H.size → A1 q → A0 q) (hf : ∀ q, free q → A0 q) (hAX : ∀ q, q < H.size → AX q → A0 q)
    (kx : ∀ (E : String) (ce : Cell) (q9 : Addr) (u : SX) (t : State) (H1 : Heap) (locs1 : List Loc), t.heap = H1 → s.vm.Alike t.vm → px u → BX E u t → H.size ≤ H1.size → (∀ q : Nat, q < H.size → ¬ AX q → H1[q]? = H[q]?) → va_S A0 H0 H1 locs1 → H1[q9]? = some ce → ce.vm = .none → s.vm.findClass E = some ce.cls → vx_W p l e R s m args below meth c H1 locs1 (cells + mc) (slots + ms) Q (F0 m pc ls rest) q9)
    (kk : ∀ (r : UInt32) (u : S) (t : State) (H1 : Heap) (locs1 : List Loc), t.heap = H1 → s.vm.Alike t.vm → post r u → B u t → H.size ≤ H1.size → (∀ q : Nat, q < H.size → ¬ A1 q → H1[q]? = H[q]?) → va_S A0 H0 H1 locs1 → W p l e R s m args below meth c H1 locs1 (cells + mc) (slots + ms) Q (F0 m (pc + 3) ls (.float r :: rest))) : W p l e R s m args below meth c H locs cells slots Q (F0 m pc ls st0) := by
  intro T hT X
  rcases hr T hT X with ⟨v, st₀, t, T', L, h0, X', hL, e1, e2, ⟨⟨r, u, hv, hp, hb⟩, hF⟩, st⟩ | ⟨q, st₀, t, T', L, E, ce, h0, X', hL, e1, e2, ⟨u, hp, hb, hF⟩, hce, hcv, hcl, st⟩
  · cases hv
    obtain ⟨k1, k2, k3⟩ := vx_keep h0 e1 hS hA hf hL hF
    obtain ⟨t2, a1, b1⟩ := kk r u t T'.heap (locs ++ L) e1.symm (by rw [← e2]; exact X'.warmed.alike) hp hb k1 k2 k3 T' rfl X'
    exact ⟨t2, st t2 a1, b1⟩
  · obtain ⟨k1, k2, k3⟩ := vx_keep h0 e1 hS hAX hf hL hF
    obtain ⟨t2, a1, b1⟩ := kx E ce q u t T'.heap (locs ++ L) e1.symm (by rw [← e2]; exact X'.warmed.alike) hp hb k1 k2 k3 (by rw [e1]; exact hce) hcv hcl T' rfl X'
    exact ⟨t2, st.trans a1, b1⟩
theorem vx_calld {S SX : Type} {post : UInt64 → S → Prop} {px : SX → Prop} {B : S → State → Prop} {BX : String → SX → State → Prop} {AX : Nat → Prop} (hr : vx_Run p l e R s m args below meth c H locs cells slots mc ms (F0 m pc ls st0) rest (va_Qd post B A1 a) (vx_X px BX AX) free) (hS : va_S A0 H0 H locs) (hA : ∀ q, q < H.size → A1 q → A0 q) (hf : ∀ q, free q → A0 q) (hAX : ∀ q, q < H.size → AX q → A0 q)
    (kx : ∀ (E : String) (ce : Cell) (q9 : Addr) (u : SX) (t : State) (H1 : Heap) (locs1 : List Loc), t.heap = H1 → s.vm.Alike t.vm → px u → BX E u t → H.size ≤ H1.size → (∀ q : Nat, q < H.size → ¬ AX q → H1[q]? = H[q]?) → va_S A0 H0 H1 locs1 → H1[q9]? = some ce → ce.vm = .none → s.vm.findClass E = some ce.cls → vx_W p l e R s m args below meth c H1 locs1 (cells + mc) (slots + ms) Q (F0 m pc ls rest) q9)
    (kk : ∀ (r : UInt64) (u : S) (t : State) (H1 : Heap) (locs1 : List Loc), t.heap = H1 → s.vm.Alike t.vm → post r u → B u t → H.size ≤ H1.size → (∀ q : Nat, q < H.size → ¬ A1 q → H1[q]? = H[q]?) → va_S A0 H0 H1 locs1 → W p l e R s m args below meth c H1 locs1 (cells + mc) (slots + ms) Q (F0 m (pc + 3) ls (.double r :: rest))) : W p l e R s m args below meth c H locs cells slots Q (F0 m pc ls st0) := by
  intro T hT X
  rcases hr T hT X with ⟨v, st₀, t, T', L, h0, X', hL, e1, e2, ⟨⟨r, u, hv, hp, hb⟩, hF⟩, st⟩ | ⟨q, st₀, t, T', L, E, ce, h0, X', hL, e1, e2, ⟨u, hp, hb, hF⟩, hce, hcv, hcl, st⟩
  · cases hv
    obtain ⟨k1, k2, k3⟩ := vx_keep h0 e1 hS hA hf hL hF
    obtain ⟨t2, a1, b1⟩ := kk r u t T'.heap (locs ++ L) e1.symm (by rw [← e2]; exact X'.warmed.alike) hp hb k1 k2 k3 T' rfl X'
    exact ⟨t2, st t2 a1, b1⟩
  · obtain ⟨k1, k2, k3⟩ := vx_keep h0 e1 hS hAX hf hL hF
    obtain ⟨t2, a1, b1⟩ := kx E ce q u t T'.heap (locs ++ L) e1.symm (by rw [← e2]; exact X'.warmed.alike) hp hb k1 k2 k3 (by rw [e1]; exact hce) hcv hcl T' rfl X'
    exact ⟨t2, st.trans a1, b1⟩
theorem vx_callv {S SX : Type} {post : S → Prop} {px : SX → Prop} {B : S → State → Prop} {BX : String → SX → State → Prop} {AX : Nat → Prop} (hr : vx_Run p l e R s m args below meth c H locs cells slots mc ms (F0 m pc ls st0) rest (va_Qv post B A1 a) (vx_X px BX AX) free) (hS : va_S A0 H0 H locs) (hA : ∀ q, q < H.size → A1 q → A0 q) (hf : ∀ q, free q → A0 q) (hAX : ∀ q, q < H.size → AX q → A0 q)
    (kx : ∀ (E : String) (ce : Cell) (q9 : Addr) (u : SX) (t : State) (H1 : Heap) (locs1 : List Loc), t.heap = H1 → s.vm.Alike t.vm → px u → BX E u t → H.size ≤ H1.size → (∀ q : Nat, q < H.size → ¬ AX q → H1[q]? = H[q]?) → va_S A0 H0 H1 locs1 → H1[q9]? = some ce → ce.vm = .none → s.vm.findClass E = some ce.cls → vx_W p l e R s m args below meth c H1 locs1 (cells + mc) (slots + ms) Q (F0 m pc ls rest) q9)
    (kk : ∀ (u : S) (t : State) (H1 : Heap) (locs1 : List Loc), t.heap = H1 → s.vm.Alike t.vm → post u → B u t → H.size ≤ H1.size → (∀ q : Nat, q < H.size → ¬ A1 q → H1[q]? = H[q]?) → va_S A0 H0 H1 locs1 → W p l e R s m args below meth c H1 locs1 (cells + mc) (slots + ms) Q (F0 m (pc + 3) ls (rest))) : W p l e R s m args below meth c H locs cells slots Q (F0 m pc ls st0) := by
  intro T hT X
  rcases hr T hT X with ⟨v, st₀, t, T', L, h0, X', hL, e1, e2, ⟨⟨u, hv, hp, hb⟩, hF⟩, st⟩ | ⟨q, st₀, t, T', L, E, ce, h0, X', hL, e1, e2, ⟨u, hp, hb, hF⟩, hce, hcv, hcl, st⟩
  · cases hv
    obtain ⟨k1, k2, k3⟩ := vx_keep h0 e1 hS hA hf hL hF
    obtain ⟨t2, a1, b1⟩ := kk u t T'.heap (locs ++ L) e1.symm (by rw [← e2]; exact X'.warmed.alike) hp hb k1 k2 k3 T' rfl X'
    exact ⟨t2, st t2 a1, b1⟩
  · obtain ⟨k1, k2, k3⟩ := vx_keep h0 e1 hS hAX hf hL hF
    obtain ⟨t2, a1, b1⟩ := kx E ce q u t T'.heap (locs ++ L) e1.symm (by rw [← e2]; exact X'.warmed.alike) hp hb k1 k2 k3 (by rw [e1]; exact hce) hcv hcl T' rfl X'
    exact ⟨t2, st.trans a1, b1⟩
/-- caught by the row x of this method's table; the rows ahead don't take it -/
theorem vx_catch {own name : String} {E : String} {ce : Cell} {q : Addr} (hown : s.vm.findClass own = some m.cls) (pre : List ExceptionTableEntry) (x : ExceptionTableEntry) (suf : List ExceptionTableEntry) (hsplit : c.exceptionTable.toList = pre ++ x :: suf)
    (hpass : ∀ z ∈ pre, covers z pc = false ∨ (z.catchType ≠ 0 ∧ ∃ nm : String, (Cond.classLink own z.catchType nm).before args s = true ∧ va_Nc E nm s)) (hx : covers x pc = true) (h0 : x.catchType ≠ 0)
    (hlink : (Cond.classLink own x.catchType name).before args s = true) (hcast : (Cond.castable E name).before args s = true) (hcell : H[q]? = some ce) (hv : ce.vm = .none) (hcl : s.vm.findClass E = some ce.cls)
    (kk : W p l e R s m args below meth c H locs cells slots Q (F0 m x.handlerPc ls [.ref q])) : vx_W p l e R s m args below meth c H locs cells slots Q (F0 m pc ls rest) q := by
  intro T hT X
  have hpl : e.platform.magicAccessors = ({} : Platform).magicAccessors := by rw [X.admits.platform]
  obtain ⟨c3, c4, hc3, hc4, hasg⟩ := Cond.castable_spec hcast
  cases Option.some.inj (hc3.symm.trans hcl)
  obtain ⟨c5, hc5, hcl5⟩ := Cond.classLink_spec hown hlink e.platform hpl
  cases Option.some.inj (hc4.symm.trans hc5)
  obtain ⟨vm', X', st⟩ := X.thenCaughtThrough q (g := F0 m pc ls rest) rfl (Steps.refl _) (by rw [hT]; exact hcell) (by rw [hv]; rfl) (by obtain ⟨k9, h9, -⟩ := Vm.findClass_spec hcl; exact ⟨k9, h9⟩) pre x suf hsplit
    (fun z hz => by
      rcases hpass z hz with h | ⟨hz0, nm, hl1, hn1⟩
      · exact Or.inl h
      · obtain ⟨c6, hc6, hcl6⟩ := Cond.classLink_spec hown hl1 e.platform hpl
        obtain ⟨a8, b8, h1, h2, h3⟩ := hn1
        cases Option.some.inj (h1.symm.trans hcl)
        cases Option.some.inj (h2.symm.trans hc6)
        exact Or.inr ⟨hz0, _, hcl6, h3⟩) hx (Or.inr ⟨h0, c4, hcl5, hasg⟩)
  obtain ⟨t, a1, b1⟩ := kk (T.setVm vm') hT X'
  exact ⟨t, st.trans a1, b1⟩
end Rows
section Ends
variable {p : Program} {l : Launch} {e : Env} {R : Room} {s : State} {m : MethodId} {args : Array Value} {below : List Frame} {meth : Method} {c : Code} {H : Heap} {locs : List Loc} {cells slots : Nat} {Q : State → Prop}
variable {mc ms : Nat} {free : Addr → Prop} {A0 A1 : Nat → Prop} {H0 : Heap} {a : Array Value} {ls : Array Slot} {st0 rest : List Value}
variable {Qc : Array Value → State → Outcome → State → Prop} {XC : String → State → State → Prop}
/-- what a body that may throw owes at its end -/
def vx_MQ (below : List Frame) (Qc : Array Value → State → Outcome → State → Prop) (XC : String → State → State → Prop) (a : Array Value) (s : State) (mc ms : Nat) (free : Addr → Prop) : State → Prop := fun t =>
  ∃ o, t.status = .running ∧ Ended t below o ∧ vx_Q Qc XC mc ms free a s o t
theorem vx_ret {g : JFrame} {mc ms : Nat} (k : W p l e R s m args below meth c H locs cells slots (MQ below Qc args s mc ms free) g) : W p l e R s m args below meth c H locs cells slots (vx_MQ below Qc XC args s mc ms free) g := by
  intro T hT X
  obtain ⟨t, a1, o, b1, b2, b3, b4⟩ := k T hT X
  exact ⟨t, a1, o, b1, b2, Or.inl ⟨b3, b4⟩⟩
/-- not caught here: it goes on to the caller -/
theorem vx_widen {g : JFrame} {q : Addr} {k n : Nat} (h1 : cells ≤ k) (h2 : slots ≤ n) (kk : vx_W p l e R s m args below meth c H locs k n Q g q) : vx_W p l e R s m args below meth c H locs cells slots Q g q := fun T hT X => kk T hT (stand_widen X h1 h2)
theorem vx_out {pc : Nat} {E : String} {ce : Cell} {q : Addr} {mc ms : Nat} (hout : ∀ x ∈ c.exceptionTable.toList, covers x pc = false) (hlocks : meth.locks = false) (hcell : H[q]? = some ce) (hv : ce.vm = .none) (hcl : s.vm.findClass E = some ce.cls)
    (hx : ∀ t : State, t.heap = H → s.vm.Alike t.vm → XC E s t) (hf : ∀ z ∈ locs, free z.base) (hc : cells ≤ mc) (hs : slots ≤ ms) :
    vx_W p l e R s m args below meth c H locs cells slots (vx_MQ below Qc XC args s mc ms free) (F0 m pc ls rest) q := by
  intro T hT X
  obtain ⟨st1, hrun, hend, hW, hsm⟩ := X.leaveThrown q (g := F0 m pc ls rest) rfl rfl rfl hout hlocks
  have hcell9 : (T.setFrames (.throwing q :: below)).heap[q]? = some ce := by
    show T.heap[q]? = some ce
    rw [hT]; exact hcell
  exact ⟨_, st1, .threw q, hrun, hend, Or.inr ⟨q, rfl, E, ce, locs, hx _ hT hW.alike, hcell9, hv, hcl, hW, hsm.mono hc hs, hf⟩⟩
theorem vx_frame {U : State} {k n : Nat} (h : s.sameButNew ({ U with vm := s.vm } : State) locs k n) : s.heap.size ≤ U.heap.size ∧ ∀ q : Nat, q < s.heap.size → (∀ z ∈ locs, z.base ≠ q) → U.heap[q]? = s.heap[q]? := by
  obtain ⟨-, h2, -, -, -, h6⟩ := h
  refine ⟨h2, fun q hq hz => ?_⟩
  obtain ⟨c9, e1, e2, e3, e4⟩ := h6 q _ (Array.getElem?_eq_getElem hq)
  have hs : c9.slots = (s.heap[q]).slots := Array.ext_getElem? fun i => e4 i fun hm => hz _ hm rfl
  have h9 : c9 = s.heap[q] := by
    rw [hs] at e2
    exact e2
  have e5 : U.heap[q]? = some c9 := e1
  rw [e5, h9, Array.getElem?_eq_getElem hq]
/-- the words of a throw but the four that speak of the heap -/
def vx_no (w : Cond) : Bool := decide (w ≠ .isRef (.static Bundle.tN "UNASSIGNED_STACK" Bundle.steD)) && decide (w ≠ .isRef (.static Bundle.tN "SUPPRESSED_SENTINEL" Bundle.listD)) && decide (w ≠ .laysStatic Bundle.tN "UNASSIGNED_STACK" Bundle.steD) && decide (w ≠ .laysStatic Bundle.tN "SUPPRESSED_SENTINEL" Bundle.listD)
def vx_at0 (own : String) (ic : Nat) (X : String) (names : List String) : List Cond := (Bundle.ownAtoms0 own ic X names).filter vx_no
def vx_atS (own : String) (ic : Nat) (X : String) (names : List String) : List Cond := (Bundle.ownAtoms own ic X names).filter vx_no
/-- a word that the tables alone decide, or a good one -/
def vx_ot (w : Cond) : Bool := w.onTables || goodWord w
theorem vx_ot_at {args a' : Array Value} {s U : State} {w : Cond} (hW : s.WarmedH U.vm) (hvm : s.vm = U.vm) (hg : vx_ot w = true) (h : w.before args s = true) : w.before a' U = true := by
  simp only [vx_ot, Bool.or_eq_true] at hg
  rcases hg with hg | hg
  · exact va_tabs hg hvm h
  · exact word_at hW (good_of_word hg) h
/-- a list's words: the good ones out of the method's own list, the others by premises of their own -/
theorem vx_hat {args : Array Value} {s : State} {L B : List Cond} (h1 : ∀ w ∈ L.filter goodWord, w.before args s = true) (h2 : ∀ w ∈ L.filter (fun w => !goodWord w), w ∈ B) (h3 : ∀ w ∈ B, w.before args s = true) : ∀ w ∈ L, w.before args s = true := by
  intro w hw
  by_cases g : goodWord w = true
  · exact h1 w (List.mem_filter.mpr ⟨hw, g⟩)
  · refine h3 w (h2 w (List.mem_filter.mpr ⟨hw, ?_⟩))
    show (!goodWord w) = true
    cases hgw : goodWord w
    · rfl
    · exact absurd hgw g
theorem vx_c {args : Array Value} {s : State} {w : Cond} {B : List Cond} (h : w.before args s = true) (t : ∀ w ∈ B, w.before args s = true) : ∀ w' ∈ w :: B, w'.before args s = true := fun w' h' => (List.mem_cons.mp h').elim (fun e => by rw [e]; exact h) (t w')
theorem vx_n {args : Array Value} {s : State} : ∀ w ∈ ([] : List Cond), w.before args s = true := fun _ h => nomatch h
theorem vx_own {args : Array Value} {s : State} {L : List Cond} (h1 : ∀ w ∈ L.filter vx_no, w.before args s = true)
    (hU : (Cond.isRef (.static Bundle.tN "UNASSIGNED_STACK" Bundle.steD)).before args s = true) (hN : (Cond.isRef (.static Bundle.tN "SUPPRESSED_SENTINEL" Bundle.listD)).before args s = true)
    (lU : (Cond.laysStatic Bundle.tN "UNASSIGNED_STACK" Bundle.steD).before args s = true) (lN : (Cond.laysStatic Bundle.tN "SUPPRESSED_SENTINEL" Bundle.listD).before args s = true) : ∀ w ∈ L, w.before args s = true := by
  intro w hw
  by_cases e1 : w = .isRef (.static Bundle.tN "UNASSIGNED_STACK" Bundle.steD)
  · rw [e1]; exact hU
  · by_cases e2 : w = .isRef (.static Bundle.tN "SUPPRESSED_SENTINEL" Bundle.listD)
    · rw [e2]; exact hN
    · by_cases e3 : w = .laysStatic Bundle.tN "UNASSIGNED_STACK" Bundle.steD
      · rw [e3]; exact lU
      · by_cases e4 : w = .laysStatic Bundle.tN "SUPPRESSED_SENTINEL" Bundle.listD
        · rw [e4]; exact lN
        · exact h1 w (List.mem_filter.mpr ⟨hw, by unfold vx_no; rw [decide_eq_true e1, decide_eq_true e2, decide_eq_true e3, decide_eq_true e4]; rfl⟩)
/-- where a static field lies, its class's statics cell in H -/
def vx_L (C n d : String) (A : Nat → Prop) (U : State) (H : Heap) : Prop := ∃ (c : ClassId) (k : Class) (i : Nat) (f : Field) (a : Nat) (cell : Cell), U.vm.findClass C = some c ∧ U.fieldFound? C n d = some (c, k, i, f) ∧ f.isStatic = true ∧ k.statics = some a ∧ H[a]? = some cell ∧ cell.vm.isStatics = true ∧ cell.cls = c ∧ f.slot < cell.slots.size ∧ k.staticTypes[f.slot]? = some f.type ∧ ¬ A a
theorem vx_L.moved {C n d : String} {A : Nat → Prop} {u U : State} {H : Heap} (hvm : u.vm.Alike U.vm) (h : vx_L C n d A u H) : vx_L C n d A U H := by
  obtain ⟨c, k, i, f, a, cell, h1, h2, h3, h4, h5, h6, h7, h8, h9, h10⟩ := h
  obtain ⟨k', hi', he⟩ := State.fieldFound?_setVm hvm h2
  exact ⟨c, k', i, f, a, cell, by rw [hvm.findClass]; exact h1, hi', h3, by rw [he]; exact h4, h5, h6, h7, h8, by rw [he]; exact h9, h10⟩
theorem vx_L.kept {C n d : String} {A : Nat → Prop} {U : State} {H H1 : Heap} (h : vx_L C n d A U H) (hq : ∀ a : Nat, a < H.size → ¬ A a → H1[a]? = H[a]?) : vx_L C n d A U H1 := by
  obtain ⟨c, k, i, f, a, cell, h1, h2, h3, h4, h5, h6, h7, h8, h9, h10⟩ := h
  exact ⟨c, k, i, f, a, cell, h1, h2, h3, h4, by rw [hq a (Array.getElem?_eq_some_iff.mp h5).1 h10]; exact h5, h6, h7, h8, h9, h10⟩
theorem vx_L.narrow {C n d : String} {A B : Nat → Prop} {U : State} {H : Heap} (h : vx_L C n d A U H) (hAB : ∀ q, B q → A q) : vx_L C n d B U H := by
  obtain ⟨c, k, i, f, a, cell, h1, h2, h3, h4, h5, h6, h7, h8, h9, h10⟩ := h
  exact ⟨c, k, i, f, a, cell, h1, h2, h3, h4, h5, h6, h7, h8, h9, fun z => h10 (hAB _ z)⟩
theorem vx_L.word {C n d : String} {A : Nat → Prop} {s : State} {args : Array Value} (h : vx_L C n d A s s.heap) : (Cond.laysStatic C n d).before args s = true := by
  obtain ⟨c, k, i, f, a, cell, h1, h2, h3, h4, h5, h6, h7, h8, h9, -⟩ := h
  show (Cond.laysStatic C n d).holds args s none s [] = true
  exact Cond.laysStatic_of h1 h2 h3 h4 h5 h6 h7 h8 h9
/-- .. and what it holds: null or some reference -/
def vx_Zq (C n d : String) (A : Nat → Prop) (U : State) (H : Heap) : Prop := va_Zq C n d A U H ∧ vx_L C n d A U H
theorem vx_Zq.moved {C n d : String} {A : Nat → Prop} {u U : State} {H : Heap} (hvm : u.vm.Alike U.vm) (h : vx_Zq C n d A u H) : vx_Zq C n d A U H := ⟨va_Zq.moved hvm h.1, vx_L.moved hvm h.2⟩
theorem vx_Zq.kept {C n d : String} {A : Nat → Prop} {U : State} {H H1 : Heap} (h : vx_Zq C n d A U H) (hq : ∀ a : Nat, a < H.size → ¬ A a → H1[a]? = H[a]?) : vx_Zq C n d A U H1 := ⟨va_Zq.kept h.1 hq, vx_L.kept h.2 hq⟩
theorem vx_Zq.narrow {C n d : String} {A B : Nat → Prop} {U : State} {H : Heap} (h : vx_Zq C n d A U H) (hAB : ∀ q, B q → A q) : vx_Zq C n d B U H := ⟨va_Zq.narrow h.1 hAB, vx_L.narrow h.2 hAB⟩
theorem vx_Zqof {args : Array Value} {s : State} {C n d : String} {A : Nat → Prop} (hl : (Cond.laysStatic C n d).before args s = true) (hini : (Cond.initialized C).before args s = true) (h : (Cond.isRef (.static C n d)).before args s = true) (hA : ∀ a : Nat, a < s.heap.size → ¬ A a) : vx_Zq C n d A s s.heap := by
  refine ⟨va_Zqof hl hini h hA, ?_⟩
  obtain ⟨c, k, i, f, a, cell, h1, h2, h3, h4, h5, h6, h7, h8, h9⟩ := Cond.laysStatic_spec hl
  exact ⟨c, k, i, f, a, cell, h1, h2, h3, h4, h5, h6, h7, h8, h9, hA a (Array.getElem?_eq_some_iff.mp h5).1⟩
theorem vx_isRef {C n d : String} {v : Value} {A : Nat → Prop} {s : State} {args : Array Value} (h : va_Z C n d v A s s.heap) (hv : v.isRef = true) : (Cond.isRef (.static C n d)).before args s = true := by
  obtain ⟨cf, kf, fi, f, a, cell, h1, h2, h3, h4, h5, h6, h7, -⟩ := h
  have he : (Term.static C n d).eval args s none [] s = some v := by
    simp [Term.eval, State.fieldNamed?, h1, h2, h4, h5, h6, h7]
  simp only [Cond.before, Cond.holds, Cond.value, he]
  cases v <;> simp_all [Value.isRef]
theorem vx_isRefq {C n d : String} {A : Nat → Prop} {s : State} {args : Array Value} (h : va_Zq C n d A s s.heap) : (Cond.isRef (.static C n d)).before args s = true := by
  rcases h with h | ⟨t, h⟩
  · exact vx_isRef h rfl
  · exact vx_isRef h rfl
/-- the same frame, seen from here: as if the method were called anew in this heap -/
theorem vx_rebase {T : State} (X : Stand p l e R s m args below meth c T locs cells slots) {R' : Room} (hf : R'.frames ≤ R.frames) (hl : R'.locals ≤ R.locals) (hc : cells + R'.cells ≤ R.cells) (hs : slots + R'.slots ≤ R.slots) :
    Stand p l e R' ((T.setVm s.vm).setFrames (.invoking m args :: below)) m args below meth c T [] 0 0 := by
  have htop : (T.setVm s.vm).topJava?.isSome := X.here.top
  have hF : ((T.setVm s.vm).setFrames (.invoking m args :: below)).frames = .invoking m args :: below := State.frames_setFrames _ (State.cur_lt_of_top htop)
  obtain ⟨g₀, hg0⟩ := Option.isSome_iff_exists.mp htop
  obtain ⟨r, hr⟩ := State.topJava?_eq_some.mp hg0
  have hl9 : e.platform.stackLimits (T.setVm s.vm).me = e.platform.stackLimits s.me := X.limits
  have hb9 : (T.setVm s.vm).me.stackBytes = s.me.stackBytes := X.bytes
  refine ⟨X.admits, X.cas, X.clock, hF, ?_, X.hears, X.method, X.code, X.here, X.tail, X.warmed, ?_, ?_, ?_⟩
  · have h := X.room
    have hU : ((T.setVm s.vm).setFrames (.invoking m args :: below)).localsInUse = s.localsInUse := by
      rw [State.localsInUse_invoking hF (meth := meth) (c := c) X.method X.code, State.localsInUse_invoking X.frames X.method X.code]
    simp only [State.hasRoom, Bool.and_eq_true, decide_eq_true_eq] at h ⊢
    obtain ⟨⟨⟨⟨h1, h2, h3, h4, h5, h6⟩, h7⟩, h8⟩, h9⟩ := h
    rw [X.frames, List.length_cons] at h2 h3
    have q1 := X.heapSize
    have q2 := X.used
    simp only [hF, hU, List.length_cons, State.stackLimits_setFrames, State.stackBytes_setFrames, hl9, hb9]
    refine ⟨⟨⟨⟨by omega, by omega, by omega, by omega, by omega, h6⟩, ?_⟩, ?_⟩, X.book⟩
    · show T.heap.size + R'.cells ≤ e.platform.maxCells
      omega
    · show T.slotsUsed + R'.slots ≤ e.platform.maxSlots
      omega
  · rw [State.stackLimits_setFrames]; rfl
  · rw [State.stackBytes_setFrames]; rfl
  · refine ⟨?_, Nat.le_refl _, Nat.le_refl _, ?_, ?_, fun a c9 h9 => ⟨c9, h9, rfl, rfl, fun _ _ => rfl⟩⟩
    · obtain ⟨t, ht, -⟩ := State.frames_cons hr
      show T.setVm s.vm = { ((T.setVm s.vm).setFrames (.invoking m args :: below)).setFrames (T.setVm s.vm).frames with heap := T.heap, slotsUsed := T.slotsUsed }
      rw [State.setFrames_setFrames, State.setFrames_self ht]
      rfl
    · show T.slotsUsed = T.slotsUsed + ((T.heap.toList.drop T.heap.size).map (·.slots.size)).sum
      rw [List.drop_eq_nil_of_le (Nat.le_of_eq Array.length_toList)]
      rfl
    · show ((T.heap.toList.drop T.heap.size).map (·.slots.size)).sum ≤ 0
      rw [List.drop_eq_nil_of_le (Nat.le_of_eq Array.length_toList)]
      exact Nat.le_refl _
/-- 'throw new E()': new; dup; invokespecial; athrow -/
theorem vx_throw0 {cc : ByteArray} {pc : Nat} (hexec : p.tables.exec = Jvm.exec) (hb : c.code = cc) (hl : l.stackTraces = false) {own cls : String} {names : List String} {ik ic mc ms : Nat} {A : Nat → Prop}
    (hown : s.vm.findClass own = some m.cls) (hcls : Bundle.fit cls = true) (hnames : ∀ n ∈ names, Bundle.fit n = true)
    (hk : (Cond.classLink own ik cls).before args s = true) (hini : (Cond.initialized cls).before args s = true) (hat : ∀ w ∈ vx_at0 own ic cls names, w.before args s = true)
    (hgood : ∀ w ∈ Cond.classLink own ik cls :: Cond.initialized cls :: vx_at0 own ic cls names, vx_ot w = true)
    (hU : vx_Zq Bundle.tN "UNASSIGNED_STACK" Bundle.steD A s s.heap) (hN : vx_Zq Bundle.tN "SUPPRESSED_SENTINEL" Bundle.listD A s s.heap) (hS : va_S A s.heap H locs) (hsize : ls.size = c.maxLocals)
    (d0 : decode cc pc = .ok (.new ik, 3)) (d3 : decode cc (pc + 3) = .ok (.dup, 1)) (d4 : decode cc (pc + 4) = .ok (.invokespecial ic, 3)) (d7 : decode cc (pc + 7) = .ok (.athrow, 1))
    (hout : ∀ x ∈ c.exceptionTable.toList, covers x (pc + 7) = false)
    (hRframes : names.length + 3 < R.frames) (hRlocals : (rest.map fun v => v.category).sum + (13 * (names.length + 1) + 42) ≤ R.locals) (hRcells : cells + 1 ≤ R.cells) (hRslots : slots + 6 ≤ R.slots) (hlocks : meth.locks = false)
    (hx : ∀ t : State, s.vm.Alike t.vm → H.size ≤ t.heap.size → (∀ q : Nat, q < H.size → t.heap[q]? = H[q]?) → XC cls s t)
    (hf : ∀ z ∈ locs, free z.base) (hc : cells + 1 ≤ mc) (hs : slots + 6 ≤ ms) :
    W p l e R s m args below meth c H locs cells slots (vx_MQ below Qc XC args s mc ms free) (F0 m pc ls rest) := by
  intro T hT X
  have htr : e.platform.stackTraces = false := (show e.platform.stackTraces = l.stackTraces by rw [X.admits.platform]).trans hl
  have Y := vx_rebase X (R' := { frames := R.frames, locals := R.locals, cells := 1, slots := 6 }) (Nat.le_refl _) (Nat.le_refl _) hRcells hRslots
  obtain ⟨s', hA⟩ : ∃ z, z = (T.setVm s.vm).setFrames (.invoking m args :: below) := ⟨_, rfl⟩
  rw [← hA] at Y
  have hvm : s'.vm = s.vm := by rw [hA]; rfl
  have hhp : s'.heap = H := by rw [hA]; exact hT
  have hW0 : s.WarmedH s'.vm := by rw [hvm]; exact State.WarmedH.refl s
  have hat' : ∀ w ∈ vx_at0 own ic cls names, w.before args s' = true := fun w hw => vx_ot_at hW0 hvm.symm (hgood w (List.mem_cons_of_mem _ (List.mem_cons_of_mem _ hw))) (hat w hw)
  have hk' : (Cond.classLink own ik cls).before args s' = true := vx_ot_at hW0 hvm.symm (hgood _ List.mem_cons_self) hk
  have hini' : (Cond.initialized cls).before args s' = true := vx_ot_at hW0 hvm.symm (hgood _ (List.mem_cons_of_mem _ List.mem_cons_self)) hini
  have hU' : vx_Zq Bundle.tN "UNASSIGNED_STACK" Bundle.steD A s' s'.heap := by rw [hhp]; exact vx_Zq.moved hW0.alike (hU.kept hS.2.1)
  have hN' : vx_Zq Bundle.tN "SUPPRESSED_SENTINEL" Bundle.listD A s' s'.heap := by rw [hhp]; exact vx_Zq.moved hW0.alike (hN.kept hS.2.1)
  have h : ∀ w ∈ Bundle.ownAtoms0 own ic cls names, w.before args s' = true := vx_own hat' (vx_isRefq hU'.1) (vx_isRefq hN'.1) hU'.2.word hN'.2.word
  have hown' : s'.vm.findClass own = some m.cls := by rw [hvm]; exact hown
  have hins : (Cond.instantiable cls 6).before args s' = true := h _ (by simp [Bundle.ownAtoms0])
  obtain ⟨vm₁, cX, kX, hfX, hkX, -, -, X₁, st1⟩ := Y.newCold hexec (own := own) (C := cls) (index := ik) (n := 6) hown' hk' hins hini'
    (g := F0 m pc ls rest) rfl (by rw [hb]; exact d0) (Nat.le_refl _) (Nat.le_refl _)
  generalize hT1 : (T.setVm vm₁).pushCell { cls := cX, slots := kX.instanceTypes.map defaultValue, vm := .none } = T1 at X₁ st1
  have hcat : (Value.ref T.heap.size).category = 1 := rfl
  have hcellA : T1.heap[T.heap.size]? = some (freshCell cX kX) := by rw [← hT1]; exact State.heap_pushCell_size _ _
  have d3' : decode c.code (pc + 3) = .ok (.dup, 1) := by rw [hb]; exact d3
  obtain ⟨U, hsteps, hrun, hend, hW, hsame, ce, hce, hO⟩ := X₁.ctorThrow0 hexec htr (own := own) (cls := cls) (names := names) (ic := ic) hown' hcls hnames h (fun x hx => nomatch hx) hfX hkX hcellA (by rw [hhp, hT]; exact Nat.le_refl _)
    (g := { method := m, pc := pc + 4, locals := ls, stack := .ref T.heap.size :: .ref T.heap.size :: rest, locked := none }) rfl hsize rfl rfl (rest := rest) rfl
    (by rw [hb]; exact d4) (by rw [hb]; exact d7) hout hRframes (by simp only [List.map_cons, List.sum_cons, hcat]; omega) hlocks
  obtain ⟨f1, f2⟩ := vx_frame hsame
  rw [hhp] at f1 f2
  have hWs : s.WarmedH U.vm := State.WarmedH.trans hW0 hW
  have hcl : s.vm.findClass cls = some ce.cls := by
    have h9 := hO.cls
    rw [hvm] at h9
    exact h9
  have hall : s.sameButNew ({ U with vm := s.vm } : State) locs mc ms := by
    subst hA
    obtain ⟨e1, e2⟩ := hsame
    rw [State.setFrames_setFrames] at e1
    have h2 : (T.setVm s.vm).sameButNew ({ U with vm := s.vm } : State) [] (0 + 1) (0 + 6) := ⟨e1, e2⟩
    have h3 := X.same.trans h2
    rw [List.append_nil] at h3
    exact h3.mono hc hs
  refine ⟨U, ?_, .threw T.heap.size, hrun, hend, Or.inr ⟨T.heap.size, rfl, cls, ce, locs, hx U hWs.alike f1 (fun q hq => f2 q hq (fun z hz => nomatch hz)), hce, hO.vm, hcl, hWs, hall, hf⟩⟩
  refine st1 _ ?_
  show Steps p.tables e below (T1.setTop { method := m, pc := pc + 3, locals := ls, stack := .ref T.heap.size :: rest, locked := none }) _
  jvm_step X₁.here [X₁.here.top, hexec, d3', Value.category]
  exact hsteps
/-- 'throw new E("text")': new; dup; ldc; invokespecial; athrow -/
theorem vx_throwS {cc : ByteArray} {pc : Nat} (hexec : p.tables.exec = Jvm.exec) (hb : c.code = cc) (hl : l.stackTraces = false) {own cls text : String} {names : List String} {ik is ic mc ms sa : Nat} {A : Nat → Prop}
    (hown : s.vm.findClass own = some m.cls) (hcls : Bundle.fit cls = true) (hnames : ∀ n ∈ names, Bundle.fit n = true)
    (hk : (Cond.classLink own ik cls).before args s = true) (hini : (Cond.initialized cls).before args s = true) (hstr : vk_R own is text sa s) (hat : ∀ w ∈ vx_atS own ic cls names, w.before args s = true)
    (hgood : ∀ w ∈ Cond.classLink own ik cls :: Cond.initialized cls :: vx_atS own ic cls names, vx_ot w = true)
    (hU : vx_Zq Bundle.tN "UNASSIGNED_STACK" Bundle.steD A s s.heap) (hN : vx_Zq Bundle.tN "SUPPRESSED_SENTINEL" Bundle.listD A s s.heap) (hS : va_S A s.heap H locs) (hsize : ls.size = c.maxLocals)
    (d0 : decode cc pc = .ok (.new ik, 3)) (d3 : decode cc (pc + 3) = .ok (.dup, 1)) (d4 : decode cc (pc + 4) = .ok (.ldc is, 2)) (d6 : decode cc (pc + 6) = .ok (.invokespecial ic, 3)) (d9 : decode cc (pc + 9) = .ok (.athrow, 1))
    (hout : ∀ x ∈ c.exceptionTable.toList, covers x (pc + 9) = false)
    (hRframes : names.length + 3 < R.frames) (hRlocals : (rest.map fun v => v.category).sum + (13 * (names.length + 1) + 43) ≤ R.locals) (hRcells : cells + 1 ≤ R.cells) (hRslots : slots + 6 ≤ R.slots) (hlocks : meth.locks = false)
    (hx : ∀ t : State, s.vm.Alike t.vm → H.size ≤ t.heap.size → (∀ q : Nat, q < H.size → t.heap[q]? = H[q]?) → XC cls s t)
    (hf : ∀ z ∈ locs, free z.base) (hc : cells + 1 ≤ mc) (hs : slots + 6 ≤ ms) :
    W p l e R s m args below meth c H locs cells slots (vx_MQ below Qc XC args s mc ms free) (F0 m pc ls rest) := by
  intro T hT X
  have htr : e.platform.stackTraces = false := (show e.platform.stackTraces = l.stackTraces by rw [X.admits.platform]).trans hl
  have Y := vx_rebase X (R' := { frames := R.frames, locals := R.locals, cells := 1, slots := 6 }) (Nat.le_refl _) (Nat.le_refl _) hRcells hRslots
  obtain ⟨s', hA⟩ : ∃ z, z = (T.setVm s.vm).setFrames (.invoking m args :: below) := ⟨_, rfl⟩
  rw [← hA] at Y
  have hvm : s'.vm = s.vm := by rw [hA]; rfl
  have hhp : s'.heap = H := by rw [hA]; exact hT
  have hW0 : s.WarmedH s'.vm := by rw [hvm]; exact State.WarmedH.refl s
  have hat' : ∀ w ∈ vx_atS own ic cls names, w.before args s' = true := fun w hw => vx_ot_at hW0 hvm.symm (hgood w (List.mem_cons_of_mem _ (List.mem_cons_of_mem _ hw))) (hat w hw)
  have hk' : (Cond.classLink own ik cls).before args s' = true := vx_ot_at hW0 hvm.symm (hgood _ List.mem_cons_self) hk
  have hini' : (Cond.initialized cls).before args s' = true := vx_ot_at hW0 hvm.symm (hgood _ (List.mem_cons_of_mem _ List.mem_cons_self)) hini
  have hU' : vx_Zq Bundle.tN "UNASSIGNED_STACK" Bundle.steD A s' s'.heap := by rw [hhp]; exact vx_Zq.moved hW0.alike (hU.kept hS.2.1)
  have hN' : vx_Zq Bundle.tN "SUPPRESSED_SENTINEL" Bundle.listD A s' s'.heap := by rw [hhp]; exact vx_Zq.moved hW0.alike (hN.kept hS.2.1)
  have h : ∀ w ∈ Bundle.ownAtoms own ic cls names, w.before args s' = true := vx_own hat' (vx_isRefq hU'.1) (vx_isRefq hN'.1) hU'.2.word hN'.2.word
  have hown' : s'.vm.findClass own = some m.cls := by rw [hvm]; exact hown
  have hins : (Cond.instantiable cls 6).before args s' = true := h _ (by simp [Bundle.ownAtoms])
  obtain ⟨vm₁, cX, kX, hfX, hkX, -, -, X₁, st1⟩ := Y.newCold hexec (own := own) (C := cls) (index := ik) (n := 6) hown' hk' hins hini'
    (g := F0 m pc ls rest) rfl (by rw [hb]; exact d0) (Nat.le_refl _) (Nat.le_refl _)
  generalize hT1 : (T.setVm vm₁).pushCell { cls := cX, slots := kX.instanceTypes.map defaultValue, vm := .none } = T1 at X₁ st1
  have hcat : (Value.ref T.heap.size).category = 1 := rfl
  have hcellA : T1.heap[T.heap.size]? = some (freshCell cX kX) := by rw [← hT1]; exact State.heap_pushCell_size _ _
  have d3' : decode c.code (pc + 3) = .ok (.dup, 1) := by rw [hb]; exact d3
  have d4' : decode c.code (pc + 4) = .ok (.ldc is, 2) := by rw [hb]; exact d4
  have hstr' : vk_R own is text sa s' := vk_R.warm hW0 hstr
  obtain ⟨U, hsteps, hrun, hend, hW, hsame, ce, hce, hO⟩ := X₁.ctorThrowS hexec htr (own := own) (cls := cls) (names := names) (ic := ic) hown' hcls hnames h (fun x hx => nomatch hx) hfX hkX hcellA (by rw [hhp, hT]; exact Nat.le_refl _) (msg := .ref sa) rfl
    (g := { method := m, pc := pc + 6, locals := ls, stack := .ref sa :: .ref T.heap.size :: .ref T.heap.size :: rest, locked := none }) rfl hsize rfl rfl (rest := rest) rfl
    (by rw [hb]; exact d6) (by rw [hb]; exact d9) hout hRframes (by simp only [List.map_cons, List.sum_cons, hcat]; omega) hlocks
  obtain ⟨f1, f2⟩ := vx_frame hsame
  rw [hhp] at f1 f2
  have hWs : s.WarmedH U.vm := State.WarmedH.trans hW0 hW
  have hcl : s.vm.findClass cls = some ce.cls := by
    have h9 := hO.cls
    rw [hvm] at h9
    exact h9
  have hall : s.sameButNew ({ U with vm := s.vm } : State) locs mc ms := by
    subst hA
    obtain ⟨e1, e2⟩ := hsame
    rw [State.setFrames_setFrames] at e1
    have h2 : (T.setVm s.vm).sameButNew ({ U with vm := s.vm } : State) [] (0 + 1) (0 + 6) := ⟨e1, e2⟩
    have h3 := X.same.trans h2
    rw [List.append_nil] at h3
    exact h3.mono hc hs
  refine ⟨U, ?_, .threw T.heap.size, hrun, hend, Or.inr ⟨T.heap.size, rfl, cls, ce, locs, hx U hWs.alike f1 (fun q hq => f2 q hq (fun z hz => nomatch hz)), hce, hO.vm, hcl, hWs, hall, hf⟩⟩
  refine st1 _ ?_
  show Steps p.tables e below (T1.setTop { method := m, pc := pc + 3, locals := ls, stack := .ref T.heap.size :: rest, locked := none }) _
  jvm_step X₁.here [X₁.here.top, hexec, d3', Value.category]
  exact X₁.ldcString hexec (own := own) (text := text) (index := is) (a := sa) hown' hstr'.1 hstr'.2
    (g := { method := m, pc := pc + 4, locals := ls, stack := .ref T.heap.size :: .ref T.heap.size :: rest, locked := none }) rfl d4' _ hsteps
/-- 'throw new E("text")', the text by a wide index -/
theorem vx_throwSW {cc : ByteArray} {pc : Nat} (hexec : p.tables.exec = Jvm.exec) (hb : c.code = cc) (hl : l.stackTraces = false) {own cls text : String} {names : List String} {ik is ic mc ms sa : Nat} {A : Nat → Prop}
    (hown : s.vm.findClass own = some m.cls) (hcls : Bundle.fit cls = true) (hnames : ∀ n ∈ names, Bundle.fit n = true)
    (hk : (Cond.classLink own ik cls).before args s = true) (hini : (Cond.initialized cls).before args s = true) (hstr : vk_R own is text sa s) (hat : ∀ w ∈ vx_atS own ic cls names, w.before args s = true)
    (hgood : ∀ w ∈ Cond.classLink own ik cls :: Cond.initialized cls :: vx_atS own ic cls names, vx_ot w = true)
    (hU : vx_Zq Bundle.tN "UNASSIGNED_STACK" Bundle.steD A s s.heap) (hN : vx_Zq Bundle.tN "SUPPRESSED_SENTINEL" Bundle.listD A s s.heap) (hS : va_S A s.heap H locs) (hsize : ls.size = c.maxLocals)
    (d0 : decode cc pc = .ok (.new ik, 3)) (d3 : decode cc (pc + 3) = .ok (.dup, 1)) (d4 : decode cc (pc + 4) = .ok (.ldc_w is, 3)) (d7 : decode cc (pc + 7) = .ok (.invokespecial ic, 3)) (d10 : decode cc (pc + 10) = .ok (.athrow, 1))
    (hout : ∀ x ∈ c.exceptionTable.toList, covers x (pc + 10) = false)
    (hRframes : names.length + 3 < R.frames) (hRlocals : (rest.map fun v => v.category).sum + (13 * (names.length + 1) + 43) ≤ R.locals) (hRcells : cells + 1 ≤ R.cells) (hRslots : slots + 6 ≤ R.slots) (hlocks : meth.locks = false)
    (hx : ∀ t : State, s.vm.Alike t.vm → H.size ≤ t.heap.size → (∀ q : Nat, q < H.size → t.heap[q]? = H[q]?) → XC cls s t)
    (hf : ∀ z ∈ locs, free z.base) (hc : cells + 1 ≤ mc) (hs : slots + 6 ≤ ms) :
    W p l e R s m args below meth c H locs cells slots (vx_MQ below Qc XC args s mc ms free) (F0 m pc ls rest) := by
  intro T hT X
  have htr : e.platform.stackTraces = false := (show e.platform.stackTraces = l.stackTraces by rw [X.admits.platform]).trans hl
  have Y := vx_rebase X (R' := { frames := R.frames, locals := R.locals, cells := 1, slots := 6 }) (Nat.le_refl _) (Nat.le_refl _) hRcells hRslots
  obtain ⟨s', hA⟩ : ∃ z, z = (T.setVm s.vm).setFrames (.invoking m args :: below) := ⟨_, rfl⟩
  rw [← hA] at Y
  have hvm : s'.vm = s.vm := by rw [hA]; rfl
  have hhp : s'.heap = H := by rw [hA]; exact hT
  have hW0 : s.WarmedH s'.vm := by rw [hvm]; exact State.WarmedH.refl s
  have hat' : ∀ w ∈ vx_atS own ic cls names, w.before args s' = true := fun w hw => vx_ot_at hW0 hvm.symm (hgood w (List.mem_cons_of_mem _ (List.mem_cons_of_mem _ hw))) (hat w hw)
  have hk' : (Cond.classLink own ik cls).before args s' = true := vx_ot_at hW0 hvm.symm (hgood _ List.mem_cons_self) hk
  have hini' : (Cond.initialized cls).before args s' = true := vx_ot_at hW0 hvm.symm (hgood _ (List.mem_cons_of_mem _ List.mem_cons_self)) hini
  have hU' : vx_Zq Bundle.tN "UNASSIGNED_STACK" Bundle.steD A s' s'.heap := by rw [hhp]; exact vx_Zq.moved hW0.alike (hU.kept hS.2.1)
  have hN' : vx_Zq Bundle.tN "SUPPRESSED_SENTINEL" Bundle.listD A s' s'.heap := by rw [hhp]; exact vx_Zq.moved hW0.alike (hN.kept hS.2.1)
  have h : ∀ w ∈ Bundle.ownAtoms own ic cls names, w.before args s' = true := vx_own hat' (vx_isRefq hU'.1) (vx_isRefq hN'.1) hU'.2.word hN'.2.word
  have hown' : s'.vm.findClass own = some m.cls := by rw [hvm]; exact hown
  have hins : (Cond.instantiable cls 6).before args s' = true := h _ (by simp [Bundle.ownAtoms])
  obtain ⟨vm₁, cX, kX, hfX, hkX, -, -, X₁, st1⟩ := Y.newCold hexec (own := own) (C := cls) (index := ik) (n := 6) hown' hk' hins hini'
    (g := F0 m pc ls rest) rfl (by rw [hb]; exact d0) (Nat.le_refl _) (Nat.le_refl _)
  generalize hT1 : (T.setVm vm₁).pushCell { cls := cX, slots := kX.instanceTypes.map defaultValue, vm := .none } = T1 at X₁ st1
  have hcat : (Value.ref T.heap.size).category = 1 := rfl
  have hcellA : T1.heap[T.heap.size]? = some (freshCell cX kX) := by rw [← hT1]; exact State.heap_pushCell_size _ _
  have d3' : decode c.code (pc + 3) = .ok (.dup, 1) := by rw [hb]; exact d3
  have d4' : decode c.code (pc + 4) = .ok (.ldc_w is, 3) := by rw [hb]; exact d4
  have hstr' : vk_R own is text sa s' := vk_R.warm hW0 hstr
  obtain ⟨U, hsteps, hrun, hend, hW, hsame, ce, hce, hO⟩ := X₁.ctorThrowS hexec htr (own := own) (cls := cls) (names := names) (ic := ic) hown' hcls hnames h (fun x hx => nomatch hx) hfX hkX hcellA (by rw [hhp, hT]; exact Nat.le_refl _) (msg := .ref sa) rfl
    (g := { method := m, pc := pc + 7, locals := ls, stack := .ref sa :: .ref T.heap.size :: .ref T.heap.size :: rest, locked := none }) rfl hsize rfl rfl (rest := rest) rfl
    (by rw [hb]; exact d7) (by rw [hb]; exact d10) hout hRframes (by simp only [List.map_cons, List.sum_cons, hcat]; omega) hlocks
  obtain ⟨f1, f2⟩ := vx_frame hsame
  rw [hhp] at f1 f2
  have hWs : s.WarmedH U.vm := State.WarmedH.trans hW0 hW
  have hcl : s.vm.findClass cls = some ce.cls := by
    have h9 := hO.cls
    rw [hvm] at h9
    exact h9
  have hall : s.sameButNew ({ U with vm := s.vm } : State) locs mc ms := by
    subst hA
    obtain ⟨e1, e2⟩ := hsame
    rw [State.setFrames_setFrames] at e1
    have h2 : (T.setVm s.vm).sameButNew ({ U with vm := s.vm } : State) [] (0 + 1) (0 + 6) := ⟨e1, e2⟩
    have h3 := X.same.trans h2
    rw [List.append_nil] at h3
    exact h3.mono hc hs
  refine ⟨U, ?_, .threw T.heap.size, hrun, hend, Or.inr ⟨T.heap.size, rfl, cls, ce, locs, hx U hWs.alike f1 (fun q hq => f2 q hq (fun z hz => nomatch hz)), hce, hO.vm, hcl, hWs, hall, hf⟩⟩
  refine st1 _ ?_
  show Steps p.tables e below (T1.setTop { method := m, pc := pc + 3, locals := ls, stack := .ref T.heap.size :: rest, locked := none }) _
  jvm_step X₁.here [X₁.here.top, hexec, d3', Value.category]
  exact X₁.ldcStringW hexec (own := own) (text := text) (index := is) (a := sa) hown' hstr'.1 hstr'.2
    (g := { method := m, pc := pc + 4, locals := ls, stack := .ref T.heap.size :: .ref T.heap.size :: rest, locked := none }) rfl d4' _ hsteps
end Ends
section Bodies
variable {l : Launch}
theorem vx_ofW {y : MethodName} {ws ws' : List Cond} {rm : Room} {Pc : Array Value → State → Prop} {Qc : Array Value → State → Outcome → State → Prop} {XC : String → State → State → Prop} {mc ms : Nat} {free : Addr → Prop} {cc : ByteArray} {maxL : Nat} {ret : Option FieldType}
    (hy : plainName y.cls = true) (hw : ws = Cond.code y cc maxL ret :: ws')
    (body : ∀ p e s m args below meth c s₁, BodyLoose p l y (headSpec ws rm) cc maxL ret e s m args below meth c s₁ → c.maxLocals = maxL → (∀ x ∈ c.exceptionTable.toList, False) → Pc args s →
      W p l e (headSpec ws rm).room s m args below meth c s.heap [] 0 0 (vx_MQ below Qc XC args s mc ms free) (entryFrame m args maxL)) : vx_Met l y ws rm Pc Qc XC mc ms free := by
  refine MetFree.of_bodyS (code := cc) (maxLocals := maxL) (ret := ret) hy ?_ ?_
  · intro args s m h hn
    obtain ⟨meth, c, h1, h2, h3, h4, h5, h6, -, -⟩ := Cond.code_spec hn (atoms_spec (ws := ws) h _ (by rw [hw]; exact List.mem_cons_self))
    exact ⟨meth, c, h1, h2, h3, h4, h5, h6⟩
  · intro p e s m args below meth c s₁ B hml hP _
    have hh0 : s₁.heap = s.heap := by rw [B.state]; rfl
    have ht : ∀ x ∈ c.exceptionTable.toList, False := by
      obtain ⟨meth9, c9, h1, h2, -, -, -, -, h7, -⟩ := Cond.code_spec B.named (atoms_spec (ws := ws) B.pre _ (by rw [hw]; exact List.mem_cons_self))
      cases Option.some.inj (h1.symm.trans B.method)
      cases Option.some.inj (h2.symm.trans (Stand.of_body B).code)
      intro x hx
      rw [Array.isEmpty_iff.mp h7] at hx
      cases hx
    obtain ⟨t, a1, o, b1, b2, b3⟩ := body p e s m args below meth c s₁ B hml ht hP s₁ hh0 (Stand.of_body B)
    exact ⟨t, o, a1, b1, b2, b3⟩
/-- the table of a body with handlers -/
theorem vx_table {p : Program} {x y : MethodName} {S : Spec} {cc bytes : ByteArray} {maxL maxL' : Nat} {ret ret' : Option FieldType} {e : Env} {s s₁ : State} {m : MethodId} {args : Array Value} {below : List Frame} {meth : Method} {c : Code} {hh : List (Nat × Nat × Nat × Nat)}
    (B : BodyLoose p l y S cc maxL ret e s m args below meth c s₁) (h : (Cond.codeWith y bytes maxL' ret' hh).before args s = true) : c.exceptionTable.toList = tableOf hh := by
  obtain ⟨m9, meth9, c9, hn9, h1, h2, -, -, h6, -⟩ := Cond.codeWith_spec h
  cases Option.some.inj (hn9.symm.trans B.named)
  cases Option.some.inj (h1.symm.trans B.method)
  cases Option.some.inj (h2.symm.trans (Stand.of_body B).code)
  rw [← h6, table_eq]
end Bodies
end VXA
/-! ===== END ===== -/
/-! ===== BEGIN a static call of a method with an exception table ===== -/
section VXS
variable {p : Program} {l : Launch} {e : Env} {R : Room} {s : State} {m : MethodId} {args : Array Value} {below : List Frame} {meth : Method} {c : Code} {T : State} {H : Heap} {locs : List Loc} {cells slots : Nat}
abbrev vx_CSW (R : Room) (s : State) (args : Array Value) (own : String) (index : Nat) (y : MethodName) (bytes : ByteArray) (maxL : Nat) (ret : Option FieldType) (hh : List (Nat × Nat × Nat × Nat)) (ws : List Cond) (rm : Room) (mc ms n : Nat) : Prop :=
  (rm.cells = mc ∧ rm.slots = ms ∧ rm.frames + 1 ≤ R.frames ∧ 8 + (maxL + 11) + rm.locals ≤ R.locals ∧ (∀ w ∈ ws, ∀ (a' : Array Value) (U : State), s.WarmedH U.vm → w.before a' U = true) ∧ Cond.codeWith y bytes maxL ret hh ∈ ws) ∧
  (Cond.codeWith y bytes maxL ret hh).before args s = true ∧ (Cond.initialized y.cls).before args s = true ∧ (y.cls ≠ "java/lang/invoke/MethodHandle" ∧ y.cls ≠ "java/lang/invoke/VarHandle") ∧
  (∀ sig, parseMethodDescriptor y.desc = some sig → n = sig.parameters.length) ∧ (Cond.methodLink own index y).before args s = true ∧ (Cond.static y).before args s = true
theorem vx_cwSW {own : String} {index maxL mc ms : Nat} {y : MethodName} {bytes : ByteArray} {ret : Option FieldType} {hh : List (Nat × Nat × Nat × Nat)} {Ts ws ws' : List Cond} {rm : Room} (n : Nat) (ht : ∀ w ∈ Ts, w.before args s = true) (hT : GoodIn Ts (va_wsS own index y ws)) (hw : ws = Cond.codeWith y bytes maxL ret hh :: ws') (hrc : rm.cells = mc) (hrs : rm.slots = ms)
    (hd : y.cls ≠ "java/lang/invoke/MethodHandle" ∧ y.cls ≠ "java/lang/invoke/VarHandle" ∧ (parseMethodDescriptor y.desc).map (fun d => d.parameters.length) = some n) (hR : rm.frames + 1 ≤ R.frames ∧ 8 + (maxL + 11) + rm.locals ≤ R.locals) :
    vx_CSW R s args own index y bytes maxL ret hh ws rm mc ms n := by
  have ok : ∀ w ∈ va_wsS own index y ws, w.before args s = true := fun w h => ht w (hT w h).1
  have hG : GoodIn Ts ws := fun w h => hT w (by unfold va_wsS; exact List.mem_append_right _ h)
  have hc : Cond.codeWith y bytes maxL ret hh ∈ ws := by rw [hw]; exact List.mem_cons_self
  refine ⟨⟨hrc, hrs, hR.1, hR.2, pay_in ht hG, hc⟩, ht _ (hG _ hc).1, ok _ (by simp [va_wsS]), ⟨hd.1, hd.2.1⟩, fun sig h => ?_, ok _ (by simp [va_wsS]), ok _ (by simp [va_wsS])⟩
  have h2 := hd.2.2
  rw [h] at h2
  exact (Option.some.inj h2).symm
theorem vx_callSW (X : Stand p l e R s m args below meth c T locs cells slots) (hexec : p.tables.exec = Jvm.exec) {own : String} {index : Nat} {y : MethodName} {bytes : ByteArray} {maxL : Nat} {ret : Option FieldType} {hh : List (Nat × Nat × Nat × Nat)}
    (hown : s.vm.findClass own = some m.cls) (hlink : (Cond.methodLink own index y).before args s = true) (hstat : (Cond.static y).before args s = true) (hinit : (Cond.initialized y.cls).before args s = true)
    (hcode : (Cond.codeWith y bytes maxL ret hh).before args s = true) (hy : y.cls ≠ "java/lang/invoke/MethodHandle" ∧ y.cls ≠ "java/lang/invoke/VarHandle")
    {W9 : Nat} {Pre : Pt → Array Value → Prop} {Post : Pt → Array Value → Option Value → Pt → Prop} (hK : Back l R p e below s args y 3 W9 Pre Post)
    {g : JFrame} (hg : g.method = m) (hsize : g.locals.size = c.maxLocals) {argsL rest : List Value} (hlen : ∀ sig, parseMethodDescriptor y.desc = some sig → argsL.length = sig.parameters.length)
    (hstack : g.stack = argsL.reverse ++ rest) (hW : 2 * g.monitorRoom + (rest.map fun v => v.category).sum ≤ W9) (hdg : decode c.code g.pc = .ok (.invokestatic index, 3))
    (hpre : ∀ vm₁, s.WarmedH vm₁ → Pre ⟨T.setVm vm₁, locs, cells, slots⟩ argsL.toArray) :
    ∃ (v : Option Value) (vm₁ : Vm) (B : Pt), s.WarmedH vm₁ ∧ Stand p l e R s m args below meth c B.U B.locs B.cells B.slots ∧ Post ⟨T.setVm vm₁, locs, cells, slots⟩ argsL.toArray v B ∧
      ∀ target, Steps p.tables e below (B.U.setTop { g with pc := g.pc + 3, stack := v.toList ++ rest }) target → Steps p.tables e below (T.setTop g) target := by
  obtain ⟨mk, methM, cM, hnamed, hmethM, -, -, -, -, -, -, hsigM⟩ := Cond.codeWith_spec hcode
  have hstatic : methM.isStatic = true := Cond.static_spec hnamed hmethM hstat
  obtain ⟨kP, hkP, -⟩ := className_of_methodNamed hnamed
  have hinitP : kP.init = .initialized := Cond.initialized_spec (findClass_of_methodNamed hnamed) hkP hinit
  obtain ⟨vm₁, X₁, hstep₁⟩ := X.invokestatic hexec hown hlink hnamed hmethM hstatic hkP hinitP hy (g := g) hg (argsL := argsL) (rest := rest) (hlen _ hsigM) hstack hdg
  obtain ⟨v, B, X', hpost, hsteps⟩ := hK m meth c ⟨T.setVm vm₁, locs, cells, slots⟩ { g with stack := rest } (.invokestatic index) mk argsL.toArray X₁ hg hsize hdg hW (X₁.named hnamed) (hpre vm₁ X₁.warmed)
  exact ⟨v, vm₁, B, X₁.warmed, X', hpost, fun target h => hstep₁ _ fun acts => by rw [doInvoke_state]; exact hsteps.trans h⟩
theorem vx_runSW {y : MethodName} {bytes cc : ByteArray} {maxL nL mc ms n index : Nat} {ret : Option FieldType} {hh : List (Nat × Nat × Nat × Nat)} {ws : List Cond} {rm : Room} {Pc : Array Value → State → Prop} {Qc : Array Value → State → Outcome → State → Prop} {free : Addr → Prop} {Ts : List Cond} {own : String} {As rest : List Value} {g : JFrame}
    (S : CallFix p m c cc nL s args Ts own) (hM : Met l y ws rm Pc Qc mc ms free) (cw : vx_CSW R s args own index y bytes maxL ret hh ws rm mc ms n) (hp : PreS s H Pc As)
    (hg : g.method = m) (hn : As.length = n) (hsize : g.locals.size = nL) (hstack : g.stack = As.reverse ++ rest) (hW : 2 * g.monitorRoom + (rest.map fun v => v.category).sum ≤ 8) (hdg : decode cc g.pc = .ok (.invokestatic index, 3)) (hf : cells + mc ≤ R.cells ∧ slots + ms ≤ R.slots) :
    va_Run p l e R s m args below meth c H locs cells slots mc ms g rest (Qc As.toArray) (free) := by
  obtain ⟨⟨hrc, hrs, hfr, hlo, hws, hcw⟩, hcode, hini, hy, hlen, hl, hstt⟩ := cw
  have hK : Back l R p e below s args y 3 8 (PreOf R mc ms Pc) (PostOf Qc mc ms free) := va_backW (hh := hh) (bytes := bytes) (maxL := maxL) (ret := ret) hM hp.1 hrc hrs hfr hlo hws hcw (fun a' U hW => word_at hW (Or.inl (by first | rfl | simp [Cond.onTables, Cond.keeps, Cond.steady])) hini)
  obtain ⟨hx, hb, hml, ho, -⟩ := S
  intro T hT X
  obtain ⟨v, vm₁, ⟨U', l2, c2, s2⟩, hW₁, X', ⟨g', mk, t, L, e1, e2, hq, h1, hL, h2, h3⟩, st⟩ := vx_callSW X hx (hh := hh) (bytes := bytes) (maxL := maxL) (ret := ret) ho hl hstt hini hcode hy hK hg (hsize.trans hml.symm) (argsL := As) (rest := rest) (fun sig h => hn.trans (hlen sig h)) hstack hW (by rw [hb]; exact hdg)
    (fun vm₁ hW₁ => ⟨hf.1, hf.2, hp.2 (T.setVm vm₁) hT hW₁⟩)
  dsimp only [Pt.U, Pt.locs, Pt.cells, Pt.slots] at X' e1 e2 h1 h2 h3 st
  subst h1; subst h2; subst h3
  exact ⟨v, (T.setVm vm₁).calling g' mk As.toArray, t, U', L, hT, X', hL, e1, e2, hq, st⟩
/-- not caught here, past rows that name other classes: it goes on to the caller -/
theorem vx_outP {p : Program} {l : Launch} {e : Env} {R : Room} {s : State} {m : MethodId} {args : Array Value} {below : List Frame} {meth : Method} {c : Code} {H : Heap} {locs : List Loc} {cells slots : Nat} {free : Addr → Prop} {ls : Array Slot} {rest : List Value} {Qc : Array Value → State → Outcome → State → Prop} {XC : String → State → State → Prop}
    {pc : Nat} {own E : String} {ce : Cell} {q : Addr} {mc ms : Nat} (hown : s.vm.findClass own = some m.cls) (hlocks : meth.locks = false)
    (hpass : ∀ z ∈ c.exceptionTable.toList, covers z pc = false ∨ (z.catchType ≠ 0 ∧ ∃ nm : String, (Cond.classLink own z.catchType nm).before args s = true ∧ va_Nc E nm s)) (hcell : H[q]? = some ce) (hv : ce.vm = .none) (hcl : s.vm.findClass E = some ce.cls)
    (hx : ∀ t : State, t.heap = H → s.vm.Alike t.vm → XC E s t) (hf : ∀ z ∈ locs, free z.base) (hc : cells ≤ mc) (hs : slots ≤ ms) :
    vx_W p l e R s m args below meth c H locs cells slots (vx_MQ below Qc XC args s mc ms free) (F0 m pc ls rest) q := by
  intro T hT X
  have hpl : e.platform.magicAccessors = ({} : Platform).magicAccessors := by rw [X.admits.platform]
  obtain ⟨vm', hW', X', st⟩ := X.outThrough hlocks q (g := F0 m pc ls rest) rfl rfl rfl (cell := ce) (by rw [hT]; exact hcell) (by rw [hv]; rfl)
    (by obtain ⟨k9, h9, -⟩ := Vm.findClass_spec hcl; exact ⟨k9, h9⟩) (fun z hz => by
      rcases hpass z hz with h | ⟨hz0, nm, hl1, hn1⟩
      · exact Or.inl h
      · obtain ⟨c6, hc6, hcl6⟩ := Cond.classLink_spec hown hl1 e.platform hpl
        obtain ⟨a8, b8, h1, h2, h3⟩ := hn1
        cases Option.some.inj (h1.symm.trans hcl)
        cases Option.some.inj (h2.symm.trans hc6)
        exact Or.inr ⟨hz0, _, hcl6, h3⟩)
  obtain ⟨g₀, hfr⟩ := X'.frames_eq
  have hcell9 : ((T.setVm vm').setFrames (.throwing q :: below)).heap[q]? = some ce := by
    show T.heap[q]? = some ce
    rw [hT]; exact hcell
  have hend : Ended ((T.setVm vm').setFrames (.throwing q :: below)) below (.threw q) := State.frames_setFrames _ (State.cur_lt_of_frames hfr)
  refine ⟨(T.setVm vm').setFrames (.throwing q :: below), ?_, .threw q, X'.here.running, hend, Or.inr ⟨q, rfl, E, ce, locs, hx _ hT (X'.ends _).1.alike, hcell9, hv, hcl, (X'.ends _).1, (X'.ends _).2.mono hc hs, hf⟩⟩
  rw [X.pushThrowing_eq]
  exact st
/-- a thing of a world lies in the heap -/
theorem vx_lt {D : va_G} {cl : List vw_C} {ws : va_W} {H1 : Heap} (h : va_P D cl ws H1) {k : Nat} {q : Nat × va_E} (hk : ws[k]? = some q) : q.1 < H1.size := (h k q hk).lt
end VXS
/-! ===== END ===== -/
/-! ===== BEGIN methods with a table of their own: called by a name, returning or throwing ===== -/
section VXH
/-! vx_backW, vx_callVX, vx_callSX, vx_callVW, vx_runVW, vx_runVX, vx_runSX, vx_ofWH follow the same proofs as their sisters above (Free/Laws.lean, Shelf42/LK1.lean); vx_outP calls Shelf42/NT130.lean (outThrough). -/
section
variable {l : Launch} {R : Room} {p : Program} {e : Env} {below : List Frame} {s : State} {sargs : Array Value} {y : MethodName} {len W9 : Nat}
theorem vx_backW {ws : List Cond} {rm : Room} {Pc : Array Value → State → Prop} {Qc : Array Value → State → Outcome → State → Prop} {XC : String → State → State → Prop} {mc ms : Nat} {free : Addr → Prop} {bytes : ByteArray} {maxL : Nat} {ret : Option FieldType} {hh : List (Nat × Nat × Nat × Nat)}
    (hM : vx_Met l y ws rm Pc Qc XC mc ms free) (hblind : FrameBlind Pc) (hrc : rm.cells = mc) (hrs : rm.slots = ms)
    (hframes : rm.frames + 1 ≤ R.frames) (hlocals : W9 + (maxL + 11) + rm.locals ≤ R.locals)
    (hws : ∀ w ∈ ws, ∀ a' U, s.WarmedH U.vm → w.before a' U = true) (hcode : Cond.codeWith y bytes maxL ret hh ∈ ws) (hinit : ∀ a' U, s.WarmedH U.vm → (Cond.initialized y.cls).before a' U = true) :
    vx_Back l R p e below s sargs y len W9 (PreOf R mc ms Pc) (PostOf Qc mc ms free) (vx_Post XC mc ms free) := by
  intro m meth c A g ig mk a X hg hsize hdg hW hn hp
  have h1 : (headSpec ws rm).pre.before a A.U = true := atoms_intro fun w hw => hws w hw _ _ X.warmed
  have h2 : (Cond.codeWith y bytes maxL ret hh).before a A.U = true := hws _ hcode _ _ X.warmed
  have h3 : (Cond.initialized y.cls).before a A.U = true := hinit _ _ X.warmed
  have h4 : A.cells + (headSpec ws rm).room.cells ≤ R.cells := by rw [show (headSpec ws rm).room.cells = mc from hrc]; exact hp.1
  have h5 : A.slots + (headSpec ws rm).room.slots ≤ R.slots := by rw [show (headSpec ws rm).room.slots = ms from hrs]; exact hp.2.1
  have hPc : Pc a (A.U.calling g mk a) := hblind _ _ _ _ hp.2.2
  obtain ⟨U, Ls, c0, s0⟩ := A
  dsimp only [Pt.U, Pt.locs, Pt.cells, Pt.slots] at h1 h2 h3 h4 h5 X hn hPc ⊢
  obtain ⟨m9, methY, cY, hn9, hmY, hcY, -, hlY, -⟩ := Cond.codeWith_spec h2
  cases Option.some.inj (hn9.symm.trans hn)
  obtain ⟨kY, hkY, -⟩ := className_of_methodNamed hn
  have hinitY : kY.init = .initialized := Cond.initialized_spec (findClass_of_methodNamed hn) hkY h3
  have h : At U g.method c below := by rw [hg]; exact X.here
  have hlocals9 : W9 + (maxL + 11) + (headSpec ws rm).room.locals ≤ R.locals := hlocals
  have happ : (headSpec ws rm).appliesLoose y e.platform (U.calling g mk a) = true :=
    Spec.appliesLoose_calling (g := g) h hdg hn hkY hinitY
      (X.room_calling (g := g) (R' := (headSpec ws rm).room) hsize hmY hcY hframes (by rw [hlY]; omega) h4 h5) h1
  obtain ⟨mid, hmid⟩ := h.above
  have hfr : (U.setTop g).frames = (.java g :: mid) ++ below := by rw [State.frames_setTop' g h.top, hmid]; rfl
  obtain ⟨o, s₂, hsteps, -, hend, hq⟩ := Steps.callFree hM p X.admits X.cas X.clock (acts := []) hfr happ hPc trivial
  have hq' : vx_Q Qc XC mc ms free a (U.calling g mk a) o s₂ := hq
  rw [State.frames_setTop' g h.top] at hend
  obtain ⟨g₀, hg0⟩ := Option.isSome_iff_exists.mp h.top
  obtain ⟨r, hr⟩ := State.topJava?_eq_some.mp hg0
  have hr' : (({ U with heap := s₂.heap, slotsUsed := s₂.slotsUsed } : State).setVm s₂.vm).frames = .java g₀ :: r := hr
  rcases hq' with ⟨hqc, L, hfe, hL⟩ | ⟨q, rfl, E, ce, L, hx, hce, hcv, hcl, hW₂, hsm, hL⟩
  · obtain ⟨⟨v, rfl⟩, hW₂, e2, q2, q3, q4, q5, q6⟩ := id hfe
    have e3 : s₂ = ({ (U.calling g mk a).setFrames s₂.frames with heap := s₂.heap, slotsUsed := s₂.slotsUsed } : State).setVm s₂.vm := by
      have : s₂ = ({ s₂ with vm := (U.calling g mk a).vm } : State).setVm s₂.vm := rfl
      rw [e2] at this
      exact this
    obtain ⟨c₂, i₂, len₂, hc₂, hd₂, hf₂⟩ := hend
    have hW' : U.WarmedH s₂.vm := hW₂
    have hcc : c₂ = c := by
      have h1 : s₂.code? g.method = U.code? g.method := by
        rw [State.code?_eq, State.code?_eq, hW'.alike.method?]
      exact Option.some.inj (hc₂.symm.trans (h1.trans h.code))
    subst hcc
    have hlen : len₂ = len := by rw [hdg] at hd₂; cases hd₂; rfl
    subst hlen
    have hs₂ : s₂ = (({ U with heap := s₂.heap, slotsUsed := s₂.slotsUsed } : State).setVm s₂.vm).setTop { g with pc := g.pc + len₂, stack := v.toList ++ g.stack } := by
      refine e3.trans ?_
      rw [hf₂, State.calling_eq h.top, State.setFrames_setFrames, State.setTop_of_frames _ hr', hr]
      rfl
    have hsame : U.sameButNew ({ U with heap := s₂.heap, slotsUsed := s₂.slotsUsed } : State) L mc ms := by
      refine ⟨?_, q2, q3, q4, q5, q6⟩
      obtain ⟨t, ht, -⟩ := State.frames_cons hr
      show ({ U with heap := s₂.heap, slotsUsed := s₂.slotsUsed } : State) = { U.setFrames U.frames with heap := s₂.heap, slotsUsed := s₂.slotsUsed }
      rw [State.setFrames_self ht]
    subst hg
    refine Or.inl ⟨v, ⟨(({ U with heap := s₂.heap, slotsUsed := s₂.slotsUsed } : State).setVm s₂.vm), Ls ++ L, c0 + mc, s0 + ms⟩,
      ⟨X.admits, X.cas, X.clock, X.frames, X.room, X.hears, X.method, X.code, (X.here.setHeapUsed s₂.heap s₂.slotsUsed).setVm hW'.alike, X.tail, State.WarmedH.trans X.warmed hW', X.limits, X.bytes, X.same.trans (hsame.setVm s.vm)⟩,
      ⟨g, mk, s₂, L, rfl, rfl, hqc, rfl, hL, rfl, rfl⟩, ?_⟩
    show Steps p.tables e below _ ((({ U with heap := s₂.heap, slotsUsed := s₂.slotsUsed } : State).setVm s₂.vm).setTop { g with pc := g.pc + len₂, stack := v.toList ++ g.stack })
    rw [← hs₂]
    exact hsteps
  · obtain ⟨e2, q2, q3, q4, q5, q6⟩ := id hsm
    have e3 : s₂ = ({ (U.calling g mk a).setFrames s₂.frames with heap := s₂.heap, slotsUsed := s₂.slotsUsed } : State).setVm s₂.vm := by
      have : s₂ = ({ s₂ with vm := (U.calling g mk a).vm } : State).setVm s₂.vm := rfl
      rw [e2] at this
      exact this
    have hf₂ : s₂.frames = .throwing q :: .java g :: U.frames.tail := hend
    have hW' : U.WarmedH s₂.vm := hW₂
    have hs₂ : s₂ = ((({ U with heap := s₂.heap, slotsUsed := s₂.slotsUsed } : State).setVm s₂.vm).setTop g).pushFrame (.throwing q) := by
      refine e3.trans ?_
      rw [hf₂, State.calling_eq h.top, State.setFrames_setFrames, State.pushFrame, State.frames_setTop _ hr', State.setTop_of_frames _ hr', State.setFrames_setFrames, hr]
      rfl
    have hsame : U.sameButNew ({ U with heap := s₂.heap, slotsUsed := s₂.slotsUsed } : State) L mc ms := by
      refine ⟨?_, q2, q3, q4, q5, q6⟩
      obtain ⟨t, ht, -⟩ := State.frames_cons hr
      show ({ U with heap := s₂.heap, slotsUsed := s₂.slotsUsed } : State) = { U.setFrames U.frames with heap := s₂.heap, slotsUsed := s₂.slotsUsed }
      rw [State.setFrames_self ht]
    subst hg
    refine Or.inr ⟨q, ⟨(({ U with heap := s₂.heap, slotsUsed := s₂.slotsUsed } : State).setVm s₂.vm), Ls ++ L, c0 + mc, s0 + ms⟩,
      ⟨X.admits, X.cas, X.clock, X.frames, X.room, X.hears, X.method, X.code, (X.here.setHeapUsed s₂.heap s₂.slotsUsed).setVm hW'.alike, X.tail, State.WarmedH.trans X.warmed hW', X.limits, X.bytes, X.same.trans (hsame.setVm s.vm)⟩,
      ⟨g, mk, s₂, L, E, ce, rfl, rfl, hx, hce, hcv, hcl, rfl, hL, rfl, rfl⟩, ?_⟩
    show Steps p.tables e below _ (((({ U with heap := s₂.heap, slotsUsed := s₂.slotsUsed } : State).setVm s₂.vm).setTop g).pushFrame (.throwing q))
    rw [← hs₂]
    exact hsteps
end
variable {p : Program} {l : Launch} {e : Env} {R : Room} {s : State} {m : MethodId} {args : Array Value} {below : List Frame} {meth : Method} {c : Code} {T : State} {H : Heap} {locs : List Loc} {cells slots : Nat}
theorem vx_callVX (X : Stand p l e R s m args below meth c T locs cells slots) (hexec : p.tables.exec = Jvm.exec) {own C : String} {index : Nat} {y : MethodName} {bytes : ByteArray} {maxL : Nat} {ret : Option FieldType} {hh : List (Nat × Nat × Nat × Nat)}
    (hown : s.vm.findClass own = some m.cls) (hlink : (Cond.methodLink own index y).before args s = true) (hinst : (Cond.instanceMethod y).before args s = true) (hsel : (Cond.selects C y y).before args s = true)
    (hcode : (Cond.codeWith y bytes maxL ret hh).before args s = true) (hy : y.cls ≠ "java/lang/invoke/MethodHandle" ∧ y.cls ≠ "java/lang/invoke/VarHandle")
    {W9 : Nat} {Pre : Pt → Array Value → Prop} {Post : Pt → Array Value → Option Value → Pt → Prop} {PostX : Pt → Array Value → Addr → Pt → Prop} (hK : vx_Back l R p e below s args y 3 W9 Pre Post PostX)
    {b : Addr} {cellB : Cell} (hcell : T.heap[b]? = some cellB) (hobj : cellB.vm.isStatics = false) (hcls : s.vm.findClass C = some cellB.cls)
    {g : JFrame} (hg : g.method = m) (hsize : g.locals.size = c.maxLocals) {argsL rest : List Value} (hlen : ∀ sig, parseMethodDescriptor y.desc = some sig → argsL.length = sig.parameters.length)
    (hstack : g.stack = argsL.reverse ++ .ref b :: rest) (hW : 2 * g.monitorRoom + (rest.map fun v => v.category).sum ≤ W9) (hdg : decode c.code g.pc = .ok (.invokevirtual index, 3))
    (hpre : ∀ vm₁, s.WarmedH vm₁ → Pre ⟨T.setVm vm₁, locs, cells, slots⟩ (Value.ref b :: argsL).toArray) :
    (∃ (v : Option Value) (vm₁ : Vm) (B : Pt), s.WarmedH vm₁ ∧ Stand p l e R s m args below meth c B.U B.locs B.cells B.slots ∧ Post ⟨T.setVm vm₁, locs, cells, slots⟩ (Value.ref b :: argsL).toArray v B ∧
      ∀ target, Steps p.tables e below (B.U.setTop { g with pc := g.pc + 3, stack := v.toList ++ rest }) target → Steps p.tables e below (T.setTop g) target) ∨
    (∃ (q : Addr) (vm₁ : Vm) (B : Pt), s.WarmedH vm₁ ∧ Stand p l e R s m args below meth c B.U B.locs B.cells B.slots ∧ PostX ⟨T.setVm vm₁, locs, cells, slots⟩ (Value.ref b :: argsL).toArray q B ∧
      Steps p.tables e below (T.setTop g) ((B.U.setTop { g with stack := rest }).pushFrame (.throwing q))) := by
  obtain ⟨mk, methM, hnamed, hmethM, hstM, habM⟩ := Cond.instanceMethod_spec hinst
  obtain ⟨m8, methM', cM, hn8, hmethM', -, -, -, -, -, -, hsigM⟩ := Cond.codeWith_spec hcode
  cases Option.some.inj (hn8.symm.trans hnamed)
  cases hmethM.symm.trans hmethM'
  obtain ⟨c2, r2, m2, q1, q2, q3, q4, kP, hkP, hkPi⟩ := Cond.selects_spec hsel
  cases hcls.symm.trans q1
  cases (State.methodFound?_of_named hnamed hy).symm.trans q2
  cases hnamed.symm.trans q3
  have hselP : selectMethod e.platform s.vm cellB.cls mk = .method mk := by rw [Launch.admits_selectMethod X.admits]; exact q4
  obtain ⟨vm₁, X₁, hstep₁⟩ := X.invokevirtual hexec hown hlink hnamed hmethM hstM hkP hkPi hy (a := b) (cell := cellB) hcell
    (fun z h => by rw [h] at hobj; cases hobj) hselP hmethM habM hkP hkPi (g := g) hg (argsL := argsL) (rest := rest) (hlen _ hsigM) hstack hdg
  rcases hK m meth c ⟨T.setVm vm₁, locs, cells, slots⟩ { g with stack := rest } (.invokevirtual index) mk (Value.ref b :: argsL).toArray X₁ hg hsize hdg hW (X₁.named hnamed) (hpre vm₁ X₁.warmed) with ⟨v, B, X', hpost, hsteps⟩ | ⟨q, B, X', hpost, hsteps⟩
  · exact Or.inl ⟨v, vm₁, B, X₁.warmed, X', hpost, fun target h => hstep₁ _ fun acts => by rw [doInvoke_state]; exact hsteps.trans h⟩
  · exact Or.inr ⟨q, vm₁, B, X₁.warmed, X', hpost, hstep₁ _ fun acts => by rw [doInvoke_state]; exact hsteps⟩
theorem vx_callSX (X : Stand p l e R s m args below meth c T locs cells slots) (hexec : p.tables.exec = Jvm.exec) {own : String} {index : Nat} {y : MethodName} {bytes : ByteArray} {maxL : Nat} {ret : Option FieldType} {hh : List (Nat × Nat × Nat × Nat)}
    (hown : s.vm.findClass own = some m.cls) (hlink : (Cond.methodLink own index y).before args s = true) (hstat : (Cond.static y).before args s = true) (hinit : (Cond.initialized y.cls).before args s = true)
    (hcode : (Cond.codeWith y bytes maxL ret hh).before args s = true) (hy : y.cls ≠ "java/lang/invoke/MethodHandle" ∧ y.cls ≠ "java/lang/invoke/VarHandle")
    {W9 : Nat} {Pre : Pt → Array Value → Prop} {Post : Pt → Array Value → Option Value → Pt → Prop} {PostX : Pt → Array Value → Addr → Pt → Prop} (hK : vx_Back l R p e below s args y 3 W9 Pre Post PostX)
    {g : JFrame} (hg : g.method = m) (hsize : g.locals.size = c.maxLocals) {argsL rest : List Value} (hlen : ∀ sig, parseMethodDescriptor y.desc = some sig → argsL.length = sig.parameters.length)
    (hstack : g.stack = argsL.reverse ++ rest) (hW : 2 * g.monitorRoom + (rest.map fun v => v.category).sum ≤ W9) (hdg : decode c.code g.pc = .ok (.invokestatic index, 3))
    (hpre : ∀ vm₁, s.WarmedH vm₁ → Pre ⟨T.setVm vm₁, locs, cells, slots⟩ argsL.toArray) :
    (∃ (v : Option Value) (vm₁ : Vm) (B : Pt), s.WarmedH vm₁ ∧ Stand p l e R s m args below meth c B.U B.locs B.cells B.slots ∧ Post ⟨T.setVm vm₁, locs, cells, slots⟩ argsL.toArray v B ∧
      ∀ target, Steps p.tables e below (B.U.setTop { g with pc := g.pc + 3, stack := v.toList ++ rest }) target → Steps p.tables e below (T.setTop g) target) ∨
    (∃ (q : Addr) (vm₁ : Vm) (B : Pt), s.WarmedH vm₁ ∧ Stand p l e R s m args below meth c B.U B.locs B.cells B.slots ∧ PostX ⟨T.setVm vm₁, locs, cells, slots⟩ argsL.toArray q B ∧
      Steps p.tables e below (T.setTop g) ((B.U.setTop { g with stack := rest }).pushFrame (.throwing q))) := by
  obtain ⟨mk, methM, cM, hnamed, hmethM, -, -, -, -, -, -, hsigM⟩ := Cond.codeWith_spec hcode
  have hstatic : methM.isStatic = true := Cond.static_spec hnamed hmethM hstat
  obtain ⟨kP, hkP, -⟩ := className_of_methodNamed hnamed
  have hinitP : kP.init = .initialized := Cond.initialized_spec (findClass_of_methodNamed hnamed) hkP hinit
  obtain ⟨vm₁, X₁, hstep₁⟩ := X.invokestatic hexec hown hlink hnamed hmethM hstatic hkP hinitP hy (g := g) hg (argsL := argsL) (rest := rest) (hlen _ hsigM) hstack hdg
  rcases hK m meth c ⟨T.setVm vm₁, locs, cells, slots⟩ { g with stack := rest } (.invokestatic index) mk argsL.toArray X₁ hg hsize hdg hW (X₁.named hnamed) (hpre vm₁ X₁.warmed) with ⟨v, B, X', hpost, hsteps⟩ | ⟨q, B, X', hpost, hsteps⟩
  · exact Or.inl ⟨v, vm₁, B, X₁.warmed, X', hpost, fun target h => hstep₁ _ fun acts => by rw [doInvoke_state]; exact hsteps.trans h⟩
  · exact Or.inr ⟨q, vm₁, B, X₁.warmed, X', hpost, hstep₁ _ fun acts => by rw [doInvoke_state]; exact hsteps⟩
theorem vx_callVW (X : Stand p l e R s m args below meth c T locs cells slots) (hexec : p.tables.exec = Jvm.exec) {own C : String} {index : Nat} {y : MethodName} {bytes : ByteArray} {maxL : Nat} {ret : Option FieldType} {hh : List (Nat × Nat × Nat × Nat)}
    (hown : s.vm.findClass own = some m.cls) (hlink : (Cond.methodLink own index y).before args s = true) (hinst : (Cond.instanceMethod y).before args s = true) (hsel : (Cond.selects C y y).before args s = true)
    (hcode : (Cond.codeWith y bytes maxL ret hh).before args s = true) (hy : y.cls ≠ "java/lang/invoke/MethodHandle" ∧ y.cls ≠ "java/lang/invoke/VarHandle")
    {W9 : Nat} {Pre : Pt → Array Value → Prop} {Post : Pt → Array Value → Option Value → Pt → Prop} (hK : Back l R p e below s args y 3 W9 Pre Post)
    {b : Addr} {cellB : Cell} (hcell : T.heap[b]? = some cellB) (hobj : cellB.vm.isStatics = false) (hcls : s.vm.findClass C = some cellB.cls)
    {g : JFrame} (hg : g.method = m) (hsize : g.locals.size = c.maxLocals) {argsL rest : List Value} (hlen : ∀ sig, parseMethodDescriptor y.desc = some sig → argsL.length = sig.parameters.length)
    (hstack : g.stack = argsL.reverse ++ .ref b :: rest) (hW : 2 * g.monitorRoom + (rest.map fun v => v.category).sum ≤ W9) (hdg : decode c.code g.pc = .ok (.invokevirtual index, 3))
    (hpre : ∀ vm₁, s.WarmedH vm₁ → Pre ⟨T.setVm vm₁, locs, cells, slots⟩ (Value.ref b :: argsL).toArray) :
    ∃ (v : Option Value) (vm₁ : Vm) (B : Pt), s.WarmedH vm₁ ∧ Stand p l e R s m args below meth c B.U B.locs B.cells B.slots ∧ Post ⟨T.setVm vm₁, locs, cells, slots⟩ (Value.ref b :: argsL).toArray v B ∧
      ∀ target, Steps p.tables e below (B.U.setTop { g with pc := g.pc + 3, stack := v.toList ++ rest }) target → Steps p.tables e below (T.setTop g) target := by
  obtain ⟨mk, methM, hnamed, hmethM, hstM, habM⟩ := Cond.instanceMethod_spec hinst
  obtain ⟨m8, methM', cM, hn8, hmethM', -, -, -, -, -, -, hsigM⟩ := Cond.codeWith_spec hcode
  cases Option.some.inj (hn8.symm.trans hnamed)
  cases hmethM.symm.trans hmethM'
  obtain ⟨c2, r2, m2, q1, q2, q3, q4, kP, hkP, hkPi⟩ := Cond.selects_spec hsel
  cases hcls.symm.trans q1
  cases (State.methodFound?_of_named hnamed hy).symm.trans q2
  cases hnamed.symm.trans q3
  have hselP : selectMethod e.platform s.vm cellB.cls mk = .method mk := by rw [Launch.admits_selectMethod X.admits]; exact q4
  obtain ⟨vm₁, X₁, hstep₁⟩ := X.invokevirtual hexec hown hlink hnamed hmethM hstM hkP hkPi hy (a := b) (cell := cellB) hcell
    (fun z h => by rw [h] at hobj; cases hobj) hselP hmethM habM hkP hkPi (g := g) hg (argsL := argsL) (rest := rest) (hlen _ hsigM) hstack hdg
  obtain ⟨v, B, X', hpost, hsteps⟩ := hK m meth c ⟨T.setVm vm₁, locs, cells, slots⟩ { g with stack := rest } (.invokevirtual index) mk (Value.ref b :: argsL).toArray X₁ hg hsize hdg hW (X₁.named hnamed) (hpre vm₁ X₁.warmed)
  exact ⟨v, vm₁, B, X₁.warmed, X', hpost, fun target h => hstep₁ _ fun acts => by rw [doInvoke_state]; exact hsteps.trans h⟩
abbrev vx_CVW (R : Room) (s : State) (args : Array Value) (own C : String) (index : Nat) (y : MethodName) (bytes : ByteArray) (maxL : Nat) (ret : Option FieldType) (hh : List (Nat × Nat × Nat × Nat)) (ws : List Cond) (rm : Room) (mc ms n : Nat) : Prop :=
  (rm.cells = mc ∧ rm.slots = ms ∧ rm.frames + 1 ≤ R.frames ∧ 8 + (maxL + 11) + rm.locals ≤ R.locals ∧ (∀ w ∈ ws, ∀ (a' : Array Value) (U : State), s.WarmedH U.vm → w.before a' U = true) ∧ Cond.codeWith y bytes maxL ret hh ∈ ws) ∧
  (Cond.codeWith y bytes maxL ret hh).before args s = true ∧ (Cond.initialized y.cls).before args s = true ∧ (y.cls ≠ "java/lang/invoke/MethodHandle" ∧ y.cls ≠ "java/lang/invoke/VarHandle") ∧
  (∀ sig, parseMethodDescriptor y.desc = some sig → n = sig.parameters.length) ∧ (Cond.methodLink own index y).before args s = true ∧ (Cond.instanceMethod y).before args s = true ∧ (Cond.selects C y y).before args s = true
theorem vx_cwVW {own C : String} {index maxL mc ms : Nat} {y : MethodName} {bytes : ByteArray} {ret : Option FieldType} {hh : List (Nat × Nat × Nat × Nat)} {Ts ws ws' : List Cond} {rm : Room} (n : Nat) (ht : ∀ w ∈ Ts, w.before args s = true) (hT : GoodIn Ts (wsV own index C y ws)) (hw : ws = Cond.codeWith y bytes maxL ret hh :: ws') (hrc : rm.cells = mc) (hrs : rm.slots = ms)
    (hd : y.cls = C ∧ y.cls ≠ "java/lang/invoke/MethodHandle" ∧ y.cls ≠ "java/lang/invoke/VarHandle" ∧ (parseMethodDescriptor y.desc).map (fun d => d.parameters.length) = some n) (hR : rm.frames + 1 ≤ R.frames ∧ 8 + (maxL + 11) + rm.locals ≤ R.locals) :
    vx_CVW R s args own C index y bytes maxL ret hh ws rm mc ms n := by
  obtain ⟨hC, hd⟩ := hd
  subst hC
  have ok : ∀ w ∈ wsV own index y.cls y ws, w.before args s = true := fun w h => ht w (hT w h).1
  have hG : GoodIn Ts ws := fun w h => hT w (by unfold wsV; exact List.mem_append_right _ h)
  have hc : Cond.codeWith y bytes maxL ret hh ∈ ws := by rw [hw]; exact List.mem_cons_self
  refine ⟨⟨hrc, hrs, hR.1, hR.2, pay_in ht hG, hc⟩, ht _ (hG _ hc).1, ok _ (by simp [wsV]), ⟨hd.1, hd.2.1⟩, fun sig h => ?_, ok _ (by simp [wsV]), ok _ (by simp [wsV]), ok _ (by simp [wsV])⟩
  have h2 := hd.2.2
  rw [h] at h2
  exact (Option.some.inj h2).symm
theorem vx_runVW {y : MethodName} {bytes cc : ByteArray} {maxL nL mc ms n index : Nat} {ret : Option FieldType} {hh : List (Nat × Nat × Nat × Nat)} {ws : List Cond} {rm : Room} {Pc : Array Value → State → Prop} {Qc : Array Value → State → Outcome → State → Prop} {free : Addr → Prop} {Ts : List Cond} {own C : String} {b : Addr} {As rest : List Value} {g : JFrame}
    (S : CallFix p m c cc nL s args Ts own) (hM : Met l y ws rm Pc Qc mc ms free) (cw : vx_CVW R s args own C index y bytes maxL ret hh ws rm mc ms n) (hp : PreV s H C b Pc As)
    (hg : g.method = m) (hn : As.length = n) (hsize : g.locals.size = nL) (hstack : g.stack = As.reverse ++ .ref b :: rest) (hW : 2 * g.monitorRoom + (rest.map fun v => v.category).sum ≤ 8) (hdg : decode cc g.pc = .ok (.invokevirtual index, 3)) (hf : cells + mc ≤ R.cells ∧ slots + ms ≤ R.slots) :
    va_Run p l e R s m args below meth c H locs cells slots mc ms g rest (Qc (Value.ref b :: As).toArray) free := by
  obtain ⟨⟨hrc, hrs, hfr, hlo, hws, hcw⟩, hcode, hini, hy, hlen, hl, hin, hse⟩ := cw
  have hK : Back l R p e below s args y 3 8 (PreOf R mc ms Pc) (PostOf Qc mc ms free) := va_backW (hh := hh) (bytes := bytes) (maxL := maxL) (ret := ret) hM hp.1 hrc hrs hfr hlo hws hcw (fun a' U hW => word_at hW (Or.inl (by first | rfl | simp [Cond.onTables, Cond.keeps, Cond.steady])) hini)
  obtain ⟨hx, hb, hml, ho, -⟩ := S
  obtain ⟨-, ⟨cellB, hcB, hoB, hclB⟩, hPc⟩ := hp
  intro T hT X
  obtain ⟨v, vm₁, ⟨U', l2, c2, s2⟩, hW₁, X', ⟨g', mk, t, L, e1, e2, hq, h1, hL, h2, h3⟩, st⟩ := vx_callVW X hx (C := C) (hh := hh) (bytes := bytes) (maxL := maxL) (ret := ret) ho hl hin hse hcode hy hK (by rw [hT]; exact hcB) hoB hclB hg (hsize.trans hml.symm) (argsL := As) (rest := rest) (fun sig h => hn.trans (hlen sig h)) hstack hW (by rw [hb]; exact hdg)
    (fun vm₁ hW₁ => ⟨hf.1, hf.2, hPc (T.setVm vm₁) hT hW₁⟩)
  dsimp only [Pt.U, Pt.locs, Pt.cells, Pt.slots] at X' e1 e2 h1 h2 h3 st
  subst h1; subst h2; subst h3
  exact ⟨v, (T.setVm vm₁).calling g' mk (Value.ref b :: As).toArray, t, U', L, hT, X', hL, e1, e2, hq, st⟩
section
variable {y : MethodName} {bytes cc : ByteArray} {maxL nL mc ms n index : Nat} {ret : Option FieldType} {ws : List Cond} {rm : Room} {Pc : Array Value → State → Prop} {Qc : Array Value → State → Outcome → State → Prop} {XC : String → State → State → Prop} {free : Addr → Prop} {Ts : List Cond} {own C : String} {b : Addr} {As rest : List Value} {g : JFrame}
theorem vx_runVX {hh : List (Nat × Nat × Nat × Nat)} (S : CallFix p m c cc nL s args Ts own) (hM : vx_Met l y ws rm Pc Qc XC mc ms free) (cw : vx_CVW R s args own C index y bytes maxL ret hh ws rm mc ms n) (hp : PreV s H C b Pc As)
    (hg : g.method = m) (hn : As.length = n) (hsize : g.locals.size = nL) (hstack : g.stack = As.reverse ++ .ref b :: rest) (hW : 2 * g.monitorRoom + (rest.map fun v => v.category).sum ≤ 8) (hdg : decode cc g.pc = .ok (.invokevirtual index, 3)) (hf : cells + mc ≤ R.cells ∧ slots + ms ≤ R.slots) :
    vx_Run p l e R s m args below meth c H locs cells slots mc ms g rest (Qc (Value.ref b :: As).toArray) XC free := by
  obtain ⟨⟨hrc, hrs, hfr, hlo, hws, hcw⟩, hcode, hini, hy, hlen, hl, hin, hse⟩ := cw
  have hK : vx_Back l R p e below s args y 3 8 (PreOf R mc ms Pc) (PostOf Qc mc ms free) (vx_Post XC mc ms free) := vx_backW (hh := hh) (bytes := bytes) (maxL := maxL) (ret := ret) hM hp.1 hrc hrs hfr hlo hws hcw (fun a' U hW => word_at hW (Or.inl (by first | rfl | simp [Cond.onTables, Cond.keeps, Cond.steady])) hini)
  obtain ⟨hx, hb, hml, ho, -⟩ := S
  obtain ⟨-, ⟨cellB, hcB, hoB, hclB⟩, hPc⟩ := hp
  intro T hT X
  rcases vx_callVX X hx (C := C) (hh := hh) (bytes := bytes) (maxL := maxL) (ret := ret) ho hl hin hse hcode hy hK (by rw [hT]; exact hcB) hoB hclB hg (hsize.trans hml.symm) (argsL := As) (rest := rest) (fun sig h => hn.trans (hlen sig h)) hstack hW (by rw [hb]; exact hdg)
    (fun vm₁ hW₁ => ⟨hf.1, hf.2, hPc (T.setVm vm₁) hT hW₁⟩) with ⟨v, vm₁, ⟨U', l2, c2, s2⟩, hW₁, X', ⟨g', mk, t, L, e1, e2, hq, h1, hL, h2, h3⟩, st⟩ | ⟨q, vm₁, ⟨U', l2, c2, s2⟩, hW₁, X', ⟨g', mk, t, L, E, ce, e1, e2, hq, hce, hcv, hcl, h1, hL, h2, h3⟩, st⟩
  · dsimp only [Pt.U, Pt.locs, Pt.cells, Pt.slots] at X' e1 e2 h1 h2 h3 st
    subst h1; subst h2; subst h3
    exact Or.inl ⟨v, (T.setVm vm₁).calling g' mk (Value.ref b :: As).toArray, t, U', L, hT, X', hL, e1, e2, hq, st⟩
  · dsimp only [Pt.U, Pt.locs, Pt.cells, Pt.slots] at X' e1 e2 h1 h2 h3 st hcl
    subst h1; subst h2; subst h3
    exact Or.inr ⟨q, (T.setVm vm₁).calling g' mk (Value.ref b :: As).toArray, t, U', L, E, ce, hT, X', hL, e1, e2, hq, hce, hcv, vx_cls hW₁ hcl, st⟩
theorem vx_runSX {hh : List (Nat × Nat × Nat × Nat)} (S : CallFix p m c cc nL s args Ts own) (hM : vx_Met l y ws rm Pc Qc XC mc ms free) (cw : vx_CSW R s args own index y bytes maxL ret hh ws rm mc ms n) (hp : PreS s H Pc As)
    (hg : g.method = m) (hn : As.length = n) (hsize : g.locals.size = nL) (hstack : g.stack = As.reverse ++ rest) (hW : 2 * g.monitorRoom + (rest.map fun v => v.category).sum ≤ 8) (hdg : decode cc g.pc = .ok (.invokestatic index, 3)) (hf : cells + mc ≤ R.cells ∧ slots + ms ≤ R.slots) :
    vx_Run p l e R s m args below meth c H locs cells slots mc ms g rest (Qc As.toArray) XC free := by
  obtain ⟨⟨hrc, hrs, hfr, hlo, hws, hcw⟩, hcode, hini, hy, hlen, hl, hstt⟩ := cw
  have hK : vx_Back l R p e below s args y 3 8 (PreOf R mc ms Pc) (PostOf Qc mc ms free) (vx_Post XC mc ms free) := vx_backW (hh := hh) (bytes := bytes) (maxL := maxL) (ret := ret) hM hp.1 hrc hrs hfr hlo hws hcw (fun a' U hW => word_at hW (Or.inl (by first | rfl | simp [Cond.onTables, Cond.keeps, Cond.steady])) hini)
  obtain ⟨hx, hb, hml, ho, -⟩ := S
  intro T hT X
  rcases vx_callSX X hx (hh := hh) (bytes := bytes) (maxL := maxL) (ret := ret) ho hl hstt hini hcode hy hK hg (hsize.trans hml.symm) (argsL := As) (rest := rest) (fun sig h => hn.trans (hlen sig h)) hstack hW (by rw [hb]; exact hdg)
    (fun vm₁ hW₁ => ⟨hf.1, hf.2, hp.2 (T.setVm vm₁) hT hW₁⟩) with ⟨v, vm₁, ⟨U', l2, c2, s2⟩, hW₁, X', ⟨g', mk, t, L, e1, e2, hq, h1, hL, h2, h3⟩, st⟩ | ⟨q, vm₁, ⟨U', l2, c2, s2⟩, hW₁, X', ⟨g', mk, t, L, E, ce, e1, e2, hq, hce, hcv, hcl, h1, hL, h2, h3⟩, st⟩
  · dsimp only [Pt.U, Pt.locs, Pt.cells, Pt.slots] at X' e1 e2 h1 h2 h3 st
    subst h1; subst h2; subst h3
    exact Or.inl ⟨v, (T.setVm vm₁).calling g' mk As.toArray, t, U', L, hT, X', hL, e1, e2, hq, st⟩
  · dsimp only [Pt.U, Pt.locs, Pt.cells, Pt.slots] at X' e1 e2 h1 h2 h3 st hcl
    subst h1; subst h2; subst h3
    exact Or.inr ⟨q, (T.setVm vm₁).calling g' mk As.toArray, t, U', L, E, ce, hT, X', hL, e1, e2, hq, hce, hcv, vx_cls hW₁ hcl, st⟩
end
end VXH
theorem vx_ofWH {l : Launch} {y : MethodName} {ws ws' : List Cond} {rm : Room} {Pc : Array Value → State → Prop} {Qc : Array Value → State → Outcome → State → Prop} {XC : String → State → State → Prop} {mc ms : Nat} {free : Addr → Prop} {cc : ByteArray} {maxL : Nat} {ret : Option FieldType} {hh : List (Nat × Nat × Nat × Nat)}
    (hy : plainName y.cls = true) (hw : ws = Cond.codeWith y cc maxL ret hh :: ws')
    (body : ∀ p e s m args below meth c s₁, BodyLoose p l y (headSpec ws rm) cc maxL ret e s m args below meth c s₁ → c.maxLocals = maxL → Pc args s →
      W p l e (headSpec ws rm).room s m args below meth c s.heap [] 0 0 (vx_MQ below Qc XC args s mc ms free) (entryFrame m args maxL)) : vx_Met l y ws rm Pc Qc XC mc ms free := by
  refine MetFree.of_bodyS (code := cc) (maxLocals := maxL) (ret := ret) hy ?_ ?_
  · intro args s m h hn
    obtain ⟨m9, meth, c, hn9, h1, h2, h3, h4, -, h5, h6, -⟩ := Cond.codeWith_spec (atoms_spec (ws := ws) h _ (by rw [hw]; exact List.mem_cons_self))
    cases hn.symm.trans hn9
    exact ⟨meth, c, h1, h2, h3, h4, h5, h6⟩
  · intro p e s m args below meth c s₁ B hml hP _
    have hh0 : s₁.heap = s.heap := by rw [B.state]; rfl
    obtain ⟨t, a1, o, b1, b2, b3⟩ := body p e s m args below meth c s₁ B hml hP s₁ hh0 (Stand.of_body B)
    exact ⟨t, o, a1, b1, b2, b3⟩
/-! ===== END ===== -/
end
section
/-! ===== BEGIN printed: names, fields, word lists, decode rows ===== -/
def RX0 : String := "HatWorks$Blocks"
def TX0 : u_T := fun k => match k with
  | 0 => ("HatWorks$Blocks", "rings", "[[I", true)
  | 1 => ("HatWorks$Blocks", "wears", "[[I", true)
  | 2 => ("HatWorks$Blocks", "freeFrom", "[I", true)
  | 3 => ("HatWorks$Blocks", "latest", "[I", true)
  | _ => ("HatWorks$Blocks", "size", "I", false)
def tyX0 : Nat → FieldType := fun k => match k with
  | 0 => .array (.array .int)
  | 1 => .array (.array .int)
  | 2 => .array .int
  | 3 => .array .int
  | _ => .int
abbrev wsX00 : List Cond := u_ws RX0 TX0 5
theorem nmX0 : ∀ a, a < 5 → ∀ b, b < 5 → a ≠ b → (TX0 a).2.1 ≠ (TX0 b).2.1 := by decide +kernel
theorem tyX0_ok : ∀ k, k < 5 → parseFieldDescriptor (TX0 k).2.2.1 = some (tyX0 k) := by decide +kernel
abbrev cX0_init : ByteArray := prog_2_method_1_code
def yX0_init : MethodName := ⟨RX0, "<init>", "()V"⟩
abbrev cX0_add : ByteArray := prog_2_method_2_code
def yX0_add : MethodName := ⟨RX0, "add", "([I)I"⟩
abbrev cX0_misfitOf : ByteArray := prog_2_method_3_code
def yX0_misfitOf : MethodName := ⟨RX0, "misfitOf", "([III)I"⟩
abbrev cX0_match : ByteArray := prog_2_method_4_code
def yX0_match : MethodName := ⟨RX0, "match", "([I[I)V"⟩
def RX1 : String := "HatWorks$Planner"
def TX1 : u_T := fun k => match k with
  | 0 => ("HatWorks$Planner", "numbers", "[I", true)
  | 1 => ("HatWorks$Planner", "onBlock", "[I", true)
  | 2 => ("HatWorks$Planner", "steams", "[I", true)
  | 3 => ("HatWorks$Planner", "ons", "[I", true)
  | 4 => ("HatWorks$Planner", "weights", "[I", true)
  | 5 => ("HatWorks$Planner", "gone", "[Z", true)
  | 6 => ("HatWorks$Planner", "tried", "[I", true)
  | 7 => ("HatWorks$Planner", "best", "[I", true)
  | 8 => ("HatWorks$Planner", "blockFree", "[I", true)
  | 9 => ("HatWorks$Planner", "minute", "I", false)
  | 10 => ("HatWorks$Planner", "leastCost", "J", false)
  | _ => ("HatWorks$Planner", "size", "I", false)
def tyX1 : Nat → FieldType := fun k => match k with
  | 0 => .array .int
  | 1 => .array .int
  | 2 => .array .int
  | 3 => .array .int
  | 4 => .array .int
  | 5 => .array .boolean
  | 6 => .array .int
  | 7 => .array .int
  | 8 => .array .int
  | 9 => .int
  | 10 => .long
  | _ => .int
abbrev wsX10 : List Cond := u_ws RX1 TX1 12
theorem nmX1 : ∀ a, a < 12 → ∀ b, b < 12 → a ≠ b → (TX1 a).2.1 ≠ (TX1 b).2.1 := by decide +kernel
theorem tyX1_ok : ∀ k, k < 12 → parseFieldDescriptor (TX1 k).2.2.1 = some (tyX1 k) := by decide +kernel
abbrev cX1_init : ByteArray := prog_3_method_1_code
def yX1_init : MethodName := ⟨RX1, "<init>", "()V"⟩
abbrev cX1_clear : ByteArray := prog_3_method_2_code
def yX1_clear : MethodName := ⟨RX1, "clear", "(I[I)V"⟩
abbrev cX1_add : ByteArray := prog_3_method_3_code
def yX1_add : MethodName := ⟨RX1, "add", "(I[I)V"⟩
abbrev cX1_search : ByteArray := prog_3_method_4_code
def yX1_search : MethodName := ⟨RX1, "search", "(I)V"⟩
abbrev cX1_bestCost : ByteArray := prog_3_method_5_code
def yX1_bestCost : MethodName := ⟨RX1, "bestCost", "()J"⟩
abbrev cX1_bestAt : ByteArray := prog_3_method_6_code
def yX1_bestAt : MethodName := ⟨RX1, "bestAt", "(I)I"⟩
abbrev cX1_tryAll : ByteArray := prog_3_method_7_code
def yX1_tryAll : MethodName := ⟨RX1, "tryAll", "(IIJ)V"⟩
abbrev cX1_tryNext : ByteArray := prog_3_method_8_code
def yX1_tryNext : MethodName := ⟨RX1, "tryNext", "(IIIJ)V"⟩
abbrev cX1_keepTried : ByteArray := prog_3_method_9_code
def yX1_keepTried : MethodName := ⟨RX1, "keepTried", "(J)V"⟩
def RX2 : String := "HatWorks$Tape"
def TX2 : u_T := fun k => match k with
  | 0 => ("HatWorks$Tape", "bytes", "[B", true)
  | 1 => ("HatWorks$Tape", "parts", "[I", true)
  | 2 => ("HatWorks$Tape", "length", "I", false)
  | 3 => ("HatWorks$Tape", "at", "I", false)
  | 4 => ("HatWorks$Tape", "fault", "I", false)
  | 5 => ("HatWorks$Tape", "faultPlace", "I", false)
  | _ => ("HatWorks$Tape", "size", "I", false)
def tyX2 : Nat → FieldType := fun k => match k with
  | 0 => .array .byte
  | 1 => .array .int
  | 2 => .int
  | 3 => .int
  | 4 => .int
  | 5 => .int
  | _ => .int
abbrev wsX20 : List Cond := u_ws RX2 TX2 7
theorem nmX2 : ∀ a, a < 7 → ∀ b, b < 7 → a ≠ b → (TX2 a).2.1 ≠ (TX2 b).2.1 := by decide +kernel
theorem tyX2_ok : ∀ k, k < 7 → parseFieldDescriptor (TX2 k).2.2.1 = some (tyX2 k) := by decide +kernel
abbrev cX2_init : ByteArray := prog_4_method_1_code
def yX2_init : MethodName := ⟨RX2, "<init>", "()V"⟩
abbrev cX2_take : ByteArray := prog_4_method_2_code
def yX2_take : MethodName := ⟨RX2, "take", "(I)V"⟩
abbrev cX2_readHat : ByteArray := prog_4_method_3_code
def yX2_readHat : MethodName := ⟨RX2, "readHat", "(I)I"⟩
abbrev cX2_price : ByteArray := prog_4_method_4_code
def yX2_price : MethodName := ⟨RX2, "price", "()I"⟩
abbrev cX2_steamMinutes : ByteArray := prog_4_method_5_code
def yX2_steamMinutes : MethodName := ⟨RX2, "steamMinutes", "()I"⟩
abbrev cX2_onMinutes : ByteArray := prog_4_method_6_code
def yX2_onMinutes : MethodName := ⟨RX2, "onMinutes", "()I"⟩
abbrev cX2_valueOf : ByteArray := prog_4_method_7_code
def yX2_valueOf : MethodName := ⟨RX2, "valueOf", "(I)I"⟩
abbrev cX2_startReading : ByteArray := prog_4_method_8_code
def yX2_startReading : MethodName := ⟨RX2, "startReading", "(I)V"⟩
abbrev cX2_blame : ByteArray := prog_4_method_9_code
def yX2_blame : MethodName := ⟨RX2, "blame", "(II)V"⟩
abbrev cX2_readPart : ByteArray := prog_4_method_10_code
def yX2_readPart : MethodName := ⟨RX2, "readPart", "()Z"⟩
abbrev cX2_readComma : ByteArray := prog_4_method_11_code
def yX2_readComma : MethodName := ⟨RX2, "readComma", "()Z"⟩
abbrev cX2_skipBlanks : ByteArray := prog_4_method_12_code
def yX2_skipBlanks : MethodName := ⟨RX2, "skipBlanks", "()V"⟩
abbrev cX2_skipLetters : ByteArray := prog_4_method_13_code
def yX2_skipLetters : MethodName := ⟨RX2, "skipLetters", "()V"⟩
abbrev cX2_readNumber : ByteArray := prog_4_method_14_code
def yX2_readNumber : MethodName := ⟨RX2, "readNumber", "()I"⟩
abbrev cX2_partNamed : ByteArray := prog_4_method_15_code
def yX2_partNamed : MethodName := ⟨RX2, "partNamed", "(I)I"⟩
abbrev cX2_isWord : ByteArray := prog_4_method_16_code
def yX2_isWord : MethodName := ⟨RX2, "isWord", "(Ljava/lang/String;I)Z"⟩
abbrev cX2_nameOf : ByteArray := prog_4_method_17_code
def yX2_nameOf : MethodName := ⟨RX2, "nameOf", "(I)Ljava/lang/String;"⟩
def RX3 : String := "HatWorks"
def TX3 : u_T := fun k => match k with
  | 0 => ("HatWorks", "hand", "[I", true)
  | 1 => ("HatWorks", "tape", "LHatWorks$Tape;", true)
  | 2 => ("HatWorks", "blocks", "LHatWorks$Blocks;", true)
  | 3 => ("HatWorks", "orders", "[[I", true)
  | 4 => ("HatWorks", "planner", "LHatWorks$Planner;", true)
  | 5 => ("HatWorks", "handSize", "I", false)
  | 6 => ("HatWorks", "orderCount", "I", false)
  | 7 => ("HatWorks", "now", "I", false)
  | 8 => ("HatWorks", "steamerFree", "I", false)
  | 9 => ("HatWorks", "steamerLatest", "I", false)
  | 10 => ("HatWorks", "faultPlace", "I", false)
  | _ => ("HatWorks", "bestStands", "Z", false)
def tyX3 : Nat → FieldType := fun k => match k with
  | 0 => .array .int
  | 1 => .object "HatWorks$Tape"
  | 2 => .object "HatWorks$Blocks"
  | 3 => .array (.array .int)
  | 4 => .object "HatWorks$Planner"
  | 5 => .int
  | 6 => .int
  | 7 => .int
  | 8 => .int
  | 9 => .int
  | 10 => .int
  | _ => .boolean
abbrev wsX30 : List Cond := u_ws RX3 TX3 12
theorem nmX3 : ∀ a, a < 12 → ∀ b, b < 12 → a ≠ b → (TX3 a).2.1 ≠ (TX3 b).2.1 := by decide +kernel
theorem tyX3_ok : ∀ k, k < 12 → parseFieldDescriptor (TX3 k).2.2.1 = some (tyX3 k) := by decide +kernel
abbrev cX3_init : ByteArray := prog_1_method_1_code
def yX3_init : MethodName := ⟨RX3, "<init>", "()V"⟩
abbrev cX3_push : ByteArray := prog_1_method_2_code
def yX3_push : MethodName := ⟨RX3, "push", "(I)I"⟩
abbrev cX3_block : ByteArray := prog_1_method_3_code
def yX3_block : MethodName := ⟨RX3, "block", "()I"⟩
abbrev cX3_feed : ByteArray := prog_1_method_4_code
def yX3_feed : MethodName := ⟨RX3, "feed", "(IIIII)I"⟩
abbrev cX3_order : ByteArray := prog_1_method_5_code
def yX3_order : MethodName := ⟨RX3, "order", "(III)I"⟩
abbrev cX3_fault : ByteArray := prog_1_method_6_code
def yX3_fault : MethodName := ⟨RX3, "fault", "()I"⟩
abbrev cX3_misfit : ByteArray := prog_1_method_7_code
def yX3_misfit : MethodName := ⟨RX3, "misfit", "(II)I"⟩
abbrev cX3_told : ByteArray := prog_1_method_8_code
def yX3_told : MethodName := ⟨RX3, "told", "(II)I"⟩
abbrev cX3_go : ByteArray := prog_1_method_9_code
def yX3_go : MethodName := ⟨RX3, "go", "(I)I"⟩
abbrev cX3_wait : ByteArray := prog_1_method_10_code
def yX3_wait : MethodName := ⟨RX3, "wait", "(I)I"⟩
abbrev cX3_plan : ByteArray := prog_1_method_11_code
def yX3_plan : MethodName := ⟨RX3, "plan", "()J"⟩
abbrev cX3_planned : ByteArray := prog_1_method_12_code
def yX3_planned : MethodName := ⟨RX3, "planned", "(I)I"⟩
abbrev cX3_run : ByteArray := prog_1_method_13_code
def yX3_run : MethodName := ⟨RX3, "run", "()I"⟩
abbrev cX3_late : ByteArray := prog_1_method_14_code
def yX3_late : MethodName := ⟨RX3, "late", "(I)I"⟩
abbrev cX3_fit : ByteArray := prog_1_method_15_code
def yX3_fit : MethodName := ⟨RX3, "fit", "(II)I"⟩
abbrev cX3_wear : ByteArray := prog_1_method_16_code
def yX3_wear : MethodName := ⟨RX3, "wear", "(II)I"⟩
abbrev cX3_count : ByteArray := prog_1_method_17_code
def yX3_count : MethodName := ⟨RX3, "count", "(I)I"⟩
abbrev cX3_checkBlock : ByteArray := prog_1_method_18_code
def yX3_checkBlock : MethodName := ⟨RX3, "checkBlock", "(I)V"⟩
abbrev cX3_checkOrder : ByteArray := prog_1_method_19_code
def yX3_checkOrder : MethodName := ⟨RX3, "checkOrder", "(I)V"⟩
abbrev cX3_checkOrderArguments : ByteArray := prog_1_method_20_code
def yX3_checkOrderArguments : MethodName := ⟨RX3, "checkOrderArguments", "(III)V"⟩
abbrev cX3_addOrder : ByteArray := prog_1_method_21_code
def yX3_addOrder : MethodName := ⟨RX3, "addOrder", "(II)I"⟩
abbrev cX3_isWaiting : ByteArray := prog_1_method_22_code
def yX3_isWaiting : MethodName := ⟨RX3, "isWaiting", "(I)Z"⟩
abbrev cX3_isDone : ByteArray := prog_1_method_23_code
def yX3_isDone : MethodName := ⟨RX3, "isDone", "(I)Z"⟩
abbrev cX3_stateOf : ByteArray := prog_1_method_24_code
def yX3_stateOf : MethodName := ⟨RX3, "stateOf", "(I)I"⟩
abbrev cX3_isLate : ByteArray := prog_1_method_25_code
def yX3_isLate : MethodName := ⟨RX3, "isLate", "(I)Z"⟩
abbrev cX3_countWaiting : ByteArray := prog_1_method_26_code
def yX3_countWaiting : MethodName := ⟨RX3, "countWaiting", "()I"⟩
abbrev cX3_startOf : ByteArray := prog_1_method_27_code
def yX3_startOf : MethodName := ⟨RX3, "startOf", "(IIII)I"⟩
abbrev cX3_send : ByteArray := prog_1_method_28_code
def yX3_send : MethodName := ⟨RX3, "send", "(I)I"⟩
abbrev cX3_holderOf : ByteArray := prog_1_method_29_code
def yX3_holderOf : MethodName := ⟨RX3, "holderOf", "(II)I"⟩
abbrev cX3_findBest : ByteArray := prog_1_method_30_code
def yX3_findBest : MethodName := ⟨RX3, "findBest", "()V"⟩
def RX4 : String := "HatWorksModel"
def TX4 : u_T := fun k => match k with
  | 0 => ("HatWorksModel", "thrown", "I", false)
  | 1 => ("HatWorksModel", "hand", "[I", true)
  | 2 => ("HatWorksModel", "handMany", "I", false)
  | 3 => ("HatWorksModel", "rings", "[I", true)
  | 4 => ("HatWorksModel", "blocks", "I", false)
  | 5 => ("HatWorksModel", "tape", "[B", true)
  | 6 => ("HatWorksModel", "taped", "I", false)
  | 7 => ("HatWorksModel", "size", "I", false)
  | 8 => ("HatWorksModel", "at", "I", false)
  | 9 => ("HatWorksModel", "fault", "I", false)
  | 10 => ("HatWorksModel", "place", "I", false)
  | 11 => ("HatWorksModel", "part", "[I", true)
  | 12 => ("HatWorksModel", "has", "[Z", true)
  | 13 => ("HatWorksModel", "now", "I", false)
  | 14 => ("HatWorksModel", "orders", "I", false)
  | 15 => ("HatWorksModel", "steamer", "I", false)
  | 16 => ("HatWorksModel", "lastSteam", "I", false)
  | 17 => ("HatWorksModel", "blockFree", "[I", true)
  | 18 => ("HatWorksModel", "lastOn", "[I", true)
  | 19 => ("HatWorksModel", "order", "[I", true)
  | 20 => ("HatWorksModel", "fits", "[I", true)
  | 21 => ("HatWorksModel", "isTold", "[Z", true)
  | 22 => ("HatWorksModel", "of", "[I", true)
  | 23 => ("HatWorksModel", "row", "[I", true)
  | 24 => ("HatWorksModel", "best", "[I", true)
  | 25 => ("HatWorksModel", "free", "[I", true)
  | 26 => ("HatWorksModel", "many", "I", false)
  | _ => ("HatWorksModel", "bestCost", "J", false)
def tyX4 : Nat → FieldType := fun k => match k with
  | 0 => .int
  | 1 => .array .int
  | 2 => .int
  | 3 => .array .int
  | 4 => .int
  | 5 => .array .byte
  | 6 => .int
  | 7 => .int
  | 8 => .int
  | 9 => .int
  | 10 => .int
  | 11 => .array .int
  | 12 => .array .boolean
  | 13 => .int
  | 14 => .int
  | 15 => .int
  | 16 => .int
  | 17 => .array .int
  | 18 => .array .int
  | 19 => .array .int
  | 20 => .array .int
  | 21 => .array .boolean
  | 22 => .array .int
  | 23 => .array .int
  | 24 => .array .int
  | 25 => .array .int
  | 26 => .int
  | _ => .long
abbrev wsX40 : List Cond := u_ws RX4 TX4 28
theorem nmX4 : ∀ a, a < 28 → ∀ b, b < 28 → a ≠ b → (TX4 a).2.1 ≠ (TX4 b).2.1 := by decide +kernel
theorem tyX4_ok : ∀ k, k < 28 → parseFieldDescriptor (TX4 k).2.2.1 = some (tyX4 k) := by decide +kernel
abbrev cX4_init : ByteArray := prog_6_method_1_code
def yX4_init : MethodName := ⟨RX4, "<init>", "()V"⟩
abbrev cX4_thrown : ByteArray := prog_6_method_2_code
def yX4_thrown : MethodName := ⟨RX4, "thrown", "()I"⟩
abbrev cX4_bad : ByteArray := prog_6_method_3_code
def yX4_bad : MethodName := ⟨RX4, "bad", "(ZI)Z"⟩
abbrev cX4_push : ByteArray := prog_6_method_4_code
def yX4_push : MethodName := ⟨RX4, "push", "(I)I"⟩
abbrev cX4_block : ByteArray := prog_6_method_5_code
def yX4_block : MethodName := ⟨RX4, "block", "()I"⟩
abbrev cX4_misfitOf : ByteArray := prog_6_method_6_code
def yX4_misfitOf : MethodName := ⟨RX4, "misfitOf", "(II)I"⟩
abbrev cX4_isBlock : ByteArray := prog_6_method_7_code
def yX4_isBlock : MethodName := ⟨RX4, "isBlock", "(I)Z"⟩
abbrev cX4_misfit : ByteArray := prog_6_method_8_code
def yX4_misfit : MethodName := ⟨RX4, "misfit", "(II)I"⟩
abbrev cX4_feed : ByteArray := prog_6_method_9_code
def yX4_feed : MethodName := ⟨RX4, "feed", "(IIIII)I"⟩
abbrev cX4_byteAt : ByteArray := prog_6_method_10_code
def yX4_byteAt : MethodName := ⟨RX4, "byteAt", "(I)I"⟩
abbrev cX4_blanks : ByteArray := prog_6_method_11_code
def yX4_blanks : MethodName := ⟨RX4, "blanks", "()V"⟩
abbrev cX4_isSmall : ByteArray := prog_6_method_12_code
def yX4_isSmall : MethodName := ⟨RX4, "isSmall", "(I)Z"⟩
abbrev cX4_isDigit : ByteArray := prog_6_method_13_code
def yX4_isDigit : MethodName := ⟨RX4, "isDigit", "(I)Z"⟩
abbrev cX4_wrong : ByteArray := prog_6_method_14_code
def yX4_wrong : MethodName := ⟨RX4, "wrong", "(II)V"⟩
abbrev cX4_partName : ByteArray := prog_6_method_15_code
def yX4_partName : MethodName := ⟨RX4, "partName", "(I)Ljava/lang/String;"⟩
abbrev cX4_isWord : ByteArray := prog_6_method_16_code
def yX4_isWord : MethodName := ⟨RX4, "isWord", "(Ljava/lang/String;)Z"⟩
abbrev cX4_readPart : ByteArray := prog_6_method_17_code
def yX4_readPart : MethodName := ⟨RX4, "readPart", "()V"⟩
abbrev cX4_readHat : ByteArray := prog_6_method_18_code
def yX4_readHat : MethodName := ⟨RX4, "readHat", "()V"⟩
abbrev cX4_order : ByteArray := prog_6_method_19_code
def yX4_order : MethodName := ⟨RX4, "order", "(III)I"⟩
abbrev cX4_fault : ByteArray := prog_6_method_20_code
def yX4_fault : MethodName := ⟨RX4, "fault", "()I"⟩
abbrev cX4_isOrder : ByteArray := prog_6_method_21_code
def yX4_isOrder : MethodName := ⟨RX4, "isOrder", "(I)Z"⟩
abbrev cX4_waits : ByteArray := prog_6_method_22_code
def yX4_waits : MethodName := ⟨RX4, "waits", "(I)Z"⟩
abbrev cX4_told : ByteArray := prog_6_method_23_code
def yX4_told : MethodName := ⟨RX4, "told", "(II)I"⟩
abbrev cX4_goes : ByteArray := prog_6_method_24_code
def yX4_goes : MethodName := ⟨RX4, "goes", "(I)I"⟩
abbrev cX4_go : ByteArray := prog_6_method_25_code
def yX4_go : MethodName := ⟨RX4, "go", "(I)I"⟩
abbrev cX4_wait : ByteArray := prog_6_method_26_code
def yX4_wait : MethodName := ⟨RX4, "wait", "(I)I"⟩
abbrev cX4_costOf : ByteArray := prog_6_method_27_code
def yX4_costOf : MethodName := ⟨RX4, "costOf", "()J"⟩
abbrev cX4_isUsed : ByteArray := prog_6_method_28_code
def yX4_isUsed : MethodName := ⟨RX4, "isUsed", "(II)Z"⟩
abbrev cX4_plans : ByteArray := prog_6_method_29_code
def yX4_plans : MethodName := ⟨RX4, "plans", "()V"⟩
abbrev cX4_plan : ByteArray := prog_6_method_30_code
def yX4_plan : MethodName := ⟨RX4, "plan", "()J"⟩
abbrev cX4_planned : ByteArray := prog_6_method_31_code
def yX4_planned : MethodName := ⟨RX4, "planned", "(I)I"⟩
abbrev cX4_run : ByteArray := prog_6_method_32_code
def yX4_run : MethodName := ⟨RX4, "run", "()I"⟩
abbrev cX4_late : ByteArray := prog_6_method_33_code
def yX4_late : MethodName := ⟨RX4, "late", "(I)I"⟩
abbrev cX4_fit : ByteArray := prog_6_method_34_code
def yX4_fit : MethodName := ⟨RX4, "fit", "(II)I"⟩
abbrev cX4_wear : ByteArray := prog_6_method_35_code
def yX4_wear : MethodName := ⟨RX4, "wear", "(II)I"⟩
abbrev cX4_count : ByteArray := prog_6_method_36_code
def yX4_count : MethodName := ⟨RX4, "count", "(I)I"⟩
def RJ9 : String := "java/lang/Math"
def TJ9 : u_T := fun k => match k with
  | _ => ("", "", "", false)
def tyJ9 : Nat → FieldType := fun k => match k with
  | _ => .int
abbrev wsJ90 : List Cond := u_ws RJ9 TJ9 0
theorem nmJ9 : ∀ a, a < 0 → ∀ b, b < 0 → a ≠ b → (TJ9 a).2.1 ≠ (TJ9 b).2.1 := by decide +kernel
theorem tyJ9_ok : ∀ k, k < 0 → parseFieldDescriptor (TJ9 k).2.2.1 = some (tyJ9 k) := by decide +kernel
abbrev cJ9_max_7cf53 : ByteArray := prog_11_method_65_code
def yJ9_max_7cf53 : MethodName := ⟨RJ9, "max", "(II)I"⟩
abbrev cJ9_min_7cf53 : ByteArray := prog_11_method_69_code
def yJ9_min_7cf53 : MethodName := ⟨RJ9, "min", "(II)I"⟩
def RJ0 : String := "java/lang/String"
def TJ0 : u_T := fun k => match k with
  | _ => ("", "", "", false)
def tyJ0 : Nat → FieldType := fun k => match k with
  | _ => .int
abbrev wsJ00 : List Cond := u_ws RJ0 TJ0 0
theorem nmJ0 : ∀ a, a < 0 → ∀ b, b < 0 → a ≠ b → (TJ0 a).2.1 ≠ (TJ0 b).2.1 := by decide +kernel
theorem tyJ0_ok : ∀ k, k < 0 → parseFieldDescriptor (TJ0 k).2.2.1 = some (tyJ0 k) := by decide +kernel
abbrev cJ0_length_8abf5 : ByteArray := prog_13_method_54_code
def yJ0_length_8abf5 : MethodName := ⟨RJ0, "length", "()I"⟩
abbrev cJ0_charAt_5068e : ByteArray := prog_13_method_56_code
def yJ0_charAt_5068e : MethodName := ⟨RJ0, "charAt", "(I)C"⟩
abbrev cJ0_coder_7d493 : ByteArray := prog_13_method_152_code
def yJ0_coder_7d493 : MethodName := ⟨RJ0, "coder", "()B"⟩
abbrev cJ0_isLatin1_aae02 : ByteArray := prog_13_method_154_code
def yJ0_isLatin1_aae02 : MethodName := ⟨RJ0, "isLatin1", "()Z"⟩
abbrev cJ0_checkIndex_df160 : ByteArray := prog_13_method_155_code
def yJ0_checkIndex_df160 : MethodName := ⟨RJ0, "checkIndex", "(II)V"⟩
def RJ1 : String := "java/lang/StringLatin1"
def TJ1 : u_T := fun k => match k with
  | _ => ("", "", "", false)
def tyJ1 : Nat → FieldType := fun k => match k with
  | _ => .int
abbrev wsJ10 : List Cond := u_ws RJ1 TJ1 0
theorem nmJ1 : ∀ a, a < 0 → ∀ b, b < 0 → a ≠ b → (TJ1 a).2.1 ≠ (TJ1 b).2.1 := by decide +kernel
theorem tyJ1_ok : ∀ k, k < 0 → parseFieldDescriptor (TJ1 k).2.2.1 = some (tyJ1 k) := by decide +kernel
abbrev cJ1_charAt_3b067 : ByteArray := prog_14_method_2_code
def yJ1_charAt_3b067 : MethodName := ⟨RJ1, "charAt", "([BI)C"⟩
def RJ2 : String := "java/lang/StringUTF16"
def TJ2 : u_T := fun k => match k with
  | _ => ("", "", "", false)
def tyJ2 : Nat → FieldType := fun k => match k with
  | _ => .int
abbrev wsJ20 : List Cond := u_ws RJ2 TJ2 0
theorem nmJ2 : ∀ a, a < 0 → ∀ b, b < 0 → a ≠ b → (TJ2 a).2.1 ≠ (TJ2 b).2.1 := by decide +kernel
theorem tyJ2_ok : ∀ k, k < 0 → parseFieldDescriptor (TJ2 k).2.2.1 = some (tyJ2 k) := by decide +kernel
abbrev cJ2_getChar_3b067 : ByteArray := prog_15_method_5_code
def yJ2_getChar_3b067 : MethodName := ⟨RJ2, "getChar", "([BI)C"⟩
abbrev cJ2_length_9d52b : ByteArray := prog_15_method_6_code
def yJ2_length_9d52b : MethodName := ⟨RJ2, "length", "([B)I"⟩
abbrev cJ2_charAt_3b067 : ByteArray := prog_15_method_83_code
def yJ2_charAt_3b067 : MethodName := ⟨RJ2, "charAt", "([BI)C"⟩
abbrev cJ2_checkIndex_2214a : ByteArray := prog_15_method_91_code
def yJ2_checkIndex_2214a : MethodName := ⟨RJ2, "checkIndex", "(I[B)V"⟩
def RJ3 : String := "jdk/internal/util/Preconditions"
def TJ3 : u_T := fun k => match k with
  | _ => ("", "", "", false)
def tyJ3 : Nat → FieldType := fun k => match k with
  | _ => .int
abbrev wsJ30 : List Cond := u_ws RJ3 TJ3 0
theorem nmJ3 : ∀ a, a < 0 → ∀ b, b < 0 → a ≠ b → (TJ3 a).2.1 ≠ (TJ3 b).2.1 := by decide +kernel
theorem tyJ3_ok : ∀ k, k < 0 → parseFieldDescriptor (TJ3 k).2.2.1 = some (tyJ3 k) := by decide +kernel
abbrev cJ3_checkIndex_8e157 : ByteArray := prog_17_method_11_code
def yJ3_checkIndex_8e157 : MethodName := ⟨RJ3, "checkIndex", "(IILjava/util/function/BiFunction;)I"⟩
def RL : String := "HatWorksLaw"
abbrev cL_push : ByteArray := method_3_code
def yL_push : MethodName := ⟨RL, "push", "(LHatWorks;I[J)I"⟩
abbrev cL_block : ByteArray := method_4_code
def yL_block : MethodName := ⟨RL, "block", "(LHatWorks;[J)I"⟩
abbrev cL_order : ByteArray := method_5_code
def yL_order : MethodName := ⟨RL, "order", "(LHatWorks;III[J)I"⟩
abbrev cL_misfit : ByteArray := method_6_code
def yL_misfit : MethodName := ⟨RL, "misfit", "(LHatWorks;II[J)I"⟩
abbrev cL_told : ByteArray := method_7_code
def yL_told : MethodName := ⟨RL, "told", "(LHatWorks;II[J)I"⟩
abbrev cL_go : ByteArray := method_8_code
def yL_go : MethodName := ⟨RL, "go", "(LHatWorks;I[J)I"⟩
abbrev cL_wait : ByteArray := method_9_code
def yL_wait : MethodName := ⟨RL, "wait", "(LHatWorks;I[J)I"⟩
abbrev cL_fit : ByteArray := method_10_code
def yL_fit : MethodName := ⟨RL, "fit", "(LHatWorks;II[J)I"⟩
abbrev cL_wear : ByteArray := method_11_code
def yL_wear : MethodName := ⟨RL, "wear", "(LHatWorks;II[J)I"⟩
abbrev cL_law : ByteArray := code
def yL_law : MethodName := ⟨RL, "law", "([I)Z"⟩
def wsX0_init : List Cond := .code yX0_init cX0_init 1 none :: ([.methodLink RX0 3 objectInit, .instanceMethod objectInit, .code objectInit ⟨#[0xb1]⟩ 1 none, .classLink RX0 9 "[[I", .arrayClass .int, .fieldLink RX0 11 "HatWorks$Blocks" "rings" "[[I", .fieldLink RX0 16 "HatWorks$Blocks" "wears" "[[I", .fieldLink RX0 19 "HatWorks$Blocks" "freeFrom" "[I", .fieldLink RX0 23 "HatWorks$Blocks" "latest" "[I", .fieldLink RX0 26 "HatWorks$Blocks" "size" "I"] ++ wsX00)
def wsX0_add : List Cond := .code yX0_add cX0_add 4 (some .int) :: ([.fieldLink RX0 26 "HatWorks$Blocks" "size" "I", .fieldLink RX0 11 "HatWorks$Blocks" "rings" "[[I", .fieldLink RX0 23 "HatWorks$Blocks" "latest" "[I"] ++ wsX00)
def wsX0_misfitOf : List Cond := .code yX0_misfitOf cX0_misfitOf 9 (some .int) :: ([.fieldLink RX0 11 "HatWorks$Blocks" "rings" "[[I"] ++ wsX00)
def wsX0_match : List Cond := .code yX0_match cX0_match 7 none :: ([.constant RX0 32 (2147483647), .fieldLink RX0 26 "HatWorks$Blocks" "size" "I", .methodLink RX0 33 yX0_misfitOf, .instanceMethod yX0_misfitOf, .selects RX0 yX0_misfitOf yX0_misfitOf, .initialized RX0, .code yX0_misfitOf cX0_misfitOf 9 (some .int), .fieldLink RX0 11 "HatWorks$Blocks" "rings" "[[I"] ++ wsX00)
def wsX1_init : List Cond := .code yX1_init cX1_init 1 none :: ([.methodLink RX1 3 objectInit, .instanceMethod objectInit, .code objectInit ⟨#[0xb1]⟩ 1 none, .arrayClass .int, .fieldLink RX1 9 "HatWorks$Planner" "numbers" "[I", .fieldLink RX1 15 "HatWorks$Planner" "onBlock" "[I", .fieldLink RX1 18 "HatWorks$Planner" "steams" "[I", .fieldLink RX1 21 "HatWorks$Planner" "ons" "[I", .fieldLink RX1 24 "HatWorks$Planner" "weights" "[I", .arrayClass .boolean, .fieldLink RX1 27 "HatWorks$Planner" "gone" "[Z", .fieldLink RX1 31 "HatWorks$Planner" "tried" "[I", .fieldLink RX1 34 "HatWorks$Planner" "best" "[I", .fieldLink RX1 37 "HatWorks$Planner" "blockFree" "[I", .fieldLink RX1 40 "HatWorks$Planner" "minute" "I", .fieldLink RX1 44 "HatWorks$Planner" "leastCost" "J", .fieldLink RX1 48 "HatWorks$Planner" "size" "I"] ++ wsX10)
def wsX1_clear : List Cond := .code yX1_clear cX1_clear 4 none :: ([.fieldLink RX1 40 "HatWorks$Planner" "minute" "I", .fieldLink RX1 48 "HatWorks$Planner" "size" "I", .fieldLink RX1 37 "HatWorks$Planner" "blockFree" "[I"] ++ wsX10)
def wsX1_add : List Cond := .code yX1_add cX1_add 3 none :: ([.fieldLink RX1 9 "HatWorks$Planner" "numbers" "[I", .fieldLink RX1 48 "HatWorks$Planner" "size" "I", .fieldLink RX1 15 "HatWorks$Planner" "onBlock" "[I", .fieldLink RX1 18 "HatWorks$Planner" "steams" "[I", .fieldLink RX1 21 "HatWorks$Planner" "ons" "[I", .fieldLink RX1 24 "HatWorks$Planner" "weights" "[I", .fieldLink RX1 27 "HatWorks$Planner" "gone" "[Z"] ++ wsX10)
def wsX1_keepTried : List Cond := .code yX1_keepTried cX1_keepTried 4 none :: ([.fieldLink RX1 44 "HatWorks$Planner" "leastCost" "J", .fieldLink RX1 48 "HatWorks$Planner" "size" "I", .fieldLink RX1 34 "HatWorks$Planner" "best" "[I", .fieldLink RX1 31 "HatWorks$Planner" "tried" "[I"] ++ wsX10)
def wsX3_startOf : List Cond := .code yX3_startOf cX3_startOf 4 (some .int) :: ([.methodLink RX3 182 Lib.Math.max.name, .static Lib.Math.max.name, .initialized "java/lang/Math", .code Lib.Math.max.name Lib.Math.max.code 2 (some .int)])
def wsX1_tryAll_r1 : List Cond := [Cond.fieldLink RX1 48 "HatWorks$Planner" "size" "I", Cond.fieldLink RX1 27 "HatWorks$Planner" "gone" "[Z", Cond.methodLink RX1 59 yX1_keepTried, Cond.instanceMethod yX1_keepTried, Cond.selects RX1 yX1_keepTried yX1_keepTried, Cond.initialized RX1, Cond.code yX1_keepTried cX1_keepTried 4 none, Cond.fieldLink RX1 44 "HatWorks$Planner" "leastCost" "J", Cond.fieldLink RX1 34 "HatWorks$Planner" "best" "[I", Cond.fieldLink RX1 31 "HatWorks$Planner" "tried" "[I", Cond.methodLink RX1 63 yX1_tryNext, Cond.instanceMethod yX1_tryNext, Cond.selects RX1 yX1_tryNext yX1_tryNext, Cond.code yX1_tryNext cX1_tryNext 12 none, Cond.fieldLink RX1 15 "HatWorks$Planner" "onBlock" "[I", Cond.fieldLink RX1 37 "HatWorks$Planner" "blockFree" "[I", Cond.fieldLink RX1 40 "HatWorks$Planner" "minute" "I", Cond.fieldLink RX1 18 "HatWorks$Planner" "steams" "[I", Cond.fieldLink RX1 21 "HatWorks$Planner" "ons" "[I", Cond.fieldLink RX1 24 "HatWorks$Planner" "weights" "[I", Cond.static yX3_startOf, Cond.initialized RX3, Cond.code yX3_startOf cX3_startOf 4 (some .int), Cond.methodLink RX3 182 Lib.Math.max.name]
def wsX1_tryAll_r2 : List Cond := [Cond.static Lib.Math.max.name, Cond.initialized "java/lang/Math", Cond.code Lib.Math.max.name Lib.Math.max.code 2 (some .int), Cond.methodLink RX1 55 yX1_tryAll, Cond.instanceMethod yX1_tryAll, Cond.selects RX1 yX1_tryAll yX1_tryAll]
def wsX1_tryAll : List Cond := .code yX1_tryAll cX1_tryAll 6 none :: ((wsX1_tryAll_r1 ++ wsX1_tryAll_r2) ++ wsX10)
def wsX1_tryNext_r1 : List Cond := [Cond.fieldLink RX1 15 "HatWorks$Planner" "onBlock" "[I", Cond.fieldLink RX1 37 "HatWorks$Planner" "blockFree" "[I", Cond.fieldLink RX1 40 "HatWorks$Planner" "minute" "I", Cond.fieldLink RX1 18 "HatWorks$Planner" "steams" "[I", Cond.fieldLink RX1 21 "HatWorks$Planner" "ons" "[I", Cond.fieldLink RX1 24 "HatWorks$Planner" "weights" "[I", Cond.fieldLink RX1 44 "HatWorks$Planner" "leastCost" "J", Cond.fieldLink RX1 31 "HatWorks$Planner" "tried" "[I", Cond.fieldLink RX1 27 "HatWorks$Planner" "gone" "[Z", Cond.static yX3_startOf, Cond.initialized RX3, Cond.code yX3_startOf cX3_startOf 4 (some .int), Cond.methodLink RX3 182 Lib.Math.max.name, Cond.static Lib.Math.max.name, Cond.initialized "java/lang/Math", Cond.code Lib.Math.max.name Lib.Math.max.code 2 (some .int), Cond.methodLink RX1 55 yX1_tryAll, Cond.instanceMethod yX1_tryAll, Cond.selects RX1 yX1_tryAll yX1_tryAll, Cond.initialized RX1, Cond.code yX1_tryAll cX1_tryAll 6 none, Cond.fieldLink RX1 48 "HatWorks$Planner" "size" "I", Cond.methodLink RX1 59 yX1_keepTried, Cond.instanceMethod yX1_keepTried]
def wsX1_tryNext_r2 : List Cond := [Cond.selects RX1 yX1_keepTried yX1_keepTried, Cond.code yX1_keepTried cX1_keepTried 4 none, Cond.fieldLink RX1 34 "HatWorks$Planner" "best" "[I", Cond.methodLink RX1 63 yX1_tryNext, Cond.instanceMethod yX1_tryNext, Cond.selects RX1 yX1_tryNext yX1_tryNext]
def wsX1_tryNext : List Cond := .code yX1_tryNext cX1_tryNext 12 none :: ((wsX1_tryNext_r1 ++ wsX1_tryNext_r2) ++ wsX10)
def wsX1_search_r1 : List Cond := [Cond.constantLong RX1 53 (9223372036854775807), Cond.fieldLink RX1 44 "HatWorks$Planner" "leastCost" "J", Cond.methodLink RX1 55 yX1_tryAll, Cond.instanceMethod yX1_tryAll, Cond.selects RX1 yX1_tryAll yX1_tryAll, Cond.initialized RX1, Cond.code yX1_tryAll cX1_tryAll 6 none, Cond.fieldLink RX1 48 "HatWorks$Planner" "size" "I", Cond.fieldLink RX1 27 "HatWorks$Planner" "gone" "[Z", Cond.methodLink RX1 59 yX1_keepTried, Cond.instanceMethod yX1_keepTried, Cond.selects RX1 yX1_keepTried yX1_keepTried, Cond.code yX1_keepTried cX1_keepTried 4 none, Cond.fieldLink RX1 34 "HatWorks$Planner" "best" "[I", Cond.fieldLink RX1 31 "HatWorks$Planner" "tried" "[I", Cond.methodLink RX1 63 yX1_tryNext, Cond.instanceMethod yX1_tryNext, Cond.selects RX1 yX1_tryNext yX1_tryNext, Cond.code yX1_tryNext cX1_tryNext 12 none, Cond.fieldLink RX1 15 "HatWorks$Planner" "onBlock" "[I", Cond.fieldLink RX1 37 "HatWorks$Planner" "blockFree" "[I", Cond.fieldLink RX1 40 "HatWorks$Planner" "minute" "I", Cond.fieldLink RX1 18 "HatWorks$Planner" "steams" "[I", Cond.fieldLink RX1 21 "HatWorks$Planner" "ons" "[I"]
def wsX1_search_r2 : List Cond := [Cond.fieldLink RX1 24 "HatWorks$Planner" "weights" "[I", Cond.static yX3_startOf, Cond.initialized RX3, Cond.code yX3_startOf cX3_startOf 4 (some .int), Cond.methodLink RX3 182 Lib.Math.max.name, Cond.static Lib.Math.max.name, Cond.initialized "java/lang/Math", Cond.code Lib.Math.max.name Lib.Math.max.code 2 (some .int)]
def wsX1_search : List Cond := .code yX1_search cX1_search 2 none :: ((wsX1_search_r1 ++ wsX1_search_r2) ++ wsX10)
def wsX1_bestCost : List Cond := .code yX1_bestCost cX1_bestCost 1 (some .long) :: ([.fieldLink RX1 48 "HatWorks$Planner" "size" "I", .fieldLink RX1 44 "HatWorks$Planner" "leastCost" "J"] ++ wsX10)
def wsX1_bestAt : List Cond := .code yX1_bestAt cX1_bestAt 2 (some .int) :: ([.fieldLink RX1 48 "HatWorks$Planner" "size" "I", .fieldLink RX1 9 "HatWorks$Planner" "numbers" "[I", .fieldLink RX1 34 "HatWorks$Planner" "best" "[I"] ++ wsX10)
def wsX2_init : List Cond := .code yX2_init cX2_init 1 none :: ([.methodLink RX2 3 objectInit, .instanceMethod objectInit, .code objectInit ⟨#[0xb1]⟩ 1 none, .arrayClass .byte, .fieldLink RX2 9 "HatWorks$Tape" "bytes" "[B", .arrayClass .int, .fieldLink RX2 15 "HatWorks$Tape" "parts" "[I", .fieldLink RX2 19 "HatWorks$Tape" "length" "I", .fieldLink RX2 23 "HatWorks$Tape" "at" "I", .fieldLink RX2 26 "HatWorks$Tape" "fault" "I", .fieldLink RX2 29 "HatWorks$Tape" "faultPlace" "I", .fieldLink RX2 32 "HatWorks$Tape" "size" "I"] ++ wsX20)
def wsX2_take : List Cond := .code yX2_take cX2_take 3 none :: ([.fieldLink RX2 32 "HatWorks$Tape" "size" "I", .fieldLink RX2 9 "HatWorks$Tape" "bytes" "[B"] ++ wsX20)
def wsX2_startReading : List Cond := .code yX2_startReading cX2_startReading 3 none :: ([.fieldLink RX2 19 "HatWorks$Tape" "length" "I", .fieldLink RX2 23 "HatWorks$Tape" "at" "I", .fieldLink RX2 26 "HatWorks$Tape" "fault" "I", .fieldLink RX2 29 "HatWorks$Tape" "faultPlace" "I", .fieldLink RX2 15 "HatWorks$Tape" "parts" "[I"] ++ wsX20)
def wsX2_skipBlanks : List Cond := .code yX2_skipBlanks cX2_skipBlanks 1 none :: ([.fieldLink RX2 23 "HatWorks$Tape" "at" "I", .fieldLink RX2 19 "HatWorks$Tape" "length" "I", .fieldLink RX2 9 "HatWorks$Tape" "bytes" "[B"] ++ wsX20)
def wsX2_skipLetters : List Cond := .code yX2_skipLetters cX2_skipLetters 1 none :: ([.fieldLink RX2 23 "HatWorks$Tape" "at" "I", .fieldLink RX2 19 "HatWorks$Tape" "length" "I", .fieldLink RX2 9 "HatWorks$Tape" "bytes" "[B"] ++ wsX20)
def wsX2_nameOf : List Cond := .code yX2_nameOf cX2_nameOf 1 (some (.object "java/lang/String")) :: ([])
def wsJ0_coder_7d493 : List Cond := .code yJ0_coder_7d493 cJ0_coder_7d493 1 (some .byte) :: ([.fieldLink RJ0 38 "java/lang/String" "COMPACT_STRINGS" "Z", .fieldLink RJ0 15 "java/lang/String" "coder" "B"])
def wsJ0_length_8abf5 : List Cond := .code yJ0_length_8abf5 cJ0_length_8abf5 1 (some .int) :: ([.fieldLink RJ0 9 "java/lang/String" "value" "[B", .methodLink RJ0 335 yJ0_coder_7d493, .instanceMethod yJ0_coder_7d493, .selects RJ0 yJ0_coder_7d493 yJ0_coder_7d493, .initialized RJ0, .code yJ0_coder_7d493 cJ0_coder_7d493 1 (some .byte), .fieldLink RJ0 38 "java/lang/String" "COMPACT_STRINGS" "Z", .fieldLink RJ0 15 "java/lang/String" "coder" "B"])
def wsJ0_isLatin1_aae02 : List Cond := .code yJ0_isLatin1_aae02 cJ0_isLatin1_aae02 1 (some .boolean) :: ([.fieldLink RJ0 38 "java/lang/String" "COMPACT_STRINGS" "Z", .fieldLink RJ0 15 "java/lang/String" "coder" "B"])
def wsJ3_checkIndex_8e157 : List Cond := .code yJ3_checkIndex_8e157 cJ3_checkIndex_8e157 3 (some .int) :: ([])
def wsJ0_checkIndex_df160 : List Cond := .code yJ0_checkIndex_df160 cJ0_checkIndex_df160 2 none :: ([.fieldLink RJ0 1053 "jdk/internal/util/Preconditions" "SIOOBE_FORMATTER" "Ljava/util/function/BiFunction;", .methodLink RJ0 1059 yJ3_checkIndex_8e157, .static yJ3_checkIndex_8e157, .initialized RJ3, .code yJ3_checkIndex_8e157 cJ3_checkIndex_8e157 3 (some .int)])
def wsJ1_charAt_3b067 : List Cond := .code yJ1_charAt_3b067 cJ1_charAt_3b067 2 (some .char) :: ([.methodLink RJ1 9 yJ0_checkIndex_df160, .static yJ0_checkIndex_df160, .initialized RJ0, .code yJ0_checkIndex_df160 cJ0_checkIndex_df160 2 none, .fieldLink RJ0 1053 "jdk/internal/util/Preconditions" "SIOOBE_FORMATTER" "Ljava/util/function/BiFunction;", .methodLink RJ0 1059 yJ3_checkIndex_8e157, .static yJ3_checkIndex_8e157, .initialized RJ3, .code yJ3_checkIndex_8e157 cJ3_checkIndex_8e157 3 (some .int)])
def wsJ2_length_9d52b : List Cond := .code yJ2_length_9d52b cJ2_length_9d52b 1 (some .int) :: ([])
def wsJ2_checkIndex_2214a : List Cond := .code yJ2_checkIndex_2214a cJ2_checkIndex_2214a 2 none :: ([.methodLink RJ2 48 yJ2_length_9d52b, .static yJ2_length_9d52b, .initialized RJ2, .code yJ2_length_9d52b cJ2_length_9d52b 1 (some .int), .methodLink RJ2 414 yJ0_checkIndex_df160, .static yJ0_checkIndex_df160, .initialized RJ0, .code yJ0_checkIndex_df160 cJ0_checkIndex_df160 2 none, .fieldLink RJ0 1053 "jdk/internal/util/Preconditions" "SIOOBE_FORMATTER" "Ljava/util/function/BiFunction;", .methodLink RJ0 1059 yJ3_checkIndex_8e157, .static yJ3_checkIndex_8e157, .initialized RJ3, .code yJ3_checkIndex_8e157 cJ3_checkIndex_8e157 3 (some .int)])
def wsJ2_getChar_3b067 : List Cond := .code yJ2_getChar_3b067 cJ2_getChar_3b067 2 (some .char) :: ([.fieldLink RJ2 44 "java/lang/StringUTF16" "$assertionsDisabled" "Z", .fieldLink RJ2 59 "java/lang/StringUTF16" "HI_BYTE_SHIFT" "I", .fieldLink RJ2 63 "java/lang/StringUTF16" "LO_BYTE_SHIFT" "I", .methodLink RJ2 48 yJ2_length_9d52b, .static yJ2_length_9d52b, .initialized RJ2, .code yJ2_length_9d52b cJ2_length_9d52b 1 (some .int)])
def wsJ2_charAt_3b067 : List Cond := .code yJ2_charAt_3b067 cJ2_charAt_3b067 2 (some .char) :: ([.methodLink RJ2 67 yJ2_checkIndex_2214a, .static yJ2_checkIndex_2214a, .initialized RJ2, .code yJ2_checkIndex_2214a cJ2_checkIndex_2214a 2 none, .methodLink RJ2 48 yJ2_length_9d52b, .static yJ2_length_9d52b, .code yJ2_length_9d52b cJ2_length_9d52b 1 (some .int), .methodLink RJ2 414 yJ0_checkIndex_df160, .static yJ0_checkIndex_df160, .initialized RJ0, .code yJ0_checkIndex_df160 cJ0_checkIndex_df160 2 none, .fieldLink RJ0 1053 "jdk/internal/util/Preconditions" "SIOOBE_FORMATTER" "Ljava/util/function/BiFunction;", .methodLink RJ0 1059 yJ3_checkIndex_8e157, .static yJ3_checkIndex_8e157, .initialized RJ3, .code yJ3_checkIndex_8e157 cJ3_checkIndex_8e157 3 (some .int), .methodLink RJ2 71 yJ2_getChar_3b067, .static yJ2_getChar_3b067, .code yJ2_getChar_3b067 cJ2_getChar_3b067 2 (some .char), .fieldLink RJ2 44 "java/lang/StringUTF16" "$assertionsDisabled" "Z", .fieldLink RJ2 59 "java/lang/StringUTF16" "HI_BYTE_SHIFT" "I", .fieldLink RJ2 63 "java/lang/StringUTF16" "LO_BYTE_SHIFT" "I"])
def wsJ0_charAt_5068e_r1 : List Cond := [Cond.fieldLink RJ0 9 "java/lang/String" "value" "[B", Cond.methodLink RJ0 492 yJ0_isLatin1_aae02, Cond.instanceMethod yJ0_isLatin1_aae02, Cond.selects RJ0 yJ0_isLatin1_aae02 yJ0_isLatin1_aae02, Cond.initialized RJ0, Cond.code yJ0_isLatin1_aae02 cJ0_isLatin1_aae02 1 (some .boolean), Cond.fieldLink RJ0 38 "java/lang/String" "COMPACT_STRINGS" "Z", Cond.fieldLink RJ0 15 "java/lang/String" "coder" "B", Cond.methodLink RJ0 495 yJ1_charAt_3b067, Cond.static yJ1_charAt_3b067, Cond.initialized RJ1, Cond.code yJ1_charAt_3b067 cJ1_charAt_3b067 2 (some .char), Cond.methodLink RJ1 9 yJ0_checkIndex_df160, Cond.static yJ0_checkIndex_df160, Cond.code yJ0_checkIndex_df160 cJ0_checkIndex_df160 2 none, Cond.fieldLink RJ0 1053 "jdk/internal/util/Preconditions" "SIOOBE_FORMATTER" "Ljava/util/function/BiFunction;", Cond.methodLink RJ0 1059 yJ3_checkIndex_8e157, Cond.static yJ3_checkIndex_8e157, Cond.initialized RJ3, Cond.code yJ3_checkIndex_8e157 cJ3_checkIndex_8e157 3 (some .int), Cond.methodLink RJ0 498 yJ2_charAt_3b067, Cond.static yJ2_charAt_3b067, Cond.initialized RJ2, Cond.code yJ2_charAt_3b067 cJ2_charAt_3b067 2 (some .char)]
def wsJ0_charAt_5068e_r2 : List Cond := [Cond.methodLink RJ2 67 yJ2_checkIndex_2214a, Cond.static yJ2_checkIndex_2214a, Cond.code yJ2_checkIndex_2214a cJ2_checkIndex_2214a 2 none, Cond.methodLink RJ2 48 yJ2_length_9d52b, Cond.static yJ2_length_9d52b, Cond.code yJ2_length_9d52b cJ2_length_9d52b 1 (some .int), Cond.methodLink RJ2 414 yJ0_checkIndex_df160, Cond.methodLink RJ2 71 yJ2_getChar_3b067, Cond.static yJ2_getChar_3b067, Cond.code yJ2_getChar_3b067 cJ2_getChar_3b067 2 (some .char), Cond.fieldLink RJ2 44 "java/lang/StringUTF16" "$assertionsDisabled" "Z", Cond.fieldLink RJ2 59 "java/lang/StringUTF16" "HI_BYTE_SHIFT" "I", Cond.fieldLink RJ2 63 "java/lang/StringUTF16" "LO_BYTE_SHIFT" "I"]
def wsJ0_charAt_5068e : List Cond := .code yJ0_charAt_5068e cJ0_charAt_5068e 2 (some .char) :: ((wsJ0_charAt_5068e_r1 ++ wsJ0_charAt_5068e_r2))
def wsX2_isWord_r1 : List Cond := [Cond.fieldLink RX2 23 "HatWorks$Tape" "at" "I", Cond.fieldLink RX2 9 "HatWorks$Tape" "bytes" "[B", Cond.methodLink RX2 87 yJ0_length_8abf5, Cond.instanceMethod yJ0_length_8abf5, Cond.selects RJ0 yJ0_length_8abf5 yJ0_length_8abf5, Cond.initialized RJ0, Cond.code yJ0_length_8abf5 cJ0_length_8abf5 1 (some .int), Cond.fieldLink RJ0 9 "java/lang/String" "value" "[B", Cond.methodLink RJ0 335 yJ0_coder_7d493, Cond.instanceMethod yJ0_coder_7d493, Cond.selects RJ0 yJ0_coder_7d493 yJ0_coder_7d493, Cond.code yJ0_coder_7d493 cJ0_coder_7d493 1 (some .byte), Cond.fieldLink RJ0 38 "java/lang/String" "COMPACT_STRINGS" "Z", Cond.fieldLink RJ0 15 "java/lang/String" "coder" "B", Cond.methodLink RX2 91 yJ0_charAt_5068e, Cond.instanceMethod yJ0_charAt_5068e, Cond.selects RJ0 yJ0_charAt_5068e yJ0_charAt_5068e, Cond.code yJ0_charAt_5068e cJ0_charAt_5068e 2 (some .char), Cond.methodLink RJ0 492 yJ0_isLatin1_aae02, Cond.instanceMethod yJ0_isLatin1_aae02, Cond.selects RJ0 yJ0_isLatin1_aae02 yJ0_isLatin1_aae02, Cond.code yJ0_isLatin1_aae02 cJ0_isLatin1_aae02 1 (some .boolean), Cond.methodLink RJ0 495 yJ1_charAt_3b067, Cond.static yJ1_charAt_3b067]
def wsX2_isWord_r2 : List Cond := [Cond.initialized RJ1, Cond.code yJ1_charAt_3b067 cJ1_charAt_3b067 2 (some .char), Cond.methodLink RJ1 9 yJ0_checkIndex_df160, Cond.static yJ0_checkIndex_df160, Cond.code yJ0_checkIndex_df160 cJ0_checkIndex_df160 2 none, Cond.fieldLink RJ0 1053 "jdk/internal/util/Preconditions" "SIOOBE_FORMATTER" "Ljava/util/function/BiFunction;", Cond.methodLink RJ0 1059 yJ3_checkIndex_8e157, Cond.static yJ3_checkIndex_8e157, Cond.initialized RJ3, Cond.code yJ3_checkIndex_8e157 cJ3_checkIndex_8e157 3 (some .int), Cond.methodLink RJ0 498 yJ2_charAt_3b067, Cond.static yJ2_charAt_3b067, Cond.initialized RJ2, Cond.code yJ2_charAt_3b067 cJ2_charAt_3b067 2 (some .char), Cond.methodLink RJ2 67 yJ2_checkIndex_2214a, Cond.static yJ2_checkIndex_2214a, Cond.code yJ2_checkIndex_2214a cJ2_checkIndex_2214a 2 none, Cond.methodLink RJ2 48 yJ2_length_9d52b, Cond.static yJ2_length_9d52b, Cond.code yJ2_length_9d52b cJ2_length_9d52b 1 (some .int), Cond.methodLink RJ2 414 yJ0_checkIndex_df160, Cond.methodLink RJ2 71 yJ2_getChar_3b067, Cond.static yJ2_getChar_3b067, Cond.code yJ2_getChar_3b067 cJ2_getChar_3b067 2 (some .char)]
def wsX2_isWord_r3 : List Cond := [Cond.fieldLink RJ2 44 "java/lang/StringUTF16" "$assertionsDisabled" "Z", Cond.fieldLink RJ2 59 "java/lang/StringUTF16" "HI_BYTE_SHIFT" "I", Cond.fieldLink RJ2 63 "java/lang/StringUTF16" "LO_BYTE_SHIFT" "I"]
def wsX2_isWord : List Cond := .code yX2_isWord cX2_isWord 4 (some .boolean) :: ((wsX2_isWord_r1 ++ (wsX2_isWord_r2 ++ wsX2_isWord_r3)) ++ wsX20)
def wsX2_partNamed_r1 : List Cond := [Cond.methodLink RX2 79 yX2_nameOf, Cond.static yX2_nameOf, Cond.initialized RX2, Cond.code yX2_nameOf cX2_nameOf 1 (some (.object "java/lang/String")), Cond.methodLink RX2 83 yX2_isWord, Cond.instanceMethod yX2_isWord, Cond.selects RX2 yX2_isWord yX2_isWord, Cond.code yX2_isWord cX2_isWord 4 (some .boolean), Cond.fieldLink RX2 23 "HatWorks$Tape" "at" "I", Cond.fieldLink RX2 9 "HatWorks$Tape" "bytes" "[B", Cond.methodLink RX2 87 yJ0_length_8abf5, Cond.instanceMethod yJ0_length_8abf5, Cond.selects RJ0 yJ0_length_8abf5 yJ0_length_8abf5, Cond.initialized RJ0, Cond.code yJ0_length_8abf5 cJ0_length_8abf5 1 (some .int), Cond.fieldLink RJ0 9 "java/lang/String" "value" "[B", Cond.methodLink RJ0 335 yJ0_coder_7d493, Cond.instanceMethod yJ0_coder_7d493, Cond.selects RJ0 yJ0_coder_7d493 yJ0_coder_7d493, Cond.code yJ0_coder_7d493 cJ0_coder_7d493 1 (some .byte), Cond.fieldLink RJ0 38 "java/lang/String" "COMPACT_STRINGS" "Z", Cond.fieldLink RJ0 15 "java/lang/String" "coder" "B", Cond.methodLink RX2 91 yJ0_charAt_5068e, Cond.instanceMethod yJ0_charAt_5068e]
def wsX2_partNamed_r2 : List Cond := [Cond.selects RJ0 yJ0_charAt_5068e yJ0_charAt_5068e, Cond.code yJ0_charAt_5068e cJ0_charAt_5068e 2 (some .char), Cond.methodLink RJ0 492 yJ0_isLatin1_aae02, Cond.instanceMethod yJ0_isLatin1_aae02, Cond.selects RJ0 yJ0_isLatin1_aae02 yJ0_isLatin1_aae02, Cond.code yJ0_isLatin1_aae02 cJ0_isLatin1_aae02 1 (some .boolean), Cond.methodLink RJ0 495 yJ1_charAt_3b067, Cond.static yJ1_charAt_3b067, Cond.initialized RJ1, Cond.code yJ1_charAt_3b067 cJ1_charAt_3b067 2 (some .char), Cond.methodLink RJ1 9 yJ0_checkIndex_df160, Cond.static yJ0_checkIndex_df160, Cond.code yJ0_checkIndex_df160 cJ0_checkIndex_df160 2 none, Cond.fieldLink RJ0 1053 "jdk/internal/util/Preconditions" "SIOOBE_FORMATTER" "Ljava/util/function/BiFunction;", Cond.methodLink RJ0 1059 yJ3_checkIndex_8e157, Cond.static yJ3_checkIndex_8e157, Cond.initialized RJ3, Cond.code yJ3_checkIndex_8e157 cJ3_checkIndex_8e157 3 (some .int), Cond.methodLink RJ0 498 yJ2_charAt_3b067, Cond.static yJ2_charAt_3b067, Cond.initialized RJ2, Cond.code yJ2_charAt_3b067 cJ2_charAt_3b067 2 (some .char), Cond.methodLink RJ2 67 yJ2_checkIndex_2214a, Cond.static yJ2_checkIndex_2214a]
def wsX2_partNamed_r3 : List Cond := [Cond.code yJ2_checkIndex_2214a cJ2_checkIndex_2214a 2 none, Cond.methodLink RJ2 48 yJ2_length_9d52b, Cond.static yJ2_length_9d52b, Cond.code yJ2_length_9d52b cJ2_length_9d52b 1 (some .int), Cond.methodLink RJ2 414 yJ0_checkIndex_df160, Cond.methodLink RJ2 71 yJ2_getChar_3b067, Cond.static yJ2_getChar_3b067, Cond.code yJ2_getChar_3b067 cJ2_getChar_3b067 2 (some .char), Cond.fieldLink RJ2 44 "java/lang/StringUTF16" "$assertionsDisabled" "Z", Cond.fieldLink RJ2 59 "java/lang/StringUTF16" "HI_BYTE_SHIFT" "I", Cond.fieldLink RJ2 63 "java/lang/StringUTF16" "LO_BYTE_SHIFT" "I"]
def wsX2_partNamed : List Cond := .code yX2_partNamed cX2_partNamed 3 (some .int) :: ((wsX2_partNamed_r1 ++ (wsX2_partNamed_r2 ++ wsX2_partNamed_r3)) ++ wsX20)
def wsX2_blame : List Cond := .code yX2_blame cX2_blame 3 none :: ([.fieldLink RX2 26 "HatWorks$Tape" "fault" "I", .fieldLink RX2 29 "HatWorks$Tape" "faultPlace" "I"] ++ wsX20)
def wsX2_readNumber : List Cond := .code yX2_readNumber cX2_readNumber 2 (some .int) :: ([.fieldLink RX2 23 "HatWorks$Tape" "at" "I", .fieldLink RX2 19 "HatWorks$Tape" "length" "I", .fieldLink RX2 9 "HatWorks$Tape" "bytes" "[B", .methodLink RX2 73 Lib.Math.min.name, .static Lib.Math.min.name, .initialized "java/lang/Math", .code Lib.Math.min.name Lib.Math.min.code 2 (some .int)] ++ wsX20)
def wsX2_readPart_r1 : List Cond := [Cond.fieldLink RX2 23 "HatWorks$Tape" "at" "I", Cond.fieldLink RX2 15 "HatWorks$Tape" "parts" "[I", Cond.fieldLink RX2 67 "HatWorks$Tape" "LEAST" "[I", Cond.fieldLink RX2 70 "HatWorks$Tape" "MOST" "[I", Cond.methodLink RX2 54 yX2_skipBlanks, Cond.instanceMethod yX2_skipBlanks, Cond.selects RX2 yX2_skipBlanks yX2_skipBlanks, Cond.initialized RX2, Cond.code yX2_skipBlanks cX2_skipBlanks 1 none, Cond.fieldLink RX2 19 "HatWorks$Tape" "length" "I", Cond.fieldLink RX2 9 "HatWorks$Tape" "bytes" "[B", Cond.methodLink RX2 57 yX2_skipLetters, Cond.instanceMethod yX2_skipLetters, Cond.selects RX2 yX2_skipLetters yX2_skipLetters, Cond.code yX2_skipLetters cX2_skipLetters 1 none, Cond.methodLink RX2 60 yX2_partNamed, Cond.instanceMethod yX2_partNamed, Cond.selects RX2 yX2_partNamed yX2_partNamed, Cond.code yX2_partNamed cX2_partNamed 3 (some .int), Cond.methodLink RX2 79 yX2_nameOf, Cond.static yX2_nameOf, Cond.code yX2_nameOf cX2_nameOf 1 (some (.object "java/lang/String")), Cond.methodLink RX2 83 yX2_isWord, Cond.instanceMethod yX2_isWord]
def wsX2_readPart_r2 : List Cond := [Cond.selects RX2 yX2_isWord yX2_isWord, Cond.code yX2_isWord cX2_isWord 4 (some .boolean), Cond.methodLink RX2 87 yJ0_length_8abf5, Cond.instanceMethod yJ0_length_8abf5, Cond.selects RJ0 yJ0_length_8abf5 yJ0_length_8abf5, Cond.initialized RJ0, Cond.code yJ0_length_8abf5 cJ0_length_8abf5 1 (some .int), Cond.fieldLink RJ0 9 "java/lang/String" "value" "[B", Cond.methodLink RJ0 335 yJ0_coder_7d493, Cond.instanceMethod yJ0_coder_7d493, Cond.selects RJ0 yJ0_coder_7d493 yJ0_coder_7d493, Cond.code yJ0_coder_7d493 cJ0_coder_7d493 1 (some .byte), Cond.fieldLink RJ0 38 "java/lang/String" "COMPACT_STRINGS" "Z", Cond.fieldLink RJ0 15 "java/lang/String" "coder" "B", Cond.methodLink RX2 91 yJ0_charAt_5068e, Cond.instanceMethod yJ0_charAt_5068e, Cond.selects RJ0 yJ0_charAt_5068e yJ0_charAt_5068e, Cond.code yJ0_charAt_5068e cJ0_charAt_5068e 2 (some .char), Cond.methodLink RJ0 492 yJ0_isLatin1_aae02, Cond.instanceMethod yJ0_isLatin1_aae02, Cond.selects RJ0 yJ0_isLatin1_aae02 yJ0_isLatin1_aae02, Cond.code yJ0_isLatin1_aae02 cJ0_isLatin1_aae02 1 (some .boolean), Cond.methodLink RJ0 495 yJ1_charAt_3b067, Cond.static yJ1_charAt_3b067]
def wsX2_readPart_r3 : List Cond := [Cond.initialized RJ1, Cond.code yJ1_charAt_3b067 cJ1_charAt_3b067 2 (some .char), Cond.methodLink RJ1 9 yJ0_checkIndex_df160, Cond.static yJ0_checkIndex_df160, Cond.code yJ0_checkIndex_df160 cJ0_checkIndex_df160 2 none, Cond.fieldLink RJ0 1053 "jdk/internal/util/Preconditions" "SIOOBE_FORMATTER" "Ljava/util/function/BiFunction;", Cond.methodLink RJ0 1059 yJ3_checkIndex_8e157, Cond.static yJ3_checkIndex_8e157, Cond.initialized RJ3, Cond.code yJ3_checkIndex_8e157 cJ3_checkIndex_8e157 3 (some .int), Cond.methodLink RJ0 498 yJ2_charAt_3b067, Cond.static yJ2_charAt_3b067, Cond.initialized RJ2, Cond.code yJ2_charAt_3b067 cJ2_charAt_3b067 2 (some .char), Cond.methodLink RJ2 67 yJ2_checkIndex_2214a, Cond.static yJ2_checkIndex_2214a, Cond.code yJ2_checkIndex_2214a cJ2_checkIndex_2214a 2 none, Cond.methodLink RJ2 48 yJ2_length_9d52b, Cond.static yJ2_length_9d52b, Cond.code yJ2_length_9d52b cJ2_length_9d52b 1 (some .int), Cond.methodLink RJ2 414 yJ0_checkIndex_df160, Cond.methodLink RJ2 71 yJ2_getChar_3b067, Cond.static yJ2_getChar_3b067, Cond.code yJ2_getChar_3b067 cJ2_getChar_3b067 2 (some .char)]
def wsX2_readPart_r4 : List Cond := [Cond.fieldLink RJ2 44 "java/lang/StringUTF16" "$assertionsDisabled" "Z", Cond.fieldLink RJ2 59 "java/lang/StringUTF16" "HI_BYTE_SHIFT" "I", Cond.fieldLink RJ2 63 "java/lang/StringUTF16" "LO_BYTE_SHIFT" "I", Cond.methodLink RX2 46 yX2_blame, Cond.instanceMethod yX2_blame, Cond.selects RX2 yX2_blame yX2_blame, Cond.code yX2_blame cX2_blame 3 none, Cond.fieldLink RX2 26 "HatWorks$Tape" "fault" "I", Cond.fieldLink RX2 29 "HatWorks$Tape" "faultPlace" "I", Cond.methodLink RX2 63 yX2_readNumber, Cond.instanceMethod yX2_readNumber, Cond.selects RX2 yX2_readNumber yX2_readNumber, Cond.code yX2_readNumber cX2_readNumber 2 (some .int), Cond.methodLink RX2 73 Lib.Math.min.name, Cond.static Lib.Math.min.name, Cond.initialized "java/lang/Math", Cond.code Lib.Math.min.name Lib.Math.min.code 2 (some .int)]
def wsX2_readPart : List Cond := .code yX2_readPart cX2_readPart 5 (some .boolean) :: ((wsX2_readPart_r1 ++ (wsX2_readPart_r2 ++ (wsX2_readPart_r3 ++ wsX2_readPart_r4))) ++ wsX20)
def wsX2_readComma : List Cond := .code yX2_readComma cX2_readComma 1 (some .boolean) :: ([.fieldLink RX2 23 "HatWorks$Tape" "at" "I", .fieldLink RX2 19 "HatWorks$Tape" "length" "I", .fieldLink RX2 9 "HatWorks$Tape" "bytes" "[B", .methodLink RX2 54 yX2_skipBlanks, .instanceMethod yX2_skipBlanks, .selects RX2 yX2_skipBlanks yX2_skipBlanks, .initialized RX2, .code yX2_skipBlanks cX2_skipBlanks 1 none, .methodLink RX2 46 yX2_blame, .instanceMethod yX2_blame, .selects RX2 yX2_blame yX2_blame, .code yX2_blame cX2_blame 3 none, .fieldLink RX2 26 "HatWorks$Tape" "fault" "I", .fieldLink RX2 29 "HatWorks$Tape" "faultPlace" "I"] ++ wsX20)
def wsX2_readHat_r1 : List Cond := [Cond.fieldLink RX2 26 "HatWorks$Tape" "fault" "I", Cond.fieldLink RX2 15 "HatWorks$Tape" "parts" "[I", Cond.fieldLink RX2 19 "HatWorks$Tape" "length" "I", Cond.methodLink RX2 35 yX2_startReading, Cond.instanceMethod yX2_startReading, Cond.selects RX2 yX2_startReading yX2_startReading, Cond.initialized RX2, Cond.code yX2_startReading cX2_startReading 3 none, Cond.fieldLink RX2 23 "HatWorks$Tape" "at" "I", Cond.fieldLink RX2 29 "HatWorks$Tape" "faultPlace" "I", Cond.methodLink RX2 39 yX2_readPart, Cond.instanceMethod yX2_readPart, Cond.selects RX2 yX2_readPart yX2_readPart, Cond.code yX2_readPart cX2_readPart 5 (some .boolean), Cond.fieldLink RX2 67 "HatWorks$Tape" "LEAST" "[I", Cond.fieldLink RX2 70 "HatWorks$Tape" "MOST" "[I", Cond.methodLink RX2 54 yX2_skipBlanks, Cond.instanceMethod yX2_skipBlanks, Cond.selects RX2 yX2_skipBlanks yX2_skipBlanks, Cond.code yX2_skipBlanks cX2_skipBlanks 1 none, Cond.fieldLink RX2 9 "HatWorks$Tape" "bytes" "[B", Cond.methodLink RX2 57 yX2_skipLetters, Cond.instanceMethod yX2_skipLetters, Cond.selects RX2 yX2_skipLetters yX2_skipLetters]
def wsX2_readHat_r2 : List Cond := [Cond.code yX2_skipLetters cX2_skipLetters 1 none, Cond.methodLink RX2 60 yX2_partNamed, Cond.instanceMethod yX2_partNamed, Cond.selects RX2 yX2_partNamed yX2_partNamed, Cond.code yX2_partNamed cX2_partNamed 3 (some .int), Cond.methodLink RX2 79 yX2_nameOf, Cond.static yX2_nameOf, Cond.code yX2_nameOf cX2_nameOf 1 (some (.object "java/lang/String")), Cond.methodLink RX2 83 yX2_isWord, Cond.instanceMethod yX2_isWord, Cond.selects RX2 yX2_isWord yX2_isWord, Cond.code yX2_isWord cX2_isWord 4 (some .boolean), Cond.methodLink RX2 87 yJ0_length_8abf5, Cond.instanceMethod yJ0_length_8abf5, Cond.selects RJ0 yJ0_length_8abf5 yJ0_length_8abf5, Cond.initialized RJ0, Cond.code yJ0_length_8abf5 cJ0_length_8abf5 1 (some .int), Cond.fieldLink RJ0 9 "java/lang/String" "value" "[B", Cond.methodLink RJ0 335 yJ0_coder_7d493, Cond.instanceMethod yJ0_coder_7d493, Cond.selects RJ0 yJ0_coder_7d493 yJ0_coder_7d493, Cond.code yJ0_coder_7d493 cJ0_coder_7d493 1 (some .byte), Cond.fieldLink RJ0 38 "java/lang/String" "COMPACT_STRINGS" "Z", Cond.fieldLink RJ0 15 "java/lang/String" "coder" "B"]
def wsX2_readHat_r3 : List Cond := [Cond.methodLink RX2 91 yJ0_charAt_5068e, Cond.instanceMethod yJ0_charAt_5068e, Cond.selects RJ0 yJ0_charAt_5068e yJ0_charAt_5068e, Cond.code yJ0_charAt_5068e cJ0_charAt_5068e 2 (some .char), Cond.methodLink RJ0 492 yJ0_isLatin1_aae02, Cond.instanceMethod yJ0_isLatin1_aae02, Cond.selects RJ0 yJ0_isLatin1_aae02 yJ0_isLatin1_aae02, Cond.code yJ0_isLatin1_aae02 cJ0_isLatin1_aae02 1 (some .boolean), Cond.methodLink RJ0 495 yJ1_charAt_3b067, Cond.static yJ1_charAt_3b067, Cond.initialized RJ1, Cond.code yJ1_charAt_3b067 cJ1_charAt_3b067 2 (some .char), Cond.methodLink RJ1 9 yJ0_checkIndex_df160, Cond.static yJ0_checkIndex_df160, Cond.code yJ0_checkIndex_df160 cJ0_checkIndex_df160 2 none, Cond.fieldLink RJ0 1053 "jdk/internal/util/Preconditions" "SIOOBE_FORMATTER" "Ljava/util/function/BiFunction;", Cond.methodLink RJ0 1059 yJ3_checkIndex_8e157, Cond.static yJ3_checkIndex_8e157, Cond.initialized RJ3, Cond.code yJ3_checkIndex_8e157 cJ3_checkIndex_8e157 3 (some .int), Cond.methodLink RJ0 498 yJ2_charAt_3b067, Cond.static yJ2_charAt_3b067, Cond.initialized RJ2, Cond.code yJ2_charAt_3b067 cJ2_charAt_3b067 2 (some .char)]
def wsX2_readHat_r4 : List Cond := [Cond.methodLink RJ2 67 yJ2_checkIndex_2214a, Cond.static yJ2_checkIndex_2214a, Cond.code yJ2_checkIndex_2214a cJ2_checkIndex_2214a 2 none, Cond.methodLink RJ2 48 yJ2_length_9d52b, Cond.static yJ2_length_9d52b, Cond.code yJ2_length_9d52b cJ2_length_9d52b 1 (some .int), Cond.methodLink RJ2 414 yJ0_checkIndex_df160, Cond.methodLink RJ2 71 yJ2_getChar_3b067, Cond.static yJ2_getChar_3b067, Cond.code yJ2_getChar_3b067 cJ2_getChar_3b067 2 (some .char), Cond.fieldLink RJ2 44 "java/lang/StringUTF16" "$assertionsDisabled" "Z", Cond.fieldLink RJ2 59 "java/lang/StringUTF16" "HI_BYTE_SHIFT" "I", Cond.fieldLink RJ2 63 "java/lang/StringUTF16" "LO_BYTE_SHIFT" "I", Cond.methodLink RX2 46 yX2_blame, Cond.instanceMethod yX2_blame, Cond.selects RX2 yX2_blame yX2_blame, Cond.code yX2_blame cX2_blame 3 none, Cond.methodLink RX2 63 yX2_readNumber, Cond.instanceMethod yX2_readNumber, Cond.selects RX2 yX2_readNumber yX2_readNumber, Cond.code yX2_readNumber cX2_readNumber 2 (some .int), Cond.methodLink RX2 73 Lib.Math.min.name, Cond.static Lib.Math.min.name, Cond.initialized "java/lang/Math"]
def wsX2_readHat_r5 : List Cond := [Cond.code Lib.Math.min.name Lib.Math.min.code 2 (some .int), Cond.methodLink RX2 43 yX2_readComma, Cond.instanceMethod yX2_readComma, Cond.selects RX2 yX2_readComma yX2_readComma, Cond.code yX2_readComma cX2_readComma 1 (some .boolean)]
def wsX2_readHat : List Cond := .code yX2_readHat cX2_readHat 4 (some .int) :: ((wsX2_readHat_r1 ++ (wsX2_readHat_r2 ++ (wsX2_readHat_r3 ++ (wsX2_readHat_r4 ++ wsX2_readHat_r5)))) ++ wsX20)
def wsX2_valueOf : List Cond := .code yX2_valueOf cX2_valueOf 2 (some .int) :: ([.fieldLink RX2 15 "HatWorks$Tape" "parts" "[I"] ++ wsX20)
def wsX2_price : List Cond := .code yX2_price cX2_price 2 (some .int) :: ([.methodLink RX2 50 yX2_valueOf, .instanceMethod yX2_valueOf, .selects RX2 yX2_valueOf yX2_valueOf, .initialized RX2, .code yX2_valueOf cX2_valueOf 2 (some .int), .fieldLink RX2 15 "HatWorks$Tape" "parts" "[I"] ++ wsX20)
def wsX2_steamMinutes : List Cond := .code yX2_steamMinutes cX2_steamMinutes 1 (some .int) :: ([.methodLink RX2 50 yX2_valueOf, .instanceMethod yX2_valueOf, .selects RX2 yX2_valueOf yX2_valueOf, .initialized RX2, .code yX2_valueOf cX2_valueOf 2 (some .int), .fieldLink RX2 15 "HatWorks$Tape" "parts" "[I"] ++ wsX20)
def wsX2_onMinutes : List Cond := .code yX2_onMinutes cX2_onMinutes 1 (some .int) :: ([.methodLink RX2 50 yX2_valueOf, .instanceMethod yX2_valueOf, .selects RX2 yX2_valueOf yX2_valueOf, .initialized RX2, .code yX2_valueOf cX2_valueOf 2 (some .int), .fieldLink RX2 15 "HatWorks$Tape" "parts" "[I"] ++ wsX20)
def wsX3_init_r1 : List Cond := [Cond.methodLink RX3 1 objectInit, Cond.instanceMethod objectInit, Cond.code objectInit ⟨#[0xb1]⟩ 1 none, Cond.arrayClass .int, Cond.fieldLink RX3 9 "HatWorks" "hand" "[I", Cond.classLink RX3 13 RX2, Cond.instantiable RX2 7, Cond.initialized RX2, Cond.fieldLink RX3 16 "HatWorks" "tape" "LHatWorks$Tape;", Cond.classLink RX3 20 RX0, Cond.instantiable RX0 5, Cond.initialized RX0, Cond.fieldLink RX3 23 "HatWorks" "blocks" "LHatWorks$Blocks;", Cond.classLink RX3 27 "[[I", Cond.fieldLink RX3 29 "HatWorks" "orders" "[[I", Cond.classLink RX3 32 RX1, Cond.instantiable RX1 12, Cond.initialized RX1, Cond.fieldLink RX3 35 "HatWorks" "planner" "LHatWorks$Planner;", Cond.fieldLink RX3 39 "HatWorks" "handSize" "I", Cond.fieldLink RX3 43 "HatWorks" "orderCount" "I", Cond.fieldLink RX3 46 "HatWorks" "now" "I", Cond.fieldLink RX3 49 "HatWorks" "steamerFree" "I", Cond.fieldLink RX3 52 "HatWorks" "steamerLatest" "I"]
def wsX3_init_r2 : List Cond := [Cond.fieldLink RX3 55 "HatWorks" "faultPlace" "I", Cond.fieldLink RX3 58 "HatWorks" "bestStands" "Z", Cond.instanceMethod yX2_init, Cond.code yX2_init cX2_init 1 none, Cond.methodLink RX2 3 objectInit, Cond.arrayClass .byte, Cond.fieldLink RX2 9 "HatWorks$Tape" "bytes" "[B", Cond.fieldLink RX2 15 "HatWorks$Tape" "parts" "[I", Cond.fieldLink RX2 19 "HatWorks$Tape" "length" "I", Cond.fieldLink RX2 23 "HatWorks$Tape" "at" "I", Cond.fieldLink RX2 26 "HatWorks$Tape" "fault" "I", Cond.fieldLink RX2 29 "HatWorks$Tape" "faultPlace" "I", Cond.fieldLink RX2 32 "HatWorks$Tape" "size" "I", Cond.instanceMethod yX0_init, Cond.code yX0_init cX0_init 1 none, Cond.methodLink RX0 3 objectInit, Cond.classLink RX0 9 "[[I", Cond.fieldLink RX0 11 "HatWorks$Blocks" "rings" "[[I", Cond.fieldLink RX0 16 "HatWorks$Blocks" "wears" "[[I", Cond.fieldLink RX0 19 "HatWorks$Blocks" "freeFrom" "[I", Cond.fieldLink RX0 23 "HatWorks$Blocks" "latest" "[I", Cond.fieldLink RX0 26 "HatWorks$Blocks" "size" "I", Cond.instanceMethod yX1_init, Cond.code yX1_init cX1_init 1 none]
def wsX3_init_r3 : List Cond := [Cond.methodLink RX1 3 objectInit, Cond.fieldLink RX1 9 "HatWorks$Planner" "numbers" "[I", Cond.fieldLink RX1 15 "HatWorks$Planner" "onBlock" "[I", Cond.fieldLink RX1 18 "HatWorks$Planner" "steams" "[I", Cond.fieldLink RX1 21 "HatWorks$Planner" "ons" "[I", Cond.fieldLink RX1 24 "HatWorks$Planner" "weights" "[I", Cond.arrayClass .boolean, Cond.fieldLink RX1 27 "HatWorks$Planner" "gone" "[Z", Cond.fieldLink RX1 31 "HatWorks$Planner" "tried" "[I", Cond.fieldLink RX1 34 "HatWorks$Planner" "best" "[I", Cond.fieldLink RX1 37 "HatWorks$Planner" "blockFree" "[I", Cond.fieldLink RX1 40 "HatWorks$Planner" "minute" "I", Cond.fieldLink RX1 44 "HatWorks$Planner" "leastCost" "J", Cond.fieldLink RX1 48 "HatWorks$Planner" "size" "I"]
def wsX3_init : List Cond := .code yX3_init cX3_init 1 none :: ((wsX3_init_r1 ++ (wsX3_init_r2 ++ wsX3_init_r3)) ++ wsX30 ++ wsX20 ++ wsX00 ++ wsX10)
def wsX3_push : List Cond := .code yX3_push cX3_push 2 (some .int) :: ([.classLink RX3 62 "java/lang/IllegalArgumentException", .initialized "java/lang/IllegalArgumentException", .fieldLink RX3 39 "HatWorks" "handSize" "I", .fieldLink RX3 9 "HatWorks" "hand" "[I"] ++ wsX30 ++ (vx_atS RX3 66 "java/lang/IllegalArgumentException" ["java/lang/RuntimeException", "java/lang/Exception"]).filter goodWord)
def wsX3_block : List Cond := .code yX3_block cX3_block 1 (some .int) :: ([.classLink RX3 72 "java/lang/IllegalStateException", .initialized "java/lang/IllegalStateException", .fieldLink RX3 23 "HatWorks" "blocks" "LHatWorks$Blocks;", .fieldLink RX3 69 "HatWorks$Blocks" "size" "I", .fieldLink RX3 39 "HatWorks" "handSize" "I", .fieldLink RX3 9 "HatWorks" "hand" "[I", .methodLink RX3 77 yX0_add, .instanceMethod yX0_add, .selects RX0 yX0_add yX0_add, .initialized RX0, .code yX0_add cX0_add 4 (some .int), .fieldLink RX0 26 "HatWorks$Blocks" "size" "I", .fieldLink RX0 11 "HatWorks$Blocks" "rings" "[[I", .fieldLink RX0 23 "HatWorks$Blocks" "latest" "[I"] ++ wsX30 ++ wsX00 ++ (vx_atS RX3 76 "java/lang/IllegalStateException" ["java/lang/RuntimeException", "java/lang/Exception"]).filter goodWord)
def wsX3_feed : List Cond := .code yX3_feed cX3_feed 6 (some .int) :: ([.fieldLink RX3 16 "HatWorks" "tape" "LHatWorks$Tape;", .fieldLink RX3 81 "HatWorks$Tape" "size" "I", .methodLink RX3 82 yX2_take, .instanceMethod yX2_take, .selects RX2 yX2_take yX2_take, .initialized RX2, .code yX2_take cX2_take 3 none, .fieldLink RX2 32 "HatWorks$Tape" "size" "I", .fieldLink RX2 9 "HatWorks$Tape" "bytes" "[B"] ++ wsX30 ++ wsX20)
def wsX3_checkOrderArguments : List Cond := .code yX3_checkOrderArguments cX3_checkOrderArguments 4 none :: ([.classLink RX3 62 "java/lang/IllegalArgumentException", .initialized "java/lang/IllegalArgumentException", .fieldLink RX3 16 "HatWorks" "tape" "LHatWorks$Tape;", .fieldLink RX3 81 "HatWorks$Tape" "size" "I", .constant RX3 125 (1000000)] ++ wsX30 ++ wsX20 ++ (vx_atS RX3 66 "java/lang/IllegalArgumentException" ["java/lang/RuntimeException", "java/lang/Exception"]).filter goodWord)
def wsX3_addOrder_r1 : List Cond := [Cond.fieldLink RX3 43 "HatWorks" "orderCount" "I", Cond.fieldLink RX3 29 "HatWorks" "orders" "[[I", Cond.fieldLink RX3 23 "HatWorks" "blocks" "LHatWorks$Blocks;", Cond.fieldLink RX3 9 "HatWorks" "hand" "[I", Cond.fieldLink RX3 16 "HatWorks" "tape" "LHatWorks$Tape;", Cond.fieldLink RX3 58 "HatWorks" "bestStands" "Z", Cond.methodLink RX3 169 yX0_match, Cond.instanceMethod yX0_match, Cond.selects RX0 yX0_match yX0_match, Cond.initialized RX0, Cond.code yX0_match cX0_match 7 none, Cond.constant RX0 32 (2147483647), Cond.fieldLink RX0 26 "HatWorks$Blocks" "size" "I", Cond.methodLink RX0 33 yX0_misfitOf, Cond.instanceMethod yX0_misfitOf, Cond.selects RX0 yX0_misfitOf yX0_misfitOf, Cond.code yX0_misfitOf cX0_misfitOf 9 (some .int), Cond.fieldLink RX0 11 "HatWorks$Blocks" "rings" "[[I", Cond.methodLink RX3 173 yX2_price, Cond.instanceMethod yX2_price, Cond.selects RX2 yX2_price yX2_price, Cond.initialized RX2, Cond.code yX2_price cX2_price 2 (some .int), Cond.methodLink RX2 50 yX2_valueOf]
def wsX3_addOrder_r2 : List Cond := [Cond.instanceMethod yX2_valueOf, Cond.selects RX2 yX2_valueOf yX2_valueOf, Cond.code yX2_valueOf cX2_valueOf 2 (some .int), Cond.fieldLink RX2 15 "HatWorks$Tape" "parts" "[I", Cond.methodLink RX3 176 yX2_steamMinutes, Cond.instanceMethod yX2_steamMinutes, Cond.selects RX2 yX2_steamMinutes yX2_steamMinutes, Cond.code yX2_steamMinutes cX2_steamMinutes 1 (some .int), Cond.methodLink RX3 179 yX2_onMinutes, Cond.instanceMethod yX2_onMinutes, Cond.selects RX2 yX2_onMinutes yX2_onMinutes, Cond.code yX2_onMinutes cX2_onMinutes 1 (some .int)]
def wsX3_addOrder : List Cond := .code yX3_addOrder cX3_addOrder 5 (some .int) :: ((wsX3_addOrder_r1 ++ wsX3_addOrder_r2) ++ wsX30 ++ wsX00 ++ wsX20)
def wsX3_order_r1 : List Cond := [Cond.fieldLink RX3 39 "HatWorks" "handSize" "I", Cond.fieldLink RX3 23 "HatWorks" "blocks" "LHatWorks$Blocks;", Cond.fieldLink RX3 69 "HatWorks$Blocks" "size" "I", Cond.fieldLink RX3 43 "HatWorks" "orderCount" "I", Cond.fieldLink RX3 16 "HatWorks" "tape" "LHatWorks$Tape;", Cond.fieldLink RX3 94 "HatWorks$Tape" "faultPlace" "I", Cond.fieldLink RX3 55 "HatWorks" "faultPlace" "I", Cond.fieldLink RX3 81 "HatWorks$Tape" "size" "I", Cond.methodLink RX3 86 yX3_checkOrderArguments, Cond.instanceMethod yX3_checkOrderArguments, Cond.selects RX3 yX3_checkOrderArguments yX3_checkOrderArguments, Cond.initialized RX3, Cond.code yX3_checkOrderArguments cX3_checkOrderArguments 4 none, Cond.classLink RX3 62 "java/lang/IllegalArgumentException", Cond.initialized "java/lang/IllegalArgumentException", Cond.constant RX3 125 (1000000), Cond.methodLink RX3 90 yX2_readHat, Cond.instanceMethod yX2_readHat, Cond.selects RX2 yX2_readHat yX2_readHat, Cond.initialized RX2, Cond.code yX2_readHat cX2_readHat 4 (some .int), Cond.fieldLink RX2 26 "HatWorks$Tape" "fault" "I", Cond.fieldLink RX2 15 "HatWorks$Tape" "parts" "[I", Cond.fieldLink RX2 19 "HatWorks$Tape" "length" "I"]
def wsX3_order_r2 : List Cond := [Cond.methodLink RX2 35 yX2_startReading, Cond.instanceMethod yX2_startReading, Cond.selects RX2 yX2_startReading yX2_startReading, Cond.code yX2_startReading cX2_startReading 3 none, Cond.fieldLink RX2 23 "HatWorks$Tape" "at" "I", Cond.fieldLink RX2 29 "HatWorks$Tape" "faultPlace" "I", Cond.methodLink RX2 39 yX2_readPart, Cond.instanceMethod yX2_readPart, Cond.selects RX2 yX2_readPart yX2_readPart, Cond.code yX2_readPart cX2_readPart 5 (some .boolean), Cond.fieldLink RX2 67 "HatWorks$Tape" "LEAST" "[I", Cond.fieldLink RX2 70 "HatWorks$Tape" "MOST" "[I", Cond.methodLink RX2 54 yX2_skipBlanks, Cond.instanceMethod yX2_skipBlanks, Cond.selects RX2 yX2_skipBlanks yX2_skipBlanks, Cond.code yX2_skipBlanks cX2_skipBlanks 1 none, Cond.fieldLink RX2 9 "HatWorks$Tape" "bytes" "[B", Cond.methodLink RX2 57 yX2_skipLetters, Cond.instanceMethod yX2_skipLetters, Cond.selects RX2 yX2_skipLetters yX2_skipLetters, Cond.code yX2_skipLetters cX2_skipLetters 1 none, Cond.methodLink RX2 60 yX2_partNamed, Cond.instanceMethod yX2_partNamed, Cond.selects RX2 yX2_partNamed yX2_partNamed]
def wsX3_order_r3 : List Cond := [Cond.code yX2_partNamed cX2_partNamed 3 (some .int), Cond.methodLink RX2 79 yX2_nameOf, Cond.static yX2_nameOf, Cond.code yX2_nameOf cX2_nameOf 1 (some (.object "java/lang/String")), Cond.methodLink RX2 83 yX2_isWord, Cond.instanceMethod yX2_isWord, Cond.selects RX2 yX2_isWord yX2_isWord, Cond.code yX2_isWord cX2_isWord 4 (some .boolean), Cond.methodLink RX2 87 yJ0_length_8abf5, Cond.instanceMethod yJ0_length_8abf5, Cond.selects RJ0 yJ0_length_8abf5 yJ0_length_8abf5, Cond.initialized RJ0, Cond.code yJ0_length_8abf5 cJ0_length_8abf5 1 (some .int), Cond.fieldLink RJ0 9 "java/lang/String" "value" "[B", Cond.methodLink RJ0 335 yJ0_coder_7d493, Cond.instanceMethod yJ0_coder_7d493, Cond.selects RJ0 yJ0_coder_7d493 yJ0_coder_7d493, Cond.code yJ0_coder_7d493 cJ0_coder_7d493 1 (some .byte), Cond.fieldLink RJ0 38 "java/lang/String" "COMPACT_STRINGS" "Z", Cond.fieldLink RJ0 15 "java/lang/String" "coder" "B", Cond.methodLink RX2 91 yJ0_charAt_5068e, Cond.instanceMethod yJ0_charAt_5068e, Cond.selects RJ0 yJ0_charAt_5068e yJ0_charAt_5068e, Cond.code yJ0_charAt_5068e cJ0_charAt_5068e 2 (some .char)]
def wsX3_order_r4 : List Cond := [Cond.methodLink RJ0 492 yJ0_isLatin1_aae02, Cond.instanceMethod yJ0_isLatin1_aae02, Cond.selects RJ0 yJ0_isLatin1_aae02 yJ0_isLatin1_aae02, Cond.code yJ0_isLatin1_aae02 cJ0_isLatin1_aae02 1 (some .boolean), Cond.methodLink RJ0 495 yJ1_charAt_3b067, Cond.static yJ1_charAt_3b067, Cond.initialized RJ1, Cond.code yJ1_charAt_3b067 cJ1_charAt_3b067 2 (some .char), Cond.methodLink RJ1 9 yJ0_checkIndex_df160, Cond.static yJ0_checkIndex_df160, Cond.code yJ0_checkIndex_df160 cJ0_checkIndex_df160 2 none, Cond.fieldLink RJ0 1053 "jdk/internal/util/Preconditions" "SIOOBE_FORMATTER" "Ljava/util/function/BiFunction;", Cond.methodLink RJ0 1059 yJ3_checkIndex_8e157, Cond.static yJ3_checkIndex_8e157, Cond.initialized RJ3, Cond.code yJ3_checkIndex_8e157 cJ3_checkIndex_8e157 3 (some .int), Cond.methodLink RJ0 498 yJ2_charAt_3b067, Cond.static yJ2_charAt_3b067, Cond.initialized RJ2, Cond.code yJ2_charAt_3b067 cJ2_charAt_3b067 2 (some .char), Cond.methodLink RJ2 67 yJ2_checkIndex_2214a, Cond.static yJ2_checkIndex_2214a, Cond.code yJ2_checkIndex_2214a cJ2_checkIndex_2214a 2 none, Cond.methodLink RJ2 48 yJ2_length_9d52b]
def wsX3_order_r5 : List Cond := [Cond.static yJ2_length_9d52b, Cond.code yJ2_length_9d52b cJ2_length_9d52b 1 (some .int), Cond.methodLink RJ2 414 yJ0_checkIndex_df160, Cond.methodLink RJ2 71 yJ2_getChar_3b067, Cond.static yJ2_getChar_3b067, Cond.code yJ2_getChar_3b067 cJ2_getChar_3b067 2 (some .char), Cond.fieldLink RJ2 44 "java/lang/StringUTF16" "$assertionsDisabled" "Z", Cond.fieldLink RJ2 59 "java/lang/StringUTF16" "HI_BYTE_SHIFT" "I", Cond.fieldLink RJ2 63 "java/lang/StringUTF16" "LO_BYTE_SHIFT" "I", Cond.methodLink RX2 46 yX2_blame, Cond.instanceMethod yX2_blame, Cond.selects RX2 yX2_blame yX2_blame, Cond.code yX2_blame cX2_blame 3 none, Cond.methodLink RX2 63 yX2_readNumber, Cond.instanceMethod yX2_readNumber, Cond.selects RX2 yX2_readNumber yX2_readNumber, Cond.code yX2_readNumber cX2_readNumber 2 (some .int), Cond.methodLink RX2 73 Lib.Math.min.name, Cond.static Lib.Math.min.name, Cond.initialized "java/lang/Math", Cond.code Lib.Math.min.name Lib.Math.min.code 2 (some .int), Cond.methodLink RX2 43 yX2_readComma, Cond.instanceMethod yX2_readComma, Cond.selects RX2 yX2_readComma yX2_readComma]
def wsX3_order_r6 : List Cond := [Cond.code yX2_readComma cX2_readComma 1 (some .boolean), Cond.methodLink RX3 95 yX3_addOrder, Cond.instanceMethod yX3_addOrder, Cond.selects RX3 yX3_addOrder yX3_addOrder, Cond.code yX3_addOrder cX3_addOrder 5 (some .int), Cond.fieldLink RX3 29 "HatWorks" "orders" "[[I", Cond.fieldLink RX3 9 "HatWorks" "hand" "[I", Cond.fieldLink RX3 58 "HatWorks" "bestStands" "Z", Cond.methodLink RX3 169 yX0_match, Cond.instanceMethod yX0_match, Cond.selects RX0 yX0_match yX0_match, Cond.initialized RX0, Cond.code yX0_match cX0_match 7 none, Cond.constant RX0 32 (2147483647), Cond.fieldLink RX0 26 "HatWorks$Blocks" "size" "I", Cond.methodLink RX0 33 yX0_misfitOf, Cond.instanceMethod yX0_misfitOf, Cond.selects RX0 yX0_misfitOf yX0_misfitOf, Cond.code yX0_misfitOf cX0_misfitOf 9 (some .int), Cond.fieldLink RX0 11 "HatWorks$Blocks" "rings" "[[I", Cond.methodLink RX3 173 yX2_price, Cond.instanceMethod yX2_price, Cond.selects RX2 yX2_price yX2_price, Cond.code yX2_price cX2_price 2 (some .int)]
def wsX3_order_r7 : List Cond := [Cond.methodLink RX2 50 yX2_valueOf, Cond.instanceMethod yX2_valueOf, Cond.selects RX2 yX2_valueOf yX2_valueOf, Cond.code yX2_valueOf cX2_valueOf 2 (some .int), Cond.methodLink RX3 176 yX2_steamMinutes, Cond.instanceMethod yX2_steamMinutes, Cond.selects RX2 yX2_steamMinutes yX2_steamMinutes, Cond.code yX2_steamMinutes cX2_steamMinutes 1 (some .int), Cond.methodLink RX3 179 yX2_onMinutes, Cond.instanceMethod yX2_onMinutes, Cond.selects RX2 yX2_onMinutes yX2_onMinutes, Cond.code yX2_onMinutes cX2_onMinutes 1 (some .int)]
def wsX3_order : List Cond := .code yX3_order cX3_order 5 (some .int) :: ((wsX3_order_r1 ++ (wsX3_order_r2 ++ (wsX3_order_r3 ++ (wsX3_order_r4 ++ (wsX3_order_r5 ++ (wsX3_order_r6 ++ wsX3_order_r7)))))) ++ wsX30 ++ wsX00 ++ wsX20 ++ (vx_atS RX3 66 "java/lang/IllegalArgumentException" ["java/lang/RuntimeException", "java/lang/Exception"]).filter goodWord)
def wsX3_fault : List Cond := .code yX3_fault cX3_fault 1 (some .int) :: ([.fieldLink RX3 55 "HatWorks" "faultPlace" "I"] ++ wsX30)
def wsX3_checkBlock : List Cond := .code yX3_checkBlock cX3_checkBlock 2 none :: ([.classLink RX3 156 "java/lang/IndexOutOfBoundsException", .initialized "java/lang/IndexOutOfBoundsException", .fieldLink RX3 23 "HatWorks" "blocks" "LHatWorks$Blocks;", .fieldLink RX3 69 "HatWorks$Blocks" "size" "I"] ++ wsX30 ++ wsX00 ++ (vx_atS RX3 160 "java/lang/IndexOutOfBoundsException" ["java/lang/RuntimeException", "java/lang/Exception"]).filter goodWord)
def wsX3_misfit : List Cond := .code yX3_misfit cX3_misfit 3 (some .int) :: ([.classLink RX3 62 "java/lang/IllegalArgumentException", .initialized "java/lang/IllegalArgumentException", .fieldLink RX3 39 "HatWorks" "handSize" "I", .fieldLink RX3 23 "HatWorks" "blocks" "LHatWorks$Blocks;", .fieldLink RX3 9 "HatWorks" "hand" "[I", .methodLink RX3 99 yX3_checkBlock, .instanceMethod yX3_checkBlock, .selects RX3 yX3_checkBlock yX3_checkBlock, .initialized RX3, .code yX3_checkBlock cX3_checkBlock 2 none, .classLink RX3 156 "java/lang/IndexOutOfBoundsException", .initialized "java/lang/IndexOutOfBoundsException", .fieldLink RX3 69 "HatWorks$Blocks" "size" "I", .methodLink RX3 104 yX0_misfitOf, .instanceMethod yX0_misfitOf, .selects RX0 yX0_misfitOf yX0_misfitOf, .initialized RX0, .code yX0_misfitOf cX0_misfitOf 9 (some .int), .fieldLink RX0 11 "HatWorks$Blocks" "rings" "[[I"] ++ wsX30 ++ wsX00 ++ (vx_atS RX3 66 "java/lang/IllegalArgumentException" ["java/lang/RuntimeException", "java/lang/Exception"]).filter goodWord ++ (vx_atS RX3 160 "java/lang/IndexOutOfBoundsException" ["java/lang/RuntimeException", "java/lang/Exception"]).filter goodWord)
def wsX3_checkOrder : List Cond := .code yX3_checkOrder cX3_checkOrder 2 none :: ([.classLink RX3 156 "java/lang/IndexOutOfBoundsException", .initialized "java/lang/IndexOutOfBoundsException", .fieldLink RX3 43 "HatWorks" "orderCount" "I"] ++ wsX30 ++ (vx_atS RX3 160 "java/lang/IndexOutOfBoundsException" ["java/lang/RuntimeException", "java/lang/Exception"]).filter goodWord)
def wsX3_isWaiting : List Cond := .code yX3_isWaiting cX3_isWaiting 2 (some .boolean) :: ([.fieldLink RX3 29 "HatWorks" "orders" "[[I"] ++ wsX30)
def wsX3_isDone : List Cond := .code yX3_isDone cX3_isDone 2 (some .boolean) :: ([.fieldLink RX3 46 "HatWorks" "now" "I", .fieldLink RX3 29 "HatWorks" "orders" "[[I", .methodLink RX3 116 yX3_isWaiting, .instanceMethod yX3_isWaiting, .selects RX3 yX3_isWaiting yX3_isWaiting, .initialized RX3, .code yX3_isWaiting cX3_isWaiting 2 (some .boolean)] ++ wsX30)
def wsX3_stateOf : List Cond := .code yX3_stateOf cX3_stateOf 2 (some .int) :: ([.methodLink RX3 116 yX3_isWaiting, .instanceMethod yX3_isWaiting, .selects RX3 yX3_isWaiting yX3_isWaiting, .initialized RX3, .code yX3_isWaiting cX3_isWaiting 2 (some .boolean), .fieldLink RX3 29 "HatWorks" "orders" "[[I", .methodLink RX3 144 yX3_isDone, .instanceMethod yX3_isDone, .selects RX3 yX3_isDone yX3_isDone, .code yX3_isDone cX3_isDone 2 (some .boolean), .fieldLink RX3 46 "HatWorks" "now" "I"] ++ wsX30)
def wsX3_told : List Cond := .code yX3_told cX3_told 3 (some .int) :: ([.classLink RX3 62 "java/lang/IllegalArgumentException", .initialized "java/lang/IllegalArgumentException", .fieldLink RX3 29 "HatWorks" "orders" "[[I", .methodLink RX3 108 yX3_checkOrder, .instanceMethod yX3_checkOrder, .selects RX3 yX3_checkOrder yX3_checkOrder, .initialized RX3, .code yX3_checkOrder cX3_checkOrder 2 none, .classLink RX3 156 "java/lang/IndexOutOfBoundsException", .initialized "java/lang/IndexOutOfBoundsException", .fieldLink RX3 43 "HatWorks" "orderCount" "I", .methodLink RX3 113 yX3_stateOf, .instanceMethod yX3_stateOf, .selects RX3 yX3_stateOf yX3_stateOf, .code yX3_stateOf cX3_stateOf 2 (some .int), .methodLink RX3 116 yX3_isWaiting, .instanceMethod yX3_isWaiting, .selects RX3 yX3_isWaiting yX3_isWaiting, .code yX3_isWaiting cX3_isWaiting 2 (some .boolean), .methodLink RX3 144 yX3_isDone, .instanceMethod yX3_isDone, .selects RX3 yX3_isDone yX3_isDone, .code yX3_isDone cX3_isDone 2 (some .boolean), .fieldLink RX3 46 "HatWorks" "now" "I"] ++ wsX30 ++ (vx_atS RX3 66 "java/lang/IllegalArgumentException" ["java/lang/RuntimeException", "java/lang/Exception"]).filter goodWord ++ (vx_atS RX3 160 "java/lang/IndexOutOfBoundsException" ["java/lang/RuntimeException", "java/lang/Exception"]).filter goodWord)
def wsX3_holderOf : List Cond := .code yX3_holderOf cX3_holderOf 3 (some .int) :: ([.fieldLink RX3 46 "HatWorks" "now" "I", .fieldLink RX3 49 "HatWorks" "steamerFree" "I", .fieldLink RX3 52 "HatWorks" "steamerLatest" "I", .fieldLink RX3 23 "HatWorks" "blocks" "LHatWorks$Blocks;", .fieldLink RX3 197 "HatWorks$Blocks" "latest" "[I"] ++ wsX30 ++ wsX00)
def wsX3_send : List Cond := .code yX3_send cX3_send 5 (some .int) :: ([.fieldLink RX3 29 "HatWorks" "orders" "[[I", .fieldLink RX3 46 "HatWorks" "now" "I", .fieldLink RX3 49 "HatWorks" "steamerFree" "I", .fieldLink RX3 23 "HatWorks" "blocks" "LHatWorks$Blocks;", .fieldLink RX3 187 "HatWorks$Blocks" "freeFrom" "[I", .fieldLink RX3 52 "HatWorks" "steamerLatest" "I", .fieldLink RX3 197 "HatWorks$Blocks" "latest" "[I", .fieldLink RX3 147 "HatWorks$Blocks" "wears" "[[I", .fieldLink RX3 58 "HatWorks" "bestStands" "Z", .methodLink RX3 190 yX3_startOf, .static yX3_startOf, .initialized RX3, .code yX3_startOf cX3_startOf 4 (some .int), .methodLink RX3 182 Lib.Math.max.name, .static Lib.Math.max.name, .initialized "java/lang/Math", .code Lib.Math.max.name Lib.Math.max.code 2 (some .int), .methodLink RX3 194 yX3_holderOf, .instanceMethod yX3_holderOf, .selects RX3 yX3_holderOf yX3_holderOf, .code yX3_holderOf cX3_holderOf 3 (some .int)] ++ wsX30 ++ wsX00)
def wsX3_go_r1 : List Cond := [Cond.methodLink RX3 108 yX3_checkOrder, Cond.instanceMethod yX3_checkOrder, Cond.selects RX3 yX3_checkOrder yX3_checkOrder, Cond.initialized RX3, Cond.code yX3_checkOrder cX3_checkOrder 2 none, Cond.classLink RX3 156 "java/lang/IndexOutOfBoundsException", Cond.initialized "java/lang/IndexOutOfBoundsException", Cond.fieldLink RX3 43 "HatWorks" "orderCount" "I", Cond.methodLink RX3 116 yX3_isWaiting, Cond.instanceMethod yX3_isWaiting, Cond.selects RX3 yX3_isWaiting yX3_isWaiting, Cond.code yX3_isWaiting cX3_isWaiting 2 (some .boolean), Cond.fieldLink RX3 29 "HatWorks" "orders" "[[I", Cond.methodLink RX3 120 yX3_send, Cond.instanceMethod yX3_send, Cond.selects RX3 yX3_send yX3_send, Cond.code yX3_send cX3_send 5 (some .int), Cond.fieldLink RX3 46 "HatWorks" "now" "I", Cond.fieldLink RX3 49 "HatWorks" "steamerFree" "I", Cond.fieldLink RX3 23 "HatWorks" "blocks" "LHatWorks$Blocks;", Cond.fieldLink RX3 187 "HatWorks$Blocks" "freeFrom" "[I", Cond.fieldLink RX3 52 "HatWorks" "steamerLatest" "I", Cond.fieldLink RX3 197 "HatWorks$Blocks" "latest" "[I", Cond.fieldLink RX3 147 "HatWorks$Blocks" "wears" "[[I"]
def wsX3_go_r2 : List Cond := [Cond.fieldLink RX3 58 "HatWorks" "bestStands" "Z", Cond.methodLink RX3 190 yX3_startOf, Cond.static yX3_startOf, Cond.code yX3_startOf cX3_startOf 4 (some .int), Cond.methodLink RX3 182 Lib.Math.max.name, Cond.static Lib.Math.max.name, Cond.initialized "java/lang/Math", Cond.code Lib.Math.max.name Lib.Math.max.code 2 (some .int), Cond.methodLink RX3 194 yX3_holderOf, Cond.instanceMethod yX3_holderOf, Cond.selects RX3 yX3_holderOf yX3_holderOf, Cond.code yX3_holderOf cX3_holderOf 3 (some .int)]
def wsX3_go : List Cond := .code yX3_go cX3_go 2 (some .int) :: ((wsX3_go_r1 ++ wsX3_go_r2) ++ wsX30 ++ wsX00 ++ (vx_atS RX3 160 "java/lang/IndexOutOfBoundsException" ["java/lang/RuntimeException", "java/lang/Exception"]).filter goodWord)
def wsX3_wait : List Cond := .code yX3_wait cX3_wait 2 (some .int) :: ([.classLink RX3 62 "java/lang/IllegalArgumentException", .initialized "java/lang/IllegalArgumentException", .fieldLink RX3 46 "HatWorks" "now" "I", .constant RX3 125 (1000000), .fieldLink RX3 58 "HatWorks" "bestStands" "Z"] ++ wsX30 ++ (vx_atS RX3 66 "java/lang/IllegalArgumentException" ["java/lang/RuntimeException", "java/lang/Exception"]).filter goodWord)
def wsX3_findBest_r1 : List Cond := [Cond.fieldLink RX3 58 "HatWorks" "bestStands" "Z", Cond.fieldLink RX3 35 "HatWorks" "planner" "LHatWorks$Planner;", Cond.fieldLink RX3 46 "HatWorks" "now" "I", Cond.fieldLink RX3 23 "HatWorks" "blocks" "LHatWorks$Blocks;", Cond.fieldLink RX3 187 "HatWorks$Blocks" "freeFrom" "[I", Cond.fieldLink RX3 43 "HatWorks" "orderCount" "I", Cond.fieldLink RX3 138 "HatWorks$Planner" "size" "I", Cond.fieldLink RX3 29 "HatWorks" "orders" "[[I", Cond.fieldLink RX3 49 "HatWorks" "steamerFree" "I", Cond.methodLink RX3 200 yX1_clear, Cond.instanceMethod yX1_clear, Cond.selects RX1 yX1_clear yX1_clear, Cond.initialized RX1, Cond.code yX1_clear cX1_clear 4 none, Cond.fieldLink RX1 40 "HatWorks$Planner" "minute" "I", Cond.fieldLink RX1 48 "HatWorks$Planner" "size" "I", Cond.fieldLink RX1 37 "HatWorks$Planner" "blockFree" "[I", Cond.methodLink RX3 116 yX3_isWaiting, Cond.instanceMethod yX3_isWaiting, Cond.selects RX3 yX3_isWaiting yX3_isWaiting, Cond.initialized RX3, Cond.code yX3_isWaiting cX3_isWaiting 2 (some .boolean), Cond.methodLink RX3 204 yX1_add, Cond.instanceMethod yX1_add]
def wsX3_findBest_r2 : List Cond := [Cond.selects RX1 yX1_add yX1_add, Cond.code yX1_add cX1_add 3 none, Cond.fieldLink RX1 9 "HatWorks$Planner" "numbers" "[I", Cond.fieldLink RX1 15 "HatWorks$Planner" "onBlock" "[I", Cond.fieldLink RX1 18 "HatWorks$Planner" "steams" "[I", Cond.fieldLink RX1 21 "HatWorks$Planner" "ons" "[I", Cond.fieldLink RX1 24 "HatWorks$Planner" "weights" "[I", Cond.fieldLink RX1 27 "HatWorks$Planner" "gone" "[Z", Cond.methodLink RX3 206 yX1_search, Cond.instanceMethod yX1_search, Cond.selects RX1 yX1_search yX1_search, Cond.code yX1_search cX1_search 2 none, Cond.constantLong RX1 53 (9223372036854775807), Cond.fieldLink RX1 44 "HatWorks$Planner" "leastCost" "J", Cond.methodLink RX1 55 yX1_tryAll, Cond.instanceMethod yX1_tryAll, Cond.selects RX1 yX1_tryAll yX1_tryAll, Cond.code yX1_tryAll cX1_tryAll 6 none, Cond.methodLink RX1 59 yX1_keepTried, Cond.instanceMethod yX1_keepTried, Cond.selects RX1 yX1_keepTried yX1_keepTried, Cond.code yX1_keepTried cX1_keepTried 4 none, Cond.fieldLink RX1 34 "HatWorks$Planner" "best" "[I", Cond.fieldLink RX1 31 "HatWorks$Planner" "tried" "[I"]
def wsX3_findBest_r3 : List Cond := [Cond.methodLink RX1 63 yX1_tryNext, Cond.instanceMethod yX1_tryNext, Cond.selects RX1 yX1_tryNext yX1_tryNext, Cond.code yX1_tryNext cX1_tryNext 12 none, Cond.static yX3_startOf, Cond.code yX3_startOf cX3_startOf 4 (some .int), Cond.methodLink RX3 182 Lib.Math.max.name, Cond.static Lib.Math.max.name, Cond.initialized "java/lang/Math", Cond.code Lib.Math.max.name Lib.Math.max.code 2 (some .int)]
def wsX3_findBest : List Cond := .code yX3_findBest cX3_findBest 2 none :: ((wsX3_findBest_r1 ++ (wsX3_findBest_r2 ++ wsX3_findBest_r3)) ++ wsX30 ++ wsX00 ++ wsX10)
def wsX3_plan_r1 : List Cond := [Cond.fieldLink RX3 35 "HatWorks" "planner" "LHatWorks$Planner;", Cond.methodLink RX3 128 yX3_findBest, Cond.instanceMethod yX3_findBest, Cond.selects RX3 yX3_findBest yX3_findBest, Cond.initialized RX3, Cond.code yX3_findBest cX3_findBest 2 none, Cond.fieldLink RX3 58 "HatWorks" "bestStands" "Z", Cond.fieldLink RX3 46 "HatWorks" "now" "I", Cond.fieldLink RX3 23 "HatWorks" "blocks" "LHatWorks$Blocks;", Cond.fieldLink RX3 187 "HatWorks$Blocks" "freeFrom" "[I", Cond.fieldLink RX3 43 "HatWorks" "orderCount" "I", Cond.fieldLink RX3 138 "HatWorks$Planner" "size" "I", Cond.fieldLink RX3 29 "HatWorks" "orders" "[[I", Cond.fieldLink RX3 49 "HatWorks" "steamerFree" "I", Cond.methodLink RX3 200 yX1_clear, Cond.instanceMethod yX1_clear, Cond.selects RX1 yX1_clear yX1_clear, Cond.initialized RX1, Cond.code yX1_clear cX1_clear 4 none, Cond.fieldLink RX1 40 "HatWorks$Planner" "minute" "I", Cond.fieldLink RX1 48 "HatWorks$Planner" "size" "I", Cond.fieldLink RX1 37 "HatWorks$Planner" "blockFree" "[I", Cond.methodLink RX3 116 yX3_isWaiting, Cond.instanceMethod yX3_isWaiting]
def wsX3_plan_r2 : List Cond := [Cond.selects RX3 yX3_isWaiting yX3_isWaiting, Cond.code yX3_isWaiting cX3_isWaiting 2 (some .boolean), Cond.methodLink RX3 204 yX1_add, Cond.instanceMethod yX1_add, Cond.selects RX1 yX1_add yX1_add, Cond.code yX1_add cX1_add 3 none, Cond.fieldLink RX1 9 "HatWorks$Planner" "numbers" "[I", Cond.fieldLink RX1 15 "HatWorks$Planner" "onBlock" "[I", Cond.fieldLink RX1 18 "HatWorks$Planner" "steams" "[I", Cond.fieldLink RX1 21 "HatWorks$Planner" "ons" "[I", Cond.fieldLink RX1 24 "HatWorks$Planner" "weights" "[I", Cond.fieldLink RX1 27 "HatWorks$Planner" "gone" "[Z", Cond.methodLink RX3 206 yX1_search, Cond.instanceMethod yX1_search, Cond.selects RX1 yX1_search yX1_search, Cond.code yX1_search cX1_search 2 none, Cond.constantLong RX1 53 (9223372036854775807), Cond.fieldLink RX1 44 "HatWorks$Planner" "leastCost" "J", Cond.methodLink RX1 55 yX1_tryAll, Cond.instanceMethod yX1_tryAll, Cond.selects RX1 yX1_tryAll yX1_tryAll, Cond.code yX1_tryAll cX1_tryAll 6 none, Cond.methodLink RX1 59 yX1_keepTried, Cond.instanceMethod yX1_keepTried]
def wsX3_plan_r3 : List Cond := [Cond.selects RX1 yX1_keepTried yX1_keepTried, Cond.code yX1_keepTried cX1_keepTried 4 none, Cond.fieldLink RX1 34 "HatWorks$Planner" "best" "[I", Cond.fieldLink RX1 31 "HatWorks$Planner" "tried" "[I", Cond.methodLink RX1 63 yX1_tryNext, Cond.instanceMethod yX1_tryNext, Cond.selects RX1 yX1_tryNext yX1_tryNext, Cond.code yX1_tryNext cX1_tryNext 12 none, Cond.static yX3_startOf, Cond.code yX3_startOf cX3_startOf 4 (some .int), Cond.methodLink RX3 182 Lib.Math.max.name, Cond.static Lib.Math.max.name, Cond.initialized "java/lang/Math", Cond.code Lib.Math.max.name Lib.Math.max.code 2 (some .int), Cond.methodLink RX3 131 yX1_bestCost, Cond.instanceMethod yX1_bestCost, Cond.selects RX1 yX1_bestCost yX1_bestCost, Cond.code yX1_bestCost cX1_bestCost 1 (some .long)]
def wsX3_plan : List Cond := .code yX3_plan cX3_plan 1 (some .long) :: ((wsX3_plan_r1 ++ (wsX3_plan_r2 ++ wsX3_plan_r3)) ++ wsX30 ++ wsX00 ++ wsX10)
def wsX3_planned_r1 : List Cond := [Cond.fieldLink RX3 35 "HatWorks" "planner" "LHatWorks$Planner;", Cond.methodLink RX3 128 yX3_findBest, Cond.instanceMethod yX3_findBest, Cond.selects RX3 yX3_findBest yX3_findBest, Cond.initialized RX3, Cond.code yX3_findBest cX3_findBest 2 none, Cond.fieldLink RX3 58 "HatWorks" "bestStands" "Z", Cond.fieldLink RX3 46 "HatWorks" "now" "I", Cond.fieldLink RX3 23 "HatWorks" "blocks" "LHatWorks$Blocks;", Cond.fieldLink RX3 187 "HatWorks$Blocks" "freeFrom" "[I", Cond.fieldLink RX3 43 "HatWorks" "orderCount" "I", Cond.fieldLink RX3 138 "HatWorks$Planner" "size" "I", Cond.fieldLink RX3 29 "HatWorks" "orders" "[[I", Cond.fieldLink RX3 49 "HatWorks" "steamerFree" "I", Cond.methodLink RX3 200 yX1_clear, Cond.instanceMethod yX1_clear, Cond.selects RX1 yX1_clear yX1_clear, Cond.initialized RX1, Cond.code yX1_clear cX1_clear 4 none, Cond.fieldLink RX1 40 "HatWorks$Planner" "minute" "I", Cond.fieldLink RX1 48 "HatWorks$Planner" "size" "I", Cond.fieldLink RX1 37 "HatWorks$Planner" "blockFree" "[I", Cond.methodLink RX3 116 yX3_isWaiting, Cond.instanceMethod yX3_isWaiting]
def wsX3_planned_r2 : List Cond := [Cond.selects RX3 yX3_isWaiting yX3_isWaiting, Cond.code yX3_isWaiting cX3_isWaiting 2 (some .boolean), Cond.methodLink RX3 204 yX1_add, Cond.instanceMethod yX1_add, Cond.selects RX1 yX1_add yX1_add, Cond.code yX1_add cX1_add 3 none, Cond.fieldLink RX1 9 "HatWorks$Planner" "numbers" "[I", Cond.fieldLink RX1 15 "HatWorks$Planner" "onBlock" "[I", Cond.fieldLink RX1 18 "HatWorks$Planner" "steams" "[I", Cond.fieldLink RX1 21 "HatWorks$Planner" "ons" "[I", Cond.fieldLink RX1 24 "HatWorks$Planner" "weights" "[I", Cond.fieldLink RX1 27 "HatWorks$Planner" "gone" "[Z", Cond.methodLink RX3 206 yX1_search, Cond.instanceMethod yX1_search, Cond.selects RX1 yX1_search yX1_search, Cond.code yX1_search cX1_search 2 none, Cond.constantLong RX1 53 (9223372036854775807), Cond.fieldLink RX1 44 "HatWorks$Planner" "leastCost" "J", Cond.methodLink RX1 55 yX1_tryAll, Cond.instanceMethod yX1_tryAll, Cond.selects RX1 yX1_tryAll yX1_tryAll, Cond.code yX1_tryAll cX1_tryAll 6 none, Cond.methodLink RX1 59 yX1_keepTried, Cond.instanceMethod yX1_keepTried]
def wsX3_planned_r3 : List Cond := [Cond.selects RX1 yX1_keepTried yX1_keepTried, Cond.code yX1_keepTried cX1_keepTried 4 none, Cond.fieldLink RX1 34 "HatWorks$Planner" "best" "[I", Cond.fieldLink RX1 31 "HatWorks$Planner" "tried" "[I", Cond.methodLink RX1 63 yX1_tryNext, Cond.instanceMethod yX1_tryNext, Cond.selects RX1 yX1_tryNext yX1_tryNext, Cond.code yX1_tryNext cX1_tryNext 12 none, Cond.static yX3_startOf, Cond.code yX3_startOf cX3_startOf 4 (some .int), Cond.methodLink RX3 182 Lib.Math.max.name, Cond.static Lib.Math.max.name, Cond.initialized "java/lang/Math", Cond.code Lib.Math.max.name Lib.Math.max.code 2 (some .int), Cond.methodLink RX3 135 yX1_bestAt, Cond.instanceMethod yX1_bestAt, Cond.selects RX1 yX1_bestAt yX1_bestAt, Cond.code yX1_bestAt cX1_bestAt 2 (some .int)]
def wsX3_planned : List Cond := .code yX3_planned cX3_planned 2 (some .int) :: ((wsX3_planned_r1 ++ (wsX3_planned_r2 ++ wsX3_planned_r3)) ++ wsX30 ++ wsX00 ++ wsX10)
def wsX3_run_r1 : List Cond := [Cond.fieldLink RX3 35 "HatWorks" "planner" "LHatWorks$Planner;", Cond.fieldLink RX3 138 "HatWorks$Planner" "size" "I", Cond.methodLink RX3 128 yX3_findBest, Cond.instanceMethod yX3_findBest, Cond.selects RX3 yX3_findBest yX3_findBest, Cond.initialized RX3, Cond.code yX3_findBest cX3_findBest 2 none, Cond.fieldLink RX3 58 "HatWorks" "bestStands" "Z", Cond.fieldLink RX3 46 "HatWorks" "now" "I", Cond.fieldLink RX3 23 "HatWorks" "blocks" "LHatWorks$Blocks;", Cond.fieldLink RX3 187 "HatWorks$Blocks" "freeFrom" "[I", Cond.fieldLink RX3 43 "HatWorks" "orderCount" "I", Cond.fieldLink RX3 29 "HatWorks" "orders" "[[I", Cond.fieldLink RX3 49 "HatWorks" "steamerFree" "I", Cond.methodLink RX3 200 yX1_clear, Cond.instanceMethod yX1_clear, Cond.selects RX1 yX1_clear yX1_clear, Cond.initialized RX1, Cond.code yX1_clear cX1_clear 4 none, Cond.fieldLink RX1 40 "HatWorks$Planner" "minute" "I", Cond.fieldLink RX1 48 "HatWorks$Planner" "size" "I", Cond.fieldLink RX1 37 "HatWorks$Planner" "blockFree" "[I", Cond.methodLink RX3 116 yX3_isWaiting, Cond.instanceMethod yX3_isWaiting]
def wsX3_run_r2 : List Cond := [Cond.selects RX3 yX3_isWaiting yX3_isWaiting, Cond.code yX3_isWaiting cX3_isWaiting 2 (some .boolean), Cond.methodLink RX3 204 yX1_add, Cond.instanceMethod yX1_add, Cond.selects RX1 yX1_add yX1_add, Cond.code yX1_add cX1_add 3 none, Cond.fieldLink RX1 9 "HatWorks$Planner" "numbers" "[I", Cond.fieldLink RX1 15 "HatWorks$Planner" "onBlock" "[I", Cond.fieldLink RX1 18 "HatWorks$Planner" "steams" "[I", Cond.fieldLink RX1 21 "HatWorks$Planner" "ons" "[I", Cond.fieldLink RX1 24 "HatWorks$Planner" "weights" "[I", Cond.fieldLink RX1 27 "HatWorks$Planner" "gone" "[Z", Cond.methodLink RX3 206 yX1_search, Cond.instanceMethod yX1_search, Cond.selects RX1 yX1_search yX1_search, Cond.code yX1_search cX1_search 2 none, Cond.constantLong RX1 53 (9223372036854775807), Cond.fieldLink RX1 44 "HatWorks$Planner" "leastCost" "J", Cond.methodLink RX1 55 yX1_tryAll, Cond.instanceMethod yX1_tryAll, Cond.selects RX1 yX1_tryAll yX1_tryAll, Cond.code yX1_tryAll cX1_tryAll 6 none, Cond.methodLink RX1 59 yX1_keepTried, Cond.instanceMethod yX1_keepTried]
def wsX3_run_r3 : List Cond := [Cond.selects RX1 yX1_keepTried yX1_keepTried, Cond.code yX1_keepTried cX1_keepTried 4 none, Cond.fieldLink RX1 34 "HatWorks$Planner" "best" "[I", Cond.fieldLink RX1 31 "HatWorks$Planner" "tried" "[I", Cond.methodLink RX1 63 yX1_tryNext, Cond.instanceMethod yX1_tryNext, Cond.selects RX1 yX1_tryNext yX1_tryNext, Cond.code yX1_tryNext cX1_tryNext 12 none, Cond.static yX3_startOf, Cond.code yX3_startOf cX3_startOf 4 (some .int), Cond.methodLink RX3 182 Lib.Math.max.name, Cond.static Lib.Math.max.name, Cond.initialized "java/lang/Math", Cond.code Lib.Math.max.name Lib.Math.max.code 2 (some .int), Cond.methodLink RX3 135 yX1_bestAt, Cond.instanceMethod yX1_bestAt, Cond.selects RX1 yX1_bestAt yX1_bestAt, Cond.code yX1_bestAt cX1_bestAt 2 (some .int), Cond.methodLink RX3 120 yX3_send, Cond.instanceMethod yX3_send, Cond.selects RX3 yX3_send yX3_send, Cond.code yX3_send cX3_send 5 (some .int), Cond.fieldLink RX3 52 "HatWorks" "steamerLatest" "I", Cond.fieldLink RX3 197 "HatWorks$Blocks" "latest" "[I"]
def wsX3_run_r4 : List Cond := [Cond.fieldLink RX3 147 "HatWorks$Blocks" "wears" "[[I", Cond.methodLink RX3 190 yX3_startOf, Cond.methodLink RX3 194 yX3_holderOf, Cond.instanceMethod yX3_holderOf, Cond.selects RX3 yX3_holderOf yX3_holderOf, Cond.code yX3_holderOf cX3_holderOf 3 (some .int)]
def wsX3_run : List Cond := .code yX3_run cX3_run 3 (some .int) :: ((wsX3_run_r1 ++ (wsX3_run_r2 ++ (wsX3_run_r3 ++ wsX3_run_r4))) ++ wsX30 ++ wsX10 ++ wsX00)
def wsX3_isLate : List Cond := .code yX3_isLate cX3_isLate 4 (some .boolean) :: ([.fieldLink RX3 29 "HatWorks" "orders" "[[I", .fieldLink RX3 46 "HatWorks" "now" "I", .methodLink RX3 116 yX3_isWaiting, .instanceMethod yX3_isWaiting, .selects RX3 yX3_isWaiting yX3_isWaiting, .initialized RX3, .code yX3_isWaiting cX3_isWaiting 2 (some .boolean)] ++ wsX30)
def wsX3_late : List Cond := .code yX3_late cX3_late 4 (some .int) :: ([.fieldLink RX3 43 "HatWorks" "orderCount" "I", .methodLink RX3 139 yX3_isLate, .instanceMethod yX3_isLate, .selects RX3 yX3_isLate yX3_isLate, .initialized RX3, .code yX3_isLate cX3_isLate 4 (some .boolean), .fieldLink RX3 29 "HatWorks" "orders" "[[I", .fieldLink RX3 46 "HatWorks" "now" "I", .methodLink RX3 116 yX3_isWaiting, .instanceMethod yX3_isWaiting, .selects RX3 yX3_isWaiting yX3_isWaiting, .code yX3_isWaiting cX3_isWaiting 2 (some .boolean)] ++ wsX30)
def wsX3_fit : List Cond := .code yX3_fit cX3_fit 5 (some .int) :: ([.classLink RX3 62 "java/lang/IllegalArgumentException", .initialized "java/lang/IllegalArgumentException", .fieldLink RX3 29 "HatWorks" "orders" "[[I", .fieldLink RX3 23 "HatWorks" "blocks" "LHatWorks$Blocks;", .fieldLink RX3 147 "HatWorks$Blocks" "wears" "[[I", .methodLink RX3 108 yX3_checkOrder, .instanceMethod yX3_checkOrder, .selects RX3 yX3_checkOrder yX3_checkOrder, .initialized RX3, .code yX3_checkOrder cX3_checkOrder 2 none, .classLink RX3 156 "java/lang/IndexOutOfBoundsException", .initialized "java/lang/IndexOutOfBoundsException", .fieldLink RX3 43 "HatWorks" "orderCount" "I", .methodLink RX3 144 yX3_isDone, .instanceMethod yX3_isDone, .selects RX3 yX3_isDone yX3_isDone, .code yX3_isDone cX3_isDone 2 (some .boolean), .fieldLink RX3 46 "HatWorks" "now" "I", .methodLink RX3 116 yX3_isWaiting, .instanceMethod yX3_isWaiting, .selects RX3 yX3_isWaiting yX3_isWaiting, .code yX3_isWaiting cX3_isWaiting 2 (some .boolean)] ++ wsX30 ++ wsX00 ++ (vx_atS RX3 66 "java/lang/IllegalArgumentException" ["java/lang/RuntimeException", "java/lang/Exception"]).filter goodWord ++ (vx_atS RX3 160 "java/lang/IndexOutOfBoundsException" ["java/lang/RuntimeException", "java/lang/Exception"]).filter goodWord)
def wsX3_wear : List Cond := .code yX3_wear cX3_wear 3 (some .int) :: ([.classLink RX3 62 "java/lang/IllegalArgumentException", .initialized "java/lang/IllegalArgumentException", .fieldLink RX3 23 "HatWorks" "blocks" "LHatWorks$Blocks;", .fieldLink RX3 147 "HatWorks$Blocks" "wears" "[[I", .methodLink RX3 99 yX3_checkBlock, .instanceMethod yX3_checkBlock, .selects RX3 yX3_checkBlock yX3_checkBlock, .initialized RX3, .code yX3_checkBlock cX3_checkBlock 2 none, .classLink RX3 156 "java/lang/IndexOutOfBoundsException", .initialized "java/lang/IndexOutOfBoundsException", .fieldLink RX3 69 "HatWorks$Blocks" "size" "I"] ++ wsX30 ++ wsX00 ++ (vx_atS RX3 66 "java/lang/IllegalArgumentException" ["java/lang/RuntimeException", "java/lang/Exception"]).filter goodWord ++ (vx_atS RX3 160 "java/lang/IndexOutOfBoundsException" ["java/lang/RuntimeException", "java/lang/Exception"]).filter goodWord)
def wsX3_countWaiting : List Cond := .code yX3_countWaiting cX3_countWaiting 3 (some .int) :: ([.fieldLink RX3 43 "HatWorks" "orderCount" "I", .methodLink RX3 116 yX3_isWaiting, .instanceMethod yX3_isWaiting, .selects RX3 yX3_isWaiting yX3_isWaiting, .initialized RX3, .code yX3_isWaiting cX3_isWaiting 2 (some .boolean), .fieldLink RX3 29 "HatWorks" "orders" "[[I"] ++ wsX30)
def wsX3_count : List Cond := .code yX3_count cX3_count 2 (some .int) :: ([.fieldLink RX3 23 "HatWorks" "blocks" "LHatWorks$Blocks;", .fieldLink RX3 69 "HatWorks$Blocks" "size" "I", .fieldLink RX3 43 "HatWorks" "orderCount" "I", .fieldLink RX3 46 "HatWorks" "now" "I", .fieldLink RX3 39 "HatWorks" "handSize" "I", .fieldLink RX3 16 "HatWorks" "tape" "LHatWorks$Tape;", .fieldLink RX3 81 "HatWorks$Tape" "size" "I", .fieldLink RX3 49 "HatWorks" "steamerFree" "I", .methodLink RX3 152 yX3_countWaiting, .instanceMethod yX3_countWaiting, .selects RX3 yX3_countWaiting yX3_countWaiting, .initialized RX3, .code yX3_countWaiting cX3_countWaiting 3 (some .int), .methodLink RX3 116 yX3_isWaiting, .instanceMethod yX3_isWaiting, .selects RX3 yX3_isWaiting yX3_isWaiting, .code yX3_isWaiting cX3_isWaiting 2 (some .boolean), .fieldLink RX3 29 "HatWorks" "orders" "[[I"] ++ wsX30 ++ wsX00 ++ wsX20)
def wsX4_init : List Cond := .code yX4_init cX4_init 1 none :: ([.methodLink RX4 1 objectInit, .instanceMethod objectInit, .code objectInit ⟨#[0xb1]⟩ 1 none, .arrayClass .int, .fieldLink RX4 9 "HatWorksModel" "hand" "[I", .fieldLink RX4 13 "HatWorksModel" "rings" "[I", .arrayClass .byte, .fieldLink RX4 16 "HatWorksModel" "tape" "[B", .fieldLink RX4 20 "HatWorksModel" "place" "I", .fieldLink RX4 24 "HatWorksModel" "part" "[I", .arrayClass .boolean, .fieldLink RX4 27 "HatWorksModel" "has" "[Z", .fieldLink RX4 31 "HatWorksModel" "lastSteam" "I", .fieldLink RX4 34 "HatWorksModel" "blockFree" "[I", .fieldLink RX4 37 "HatWorksModel" "lastOn" "[I", .fieldLink RX4 40 "HatWorksModel" "order" "[I", .fieldLink RX4 43 "HatWorksModel" "fits" "[I", .fieldLink RX4 46 "HatWorksModel" "isTold" "[Z", .fieldLink RX4 49 "HatWorksModel" "of" "[I", .fieldLink RX4 52 "HatWorksModel" "row" "[I", .fieldLink RX4 55 "HatWorksModel" "best" "[I", .fieldLink RX4 58 "HatWorksModel" "free" "[I"] ++ wsX40)
def wsX4_thrown : List Cond := .code yX4_thrown cX4_thrown 1 (some .int) :: ([.fieldLink RX4 61 "HatWorksModel" "thrown" "I"] ++ wsX40)
def wsX4_bad : List Cond := .code yX4_bad cX4_bad 3 (some .boolean) :: ([.fieldLink RX4 61 "HatWorksModel" "thrown" "I"] ++ wsX40)
def wsX4_push : List Cond := .code yX4_push cX4_push 2 (some .int) :: ([.fieldLink RX4 61 "HatWorksModel" "thrown" "I", .fieldLink RX4 68 "HatWorksModel" "handMany" "I", .fieldLink RX4 9 "HatWorksModel" "hand" "[I", .methodLink RX4 64 yX4_bad, .instanceMethod yX4_bad, .selects RX4 yX4_bad yX4_bad, .initialized RX4, .code yX4_bad cX4_bad 3 (some .boolean)] ++ wsX40)
def wsX4_block : List Cond := .code yX4_block cX4_block 2 (some .int) :: ([.fieldLink RX4 61 "HatWorksModel" "thrown" "I", .fieldLink RX4 71 "HatWorksModel" "blocks" "I", .fieldLink RX4 68 "HatWorksModel" "handMany" "I", .fieldLink RX4 13 "HatWorksModel" "rings" "[I", .fieldLink RX4 9 "HatWorksModel" "hand" "[I", .methodLink RX4 64 yX4_bad, .instanceMethod yX4_bad, .selects RX4 yX4_bad yX4_bad, .initialized RX4, .code yX4_bad cX4_bad 3 (some .boolean)] ++ wsX40)
def wsX4_misfitOf : List Cond := .code yX4_misfitOf cX4_misfitOf 6 (some .int) :: ([.fieldLink RX4 9 "HatWorksModel" "hand" "[I", .fieldLink RX4 13 "HatWorksModel" "rings" "[I"] ++ wsX40)
def wsX4_isBlock : List Cond := .code yX4_isBlock cX4_isBlock 2 (some .boolean) :: ([.fieldLink RX4 71 "HatWorksModel" "blocks" "I", .fieldLink RX4 61 "HatWorksModel" "thrown" "I"] ++ wsX40)
def wsX4_misfit : List Cond := .code yX4_misfit cX4_misfit 3 (some .int) :: ([.fieldLink RX4 68 "HatWorksModel" "handMany" "I", .methodLink RX4 74 yX4_isBlock, .instanceMethod yX4_isBlock, .selects RX4 yX4_isBlock yX4_isBlock, .initialized RX4, .code yX4_isBlock cX4_isBlock 2 (some .boolean), .fieldLink RX4 71 "HatWorksModel" "blocks" "I", .fieldLink RX4 61 "HatWorksModel" "thrown" "I", .methodLink RX4 64 yX4_bad, .instanceMethod yX4_bad, .selects RX4 yX4_bad yX4_bad, .code yX4_bad cX4_bad 3 (some .boolean), .methodLink RX4 78 yX4_misfitOf, .instanceMethod yX4_misfitOf, .selects RX4 yX4_misfitOf yX4_misfitOf, .code yX4_misfitOf cX4_misfitOf 6 (some .int), .fieldLink RX4 9 "HatWorksModel" "hand" "[I", .fieldLink RX4 13 "HatWorksModel" "rings" "[I"] ++ wsX40)
def wsX4_feed : List Cond := .code yX4_feed cX4_feed 9 (some .int) :: ([.fieldLink RX4 61 "HatWorksModel" "thrown" "I", .fieldLink RX4 82 "HatWorksModel" "taped" "I", .fieldLink RX4 16 "HatWorksModel" "tape" "[B"] ++ wsX40)
def wsX4_byteAt : List Cond := .code yX4_byteAt cX4_byteAt 2 (some .int) :: ([.fieldLink RX4 85 "HatWorksModel" "size" "I", .fieldLink RX4 16 "HatWorksModel" "tape" "[B"] ++ wsX40)
def wsX4_blanks : List Cond := .code yX4_blanks cX4_blanks 1 none :: ([.fieldLink RX4 88 "HatWorksModel" "at" "I", .fieldLink RX4 85 "HatWorksModel" "size" "I", .methodLink RX4 91 yX4_byteAt, .instanceMethod yX4_byteAt, .selects RX4 yX4_byteAt yX4_byteAt, .initialized RX4, .code yX4_byteAt cX4_byteAt 2 (some .int), .fieldLink RX4 16 "HatWorksModel" "tape" "[B"] ++ wsX40)
def wsX4_isSmall : List Cond := .code yX4_isSmall cX4_isSmall 1 (some .boolean) :: ([])
def wsX4_isDigit : List Cond := .code yX4_isDigit cX4_isDigit 1 (some .boolean) :: ([])
def wsX4_wrong : List Cond := .code yX4_wrong cX4_wrong 3 none :: ([.fieldLink RX4 95 "HatWorksModel" "fault" "I", .fieldLink RX4 20 "HatWorksModel" "place" "I"] ++ wsX40)
def wsX4_partName : List Cond := .code yX4_partName cX4_partName 1 (some (.object "java/lang/String")) :: ([])
def wsX4_isWord_r1 : List Cond := [Cond.fieldLink RX4 88 "HatWorksModel" "at" "I", Cond.methodLink RX4 106 yJ0_length_8abf5, Cond.instanceMethod yJ0_length_8abf5, Cond.selects RJ0 yJ0_length_8abf5 yJ0_length_8abf5, Cond.initialized RJ0, Cond.code yJ0_length_8abf5 cJ0_length_8abf5 1 (some .int), Cond.fieldLink RJ0 9 "java/lang/String" "value" "[B", Cond.methodLink RJ0 335 yJ0_coder_7d493, Cond.instanceMethod yJ0_coder_7d493, Cond.selects RJ0 yJ0_coder_7d493 yJ0_coder_7d493, Cond.code yJ0_coder_7d493 cJ0_coder_7d493 1 (some .byte), Cond.fieldLink RJ0 38 "java/lang/String" "COMPACT_STRINGS" "Z", Cond.fieldLink RJ0 15 "java/lang/String" "coder" "B", Cond.methodLink RX4 91 yX4_byteAt, Cond.instanceMethod yX4_byteAt, Cond.selects RX4 yX4_byteAt yX4_byteAt, Cond.initialized RX4, Cond.code yX4_byteAt cX4_byteAt 2 (some .int), Cond.fieldLink RX4 85 "HatWorksModel" "size" "I", Cond.fieldLink RX4 16 "HatWorksModel" "tape" "[B", Cond.methodLink RX4 112 yJ0_charAt_5068e, Cond.instanceMethod yJ0_charAt_5068e, Cond.selects RJ0 yJ0_charAt_5068e yJ0_charAt_5068e, Cond.code yJ0_charAt_5068e cJ0_charAt_5068e 2 (some .char)]
def wsX4_isWord_r2 : List Cond := [Cond.methodLink RJ0 492 yJ0_isLatin1_aae02, Cond.instanceMethod yJ0_isLatin1_aae02, Cond.selects RJ0 yJ0_isLatin1_aae02 yJ0_isLatin1_aae02, Cond.code yJ0_isLatin1_aae02 cJ0_isLatin1_aae02 1 (some .boolean), Cond.methodLink RJ0 495 yJ1_charAt_3b067, Cond.static yJ1_charAt_3b067, Cond.initialized RJ1, Cond.code yJ1_charAt_3b067 cJ1_charAt_3b067 2 (some .char), Cond.methodLink RJ1 9 yJ0_checkIndex_df160, Cond.static yJ0_checkIndex_df160, Cond.code yJ0_checkIndex_df160 cJ0_checkIndex_df160 2 none, Cond.fieldLink RJ0 1053 "jdk/internal/util/Preconditions" "SIOOBE_FORMATTER" "Ljava/util/function/BiFunction;", Cond.methodLink RJ0 1059 yJ3_checkIndex_8e157, Cond.static yJ3_checkIndex_8e157, Cond.initialized RJ3, Cond.code yJ3_checkIndex_8e157 cJ3_checkIndex_8e157 3 (some .int), Cond.methodLink RJ0 498 yJ2_charAt_3b067, Cond.static yJ2_charAt_3b067, Cond.initialized RJ2, Cond.code yJ2_charAt_3b067 cJ2_charAt_3b067 2 (some .char), Cond.methodLink RJ2 67 yJ2_checkIndex_2214a, Cond.static yJ2_checkIndex_2214a, Cond.code yJ2_checkIndex_2214a cJ2_checkIndex_2214a 2 none, Cond.methodLink RJ2 48 yJ2_length_9d52b]
def wsX4_isWord_r3 : List Cond := [Cond.static yJ2_length_9d52b, Cond.code yJ2_length_9d52b cJ2_length_9d52b 1 (some .int), Cond.methodLink RJ2 414 yJ0_checkIndex_df160, Cond.methodLink RJ2 71 yJ2_getChar_3b067, Cond.static yJ2_getChar_3b067, Cond.code yJ2_getChar_3b067 cJ2_getChar_3b067 2 (some .char), Cond.fieldLink RJ2 44 "java/lang/StringUTF16" "$assertionsDisabled" "Z", Cond.fieldLink RJ2 59 "java/lang/StringUTF16" "HI_BYTE_SHIFT" "I", Cond.fieldLink RJ2 63 "java/lang/StringUTF16" "LO_BYTE_SHIFT" "I", Cond.methodLink RX4 116 yX4_isSmall, Cond.static yX4_isSmall, Cond.code yX4_isSmall cX4_isSmall 1 (some .boolean)]
def wsX4_isWord : List Cond := .code yX4_isWord cX4_isWord 3 (some .boolean) :: ((wsX4_isWord_r1 ++ (wsX4_isWord_r2 ++ wsX4_isWord_r3)) ++ wsX40)
def wsX4_readPart_r1 : List Cond := [Cond.fieldLink RX4 27 "HatWorksModel" "has" "[Z", Cond.fieldLink RX4 88 "HatWorksModel" "at" "I", Cond.fieldLink RX4 24 "HatWorksModel" "part" "[I", Cond.methodLink RX4 119 yX4_blanks, Cond.instanceMethod yX4_blanks, Cond.selects RX4 yX4_blanks yX4_blanks, Cond.initialized RX4, Cond.code yX4_blanks cX4_blanks 1 none, Cond.fieldLink RX4 85 "HatWorksModel" "size" "I", Cond.methodLink RX4 91 yX4_byteAt, Cond.instanceMethod yX4_byteAt, Cond.selects RX4 yX4_byteAt yX4_byteAt, Cond.code yX4_byteAt cX4_byteAt 2 (some .int), Cond.fieldLink RX4 16 "HatWorksModel" "tape" "[B", Cond.methodLink RX4 122 yX4_partName, Cond.static yX4_partName, Cond.code yX4_partName cX4_partName 1 (some (.object "java/lang/String")), Cond.methodLink RX4 126 yX4_isWord, Cond.instanceMethod yX4_isWord, Cond.selects RX4 yX4_isWord yX4_isWord, Cond.code yX4_isWord cX4_isWord 3 (some .boolean), Cond.methodLink RX4 106 yJ0_length_8abf5, Cond.instanceMethod yJ0_length_8abf5, Cond.selects RJ0 yJ0_length_8abf5 yJ0_length_8abf5]
def wsX4_readPart_r2 : List Cond := [Cond.initialized RJ0, Cond.code yJ0_length_8abf5 cJ0_length_8abf5 1 (some .int), Cond.fieldLink RJ0 9 "java/lang/String" "value" "[B", Cond.methodLink RJ0 335 yJ0_coder_7d493, Cond.instanceMethod yJ0_coder_7d493, Cond.selects RJ0 yJ0_coder_7d493 yJ0_coder_7d493, Cond.code yJ0_coder_7d493 cJ0_coder_7d493 1 (some .byte), Cond.fieldLink RJ0 38 "java/lang/String" "COMPACT_STRINGS" "Z", Cond.fieldLink RJ0 15 "java/lang/String" "coder" "B", Cond.methodLink RX4 112 yJ0_charAt_5068e, Cond.instanceMethod yJ0_charAt_5068e, Cond.selects RJ0 yJ0_charAt_5068e yJ0_charAt_5068e, Cond.code yJ0_charAt_5068e cJ0_charAt_5068e 2 (some .char), Cond.methodLink RJ0 492 yJ0_isLatin1_aae02, Cond.instanceMethod yJ0_isLatin1_aae02, Cond.selects RJ0 yJ0_isLatin1_aae02 yJ0_isLatin1_aae02, Cond.code yJ0_isLatin1_aae02 cJ0_isLatin1_aae02 1 (some .boolean), Cond.methodLink RJ0 495 yJ1_charAt_3b067, Cond.static yJ1_charAt_3b067, Cond.initialized RJ1, Cond.code yJ1_charAt_3b067 cJ1_charAt_3b067 2 (some .char), Cond.methodLink RJ1 9 yJ0_checkIndex_df160, Cond.static yJ0_checkIndex_df160, Cond.code yJ0_checkIndex_df160 cJ0_checkIndex_df160 2 none]
def wsX4_readPart_r3 : List Cond := [Cond.fieldLink RJ0 1053 "jdk/internal/util/Preconditions" "SIOOBE_FORMATTER" "Ljava/util/function/BiFunction;", Cond.methodLink RJ0 1059 yJ3_checkIndex_8e157, Cond.static yJ3_checkIndex_8e157, Cond.initialized RJ3, Cond.code yJ3_checkIndex_8e157 cJ3_checkIndex_8e157 3 (some .int), Cond.methodLink RJ0 498 yJ2_charAt_3b067, Cond.static yJ2_charAt_3b067, Cond.initialized RJ2, Cond.code yJ2_charAt_3b067 cJ2_charAt_3b067 2 (some .char), Cond.methodLink RJ2 67 yJ2_checkIndex_2214a, Cond.static yJ2_checkIndex_2214a, Cond.code yJ2_checkIndex_2214a cJ2_checkIndex_2214a 2 none, Cond.methodLink RJ2 48 yJ2_length_9d52b, Cond.static yJ2_length_9d52b, Cond.code yJ2_length_9d52b cJ2_length_9d52b 1 (some .int), Cond.methodLink RJ2 414 yJ0_checkIndex_df160, Cond.methodLink RJ2 71 yJ2_getChar_3b067, Cond.static yJ2_getChar_3b067, Cond.code yJ2_getChar_3b067 cJ2_getChar_3b067 2 (some .char), Cond.fieldLink RJ2 44 "java/lang/StringUTF16" "$assertionsDisabled" "Z", Cond.fieldLink RJ2 59 "java/lang/StringUTF16" "HI_BYTE_SHIFT" "I", Cond.fieldLink RJ2 63 "java/lang/StringUTF16" "LO_BYTE_SHIFT" "I", Cond.methodLink RX4 116 yX4_isSmall, Cond.static yX4_isSmall]
def wsX4_readPart_r4 : List Cond := [Cond.code yX4_isSmall cX4_isSmall 1 (some .boolean), Cond.methodLink RX4 130 yX4_wrong, Cond.instanceMethod yX4_wrong, Cond.selects RX4 yX4_wrong yX4_wrong, Cond.code yX4_wrong cX4_wrong 3 none, Cond.fieldLink RX4 95 "HatWorksModel" "fault" "I", Cond.fieldLink RX4 20 "HatWorksModel" "place" "I", Cond.methodLink RX4 134 yX4_isDigit, Cond.static yX4_isDigit, Cond.code yX4_isDigit cX4_isDigit 1 (some .boolean)]
def wsX4_readPart : List Cond := .code yX4_readPart cX4_readPart 6 none :: ((wsX4_readPart_r1 ++ (wsX4_readPart_r2 ++ (wsX4_readPart_r3 ++ wsX4_readPart_r4))) ++ wsX40)
def wsX4_readHat_r1 : List Cond := [Cond.fieldLink RX4 88 "HatWorksModel" "at" "I", Cond.fieldLink RX4 95 "HatWorksModel" "fault" "I", Cond.fieldLink RX4 20 "HatWorksModel" "place" "I", Cond.fieldLink RX4 24 "HatWorksModel" "part" "[I", Cond.fieldLink RX4 27 "HatWorksModel" "has" "[Z", Cond.fieldLink RX4 85 "HatWorksModel" "size" "I", Cond.methodLink RX4 137 yX4_readPart, Cond.instanceMethod yX4_readPart, Cond.selects RX4 yX4_readPart yX4_readPart, Cond.initialized RX4, Cond.code yX4_readPart cX4_readPart 6 none, Cond.methodLink RX4 119 yX4_blanks, Cond.instanceMethod yX4_blanks, Cond.selects RX4 yX4_blanks yX4_blanks, Cond.code yX4_blanks cX4_blanks 1 none, Cond.methodLink RX4 91 yX4_byteAt, Cond.instanceMethod yX4_byteAt, Cond.selects RX4 yX4_byteAt yX4_byteAt, Cond.code yX4_byteAt cX4_byteAt 2 (some .int), Cond.fieldLink RX4 16 "HatWorksModel" "tape" "[B", Cond.methodLink RX4 122 yX4_partName, Cond.static yX4_partName, Cond.code yX4_partName cX4_partName 1 (some (.object "java/lang/String")), Cond.methodLink RX4 126 yX4_isWord]
def wsX4_readHat_r2 : List Cond := [Cond.instanceMethod yX4_isWord, Cond.selects RX4 yX4_isWord yX4_isWord, Cond.code yX4_isWord cX4_isWord 3 (some .boolean), Cond.methodLink RX4 106 yJ0_length_8abf5, Cond.instanceMethod yJ0_length_8abf5, Cond.selects RJ0 yJ0_length_8abf5 yJ0_length_8abf5, Cond.initialized RJ0, Cond.code yJ0_length_8abf5 cJ0_length_8abf5 1 (some .int), Cond.fieldLink RJ0 9 "java/lang/String" "value" "[B", Cond.methodLink RJ0 335 yJ0_coder_7d493, Cond.instanceMethod yJ0_coder_7d493, Cond.selects RJ0 yJ0_coder_7d493 yJ0_coder_7d493, Cond.code yJ0_coder_7d493 cJ0_coder_7d493 1 (some .byte), Cond.fieldLink RJ0 38 "java/lang/String" "COMPACT_STRINGS" "Z", Cond.fieldLink RJ0 15 "java/lang/String" "coder" "B", Cond.methodLink RX4 112 yJ0_charAt_5068e, Cond.instanceMethod yJ0_charAt_5068e, Cond.selects RJ0 yJ0_charAt_5068e yJ0_charAt_5068e, Cond.code yJ0_charAt_5068e cJ0_charAt_5068e 2 (some .char), Cond.methodLink RJ0 492 yJ0_isLatin1_aae02, Cond.instanceMethod yJ0_isLatin1_aae02, Cond.selects RJ0 yJ0_isLatin1_aae02 yJ0_isLatin1_aae02, Cond.code yJ0_isLatin1_aae02 cJ0_isLatin1_aae02 1 (some .boolean), Cond.methodLink RJ0 495 yJ1_charAt_3b067]
def wsX4_readHat_r3 : List Cond := [Cond.static yJ1_charAt_3b067, Cond.initialized RJ1, Cond.code yJ1_charAt_3b067 cJ1_charAt_3b067 2 (some .char), Cond.methodLink RJ1 9 yJ0_checkIndex_df160, Cond.static yJ0_checkIndex_df160, Cond.code yJ0_checkIndex_df160 cJ0_checkIndex_df160 2 none, Cond.fieldLink RJ0 1053 "jdk/internal/util/Preconditions" "SIOOBE_FORMATTER" "Ljava/util/function/BiFunction;", Cond.methodLink RJ0 1059 yJ3_checkIndex_8e157, Cond.static yJ3_checkIndex_8e157, Cond.initialized RJ3, Cond.code yJ3_checkIndex_8e157 cJ3_checkIndex_8e157 3 (some .int), Cond.methodLink RJ0 498 yJ2_charAt_3b067, Cond.static yJ2_charAt_3b067, Cond.initialized RJ2, Cond.code yJ2_charAt_3b067 cJ2_charAt_3b067 2 (some .char), Cond.methodLink RJ2 67 yJ2_checkIndex_2214a, Cond.static yJ2_checkIndex_2214a, Cond.code yJ2_checkIndex_2214a cJ2_checkIndex_2214a 2 none, Cond.methodLink RJ2 48 yJ2_length_9d52b, Cond.static yJ2_length_9d52b, Cond.code yJ2_length_9d52b cJ2_length_9d52b 1 (some .int), Cond.methodLink RJ2 414 yJ0_checkIndex_df160, Cond.methodLink RJ2 71 yJ2_getChar_3b067, Cond.static yJ2_getChar_3b067]
def wsX4_readHat_r4 : List Cond := [Cond.code yJ2_getChar_3b067 cJ2_getChar_3b067 2 (some .char), Cond.fieldLink RJ2 44 "java/lang/StringUTF16" "$assertionsDisabled" "Z", Cond.fieldLink RJ2 59 "java/lang/StringUTF16" "HI_BYTE_SHIFT" "I", Cond.fieldLink RJ2 63 "java/lang/StringUTF16" "LO_BYTE_SHIFT" "I", Cond.methodLink RX4 116 yX4_isSmall, Cond.static yX4_isSmall, Cond.code yX4_isSmall cX4_isSmall 1 (some .boolean), Cond.methodLink RX4 130 yX4_wrong, Cond.instanceMethod yX4_wrong, Cond.selects RX4 yX4_wrong yX4_wrong, Cond.code yX4_wrong cX4_wrong 3 none, Cond.methodLink RX4 134 yX4_isDigit, Cond.static yX4_isDigit, Cond.code yX4_isDigit cX4_isDigit 1 (some .boolean)]
def wsX4_readHat : List Cond := .code yX4_readHat cX4_readHat 2 none :: ((wsX4_readHat_r1 ++ (wsX4_readHat_r2 ++ (wsX4_readHat_r3 ++ wsX4_readHat_r4))) ++ wsX40)
def wsX4_order_r1 : List Cond := [Cond.fieldLink RX4 61 "HatWorksModel" "thrown" "I", Cond.fieldLink RX4 82 "HatWorksModel" "taped" "I", Cond.constant RX4 140 (1000000), Cond.fieldLink RX4 68 "HatWorksModel" "handMany" "I", Cond.fieldLink RX4 71 "HatWorksModel" "blocks" "I", Cond.fieldLink RX4 141 "HatWorksModel" "orders" "I", Cond.fieldLink RX4 85 "HatWorksModel" "size" "I", Cond.fieldLink RX4 95 "HatWorksModel" "fault" "I", Cond.fieldLink RX4 40 "HatWorksModel" "order" "[I", Cond.fieldLink RX4 24 "HatWorksModel" "part" "[I", Cond.methodLink RX4 64 yX4_bad, Cond.instanceMethod yX4_bad, Cond.selects RX4 yX4_bad yX4_bad, Cond.initialized RX4, Cond.code yX4_bad cX4_bad 3 (some .boolean), Cond.methodLink RX4 144 yX4_readHat, Cond.instanceMethod yX4_readHat, Cond.selects RX4 yX4_readHat yX4_readHat, Cond.code yX4_readHat cX4_readHat 2 none, Cond.fieldLink RX4 88 "HatWorksModel" "at" "I", Cond.fieldLink RX4 20 "HatWorksModel" "place" "I", Cond.fieldLink RX4 27 "HatWorksModel" "has" "[Z", Cond.methodLink RX4 137 yX4_readPart, Cond.instanceMethod yX4_readPart]
def wsX4_order_r2 : List Cond := [Cond.selects RX4 yX4_readPart yX4_readPart, Cond.code yX4_readPart cX4_readPart 6 none, Cond.methodLink RX4 119 yX4_blanks, Cond.instanceMethod yX4_blanks, Cond.selects RX4 yX4_blanks yX4_blanks, Cond.code yX4_blanks cX4_blanks 1 none, Cond.methodLink RX4 91 yX4_byteAt, Cond.instanceMethod yX4_byteAt, Cond.selects RX4 yX4_byteAt yX4_byteAt, Cond.code yX4_byteAt cX4_byteAt 2 (some .int), Cond.fieldLink RX4 16 "HatWorksModel" "tape" "[B", Cond.methodLink RX4 122 yX4_partName, Cond.static yX4_partName, Cond.code yX4_partName cX4_partName 1 (some (.object "java/lang/String")), Cond.methodLink RX4 126 yX4_isWord, Cond.instanceMethod yX4_isWord, Cond.selects RX4 yX4_isWord yX4_isWord, Cond.code yX4_isWord cX4_isWord 3 (some .boolean), Cond.methodLink RX4 106 yJ0_length_8abf5, Cond.instanceMethod yJ0_length_8abf5, Cond.selects RJ0 yJ0_length_8abf5 yJ0_length_8abf5, Cond.initialized RJ0, Cond.code yJ0_length_8abf5 cJ0_length_8abf5 1 (some .int), Cond.fieldLink RJ0 9 "java/lang/String" "value" "[B"]
def wsX4_order_r3 : List Cond := [Cond.methodLink RJ0 335 yJ0_coder_7d493, Cond.instanceMethod yJ0_coder_7d493, Cond.selects RJ0 yJ0_coder_7d493 yJ0_coder_7d493, Cond.code yJ0_coder_7d493 cJ0_coder_7d493 1 (some .byte), Cond.fieldLink RJ0 38 "java/lang/String" "COMPACT_STRINGS" "Z", Cond.fieldLink RJ0 15 "java/lang/String" "coder" "B", Cond.methodLink RX4 112 yJ0_charAt_5068e, Cond.instanceMethod yJ0_charAt_5068e, Cond.selects RJ0 yJ0_charAt_5068e yJ0_charAt_5068e, Cond.code yJ0_charAt_5068e cJ0_charAt_5068e 2 (some .char), Cond.methodLink RJ0 492 yJ0_isLatin1_aae02, Cond.instanceMethod yJ0_isLatin1_aae02, Cond.selects RJ0 yJ0_isLatin1_aae02 yJ0_isLatin1_aae02, Cond.code yJ0_isLatin1_aae02 cJ0_isLatin1_aae02 1 (some .boolean), Cond.methodLink RJ0 495 yJ1_charAt_3b067, Cond.static yJ1_charAt_3b067, Cond.initialized RJ1, Cond.code yJ1_charAt_3b067 cJ1_charAt_3b067 2 (some .char), Cond.methodLink RJ1 9 yJ0_checkIndex_df160, Cond.static yJ0_checkIndex_df160, Cond.code yJ0_checkIndex_df160 cJ0_checkIndex_df160 2 none, Cond.fieldLink RJ0 1053 "jdk/internal/util/Preconditions" "SIOOBE_FORMATTER" "Ljava/util/function/BiFunction;", Cond.methodLink RJ0 1059 yJ3_checkIndex_8e157, Cond.static yJ3_checkIndex_8e157]
def wsX4_order_r4 : List Cond := [Cond.initialized RJ3, Cond.code yJ3_checkIndex_8e157 cJ3_checkIndex_8e157 3 (some .int), Cond.methodLink RJ0 498 yJ2_charAt_3b067, Cond.static yJ2_charAt_3b067, Cond.initialized RJ2, Cond.code yJ2_charAt_3b067 cJ2_charAt_3b067 2 (some .char), Cond.methodLink RJ2 67 yJ2_checkIndex_2214a, Cond.static yJ2_checkIndex_2214a, Cond.code yJ2_checkIndex_2214a cJ2_checkIndex_2214a 2 none, Cond.methodLink RJ2 48 yJ2_length_9d52b, Cond.static yJ2_length_9d52b, Cond.code yJ2_length_9d52b cJ2_length_9d52b 1 (some .int), Cond.methodLink RJ2 414 yJ0_checkIndex_df160, Cond.methodLink RJ2 71 yJ2_getChar_3b067, Cond.static yJ2_getChar_3b067, Cond.code yJ2_getChar_3b067 cJ2_getChar_3b067 2 (some .char), Cond.fieldLink RJ2 44 "java/lang/StringUTF16" "$assertionsDisabled" "Z", Cond.fieldLink RJ2 59 "java/lang/StringUTF16" "HI_BYTE_SHIFT" "I", Cond.fieldLink RJ2 63 "java/lang/StringUTF16" "LO_BYTE_SHIFT" "I", Cond.methodLink RX4 116 yX4_isSmall, Cond.static yX4_isSmall, Cond.code yX4_isSmall cX4_isSmall 1 (some .boolean), Cond.methodLink RX4 130 yX4_wrong, Cond.instanceMethod yX4_wrong]
def wsX4_order_r5 : List Cond := [Cond.selects RX4 yX4_wrong yX4_wrong, Cond.code yX4_wrong cX4_wrong 3 none, Cond.methodLink RX4 134 yX4_isDigit, Cond.static yX4_isDigit, Cond.code yX4_isDigit cX4_isDigit 1 (some .boolean), Cond.methodLink RX4 78 yX4_misfitOf, Cond.instanceMethod yX4_misfitOf, Cond.selects RX4 yX4_misfitOf yX4_misfitOf, Cond.code yX4_misfitOf cX4_misfitOf 6 (some .int), Cond.fieldLink RX4 9 "HatWorksModel" "hand" "[I", Cond.fieldLink RX4 13 "HatWorksModel" "rings" "[I"]
def wsX4_order : List Cond := .code yX4_order cX4_order 9 (some .int) :: ((wsX4_order_r1 ++ (wsX4_order_r2 ++ (wsX4_order_r3 ++ (wsX4_order_r4 ++ wsX4_order_r5)))) ++ wsX40)
def wsX4_fault : List Cond := .code yX4_fault cX4_fault 1 (some .int) :: ([.fieldLink RX4 61 "HatWorksModel" "thrown" "I", .fieldLink RX4 20 "HatWorksModel" "place" "I"] ++ wsX40)
def wsX4_isOrder : List Cond := .code yX4_isOrder cX4_isOrder 2 (some .boolean) :: ([.fieldLink RX4 141 "HatWorksModel" "orders" "I", .fieldLink RX4 61 "HatWorksModel" "thrown" "I"] ++ wsX40)
def wsX4_waits : List Cond := .code yX4_waits cX4_waits 2 (some .boolean) :: ([.fieldLink RX4 40 "HatWorksModel" "order" "[I"] ++ wsX40)
def wsX4_told : List Cond := .code yX4_told cX4_told 4 (some .int) :: ([.fieldLink RX4 40 "HatWorksModel" "order" "[I", .fieldLink RX4 150 "HatWorksModel" "now" "I", .methodLink RX4 147 yX4_isOrder, .instanceMethod yX4_isOrder, .selects RX4 yX4_isOrder yX4_isOrder, .initialized RX4, .code yX4_isOrder cX4_isOrder 2 (some .boolean), .fieldLink RX4 141 "HatWorksModel" "orders" "I", .fieldLink RX4 61 "HatWorksModel" "thrown" "I", .methodLink RX4 64 yX4_bad, .instanceMethod yX4_bad, .selects RX4 yX4_bad yX4_bad, .code yX4_bad cX4_bad 3 (some .boolean)] ++ wsX40)
def wsX4_goes : List Cond := .code yX4_goes cX4_goes 5 (some .int) :: ([.fieldLink RX4 40 "HatWorksModel" "order" "[I", .fieldLink RX4 150 "HatWorksModel" "now" "I", .fieldLink RX4 153 "HatWorksModel" "steamer" "I", .fieldLink RX4 34 "HatWorksModel" "blockFree" "[I", .fieldLink RX4 31 "HatWorksModel" "lastSteam" "I", .fieldLink RX4 37 "HatWorksModel" "lastOn" "[I"] ++ wsX40)
def wsX4_go : List Cond := .code yX4_go cX4_go 2 (some .int) :: ([.methodLink RX4 147 yX4_isOrder, .instanceMethod yX4_isOrder, .selects RX4 yX4_isOrder yX4_isOrder, .initialized RX4, .code yX4_isOrder cX4_isOrder 2 (some .boolean), .fieldLink RX4 141 "HatWorksModel" "orders" "I", .fieldLink RX4 61 "HatWorksModel" "thrown" "I", .methodLink RX4 156 yX4_waits, .instanceMethod yX4_waits, .selects RX4 yX4_waits yX4_waits, .code yX4_waits cX4_waits 2 (some .boolean), .fieldLink RX4 40 "HatWorksModel" "order" "[I", .methodLink RX4 159 yX4_goes, .instanceMethod yX4_goes, .selects RX4 yX4_goes yX4_goes, .code yX4_goes cX4_goes 5 (some .int), .fieldLink RX4 150 "HatWorksModel" "now" "I", .fieldLink RX4 153 "HatWorksModel" "steamer" "I", .fieldLink RX4 34 "HatWorksModel" "blockFree" "[I", .fieldLink RX4 31 "HatWorksModel" "lastSteam" "I", .fieldLink RX4 37 "HatWorksModel" "lastOn" "[I"] ++ wsX40)
def wsX4_wait : List Cond := .code yX4_wait cX4_wait 2 (some .int) :: ([.fieldLink RX4 61 "HatWorksModel" "thrown" "I", .fieldLink RX4 150 "HatWorksModel" "now" "I", .constant RX4 140 (1000000), .methodLink RX4 64 yX4_bad, .instanceMethod yX4_bad, .selects RX4 yX4_bad yX4_bad, .initialized RX4, .code yX4_bad cX4_bad 3 (some .boolean)] ++ wsX40)
def wsX4_costOf : List Cond := .code yX4_costOf cX4_costOf 8 (some .long) :: ([.fieldLink RX4 153 "HatWorksModel" "steamer" "I", .fieldLink RX4 71 "HatWorksModel" "blocks" "I", .fieldLink RX4 58 "HatWorksModel" "free" "[I", .fieldLink RX4 34 "HatWorksModel" "blockFree" "[I", .fieldLink RX4 162 "HatWorksModel" "many" "I", .fieldLink RX4 49 "HatWorksModel" "of" "[I", .fieldLink RX4 52 "HatWorksModel" "row" "[I", .fieldLink RX4 40 "HatWorksModel" "order" "[I", .fieldLink RX4 150 "HatWorksModel" "now" "I"] ++ wsX40)
def wsX4_isUsed : List Cond := .code yX4_isUsed cX4_isUsed 4 (some .boolean) :: ([.fieldLink RX4 52 "HatWorksModel" "row" "[I"] ++ wsX40)
def wsX4_plans_r1 : List Cond := [Cond.fieldLink RX4 162 "HatWorksModel" "many" "I", Cond.fieldLink RX4 141 "HatWorksModel" "orders" "I", Cond.fieldLink RX4 49 "HatWorksModel" "of" "[I", Cond.constantLong RX4 165 (-1), Cond.fieldLink RX4 167 "HatWorksModel" "bestCost" "J", Cond.fieldLink RX4 52 "HatWorksModel" "row" "[I", Cond.fieldLink RX4 55 "HatWorksModel" "best" "[I", Cond.methodLink RX4 156 yX4_waits, Cond.instanceMethod yX4_waits, Cond.selects RX4 yX4_waits yX4_waits, Cond.initialized RX4, Cond.code yX4_waits cX4_waits 2 (some .boolean), Cond.fieldLink RX4 40 "HatWorksModel" "order" "[I", Cond.methodLink RX4 171 yX4_costOf, Cond.instanceMethod yX4_costOf, Cond.selects RX4 yX4_costOf yX4_costOf, Cond.code yX4_costOf cX4_costOf 8 (some .long), Cond.fieldLink RX4 153 "HatWorksModel" "steamer" "I", Cond.fieldLink RX4 71 "HatWorksModel" "blocks" "I", Cond.fieldLink RX4 58 "HatWorksModel" "free" "[I", Cond.fieldLink RX4 34 "HatWorksModel" "blockFree" "[I", Cond.fieldLink RX4 150 "HatWorksModel" "now" "I", Cond.methodLink RX4 175 yX4_isUsed, Cond.instanceMethod yX4_isUsed]
def wsX4_plans_r2 : List Cond := [Cond.selects RX4 yX4_isUsed yX4_isUsed, Cond.code yX4_isUsed cX4_isUsed 4 (some .boolean)]
def wsX4_plans : List Cond := .code yX4_plans cX4_plans 8 none :: ((wsX4_plans_r1 ++ wsX4_plans_r2) ++ wsX40)
def wsX4_plan_r1 : List Cond := [Cond.fieldLink RX4 61 "HatWorksModel" "thrown" "I", Cond.fieldLink RX4 162 "HatWorksModel" "many" "I", Cond.fieldLink RX4 167 "HatWorksModel" "bestCost" "J", Cond.methodLink RX4 179 yX4_plans, Cond.instanceMethod yX4_plans, Cond.selects RX4 yX4_plans yX4_plans, Cond.initialized RX4, Cond.code yX4_plans cX4_plans 8 none, Cond.fieldLink RX4 141 "HatWorksModel" "orders" "I", Cond.fieldLink RX4 49 "HatWorksModel" "of" "[I", Cond.constantLong RX4 165 (-1), Cond.fieldLink RX4 52 "HatWorksModel" "row" "[I", Cond.fieldLink RX4 55 "HatWorksModel" "best" "[I", Cond.methodLink RX4 156 yX4_waits, Cond.instanceMethod yX4_waits, Cond.selects RX4 yX4_waits yX4_waits, Cond.code yX4_waits cX4_waits 2 (some .boolean), Cond.fieldLink RX4 40 "HatWorksModel" "order" "[I", Cond.methodLink RX4 171 yX4_costOf, Cond.instanceMethod yX4_costOf, Cond.selects RX4 yX4_costOf yX4_costOf, Cond.code yX4_costOf cX4_costOf 8 (some .long), Cond.fieldLink RX4 153 "HatWorksModel" "steamer" "I", Cond.fieldLink RX4 71 "HatWorksModel" "blocks" "I"]
def wsX4_plan_r2 : List Cond := [Cond.fieldLink RX4 58 "HatWorksModel" "free" "[I", Cond.fieldLink RX4 34 "HatWorksModel" "blockFree" "[I", Cond.fieldLink RX4 150 "HatWorksModel" "now" "I", Cond.methodLink RX4 175 yX4_isUsed, Cond.instanceMethod yX4_isUsed, Cond.selects RX4 yX4_isUsed yX4_isUsed, Cond.code yX4_isUsed cX4_isUsed 4 (some .boolean)]
def wsX4_plan : List Cond := .code yX4_plan cX4_plan 1 (some .long) :: ((wsX4_plan_r1 ++ wsX4_plan_r2) ++ wsX40)
def wsX4_planned_r1 : List Cond := [Cond.fieldLink RX4 61 "HatWorksModel" "thrown" "I", Cond.fieldLink RX4 162 "HatWorksModel" "many" "I", Cond.fieldLink RX4 49 "HatWorksModel" "of" "[I", Cond.fieldLink RX4 55 "HatWorksModel" "best" "[I", Cond.methodLink RX4 179 yX4_plans, Cond.instanceMethod yX4_plans, Cond.selects RX4 yX4_plans yX4_plans, Cond.initialized RX4, Cond.code yX4_plans cX4_plans 8 none, Cond.fieldLink RX4 141 "HatWorksModel" "orders" "I", Cond.constantLong RX4 165 (-1), Cond.fieldLink RX4 167 "HatWorksModel" "bestCost" "J", Cond.fieldLink RX4 52 "HatWorksModel" "row" "[I", Cond.methodLink RX4 156 yX4_waits, Cond.instanceMethod yX4_waits, Cond.selects RX4 yX4_waits yX4_waits, Cond.code yX4_waits cX4_waits 2 (some .boolean), Cond.fieldLink RX4 40 "HatWorksModel" "order" "[I", Cond.methodLink RX4 171 yX4_costOf, Cond.instanceMethod yX4_costOf, Cond.selects RX4 yX4_costOf yX4_costOf, Cond.code yX4_costOf cX4_costOf 8 (some .long), Cond.fieldLink RX4 153 "HatWorksModel" "steamer" "I", Cond.fieldLink RX4 71 "HatWorksModel" "blocks" "I"]
def wsX4_planned_r2 : List Cond := [Cond.fieldLink RX4 58 "HatWorksModel" "free" "[I", Cond.fieldLink RX4 34 "HatWorksModel" "blockFree" "[I", Cond.fieldLink RX4 150 "HatWorksModel" "now" "I", Cond.methodLink RX4 175 yX4_isUsed, Cond.instanceMethod yX4_isUsed, Cond.selects RX4 yX4_isUsed yX4_isUsed, Cond.code yX4_isUsed cX4_isUsed 4 (some .boolean)]
def wsX4_planned : List Cond := .code yX4_planned cX4_planned 2 (some .int) :: ((wsX4_planned_r1 ++ wsX4_planned_r2) ++ wsX40)
def wsX4_run_r1 : List Cond := [Cond.fieldLink RX4 61 "HatWorksModel" "thrown" "I", Cond.fieldLink RX4 162 "HatWorksModel" "many" "I", Cond.fieldLink RX4 49 "HatWorksModel" "of" "[I", Cond.fieldLink RX4 55 "HatWorksModel" "best" "[I", Cond.methodLink RX4 179 yX4_plans, Cond.instanceMethod yX4_plans, Cond.selects RX4 yX4_plans yX4_plans, Cond.initialized RX4, Cond.code yX4_plans cX4_plans 8 none, Cond.fieldLink RX4 141 "HatWorksModel" "orders" "I", Cond.constantLong RX4 165 (-1), Cond.fieldLink RX4 167 "HatWorksModel" "bestCost" "J", Cond.fieldLink RX4 52 "HatWorksModel" "row" "[I", Cond.methodLink RX4 156 yX4_waits, Cond.instanceMethod yX4_waits, Cond.selects RX4 yX4_waits yX4_waits, Cond.code yX4_waits cX4_waits 2 (some .boolean), Cond.fieldLink RX4 40 "HatWorksModel" "order" "[I", Cond.methodLink RX4 171 yX4_costOf, Cond.instanceMethod yX4_costOf, Cond.selects RX4 yX4_costOf yX4_costOf, Cond.code yX4_costOf cX4_costOf 8 (some .long), Cond.fieldLink RX4 153 "HatWorksModel" "steamer" "I", Cond.fieldLink RX4 71 "HatWorksModel" "blocks" "I"]
def wsX4_run_r2 : List Cond := [Cond.fieldLink RX4 58 "HatWorksModel" "free" "[I", Cond.fieldLink RX4 34 "HatWorksModel" "blockFree" "[I", Cond.fieldLink RX4 150 "HatWorksModel" "now" "I", Cond.methodLink RX4 175 yX4_isUsed, Cond.instanceMethod yX4_isUsed, Cond.selects RX4 yX4_isUsed yX4_isUsed, Cond.code yX4_isUsed cX4_isUsed 4 (some .boolean), Cond.methodLink RX4 159 yX4_goes, Cond.instanceMethod yX4_goes, Cond.selects RX4 yX4_goes yX4_goes, Cond.code yX4_goes cX4_goes 5 (some .int), Cond.fieldLink RX4 31 "HatWorksModel" "lastSteam" "I", Cond.fieldLink RX4 37 "HatWorksModel" "lastOn" "[I"]
def wsX4_run : List Cond := .code yX4_run cX4_run 2 (some .int) :: ((wsX4_run_r1 ++ wsX4_run_r2) ++ wsX40)
def wsX4_late : List Cond := .code yX4_late cX4_late 5 (some .int) :: ([.fieldLink RX4 61 "HatWorksModel" "thrown" "I", .fieldLink RX4 141 "HatWorksModel" "orders" "I", .fieldLink RX4 150 "HatWorksModel" "now" "I", .fieldLink RX4 40 "HatWorksModel" "order" "[I", .methodLink RX4 156 yX4_waits, .instanceMethod yX4_waits, .selects RX4 yX4_waits yX4_waits, .initialized RX4, .code yX4_waits cX4_waits 2 (some .boolean)] ++ wsX40)
def wsX4_fit : List Cond := .code yX4_fit cX4_fit 3 (some .int) :: ([.fieldLink RX4 40 "HatWorksModel" "order" "[I", .fieldLink RX4 150 "HatWorksModel" "now" "I", .fieldLink RX4 46 "HatWorksModel" "isTold" "[Z", .fieldLink RX4 43 "HatWorksModel" "fits" "[I", .methodLink RX4 147 yX4_isOrder, .instanceMethod yX4_isOrder, .selects RX4 yX4_isOrder yX4_isOrder, .initialized RX4, .code yX4_isOrder cX4_isOrder 2 (some .boolean), .fieldLink RX4 141 "HatWorksModel" "orders" "I", .fieldLink RX4 61 "HatWorksModel" "thrown" "I", .methodLink RX4 64 yX4_bad, .instanceMethod yX4_bad, .selects RX4 yX4_bad yX4_bad, .code yX4_bad cX4_bad 3 (some .boolean), .methodLink RX4 156 yX4_waits, .instanceMethod yX4_waits, .selects RX4 yX4_waits yX4_waits, .code yX4_waits cX4_waits 2 (some .boolean)] ++ wsX40)
def wsX4_wear : List Cond := .code yX4_wear cX4_wear 5 (some .int) :: ([.fieldLink RX4 141 "HatWorksModel" "orders" "I", .fieldLink RX4 40 "HatWorksModel" "order" "[I", .fieldLink RX4 46 "HatWorksModel" "isTold" "[Z", .fieldLink RX4 43 "HatWorksModel" "fits" "[I", .methodLink RX4 74 yX4_isBlock, .instanceMethod yX4_isBlock, .selects RX4 yX4_isBlock yX4_isBlock, .initialized RX4, .code yX4_isBlock cX4_isBlock 2 (some .boolean), .fieldLink RX4 71 "HatWorksModel" "blocks" "I", .fieldLink RX4 61 "HatWorksModel" "thrown" "I", .methodLink RX4 64 yX4_bad, .instanceMethod yX4_bad, .selects RX4 yX4_bad yX4_bad, .code yX4_bad cX4_bad 3 (some .boolean), .methodLink RX4 156 yX4_waits, .instanceMethod yX4_waits, .selects RX4 yX4_waits yX4_waits, .code yX4_waits cX4_waits 2 (some .boolean)] ++ wsX40)
def wsX4_count : List Cond := .code yX4_count cX4_count 4 (some .int) :: ([.fieldLink RX4 61 "HatWorksModel" "thrown" "I", .fieldLink RX4 71 "HatWorksModel" "blocks" "I", .fieldLink RX4 141 "HatWorksModel" "orders" "I", .fieldLink RX4 150 "HatWorksModel" "now" "I", .fieldLink RX4 68 "HatWorksModel" "handMany" "I", .fieldLink RX4 82 "HatWorksModel" "taped" "I", .fieldLink RX4 153 "HatWorksModel" "steamer" "I", .methodLink RX4 156 yX4_waits, .instanceMethod yX4_waits, .selects RX4 yX4_waits yX4_waits, .initialized RX4, .code yX4_waits cX4_waits 2 (some .boolean), .fieldLink RX4 40 "HatWorksModel" "order" "[I"] ++ wsX40)
def wsJ9_max_7cf53 : List Cond := .code yJ9_max_7cf53 cJ9_max_7cf53 2 (some .int) :: ([])
def wsJ9_min_7cf53 : List Cond := .code yJ9_min_7cf53 cJ9_min_7cf53 2 (some .int) :: ([])
def wsL_push : List Cond := .codeWith yL_push cL_push 4 (some .int) [(0, 9, 12, 13)] :: ([.classLink RL 13 "java/lang/IllegalArgumentException", .methodLink RL 7 yX3_push, .instanceMethod yX3_push, .selects RX3 yX3_push yX3_push, .initialized RX3, .code yX3_push cX3_push 2 (some .int), .classLink RX3 62 "java/lang/IllegalArgumentException", .initialized "java/lang/IllegalArgumentException", .fieldLink RX3 39 "HatWorks" "handSize" "I", .fieldLink RX3 9 "HatWorks" "hand" "[I"] ++ wsX30 ++ (vx_atS RX3 66 "java/lang/IllegalArgumentException" ["java/lang/RuntimeException", "java/lang/Exception"]).filter goodWord)
def wsL_block : List Cond := .codeWith yL_block cL_block 3 (some .int) [(0, 8, 11, 19)] :: ([.classLink RL 19 "java/lang/IllegalStateException", .methodLink RL 15 yX3_block, .instanceMethod yX3_block, .selects RX3 yX3_block yX3_block, .initialized RX3, .code yX3_block cX3_block 1 (some .int), .classLink RX3 72 "java/lang/IllegalStateException", .initialized "java/lang/IllegalStateException", .fieldLink RX3 23 "HatWorks" "blocks" "LHatWorks$Blocks;", .fieldLink RX3 69 "HatWorks$Blocks" "size" "I", .fieldLink RX3 39 "HatWorks" "handSize" "I", .fieldLink RX3 9 "HatWorks" "hand" "[I", .methodLink RX3 77 yX0_add, .instanceMethod yX0_add, .selects RX0 yX0_add yX0_add, .initialized RX0, .code yX0_add cX0_add 4 (some .int), .fieldLink RX0 26 "HatWorks$Blocks" "size" "I", .fieldLink RX0 11 "HatWorks$Blocks" "rings" "[[I", .fieldLink RX0 23 "HatWorks$Blocks" "latest" "[I"] ++ wsX30 ++ wsX00 ++ (vx_atS RX3 76 "java/lang/IllegalStateException" ["java/lang/RuntimeException", "java/lang/Exception"]).filter goodWord)
def wsL_order_r1 : List Cond := [Cond.classLink RL 13 "java/lang/IllegalArgumentException", Cond.methodLink RL 21 yX3_order, Cond.instanceMethod yX3_order, Cond.selects RX3 yX3_order yX3_order, Cond.initialized RX3, Cond.code yX3_order cX3_order 5 (some .int), Cond.fieldLink RX3 39 "HatWorks" "handSize" "I", Cond.fieldLink RX3 23 "HatWorks" "blocks" "LHatWorks$Blocks;", Cond.fieldLink RX3 69 "HatWorks$Blocks" "size" "I", Cond.fieldLink RX3 43 "HatWorks" "orderCount" "I", Cond.fieldLink RX3 16 "HatWorks" "tape" "LHatWorks$Tape;", Cond.fieldLink RX3 94 "HatWorks$Tape" "faultPlace" "I", Cond.fieldLink RX3 55 "HatWorks" "faultPlace" "I", Cond.fieldLink RX3 81 "HatWorks$Tape" "size" "I", Cond.methodLink RX3 86 yX3_checkOrderArguments, Cond.instanceMethod yX3_checkOrderArguments, Cond.selects RX3 yX3_checkOrderArguments yX3_checkOrderArguments, Cond.code yX3_checkOrderArguments cX3_checkOrderArguments 4 none, Cond.classLink RX3 62 "java/lang/IllegalArgumentException", Cond.initialized "java/lang/IllegalArgumentException", Cond.constant RX3 125 (1000000), Cond.methodLink RX3 90 yX2_readHat, Cond.instanceMethod yX2_readHat, Cond.selects RX2 yX2_readHat yX2_readHat]
def wsL_order_r2 : List Cond := [Cond.initialized RX2, Cond.code yX2_readHat cX2_readHat 4 (some .int), Cond.fieldLink RX2 26 "HatWorks$Tape" "fault" "I", Cond.fieldLink RX2 15 "HatWorks$Tape" "parts" "[I", Cond.fieldLink RX2 19 "HatWorks$Tape" "length" "I", Cond.methodLink RX2 35 yX2_startReading, Cond.instanceMethod yX2_startReading, Cond.selects RX2 yX2_startReading yX2_startReading, Cond.code yX2_startReading cX2_startReading 3 none, Cond.fieldLink RX2 23 "HatWorks$Tape" "at" "I", Cond.fieldLink RX2 29 "HatWorks$Tape" "faultPlace" "I", Cond.methodLink RX2 39 yX2_readPart, Cond.instanceMethod yX2_readPart, Cond.selects RX2 yX2_readPart yX2_readPart, Cond.code yX2_readPart cX2_readPart 5 (some .boolean), Cond.fieldLink RX2 67 "HatWorks$Tape" "LEAST" "[I", Cond.fieldLink RX2 70 "HatWorks$Tape" "MOST" "[I", Cond.methodLink RX2 54 yX2_skipBlanks, Cond.instanceMethod yX2_skipBlanks, Cond.selects RX2 yX2_skipBlanks yX2_skipBlanks, Cond.code yX2_skipBlanks cX2_skipBlanks 1 none, Cond.fieldLink RX2 9 "HatWorks$Tape" "bytes" "[B", Cond.methodLink RX2 57 yX2_skipLetters, Cond.instanceMethod yX2_skipLetters]
def wsL_order_r3 : List Cond := [Cond.selects RX2 yX2_skipLetters yX2_skipLetters, Cond.code yX2_skipLetters cX2_skipLetters 1 none, Cond.methodLink RX2 60 yX2_partNamed, Cond.instanceMethod yX2_partNamed, Cond.selects RX2 yX2_partNamed yX2_partNamed, Cond.code yX2_partNamed cX2_partNamed 3 (some .int), Cond.methodLink RX2 79 yX2_nameOf, Cond.static yX2_nameOf, Cond.code yX2_nameOf cX2_nameOf 1 (some (.object "java/lang/String")), Cond.methodLink RX2 83 yX2_isWord, Cond.instanceMethod yX2_isWord, Cond.selects RX2 yX2_isWord yX2_isWord, Cond.code yX2_isWord cX2_isWord 4 (some .boolean), Cond.methodLink RX2 87 yJ0_length_8abf5, Cond.instanceMethod yJ0_length_8abf5, Cond.selects RJ0 yJ0_length_8abf5 yJ0_length_8abf5, Cond.initialized RJ0, Cond.code yJ0_length_8abf5 cJ0_length_8abf5 1 (some .int), Cond.fieldLink RJ0 9 "java/lang/String" "value" "[B", Cond.methodLink RJ0 335 yJ0_coder_7d493, Cond.instanceMethod yJ0_coder_7d493, Cond.selects RJ0 yJ0_coder_7d493 yJ0_coder_7d493, Cond.code yJ0_coder_7d493 cJ0_coder_7d493 1 (some .byte), Cond.fieldLink RJ0 38 "java/lang/String" "COMPACT_STRINGS" "Z"]
def wsL_order_r4 : List Cond := [Cond.fieldLink RJ0 15 "java/lang/String" "coder" "B", Cond.methodLink RX2 91 yJ0_charAt_5068e, Cond.instanceMethod yJ0_charAt_5068e, Cond.selects RJ0 yJ0_charAt_5068e yJ0_charAt_5068e, Cond.code yJ0_charAt_5068e cJ0_charAt_5068e 2 (some .char), Cond.methodLink RJ0 492 yJ0_isLatin1_aae02, Cond.instanceMethod yJ0_isLatin1_aae02, Cond.selects RJ0 yJ0_isLatin1_aae02 yJ0_isLatin1_aae02, Cond.code yJ0_isLatin1_aae02 cJ0_isLatin1_aae02 1 (some .boolean), Cond.methodLink RJ0 495 yJ1_charAt_3b067, Cond.static yJ1_charAt_3b067, Cond.initialized RJ1, Cond.code yJ1_charAt_3b067 cJ1_charAt_3b067 2 (some .char), Cond.methodLink RJ1 9 yJ0_checkIndex_df160, Cond.static yJ0_checkIndex_df160, Cond.code yJ0_checkIndex_df160 cJ0_checkIndex_df160 2 none, Cond.fieldLink RJ0 1053 "jdk/internal/util/Preconditions" "SIOOBE_FORMATTER" "Ljava/util/function/BiFunction;", Cond.methodLink RJ0 1059 yJ3_checkIndex_8e157, Cond.static yJ3_checkIndex_8e157, Cond.initialized RJ3, Cond.code yJ3_checkIndex_8e157 cJ3_checkIndex_8e157 3 (some .int), Cond.methodLink RJ0 498 yJ2_charAt_3b067, Cond.static yJ2_charAt_3b067, Cond.initialized RJ2]
def wsL_order_r5 : List Cond := [Cond.code yJ2_charAt_3b067 cJ2_charAt_3b067 2 (some .char), Cond.methodLink RJ2 67 yJ2_checkIndex_2214a, Cond.static yJ2_checkIndex_2214a, Cond.code yJ2_checkIndex_2214a cJ2_checkIndex_2214a 2 none, Cond.methodLink RJ2 48 yJ2_length_9d52b, Cond.static yJ2_length_9d52b, Cond.code yJ2_length_9d52b cJ2_length_9d52b 1 (some .int), Cond.methodLink RJ2 414 yJ0_checkIndex_df160, Cond.methodLink RJ2 71 yJ2_getChar_3b067, Cond.static yJ2_getChar_3b067, Cond.code yJ2_getChar_3b067 cJ2_getChar_3b067 2 (some .char), Cond.fieldLink RJ2 44 "java/lang/StringUTF16" "$assertionsDisabled" "Z", Cond.fieldLink RJ2 59 "java/lang/StringUTF16" "HI_BYTE_SHIFT" "I", Cond.fieldLink RJ2 63 "java/lang/StringUTF16" "LO_BYTE_SHIFT" "I", Cond.methodLink RX2 46 yX2_blame, Cond.instanceMethod yX2_blame, Cond.selects RX2 yX2_blame yX2_blame, Cond.code yX2_blame cX2_blame 3 none, Cond.methodLink RX2 63 yX2_readNumber, Cond.instanceMethod yX2_readNumber, Cond.selects RX2 yX2_readNumber yX2_readNumber, Cond.code yX2_readNumber cX2_readNumber 2 (some .int), Cond.methodLink RX2 73 Lib.Math.min.name, Cond.static Lib.Math.min.name]
def wsL_order_r6 : List Cond := [Cond.initialized "java/lang/Math", Cond.code Lib.Math.min.name Lib.Math.min.code 2 (some .int), Cond.methodLink RX2 43 yX2_readComma, Cond.instanceMethod yX2_readComma, Cond.selects RX2 yX2_readComma yX2_readComma, Cond.code yX2_readComma cX2_readComma 1 (some .boolean), Cond.methodLink RX3 95 yX3_addOrder, Cond.instanceMethod yX3_addOrder, Cond.selects RX3 yX3_addOrder yX3_addOrder, Cond.code yX3_addOrder cX3_addOrder 5 (some .int), Cond.fieldLink RX3 29 "HatWorks" "orders" "[[I", Cond.fieldLink RX3 9 "HatWorks" "hand" "[I", Cond.fieldLink RX3 58 "HatWorks" "bestStands" "Z", Cond.methodLink RX3 169 yX0_match, Cond.instanceMethod yX0_match, Cond.selects RX0 yX0_match yX0_match, Cond.initialized RX0, Cond.code yX0_match cX0_match 7 none, Cond.constant RX0 32 (2147483647), Cond.fieldLink RX0 26 "HatWorks$Blocks" "size" "I", Cond.methodLink RX0 33 yX0_misfitOf, Cond.instanceMethod yX0_misfitOf, Cond.selects RX0 yX0_misfitOf yX0_misfitOf, Cond.code yX0_misfitOf cX0_misfitOf 9 (some .int)]
def wsL_order_r7 : List Cond := [Cond.fieldLink RX0 11 "HatWorks$Blocks" "rings" "[[I", Cond.methodLink RX3 173 yX2_price, Cond.instanceMethod yX2_price, Cond.selects RX2 yX2_price yX2_price, Cond.code yX2_price cX2_price 2 (some .int), Cond.methodLink RX2 50 yX2_valueOf, Cond.instanceMethod yX2_valueOf, Cond.selects RX2 yX2_valueOf yX2_valueOf, Cond.code yX2_valueOf cX2_valueOf 2 (some .int), Cond.methodLink RX3 176 yX2_steamMinutes, Cond.instanceMethod yX2_steamMinutes, Cond.selects RX2 yX2_steamMinutes yX2_steamMinutes, Cond.code yX2_steamMinutes cX2_steamMinutes 1 (some .int), Cond.methodLink RX3 179 yX2_onMinutes, Cond.instanceMethod yX2_onMinutes, Cond.selects RX2 yX2_onMinutes yX2_onMinutes, Cond.code yX2_onMinutes cX2_onMinutes 1 (some .int)]
def wsL_order : List Cond := .codeWith yL_order cL_order 6 (some .int) [(0, 12, 15, 13)] :: ((wsL_order_r1 ++ (wsL_order_r2 ++ (wsL_order_r3 ++ (wsL_order_r4 ++ (wsL_order_r5 ++ (wsL_order_r6 ++ wsL_order_r7)))))) ++ wsX30 ++ wsX00 ++ wsX20 ++ (vx_atS RX3 66 "java/lang/IllegalArgumentException" ["java/lang/RuntimeException", "java/lang/Exception"]).filter goodWord)
def wsL_misfit_r1 : List Cond := [Cond.classLink RL 29 "java/lang/IndexOutOfBoundsException", Cond.classLink RL 13 "java/lang/IllegalArgumentException", Cond.methodLink RL 25 yX3_misfit, Cond.instanceMethod yX3_misfit, Cond.selects RX3 yX3_misfit yX3_misfit, Cond.initialized RX3, Cond.code yX3_misfit cX3_misfit 3 (some .int), Cond.classLink RX3 62 "java/lang/IllegalArgumentException", Cond.initialized "java/lang/IllegalArgumentException", Cond.fieldLink RX3 39 "HatWorks" "handSize" "I", Cond.fieldLink RX3 23 "HatWorks" "blocks" "LHatWorks$Blocks;", Cond.fieldLink RX3 9 "HatWorks" "hand" "[I", Cond.methodLink RX3 99 yX3_checkBlock, Cond.instanceMethod yX3_checkBlock, Cond.selects RX3 yX3_checkBlock yX3_checkBlock, Cond.code yX3_checkBlock cX3_checkBlock 2 none, Cond.classLink RX3 156 "java/lang/IndexOutOfBoundsException", Cond.initialized "java/lang/IndexOutOfBoundsException", Cond.fieldLink RX3 69 "HatWorks$Blocks" "size" "I", Cond.methodLink RX3 104 yX0_misfitOf, Cond.instanceMethod yX0_misfitOf, Cond.selects RX0 yX0_misfitOf yX0_misfitOf, Cond.initialized RX0, Cond.code yX0_misfitOf cX0_misfitOf 9 (some .int)]
def wsL_misfit_r2 : List Cond := [Cond.fieldLink RX0 11 "HatWorks$Blocks" "rings" "[[I"]
def wsL_misfit : List Cond := .codeWith yL_misfit cL_misfit 5 (some .int) [(0, 10, 13, 29), (0, 10, 17, 13)] :: ((wsL_misfit_r1 ++ wsL_misfit_r2) ++ wsX30 ++ wsX00 ++ (vx_atS RX3 66 "java/lang/IllegalArgumentException" ["java/lang/RuntimeException", "java/lang/Exception"]).filter goodWord ++ (vx_atS RX3 160 "java/lang/IndexOutOfBoundsException" ["java/lang/RuntimeException", "java/lang/Exception"]).filter goodWord)
def wsL_told_r1 : List Cond := [Cond.classLink RL 29 "java/lang/IndexOutOfBoundsException", Cond.classLink RL 13 "java/lang/IllegalArgumentException", Cond.methodLink RL 31 yX3_told, Cond.instanceMethod yX3_told, Cond.selects RX3 yX3_told yX3_told, Cond.initialized RX3, Cond.code yX3_told cX3_told 3 (some .int), Cond.classLink RX3 62 "java/lang/IllegalArgumentException", Cond.initialized "java/lang/IllegalArgumentException", Cond.fieldLink RX3 29 "HatWorks" "orders" "[[I", Cond.methodLink RX3 108 yX3_checkOrder, Cond.instanceMethod yX3_checkOrder, Cond.selects RX3 yX3_checkOrder yX3_checkOrder, Cond.code yX3_checkOrder cX3_checkOrder 2 none, Cond.classLink RX3 156 "java/lang/IndexOutOfBoundsException", Cond.initialized "java/lang/IndexOutOfBoundsException", Cond.fieldLink RX3 43 "HatWorks" "orderCount" "I", Cond.methodLink RX3 113 yX3_stateOf, Cond.instanceMethod yX3_stateOf, Cond.selects RX3 yX3_stateOf yX3_stateOf, Cond.code yX3_stateOf cX3_stateOf 2 (some .int), Cond.methodLink RX3 116 yX3_isWaiting, Cond.instanceMethod yX3_isWaiting, Cond.selects RX3 yX3_isWaiting yX3_isWaiting]
def wsL_told_r2 : List Cond := [Cond.code yX3_isWaiting cX3_isWaiting 2 (some .boolean), Cond.methodLink RX3 144 yX3_isDone, Cond.instanceMethod yX3_isDone, Cond.selects RX3 yX3_isDone yX3_isDone, Cond.code yX3_isDone cX3_isDone 2 (some .boolean), Cond.fieldLink RX3 46 "HatWorks" "now" "I"]
def wsL_told : List Cond := .codeWith yL_told cL_told 5 (some .int) [(0, 10, 13, 29), (0, 10, 17, 13)] :: ((wsL_told_r1 ++ wsL_told_r2) ++ wsX30 ++ (vx_atS RX3 66 "java/lang/IllegalArgumentException" ["java/lang/RuntimeException", "java/lang/Exception"]).filter goodWord ++ (vx_atS RX3 160 "java/lang/IndexOutOfBoundsException" ["java/lang/RuntimeException", "java/lang/Exception"]).filter goodWord)
def wsL_go_r1 : List Cond := [Cond.classLink RL 29 "java/lang/IndexOutOfBoundsException", Cond.methodLink RL 34 yX3_go, Cond.instanceMethod yX3_go, Cond.selects RX3 yX3_go yX3_go, Cond.initialized RX3, Cond.code yX3_go cX3_go 2 (some .int), Cond.methodLink RX3 108 yX3_checkOrder, Cond.instanceMethod yX3_checkOrder, Cond.selects RX3 yX3_checkOrder yX3_checkOrder, Cond.code yX3_checkOrder cX3_checkOrder 2 none, Cond.classLink RX3 156 "java/lang/IndexOutOfBoundsException", Cond.initialized "java/lang/IndexOutOfBoundsException", Cond.fieldLink RX3 43 "HatWorks" "orderCount" "I", Cond.methodLink RX3 116 yX3_isWaiting, Cond.instanceMethod yX3_isWaiting, Cond.selects RX3 yX3_isWaiting yX3_isWaiting, Cond.code yX3_isWaiting cX3_isWaiting 2 (some .boolean), Cond.fieldLink RX3 29 "HatWorks" "orders" "[[I", Cond.methodLink RX3 120 yX3_send, Cond.instanceMethod yX3_send, Cond.selects RX3 yX3_send yX3_send, Cond.code yX3_send cX3_send 5 (some .int), Cond.fieldLink RX3 46 "HatWorks" "now" "I", Cond.fieldLink RX3 49 "HatWorks" "steamerFree" "I"]
def wsL_go_r2 : List Cond := [Cond.fieldLink RX3 23 "HatWorks" "blocks" "LHatWorks$Blocks;", Cond.fieldLink RX3 187 "HatWorks$Blocks" "freeFrom" "[I", Cond.fieldLink RX3 52 "HatWorks" "steamerLatest" "I", Cond.fieldLink RX3 197 "HatWorks$Blocks" "latest" "[I", Cond.fieldLink RX3 147 "HatWorks$Blocks" "wears" "[[I", Cond.fieldLink RX3 58 "HatWorks" "bestStands" "Z", Cond.methodLink RX3 190 yX3_startOf, Cond.static yX3_startOf, Cond.code yX3_startOf cX3_startOf 4 (some .int), Cond.methodLink RX3 182 Lib.Math.max.name, Cond.static Lib.Math.max.name, Cond.initialized "java/lang/Math", Cond.code Lib.Math.max.name Lib.Math.max.code 2 (some .int), Cond.methodLink RX3 194 yX3_holderOf, Cond.instanceMethod yX3_holderOf, Cond.selects RX3 yX3_holderOf yX3_holderOf, Cond.code yX3_holderOf cX3_holderOf 3 (some .int)]
def wsL_go : List Cond := .codeWith yL_go cL_go 4 (some .int) [(0, 9, 12, 29)] :: ((wsL_go_r1 ++ wsL_go_r2) ++ wsX30 ++ wsX00 ++ (vx_atS RX3 160 "java/lang/IndexOutOfBoundsException" ["java/lang/RuntimeException", "java/lang/Exception"]).filter goodWord)
def wsL_wait : List Cond := .codeWith yL_wait cL_wait 4 (some .int) [(0, 9, 12, 13)] :: ([.classLink RL 13 "java/lang/IllegalArgumentException", .methodLink RL 37 yX3_wait, .instanceMethod yX3_wait, .selects RX3 yX3_wait yX3_wait, .initialized RX3, .code yX3_wait cX3_wait 2 (some .int), .classLink RX3 62 "java/lang/IllegalArgumentException", .initialized "java/lang/IllegalArgumentException", .fieldLink RX3 46 "HatWorks" "now" "I", .constant RX3 125 (1000000), .fieldLink RX3 58 "HatWorks" "bestStands" "Z"] ++ wsX30 ++ (vx_atS RX3 66 "java/lang/IllegalArgumentException" ["java/lang/RuntimeException", "java/lang/Exception"]).filter goodWord)
def wsL_fit_r1 : List Cond := [Cond.classLink RL 29 "java/lang/IndexOutOfBoundsException", Cond.classLink RL 13 "java/lang/IllegalArgumentException", Cond.methodLink RL 40 yX3_fit, Cond.instanceMethod yX3_fit, Cond.selects RX3 yX3_fit yX3_fit, Cond.initialized RX3, Cond.code yX3_fit cX3_fit 5 (some .int), Cond.classLink RX3 62 "java/lang/IllegalArgumentException", Cond.initialized "java/lang/IllegalArgumentException", Cond.fieldLink RX3 29 "HatWorks" "orders" "[[I", Cond.fieldLink RX3 23 "HatWorks" "blocks" "LHatWorks$Blocks;", Cond.fieldLink RX3 147 "HatWorks$Blocks" "wears" "[[I", Cond.methodLink RX3 108 yX3_checkOrder, Cond.instanceMethod yX3_checkOrder, Cond.selects RX3 yX3_checkOrder yX3_checkOrder, Cond.code yX3_checkOrder cX3_checkOrder 2 none, Cond.classLink RX3 156 "java/lang/IndexOutOfBoundsException", Cond.initialized "java/lang/IndexOutOfBoundsException", Cond.fieldLink RX3 43 "HatWorks" "orderCount" "I", Cond.methodLink RX3 144 yX3_isDone, Cond.instanceMethod yX3_isDone, Cond.selects RX3 yX3_isDone yX3_isDone, Cond.code yX3_isDone cX3_isDone 2 (some .boolean), Cond.fieldLink RX3 46 "HatWorks" "now" "I"]
def wsL_fit_r2 : List Cond := [Cond.methodLink RX3 116 yX3_isWaiting, Cond.instanceMethod yX3_isWaiting, Cond.selects RX3 yX3_isWaiting yX3_isWaiting, Cond.code yX3_isWaiting cX3_isWaiting 2 (some .boolean)]
def wsL_fit : List Cond := .codeWith yL_fit cL_fit 5 (some .int) [(0, 10, 13, 29), (0, 10, 17, 13)] :: ((wsL_fit_r1 ++ wsL_fit_r2) ++ wsX30 ++ wsX00 ++ (vx_atS RX3 66 "java/lang/IllegalArgumentException" ["java/lang/RuntimeException", "java/lang/Exception"]).filter goodWord ++ (vx_atS RX3 160 "java/lang/IndexOutOfBoundsException" ["java/lang/RuntimeException", "java/lang/Exception"]).filter goodWord)
def wsL_wear : List Cond := .codeWith yL_wear cL_wear 5 (some .int) [(0, 10, 13, 29), (0, 10, 17, 13)] :: ([.classLink RL 29 "java/lang/IndexOutOfBoundsException", .classLink RL 13 "java/lang/IllegalArgumentException", .methodLink RL 43 yX3_wear, .instanceMethod yX3_wear, .selects RX3 yX3_wear yX3_wear, .initialized RX3, .code yX3_wear cX3_wear 3 (some .int), .classLink RX3 62 "java/lang/IllegalArgumentException", .initialized "java/lang/IllegalArgumentException", .fieldLink RX3 23 "HatWorks" "blocks" "LHatWorks$Blocks;", .fieldLink RX3 147 "HatWorks$Blocks" "wears" "[[I", .methodLink RX3 99 yX3_checkBlock, .instanceMethod yX3_checkBlock, .selects RX3 yX3_checkBlock yX3_checkBlock, .code yX3_checkBlock cX3_checkBlock 2 none, .classLink RX3 156 "java/lang/IndexOutOfBoundsException", .initialized "java/lang/IndexOutOfBoundsException", .fieldLink RX3 69 "HatWorks$Blocks" "size" "I"] ++ wsX30 ++ wsX00 ++ (vx_atS RX3 66 "java/lang/IllegalArgumentException" ["java/lang/RuntimeException", "java/lang/Exception"]).filter goodWord ++ (vx_atS RX3 160 "java/lang/IndexOutOfBoundsException" ["java/lang/RuntimeException", "java/lang/Exception"]).filter goodWord)
def wsL_law0_r1 : List Cond := [Cond.classLink RL 8 RX3, Cond.instantiable RX3 12, Cond.initialized RX3, Cond.classLink RL 47 RX4, Cond.instantiable RX4 28, Cond.initialized RX4, Cond.arrayClass .long, Cond.methodLink RL 46 yX3_init, Cond.instanceMethod yX3_init, Cond.code yX3_init cX3_init 1 none, Cond.methodLink RX3 1 objectInit, Cond.instanceMethod objectInit, Cond.code objectInit ⟨#[0xb1]⟩ 1 none, Cond.arrayClass .int, Cond.fieldLink RX3 9 "HatWorks" "hand" "[I", Cond.classLink RX3 13 RX2, Cond.instantiable RX2 7, Cond.initialized RX2, Cond.fieldLink RX3 16 "HatWorks" "tape" "LHatWorks$Tape;", Cond.classLink RX3 20 RX0, Cond.instantiable RX0 5, Cond.initialized RX0, Cond.fieldLink RX3 23 "HatWorks" "blocks" "LHatWorks$Blocks;", Cond.classLink RX3 27 "[[I"]
def wsL_law0_r2 : List Cond := [Cond.fieldLink RX3 29 "HatWorks" "orders" "[[I", Cond.classLink RX3 32 RX1, Cond.instantiable RX1 12, Cond.initialized RX1, Cond.fieldLink RX3 35 "HatWorks" "planner" "LHatWorks$Planner;", Cond.fieldLink RX3 39 "HatWorks" "handSize" "I", Cond.fieldLink RX3 43 "HatWorks" "orderCount" "I", Cond.fieldLink RX3 46 "HatWorks" "now" "I", Cond.fieldLink RX3 49 "HatWorks" "steamerFree" "I", Cond.fieldLink RX3 52 "HatWorks" "steamerLatest" "I", Cond.fieldLink RX3 55 "HatWorks" "faultPlace" "I", Cond.fieldLink RX3 58 "HatWorks" "bestStands" "Z", Cond.instanceMethod yX2_init, Cond.code yX2_init cX2_init 1 none, Cond.methodLink RX2 3 objectInit, Cond.arrayClass .byte, Cond.fieldLink RX2 9 "HatWorks$Tape" "bytes" "[B", Cond.fieldLink RX2 15 "HatWorks$Tape" "parts" "[I", Cond.fieldLink RX2 19 "HatWorks$Tape" "length" "I", Cond.fieldLink RX2 23 "HatWorks$Tape" "at" "I", Cond.fieldLink RX2 26 "HatWorks$Tape" "fault" "I", Cond.fieldLink RX2 29 "HatWorks$Tape" "faultPlace" "I", Cond.fieldLink RX2 32 "HatWorks$Tape" "size" "I", Cond.instanceMethod yX0_init]
def wsL_law0_r3 : List Cond := [Cond.code yX0_init cX0_init 1 none, Cond.methodLink RX0 3 objectInit, Cond.classLink RX0 9 "[[I", Cond.fieldLink RX0 11 "HatWorks$Blocks" "rings" "[[I", Cond.fieldLink RX0 16 "HatWorks$Blocks" "wears" "[[I", Cond.fieldLink RX0 19 "HatWorks$Blocks" "freeFrom" "[I", Cond.fieldLink RX0 23 "HatWorks$Blocks" "latest" "[I", Cond.fieldLink RX0 26 "HatWorks$Blocks" "size" "I", Cond.instanceMethod yX1_init, Cond.code yX1_init cX1_init 1 none, Cond.methodLink RX1 3 objectInit, Cond.fieldLink RX1 9 "HatWorks$Planner" "numbers" "[I", Cond.fieldLink RX1 15 "HatWorks$Planner" "onBlock" "[I", Cond.fieldLink RX1 18 "HatWorks$Planner" "steams" "[I", Cond.fieldLink RX1 21 "HatWorks$Planner" "ons" "[I", Cond.fieldLink RX1 24 "HatWorks$Planner" "weights" "[I", Cond.arrayClass .boolean, Cond.fieldLink RX1 27 "HatWorks$Planner" "gone" "[Z", Cond.fieldLink RX1 31 "HatWorks$Planner" "tried" "[I", Cond.fieldLink RX1 34 "HatWorks$Planner" "best" "[I", Cond.fieldLink RX1 37 "HatWorks$Planner" "blockFree" "[I", Cond.fieldLink RX1 40 "HatWorks$Planner" "minute" "I", Cond.fieldLink RX1 44 "HatWorks$Planner" "leastCost" "J", Cond.fieldLink RX1 48 "HatWorks$Planner" "size" "I"]
def wsL_law0_r4 : List Cond := [Cond.methodLink RL 49 yX4_init, Cond.instanceMethod yX4_init, Cond.code yX4_init cX4_init 1 none, Cond.methodLink RX4 1 objectInit, Cond.fieldLink RX4 9 "HatWorksModel" "hand" "[I", Cond.fieldLink RX4 13 "HatWorksModel" "rings" "[I", Cond.fieldLink RX4 16 "HatWorksModel" "tape" "[B", Cond.fieldLink RX4 20 "HatWorksModel" "place" "I", Cond.fieldLink RX4 24 "HatWorksModel" "part" "[I", Cond.fieldLink RX4 27 "HatWorksModel" "has" "[Z", Cond.fieldLink RX4 31 "HatWorksModel" "lastSteam" "I", Cond.fieldLink RX4 34 "HatWorksModel" "blockFree" "[I", Cond.fieldLink RX4 37 "HatWorksModel" "lastOn" "[I", Cond.fieldLink RX4 40 "HatWorksModel" "order" "[I", Cond.fieldLink RX4 43 "HatWorksModel" "fits" "[I", Cond.fieldLink RX4 46 "HatWorksModel" "isTold" "[Z", Cond.fieldLink RX4 49 "HatWorksModel" "of" "[I", Cond.fieldLink RX4 52 "HatWorksModel" "row" "[I", Cond.fieldLink RX4 55 "HatWorksModel" "best" "[I", Cond.fieldLink RX4 58 "HatWorksModel" "free" "[I", Cond.methodLink RL 50 yL_push, Cond.static yL_push, Cond.initialized RL, Cond.codeWith yL_push cL_push 4 (some .int) [(0, 9, 12, 13)]]
def wsL_law0_r5 : List Cond := [Cond.classLink RL 13 "java/lang/IllegalArgumentException", Cond.methodLink RL 7 yX3_push, Cond.instanceMethod yX3_push, Cond.selects RX3 yX3_push yX3_push, Cond.code yX3_push cX3_push 2 (some .int), Cond.classLink RX3 62 "java/lang/IllegalArgumentException", Cond.initialized "java/lang/IllegalArgumentException", Cond.methodLink RL 55 yX4_push, Cond.instanceMethod yX4_push, Cond.selects RX4 yX4_push yX4_push, Cond.code yX4_push cX4_push 2 (some .int), Cond.fieldLink RX4 61 "HatWorksModel" "thrown" "I", Cond.fieldLink RX4 68 "HatWorksModel" "handMany" "I", Cond.methodLink RX4 64 yX4_bad, Cond.instanceMethod yX4_bad, Cond.selects RX4 yX4_bad yX4_bad, Cond.code yX4_bad cX4_bad 3 (some .boolean), Cond.methodLink RL 56 yX4_thrown, Cond.instanceMethod yX4_thrown, Cond.selects RX4 yX4_thrown yX4_thrown, Cond.code yX4_thrown cX4_thrown 1 (some .int), Cond.methodLink RL 59 yL_block, Cond.static yL_block, Cond.codeWith yL_block cL_block 3 (some .int) [(0, 8, 11, 19)]]
def wsL_law0_r6 : List Cond := [Cond.classLink RL 19 "java/lang/IllegalStateException", Cond.methodLink RL 15 yX3_block, Cond.instanceMethod yX3_block, Cond.selects RX3 yX3_block yX3_block, Cond.code yX3_block cX3_block 1 (some .int), Cond.classLink RX3 72 "java/lang/IllegalStateException", Cond.initialized "java/lang/IllegalStateException", Cond.fieldLink RX3 69 "HatWorks$Blocks" "size" "I", Cond.methodLink RX3 77 yX0_add, Cond.instanceMethod yX0_add, Cond.selects RX0 yX0_add yX0_add, Cond.code yX0_add cX0_add 4 (some .int), Cond.methodLink RL 62 yX4_block, Cond.instanceMethod yX4_block, Cond.selects RX4 yX4_block yX4_block, Cond.code yX4_block cX4_block 2 (some .int), Cond.fieldLink RX4 71 "HatWorksModel" "blocks" "I", Cond.methodLink RL 63 yX3_feed, Cond.instanceMethod yX3_feed, Cond.selects RX3 yX3_feed yX3_feed, Cond.code yX3_feed cX3_feed 6 (some .int), Cond.fieldLink RX3 81 "HatWorks$Tape" "size" "I", Cond.methodLink RX3 82 yX2_take, Cond.instanceMethod yX2_take]
def wsL_law0_r7 : List Cond := [Cond.selects RX2 yX2_take yX2_take, Cond.code yX2_take cX2_take 3 none, Cond.methodLink RL 67 yX4_feed, Cond.instanceMethod yX4_feed, Cond.selects RX4 yX4_feed yX4_feed, Cond.code yX4_feed cX4_feed 9 (some .int), Cond.fieldLink RX4 82 "HatWorksModel" "taped" "I", Cond.methodLink RL 68 yL_order, Cond.static yL_order, Cond.codeWith yL_order cL_order 6 (some .int) [(0, 12, 15, 13)], Cond.methodLink RL 21 yX3_order, Cond.instanceMethod yX3_order, Cond.selects RX3 yX3_order yX3_order, Cond.code yX3_order cX3_order 5 (some .int), Cond.fieldLink RX3 94 "HatWorks$Tape" "faultPlace" "I", Cond.methodLink RX3 86 yX3_checkOrderArguments, Cond.instanceMethod yX3_checkOrderArguments, Cond.selects RX3 yX3_checkOrderArguments yX3_checkOrderArguments, Cond.code yX3_checkOrderArguments cX3_checkOrderArguments 4 none, Cond.constant RX3 125 (1000000), Cond.methodLink RX3 90 yX2_readHat, Cond.instanceMethod yX2_readHat, Cond.selects RX2 yX2_readHat yX2_readHat, Cond.code yX2_readHat cX2_readHat 4 (some .int)]
def wsL_law0_r8 : List Cond := [Cond.methodLink RX2 35 yX2_startReading, Cond.instanceMethod yX2_startReading, Cond.selects RX2 yX2_startReading yX2_startReading, Cond.code yX2_startReading cX2_startReading 3 none, Cond.methodLink RX2 39 yX2_readPart, Cond.instanceMethod yX2_readPart, Cond.selects RX2 yX2_readPart yX2_readPart, Cond.code yX2_readPart cX2_readPart 5 (some .boolean), Cond.fieldLink RX2 67 "HatWorks$Tape" "LEAST" "[I", Cond.fieldLink RX2 70 "HatWorks$Tape" "MOST" "[I", Cond.methodLink RX2 54 yX2_skipBlanks, Cond.instanceMethod yX2_skipBlanks, Cond.selects RX2 yX2_skipBlanks yX2_skipBlanks, Cond.code yX2_skipBlanks cX2_skipBlanks 1 none, Cond.methodLink RX2 57 yX2_skipLetters, Cond.instanceMethod yX2_skipLetters, Cond.selects RX2 yX2_skipLetters yX2_skipLetters, Cond.code yX2_skipLetters cX2_skipLetters 1 none, Cond.methodLink RX2 60 yX2_partNamed, Cond.instanceMethod yX2_partNamed, Cond.selects RX2 yX2_partNamed yX2_partNamed, Cond.code yX2_partNamed cX2_partNamed 3 (some .int), Cond.methodLink RX2 79 yX2_nameOf, Cond.static yX2_nameOf]
def wsL_law0_r9 : List Cond := [Cond.code yX2_nameOf cX2_nameOf 1 (some (.object "java/lang/String")), Cond.methodLink RX2 83 yX2_isWord, Cond.instanceMethod yX2_isWord, Cond.selects RX2 yX2_isWord yX2_isWord, Cond.code yX2_isWord cX2_isWord 4 (some .boolean), Cond.methodLink RX2 87 yJ0_length_8abf5, Cond.instanceMethod yJ0_length_8abf5, Cond.selects RJ0 yJ0_length_8abf5 yJ0_length_8abf5, Cond.initialized RJ0, Cond.code yJ0_length_8abf5 cJ0_length_8abf5 1 (some .int), Cond.fieldLink RJ0 9 "java/lang/String" "value" "[B", Cond.methodLink RJ0 335 yJ0_coder_7d493, Cond.instanceMethod yJ0_coder_7d493, Cond.selects RJ0 yJ0_coder_7d493 yJ0_coder_7d493, Cond.code yJ0_coder_7d493 cJ0_coder_7d493 1 (some .byte), Cond.fieldLink RJ0 38 "java/lang/String" "COMPACT_STRINGS" "Z", Cond.fieldLink RJ0 15 "java/lang/String" "coder" "B", Cond.methodLink RX2 91 yJ0_charAt_5068e, Cond.instanceMethod yJ0_charAt_5068e, Cond.selects RJ0 yJ0_charAt_5068e yJ0_charAt_5068e, Cond.code yJ0_charAt_5068e cJ0_charAt_5068e 2 (some .char), Cond.methodLink RJ0 492 yJ0_isLatin1_aae02, Cond.instanceMethod yJ0_isLatin1_aae02, Cond.selects RJ0 yJ0_isLatin1_aae02 yJ0_isLatin1_aae02]
def wsL_law0_r10 : List Cond := [Cond.code yJ0_isLatin1_aae02 cJ0_isLatin1_aae02 1 (some .boolean), Cond.methodLink RJ0 495 yJ1_charAt_3b067, Cond.static yJ1_charAt_3b067, Cond.initialized RJ1, Cond.code yJ1_charAt_3b067 cJ1_charAt_3b067 2 (some .char), Cond.methodLink RJ1 9 yJ0_checkIndex_df160, Cond.static yJ0_checkIndex_df160, Cond.code yJ0_checkIndex_df160 cJ0_checkIndex_df160 2 none, Cond.fieldLink RJ0 1053 "jdk/internal/util/Preconditions" "SIOOBE_FORMATTER" "Ljava/util/function/BiFunction;", Cond.methodLink RJ0 1059 yJ3_checkIndex_8e157, Cond.static yJ3_checkIndex_8e157, Cond.initialized RJ3, Cond.code yJ3_checkIndex_8e157 cJ3_checkIndex_8e157 3 (some .int), Cond.methodLink RJ0 498 yJ2_charAt_3b067, Cond.static yJ2_charAt_3b067, Cond.initialized RJ2, Cond.code yJ2_charAt_3b067 cJ2_charAt_3b067 2 (some .char), Cond.methodLink RJ2 67 yJ2_checkIndex_2214a, Cond.static yJ2_checkIndex_2214a, Cond.code yJ2_checkIndex_2214a cJ2_checkIndex_2214a 2 none, Cond.methodLink RJ2 48 yJ2_length_9d52b, Cond.static yJ2_length_9d52b, Cond.code yJ2_length_9d52b cJ2_length_9d52b 1 (some .int), Cond.methodLink RJ2 414 yJ0_checkIndex_df160]
def wsL_law0_r11 : List Cond := [Cond.methodLink RJ2 71 yJ2_getChar_3b067, Cond.static yJ2_getChar_3b067, Cond.code yJ2_getChar_3b067 cJ2_getChar_3b067 2 (some .char), Cond.fieldLink RJ2 44 "java/lang/StringUTF16" "$assertionsDisabled" "Z", Cond.fieldLink RJ2 59 "java/lang/StringUTF16" "HI_BYTE_SHIFT" "I", Cond.fieldLink RJ2 63 "java/lang/StringUTF16" "LO_BYTE_SHIFT" "I", Cond.methodLink RX2 46 yX2_blame, Cond.instanceMethod yX2_blame, Cond.selects RX2 yX2_blame yX2_blame, Cond.code yX2_blame cX2_blame 3 none, Cond.methodLink RX2 63 yX2_readNumber, Cond.instanceMethod yX2_readNumber, Cond.selects RX2 yX2_readNumber yX2_readNumber, Cond.code yX2_readNumber cX2_readNumber 2 (some .int), Cond.methodLink RX2 73 Lib.Math.min.name, Cond.static Lib.Math.min.name, Cond.initialized "java/lang/Math", Cond.code Lib.Math.min.name Lib.Math.min.code 2 (some .int), Cond.methodLink RX2 43 yX2_readComma, Cond.instanceMethod yX2_readComma, Cond.selects RX2 yX2_readComma yX2_readComma, Cond.code yX2_readComma cX2_readComma 1 (some .boolean), Cond.methodLink RX3 95 yX3_addOrder, Cond.instanceMethod yX3_addOrder]
def wsL_law0_r12 : List Cond := [Cond.selects RX3 yX3_addOrder yX3_addOrder, Cond.code yX3_addOrder cX3_addOrder 5 (some .int), Cond.methodLink RX3 169 yX0_match, Cond.instanceMethod yX0_match, Cond.selects RX0 yX0_match yX0_match, Cond.code yX0_match cX0_match 7 none, Cond.constant RX0 32 (2147483647), Cond.methodLink RX0 33 yX0_misfitOf, Cond.instanceMethod yX0_misfitOf, Cond.selects RX0 yX0_misfitOf yX0_misfitOf, Cond.code yX0_misfitOf cX0_misfitOf 9 (some .int), Cond.methodLink RX3 173 yX2_price, Cond.instanceMethod yX2_price, Cond.selects RX2 yX2_price yX2_price, Cond.code yX2_price cX2_price 2 (some .int), Cond.methodLink RX2 50 yX2_valueOf, Cond.instanceMethod yX2_valueOf, Cond.selects RX2 yX2_valueOf yX2_valueOf, Cond.code yX2_valueOf cX2_valueOf 2 (some .int), Cond.methodLink RX3 176 yX2_steamMinutes, Cond.instanceMethod yX2_steamMinutes, Cond.selects RX2 yX2_steamMinutes yX2_steamMinutes, Cond.code yX2_steamMinutes cX2_steamMinutes 1 (some .int), Cond.methodLink RX3 179 yX2_onMinutes]
def wsL_law0_r13 : List Cond := [Cond.instanceMethod yX2_onMinutes, Cond.selects RX2 yX2_onMinutes yX2_onMinutes, Cond.code yX2_onMinutes cX2_onMinutes 1 (some .int), Cond.methodLink RL 71 yX4_order, Cond.instanceMethod yX4_order, Cond.selects RX4 yX4_order yX4_order, Cond.code yX4_order cX4_order 9 (some .int), Cond.constant RX4 140 (1000000), Cond.fieldLink RX4 141 "HatWorksModel" "orders" "I", Cond.fieldLink RX4 85 "HatWorksModel" "size" "I", Cond.fieldLink RX4 95 "HatWorksModel" "fault" "I", Cond.methodLink RX4 144 yX4_readHat, Cond.instanceMethod yX4_readHat, Cond.selects RX4 yX4_readHat yX4_readHat, Cond.code yX4_readHat cX4_readHat 2 none, Cond.fieldLink RX4 88 "HatWorksModel" "at" "I", Cond.methodLink RX4 137 yX4_readPart, Cond.instanceMethod yX4_readPart, Cond.selects RX4 yX4_readPart yX4_readPart, Cond.code yX4_readPart cX4_readPart 6 none, Cond.methodLink RX4 119 yX4_blanks, Cond.instanceMethod yX4_blanks, Cond.selects RX4 yX4_blanks yX4_blanks, Cond.code yX4_blanks cX4_blanks 1 none]
def wsL_law0_r14 : List Cond := [Cond.methodLink RX4 91 yX4_byteAt, Cond.instanceMethod yX4_byteAt, Cond.selects RX4 yX4_byteAt yX4_byteAt, Cond.code yX4_byteAt cX4_byteAt 2 (some .int), Cond.methodLink RX4 122 yX4_partName, Cond.static yX4_partName, Cond.code yX4_partName cX4_partName 1 (some (.object "java/lang/String")), Cond.methodLink RX4 126 yX4_isWord, Cond.instanceMethod yX4_isWord, Cond.selects RX4 yX4_isWord yX4_isWord, Cond.code yX4_isWord cX4_isWord 3 (some .boolean), Cond.methodLink RX4 106 yJ0_length_8abf5, Cond.methodLink RX4 112 yJ0_charAt_5068e, Cond.methodLink RX4 116 yX4_isSmall, Cond.static yX4_isSmall, Cond.code yX4_isSmall cX4_isSmall 1 (some .boolean), Cond.methodLink RX4 130 yX4_wrong, Cond.instanceMethod yX4_wrong, Cond.selects RX4 yX4_wrong yX4_wrong, Cond.code yX4_wrong cX4_wrong 3 none, Cond.methodLink RX4 134 yX4_isDigit, Cond.static yX4_isDigit, Cond.code yX4_isDigit cX4_isDigit 1 (some .boolean), Cond.methodLink RX4 78 yX4_misfitOf]
def wsL_law0_r15 : List Cond := [Cond.instanceMethod yX4_misfitOf, Cond.selects RX4 yX4_misfitOf yX4_misfitOf, Cond.code yX4_misfitOf cX4_misfitOf 6 (some .int), Cond.methodLink RL 72 yX3_fault, Cond.instanceMethod yX3_fault, Cond.selects RX3 yX3_fault yX3_fault, Cond.code yX3_fault cX3_fault 1 (some .int), Cond.methodLink RL 75 yX4_fault, Cond.instanceMethod yX4_fault, Cond.selects RX4 yX4_fault yX4_fault, Cond.code yX4_fault cX4_fault 1 (some .int), Cond.methodLink RL 76 yL_misfit, Cond.static yL_misfit, Cond.codeWith yL_misfit cL_misfit 5 (some .int) [(0, 10, 13, 29), (0, 10, 17, 13)], Cond.classLink RL 29 "java/lang/IndexOutOfBoundsException", Cond.methodLink RL 25 yX3_misfit, Cond.instanceMethod yX3_misfit, Cond.selects RX3 yX3_misfit yX3_misfit, Cond.code yX3_misfit cX3_misfit 3 (some .int), Cond.methodLink RX3 99 yX3_checkBlock, Cond.instanceMethod yX3_checkBlock, Cond.selects RX3 yX3_checkBlock yX3_checkBlock, Cond.code yX3_checkBlock cX3_checkBlock 2 none, Cond.classLink RX3 156 "java/lang/IndexOutOfBoundsException"]
def wsL_law0_r16 : List Cond := [Cond.initialized "java/lang/IndexOutOfBoundsException", Cond.methodLink RX3 104 yX0_misfitOf, Cond.methodLink RL 79 yX4_misfit, Cond.instanceMethod yX4_misfit, Cond.selects RX4 yX4_misfit yX4_misfit, Cond.code yX4_misfit cX4_misfit 3 (some .int), Cond.methodLink RX4 74 yX4_isBlock, Cond.instanceMethod yX4_isBlock, Cond.selects RX4 yX4_isBlock yX4_isBlock, Cond.code yX4_isBlock cX4_isBlock 2 (some .boolean), Cond.methodLink RL 80 yL_told, Cond.static yL_told, Cond.codeWith yL_told cL_told 5 (some .int) [(0, 10, 13, 29), (0, 10, 17, 13)], Cond.methodLink RL 31 yX3_told, Cond.instanceMethod yX3_told, Cond.selects RX3 yX3_told yX3_told, Cond.code yX3_told cX3_told 3 (some .int), Cond.methodLink RX3 108 yX3_checkOrder, Cond.instanceMethod yX3_checkOrder, Cond.selects RX3 yX3_checkOrder yX3_checkOrder, Cond.code yX3_checkOrder cX3_checkOrder 2 none, Cond.methodLink RX3 113 yX3_stateOf, Cond.instanceMethod yX3_stateOf, Cond.selects RX3 yX3_stateOf yX3_stateOf]
def wsL_law0_r17 : List Cond := [Cond.code yX3_stateOf cX3_stateOf 2 (some .int), Cond.methodLink RX3 116 yX3_isWaiting, Cond.instanceMethod yX3_isWaiting, Cond.selects RX3 yX3_isWaiting yX3_isWaiting, Cond.code yX3_isWaiting cX3_isWaiting 2 (some .boolean), Cond.methodLink RX3 144 yX3_isDone, Cond.instanceMethod yX3_isDone, Cond.selects RX3 yX3_isDone yX3_isDone, Cond.code yX3_isDone cX3_isDone 2 (some .boolean), Cond.methodLink RL 82 yX4_told, Cond.instanceMethod yX4_told, Cond.selects RX4 yX4_told yX4_told, Cond.code yX4_told cX4_told 4 (some .int), Cond.fieldLink RX4 150 "HatWorksModel" "now" "I", Cond.methodLink RX4 147 yX4_isOrder, Cond.instanceMethod yX4_isOrder, Cond.selects RX4 yX4_isOrder yX4_isOrder, Cond.code yX4_isOrder cX4_isOrder 2 (some .boolean), Cond.methodLink RL 83 yL_go, Cond.static yL_go, Cond.codeWith yL_go cL_go 4 (some .int) [(0, 9, 12, 29)], Cond.methodLink RL 34 yX3_go, Cond.instanceMethod yX3_go, Cond.selects RX3 yX3_go yX3_go]
def wsL_law0_r18 : List Cond := [Cond.code yX3_go cX3_go 2 (some .int), Cond.methodLink RX3 120 yX3_send, Cond.instanceMethod yX3_send, Cond.selects RX3 yX3_send yX3_send, Cond.code yX3_send cX3_send 5 (some .int), Cond.fieldLink RX3 187 "HatWorks$Blocks" "freeFrom" "[I", Cond.fieldLink RX3 197 "HatWorks$Blocks" "latest" "[I", Cond.fieldLink RX3 147 "HatWorks$Blocks" "wears" "[[I", Cond.methodLink RX3 190 yX3_startOf, Cond.static yX3_startOf, Cond.code yX3_startOf cX3_startOf 4 (some .int), Cond.methodLink RX3 182 Lib.Math.max.name, Cond.static Lib.Math.max.name, Cond.code Lib.Math.max.name Lib.Math.max.code 2 (some .int), Cond.methodLink RX3 194 yX3_holderOf, Cond.instanceMethod yX3_holderOf, Cond.selects RX3 yX3_holderOf yX3_holderOf, Cond.code yX3_holderOf cX3_holderOf 3 (some .int), Cond.methodLink RL 85 yX4_go, Cond.instanceMethod yX4_go, Cond.selects RX4 yX4_go yX4_go, Cond.code yX4_go cX4_go 2 (some .int), Cond.methodLink RX4 156 yX4_waits, Cond.instanceMethod yX4_waits]
def wsL_law0_r19 : List Cond := [Cond.selects RX4 yX4_waits yX4_waits, Cond.code yX4_waits cX4_waits 2 (some .boolean), Cond.methodLink RX4 159 yX4_goes, Cond.instanceMethod yX4_goes, Cond.selects RX4 yX4_goes yX4_goes, Cond.code yX4_goes cX4_goes 5 (some .int), Cond.fieldLink RX4 153 "HatWorksModel" "steamer" "I", Cond.methodLink RL 86 yL_wait, Cond.static yL_wait, Cond.codeWith yL_wait cL_wait 4 (some .int) [(0, 9, 12, 13)], Cond.methodLink RL 37 yX3_wait, Cond.instanceMethod yX3_wait, Cond.selects RX3 yX3_wait yX3_wait, Cond.code yX3_wait cX3_wait 2 (some .int), Cond.methodLink RL 88 yX4_wait, Cond.instanceMethod yX4_wait, Cond.selects RX4 yX4_wait yX4_wait, Cond.code yX4_wait cX4_wait 2 (some .int), Cond.methodLink RL 89 yX3_plan, Cond.instanceMethod yX3_plan, Cond.selects RX3 yX3_plan yX3_plan, Cond.code yX3_plan cX3_plan 1 (some .long), Cond.methodLink RX3 128 yX3_findBest, Cond.instanceMethod yX3_findBest]
def wsL_law0_r20 : List Cond := [Cond.selects RX3 yX3_findBest yX3_findBest, Cond.code yX3_findBest cX3_findBest 2 none, Cond.fieldLink RX3 138 "HatWorks$Planner" "size" "I", Cond.methodLink RX3 200 yX1_clear, Cond.instanceMethod yX1_clear, Cond.selects RX1 yX1_clear yX1_clear, Cond.code yX1_clear cX1_clear 4 none, Cond.methodLink RX3 204 yX1_add, Cond.instanceMethod yX1_add, Cond.selects RX1 yX1_add yX1_add, Cond.code yX1_add cX1_add 3 none, Cond.methodLink RX3 206 yX1_search, Cond.instanceMethod yX1_search, Cond.selects RX1 yX1_search yX1_search, Cond.code yX1_search cX1_search 2 none, Cond.constantLong RX1 53 (9223372036854775807), Cond.methodLink RX1 55 yX1_tryAll, Cond.instanceMethod yX1_tryAll, Cond.selects RX1 yX1_tryAll yX1_tryAll, Cond.code yX1_tryAll cX1_tryAll 6 none, Cond.methodLink RX1 59 yX1_keepTried, Cond.instanceMethod yX1_keepTried, Cond.selects RX1 yX1_keepTried yX1_keepTried, Cond.code yX1_keepTried cX1_keepTried 4 none]
def wsL_law0_r21 : List Cond := [Cond.methodLink RX1 63 yX1_tryNext, Cond.instanceMethod yX1_tryNext, Cond.selects RX1 yX1_tryNext yX1_tryNext, Cond.code yX1_tryNext cX1_tryNext 12 none, Cond.methodLink RX3 131 yX1_bestCost, Cond.instanceMethod yX1_bestCost, Cond.selects RX1 yX1_bestCost yX1_bestCost, Cond.code yX1_bestCost cX1_bestCost 1 (some .long), Cond.methodLink RL 93 yX4_plan, Cond.instanceMethod yX4_plan, Cond.selects RX4 yX4_plan yX4_plan, Cond.code yX4_plan cX4_plan 1 (some .long), Cond.fieldLink RX4 162 "HatWorksModel" "many" "I", Cond.fieldLink RX4 167 "HatWorksModel" "bestCost" "J", Cond.methodLink RX4 179 yX4_plans, Cond.instanceMethod yX4_plans, Cond.selects RX4 yX4_plans yX4_plans, Cond.code yX4_plans cX4_plans 8 none, Cond.constantLong RX4 165 (-1), Cond.methodLink RX4 171 yX4_costOf, Cond.instanceMethod yX4_costOf, Cond.selects RX4 yX4_costOf yX4_costOf, Cond.code yX4_costOf cX4_costOf 8 (some .long), Cond.methodLink RX4 175 yX4_isUsed]
def wsL_law0_r22 : List Cond := [Cond.instanceMethod yX4_isUsed, Cond.selects RX4 yX4_isUsed yX4_isUsed, Cond.code yX4_isUsed cX4_isUsed 4 (some .boolean), Cond.methodLink RL 94 yX3_planned, Cond.instanceMethod yX3_planned, Cond.selects RX3 yX3_planned yX3_planned, Cond.code yX3_planned cX3_planned 2 (some .int), Cond.methodLink RX3 135 yX1_bestAt, Cond.instanceMethod yX1_bestAt, Cond.selects RX1 yX1_bestAt yX1_bestAt, Cond.code yX1_bestAt cX1_bestAt 2 (some .int), Cond.methodLink RL 97 yX4_planned, Cond.instanceMethod yX4_planned, Cond.selects RX4 yX4_planned yX4_planned, Cond.code yX4_planned cX4_planned 2 (some .int), Cond.methodLink RL 98 yX3_run, Cond.instanceMethod yX3_run, Cond.selects RX3 yX3_run yX3_run, Cond.code yX3_run cX3_run 3 (some .int), Cond.methodLink RL 101 yX4_run, Cond.instanceMethod yX4_run, Cond.selects RX4 yX4_run yX4_run, Cond.code yX4_run cX4_run 2 (some .int), Cond.methodLink RL 102 yX3_late]
def wsL_law0_r23 : List Cond := [Cond.instanceMethod yX3_late, Cond.selects RX3 yX3_late yX3_late, Cond.code yX3_late cX3_late 4 (some .int), Cond.methodLink RX3 139 yX3_isLate, Cond.instanceMethod yX3_isLate, Cond.selects RX3 yX3_isLate yX3_isLate, Cond.code yX3_isLate cX3_isLate 4 (some .boolean), Cond.methodLink RL 105 yX4_late, Cond.instanceMethod yX4_late, Cond.selects RX4 yX4_late yX4_late, Cond.code yX4_late cX4_late 5 (some .int), Cond.methodLink RL 106 yL_fit, Cond.static yL_fit, Cond.codeWith yL_fit cL_fit 5 (some .int) [(0, 10, 13, 29), (0, 10, 17, 13)], Cond.methodLink RL 40 yX3_fit, Cond.instanceMethod yX3_fit, Cond.selects RX3 yX3_fit yX3_fit, Cond.code yX3_fit cX3_fit 5 (some .int), Cond.methodLink RL 108 yX4_fit, Cond.instanceMethod yX4_fit, Cond.selects RX4 yX4_fit yX4_fit, Cond.code yX4_fit cX4_fit 3 (some .int), Cond.methodLink RL 109 yL_wear, Cond.static yL_wear]
def wsL_law0_r24 : List Cond := [Cond.codeWith yL_wear cL_wear 5 (some .int) [(0, 10, 13, 29), (0, 10, 17, 13)], Cond.methodLink RL 43 yX3_wear, Cond.instanceMethod yX3_wear, Cond.selects RX3 yX3_wear yX3_wear, Cond.code yX3_wear cX3_wear 3 (some .int), Cond.methodLink RL 111 yX4_wear, Cond.instanceMethod yX4_wear, Cond.selects RX4 yX4_wear yX4_wear, Cond.code yX4_wear cX4_wear 5 (some .int), Cond.methodLink RL 112 yX3_count, Cond.instanceMethod yX3_count, Cond.selects RX3 yX3_count yX3_count, Cond.code yX3_count cX3_count 2 (some .int), Cond.methodLink RX3 152 yX3_countWaiting, Cond.instanceMethod yX3_countWaiting, Cond.selects RX3 yX3_countWaiting yX3_countWaiting, Cond.code yX3_countWaiting cX3_countWaiting 3 (some .int), Cond.methodLink RL 115 yX4_count, Cond.instanceMethod yX4_count, Cond.selects RX4 yX4_count yX4_count, Cond.code yX4_count cX4_count 4 (some .int)]
def wsL_law0 : List Cond := (wsL_law0_r1 ++ (wsL_law0_r2 ++ (wsL_law0_r3 ++ (wsL_law0_r4 ++ (wsL_law0_r5 ++ (wsL_law0_r6 ++ (wsL_law0_r7 ++ (wsL_law0_r8 ++ (wsL_law0_r9 ++ (wsL_law0_r10 ++ (wsL_law0_r11 ++ (wsL_law0_r12 ++ (wsL_law0_r13 ++ (wsL_law0_r14 ++ (wsL_law0_r15 ++ (wsL_law0_r16 ++ (wsL_law0_r17 ++ (wsL_law0_r18 ++ (wsL_law0_r19 ++ (wsL_law0_r20 ++ (wsL_law0_r21 ++ (wsL_law0_r22 ++ (wsL_law0_r23 ++ wsL_law0_r24))))))))))))))))))))))) ++ wsX30 ++ wsX40 ++ wsX20 ++ wsX00 ++ wsX10 ++ ([] : List Cond)
def wsL_law : List Cond := wsL_law0 ++ (vx_atS RX3 66 "java/lang/IllegalArgumentException" ["java/lang/RuntimeException", "java/lang/Exception"]).filter goodWord ++ (vx_atS RX3 76 "java/lang/IllegalStateException" ["java/lang/RuntimeException", "java/lang/Exception"]).filter goodWord ++ (vx_atS RX3 160 "java/lang/IndexOutOfBoundsException" ["java/lang/RuntimeException", "java/lang/Exception"]).filter goodWord
abbrev vwCl : List vw_C := [(RX0, TX0, 5), (RX1, TX1, 12), (RX2, TX2, 7), (RX3, TX3, 12), (RX4, TX4, 28)]
end
section
theorem dX0_init_0 : decode cX0_init 0 = .ok (.aload_n 0, 1) := by decide +kernel
theorem dX0_init_1 : decode cX0_init 1 = .ok (.invokespecial 3, 3) := by decide +kernel
theorem dX0_init_4 : decode cX0_init 4 = .ok (.aload_n 0, 1) := by decide +kernel
theorem dX0_init_5 : decode cX0_init 5 = .ok (.bipush 10, 2) := by decide +kernel
theorem dX0_init_7 : decode cX0_init 7 = .ok (.bipush 12, 2) := by decide +kernel
theorem dX0_init_9 : decode cX0_init 9 = .ok (.multianewarray 9 2, 4) := by decide +kernel
theorem dX0_init_13 : decode cX0_init 13 = .ok (.putfield 11, 3) := by decide +kernel
theorem dX0_init_16 : decode cX0_init 16 = .ok (.aload_n 0, 1) := by decide +kernel
theorem dX0_init_17 : decode cX0_init 17 = .ok (.bipush 10, 2) := by decide +kernel
theorem dX0_init_19 : decode cX0_init 19 = .ok (.iconst 3, 1) := by decide +kernel
theorem dX0_init_20 : decode cX0_init 20 = .ok (.multianewarray 9 2, 4) := by decide +kernel
theorem dX0_init_24 : decode cX0_init 24 = .ok (.putfield 16, 3) := by decide +kernel
theorem dX0_init_27 : decode cX0_init 27 = .ok (.aload_n 0, 1) := by decide +kernel
theorem dX0_init_28 : decode cX0_init 28 = .ok (.bipush 10, 2) := by decide +kernel
theorem dX0_init_30 : decode cX0_init 30 = .ok (.newarray .int, 2) := by decide +kernel
theorem dX0_init_32 : decode cX0_init 32 = .ok (.putfield 19, 3) := by decide +kernel
theorem dX0_init_35 : decode cX0_init 35 = .ok (.aload_n 0, 1) := by decide +kernel
theorem dX0_init_36 : decode cX0_init 36 = .ok (.bipush 10, 2) := by decide +kernel
theorem dX0_init_38 : decode cX0_init 38 = .ok (.newarray .int, 2) := by decide +kernel
theorem dX0_init_40 : decode cX0_init 40 = .ok (.putfield 23, 3) := by decide +kernel
theorem dX0_init_43 : decode cX0_init 43 = .ok (.aload_n 0, 1) := by decide +kernel
theorem dX0_init_44 : decode cX0_init 44 = .ok (.iconst 0, 1) := by decide +kernel
theorem dX0_init_45 : decode cX0_init 45 = .ok (.putfield 26, 3) := by decide +kernel
theorem dX0_init_48 : decode cX0_init 48 = .ok (.return_, 1) := by decide +kernel
theorem dX0_add_0 : decode cX0_add 0 = .ok (.aload_n 0, 1) := by decide +kernel
theorem dX0_add_1 : decode cX0_add 1 = .ok (.getfield 26, 3) := by decide +kernel
theorem dX0_add_4 : decode cX0_add 4 = .ok (.istore_n 2, 1) := by decide +kernel
theorem dX0_add_5 : decode cX0_add 5 = .ok (.iconst 0, 1) := by decide +kernel
theorem dX0_add_6 : decode cX0_add 6 = .ok (.istore_n 3, 1) := by decide +kernel
theorem dX0_add_7 : decode cX0_add 7 = .ok (.iload_n 3, 1) := by decide +kernel
theorem dX0_add_8 : decode cX0_add 8 = .ok (.bipush 12, 2) := by decide +kernel
theorem dX0_add_10 : decode cX0_add 10 = .ok (.if_icmp .ge 20, 3) := by decide +kernel
theorem dX0_add_13 : decode cX0_add 13 = .ok (.aload_n 0, 1) := by decide +kernel
theorem dX0_add_14 : decode cX0_add 14 = .ok (.getfield 11, 3) := by decide +kernel
theorem dX0_add_17 : decode cX0_add 17 = .ok (.iload_n 2, 1) := by decide +kernel
theorem dX0_add_18 : decode cX0_add 18 = .ok (.aaload, 1) := by decide +kernel
theorem dX0_add_19 : decode cX0_add 19 = .ok (.iload_n 3, 1) := by decide +kernel
theorem dX0_add_20 : decode cX0_add 20 = .ok (.aload_n 1, 1) := by decide +kernel
theorem dX0_add_21 : decode cX0_add 21 = .ok (.iload_n 3, 1) := by decide +kernel
theorem dX0_add_22 : decode cX0_add 22 = .ok (.iaload, 1) := by decide +kernel
theorem dX0_add_23 : decode cX0_add 23 = .ok (.iastore, 1) := by decide +kernel
theorem dX0_add_24 : decode cX0_add 24 = .ok (.iinc 3 1, 3) := by decide +kernel
theorem dX0_add_27 : decode cX0_add 27 = .ok (.goto (-20), 3) := by decide +kernel
theorem dX0_add_30 : decode cX0_add 30 = .ok (.aload_n 0, 1) := by decide +kernel
theorem dX0_add_31 : decode cX0_add 31 = .ok (.getfield 23, 3) := by decide +kernel
theorem dX0_add_34 : decode cX0_add 34 = .ok (.iload_n 2, 1) := by decide +kernel
theorem dX0_add_35 : decode cX0_add 35 = .ok (.iconst (-1), 1) := by decide +kernel
theorem dX0_add_36 : decode cX0_add 36 = .ok (.iastore, 1) := by decide +kernel
theorem dX0_add_37 : decode cX0_add 37 = .ok (.aload_n 0, 1) := by decide +kernel
theorem dX0_add_38 : decode cX0_add 38 = .ok (.dup, 1) := by decide +kernel
theorem dX0_add_39 : decode cX0_add 39 = .ok (.getfield 26, 3) := by decide +kernel
theorem dX0_add_42 : decode cX0_add 42 = .ok (.iconst 1, 1) := by decide +kernel
theorem dX0_add_43 : decode cX0_add 43 = .ok (.iadd, 1) := by decide +kernel
theorem dX0_add_44 : decode cX0_add 44 = .ok (.putfield 26, 3) := by decide +kernel
theorem dX0_add_47 : decode cX0_add 47 = .ok (.iload_n 2, 1) := by decide +kernel
theorem dX0_add_48 : decode cX0_add 48 = .ok (.ireturn, 1) := by decide +kernel
theorem dX0_misfitOf_0 : decode cX0_misfitOf 0 = .ok (.aload_n 0, 1) := by decide +kernel
theorem dX0_misfitOf_1 : decode cX0_misfitOf 1 = .ok (.getfield 11, 3) := by decide +kernel
theorem dX0_misfitOf_4 : decode cX0_misfitOf 4 = .ok (.iload_n 2, 1) := by decide +kernel
theorem dX0_misfitOf_5 : decode cX0_misfitOf 5 = .ok (.aaload, 1) := by decide +kernel
theorem dX0_misfitOf_6 : decode cX0_misfitOf 6 = .ok (.astore 4, 2) := by decide +kernel
theorem dX0_misfitOf_8 : decode cX0_misfitOf 8 = .ok (.iconst 0, 1) := by decide +kernel
theorem dX0_misfitOf_9 : decode cX0_misfitOf 9 = .ok (.istore 5, 2) := by decide +kernel
theorem dX0_misfitOf_11 : decode cX0_misfitOf 11 = .ok (.iconst 0, 1) := by decide +kernel
theorem dX0_misfitOf_12 : decode cX0_misfitOf 12 = .ok (.istore 6, 2) := by decide +kernel
theorem dX0_misfitOf_14 : decode cX0_misfitOf 14 = .ok (.iload 6, 2) := by decide +kernel
theorem dX0_misfitOf_16 : decode cX0_misfitOf 16 = .ok (.bipush 12, 2) := by decide +kernel
theorem dX0_misfitOf_18 : decode cX0_misfitOf 18 = .ok (.if_icmp .ge 52, 3) := by decide +kernel
theorem dX0_misfitOf_21 : decode cX0_misfitOf 21 = .ok (.iload 6, 2) := by decide +kernel
theorem dX0_misfitOf_23 : decode cX0_misfitOf 23 = .ok (.iload_n 3, 1) := by decide +kernel
theorem dX0_misfitOf_24 : decode cX0_misfitOf 24 = .ok (.iadd, 1) := by decide +kernel
theorem dX0_misfitOf_25 : decode cX0_misfitOf 25 = .ok (.istore 7, 2) := by decide +kernel
theorem dX0_misfitOf_27 : decode cX0_misfitOf 27 = .ok (.aload_n 1, 1) := by decide +kernel
theorem dX0_misfitOf_28 : decode cX0_misfitOf 28 = .ok (.iload 7, 2) := by decide +kernel
theorem dX0_misfitOf_30 : decode cX0_misfitOf 30 = .ok (.bipush 12, 2) := by decide +kernel
theorem dX0_misfitOf_32 : decode cX0_misfitOf 32 = .ok (.if_icmp .ge 8, 3) := by decide +kernel
theorem dX0_misfitOf_35 : decode cX0_misfitOf 35 = .ok (.iload 7, 2) := by decide +kernel
theorem dX0_misfitOf_37 : decode cX0_misfitOf 37 = .ok (.goto 8, 3) := by decide +kernel
theorem dX0_misfitOf_40 : decode cX0_misfitOf 40 = .ok (.iload 7, 2) := by decide +kernel
theorem dX0_misfitOf_42 : decode cX0_misfitOf 42 = .ok (.bipush 12, 2) := by decide +kernel
theorem dX0_misfitOf_44 : decode cX0_misfitOf 44 = .ok (.isub, 1) := by decide +kernel
theorem dX0_misfitOf_45 : decode cX0_misfitOf 45 = .ok (.iaload, 1) := by decide +kernel
theorem dX0_misfitOf_46 : decode cX0_misfitOf 46 = .ok (.aload 4, 2) := by decide +kernel
theorem dX0_misfitOf_48 : decode cX0_misfitOf 48 = .ok (.iload 6, 2) := by decide +kernel
theorem dX0_misfitOf_50 : decode cX0_misfitOf 50 = .ok (.iaload, 1) := by decide +kernel
theorem dX0_misfitOf_51 : decode cX0_misfitOf 51 = .ok (.isub, 1) := by decide +kernel
theorem dX0_misfitOf_52 : decode cX0_misfitOf 52 = .ok (.istore 8, 2) := by decide +kernel
theorem dX0_misfitOf_54 : decode cX0_misfitOf 54 = .ok (.iload 5, 2) := by decide +kernel
theorem dX0_misfitOf_56 : decode cX0_misfitOf 56 = .ok (.iload 8, 2) := by decide +kernel
theorem dX0_misfitOf_58 : decode cX0_misfitOf 58 = .ok (.iload 8, 2) := by decide +kernel
theorem dX0_misfitOf_60 : decode cX0_misfitOf 60 = .ok (.imul, 1) := by decide +kernel
theorem dX0_misfitOf_61 : decode cX0_misfitOf 61 = .ok (.iadd, 1) := by decide +kernel
theorem dX0_misfitOf_62 : decode cX0_misfitOf 62 = .ok (.istore 5, 2) := by decide +kernel
theorem dX0_misfitOf_64 : decode cX0_misfitOf 64 = .ok (.iinc 6 1, 3) := by decide +kernel
theorem dX0_misfitOf_67 : decode cX0_misfitOf 67 = .ok (.goto (-53), 3) := by decide +kernel
theorem dX0_misfitOf_70 : decode cX0_misfitOf 70 = .ok (.iload 5, 2) := by decide +kernel
theorem dX0_misfitOf_72 : decode cX0_misfitOf 72 = .ok (.ireturn, 1) := by decide +kernel
set_option maxRecDepth 20000 in
theorem ggX0_match_X0_misfitOf : GoodIn wsX0_match wsX0_misfitOf := goodIn_r _ [7, 8, 9, 10, 11, 12, 13] (by decide +kernel) (by decide +kernel)
set_option maxRecDepth 20000 in
theorem gX0_match_X0_misfitOf : GoodIn wsX0_match (wsV RX0 33 RX0 yX0_misfitOf wsX0_misfitOf) := goodIn_app (goodIn_of _ (by decide +kernel)) ggX0_match_X0_misfitOf
theorem dX0_match_0 : decode cX0_match 0 = .ok (.ldc 32, 2) := by decide +kernel
theorem dX0_match_2 : decode cX0_match 2 = .ok (.istore_n 3, 1) := by decide +kernel
theorem dX0_match_3 : decode cX0_match 3 = .ok (.iconst 0, 1) := by decide +kernel
theorem dX0_match_4 : decode cX0_match 4 = .ok (.istore 4, 2) := by decide +kernel
theorem dX0_match_6 : decode cX0_match 6 = .ok (.iload 4, 2) := by decide +kernel
theorem dX0_match_8 : decode cX0_match 8 = .ok (.bipush 12, 2) := by decide +kernel
theorem dX0_match_10 : decode cX0_match 10 = .ok (.if_icmp .ge 62, 3) := by decide +kernel
theorem dX0_match_13 : decode cX0_match 13 = .ok (.iconst 0, 1) := by decide +kernel
theorem dX0_match_14 : decode cX0_match 14 = .ok (.istore 5, 2) := by decide +kernel
theorem dX0_match_16 : decode cX0_match 16 = .ok (.iload 5, 2) := by decide +kernel
theorem dX0_match_18 : decode cX0_match 18 = .ok (.aload_n 0, 1) := by decide +kernel
theorem dX0_match_19 : decode cX0_match 19 = .ok (.getfield 26, 3) := by decide +kernel
theorem dX0_match_22 : decode cX0_match 22 = .ok (.if_icmp .ge 44, 3) := by decide +kernel
theorem dX0_match_25 : decode cX0_match 25 = .ok (.aload_n 0, 1) := by decide +kernel
theorem dX0_match_26 : decode cX0_match 26 = .ok (.aload_n 1, 1) := by decide +kernel
theorem dX0_match_27 : decode cX0_match 27 = .ok (.iload 5, 2) := by decide +kernel
theorem dX0_match_29 : decode cX0_match 29 = .ok (.iload 4, 2) := by decide +kernel
theorem dX0_match_31 : decode cX0_match 31 = .ok (.invokevirtual 33, 3) := by decide +kernel
theorem dX0_match_34 : decode cX0_match 34 = .ok (.istore 6, 2) := by decide +kernel
theorem dX0_match_36 : decode cX0_match 36 = .ok (.iload 6, 2) := by decide +kernel
theorem dX0_match_38 : decode cX0_match 38 = .ok (.iload_n 3, 1) := by decide +kernel
theorem dX0_match_39 : decode cX0_match 39 = .ok (.if_icmp .ge 21, 3) := by decide +kernel
theorem dX0_match_42 : decode cX0_match 42 = .ok (.iload 6, 2) := by decide +kernel
theorem dX0_match_44 : decode cX0_match 44 = .ok (.istore_n 3, 1) := by decide +kernel
theorem dX0_match_45 : decode cX0_match 45 = .ok (.aload_n 2, 1) := by decide +kernel
theorem dX0_match_46 : decode cX0_match 46 = .ok (.iconst 0, 1) := by decide +kernel
theorem dX0_match_47 : decode cX0_match 47 = .ok (.iload 5, 2) := by decide +kernel
theorem dX0_match_49 : decode cX0_match 49 = .ok (.iastore, 1) := by decide +kernel
theorem dX0_match_50 : decode cX0_match 50 = .ok (.aload_n 2, 1) := by decide +kernel
theorem dX0_match_51 : decode cX0_match 51 = .ok (.iconst 1, 1) := by decide +kernel
theorem dX0_match_52 : decode cX0_match 52 = .ok (.iload 4, 2) := by decide +kernel
theorem dX0_match_54 : decode cX0_match 54 = .ok (.iastore, 1) := by decide +kernel
theorem dX0_match_55 : decode cX0_match 55 = .ok (.aload_n 2, 1) := by decide +kernel
theorem dX0_match_56 : decode cX0_match 56 = .ok (.iconst 2, 1) := by decide +kernel
theorem dX0_match_57 : decode cX0_match 57 = .ok (.iload 6, 2) := by decide +kernel
theorem dX0_match_59 : decode cX0_match 59 = .ok (.iastore, 1) := by decide +kernel
theorem dX0_match_60 : decode cX0_match 60 = .ok (.iinc 5 1, 3) := by decide +kernel
theorem dX0_match_63 : decode cX0_match 63 = .ok (.goto (-47), 3) := by decide +kernel
theorem dX0_match_66 : decode cX0_match 66 = .ok (.iinc 4 1, 3) := by decide +kernel
theorem dX0_match_69 : decode cX0_match 69 = .ok (.goto (-63), 3) := by decide +kernel
theorem dX0_match_72 : decode cX0_match 72 = .ok (.return_, 1) := by decide +kernel
end
section
theorem dX1_init_0 : decode cX1_init 0 = .ok (.aload_n 0, 1) := by decide +kernel
theorem dX1_init_1 : decode cX1_init 1 = .ok (.invokespecial 3, 3) := by decide +kernel
theorem dX1_init_4 : decode cX1_init 4 = .ok (.aload_n 0, 1) := by decide +kernel
theorem dX1_init_5 : decode cX1_init 5 = .ok (.bipush 7, 2) := by decide +kernel
theorem dX1_init_7 : decode cX1_init 7 = .ok (.newarray .int, 2) := by decide +kernel
theorem dX1_init_9 : decode cX1_init 9 = .ok (.putfield 9, 3) := by decide +kernel
theorem dX1_init_12 : decode cX1_init 12 = .ok (.aload_n 0, 1) := by decide +kernel
theorem dX1_init_13 : decode cX1_init 13 = .ok (.bipush 7, 2) := by decide +kernel
theorem dX1_init_15 : decode cX1_init 15 = .ok (.newarray .int, 2) := by decide +kernel
theorem dX1_init_17 : decode cX1_init 17 = .ok (.putfield 15, 3) := by decide +kernel
theorem dX1_init_20 : decode cX1_init 20 = .ok (.aload_n 0, 1) := by decide +kernel
theorem dX1_init_21 : decode cX1_init 21 = .ok (.bipush 7, 2) := by decide +kernel
theorem dX1_init_23 : decode cX1_init 23 = .ok (.newarray .int, 2) := by decide +kernel
theorem dX1_init_25 : decode cX1_init 25 = .ok (.putfield 18, 3) := by decide +kernel
theorem dX1_init_28 : decode cX1_init 28 = .ok (.aload_n 0, 1) := by decide +kernel
theorem dX1_init_29 : decode cX1_init 29 = .ok (.bipush 7, 2) := by decide +kernel
theorem dX1_init_31 : decode cX1_init 31 = .ok (.newarray .int, 2) := by decide +kernel
theorem dX1_init_33 : decode cX1_init 33 = .ok (.putfield 21, 3) := by decide +kernel
theorem dX1_init_36 : decode cX1_init 36 = .ok (.aload_n 0, 1) := by decide +kernel
theorem dX1_init_37 : decode cX1_init 37 = .ok (.bipush 7, 2) := by decide +kernel
theorem dX1_init_39 : decode cX1_init 39 = .ok (.newarray .int, 2) := by decide +kernel
theorem dX1_init_41 : decode cX1_init 41 = .ok (.putfield 24, 3) := by decide +kernel
theorem dX1_init_44 : decode cX1_init 44 = .ok (.aload_n 0, 1) := by decide +kernel
theorem dX1_init_45 : decode cX1_init 45 = .ok (.bipush 7, 2) := by decide +kernel
theorem dX1_init_47 : decode cX1_init 47 = .ok (.newarray .boolean, 2) := by decide +kernel
theorem dX1_init_49 : decode cX1_init 49 = .ok (.putfield 27, 3) := by decide +kernel
theorem dX1_init_52 : decode cX1_init 52 = .ok (.aload_n 0, 1) := by decide +kernel
theorem dX1_init_53 : decode cX1_init 53 = .ok (.bipush 7, 2) := by decide +kernel
theorem dX1_init_55 : decode cX1_init 55 = .ok (.newarray .int, 2) := by decide +kernel
theorem dX1_init_57 : decode cX1_init 57 = .ok (.putfield 31, 3) := by decide +kernel
theorem dX1_init_60 : decode cX1_init 60 = .ok (.aload_n 0, 1) := by decide +kernel
theorem dX1_init_61 : decode cX1_init 61 = .ok (.bipush 7, 2) := by decide +kernel
theorem dX1_init_63 : decode cX1_init 63 = .ok (.newarray .int, 2) := by decide +kernel
theorem dX1_init_65 : decode cX1_init 65 = .ok (.putfield 34, 3) := by decide +kernel
theorem dX1_init_68 : decode cX1_init 68 = .ok (.aload_n 0, 1) := by decide +kernel
theorem dX1_init_69 : decode cX1_init 69 = .ok (.bipush 10, 2) := by decide +kernel
theorem dX1_init_71 : decode cX1_init 71 = .ok (.newarray .int, 2) := by decide +kernel
theorem dX1_init_73 : decode cX1_init 73 = .ok (.putfield 37, 3) := by decide +kernel
theorem dX1_init_76 : decode cX1_init 76 = .ok (.aload_n 0, 1) := by decide +kernel
theorem dX1_init_77 : decode cX1_init 77 = .ok (.iconst 0, 1) := by decide +kernel
theorem dX1_init_78 : decode cX1_init 78 = .ok (.putfield 40, 3) := by decide +kernel
theorem dX1_init_81 : decode cX1_init 81 = .ok (.aload_n 0, 1) := by decide +kernel
theorem dX1_init_82 : decode cX1_init 82 = .ok (.lconst 0, 1) := by decide +kernel
theorem dX1_init_83 : decode cX1_init 83 = .ok (.putfield 44, 3) := by decide +kernel
theorem dX1_init_86 : decode cX1_init 86 = .ok (.aload_n 0, 1) := by decide +kernel
theorem dX1_init_87 : decode cX1_init 87 = .ok (.iconst 0, 1) := by decide +kernel
theorem dX1_init_88 : decode cX1_init 88 = .ok (.putfield 48, 3) := by decide +kernel
theorem dX1_init_91 : decode cX1_init 91 = .ok (.return_, 1) := by decide +kernel
theorem dX1_clear_0 : decode cX1_clear 0 = .ok (.aload_n 0, 1) := by decide +kernel
theorem dX1_clear_1 : decode cX1_clear 1 = .ok (.iload_n 1, 1) := by decide +kernel
theorem dX1_clear_2 : decode cX1_clear 2 = .ok (.putfield 40, 3) := by decide +kernel
theorem dX1_clear_5 : decode cX1_clear 5 = .ok (.aload_n 0, 1) := by decide +kernel
theorem dX1_clear_6 : decode cX1_clear 6 = .ok (.iconst 0, 1) := by decide +kernel
theorem dX1_clear_7 : decode cX1_clear 7 = .ok (.putfield 48, 3) := by decide +kernel
theorem dX1_clear_10 : decode cX1_clear 10 = .ok (.iconst 0, 1) := by decide +kernel
theorem dX1_clear_11 : decode cX1_clear 11 = .ok (.istore_n 3, 1) := by decide +kernel
theorem dX1_clear_12 : decode cX1_clear 12 = .ok (.iload_n 3, 1) := by decide +kernel
theorem dX1_clear_13 : decode cX1_clear 13 = .ok (.bipush 10, 2) := by decide +kernel
theorem dX1_clear_15 : decode cX1_clear 15 = .ok (.if_icmp .ge 18, 3) := by decide +kernel
theorem dX1_clear_18 : decode cX1_clear 18 = .ok (.aload_n 0, 1) := by decide +kernel
theorem dX1_clear_19 : decode cX1_clear 19 = .ok (.getfield 37, 3) := by decide +kernel
theorem dX1_clear_22 : decode cX1_clear 22 = .ok (.iload_n 3, 1) := by decide +kernel
theorem dX1_clear_23 : decode cX1_clear 23 = .ok (.aload_n 2, 1) := by decide +kernel
theorem dX1_clear_24 : decode cX1_clear 24 = .ok (.iload_n 3, 1) := by decide +kernel
theorem dX1_clear_25 : decode cX1_clear 25 = .ok (.iaload, 1) := by decide +kernel
theorem dX1_clear_26 : decode cX1_clear 26 = .ok (.iastore, 1) := by decide +kernel
theorem dX1_clear_27 : decode cX1_clear 27 = .ok (.iinc 3 1, 3) := by decide +kernel
theorem dX1_clear_30 : decode cX1_clear 30 = .ok (.goto (-18), 3) := by decide +kernel
theorem dX1_clear_33 : decode cX1_clear 33 = .ok (.return_, 1) := by decide +kernel
theorem dX1_add_0 : decode cX1_add 0 = .ok (.aload_n 0, 1) := by decide +kernel
theorem dX1_add_1 : decode cX1_add 1 = .ok (.getfield 9, 3) := by decide +kernel
theorem dX1_add_4 : decode cX1_add 4 = .ok (.aload_n 0, 1) := by decide +kernel
theorem dX1_add_5 : decode cX1_add 5 = .ok (.getfield 48, 3) := by decide +kernel
theorem dX1_add_8 : decode cX1_add 8 = .ok (.iload_n 1, 1) := by decide +kernel
theorem dX1_add_9 : decode cX1_add 9 = .ok (.iastore, 1) := by decide +kernel
theorem dX1_add_10 : decode cX1_add 10 = .ok (.aload_n 0, 1) := by decide +kernel
theorem dX1_add_11 : decode cX1_add 11 = .ok (.getfield 15, 3) := by decide +kernel
theorem dX1_add_14 : decode cX1_add 14 = .ok (.aload_n 0, 1) := by decide +kernel
theorem dX1_add_15 : decode cX1_add 15 = .ok (.getfield 48, 3) := by decide +kernel
theorem dX1_add_18 : decode cX1_add 18 = .ok (.aload_n 2, 1) := by decide +kernel
theorem dX1_add_19 : decode cX1_add 19 = .ok (.iconst 0, 1) := by decide +kernel
theorem dX1_add_20 : decode cX1_add 20 = .ok (.iaload, 1) := by decide +kernel
theorem dX1_add_21 : decode cX1_add 21 = .ok (.iastore, 1) := by decide +kernel
theorem dX1_add_22 : decode cX1_add 22 = .ok (.aload_n 0, 1) := by decide +kernel
theorem dX1_add_23 : decode cX1_add 23 = .ok (.getfield 18, 3) := by decide +kernel
theorem dX1_add_26 : decode cX1_add 26 = .ok (.aload_n 0, 1) := by decide +kernel
theorem dX1_add_27 : decode cX1_add 27 = .ok (.getfield 48, 3) := by decide +kernel
theorem dX1_add_30 : decode cX1_add 30 = .ok (.aload_n 2, 1) := by decide +kernel
theorem dX1_add_31 : decode cX1_add 31 = .ok (.iconst 4, 1) := by decide +kernel
theorem dX1_add_32 : decode cX1_add 32 = .ok (.iaload, 1) := by decide +kernel
theorem dX1_add_33 : decode cX1_add 33 = .ok (.iastore, 1) := by decide +kernel
theorem dX1_add_34 : decode cX1_add 34 = .ok (.aload_n 0, 1) := by decide +kernel
theorem dX1_add_35 : decode cX1_add 35 = .ok (.getfield 21, 3) := by decide +kernel
theorem dX1_add_38 : decode cX1_add 38 = .ok (.aload_n 0, 1) := by decide +kernel
theorem dX1_add_39 : decode cX1_add 39 = .ok (.getfield 48, 3) := by decide +kernel
theorem dX1_add_42 : decode cX1_add 42 = .ok (.aload_n 2, 1) := by decide +kernel
theorem dX1_add_43 : decode cX1_add 43 = .ok (.iconst 5, 1) := by decide +kernel
theorem dX1_add_44 : decode cX1_add 44 = .ok (.iaload, 1) := by decide +kernel
theorem dX1_add_45 : decode cX1_add 45 = .ok (.iastore, 1) := by decide +kernel
theorem dX1_add_46 : decode cX1_add 46 = .ok (.aload_n 0, 1) := by decide +kernel
theorem dX1_add_47 : decode cX1_add 47 = .ok (.getfield 24, 3) := by decide +kernel
theorem dX1_add_50 : decode cX1_add 50 = .ok (.aload_n 0, 1) := by decide +kernel
theorem dX1_add_51 : decode cX1_add 51 = .ok (.getfield 48, 3) := by decide +kernel
theorem dX1_add_54 : decode cX1_add 54 = .ok (.aload_n 2, 1) := by decide +kernel
theorem dX1_add_55 : decode cX1_add 55 = .ok (.bipush 7, 2) := by decide +kernel
theorem dX1_add_57 : decode cX1_add 57 = .ok (.iaload, 1) := by decide +kernel
theorem dX1_add_58 : decode cX1_add 58 = .ok (.iastore, 1) := by decide +kernel
theorem dX1_add_59 : decode cX1_add 59 = .ok (.aload_n 0, 1) := by decide +kernel
theorem dX1_add_60 : decode cX1_add 60 = .ok (.getfield 27, 3) := by decide +kernel
theorem dX1_add_63 : decode cX1_add 63 = .ok (.aload_n 0, 1) := by decide +kernel
theorem dX1_add_64 : decode cX1_add 64 = .ok (.getfield 48, 3) := by decide +kernel
theorem dX1_add_67 : decode cX1_add 67 = .ok (.iconst 0, 1) := by decide +kernel
theorem dX1_add_68 : decode cX1_add 68 = .ok (.bastore, 1) := by decide +kernel
theorem dX1_add_69 : decode cX1_add 69 = .ok (.aload_n 0, 1) := by decide +kernel
theorem dX1_add_70 : decode cX1_add 70 = .ok (.dup, 1) := by decide +kernel
theorem dX1_add_71 : decode cX1_add 71 = .ok (.getfield 48, 3) := by decide +kernel
theorem dX1_add_74 : decode cX1_add 74 = .ok (.iconst 1, 1) := by decide +kernel
theorem dX1_add_75 : decode cX1_add 75 = .ok (.iadd, 1) := by decide +kernel
theorem dX1_add_76 : decode cX1_add 76 = .ok (.putfield 48, 3) := by decide +kernel
theorem dX1_add_79 : decode cX1_add 79 = .ok (.return_, 1) := by decide +kernel
set_option maxRecDepth 20000 in
theorem ggX1_search_X1_tryAll : GoodIn wsX1_search wsX1_tryAll := goodIn_r _ [7, 8, 9, 10, 11, 12, 6, 13, 2, 14, 15, 16, 17, 18, 19, 20, 21, 22, 23, 24, 25, 26, 27, 28, 29, 30, 31, 32, 3, 4, 5, 33, 34, 35, 36, 37, 38, 39, 40, 41, 42, 43, 44] (by decide +kernel) (by decide +kernel)
set_option maxRecDepth 20000 in
theorem gX1_search_X1_tryAll : GoodIn wsX1_search (wsV RX1 55 RX1 yX1_tryAll wsX1_tryAll) := goodIn_app (goodIn_of _ (by decide +kernel)) ggX1_search_X1_tryAll
theorem dX1_search_0 : decode cX1_search 0 = .ok (.aload_n 0, 1) := by decide +kernel
theorem dX1_search_1 : decode cX1_search 1 = .ok (.ldc2_w 53, 3) := by decide +kernel
theorem dX1_search_4 : decode cX1_search 4 = .ok (.putfield 44, 3) := by decide +kernel
theorem dX1_search_7 : decode cX1_search 7 = .ok (.aload_n 0, 1) := by decide +kernel
theorem dX1_search_8 : decode cX1_search 8 = .ok (.iconst 0, 1) := by decide +kernel
theorem dX1_search_9 : decode cX1_search 9 = .ok (.iload_n 1, 1) := by decide +kernel
theorem dX1_search_10 : decode cX1_search 10 = .ok (.lconst 0, 1) := by decide +kernel
theorem dX1_search_11 : decode cX1_search 11 = .ok (.invokevirtual 55, 3) := by decide +kernel
theorem dX1_search_14 : decode cX1_search 14 = .ok (.return_, 1) := by decide +kernel
theorem dX1_bestCost_0 : decode cX1_bestCost 0 = .ok (.aload_n 0, 1) := by decide +kernel
theorem dX1_bestCost_1 : decode cX1_bestCost 1 = .ok (.getfield 48, 3) := by decide +kernel
theorem dX1_bestCost_4 : decode cX1_bestCost 4 = .ok (.ifCond .ne 7, 3) := by decide +kernel
theorem dX1_bestCost_7 : decode cX1_bestCost 7 = .ok (.lconst 0, 1) := by decide +kernel
theorem dX1_bestCost_8 : decode cX1_bestCost 8 = .ok (.goto 7, 3) := by decide +kernel
theorem dX1_bestCost_11 : decode cX1_bestCost 11 = .ok (.aload_n 0, 1) := by decide +kernel
theorem dX1_bestCost_12 : decode cX1_bestCost 12 = .ok (.getfield 44, 3) := by decide +kernel
theorem dX1_bestCost_15 : decode cX1_bestCost 15 = .ok (.lreturn, 1) := by decide +kernel
theorem dX1_bestAt_0 : decode cX1_bestAt 0 = .ok (.iload_n 1, 1) := by decide +kernel
theorem dX1_bestAt_1 : decode cX1_bestAt 1 = .ok (.ifCond .lt 11, 3) := by decide +kernel
theorem dX1_bestAt_4 : decode cX1_bestAt 4 = .ok (.iload_n 1, 1) := by decide +kernel
theorem dX1_bestAt_5 : decode cX1_bestAt 5 = .ok (.aload_n 0, 1) := by decide +kernel
theorem dX1_bestAt_6 : decode cX1_bestAt 6 = .ok (.getfield 48, 3) := by decide +kernel
theorem dX1_bestAt_9 : decode cX1_bestAt 9 = .ok (.if_icmp .lt 7, 3) := by decide +kernel
theorem dX1_bestAt_12 : decode cX1_bestAt 12 = .ok (.iconst (-1), 1) := by decide +kernel
theorem dX1_bestAt_13 : decode cX1_bestAt 13 = .ok (.goto 14, 3) := by decide +kernel
theorem dX1_bestAt_16 : decode cX1_bestAt 16 = .ok (.aload_n 0, 1) := by decide +kernel
theorem dX1_bestAt_17 : decode cX1_bestAt 17 = .ok (.getfield 9, 3) := by decide +kernel
theorem dX1_bestAt_20 : decode cX1_bestAt 20 = .ok (.aload_n 0, 1) := by decide +kernel
theorem dX1_bestAt_21 : decode cX1_bestAt 21 = .ok (.getfield 34, 3) := by decide +kernel
theorem dX1_bestAt_24 : decode cX1_bestAt 24 = .ok (.iload_n 1, 1) := by decide +kernel
theorem dX1_bestAt_25 : decode cX1_bestAt 25 = .ok (.iaload, 1) := by decide +kernel
theorem dX1_bestAt_26 : decode cX1_bestAt 26 = .ok (.iaload, 1) := by decide +kernel
theorem dX1_bestAt_27 : decode cX1_bestAt 27 = .ok (.ireturn, 1) := by decide +kernel
set_option maxRecDepth 20000 in
theorem ggX1_tryAll_X1_keepTried : GoodIn wsX1_tryAll wsX1_keepTried := goodIn_r _ [7, 8, 1, 9, 10, 31, 32, 33, 34, 35, 36, 37, 38, 39, 40, 41, 42] (by decide +kernel) (by decide +kernel)
set_option maxRecDepth 20000 in
theorem gX1_tryAll_X1_keepTried : GoodIn wsX1_tryAll (wsV RX1 59 RX1 yX1_keepTried wsX1_keepTried) := goodIn_app (goodIn_of _ (by decide +kernel)) ggX1_tryAll_X1_keepTried
set_option maxRecDepth 20000 in
theorem ggX1_tryAll_X1_tryNext : GoodIn wsX1_tryAll wsX1_tryNext := goodIn_r _ [14, 15, 16, 17, 18, 19, 20, 8, 10, 2, 21, 22, 23, 24, 25, 26, 27, 28, 29, 30, 6, 0, 1, 3, 4, 5, 7, 9, 11, 12, 13, 31, 32, 33, 34, 35, 36, 37, 38, 39, 40, 41, 42] (by decide +kernel) (by decide +kernel)
set_option maxRecDepth 20000 in
theorem gX1_tryAll_X1_tryNext : GoodIn wsX1_tryAll (wsV RX1 63 RX1 yX1_tryNext wsX1_tryNext) := goodIn_app (goodIn_of _ (by decide +kernel)) ggX1_tryAll_X1_tryNext
theorem dX1_tryAll_0 : decode cX1_tryAll 0 = .ok (.iload_n 1, 1) := by decide +kernel
theorem dX1_tryAll_1 : decode cX1_tryAll 1 = .ok (.aload_n 0, 1) := by decide +kernel
theorem dX1_tryAll_2 : decode cX1_tryAll 2 = .ok (.getfield 48, 3) := by decide +kernel
theorem dX1_tryAll_5 : decode cX1_tryAll 5 = .ok (.if_icmp .lt 9, 3) := by decide +kernel
theorem dX1_tryAll_8 : decode cX1_tryAll 8 = .ok (.aload_n 0, 1) := by decide +kernel
theorem dX1_tryAll_9 : decode cX1_tryAll 9 = .ok (.lload_n 3, 1) := by decide +kernel
theorem dX1_tryAll_10 : decode cX1_tryAll 10 = .ok (.invokevirtual 59, 3) := by decide +kernel
theorem dX1_tryAll_13 : decode cX1_tryAll 13 = .ok (.return_, 1) := by decide +kernel
theorem dX1_tryAll_14 : decode cX1_tryAll 14 = .ok (.iconst 0, 1) := by decide +kernel
theorem dX1_tryAll_15 : decode cX1_tryAll 15 = .ok (.istore 5, 2) := by decide +kernel
theorem dX1_tryAll_17 : decode cX1_tryAll 17 = .ok (.iload 5, 2) := by decide +kernel
theorem dX1_tryAll_19 : decode cX1_tryAll 19 = .ok (.aload_n 0, 1) := by decide +kernel
theorem dX1_tryAll_20 : decode cX1_tryAll 20 = .ok (.getfield 48, 3) := by decide +kernel
theorem dX1_tryAll_23 : decode cX1_tryAll 23 = .ok (.if_icmp .ge 28, 3) := by decide +kernel
theorem dX1_tryAll_26 : decode cX1_tryAll 26 = .ok (.aload_n 0, 1) := by decide +kernel
theorem dX1_tryAll_27 : decode cX1_tryAll 27 = .ok (.getfield 27, 3) := by decide +kernel
theorem dX1_tryAll_30 : decode cX1_tryAll 30 = .ok (.iload 5, 2) := by decide +kernel
theorem dX1_tryAll_32 : decode cX1_tryAll 32 = .ok (.baload, 1) := by decide +kernel
theorem dX1_tryAll_33 : decode cX1_tryAll 33 = .ok (.ifCond .ne 12, 3) := by decide +kernel
theorem dX1_tryAll_36 : decode cX1_tryAll 36 = .ok (.aload_n 0, 1) := by decide +kernel
theorem dX1_tryAll_37 : decode cX1_tryAll 37 = .ok (.iload 5, 2) := by decide +kernel
theorem dX1_tryAll_39 : decode cX1_tryAll 39 = .ok (.iload_n 1, 1) := by decide +kernel
theorem dX1_tryAll_40 : decode cX1_tryAll 40 = .ok (.iload_n 2, 1) := by decide +kernel
theorem dX1_tryAll_41 : decode cX1_tryAll 41 = .ok (.lload_n 3, 1) := by decide +kernel
theorem dX1_tryAll_42 : decode cX1_tryAll 42 = .ok (.invokevirtual 63, 3) := by decide +kernel
theorem dX1_tryAll_45 : decode cX1_tryAll 45 = .ok (.iinc 5 1, 3) := by decide +kernel
theorem dX1_tryAll_48 : decode cX1_tryAll 48 = .ok (.goto (-31), 3) := by decide +kernel
theorem dX1_tryAll_51 : decode cX1_tryAll 51 = .ok (.return_, 1) := by decide +kernel
set_option maxRecDepth 20000 in
theorem ggX1_tryNext_X3_startOf : GoodIn wsX1_tryNext wsX3_startOf := goodIn_r _ [12, 13, 14, 15, 16] (by decide +kernel) (by decide +kernel)
set_option maxRecDepth 20000 in
theorem gX1_tryNext_X3_startOf_n67 : GoodIn wsX1_tryNext (wsX3_startOf) := ggX1_tryNext_X3_startOf
set_option maxRecDepth 20000 in
theorem ggX1_tryNext_X1_tryAll : GoodIn wsX1_tryNext wsX1_tryAll := goodIn_r _ [21, 22, 9, 23, 24, 25, 20, 26, 7, 27, 8, 28, 29, 30, 0, 1, 2, 3, 4, 5, 6, 10, 11, 12, 13, 14, 15, 16, 17, 18, 19, 31, 32, 33, 34, 35, 36, 37, 38, 39, 40, 41, 42] (by decide +kernel) (by decide +kernel)
set_option maxRecDepth 20000 in
theorem gX1_tryNext_X1_tryAll : GoodIn wsX1_tryNext (wsV RX1 55 RX1 yX1_tryAll wsX1_tryAll) := goodIn_app (goodIn_of _ (by decide +kernel)) ggX1_tryNext_X1_tryAll
theorem dX1_tryNext_0 : decode cX1_tryNext 0 = .ok (.aload_n 0, 1) := by decide +kernel
theorem dX1_tryNext_1 : decode cX1_tryNext 1 = .ok (.getfield 15, 3) := by decide +kernel
theorem dX1_tryNext_4 : decode cX1_tryNext 4 = .ok (.iload_n 1, 1) := by decide +kernel
theorem dX1_tryNext_5 : decode cX1_tryNext 5 = .ok (.iaload, 1) := by decide +kernel
theorem dX1_tryNext_6 : decode cX1_tryNext 6 = .ok (.istore 6, 2) := by decide +kernel
theorem dX1_tryNext_8 : decode cX1_tryNext 8 = .ok (.aload_n 0, 1) := by decide +kernel
theorem dX1_tryNext_9 : decode cX1_tryNext 9 = .ok (.getfield 37, 3) := by decide +kernel
theorem dX1_tryNext_12 : decode cX1_tryNext 12 = .ok (.iload 6, 2) := by decide +kernel
theorem dX1_tryNext_14 : decode cX1_tryNext 14 = .ok (.iaload, 1) := by decide +kernel
theorem dX1_tryNext_15 : decode cX1_tryNext 15 = .ok (.istore 7, 2) := by decide +kernel
theorem dX1_tryNext_17 : decode cX1_tryNext 17 = .ok (.aload_n 0, 1) := by decide +kernel
theorem dX1_tryNext_18 : decode cX1_tryNext 18 = .ok (.getfield 40, 3) := by decide +kernel
theorem dX1_tryNext_21 : decode cX1_tryNext 21 = .ok (.iload_n 3, 1) := by decide +kernel
theorem dX1_tryNext_22 : decode cX1_tryNext 22 = .ok (.iload 7, 2) := by decide +kernel
theorem dX1_tryNext_24 : decode cX1_tryNext 24 = .ok (.aload_n 0, 1) := by decide +kernel
theorem dX1_tryNext_25 : decode cX1_tryNext 25 = .ok (.getfield 18, 3) := by decide +kernel
theorem dX1_tryNext_28 : decode cX1_tryNext 28 = .ok (.iload_n 1, 1) := by decide +kernel
theorem dX1_tryNext_29 : decode cX1_tryNext 29 = .ok (.iaload, 1) := by decide +kernel
theorem dX1_tryNext_30 : decode cX1_tryNext 30 = .ok (.invokestatic 67, 3) := by decide +kernel
theorem dX1_tryNext_33 : decode cX1_tryNext 33 = .ok (.aload_n 0, 1) := by decide +kernel
theorem dX1_tryNext_34 : decode cX1_tryNext 34 = .ok (.getfield 18, 3) := by decide +kernel
theorem dX1_tryNext_37 : decode cX1_tryNext 37 = .ok (.iload_n 1, 1) := by decide +kernel
theorem dX1_tryNext_38 : decode cX1_tryNext 38 = .ok (.iaload, 1) := by decide +kernel
theorem dX1_tryNext_39 : decode cX1_tryNext 39 = .ok (.iadd, 1) := by decide +kernel
theorem dX1_tryNext_40 : decode cX1_tryNext 40 = .ok (.istore 8, 2) := by decide +kernel
theorem dX1_tryNext_42 : decode cX1_tryNext 42 = .ok (.iload 8, 2) := by decide +kernel
theorem dX1_tryNext_44 : decode cX1_tryNext 44 = .ok (.aload_n 0, 1) := by decide +kernel
theorem dX1_tryNext_45 : decode cX1_tryNext 45 = .ok (.getfield 21, 3) := by decide +kernel
theorem dX1_tryNext_48 : decode cX1_tryNext 48 = .ok (.iload_n 1, 1) := by decide +kernel
theorem dX1_tryNext_49 : decode cX1_tryNext 49 = .ok (.iaload, 1) := by decide +kernel
theorem dX1_tryNext_50 : decode cX1_tryNext 50 = .ok (.iadd, 1) := by decide +kernel
theorem dX1_tryNext_51 : decode cX1_tryNext 51 = .ok (.istore 9, 2) := by decide +kernel
theorem dX1_tryNext_53 : decode cX1_tryNext 53 = .ok (.lload 4, 2) := by decide +kernel
theorem dX1_tryNext_55 : decode cX1_tryNext 55 = .ok (.aload_n 0, 1) := by decide +kernel
theorem dX1_tryNext_56 : decode cX1_tryNext 56 = .ok (.getfield 24, 3) := by decide +kernel
theorem dX1_tryNext_59 : decode cX1_tryNext 59 = .ok (.iload_n 1, 1) := by decide +kernel
theorem dX1_tryNext_60 : decode cX1_tryNext 60 = .ok (.iaload, 1) := by decide +kernel
theorem dX1_tryNext_61 : decode cX1_tryNext 61 = .ok (.i2l, 1) := by decide +kernel
theorem dX1_tryNext_62 : decode cX1_tryNext 62 = .ok (.iload 9, 2) := by decide +kernel
theorem dX1_tryNext_64 : decode cX1_tryNext 64 = .ok (.i2l, 1) := by decide +kernel
theorem dX1_tryNext_65 : decode cX1_tryNext 65 = .ok (.lmul, 1) := by decide +kernel
theorem dX1_tryNext_66 : decode cX1_tryNext 66 = .ok (.ladd, 1) := by decide +kernel
theorem dX1_tryNext_67 : decode cX1_tryNext 67 = .ok (.lstore 10, 2) := by decide +kernel
theorem dX1_tryNext_69 : decode cX1_tryNext 69 = .ok (.lload 10, 2) := by decide +kernel
theorem dX1_tryNext_71 : decode cX1_tryNext 71 = .ok (.aload_n 0, 1) := by decide +kernel
theorem dX1_tryNext_72 : decode cX1_tryNext 72 = .ok (.getfield 44, 3) := by decide +kernel
theorem dX1_tryNext_75 : decode cX1_tryNext 75 = .ok (.lcmp, 1) := by decide +kernel
theorem dX1_tryNext_76 : decode cX1_tryNext 76 = .ok (.ifCond .lt 4, 3) := by decide +kernel
theorem dX1_tryNext_79 : decode cX1_tryNext 79 = .ok (.return_, 1) := by decide +kernel
theorem dX1_tryNext_80 : decode cX1_tryNext 80 = .ok (.aload_n 0, 1) := by decide +kernel
theorem dX1_tryNext_81 : decode cX1_tryNext 81 = .ok (.getfield 31, 3) := by decide +kernel
theorem dX1_tryNext_84 : decode cX1_tryNext 84 = .ok (.iload_n 2, 1) := by decide +kernel
theorem dX1_tryNext_85 : decode cX1_tryNext 85 = .ok (.iload_n 1, 1) := by decide +kernel
theorem dX1_tryNext_86 : decode cX1_tryNext 86 = .ok (.iastore, 1) := by decide +kernel
theorem dX1_tryNext_87 : decode cX1_tryNext 87 = .ok (.aload_n 0, 1) := by decide +kernel
theorem dX1_tryNext_88 : decode cX1_tryNext 88 = .ok (.getfield 27, 3) := by decide +kernel
theorem dX1_tryNext_91 : decode cX1_tryNext 91 = .ok (.iload_n 1, 1) := by decide +kernel
theorem dX1_tryNext_92 : decode cX1_tryNext 92 = .ok (.iconst 1, 1) := by decide +kernel
theorem dX1_tryNext_93 : decode cX1_tryNext 93 = .ok (.bastore, 1) := by decide +kernel
theorem dX1_tryNext_94 : decode cX1_tryNext 94 = .ok (.aload_n 0, 1) := by decide +kernel
theorem dX1_tryNext_95 : decode cX1_tryNext 95 = .ok (.getfield 37, 3) := by decide +kernel
theorem dX1_tryNext_98 : decode cX1_tryNext 98 = .ok (.iload 6, 2) := by decide +kernel
theorem dX1_tryNext_100 : decode cX1_tryNext 100 = .ok (.iload 9, 2) := by decide +kernel
theorem dX1_tryNext_102 : decode cX1_tryNext 102 = .ok (.iastore, 1) := by decide +kernel
theorem dX1_tryNext_103 : decode cX1_tryNext 103 = .ok (.aload_n 0, 1) := by decide +kernel
theorem dX1_tryNext_104 : decode cX1_tryNext 104 = .ok (.iload_n 2, 1) := by decide +kernel
theorem dX1_tryNext_105 : decode cX1_tryNext 105 = .ok (.iconst 1, 1) := by decide +kernel
theorem dX1_tryNext_106 : decode cX1_tryNext 106 = .ok (.iadd, 1) := by decide +kernel
theorem dX1_tryNext_107 : decode cX1_tryNext 107 = .ok (.iload 8, 2) := by decide +kernel
theorem dX1_tryNext_109 : decode cX1_tryNext 109 = .ok (.lload 10, 2) := by decide +kernel
theorem dX1_tryNext_111 : decode cX1_tryNext 111 = .ok (.invokevirtual 55, 3) := by decide +kernel
theorem dX1_tryNext_114 : decode cX1_tryNext 114 = .ok (.aload_n 0, 1) := by decide +kernel
theorem dX1_tryNext_115 : decode cX1_tryNext 115 = .ok (.getfield 37, 3) := by decide +kernel
theorem dX1_tryNext_118 : decode cX1_tryNext 118 = .ok (.iload 6, 2) := by decide +kernel
theorem dX1_tryNext_120 : decode cX1_tryNext 120 = .ok (.iload 7, 2) := by decide +kernel
theorem dX1_tryNext_122 : decode cX1_tryNext 122 = .ok (.iastore, 1) := by decide +kernel
theorem dX1_tryNext_123 : decode cX1_tryNext 123 = .ok (.aload_n 0, 1) := by decide +kernel
theorem dX1_tryNext_124 : decode cX1_tryNext 124 = .ok (.getfield 27, 3) := by decide +kernel
theorem dX1_tryNext_127 : decode cX1_tryNext 127 = .ok (.iload_n 1, 1) := by decide +kernel
theorem dX1_tryNext_128 : decode cX1_tryNext 128 = .ok (.iconst 0, 1) := by decide +kernel
theorem dX1_tryNext_129 : decode cX1_tryNext 129 = .ok (.bastore, 1) := by decide +kernel
theorem dX1_tryNext_130 : decode cX1_tryNext 130 = .ok (.return_, 1) := by decide +kernel
theorem dX1_keepTried_0 : decode cX1_keepTried 0 = .ok (.aload_n 0, 1) := by decide +kernel
theorem dX1_keepTried_1 : decode cX1_keepTried 1 = .ok (.lload_n 1, 1) := by decide +kernel
theorem dX1_keepTried_2 : decode cX1_keepTried 2 = .ok (.putfield 44, 3) := by decide +kernel
theorem dX1_keepTried_5 : decode cX1_keepTried 5 = .ok (.iconst 0, 1) := by decide +kernel
theorem dX1_keepTried_6 : decode cX1_keepTried 6 = .ok (.istore_n 3, 1) := by decide +kernel
theorem dX1_keepTried_7 : decode cX1_keepTried 7 = .ok (.iload_n 3, 1) := by decide +kernel
theorem dX1_keepTried_8 : decode cX1_keepTried 8 = .ok (.aload_n 0, 1) := by decide +kernel
theorem dX1_keepTried_9 : decode cX1_keepTried 9 = .ok (.getfield 48, 3) := by decide +kernel
theorem dX1_keepTried_12 : decode cX1_keepTried 12 = .ok (.if_icmp .ge 21, 3) := by decide +kernel
theorem dX1_keepTried_15 : decode cX1_keepTried 15 = .ok (.aload_n 0, 1) := by decide +kernel
theorem dX1_keepTried_16 : decode cX1_keepTried 16 = .ok (.getfield 34, 3) := by decide +kernel
theorem dX1_keepTried_19 : decode cX1_keepTried 19 = .ok (.iload_n 3, 1) := by decide +kernel
theorem dX1_keepTried_20 : decode cX1_keepTried 20 = .ok (.aload_n 0, 1) := by decide +kernel
theorem dX1_keepTried_21 : decode cX1_keepTried 21 = .ok (.getfield 31, 3) := by decide +kernel
theorem dX1_keepTried_24 : decode cX1_keepTried 24 = .ok (.iload_n 3, 1) := by decide +kernel
theorem dX1_keepTried_25 : decode cX1_keepTried 25 = .ok (.iaload, 1) := by decide +kernel
theorem dX1_keepTried_26 : decode cX1_keepTried 26 = .ok (.iastore, 1) := by decide +kernel
theorem dX1_keepTried_27 : decode cX1_keepTried 27 = .ok (.iinc 3 1, 3) := by decide +kernel
theorem dX1_keepTried_30 : decode cX1_keepTried 30 = .ok (.goto (-23), 3) := by decide +kernel
theorem dX1_keepTried_33 : decode cX1_keepTried 33 = .ok (.return_, 1) := by decide +kernel
end
section
theorem dX2_init_0 : decode cX2_init 0 = .ok (.aload_n 0, 1) := by decide +kernel
theorem dX2_init_1 : decode cX2_init 1 = .ok (.invokespecial 3, 3) := by decide +kernel
theorem dX2_init_4 : decode cX2_init 4 = .ok (.aload_n 0, 1) := by decide +kernel
theorem dX2_init_5 : decode cX2_init 5 = .ok (.bipush 100, 2) := by decide +kernel
theorem dX2_init_7 : decode cX2_init 7 = .ok (.newarray .byte, 2) := by decide +kernel
theorem dX2_init_9 : decode cX2_init 9 = .ok (.putfield 9, 3) := by decide +kernel
theorem dX2_init_12 : decode cX2_init 12 = .ok (.aload_n 0, 1) := by decide +kernel
theorem dX2_init_13 : decode cX2_init 13 = .ok (.iconst 4, 1) := by decide +kernel
theorem dX2_init_14 : decode cX2_init 14 = .ok (.newarray .int, 2) := by decide +kernel
theorem dX2_init_16 : decode cX2_init 16 = .ok (.putfield 15, 3) := by decide +kernel
theorem dX2_init_19 : decode cX2_init 19 = .ok (.aload_n 0, 1) := by decide +kernel
theorem dX2_init_20 : decode cX2_init 20 = .ok (.iconst 0, 1) := by decide +kernel
theorem dX2_init_21 : decode cX2_init 21 = .ok (.putfield 19, 3) := by decide +kernel
theorem dX2_init_24 : decode cX2_init 24 = .ok (.aload_n 0, 1) := by decide +kernel
theorem dX2_init_25 : decode cX2_init 25 = .ok (.iconst 0, 1) := by decide +kernel
theorem dX2_init_26 : decode cX2_init 26 = .ok (.putfield 23, 3) := by decide +kernel
theorem dX2_init_29 : decode cX2_init 29 = .ok (.aload_n 0, 1) := by decide +kernel
theorem dX2_init_30 : decode cX2_init 30 = .ok (.iconst 0, 1) := by decide +kernel
theorem dX2_init_31 : decode cX2_init 31 = .ok (.putfield 26, 3) := by decide +kernel
theorem dX2_init_34 : decode cX2_init 34 = .ok (.aload_n 0, 1) := by decide +kernel
theorem dX2_init_35 : decode cX2_init 35 = .ok (.iconst (-1), 1) := by decide +kernel
theorem dX2_init_36 : decode cX2_init 36 = .ok (.putfield 29, 3) := by decide +kernel
theorem dX2_init_39 : decode cX2_init 39 = .ok (.aload_n 0, 1) := by decide +kernel
theorem dX2_init_40 : decode cX2_init 40 = .ok (.iconst 0, 1) := by decide +kernel
theorem dX2_init_41 : decode cX2_init 41 = .ok (.putfield 32, 3) := by decide +kernel
theorem dX2_init_44 : decode cX2_init 44 = .ok (.return_, 1) := by decide +kernel
theorem dX2_take_0 : decode cX2_take 0 = .ok (.bipush 24, 2) := by decide +kernel
theorem dX2_take_2 : decode cX2_take 2 = .ok (.istore_n 2, 1) := by decide +kernel
theorem dX2_take_3 : decode cX2_take 3 = .ok (.iload_n 2, 1) := by decide +kernel
theorem dX2_take_4 : decode cX2_take 4 = .ok (.ifCond .lt 41, 3) := by decide +kernel
theorem dX2_take_7 : decode cX2_take 7 = .ok (.aload_n 0, 1) := by decide +kernel
theorem dX2_take_8 : decode cX2_take 8 = .ok (.getfield 32, 3) := by decide +kernel
theorem dX2_take_11 : decode cX2_take 11 = .ok (.bipush 100, 2) := by decide +kernel
theorem dX2_take_13 : decode cX2_take 13 = .ok (.if_icmp .ge 32, 3) := by decide +kernel
theorem dX2_take_16 : decode cX2_take 16 = .ok (.aload_n 0, 1) := by decide +kernel
theorem dX2_take_17 : decode cX2_take 17 = .ok (.getfield 9, 3) := by decide +kernel
theorem dX2_take_20 : decode cX2_take 20 = .ok (.aload_n 0, 1) := by decide +kernel
theorem dX2_take_21 : decode cX2_take 21 = .ok (.getfield 32, 3) := by decide +kernel
theorem dX2_take_24 : decode cX2_take 24 = .ok (.iload_n 1, 1) := by decide +kernel
theorem dX2_take_25 : decode cX2_take 25 = .ok (.iload_n 2, 1) := by decide +kernel
theorem dX2_take_26 : decode cX2_take 26 = .ok (.iushr, 1) := by decide +kernel
theorem dX2_take_27 : decode cX2_take 27 = .ok (.i2b, 1) := by decide +kernel
theorem dX2_take_28 : decode cX2_take 28 = .ok (.bastore, 1) := by decide +kernel
theorem dX2_take_29 : decode cX2_take 29 = .ok (.aload_n 0, 1) := by decide +kernel
theorem dX2_take_30 : decode cX2_take 30 = .ok (.dup, 1) := by decide +kernel
theorem dX2_take_31 : decode cX2_take 31 = .ok (.getfield 32, 3) := by decide +kernel
theorem dX2_take_34 : decode cX2_take 34 = .ok (.iconst 1, 1) := by decide +kernel
theorem dX2_take_35 : decode cX2_take 35 = .ok (.iadd, 1) := by decide +kernel
theorem dX2_take_36 : decode cX2_take 36 = .ok (.putfield 32, 3) := by decide +kernel
theorem dX2_take_39 : decode cX2_take 39 = .ok (.iinc 2 (-8), 3) := by decide +kernel
theorem dX2_take_42 : decode cX2_take 42 = .ok (.goto (-39), 3) := by decide +kernel
theorem dX2_take_45 : decode cX2_take 45 = .ok (.return_, 1) := by decide +kernel
set_option maxRecDepth 20000 in
theorem ggX2_readHat_X2_startReading : GoodIn wsX2_readHat wsX2_startReading := goodIn_r _ [8, 3, 9, 1, 10, 2, 102, 103, 104, 105, 106, 107, 108] (by decide +kernel) (by decide +kernel)
set_option maxRecDepth 20000 in
theorem gX2_readHat_X2_startReading : GoodIn wsX2_readHat (wsV RX2 35 RX2 yX2_startReading wsX2_startReading) := goodIn_app (goodIn_of _ (by decide +kernel)) ggX2_readHat_X2_startReading
set_option maxRecDepth 20000 in
theorem ggX2_readHat_X2_readPart : GoodIn wsX2_readHat wsX2_readPart := goodIn_r _ [14, 9, 2, 15, 16, 17, 18, 19, 7, 20, 3, 21, 22, 23, 24, 25, 26, 27, 28, 29, 30, 31, 32, 33, 34, 35, 36, 37, 38, 39, 40, 41, 42, 43, 44, 45, 46, 47, 48, 49, 50, 51, 52, 53, 54, 55, 56, 57, 58, 59, 60, 61, 62, 63, 64, 65, 66, 67, 68, 69, 70, 71, 72, 73, 74, 75, 76, 77, 78, 79, 80, 81, 82, 83, 84, 85, 86, 87, 88, 89, 1, 10, 90, 91, 92, 93, 94, 95, 96, 97, 102, 103, 104, 105, 106, 107, 108] (by decide +kernel) (by decide +kernel)
set_option maxRecDepth 20000 in
theorem gX2_readHat_X2_readPart : GoodIn wsX2_readHat (wsV RX2 39 RX2 yX2_readPart wsX2_readPart) := goodIn_app (goodIn_of _ (by decide +kernel)) ggX2_readHat_X2_readPart
set_option maxRecDepth 20000 in
theorem ggX2_readHat_X2_readComma : GoodIn wsX2_readHat wsX2_readComma := goodIn_r _ [101, 9, 3, 21, 17, 18, 19, 7, 20, 86, 87, 88, 89, 1, 10, 102, 103, 104, 105, 106, 107, 108] (by decide +kernel) (by decide +kernel)
set_option maxRecDepth 20000 in
theorem gX2_readHat_X2_readComma : GoodIn wsX2_readHat (wsV RX2 43 RX2 yX2_readComma wsX2_readComma) := goodIn_app (goodIn_of _ (by decide +kernel)) ggX2_readHat_X2_readComma
set_option maxRecDepth 20000 in
theorem ggX2_readHat_X2_blame : GoodIn wsX2_readHat wsX2_blame := goodIn_r _ [89, 1, 10, 102, 103, 104, 105, 106, 107, 108] (by decide +kernel) (by decide +kernel)
set_option maxRecDepth 20000 in
theorem gX2_readHat_X2_blame : GoodIn wsX2_readHat (wsV RX2 46 RX2 yX2_blame wsX2_blame) := goodIn_app (goodIn_of _ (by decide +kernel)) ggX2_readHat_X2_blame
theorem dX2_readHat_0 : decode cX2_readHat 0 = .ok (.aload_n 0, 1) := by decide +kernel
theorem dX2_readHat_1 : decode cX2_readHat 1 = .ok (.iload_n 1, 1) := by decide +kernel
theorem dX2_readHat_2 : decode cX2_readHat 2 = .ok (.invokevirtual 35, 3) := by decide +kernel
theorem dX2_readHat_5 : decode cX2_readHat 5 = .ok (.iconst 1, 1) := by decide +kernel
theorem dX2_readHat_6 : decode cX2_readHat 6 = .ok (.istore_n 2, 1) := by decide +kernel
theorem dX2_readHat_7 : decode cX2_readHat 7 = .ok (.iconst 0, 1) := by decide +kernel
theorem dX2_readHat_8 : decode cX2_readHat 8 = .ok (.istore_n 3, 1) := by decide +kernel
theorem dX2_readHat_9 : decode cX2_readHat 9 = .ok (.iload_n 3, 1) := by decide +kernel
theorem dX2_readHat_10 : decode cX2_readHat 10 = .ok (.iconst 4, 1) := by decide +kernel
theorem dX2_readHat_11 : decode cX2_readHat 11 = .ok (.if_icmp .gt 33, 3) := by decide +kernel
theorem dX2_readHat_14 : decode cX2_readHat 14 = .ok (.iload_n 2, 1) := by decide +kernel
theorem dX2_readHat_15 : decode cX2_readHat 15 = .ok (.ifCond .eq 29, 3) := by decide +kernel
theorem dX2_readHat_18 : decode cX2_readHat 18 = .ok (.aload_n 0, 1) := by decide +kernel
theorem dX2_readHat_19 : decode cX2_readHat 19 = .ok (.invokevirtual 39, 3) := by decide +kernel
theorem dX2_readHat_22 : decode cX2_readHat 22 = .ok (.ifCond .eq 14, 3) := by decide +kernel
theorem dX2_readHat_25 : decode cX2_readHat 25 = .ok (.aload_n 0, 1) := by decide +kernel
theorem dX2_readHat_26 : decode cX2_readHat 26 = .ok (.invokevirtual 43, 3) := by decide +kernel
theorem dX2_readHat_29 : decode cX2_readHat 29 = .ok (.ifCond .eq 7, 3) := by decide +kernel
theorem dX2_readHat_32 : decode cX2_readHat 32 = .ok (.iconst 1, 1) := by decide +kernel
theorem dX2_readHat_33 : decode cX2_readHat 33 = .ok (.goto 4, 3) := by decide +kernel
theorem dX2_readHat_36 : decode cX2_readHat 36 = .ok (.iconst 0, 1) := by decide +kernel
theorem dX2_readHat_37 : decode cX2_readHat 37 = .ok (.istore_n 2, 1) := by decide +kernel
theorem dX2_readHat_38 : decode cX2_readHat 38 = .ok (.iinc 3 1, 3) := by decide +kernel
theorem dX2_readHat_41 : decode cX2_readHat 41 = .ok (.goto (-32), 3) := by decide +kernel
theorem dX2_readHat_44 : decode cX2_readHat 44 = .ok (.aload_n 0, 1) := by decide +kernel
theorem dX2_readHat_45 : decode cX2_readHat 45 = .ok (.getfield 26, 3) := by decide +kernel
theorem dX2_readHat_48 : decode cX2_readHat 48 = .ok (.ifCond .ne 32, 3) := by decide +kernel
theorem dX2_readHat_51 : decode cX2_readHat 51 = .ok (.aload_n 0, 1) := by decide +kernel
theorem dX2_readHat_52 : decode cX2_readHat 52 = .ok (.getfield 15, 3) := by decide +kernel
theorem dX2_readHat_55 : decode cX2_readHat 55 = .ok (.iconst 0, 1) := by decide +kernel
theorem dX2_readHat_56 : decode cX2_readHat 56 = .ok (.iaload, 1) := by decide +kernel
theorem dX2_readHat_57 : decode cX2_readHat 57 = .ok (.iconst (-1), 1) := by decide +kernel
theorem dX2_readHat_58 : decode cX2_readHat 58 = .ok (.if_icmp .eq 13, 3) := by decide +kernel
theorem dX2_readHat_61 : decode cX2_readHat 61 = .ok (.aload_n 0, 1) := by decide +kernel
theorem dX2_readHat_62 : decode cX2_readHat 62 = .ok (.getfield 15, 3) := by decide +kernel
theorem dX2_readHat_65 : decode cX2_readHat 65 = .ok (.iconst 3, 1) := by decide +kernel
theorem dX2_readHat_66 : decode cX2_readHat 66 = .ok (.iaload, 1) := by decide +kernel
theorem dX2_readHat_67 : decode cX2_readHat 67 = .ok (.iconst (-1), 1) := by decide +kernel
theorem dX2_readHat_68 : decode cX2_readHat 68 = .ok (.if_icmp .ne 12, 3) := by decide +kernel
theorem dX2_readHat_71 : decode cX2_readHat 71 = .ok (.aload_n 0, 1) := by decide +kernel
theorem dX2_readHat_72 : decode cX2_readHat 72 = .ok (.iconst 3, 1) := by decide +kernel
theorem dX2_readHat_73 : decode cX2_readHat 73 = .ok (.aload_n 0, 1) := by decide +kernel
theorem dX2_readHat_74 : decode cX2_readHat 74 = .ok (.getfield 19, 3) := by decide +kernel
theorem dX2_readHat_77 : decode cX2_readHat 77 = .ok (.invokevirtual 46, 3) := by decide +kernel
theorem dX2_readHat_80 : decode cX2_readHat 80 = .ok (.aload_n 0, 1) := by decide +kernel
theorem dX2_readHat_81 : decode cX2_readHat 81 = .ok (.getfield 26, 3) := by decide +kernel
theorem dX2_readHat_84 : decode cX2_readHat 84 = .ok (.ireturn, 1) := by decide +kernel
set_option maxRecDepth 20000 in
theorem ggX2_price_X2_valueOf : GoodIn wsX2_price wsX2_valueOf := goodIn_r _ [5, 6, 7, 8, 9, 10, 11, 12, 13] (by decide +kernel) (by decide +kernel)
set_option maxRecDepth 20000 in
theorem gX2_price_X2_valueOf : GoodIn wsX2_price (wsV RX2 50 RX2 yX2_valueOf wsX2_valueOf) := goodIn_app (goodIn_of _ (by decide +kernel)) ggX2_price_X2_valueOf
theorem dX2_price_0 : decode cX2_price 0 = .ok (.aload_n 0, 1) := by decide +kernel
theorem dX2_price_1 : decode cX2_price 1 = .ok (.iconst 3, 1) := by decide +kernel
theorem dX2_price_2 : decode cX2_price 2 = .ok (.invokevirtual 50, 3) := by decide +kernel
theorem dX2_price_5 : decode cX2_price 5 = .ok (.istore_n 1, 1) := by decide +kernel
theorem dX2_price_6 : decode cX2_price 6 = .ok (.iconst 4, 1) := by decide +kernel
theorem dX2_price_7 : decode cX2_price 7 = .ok (.aload_n 0, 1) := by decide +kernel
theorem dX2_price_8 : decode cX2_price 8 = .ok (.iconst 0, 1) := by decide +kernel
theorem dX2_price_9 : decode cX2_price 9 = .ok (.invokevirtual 50, 3) := by decide +kernel
theorem dX2_price_12 : decode cX2_price 12 = .ok (.imul, 1) := by decide +kernel
theorem dX2_price_13 : decode cX2_price 13 = .ok (.iload_n 1, 1) := by decide +kernel
theorem dX2_price_14 : decode cX2_price 14 = .ok (.imul, 1) := by decide +kernel
theorem dX2_price_15 : decode cX2_price 15 = .ok (.iconst 3, 1) := by decide +kernel
theorem dX2_price_16 : decode cX2_price 16 = .ok (.aload_n 0, 1) := by decide +kernel
theorem dX2_price_17 : decode cX2_price 17 = .ok (.iconst 1, 1) := by decide +kernel
theorem dX2_price_18 : decode cX2_price 18 = .ok (.invokevirtual 50, 3) := by decide +kernel
theorem dX2_price_21 : decode cX2_price 21 = .ok (.imul, 1) := by decide +kernel
theorem dX2_price_22 : decode cX2_price 22 = .ok (.iload_n 1, 1) := by decide +kernel
theorem dX2_price_23 : decode cX2_price 23 = .ok (.imul, 1) := by decide +kernel
theorem dX2_price_24 : decode cX2_price 24 = .ok (.iadd, 1) := by decide +kernel
theorem dX2_price_25 : decode cX2_price 25 = .ok (.bipush 10, 2) := by decide +kernel
theorem dX2_price_27 : decode cX2_price 27 = .ok (.aload_n 0, 1) := by decide +kernel
theorem dX2_price_28 : decode cX2_price 28 = .ok (.iconst 2, 1) := by decide +kernel
theorem dX2_price_29 : decode cX2_price 29 = .ok (.invokevirtual 50, 3) := by decide +kernel
theorem dX2_price_32 : decode cX2_price 32 = .ok (.imul, 1) := by decide +kernel
theorem dX2_price_33 : decode cX2_price 33 = .ok (.iadd, 1) := by decide +kernel
theorem dX2_price_34 : decode cX2_price 34 = .ok (.ireturn, 1) := by decide +kernel
set_option maxRecDepth 20000 in
theorem ggX2_steamMinutes_X2_valueOf : GoodIn wsX2_steamMinutes wsX2_valueOf := goodIn_r _ [5, 6, 7, 8, 9, 10, 11, 12, 13] (by decide +kernel) (by decide +kernel)
set_option maxRecDepth 20000 in
theorem gX2_steamMinutes_X2_valueOf : GoodIn wsX2_steamMinutes (wsV RX2 50 RX2 yX2_valueOf wsX2_valueOf) := goodIn_app (goodIn_of _ (by decide +kernel)) ggX2_steamMinutes_X2_valueOf
theorem dX2_steamMinutes_0 : decode cX2_steamMinutes 0 = .ok (.bipush 6, 2) := by decide +kernel
theorem dX2_steamMinutes_2 : decode cX2_steamMinutes 2 = .ok (.aload_n 0, 1) := by decide +kernel
theorem dX2_steamMinutes_3 : decode cX2_steamMinutes 3 = .ok (.iconst 3, 1) := by decide +kernel
theorem dX2_steamMinutes_4 : decode cX2_steamMinutes 4 = .ok (.invokevirtual 50, 3) := by decide +kernel
theorem dX2_steamMinutes_7 : decode cX2_steamMinutes 7 = .ok (.imul, 1) := by decide +kernel
theorem dX2_steamMinutes_8 : decode cX2_steamMinutes 8 = .ok (.aload_n 0, 1) := by decide +kernel
theorem dX2_steamMinutes_9 : decode cX2_steamMinutes 9 = .ok (.iconst 1, 1) := by decide +kernel
theorem dX2_steamMinutes_10 : decode cX2_steamMinutes 10 = .ok (.invokevirtual 50, 3) := by decide +kernel
theorem dX2_steamMinutes_13 : decode cX2_steamMinutes 13 = .ok (.iadd, 1) := by decide +kernel
theorem dX2_steamMinutes_14 : decode cX2_steamMinutes 14 = .ok (.ireturn, 1) := by decide +kernel
set_option maxRecDepth 20000 in
theorem ggX2_onMinutes_X2_valueOf : GoodIn wsX2_onMinutes wsX2_valueOf := goodIn_r _ [5, 6, 7, 8, 9, 10, 11, 12, 13] (by decide +kernel) (by decide +kernel)
set_option maxRecDepth 20000 in
theorem gX2_onMinutes_X2_valueOf : GoodIn wsX2_onMinutes (wsV RX2 50 RX2 yX2_valueOf wsX2_valueOf) := goodIn_app (goodIn_of _ (by decide +kernel)) ggX2_onMinutes_X2_valueOf
theorem dX2_onMinutes_0 : decode cX2_onMinutes 0 = .ok (.bipush 10, 2) := by decide +kernel
theorem dX2_onMinutes_2 : decode cX2_onMinutes 2 = .ok (.aload_n 0, 1) := by decide +kernel
theorem dX2_onMinutes_3 : decode cX2_onMinutes 3 = .ok (.iconst 0, 1) := by decide +kernel
theorem dX2_onMinutes_4 : decode cX2_onMinutes 4 = .ok (.invokevirtual 50, 3) := by decide +kernel
theorem dX2_onMinutes_7 : decode cX2_onMinutes 7 = .ok (.iadd, 1) := by decide +kernel
theorem dX2_onMinutes_8 : decode cX2_onMinutes 8 = .ok (.bipush 20, 2) := by decide +kernel
theorem dX2_onMinutes_10 : decode cX2_onMinutes 10 = .ok (.aload_n 0, 1) := by decide +kernel
theorem dX2_onMinutes_11 : decode cX2_onMinutes 11 = .ok (.iconst 3, 1) := by decide +kernel
theorem dX2_onMinutes_12 : decode cX2_onMinutes 12 = .ok (.invokevirtual 50, 3) := by decide +kernel
theorem dX2_onMinutes_15 : decode cX2_onMinutes 15 = .ok (.imul, 1) := by decide +kernel
theorem dX2_onMinutes_16 : decode cX2_onMinutes 16 = .ok (.iadd, 1) := by decide +kernel
theorem dX2_onMinutes_17 : decode cX2_onMinutes 17 = .ok (.ireturn, 1) := by decide +kernel
theorem dX2_valueOf_0 : decode cX2_valueOf 0 = .ok (.aload_n 0, 1) := by decide +kernel
theorem dX2_valueOf_1 : decode cX2_valueOf 1 = .ok (.getfield 15, 3) := by decide +kernel
theorem dX2_valueOf_4 : decode cX2_valueOf 4 = .ok (.iload_n 1, 1) := by decide +kernel
theorem dX2_valueOf_5 : decode cX2_valueOf 5 = .ok (.iaload, 1) := by decide +kernel
theorem dX2_valueOf_6 : decode cX2_valueOf 6 = .ok (.iconst (-1), 1) := by decide +kernel
theorem dX2_valueOf_7 : decode cX2_valueOf 7 = .ok (.if_icmp .ne 7, 3) := by decide +kernel
theorem dX2_valueOf_10 : decode cX2_valueOf 10 = .ok (.iconst 0, 1) := by decide +kernel
theorem dX2_valueOf_11 : decode cX2_valueOf 11 = .ok (.goto 9, 3) := by decide +kernel
theorem dX2_valueOf_14 : decode cX2_valueOf 14 = .ok (.aload_n 0, 1) := by decide +kernel
theorem dX2_valueOf_15 : decode cX2_valueOf 15 = .ok (.getfield 15, 3) := by decide +kernel
theorem dX2_valueOf_18 : decode cX2_valueOf 18 = .ok (.iload_n 1, 1) := by decide +kernel
theorem dX2_valueOf_19 : decode cX2_valueOf 19 = .ok (.iaload, 1) := by decide +kernel
theorem dX2_valueOf_20 : decode cX2_valueOf 20 = .ok (.ireturn, 1) := by decide +kernel
theorem dX2_startReading_0 : decode cX2_startReading 0 = .ok (.aload_n 0, 1) := by decide +kernel
theorem dX2_startReading_1 : decode cX2_startReading 1 = .ok (.iload_n 1, 1) := by decide +kernel
theorem dX2_startReading_2 : decode cX2_startReading 2 = .ok (.putfield 19, 3) := by decide +kernel
theorem dX2_startReading_5 : decode cX2_startReading 5 = .ok (.aload_n 0, 1) := by decide +kernel
theorem dX2_startReading_6 : decode cX2_startReading 6 = .ok (.iconst 0, 1) := by decide +kernel
theorem dX2_startReading_7 : decode cX2_startReading 7 = .ok (.putfield 23, 3) := by decide +kernel
theorem dX2_startReading_10 : decode cX2_startReading 10 = .ok (.aload_n 0, 1) := by decide +kernel
theorem dX2_startReading_11 : decode cX2_startReading 11 = .ok (.iconst 0, 1) := by decide +kernel
theorem dX2_startReading_12 : decode cX2_startReading 12 = .ok (.putfield 26, 3) := by decide +kernel
theorem dX2_startReading_15 : decode cX2_startReading 15 = .ok (.aload_n 0, 1) := by decide +kernel
theorem dX2_startReading_16 : decode cX2_startReading 16 = .ok (.iconst (-1), 1) := by decide +kernel
theorem dX2_startReading_17 : decode cX2_startReading 17 = .ok (.putfield 29, 3) := by decide +kernel
theorem dX2_startReading_20 : decode cX2_startReading 20 = .ok (.iconst 0, 1) := by decide +kernel
theorem dX2_startReading_21 : decode cX2_startReading 21 = .ok (.istore_n 2, 1) := by decide +kernel
theorem dX2_startReading_22 : decode cX2_startReading 22 = .ok (.iload_n 2, 1) := by decide +kernel
theorem dX2_startReading_23 : decode cX2_startReading 23 = .ok (.iconst 4, 1) := by decide +kernel
theorem dX2_startReading_24 : decode cX2_startReading 24 = .ok (.if_icmp .ge 16, 3) := by decide +kernel
theorem dX2_startReading_27 : decode cX2_startReading 27 = .ok (.aload_n 0, 1) := by decide +kernel
theorem dX2_startReading_28 : decode cX2_startReading 28 = .ok (.getfield 15, 3) := by decide +kernel
theorem dX2_startReading_31 : decode cX2_startReading 31 = .ok (.iload_n 2, 1) := by decide +kernel
theorem dX2_startReading_32 : decode cX2_startReading 32 = .ok (.iconst (-1), 1) := by decide +kernel
theorem dX2_startReading_33 : decode cX2_startReading 33 = .ok (.iastore, 1) := by decide +kernel
theorem dX2_startReading_34 : decode cX2_startReading 34 = .ok (.iinc 2 1, 3) := by decide +kernel
theorem dX2_startReading_37 : decode cX2_startReading 37 = .ok (.goto (-15), 3) := by decide +kernel
theorem dX2_startReading_40 : decode cX2_startReading 40 = .ok (.return_, 1) := by decide +kernel
theorem dX2_blame_0 : decode cX2_blame 0 = .ok (.aload_n 0, 1) := by decide +kernel
theorem dX2_blame_1 : decode cX2_blame 1 = .ok (.iload_n 1, 1) := by decide +kernel
theorem dX2_blame_2 : decode cX2_blame 2 = .ok (.putfield 26, 3) := by decide +kernel
theorem dX2_blame_5 : decode cX2_blame 5 = .ok (.aload_n 0, 1) := by decide +kernel
theorem dX2_blame_6 : decode cX2_blame 6 = .ok (.iload_n 2, 1) := by decide +kernel
theorem dX2_blame_7 : decode cX2_blame 7 = .ok (.putfield 29, 3) := by decide +kernel
theorem dX2_blame_10 : decode cX2_blame 10 = .ok (.return_, 1) := by decide +kernel
set_option maxRecDepth 20000 in
theorem ggX2_readPart_X2_skipBlanks : GoodIn wsX2_readPart wsX2_skipBlanks := goodIn_r _ [9, 1, 10, 11, 90, 91, 92, 93, 94, 95, 96] (by decide +kernel) (by decide +kernel)
set_option maxRecDepth 20000 in
theorem gX2_readPart_X2_skipBlanks : GoodIn wsX2_readPart (wsV RX2 54 RX2 yX2_skipBlanks wsX2_skipBlanks) := goodIn_app (goodIn_of _ (by decide +kernel)) ggX2_readPart_X2_skipBlanks
set_option maxRecDepth 20000 in
theorem ggX2_readPart_X2_skipLetters : GoodIn wsX2_readPart wsX2_skipLetters := goodIn_r _ [15, 1, 10, 11, 90, 91, 92, 93, 94, 95, 96] (by decide +kernel) (by decide +kernel)
set_option maxRecDepth 20000 in
theorem gX2_readPart_X2_skipLetters : GoodIn wsX2_readPart (wsV RX2 57 RX2 yX2_skipLetters wsX2_skipLetters) := goodIn_app (goodIn_of _ (by decide +kernel)) ggX2_readPart_X2_skipLetters
set_option maxRecDepth 20000 in
theorem ggX2_readPart_X2_partNamed : GoodIn wsX2_readPart wsX2_partNamed := goodIn_r _ [19, 20, 21, 8, 22, 23, 24, 25, 26, 1, 11, 27, 28, 29, 30, 31, 32, 33, 34, 35, 36, 37, 38, 39, 40, 41, 42, 43, 44, 45, 46, 47, 48, 49, 50, 51, 52, 53, 54, 55, 56, 57, 58, 59, 60, 61, 62, 63, 64, 65, 66, 67, 68, 69, 70, 71, 72, 73, 74, 75, 90, 91, 92, 93, 94, 95, 96] (by decide +kernel) (by decide +kernel)
set_option maxRecDepth 20000 in
theorem gX2_readPart_X2_partNamed : GoodIn wsX2_readPart (wsV RX2 60 RX2 yX2_partNamed wsX2_partNamed) := goodIn_app (goodIn_of _ (by decide +kernel)) ggX2_readPart_X2_partNamed
set_option maxRecDepth 20000 in
theorem ggX2_readPart_X2_blame : GoodIn wsX2_readPart wsX2_blame := goodIn_r _ [79, 80, 81, 90, 91, 92, 93, 94, 95, 96] (by decide +kernel) (by decide +kernel)
set_option maxRecDepth 20000 in
theorem gX2_readPart_X2_blame : GoodIn wsX2_readPart (wsV RX2 46 RX2 yX2_blame wsX2_blame) := goodIn_app (goodIn_of _ (by decide +kernel)) ggX2_readPart_X2_blame
set_option maxRecDepth 20000 in
theorem ggX2_readPart_X2_readNumber : GoodIn wsX2_readPart wsX2_readNumber := goodIn_r _ [85, 1, 10, 11, 86, 87, 88, 89, 90, 91, 92, 93, 94, 95, 96] (by decide +kernel) (by decide +kernel)
set_option maxRecDepth 20000 in
theorem gX2_readPart_X2_readNumber : GoodIn wsX2_readPart (wsV RX2 63 RX2 yX2_readNumber wsX2_readNumber) := goodIn_app (goodIn_of _ (by decide +kernel)) ggX2_readPart_X2_readNumber
theorem dX2_readPart_0 : decode cX2_readPart 0 = .ok (.aload_n 0, 1) := by decide +kernel
theorem dX2_readPart_1 : decode cX2_readPart 1 = .ok (.invokevirtual 54, 3) := by decide +kernel
theorem dX2_readPart_4 : decode cX2_readPart 4 = .ok (.aload_n 0, 1) := by decide +kernel
theorem dX2_readPart_5 : decode cX2_readPart 5 = .ok (.getfield 23, 3) := by decide +kernel
theorem dX2_readPart_8 : decode cX2_readPart 8 = .ok (.istore_n 1, 1) := by decide +kernel
theorem dX2_readPart_9 : decode cX2_readPart 9 = .ok (.aload_n 0, 1) := by decide +kernel
theorem dX2_readPart_10 : decode cX2_readPart 10 = .ok (.invokevirtual 57, 3) := by decide +kernel
theorem dX2_readPart_13 : decode cX2_readPart 13 = .ok (.aload_n 0, 1) := by decide +kernel
theorem dX2_readPart_14 : decode cX2_readPart 14 = .ok (.iload_n 1, 1) := by decide +kernel
theorem dX2_readPart_15 : decode cX2_readPart 15 = .ok (.invokevirtual 60, 3) := by decide +kernel
theorem dX2_readPart_18 : decode cX2_readPart 18 = .ok (.istore_n 2, 1) := by decide +kernel
theorem dX2_readPart_19 : decode cX2_readPart 19 = .ok (.iload_n 2, 1) := by decide +kernel
theorem dX2_readPart_20 : decode cX2_readPart 20 = .ok (.iconst (-1), 1) := by decide +kernel
theorem dX2_readPart_21 : decode cX2_readPart 21 = .ok (.if_icmp .eq 13, 3) := by decide +kernel
theorem dX2_readPart_24 : decode cX2_readPart 24 = .ok (.aload_n 0, 1) := by decide +kernel
theorem dX2_readPart_25 : decode cX2_readPart 25 = .ok (.getfield 15, 3) := by decide +kernel
theorem dX2_readPart_28 : decode cX2_readPart 28 = .ok (.iload_n 2, 1) := by decide +kernel
theorem dX2_readPart_29 : decode cX2_readPart 29 = .ok (.iaload, 1) := by decide +kernel
theorem dX2_readPart_30 : decode cX2_readPart 30 = .ok (.iconst (-1), 1) := by decide +kernel
theorem dX2_readPart_31 : decode cX2_readPart 31 = .ok (.if_icmp .eq 11, 3) := by decide +kernel
theorem dX2_readPart_34 : decode cX2_readPart 34 = .ok (.aload_n 0, 1) := by decide +kernel
theorem dX2_readPart_35 : decode cX2_readPart 35 = .ok (.iconst 1, 1) := by decide +kernel
theorem dX2_readPart_36 : decode cX2_readPart 36 = .ok (.iload_n 1, 1) := by decide +kernel
theorem dX2_readPart_37 : decode cX2_readPart 37 = .ok (.invokevirtual 46, 3) := by decide +kernel
theorem dX2_readPart_40 : decode cX2_readPart 40 = .ok (.iconst 0, 1) := by decide +kernel
theorem dX2_readPart_41 : decode cX2_readPart 41 = .ok (.ireturn, 1) := by decide +kernel
theorem dX2_readPart_42 : decode cX2_readPart 42 = .ok (.aload_n 0, 1) := by decide +kernel
theorem dX2_readPart_43 : decode cX2_readPart 43 = .ok (.invokevirtual 54, 3) := by decide +kernel
theorem dX2_readPart_46 : decode cX2_readPart 46 = .ok (.aload_n 0, 1) := by decide +kernel
theorem dX2_readPart_47 : decode cX2_readPart 47 = .ok (.getfield 23, 3) := by decide +kernel
theorem dX2_readPart_50 : decode cX2_readPart 50 = .ok (.istore_n 3, 1) := by decide +kernel
theorem dX2_readPart_51 : decode cX2_readPart 51 = .ok (.aload_n 0, 1) := by decide +kernel
theorem dX2_readPart_52 : decode cX2_readPart 52 = .ok (.invokevirtual 63, 3) := by decide +kernel
theorem dX2_readPart_55 : decode cX2_readPart 55 = .ok (.istore 4, 2) := by decide +kernel
theorem dX2_readPart_57 : decode cX2_readPart 57 = .ok (.aload_n 0, 1) := by decide +kernel
theorem dX2_readPart_58 : decode cX2_readPart 58 = .ok (.getfield 23, 3) := by decide +kernel
theorem dX2_readPart_61 : decode cX2_readPart 61 = .ok (.iload_n 3, 1) := by decide +kernel
theorem dX2_readPart_62 : decode cX2_readPart 62 = .ok (.if_icmp .ne 11, 3) := by decide +kernel
theorem dX2_readPart_65 : decode cX2_readPart 65 = .ok (.aload_n 0, 1) := by decide +kernel
theorem dX2_readPart_66 : decode cX2_readPart 66 = .ok (.iconst 1, 1) := by decide +kernel
theorem dX2_readPart_67 : decode cX2_readPart 67 = .ok (.iload_n 3, 1) := by decide +kernel
theorem dX2_readPart_68 : decode cX2_readPart 68 = .ok (.invokevirtual 46, 3) := by decide +kernel
theorem dX2_readPart_71 : decode cX2_readPart 71 = .ok (.iconst 0, 1) := by decide +kernel
theorem dX2_readPart_72 : decode cX2_readPart 72 = .ok (.ireturn, 1) := by decide +kernel
theorem dX2_readPart_73 : decode cX2_readPart 73 = .ok (.iload 4, 2) := by decide +kernel
theorem dX2_readPart_75 : decode cX2_readPart 75 = .ok (.getstatic 67, 3) := by decide +kernel
theorem dX2_readPart_78 : decode cX2_readPart 78 = .ok (.iload_n 2, 1) := by decide +kernel
theorem dX2_readPart_79 : decode cX2_readPart 79 = .ok (.iaload, 1) := by decide +kernel
theorem dX2_readPart_80 : decode cX2_readPart 80 = .ok (.if_icmp .lt 13, 3) := by decide +kernel
theorem dX2_readPart_83 : decode cX2_readPart 83 = .ok (.iload 4, 2) := by decide +kernel
theorem dX2_readPart_85 : decode cX2_readPart 85 = .ok (.getstatic 70, 3) := by decide +kernel
theorem dX2_readPart_88 : decode cX2_readPart 88 = .ok (.iload_n 2, 1) := by decide +kernel
theorem dX2_readPart_89 : decode cX2_readPart 89 = .ok (.iaload, 1) := by decide +kernel
theorem dX2_readPart_90 : decode cX2_readPart 90 = .ok (.if_icmp .le 11, 3) := by decide +kernel
theorem dX2_readPart_93 : decode cX2_readPart 93 = .ok (.aload_n 0, 1) := by decide +kernel
theorem dX2_readPart_94 : decode cX2_readPart 94 = .ok (.iconst 2, 1) := by decide +kernel
theorem dX2_readPart_95 : decode cX2_readPart 95 = .ok (.iload_n 3, 1) := by decide +kernel
theorem dX2_readPart_96 : decode cX2_readPart 96 = .ok (.invokevirtual 46, 3) := by decide +kernel
theorem dX2_readPart_99 : decode cX2_readPart 99 = .ok (.iconst 0, 1) := by decide +kernel
theorem dX2_readPart_100 : decode cX2_readPart 100 = .ok (.ireturn, 1) := by decide +kernel
theorem dX2_readPart_101 : decode cX2_readPart 101 = .ok (.aload_n 0, 1) := by decide +kernel
theorem dX2_readPart_102 : decode cX2_readPart 102 = .ok (.getfield 15, 3) := by decide +kernel
theorem dX2_readPart_105 : decode cX2_readPart 105 = .ok (.iload_n 2, 1) := by decide +kernel
theorem dX2_readPart_106 : decode cX2_readPart 106 = .ok (.iload 4, 2) := by decide +kernel
theorem dX2_readPart_108 : decode cX2_readPart 108 = .ok (.iastore, 1) := by decide +kernel
theorem dX2_readPart_109 : decode cX2_readPart 109 = .ok (.iconst 1, 1) := by decide +kernel
theorem dX2_readPart_110 : decode cX2_readPart 110 = .ok (.ireturn, 1) := by decide +kernel
set_option maxRecDepth 20000 in
theorem ggX2_readComma_X2_skipBlanks : GoodIn wsX2_readComma wsX2_skipBlanks := goodIn_r _ [8, 1, 2, 3, 15, 16, 17, 18, 19, 20, 21] (by decide +kernel) (by decide +kernel)
set_option maxRecDepth 20000 in
theorem gX2_readComma_X2_skipBlanks : GoodIn wsX2_readComma (wsV RX2 54 RX2 yX2_skipBlanks wsX2_skipBlanks) := goodIn_app (goodIn_of _ (by decide +kernel)) ggX2_readComma_X2_skipBlanks
set_option maxRecDepth 20000 in
theorem ggX2_readComma_X2_blame : GoodIn wsX2_readComma wsX2_blame := goodIn_r _ [12, 13, 14, 15, 16, 17, 18, 19, 20, 21] (by decide +kernel) (by decide +kernel)
set_option maxRecDepth 20000 in
theorem gX2_readComma_X2_blame : GoodIn wsX2_readComma (wsV RX2 46 RX2 yX2_blame wsX2_blame) := goodIn_app (goodIn_of _ (by decide +kernel)) ggX2_readComma_X2_blame
theorem dX2_readComma_0 : decode cX2_readComma 0 = .ok (.aload_n 0, 1) := by decide +kernel
theorem dX2_readComma_1 : decode cX2_readComma 1 = .ok (.invokevirtual 54, 3) := by decide +kernel
theorem dX2_readComma_4 : decode cX2_readComma 4 = .ok (.aload_n 0, 1) := by decide +kernel
theorem dX2_readComma_5 : decode cX2_readComma 5 = .ok (.getfield 23, 3) := by decide +kernel
theorem dX2_readComma_8 : decode cX2_readComma 8 = .ok (.aload_n 0, 1) := by decide +kernel
theorem dX2_readComma_9 : decode cX2_readComma 9 = .ok (.getfield 19, 3) := by decide +kernel
theorem dX2_readComma_12 : decode cX2_readComma 12 = .ok (.if_icmp .lt 5, 3) := by decide +kernel
theorem dX2_readComma_15 : decode cX2_readComma 15 = .ok (.iconst 0, 1) := by decide +kernel
theorem dX2_readComma_16 : decode cX2_readComma 16 = .ok (.ireturn, 1) := by decide +kernel
theorem dX2_readComma_17 : decode cX2_readComma 17 = .ok (.aload_n 0, 1) := by decide +kernel
theorem dX2_readComma_18 : decode cX2_readComma 18 = .ok (.getfield 9, 3) := by decide +kernel
theorem dX2_readComma_21 : decode cX2_readComma 21 = .ok (.aload_n 0, 1) := by decide +kernel
theorem dX2_readComma_22 : decode cX2_readComma 22 = .ok (.getfield 23, 3) := by decide +kernel
theorem dX2_readComma_25 : decode cX2_readComma 25 = .ok (.baload, 1) := by decide +kernel
theorem dX2_readComma_26 : decode cX2_readComma 26 = .ok (.bipush 44, 2) := by decide +kernel
theorem dX2_readComma_28 : decode cX2_readComma 28 = .ok (.if_icmp .eq 14, 3) := by decide +kernel
theorem dX2_readComma_31 : decode cX2_readComma 31 = .ok (.aload_n 0, 1) := by decide +kernel
theorem dX2_readComma_32 : decode cX2_readComma 32 = .ok (.iconst 1, 1) := by decide +kernel
theorem dX2_readComma_33 : decode cX2_readComma 33 = .ok (.aload_n 0, 1) := by decide +kernel
theorem dX2_readComma_34 : decode cX2_readComma 34 = .ok (.getfield 23, 3) := by decide +kernel
theorem dX2_readComma_37 : decode cX2_readComma 37 = .ok (.invokevirtual 46, 3) := by decide +kernel
theorem dX2_readComma_40 : decode cX2_readComma 40 = .ok (.iconst 0, 1) := by decide +kernel
theorem dX2_readComma_41 : decode cX2_readComma 41 = .ok (.ireturn, 1) := by decide +kernel
theorem dX2_readComma_42 : decode cX2_readComma 42 = .ok (.aload_n 0, 1) := by decide +kernel
theorem dX2_readComma_43 : decode cX2_readComma 43 = .ok (.dup, 1) := by decide +kernel
theorem dX2_readComma_44 : decode cX2_readComma 44 = .ok (.getfield 23, 3) := by decide +kernel
theorem dX2_readComma_47 : decode cX2_readComma 47 = .ok (.iconst 1, 1) := by decide +kernel
theorem dX2_readComma_48 : decode cX2_readComma 48 = .ok (.iadd, 1) := by decide +kernel
theorem dX2_readComma_49 : decode cX2_readComma 49 = .ok (.putfield 23, 3) := by decide +kernel
theorem dX2_readComma_52 : decode cX2_readComma 52 = .ok (.iconst 1, 1) := by decide +kernel
theorem dX2_readComma_53 : decode cX2_readComma 53 = .ok (.ireturn, 1) := by decide +kernel
theorem dX2_skipBlanks_0 : decode cX2_skipBlanks 0 = .ok (.aload_n 0, 1) := by decide +kernel
theorem dX2_skipBlanks_1 : decode cX2_skipBlanks 1 = .ok (.getfield 23, 3) := by decide +kernel
theorem dX2_skipBlanks_4 : decode cX2_skipBlanks 4 = .ok (.aload_n 0, 1) := by decide +kernel
theorem dX2_skipBlanks_5 : decode cX2_skipBlanks 5 = .ok (.getfield 19, 3) := by decide +kernel
theorem dX2_skipBlanks_8 : decode cX2_skipBlanks 8 = .ok (.if_icmp .ge 30, 3) := by decide +kernel
theorem dX2_skipBlanks_11 : decode cX2_skipBlanks 11 = .ok (.aload_n 0, 1) := by decide +kernel
theorem dX2_skipBlanks_12 : decode cX2_skipBlanks 12 = .ok (.getfield 9, 3) := by decide +kernel
theorem dX2_skipBlanks_15 : decode cX2_skipBlanks 15 = .ok (.aload_n 0, 1) := by decide +kernel
theorem dX2_skipBlanks_16 : decode cX2_skipBlanks 16 = .ok (.getfield 23, 3) := by decide +kernel
theorem dX2_skipBlanks_19 : decode cX2_skipBlanks 19 = .ok (.baload, 1) := by decide +kernel
theorem dX2_skipBlanks_20 : decode cX2_skipBlanks 20 = .ok (.bipush 32, 2) := by decide +kernel
theorem dX2_skipBlanks_22 : decode cX2_skipBlanks 22 = .ok (.if_icmp .ne 16, 3) := by decide +kernel
theorem dX2_skipBlanks_25 : decode cX2_skipBlanks 25 = .ok (.aload_n 0, 1) := by decide +kernel
theorem dX2_skipBlanks_26 : decode cX2_skipBlanks 26 = .ok (.dup, 1) := by decide +kernel
theorem dX2_skipBlanks_27 : decode cX2_skipBlanks 27 = .ok (.getfield 23, 3) := by decide +kernel
theorem dX2_skipBlanks_30 : decode cX2_skipBlanks 30 = .ok (.iconst 1, 1) := by decide +kernel
theorem dX2_skipBlanks_31 : decode cX2_skipBlanks 31 = .ok (.iadd, 1) := by decide +kernel
theorem dX2_skipBlanks_32 : decode cX2_skipBlanks 32 = .ok (.putfield 23, 3) := by decide +kernel
theorem dX2_skipBlanks_35 : decode cX2_skipBlanks 35 = .ok (.goto (-35), 3) := by decide +kernel
theorem dX2_skipBlanks_38 : decode cX2_skipBlanks 38 = .ok (.return_, 1) := by decide +kernel
theorem dX2_skipLetters_0 : decode cX2_skipLetters 0 = .ok (.aload_n 0, 1) := by decide +kernel
theorem dX2_skipLetters_1 : decode cX2_skipLetters 1 = .ok (.getfield 23, 3) := by decide +kernel
theorem dX2_skipLetters_4 : decode cX2_skipLetters 4 = .ok (.aload_n 0, 1) := by decide +kernel
theorem dX2_skipLetters_5 : decode cX2_skipLetters 5 = .ok (.getfield 19, 3) := by decide +kernel
theorem dX2_skipLetters_8 : decode cX2_skipLetters 8 = .ok (.if_icmp .ge 44, 3) := by decide +kernel
theorem dX2_skipLetters_11 : decode cX2_skipLetters 11 = .ok (.aload_n 0, 1) := by decide +kernel
theorem dX2_skipLetters_12 : decode cX2_skipLetters 12 = .ok (.getfield 9, 3) := by decide +kernel
theorem dX2_skipLetters_15 : decode cX2_skipLetters 15 = .ok (.aload_n 0, 1) := by decide +kernel
theorem dX2_skipLetters_16 : decode cX2_skipLetters 16 = .ok (.getfield 23, 3) := by decide +kernel
theorem dX2_skipLetters_19 : decode cX2_skipLetters 19 = .ok (.baload, 1) := by decide +kernel
theorem dX2_skipLetters_20 : decode cX2_skipLetters 20 = .ok (.bipush 97, 2) := by decide +kernel
theorem dX2_skipLetters_22 : decode cX2_skipLetters 22 = .ok (.if_icmp .lt 30, 3) := by decide +kernel
theorem dX2_skipLetters_25 : decode cX2_skipLetters 25 = .ok (.aload_n 0, 1) := by decide +kernel
theorem dX2_skipLetters_26 : decode cX2_skipLetters 26 = .ok (.getfield 9, 3) := by decide +kernel
theorem dX2_skipLetters_29 : decode cX2_skipLetters 29 = .ok (.aload_n 0, 1) := by decide +kernel
theorem dX2_skipLetters_30 : decode cX2_skipLetters 30 = .ok (.getfield 23, 3) := by decide +kernel
theorem dX2_skipLetters_33 : decode cX2_skipLetters 33 = .ok (.baload, 1) := by decide +kernel
theorem dX2_skipLetters_34 : decode cX2_skipLetters 34 = .ok (.bipush 122, 2) := by decide +kernel
theorem dX2_skipLetters_36 : decode cX2_skipLetters 36 = .ok (.if_icmp .gt 16, 3) := by decide +kernel
theorem dX2_skipLetters_39 : decode cX2_skipLetters 39 = .ok (.aload_n 0, 1) := by decide +kernel
theorem dX2_skipLetters_40 : decode cX2_skipLetters 40 = .ok (.dup, 1) := by decide +kernel
theorem dX2_skipLetters_41 : decode cX2_skipLetters 41 = .ok (.getfield 23, 3) := by decide +kernel
theorem dX2_skipLetters_44 : decode cX2_skipLetters 44 = .ok (.iconst 1, 1) := by decide +kernel
theorem dX2_skipLetters_45 : decode cX2_skipLetters 45 = .ok (.iadd, 1) := by decide +kernel
theorem dX2_skipLetters_46 : decode cX2_skipLetters 46 = .ok (.putfield 23, 3) := by decide +kernel
theorem dX2_skipLetters_49 : decode cX2_skipLetters 49 = .ok (.goto (-49), 3) := by decide +kernel
theorem dX2_skipLetters_52 : decode cX2_skipLetters 52 = .ok (.return_, 1) := by decide +kernel
theorem dX2_readNumber_0 : decode cX2_readNumber 0 = .ok (.iconst 0, 1) := by decide +kernel
theorem dX2_readNumber_1 : decode cX2_readNumber 1 = .ok (.istore_n 1, 1) := by decide +kernel
theorem dX2_readNumber_2 : decode cX2_readNumber 2 = .ok (.aload_n 0, 1) := by decide +kernel
theorem dX2_readNumber_3 : decode cX2_readNumber 3 = .ok (.getfield 23, 3) := by decide +kernel
theorem dX2_readNumber_6 : decode cX2_readNumber 6 = .ok (.aload_n 0, 1) := by decide +kernel
theorem dX2_readNumber_7 : decode cX2_readNumber 7 = .ok (.getfield 19, 3) := by decide +kernel
theorem dX2_readNumber_10 : decode cX2_readNumber 10 = .ok (.if_icmp .ge 68, 3) := by decide +kernel
theorem dX2_readNumber_13 : decode cX2_readNumber 13 = .ok (.aload_n 0, 1) := by decide +kernel
theorem dX2_readNumber_14 : decode cX2_readNumber 14 = .ok (.getfield 9, 3) := by decide +kernel
theorem dX2_readNumber_17 : decode cX2_readNumber 17 = .ok (.aload_n 0, 1) := by decide +kernel
theorem dX2_readNumber_18 : decode cX2_readNumber 18 = .ok (.getfield 23, 3) := by decide +kernel
theorem dX2_readNumber_21 : decode cX2_readNumber 21 = .ok (.baload, 1) := by decide +kernel
theorem dX2_readNumber_22 : decode cX2_readNumber 22 = .ok (.bipush 48, 2) := by decide +kernel
theorem dX2_readNumber_24 : decode cX2_readNumber 24 = .ok (.if_icmp .lt 54, 3) := by decide +kernel
theorem dX2_readNumber_27 : decode cX2_readNumber 27 = .ok (.aload_n 0, 1) := by decide +kernel
theorem dX2_readNumber_28 : decode cX2_readNumber 28 = .ok (.getfield 9, 3) := by decide +kernel
theorem dX2_readNumber_31 : decode cX2_readNumber 31 = .ok (.aload_n 0, 1) := by decide +kernel
theorem dX2_readNumber_32 : decode cX2_readNumber 32 = .ok (.getfield 23, 3) := by decide +kernel
theorem dX2_readNumber_35 : decode cX2_readNumber 35 = .ok (.baload, 1) := by decide +kernel
theorem dX2_readNumber_36 : decode cX2_readNumber 36 = .ok (.bipush 57, 2) := by decide +kernel
theorem dX2_readNumber_38 : decode cX2_readNumber 38 = .ok (.if_icmp .gt 40, 3) := by decide +kernel
theorem dX2_readNumber_41 : decode cX2_readNumber 41 = .ok (.iload_n 1, 1) := by decide +kernel
theorem dX2_readNumber_42 : decode cX2_readNumber 42 = .ok (.bipush 10, 2) := by decide +kernel
theorem dX2_readNumber_44 : decode cX2_readNumber 44 = .ok (.imul, 1) := by decide +kernel
theorem dX2_readNumber_45 : decode cX2_readNumber 45 = .ok (.aload_n 0, 1) := by decide +kernel
theorem dX2_readNumber_46 : decode cX2_readNumber 46 = .ok (.getfield 9, 3) := by decide +kernel
theorem dX2_readNumber_49 : decode cX2_readNumber 49 = .ok (.aload_n 0, 1) := by decide +kernel
theorem dX2_readNumber_50 : decode cX2_readNumber 50 = .ok (.getfield 23, 3) := by decide +kernel
theorem dX2_readNumber_53 : decode cX2_readNumber 53 = .ok (.baload, 1) := by decide +kernel
theorem dX2_readNumber_54 : decode cX2_readNumber 54 = .ok (.bipush 48, 2) := by decide +kernel
theorem dX2_readNumber_56 : decode cX2_readNumber 56 = .ok (.isub, 1) := by decide +kernel
theorem dX2_readNumber_57 : decode cX2_readNumber 57 = .ok (.iadd, 1) := by decide +kernel
theorem dX2_readNumber_58 : decode cX2_readNumber 58 = .ok (.sipush 1000, 3) := by decide +kernel
theorem dX2_readNumber_61 : decode cX2_readNumber 61 = .ok (.invokestatic 73, 3) := by decide +kernel
theorem dX2_readNumber_64 : decode cX2_readNumber 64 = .ok (.istore_n 1, 1) := by decide +kernel
theorem dX2_readNumber_65 : decode cX2_readNumber 65 = .ok (.aload_n 0, 1) := by decide +kernel
theorem dX2_readNumber_66 : decode cX2_readNumber 66 = .ok (.dup, 1) := by decide +kernel
theorem dX2_readNumber_67 : decode cX2_readNumber 67 = .ok (.getfield 23, 3) := by decide +kernel
theorem dX2_readNumber_70 : decode cX2_readNumber 70 = .ok (.iconst 1, 1) := by decide +kernel
theorem dX2_readNumber_71 : decode cX2_readNumber 71 = .ok (.iadd, 1) := by decide +kernel
theorem dX2_readNumber_72 : decode cX2_readNumber 72 = .ok (.putfield 23, 3) := by decide +kernel
theorem dX2_readNumber_75 : decode cX2_readNumber 75 = .ok (.goto (-73), 3) := by decide +kernel
theorem dX2_readNumber_78 : decode cX2_readNumber 78 = .ok (.iload_n 1, 1) := by decide +kernel
theorem dX2_readNumber_79 : decode cX2_readNumber 79 = .ok (.ireturn, 1) := by decide +kernel
set_option maxRecDepth 20000 in
theorem ggX2_partNamed_X2_nameOf : GoodIn wsX2_partNamed wsX2_nameOf := goodIn_r _ [4] (by decide +kernel) (by decide +kernel)
set_option maxRecDepth 20000 in
theorem gX2_partNamed_X2_nameOf : GoodIn wsX2_partNamed (va_wsS RX2 79 yX2_nameOf wsX2_nameOf) := goodIn_app (goodIn_of _ (by decide +kernel)) ggX2_partNamed_X2_nameOf
set_option maxRecDepth 20000 in
theorem ggX2_partNamed_X2_isWord : GoodIn wsX2_partNamed wsX2_isWord := goodIn_r _ [8, 9, 10, 11, 12, 13, 14, 15, 16, 17, 18, 19, 20, 21, 22, 23, 24, 25, 26, 27, 28, 29, 30, 31, 32, 33, 34, 35, 36, 37, 38, 39, 40, 41, 42, 43, 44, 45, 46, 47, 48, 49, 50, 51, 52, 53, 54, 55, 56, 57, 58, 59, 60, 61, 62, 63, 64, 65, 66] (by decide +kernel) (by decide +kernel)
set_option maxRecDepth 20000 in
theorem gX2_partNamed_X2_isWord : GoodIn wsX2_partNamed (wsV RX2 83 RX2 yX2_isWord wsX2_isWord) := goodIn_app (goodIn_of _ (by decide +kernel)) ggX2_partNamed_X2_isWord
theorem dX2_partNamed_0 : decode cX2_partNamed 0 = .ok (.iconst 0, 1) := by decide +kernel
theorem dX2_partNamed_1 : decode cX2_partNamed 1 = .ok (.istore_n 2, 1) := by decide +kernel
theorem dX2_partNamed_2 : decode cX2_partNamed 2 = .ok (.iload_n 2, 1) := by decide +kernel
theorem dX2_partNamed_3 : decode cX2_partNamed 3 = .ok (.iconst 4, 1) := by decide +kernel
theorem dX2_partNamed_4 : decode cX2_partNamed 4 = .ok (.if_icmp .ge 23, 3) := by decide +kernel
theorem dX2_partNamed_7 : decode cX2_partNamed 7 = .ok (.aload_n 0, 1) := by decide +kernel
theorem dX2_partNamed_8 : decode cX2_partNamed 8 = .ok (.iload_n 2, 1) := by decide +kernel
theorem dX2_partNamed_9 : decode cX2_partNamed 9 = .ok (.invokestatic 79, 3) := by decide +kernel
theorem dX2_partNamed_12 : decode cX2_partNamed 12 = .ok (.iload_n 1, 1) := by decide +kernel
theorem dX2_partNamed_13 : decode cX2_partNamed 13 = .ok (.invokevirtual 83, 3) := by decide +kernel
theorem dX2_partNamed_16 : decode cX2_partNamed 16 = .ok (.ifCond .eq 5, 3) := by decide +kernel
theorem dX2_partNamed_19 : decode cX2_partNamed 19 = .ok (.iload_n 2, 1) := by decide +kernel
theorem dX2_partNamed_20 : decode cX2_partNamed 20 = .ok (.ireturn, 1) := by decide +kernel
theorem dX2_partNamed_21 : decode cX2_partNamed 21 = .ok (.iinc 2 1, 3) := by decide +kernel
theorem dX2_partNamed_24 : decode cX2_partNamed 24 = .ok (.goto (-22), 3) := by decide +kernel
theorem dX2_partNamed_27 : decode cX2_partNamed 27 = .ok (.iconst (-1), 1) := by decide +kernel
theorem dX2_partNamed_28 : decode cX2_partNamed 28 = .ok (.ireturn, 1) := by decide +kernel
set_option maxRecDepth 20000 in
theorem ggX2_isWord_J0_length_8abf5 : GoodIn wsX2_isWord wsJ0_length_8abf5 := goodIn_r _ [7, 8, 9, 10, 11, 6, 12, 13, 14] (by decide +kernel) (by decide +kernel)
set_option maxRecDepth 20000 in
theorem gX2_isWord_J0_length_8abf5 : GoodIn wsX2_isWord (wsV RX2 87 RJ0 yJ0_length_8abf5 wsJ0_length_8abf5) := goodIn_app (goodIn_of _ (by decide +kernel)) ggX2_isWord_J0_length_8abf5
set_option maxRecDepth 20000 in
theorem ggX2_isWord_J0_charAt_5068e : GoodIn wsX2_isWord wsJ0_charAt_5068e := goodIn_r _ [18, 8, 19, 20, 21, 6, 22, 13, 14, 23, 24, 25, 26, 27, 28, 29, 30, 31, 32, 33, 34, 35, 36, 37, 38, 39, 40, 41, 42, 43, 44, 45, 46, 47, 48, 49, 50, 51] (by decide +kernel) (by decide +kernel)
set_option maxRecDepth 20000 in
theorem gX2_isWord_J0_charAt_5068e : GoodIn wsX2_isWord (wsV RX2 91 RJ0 yJ0_charAt_5068e wsJ0_charAt_5068e) := goodIn_app (goodIn_of _ (by decide +kernel)) ggX2_isWord_J0_charAt_5068e
theorem dX2_isWord_0 : decode cX2_isWord 0 = .ok (.aload_n 0, 1) := by decide +kernel
theorem dX2_isWord_1 : decode cX2_isWord 1 = .ok (.getfield 23, 3) := by decide +kernel
theorem dX2_isWord_4 : decode cX2_isWord 4 = .ok (.iload_n 2, 1) := by decide +kernel
theorem dX2_isWord_5 : decode cX2_isWord 5 = .ok (.isub, 1) := by decide +kernel
theorem dX2_isWord_6 : decode cX2_isWord 6 = .ok (.aload_n 1, 1) := by decide +kernel
theorem dX2_isWord_7 : decode cX2_isWord 7 = .ok (.invokevirtual 87, 3) := by decide +kernel
theorem dX2_isWord_10 : decode cX2_isWord 10 = .ok (.if_icmp .eq 5, 3) := by decide +kernel
theorem dX2_isWord_13 : decode cX2_isWord 13 = .ok (.iconst 0, 1) := by decide +kernel
theorem dX2_isWord_14 : decode cX2_isWord 14 = .ok (.ireturn, 1) := by decide +kernel
theorem dX2_isWord_15 : decode cX2_isWord 15 = .ok (.iconst 0, 1) := by decide +kernel
theorem dX2_isWord_16 : decode cX2_isWord 16 = .ok (.istore_n 3, 1) := by decide +kernel
theorem dX2_isWord_17 : decode cX2_isWord 17 = .ok (.iload_n 3, 1) := by decide +kernel
theorem dX2_isWord_18 : decode cX2_isWord 18 = .ok (.aload_n 1, 1) := by decide +kernel
theorem dX2_isWord_19 : decode cX2_isWord 19 = .ok (.invokevirtual 87, 3) := by decide +kernel
theorem dX2_isWord_22 : decode cX2_isWord 22 = .ok (.if_icmp .ge 27, 3) := by decide +kernel
theorem dX2_isWord_25 : decode cX2_isWord 25 = .ok (.aload_n 0, 1) := by decide +kernel
theorem dX2_isWord_26 : decode cX2_isWord 26 = .ok (.getfield 9, 3) := by decide +kernel
theorem dX2_isWord_29 : decode cX2_isWord 29 = .ok (.iload_n 2, 1) := by decide +kernel
theorem dX2_isWord_30 : decode cX2_isWord 30 = .ok (.iload_n 3, 1) := by decide +kernel
theorem dX2_isWord_31 : decode cX2_isWord 31 = .ok (.iadd, 1) := by decide +kernel
theorem dX2_isWord_32 : decode cX2_isWord 32 = .ok (.baload, 1) := by decide +kernel
theorem dX2_isWord_33 : decode cX2_isWord 33 = .ok (.aload_n 1, 1) := by decide +kernel
theorem dX2_isWord_34 : decode cX2_isWord 34 = .ok (.iload_n 3, 1) := by decide +kernel
theorem dX2_isWord_35 : decode cX2_isWord 35 = .ok (.invokevirtual 91, 3) := by decide +kernel
theorem dX2_isWord_38 : decode cX2_isWord 38 = .ok (.if_icmp .eq 5, 3) := by decide +kernel
theorem dX2_isWord_41 : decode cX2_isWord 41 = .ok (.iconst 0, 1) := by decide +kernel
theorem dX2_isWord_42 : decode cX2_isWord 42 = .ok (.ireturn, 1) := by decide +kernel
theorem dX2_isWord_43 : decode cX2_isWord 43 = .ok (.iinc 3 1, 3) := by decide +kernel
theorem dX2_isWord_46 : decode cX2_isWord 46 = .ok (.goto (-29), 3) := by decide +kernel
theorem dX2_isWord_49 : decode cX2_isWord 49 = .ok (.iconst 1, 1) := by decide +kernel
theorem dX2_isWord_50 : decode cX2_isWord 50 = .ok (.ireturn, 1) := by decide +kernel
theorem dX2_nameOf_0 : decode cX2_nameOf 0 = .ok (.iload_n 0, 1) := by decide +kernel
theorem dX2_nameOf_1 : decode cX2_nameOf 1 = .ok (.tableswitch 36 0 2 #[27, 30, 33], 27) := by decide +kernel
theorem dX2_nameOf_28 : decode cX2_nameOf 28 = .ok (.ldc 95, 2) := by decide +kernel
theorem dX2_nameOf_30 : decode cX2_nameOf 30 = .ok (.areturn, 1) := by decide +kernel
theorem dX2_nameOf_31 : decode cX2_nameOf 31 = .ok (.ldc 97, 2) := by decide +kernel
theorem dX2_nameOf_33 : decode cX2_nameOf 33 = .ok (.areturn, 1) := by decide +kernel
theorem dX2_nameOf_34 : decode cX2_nameOf 34 = .ok (.ldc 99, 2) := by decide +kernel
theorem dX2_nameOf_36 : decode cX2_nameOf 36 = .ok (.areturn, 1) := by decide +kernel
theorem dX2_nameOf_37 : decode cX2_nameOf 37 = .ok (.ldc 101, 2) := by decide +kernel
theorem dX2_nameOf_39 : decode cX2_nameOf 39 = .ok (.areturn, 1) := by decide +kernel
end
section
set_option maxRecDepth 20000 in
theorem ggJ0_length_8abf5_J0_coder_7d493 : GoodIn wsJ0_length_8abf5 wsJ0_coder_7d493 := goodIn_r _ [6, 7, 8] (by decide +kernel) (by decide +kernel)
set_option maxRecDepth 20000 in
theorem gJ0_length_8abf5_J0_coder_7d493 : GoodIn wsJ0_length_8abf5 (wsV RJ0 335 RJ0 yJ0_coder_7d493 wsJ0_coder_7d493) := goodIn_app (goodIn_of _ (by decide +kernel)) ggJ0_length_8abf5_J0_coder_7d493
theorem dJ0_length_8abf5_0 : decode cJ0_length_8abf5 0 = .ok (.aload_n 0, 1) := by decide +kernel
theorem dJ0_length_8abf5_1 : decode cJ0_length_8abf5 1 = .ok (.getfield 9, 3) := by decide +kernel
theorem dJ0_length_8abf5_4 : decode cJ0_length_8abf5 4 = .ok (.arraylength, 1) := by decide +kernel
theorem dJ0_length_8abf5_5 : decode cJ0_length_8abf5 5 = .ok (.aload_n 0, 1) := by decide +kernel
theorem dJ0_length_8abf5_6 : decode cJ0_length_8abf5 6 = .ok (.invokevirtual 335, 3) := by decide +kernel
theorem dJ0_length_8abf5_9 : decode cJ0_length_8abf5 9 = .ok (.ishr, 1) := by decide +kernel
theorem dJ0_length_8abf5_10 : decode cJ0_length_8abf5 10 = .ok (.ireturn, 1) := by decide +kernel
set_option maxRecDepth 20000 in
theorem ggJ0_charAt_5068e_J0_isLatin1_aae02 : GoodIn wsJ0_charAt_5068e wsJ0_isLatin1_aae02 := goodIn_r _ [6, 7, 8] (by decide +kernel) (by decide +kernel)
set_option maxRecDepth 20000 in
theorem gJ0_charAt_5068e_J0_isLatin1_aae02 : GoodIn wsJ0_charAt_5068e (wsV RJ0 492 RJ0 yJ0_isLatin1_aae02 wsJ0_isLatin1_aae02) := goodIn_app (goodIn_of _ (by decide +kernel)) ggJ0_charAt_5068e_J0_isLatin1_aae02
set_option maxRecDepth 20000 in
theorem ggJ0_charAt_5068e_J1_charAt_3b067 : GoodIn wsJ0_charAt_5068e wsJ1_charAt_3b067 := goodIn_r _ [12, 13, 14, 5, 15, 16, 17, 18, 19, 20] (by decide +kernel) (by decide +kernel)
set_option maxRecDepth 20000 in
theorem gJ0_charAt_5068e_J1_charAt_3b067 : GoodIn wsJ0_charAt_5068e (va_wsS RJ0 495 yJ1_charAt_3b067 wsJ1_charAt_3b067) := goodIn_app (goodIn_of _ (by decide +kernel)) ggJ0_charAt_5068e_J1_charAt_3b067
set_option maxRecDepth 20000 in
theorem ggJ0_charAt_5068e_J2_charAt_3b067 : GoodIn wsJ0_charAt_5068e wsJ2_charAt_3b067 := goodIn_r _ [24, 25, 26, 23, 27, 28, 29, 30, 31, 14, 5, 15, 16, 17, 18, 19, 20, 32, 33, 34, 35, 36, 37] (by decide +kernel) (by decide +kernel)
set_option maxRecDepth 20000 in
theorem gJ0_charAt_5068e_J2_charAt_3b067 : GoodIn wsJ0_charAt_5068e (va_wsS RJ0 498 yJ2_charAt_3b067 wsJ2_charAt_3b067) := goodIn_app (goodIn_of _ (by decide +kernel)) ggJ0_charAt_5068e_J2_charAt_3b067
theorem dJ0_charAt_5068e_0 : decode cJ0_charAt_5068e 0 = .ok (.aload_n 0, 1) := by decide +kernel
theorem dJ0_charAt_5068e_1 : decode cJ0_charAt_5068e 1 = .ok (.invokevirtual 492, 3) := by decide +kernel
theorem dJ0_charAt_5068e_4 : decode cJ0_charAt_5068e 4 = .ok (.ifCond .eq 12, 3) := by decide +kernel
theorem dJ0_charAt_5068e_7 : decode cJ0_charAt_5068e 7 = .ok (.aload_n 0, 1) := by decide +kernel
theorem dJ0_charAt_5068e_8 : decode cJ0_charAt_5068e 8 = .ok (.getfield 9, 3) := by decide +kernel
theorem dJ0_charAt_5068e_11 : decode cJ0_charAt_5068e 11 = .ok (.iload_n 1, 1) := by decide +kernel
theorem dJ0_charAt_5068e_12 : decode cJ0_charAt_5068e 12 = .ok (.invokestatic 495, 3) := by decide +kernel
theorem dJ0_charAt_5068e_15 : decode cJ0_charAt_5068e 15 = .ok (.ireturn, 1) := by decide +kernel
theorem dJ0_charAt_5068e_16 : decode cJ0_charAt_5068e 16 = .ok (.aload_n 0, 1) := by decide +kernel
theorem dJ0_charAt_5068e_17 : decode cJ0_charAt_5068e 17 = .ok (.getfield 9, 3) := by decide +kernel
theorem dJ0_charAt_5068e_20 : decode cJ0_charAt_5068e 20 = .ok (.iload_n 1, 1) := by decide +kernel
theorem dJ0_charAt_5068e_21 : decode cJ0_charAt_5068e 21 = .ok (.invokestatic 498, 3) := by decide +kernel
theorem dJ0_charAt_5068e_24 : decode cJ0_charAt_5068e 24 = .ok (.ireturn, 1) := by decide +kernel
theorem dJ0_coder_7d493_0 : decode cJ0_coder_7d493 0 = .ok (.getstatic 38, 3) := by decide +kernel
theorem dJ0_coder_7d493_3 : decode cJ0_coder_7d493 3 = .ok (.ifCond .eq 10, 3) := by decide +kernel
theorem dJ0_coder_7d493_6 : decode cJ0_coder_7d493 6 = .ok (.aload_n 0, 1) := by decide +kernel
theorem dJ0_coder_7d493_7 : decode cJ0_coder_7d493 7 = .ok (.getfield 15, 3) := by decide +kernel
theorem dJ0_coder_7d493_10 : decode cJ0_coder_7d493 10 = .ok (.goto 4, 3) := by decide +kernel
theorem dJ0_coder_7d493_13 : decode cJ0_coder_7d493 13 = .ok (.iconst 1, 1) := by decide +kernel
theorem dJ0_coder_7d493_14 : decode cJ0_coder_7d493 14 = .ok (.ireturn, 1) := by decide +kernel
theorem dJ0_isLatin1_aae02_0 : decode cJ0_isLatin1_aae02 0 = .ok (.getstatic 38, 3) := by decide +kernel
theorem dJ0_isLatin1_aae02_3 : decode cJ0_isLatin1_aae02 3 = .ok (.ifCond .eq 14, 3) := by decide +kernel
theorem dJ0_isLatin1_aae02_6 : decode cJ0_isLatin1_aae02 6 = .ok (.aload_n 0, 1) := by decide +kernel
theorem dJ0_isLatin1_aae02_7 : decode cJ0_isLatin1_aae02 7 = .ok (.getfield 15, 3) := by decide +kernel
theorem dJ0_isLatin1_aae02_10 : decode cJ0_isLatin1_aae02 10 = .ok (.ifCond .ne 7, 3) := by decide +kernel
theorem dJ0_isLatin1_aae02_13 : decode cJ0_isLatin1_aae02 13 = .ok (.iconst 1, 1) := by decide +kernel
theorem dJ0_isLatin1_aae02_14 : decode cJ0_isLatin1_aae02 14 = .ok (.goto 4, 3) := by decide +kernel
theorem dJ0_isLatin1_aae02_17 : decode cJ0_isLatin1_aae02 17 = .ok (.iconst 0, 1) := by decide +kernel
theorem dJ0_isLatin1_aae02_18 : decode cJ0_isLatin1_aae02 18 = .ok (.ireturn, 1) := by decide +kernel
set_option maxRecDepth 20000 in
theorem ggJ0_checkIndex_df160_J3_checkIndex_8e157 : GoodIn wsJ0_checkIndex_df160 wsJ3_checkIndex_8e157 := goodIn_r _ [5] (by decide +kernel) (by decide +kernel)
set_option maxRecDepth 20000 in
theorem gJ0_checkIndex_df160_J3_checkIndex_8e157 : GoodIn wsJ0_checkIndex_df160 (va_wsS RJ0 1059 yJ3_checkIndex_8e157 wsJ3_checkIndex_8e157) := goodIn_app (goodIn_of _ (by decide +kernel)) ggJ0_checkIndex_df160_J3_checkIndex_8e157
theorem dJ0_checkIndex_df160_0 : decode cJ0_checkIndex_df160 0 = .ok (.iload_n 0, 1) := by decide +kernel
theorem dJ0_checkIndex_df160_1 : decode cJ0_checkIndex_df160 1 = .ok (.iload_n 1, 1) := by decide +kernel
theorem dJ0_checkIndex_df160_2 : decode cJ0_checkIndex_df160 2 = .ok (.getstatic 1053, 3) := by decide +kernel
theorem dJ0_checkIndex_df160_5 : decode cJ0_checkIndex_df160 5 = .ok (.invokestatic 1059, 3) := by decide +kernel
theorem dJ0_checkIndex_df160_8 : decode cJ0_checkIndex_df160 8 = .ok (.pop, 1) := by decide +kernel
theorem dJ0_checkIndex_df160_9 : decode cJ0_checkIndex_df160 9 = .ok (.return_, 1) := by decide +kernel
set_option maxRecDepth 20000 in
theorem ggJ1_charAt_3b067_J0_checkIndex_df160 : GoodIn wsJ1_charAt_3b067 wsJ0_checkIndex_df160 := goodIn_r _ [4, 5, 6, 7, 8, 9] (by decide +kernel) (by decide +kernel)
set_option maxRecDepth 20000 in
theorem gJ1_charAt_3b067_J0_checkIndex_df160 : GoodIn wsJ1_charAt_3b067 (va_wsS RJ1 9 yJ0_checkIndex_df160 wsJ0_checkIndex_df160) := goodIn_app (goodIn_of _ (by decide +kernel)) ggJ1_charAt_3b067_J0_checkIndex_df160
theorem dJ1_charAt_3b067_0 : decode cJ1_charAt_3b067 0 = .ok (.iload_n 1, 1) := by decide +kernel
theorem dJ1_charAt_3b067_1 : decode cJ1_charAt_3b067 1 = .ok (.aload_n 0, 1) := by decide +kernel
theorem dJ1_charAt_3b067_2 : decode cJ1_charAt_3b067 2 = .ok (.arraylength, 1) := by decide +kernel
theorem dJ1_charAt_3b067_3 : decode cJ1_charAt_3b067 3 = .ok (.invokestatic 9, 3) := by decide +kernel
theorem dJ1_charAt_3b067_6 : decode cJ1_charAt_3b067 6 = .ok (.aload_n 0, 1) := by decide +kernel
theorem dJ1_charAt_3b067_7 : decode cJ1_charAt_3b067 7 = .ok (.iload_n 1, 1) := by decide +kernel
theorem dJ1_charAt_3b067_8 : decode cJ1_charAt_3b067 8 = .ok (.baload, 1) := by decide +kernel
theorem dJ1_charAt_3b067_9 : decode cJ1_charAt_3b067 9 = .ok (.sipush 255, 3) := by decide +kernel
theorem dJ1_charAt_3b067_12 : decode cJ1_charAt_3b067 12 = .ok (.iand, 1) := by decide +kernel
theorem dJ1_charAt_3b067_13 : decode cJ1_charAt_3b067 13 = .ok (.i2c, 1) := by decide +kernel
theorem dJ1_charAt_3b067_14 : decode cJ1_charAt_3b067 14 = .ok (.ireturn, 1) := by decide +kernel
set_option maxRecDepth 20000 in
theorem ggJ2_getChar_3b067_J2_length_9d52b : GoodIn wsJ2_getChar_3b067 wsJ2_length_9d52b := goodIn_r _ [7] (by decide +kernel) (by decide +kernel)
set_option maxRecDepth 20000 in
theorem gJ2_getChar_3b067_J2_length_9d52b : GoodIn wsJ2_getChar_3b067 (va_wsS RJ2 48 yJ2_length_9d52b wsJ2_length_9d52b) := goodIn_app (goodIn_of _ (by decide +kernel)) ggJ2_getChar_3b067_J2_length_9d52b
theorem dJ2_getChar_3b067_0 : decode cJ2_getChar_3b067 0 = .ok (.getstatic 44, 3) := by decide +kernel
theorem dJ2_getChar_3b067_3 : decode cJ2_getChar_3b067 3 = .ok (.ifCond .ne 25, 3) := by decide +kernel
theorem dJ2_getChar_3b067_6 : decode cJ2_getChar_3b067 6 = .ok (.iload_n 1, 1) := by decide +kernel
theorem dJ2_getChar_3b067_7 : decode cJ2_getChar_3b067 7 = .ok (.ifCond .lt 11, 3) := by decide +kernel
theorem dJ2_getChar_3b067_10 : decode cJ2_getChar_3b067 10 = .ok (.iload_n 1, 1) := by decide +kernel
theorem dJ2_getChar_3b067_11 : decode cJ2_getChar_3b067 11 = .ok (.aload_n 0, 1) := by decide +kernel
theorem dJ2_getChar_3b067_12 : decode cJ2_getChar_3b067 12 = .ok (.invokestatic 48, 3) := by decide +kernel
theorem dJ2_getChar_3b067_15 : decode cJ2_getChar_3b067 15 = .ok (.if_icmp .lt 13, 3) := by decide +kernel
theorem dJ2_getChar_3b067_18 : decode cJ2_getChar_3b067 18 = .ok (.new 52, 3) := by decide +kernel
theorem dJ2_getChar_3b067_21 : decode cJ2_getChar_3b067 21 = .ok (.dup, 1) := by decide +kernel
theorem dJ2_getChar_3b067_22 : decode cJ2_getChar_3b067 22 = .ok (.ldc 54, 2) := by decide +kernel
theorem dJ2_getChar_3b067_24 : decode cJ2_getChar_3b067 24 = .ok (.invokespecial 56, 3) := by decide +kernel
theorem dJ2_getChar_3b067_27 : decode cJ2_getChar_3b067 27 = .ok (.athrow, 1) := by decide +kernel
theorem dJ2_getChar_3b067_28 : decode cJ2_getChar_3b067 28 = .ok (.iload_n 1, 1) := by decide +kernel
theorem dJ2_getChar_3b067_29 : decode cJ2_getChar_3b067 29 = .ok (.iconst 1, 1) := by decide +kernel
theorem dJ2_getChar_3b067_30 : decode cJ2_getChar_3b067 30 = .ok (.ishl, 1) := by decide +kernel
theorem dJ2_getChar_3b067_31 : decode cJ2_getChar_3b067 31 = .ok (.istore_n 1, 1) := by decide +kernel
theorem dJ2_getChar_3b067_32 : decode cJ2_getChar_3b067 32 = .ok (.aload_n 0, 1) := by decide +kernel
theorem dJ2_getChar_3b067_33 : decode cJ2_getChar_3b067 33 = .ok (.iload_n 1, 1) := by decide +kernel
theorem dJ2_getChar_3b067_34 : decode cJ2_getChar_3b067 34 = .ok (.iinc 1 1, 3) := by decide +kernel
theorem dJ2_getChar_3b067_37 : decode cJ2_getChar_3b067 37 = .ok (.baload, 1) := by decide +kernel
theorem dJ2_getChar_3b067_38 : decode cJ2_getChar_3b067 38 = .ok (.sipush 255, 3) := by decide +kernel
theorem dJ2_getChar_3b067_41 : decode cJ2_getChar_3b067 41 = .ok (.iand, 1) := by decide +kernel
theorem dJ2_getChar_3b067_42 : decode cJ2_getChar_3b067 42 = .ok (.getstatic 59, 3) := by decide +kernel
theorem dJ2_getChar_3b067_45 : decode cJ2_getChar_3b067 45 = .ok (.ishl, 1) := by decide +kernel
theorem dJ2_getChar_3b067_46 : decode cJ2_getChar_3b067 46 = .ok (.aload_n 0, 1) := by decide +kernel
theorem dJ2_getChar_3b067_47 : decode cJ2_getChar_3b067 47 = .ok (.iload_n 1, 1) := by decide +kernel
theorem dJ2_getChar_3b067_48 : decode cJ2_getChar_3b067 48 = .ok (.baload, 1) := by decide +kernel
theorem dJ2_getChar_3b067_49 : decode cJ2_getChar_3b067 49 = .ok (.sipush 255, 3) := by decide +kernel
theorem dJ2_getChar_3b067_52 : decode cJ2_getChar_3b067 52 = .ok (.iand, 1) := by decide +kernel
theorem dJ2_getChar_3b067_53 : decode cJ2_getChar_3b067 53 = .ok (.getstatic 63, 3) := by decide +kernel
theorem dJ2_getChar_3b067_56 : decode cJ2_getChar_3b067 56 = .ok (.ishl, 1) := by decide +kernel
theorem dJ2_getChar_3b067_57 : decode cJ2_getChar_3b067 57 = .ok (.ior, 1) := by decide +kernel
theorem dJ2_getChar_3b067_58 : decode cJ2_getChar_3b067 58 = .ok (.i2c, 1) := by decide +kernel
theorem dJ2_getChar_3b067_59 : decode cJ2_getChar_3b067 59 = .ok (.ireturn, 1) := by decide +kernel
theorem dJ2_length_9d52b_0 : decode cJ2_length_9d52b 0 = .ok (.aload_n 0, 1) := by decide +kernel
theorem dJ2_length_9d52b_1 : decode cJ2_length_9d52b 1 = .ok (.arraylength, 1) := by decide +kernel
theorem dJ2_length_9d52b_2 : decode cJ2_length_9d52b 2 = .ok (.iconst 1, 1) := by decide +kernel
theorem dJ2_length_9d52b_3 : decode cJ2_length_9d52b 3 = .ok (.ishr, 1) := by decide +kernel
theorem dJ2_length_9d52b_4 : decode cJ2_length_9d52b 4 = .ok (.ireturn, 1) := by decide +kernel
set_option maxRecDepth 20000 in
theorem ggJ2_charAt_3b067_J2_checkIndex_2214a : GoodIn wsJ2_charAt_3b067 wsJ2_checkIndex_2214a := goodIn_r _ [4, 5, 6, 3, 7, 8, 9, 10, 11, 12, 13, 14, 15, 16] (by decide +kernel) (by decide +kernel)
set_option maxRecDepth 20000 in
theorem gJ2_charAt_3b067_J2_checkIndex_2214a : GoodIn wsJ2_charAt_3b067 (va_wsS RJ2 67 yJ2_checkIndex_2214a wsJ2_checkIndex_2214a) := goodIn_app (goodIn_of _ (by decide +kernel)) ggJ2_charAt_3b067_J2_checkIndex_2214a
set_option maxRecDepth 20000 in
theorem ggJ2_charAt_3b067_J2_getChar_3b067 : GoodIn wsJ2_charAt_3b067 wsJ2_getChar_3b067 := goodIn_r _ [19, 20, 21, 22, 5, 6, 3, 7] (by decide +kernel) (by decide +kernel)
set_option maxRecDepth 20000 in
theorem gJ2_charAt_3b067_J2_getChar_3b067 : GoodIn wsJ2_charAt_3b067 (va_wsS RJ2 71 yJ2_getChar_3b067 wsJ2_getChar_3b067) := goodIn_app (goodIn_of _ (by decide +kernel)) ggJ2_charAt_3b067_J2_getChar_3b067
theorem dJ2_charAt_3b067_0 : decode cJ2_charAt_3b067 0 = .ok (.iload_n 1, 1) := by decide +kernel
theorem dJ2_charAt_3b067_1 : decode cJ2_charAt_3b067 1 = .ok (.aload_n 0, 1) := by decide +kernel
theorem dJ2_charAt_3b067_2 : decode cJ2_charAt_3b067 2 = .ok (.invokestatic 67, 3) := by decide +kernel
theorem dJ2_charAt_3b067_5 : decode cJ2_charAt_3b067 5 = .ok (.aload_n 0, 1) := by decide +kernel
theorem dJ2_charAt_3b067_6 : decode cJ2_charAt_3b067 6 = .ok (.iload_n 1, 1) := by decide +kernel
theorem dJ2_charAt_3b067_7 : decode cJ2_charAt_3b067 7 = .ok (.invokestatic 71, 3) := by decide +kernel
theorem dJ2_charAt_3b067_10 : decode cJ2_charAt_3b067 10 = .ok (.ireturn, 1) := by decide +kernel
set_option maxRecDepth 20000 in
theorem ggJ2_checkIndex_2214a_J2_length_9d52b : GoodIn wsJ2_checkIndex_2214a wsJ2_length_9d52b := goodIn_r _ [4] (by decide +kernel) (by decide +kernel)
set_option maxRecDepth 20000 in
theorem gJ2_checkIndex_2214a_J2_length_9d52b : GoodIn wsJ2_checkIndex_2214a (va_wsS RJ2 48 yJ2_length_9d52b wsJ2_length_9d52b) := goodIn_app (goodIn_of _ (by decide +kernel)) ggJ2_checkIndex_2214a_J2_length_9d52b
set_option maxRecDepth 20000 in
theorem ggJ2_checkIndex_2214a_J0_checkIndex_df160 : GoodIn wsJ2_checkIndex_2214a wsJ0_checkIndex_df160 := goodIn_r _ [8, 9, 10, 11, 12, 13] (by decide +kernel) (by decide +kernel)
set_option maxRecDepth 20000 in
theorem gJ2_checkIndex_2214a_J0_checkIndex_df160 : GoodIn wsJ2_checkIndex_2214a (va_wsS RJ2 414 yJ0_checkIndex_df160 wsJ0_checkIndex_df160) := goodIn_app (goodIn_of _ (by decide +kernel)) ggJ2_checkIndex_2214a_J0_checkIndex_df160
theorem dJ2_checkIndex_2214a_0 : decode cJ2_checkIndex_2214a 0 = .ok (.iload_n 0, 1) := by decide +kernel
theorem dJ2_checkIndex_2214a_1 : decode cJ2_checkIndex_2214a 1 = .ok (.aload_n 1, 1) := by decide +kernel
theorem dJ2_checkIndex_2214a_2 : decode cJ2_checkIndex_2214a 2 = .ok (.invokestatic 48, 3) := by decide +kernel
theorem dJ2_checkIndex_2214a_5 : decode cJ2_checkIndex_2214a 5 = .ok (.invokestatic 414, 3) := by decide +kernel
theorem dJ2_checkIndex_2214a_8 : decode cJ2_checkIndex_2214a 8 = .ok (.return_, 1) := by decide +kernel
theorem dJ3_checkIndex_8e157_0 : decode cJ3_checkIndex_8e157 0 = .ok (.iload_n 0, 1) := by decide +kernel
theorem dJ3_checkIndex_8e157_1 : decode cJ3_checkIndex_8e157 1 = .ok (.ifCond .lt 8, 3) := by decide +kernel
theorem dJ3_checkIndex_8e157_4 : decode cJ3_checkIndex_8e157 4 = .ok (.iload_n 0, 1) := by decide +kernel
theorem dJ3_checkIndex_8e157_5 : decode cJ3_checkIndex_8e157 5 = .ok (.iload_n 1, 1) := by decide +kernel
theorem dJ3_checkIndex_8e157_6 : decode cJ3_checkIndex_8e157 6 = .ok (.if_icmp .lt 10, 3) := by decide +kernel
theorem dJ3_checkIndex_8e157_9 : decode cJ3_checkIndex_8e157 9 = .ok (.aload_n 2, 1) := by decide +kernel
theorem dJ3_checkIndex_8e157_10 : decode cJ3_checkIndex_8e157 10 = .ok (.iload_n 0, 1) := by decide +kernel
theorem dJ3_checkIndex_8e157_11 : decode cJ3_checkIndex_8e157 11 = .ok (.iload_n 1, 1) := by decide +kernel
theorem dJ3_checkIndex_8e157_12 : decode cJ3_checkIndex_8e157 12 = .ok (.invokestatic 95, 3) := by decide +kernel
theorem dJ3_checkIndex_8e157_15 : decode cJ3_checkIndex_8e157 15 = .ok (.athrow, 1) := by decide +kernel
theorem dJ3_checkIndex_8e157_16 : decode cJ3_checkIndex_8e157 16 = .ok (.iload_n 0, 1) := by decide +kernel
theorem dJ3_checkIndex_8e157_17 : decode cJ3_checkIndex_8e157 17 = .ok (.ireturn, 1) := by decide +kernel
theorem dJ9_max_7cf53_0 : decode cJ9_max_7cf53 0 = .ok (.iload_n 0, 1) := by decide +kernel
theorem dJ9_max_7cf53_1 : decode cJ9_max_7cf53 1 = .ok (.iload_n 1, 1) := by decide +kernel
theorem dJ9_max_7cf53_2 : decode cJ9_max_7cf53 2 = .ok (.if_icmp .lt 7, 3) := by decide +kernel
theorem dJ9_max_7cf53_5 : decode cJ9_max_7cf53 5 = .ok (.iload_n 0, 1) := by decide +kernel
theorem dJ9_max_7cf53_6 : decode cJ9_max_7cf53 6 = .ok (.goto 4, 3) := by decide +kernel
theorem dJ9_max_7cf53_9 : decode cJ9_max_7cf53 9 = .ok (.iload_n 1, 1) := by decide +kernel
theorem dJ9_max_7cf53_10 : decode cJ9_max_7cf53 10 = .ok (.ireturn, 1) := by decide +kernel
theorem dJ9_min_7cf53_0 : decode cJ9_min_7cf53 0 = .ok (.iload_n 0, 1) := by decide +kernel
theorem dJ9_min_7cf53_1 : decode cJ9_min_7cf53 1 = .ok (.iload_n 1, 1) := by decide +kernel
theorem dJ9_min_7cf53_2 : decode cJ9_min_7cf53 2 = .ok (.if_icmp .gt 7, 3) := by decide +kernel
theorem dJ9_min_7cf53_5 : decode cJ9_min_7cf53 5 = .ok (.iload_n 0, 1) := by decide +kernel
theorem dJ9_min_7cf53_6 : decode cJ9_min_7cf53 6 = .ok (.goto 4, 3) := by decide +kernel
theorem dJ9_min_7cf53_9 : decode cJ9_min_7cf53 9 = .ok (.iload_n 1, 1) := by decide +kernel
theorem dJ9_min_7cf53_10 : decode cJ9_min_7cf53 10 = .ok (.ireturn, 1) := by decide +kernel
end
section
set_option maxRecDepth 20000 in
theorem ggX3_init_X2_init : GoodIn wsX3_init wsX2_init := goodIn_r _ [28, 29, 2, 3, 30, 31, 4, 32, 33, 34, 35, 36, 37, 75, 76, 77, 78, 79, 80, 81] (by decide +kernel) (by decide +kernel)
set_option maxRecDepth 20000 in
theorem gX3_init_X2_init_n15 : GoodIn wsX3_init (wsX2_init) := ggX3_init_X2_init
set_option maxRecDepth 20000 in
theorem ggX3_init_X0_init : GoodIn wsX3_init wsX0_init := goodIn_r _ [39, 40, 2, 3, 41, 4, 42, 43, 44, 45, 46, 82, 83, 84, 85, 86] (by decide +kernel) (by decide +kernel)
set_option maxRecDepth 20000 in
theorem gX3_init_X0_init_n22 : GoodIn wsX3_init (wsX0_init) := ggX3_init_X0_init
set_option maxRecDepth 20000 in
theorem ggX3_init_X1_init : GoodIn wsX3_init wsX1_init := goodIn_r _ [48, 49, 2, 3, 4, 50, 51, 52, 53, 54, 55, 56, 57, 58, 59, 60, 61, 62, 87, 88, 89, 90, 91, 92, 93, 94, 95, 96, 97, 98] (by decide +kernel) (by decide +kernel)
set_option maxRecDepth 20000 in
theorem gX3_init_X1_init_n34 : GoodIn wsX3_init (wsX1_init) := ggX3_init_X1_init
theorem dX3_init_0 : decode cX3_init 0 = .ok (.aload_n 0, 1) := by decide +kernel
theorem dX3_init_1 : decode cX3_init 1 = .ok (.invokespecial 1, 3) := by decide +kernel
theorem dX3_init_4 : decode cX3_init 4 = .ok (.aload_n 0, 1) := by decide +kernel
theorem dX3_init_5 : decode cX3_init 5 = .ok (.bipush 12, 2) := by decide +kernel
theorem dX3_init_7 : decode cX3_init 7 = .ok (.newarray .int, 2) := by decide +kernel
theorem dX3_init_9 : decode cX3_init 9 = .ok (.putfield 9, 3) := by decide +kernel
theorem dX3_init_12 : decode cX3_init 12 = .ok (.aload_n 0, 1) := by decide +kernel
theorem dX3_init_13 : decode cX3_init 13 = .ok (.new 13, 3) := by decide +kernel
theorem dX3_init_16 : decode cX3_init 16 = .ok (.dup, 1) := by decide +kernel
theorem dX3_init_17 : decode cX3_init 17 = .ok (.invokespecial 15, 3) := by decide +kernel
theorem dX3_init_20 : decode cX3_init 20 = .ok (.putfield 16, 3) := by decide +kernel
theorem dX3_init_23 : decode cX3_init 23 = .ok (.aload_n 0, 1) := by decide +kernel
theorem dX3_init_24 : decode cX3_init 24 = .ok (.new 20, 3) := by decide +kernel
theorem dX3_init_27 : decode cX3_init 27 = .ok (.dup, 1) := by decide +kernel
theorem dX3_init_28 : decode cX3_init 28 = .ok (.invokespecial 22, 3) := by decide +kernel
theorem dX3_init_31 : decode cX3_init 31 = .ok (.putfield 23, 3) := by decide +kernel
theorem dX3_init_34 : decode cX3_init 34 = .ok (.aload_n 0, 1) := by decide +kernel
theorem dX3_init_35 : decode cX3_init 35 = .ok (.bipush 60, 2) := by decide +kernel
theorem dX3_init_37 : decode cX3_init 37 = .ok (.bipush 13, 2) := by decide +kernel
theorem dX3_init_39 : decode cX3_init 39 = .ok (.multianewarray 27 2, 4) := by decide +kernel
theorem dX3_init_43 : decode cX3_init 43 = .ok (.putfield 29, 3) := by decide +kernel
theorem dX3_init_46 : decode cX3_init 46 = .ok (.aload_n 0, 1) := by decide +kernel
theorem dX3_init_47 : decode cX3_init 47 = .ok (.new 32, 3) := by decide +kernel
theorem dX3_init_50 : decode cX3_init 50 = .ok (.dup, 1) := by decide +kernel
theorem dX3_init_51 : decode cX3_init 51 = .ok (.invokespecial 34, 3) := by decide +kernel
theorem dX3_init_54 : decode cX3_init 54 = .ok (.putfield 35, 3) := by decide +kernel
theorem dX3_init_57 : decode cX3_init 57 = .ok (.aload_n 0, 1) := by decide +kernel
theorem dX3_init_58 : decode cX3_init 58 = .ok (.iconst 0, 1) := by decide +kernel
theorem dX3_init_59 : decode cX3_init 59 = .ok (.putfield 39, 3) := by decide +kernel
theorem dX3_init_62 : decode cX3_init 62 = .ok (.aload_n 0, 1) := by decide +kernel
theorem dX3_init_63 : decode cX3_init 63 = .ok (.iconst 0, 1) := by decide +kernel
theorem dX3_init_64 : decode cX3_init 64 = .ok (.putfield 43, 3) := by decide +kernel
theorem dX3_init_67 : decode cX3_init 67 = .ok (.aload_n 0, 1) := by decide +kernel
theorem dX3_init_68 : decode cX3_init 68 = .ok (.iconst 0, 1) := by decide +kernel
theorem dX3_init_69 : decode cX3_init 69 = .ok (.putfield 46, 3) := by decide +kernel
theorem dX3_init_72 : decode cX3_init 72 = .ok (.aload_n 0, 1) := by decide +kernel
theorem dX3_init_73 : decode cX3_init 73 = .ok (.iconst 0, 1) := by decide +kernel
theorem dX3_init_74 : decode cX3_init 74 = .ok (.putfield 49, 3) := by decide +kernel
theorem dX3_init_77 : decode cX3_init 77 = .ok (.aload_n 0, 1) := by decide +kernel
theorem dX3_init_78 : decode cX3_init 78 = .ok (.iconst (-1), 1) := by decide +kernel
theorem dX3_init_79 : decode cX3_init 79 = .ok (.putfield 52, 3) := by decide +kernel
theorem dX3_init_82 : decode cX3_init 82 = .ok (.aload_n 0, 1) := by decide +kernel
theorem dX3_init_83 : decode cX3_init 83 = .ok (.iconst (-1), 1) := by decide +kernel
theorem dX3_init_84 : decode cX3_init 84 = .ok (.putfield 55, 3) := by decide +kernel
theorem dX3_init_87 : decode cX3_init 87 = .ok (.aload_n 0, 1) := by decide +kernel
theorem dX3_init_88 : decode cX3_init 88 = .ok (.iconst 0, 1) := by decide +kernel
theorem dX3_init_89 : decode cX3_init 89 = .ok (.putfield 58, 3) := by decide +kernel
theorem dX3_init_92 : decode cX3_init 92 = .ok (.return_, 1) := by decide +kernel
theorem dX3_push_0 : decode cX3_push 0 = .ok (.iload_n 1, 1) := by decide +kernel
theorem dX3_push_1 : decode cX3_push 1 = .ok (.bipush 50, 2) := by decide +kernel
theorem dX3_push_3 : decode cX3_push 3 = .ok (.if_icmp .lt 10, 3) := by decide +kernel
theorem dX3_push_6 : decode cX3_push 6 = .ok (.iload_n 1, 1) := by decide +kernel
theorem dX3_push_7 : decode cX3_push 7 = .ok (.sipush 200, 3) := by decide +kernel
theorem dX3_push_10 : decode cX3_push 10 = .ok (.if_icmp .le 13, 3) := by decide +kernel
theorem dX3_push_13 : decode cX3_push 13 = .ok (.new 62, 3) := by decide +kernel
theorem dX3_push_16 : decode cX3_push 16 = .ok (.dup, 1) := by decide +kernel
theorem dX3_push_17 : decode cX3_push 17 = .ok (.ldc 64, 2) := by decide +kernel
theorem dX3_push_19 : decode cX3_push 19 = .ok (.invokespecial 66, 3) := by decide +kernel
theorem dX3_push_22 : decode cX3_push 22 = .ok (.athrow, 1) := by decide +kernel
theorem dX3_push_23 : decode cX3_push 23 = .ok (.aload_n 0, 1) := by decide +kernel
theorem dX3_push_24 : decode cX3_push 24 = .ok (.getfield 39, 3) := by decide +kernel
theorem dX3_push_27 : decode cX3_push 27 = .ok (.bipush 12, 2) := by decide +kernel
theorem dX3_push_29 : decode cX3_push 29 = .ok (.if_icmp .lt 5, 3) := by decide +kernel
theorem dX3_push_32 : decode cX3_push 32 = .ok (.iconst (-1), 1) := by decide +kernel
theorem dX3_push_33 : decode cX3_push 33 = .ok (.ireturn, 1) := by decide +kernel
theorem dX3_push_34 : decode cX3_push 34 = .ok (.aload_n 0, 1) := by decide +kernel
theorem dX3_push_35 : decode cX3_push 35 = .ok (.getfield 9, 3) := by decide +kernel
theorem dX3_push_38 : decode cX3_push 38 = .ok (.aload_n 0, 1) := by decide +kernel
theorem dX3_push_39 : decode cX3_push 39 = .ok (.getfield 39, 3) := by decide +kernel
theorem dX3_push_42 : decode cX3_push 42 = .ok (.iload_n 1, 1) := by decide +kernel
theorem dX3_push_43 : decode cX3_push 43 = .ok (.iastore, 1) := by decide +kernel
theorem dX3_push_44 : decode cX3_push 44 = .ok (.aload_n 0, 1) := by decide +kernel
theorem dX3_push_45 : decode cX3_push 45 = .ok (.dup, 1) := by decide +kernel
theorem dX3_push_46 : decode cX3_push 46 = .ok (.getfield 39, 3) := by decide +kernel
theorem dX3_push_49 : decode cX3_push 49 = .ok (.iconst 1, 1) := by decide +kernel
theorem dX3_push_50 : decode cX3_push 50 = .ok (.iadd, 1) := by decide +kernel
theorem dX3_push_51 : decode cX3_push 51 = .ok (.putfield 39, 3) := by decide +kernel
theorem dX3_push_54 : decode cX3_push 54 = .ok (.aload_n 0, 1) := by decide +kernel
theorem dX3_push_55 : decode cX3_push 55 = .ok (.getfield 39, 3) := by decide +kernel
theorem dX3_push_58 : decode cX3_push 58 = .ok (.ireturn, 1) := by decide +kernel
set_option maxRecDepth 20000 in
theorem ggX3_block_X0_add : GoodIn wsX3_block wsX0_add := goodIn_r _ [11, 12, 13, 14, 27, 28, 29, 30, 31] (by decide +kernel) (by decide +kernel)
set_option maxRecDepth 20000 in
theorem gX3_block_X0_add : GoodIn wsX3_block (wsV RX3 77 RX0 yX0_add wsX0_add) := goodIn_app (goodIn_of _ (by decide +kernel)) ggX3_block_X0_add
theorem dX3_block_0 : decode cX3_block 0 = .ok (.aload_n 0, 1) := by decide +kernel
theorem dX3_block_1 : decode cX3_block 1 = .ok (.getfield 23, 3) := by decide +kernel
theorem dX3_block_4 : decode cX3_block 4 = .ok (.getfield 69, 3) := by decide +kernel
theorem dX3_block_7 : decode cX3_block 7 = .ok (.bipush 10, 2) := by decide +kernel
theorem dX3_block_9 : decode cX3_block 9 = .ok (.if_icmp .lt 13, 3) := by decide +kernel
theorem dX3_block_12 : decode cX3_block 12 = .ok (.new 72, 3) := by decide +kernel
theorem dX3_block_15 : decode cX3_block 15 = .ok (.dup, 1) := by decide +kernel
theorem dX3_block_16 : decode cX3_block 16 = .ok (.ldc 74, 2) := by decide +kernel
theorem dX3_block_18 : decode cX3_block 18 = .ok (.invokespecial 76, 3) := by decide +kernel
theorem dX3_block_21 : decode cX3_block 21 = .ok (.athrow, 1) := by decide +kernel
theorem dX3_block_22 : decode cX3_block 22 = .ok (.aload_n 0, 1) := by decide +kernel
theorem dX3_block_23 : decode cX3_block 23 = .ok (.getfield 39, 3) := by decide +kernel
theorem dX3_block_26 : decode cX3_block 26 = .ok (.bipush 12, 2) := by decide +kernel
theorem dX3_block_28 : decode cX3_block 28 = .ok (.if_icmp .ge 5, 3) := by decide +kernel
theorem dX3_block_31 : decode cX3_block 31 = .ok (.iconst (-1), 1) := by decide +kernel
theorem dX3_block_32 : decode cX3_block 32 = .ok (.ireturn, 1) := by decide +kernel
theorem dX3_block_33 : decode cX3_block 33 = .ok (.aload_n 0, 1) := by decide +kernel
theorem dX3_block_34 : decode cX3_block 34 = .ok (.iconst 0, 1) := by decide +kernel
theorem dX3_block_35 : decode cX3_block 35 = .ok (.putfield 39, 3) := by decide +kernel
theorem dX3_block_38 : decode cX3_block 38 = .ok (.aload_n 0, 1) := by decide +kernel
theorem dX3_block_39 : decode cX3_block 39 = .ok (.getfield 23, 3) := by decide +kernel
theorem dX3_block_42 : decode cX3_block 42 = .ok (.aload_n 0, 1) := by decide +kernel
theorem dX3_block_43 : decode cX3_block 43 = .ok (.getfield 9, 3) := by decide +kernel
theorem dX3_block_46 : decode cX3_block 46 = .ok (.invokevirtual 77, 3) := by decide +kernel
theorem dX3_block_49 : decode cX3_block 49 = .ok (.ireturn, 1) := by decide +kernel
set_option maxRecDepth 20000 in
theorem ggX3_feed_X2_take : GoodIn wsX3_feed wsX2_take := goodIn_r _ [7, 8, 9, 22, 23, 24, 25, 26, 27, 28] (by decide +kernel) (by decide +kernel)
set_option maxRecDepth 20000 in
theorem gX3_feed_X2_take : GoodIn wsX3_feed (wsV RX3 82 RX2 yX2_take wsX2_take) := goodIn_app (goodIn_of _ (by decide +kernel)) ggX3_feed_X2_take
theorem dX3_feed_0 : decode cX3_feed 0 = .ok (.aload_n 0, 1) := by decide +kernel
theorem dX3_feed_1 : decode cX3_feed 1 = .ok (.getfield 16, 3) := by decide +kernel
theorem dX3_feed_4 : decode cX3_feed 4 = .ok (.getfield 81, 3) := by decide +kernel
theorem dX3_feed_7 : decode cX3_feed 7 = .ok (.bipush 80, 2) := by decide +kernel
theorem dX3_feed_9 : decode cX3_feed 9 = .ok (.if_icmp .le 5, 3) := by decide +kernel
theorem dX3_feed_12 : decode cX3_feed 12 = .ok (.iconst (-1), 1) := by decide +kernel
theorem dX3_feed_13 : decode cX3_feed 13 = .ok (.ireturn, 1) := by decide +kernel
theorem dX3_feed_14 : decode cX3_feed 14 = .ok (.aload_n 0, 1) := by decide +kernel
theorem dX3_feed_15 : decode cX3_feed 15 = .ok (.getfield 16, 3) := by decide +kernel
theorem dX3_feed_18 : decode cX3_feed 18 = .ok (.iload_n 1, 1) := by decide +kernel
theorem dX3_feed_19 : decode cX3_feed 19 = .ok (.invokevirtual 82, 3) := by decide +kernel
theorem dX3_feed_22 : decode cX3_feed 22 = .ok (.aload_n 0, 1) := by decide +kernel
theorem dX3_feed_23 : decode cX3_feed 23 = .ok (.getfield 16, 3) := by decide +kernel
theorem dX3_feed_26 : decode cX3_feed 26 = .ok (.iload_n 2, 1) := by decide +kernel
theorem dX3_feed_27 : decode cX3_feed 27 = .ok (.invokevirtual 82, 3) := by decide +kernel
theorem dX3_feed_30 : decode cX3_feed 30 = .ok (.aload_n 0, 1) := by decide +kernel
theorem dX3_feed_31 : decode cX3_feed 31 = .ok (.getfield 16, 3) := by decide +kernel
theorem dX3_feed_34 : decode cX3_feed 34 = .ok (.iload_n 3, 1) := by decide +kernel
theorem dX3_feed_35 : decode cX3_feed 35 = .ok (.invokevirtual 82, 3) := by decide +kernel
theorem dX3_feed_38 : decode cX3_feed 38 = .ok (.aload_n 0, 1) := by decide +kernel
theorem dX3_feed_39 : decode cX3_feed 39 = .ok (.getfield 16, 3) := by decide +kernel
theorem dX3_feed_42 : decode cX3_feed 42 = .ok (.iload 4, 2) := by decide +kernel
theorem dX3_feed_44 : decode cX3_feed 44 = .ok (.invokevirtual 82, 3) := by decide +kernel
theorem dX3_feed_47 : decode cX3_feed 47 = .ok (.aload_n 0, 1) := by decide +kernel
theorem dX3_feed_48 : decode cX3_feed 48 = .ok (.getfield 16, 3) := by decide +kernel
theorem dX3_feed_51 : decode cX3_feed 51 = .ok (.iload 5, 2) := by decide +kernel
theorem dX3_feed_53 : decode cX3_feed 53 = .ok (.invokevirtual 82, 3) := by decide +kernel
theorem dX3_feed_56 : decode cX3_feed 56 = .ok (.aload_n 0, 1) := by decide +kernel
theorem dX3_feed_57 : decode cX3_feed 57 = .ok (.getfield 16, 3) := by decide +kernel
theorem dX3_feed_60 : decode cX3_feed 60 = .ok (.getfield 81, 3) := by decide +kernel
theorem dX3_feed_63 : decode cX3_feed 63 = .ok (.ireturn, 1) := by decide +kernel
set_option maxRecDepth 20000 in
theorem ggX3_order_X3_checkOrderArguments : GoodIn wsX3_order wsX3_checkOrderArguments := goodIn_ca (goodIn_r _ [13, 14, 15, 5, 8, 16, 157, 158, 159, 160, 161, 162, 163, 164, 165, 166, 167, 168, 174, 175, 176, 177, 178, 179, 180] (by decide +kernel) (by decide +kernel)) (goodIn_sub (fun _ h => List.mem_cons_of_mem _ (List.mem_append_right _ h)) (by decide +kernel))
set_option maxRecDepth 20000 in
theorem gX3_order_X3_checkOrderArguments : GoodIn wsX3_order (wsV RX3 86 RX3 yX3_checkOrderArguments wsX3_checkOrderArguments) := goodIn_app (goodIn_of _ (by decide +kernel)) ggX3_order_X3_checkOrderArguments
set_option maxRecDepth 20000 in
theorem ggX3_order_X2_readHat : GoodIn wsX3_order wsX2_readHat := goodIn_r _ [21, 22, 23, 24, 25, 26, 27, 20, 28, 29, 30, 31, 32, 33, 34, 35, 36, 37, 38, 39, 40, 41, 42, 43, 44, 45, 46, 47, 48, 49, 50, 51, 52, 53, 54, 55, 56, 57, 58, 59, 60, 61, 62, 63, 64, 65, 66, 67, 68, 69, 70, 71, 72, 73, 74, 75, 76, 77, 78, 79, 80, 81, 82, 83, 84, 85, 86, 87, 88, 89, 90, 91, 92, 93, 94, 95, 96, 97, 98, 99, 100, 101, 102, 103, 104, 105, 106, 107, 108, 109, 110, 111, 112, 113, 114, 115, 116, 117, 118, 119, 120, 121, 174, 175, 176, 177, 178, 179, 180] (by decide +kernel) (by decide +kernel)
set_option maxRecDepth 20000 in
theorem gX3_order_X2_readHat : GoodIn wsX3_order (wsV RX3 90 RX2 yX2_readHat wsX2_readHat) := goodIn_app (goodIn_of _ (by decide +kernel)) ggX3_order_X2_readHat
set_option maxRecDepth 20000 in
theorem ggX3_order_X3_addOrder : GoodIn wsX3_order wsX3_addOrder := goodIn_r _ [125, 4, 126, 2, 127, 5, 128, 129, 130, 131, 132, 133, 134, 135, 136, 137, 138, 139, 140, 141, 142, 143, 20, 144, 145, 146, 147, 148, 23, 149, 150, 151, 152, 153, 154, 155, 156, 157, 158, 159, 160, 161, 162, 163, 164, 165, 166, 167, 168, 169, 170, 171, 172, 173, 174, 175, 176, 177, 178, 179, 180] (by decide +kernel) (by decide +kernel)
set_option maxRecDepth 20000 in
theorem gX3_order_X3_addOrder : GoodIn wsX3_order (wsV RX3 95 RX3 yX3_addOrder wsX3_addOrder) := goodIn_app (goodIn_of _ (by decide +kernel)) ggX3_order_X3_addOrder
theorem dX3_order_0 : decode cX3_order 0 = .ok (.aload_n 0, 1) := by decide +kernel
theorem dX3_order_1 : decode cX3_order 1 = .ok (.iload_n 1, 1) := by decide +kernel
theorem dX3_order_2 : decode cX3_order 2 = .ok (.iload_n 2, 1) := by decide +kernel
theorem dX3_order_3 : decode cX3_order 3 = .ok (.iload_n 3, 1) := by decide +kernel
theorem dX3_order_4 : decode cX3_order 4 = .ok (.invokevirtual 86, 3) := by decide +kernel
theorem dX3_order_7 : decode cX3_order 7 = .ok (.aload_n 0, 1) := by decide +kernel
theorem dX3_order_8 : decode cX3_order 8 = .ok (.getfield 39, 3) := by decide +kernel
theorem dX3_order_11 : decode cX3_order 11 = .ok (.bipush 12, 2) := by decide +kernel
theorem dX3_order_13 : decode cX3_order 13 = .ok (.if_icmp .ge 5, 3) := by decide +kernel
theorem dX3_order_16 : decode cX3_order 16 = .ok (.iconst (-1), 1) := by decide +kernel
theorem dX3_order_17 : decode cX3_order 17 = .ok (.ireturn, 1) := by decide +kernel
theorem dX3_order_18 : decode cX3_order 18 = .ok (.aload_n 0, 1) := by decide +kernel
theorem dX3_order_19 : decode cX3_order 19 = .ok (.getfield 23, 3) := by decide +kernel
theorem dX3_order_22 : decode cX3_order 22 = .ok (.getfield 69, 3) := by decide +kernel
theorem dX3_order_25 : decode cX3_order 25 = .ok (.ifCond .ne 6, 3) := by decide +kernel
theorem dX3_order_28 : decode cX3_order 28 = .ok (.bipush (-2), 2) := by decide +kernel
theorem dX3_order_30 : decode cX3_order 30 = .ok (.ireturn, 1) := by decide +kernel
theorem dX3_order_31 : decode cX3_order 31 = .ok (.aload_n 0, 1) := by decide +kernel
theorem dX3_order_32 : decode cX3_order 32 = .ok (.getfield 43, 3) := by decide +kernel
theorem dX3_order_35 : decode cX3_order 35 = .ok (.bipush 60, 2) := by decide +kernel
theorem dX3_order_37 : decode cX3_order 37 = .ok (.if_icmp .lt 6, 3) := by decide +kernel
theorem dX3_order_40 : decode cX3_order 40 = .ok (.bipush (-3), 2) := by decide +kernel
theorem dX3_order_42 : decode cX3_order 42 = .ok (.ireturn, 1) := by decide +kernel
theorem dX3_order_43 : decode cX3_order 43 = .ok (.aload_n 0, 1) := by decide +kernel
theorem dX3_order_44 : decode cX3_order 44 = .ok (.getfield 16, 3) := by decide +kernel
theorem dX3_order_47 : decode cX3_order 47 = .ok (.iload_n 1, 1) := by decide +kernel
theorem dX3_order_48 : decode cX3_order 48 = .ok (.invokevirtual 90, 3) := by decide +kernel
theorem dX3_order_51 : decode cX3_order 51 = .ok (.istore 4, 2) := by decide +kernel
theorem dX3_order_53 : decode cX3_order 53 = .ok (.aload_n 0, 1) := by decide +kernel
theorem dX3_order_54 : decode cX3_order 54 = .ok (.aload_n 0, 1) := by decide +kernel
theorem dX3_order_55 : decode cX3_order 55 = .ok (.getfield 16, 3) := by decide +kernel
theorem dX3_order_58 : decode cX3_order 58 = .ok (.getfield 94, 3) := by decide +kernel
theorem dX3_order_61 : decode cX3_order 61 = .ok (.putfield 55, 3) := by decide +kernel
theorem dX3_order_64 : decode cX3_order 64 = .ok (.aload_n 0, 1) := by decide +kernel
theorem dX3_order_65 : decode cX3_order 65 = .ok (.getfield 16, 3) := by decide +kernel
theorem dX3_order_68 : decode cX3_order 68 = .ok (.iconst 0, 1) := by decide +kernel
theorem dX3_order_69 : decode cX3_order 69 = .ok (.putfield 81, 3) := by decide +kernel
theorem dX3_order_72 : decode cX3_order 72 = .ok (.aload_n 0, 1) := by decide +kernel
theorem dX3_order_73 : decode cX3_order 73 = .ok (.iconst 0, 1) := by decide +kernel
theorem dX3_order_74 : decode cX3_order 74 = .ok (.putfield 39, 3) := by decide +kernel
theorem dX3_order_77 : decode cX3_order 77 = .ok (.iload 4, 2) := by decide +kernel
theorem dX3_order_79 : decode cX3_order 79 = .ok (.ifCond .eq 9, 3) := by decide +kernel
theorem dX3_order_82 : decode cX3_order 82 = .ok (.iload 4, 2) := by decide +kernel
theorem dX3_order_84 : decode cX3_order 84 = .ok (.bipush 10, 2) := by decide +kernel
theorem dX3_order_86 : decode cX3_order 86 = .ok (.isub, 1) := by decide +kernel
theorem dX3_order_87 : decode cX3_order 87 = .ok (.ireturn, 1) := by decide +kernel
theorem dX3_order_88 : decode cX3_order 88 = .ok (.aload_n 0, 1) := by decide +kernel
theorem dX3_order_89 : decode cX3_order 89 = .ok (.iload_n 2, 1) := by decide +kernel
theorem dX3_order_90 : decode cX3_order 90 = .ok (.iload_n 3, 1) := by decide +kernel
theorem dX3_order_91 : decode cX3_order 91 = .ok (.invokevirtual 95, 3) := by decide +kernel
theorem dX3_order_94 : decode cX3_order 94 = .ok (.ireturn, 1) := by decide +kernel
theorem dX3_fault_0 : decode cX3_fault 0 = .ok (.aload_n 0, 1) := by decide +kernel
theorem dX3_fault_1 : decode cX3_fault 1 = .ok (.getfield 55, 3) := by decide +kernel
theorem dX3_fault_4 : decode cX3_fault 4 = .ok (.ireturn, 1) := by decide +kernel
set_option maxRecDepth 20000 in
theorem ggX3_misfit_X3_checkBlock : GoodIn wsX3_misfit wsX3_checkBlock := goodIn_ca (goodIn_r _ [10, 11, 12, 4, 13, 20, 21, 22, 23, 24, 25, 26, 27, 28, 29, 30, 31, 32, 33, 34, 35, 36] (by decide +kernel) (by decide +kernel)) (goodIn_sub (fun _ h => List.mem_cons_of_mem _ (List.mem_append_right _ h)) (by decide +kernel))
set_option maxRecDepth 20000 in
theorem gX3_misfit_X3_checkBlock : GoodIn wsX3_misfit (wsV RX3 99 RX3 yX3_checkBlock wsX3_checkBlock) := goodIn_app (goodIn_of _ (by decide +kernel)) ggX3_misfit_X3_checkBlock
set_option maxRecDepth 20000 in
theorem ggX3_misfit_X0_misfitOf : GoodIn wsX3_misfit wsX0_misfitOf := goodIn_r _ [18, 19, 32, 33, 34, 35, 36] (by decide +kernel) (by decide +kernel)
set_option maxRecDepth 20000 in
theorem gX3_misfit_X0_misfitOf : GoodIn wsX3_misfit (wsV RX3 104 RX0 yX0_misfitOf wsX0_misfitOf) := goodIn_app (goodIn_of _ (by decide +kernel)) ggX3_misfit_X0_misfitOf
theorem dX3_misfit_0 : decode cX3_misfit 0 = .ok (.aload_n 0, 1) := by decide +kernel
theorem dX3_misfit_1 : decode cX3_misfit 1 = .ok (.iload_n 1, 1) := by decide +kernel
theorem dX3_misfit_2 : decode cX3_misfit 2 = .ok (.invokevirtual 99, 3) := by decide +kernel
theorem dX3_misfit_5 : decode cX3_misfit 5 = .ok (.iload_n 2, 1) := by decide +kernel
theorem dX3_misfit_6 : decode cX3_misfit 6 = .ok (.ifCond .lt 9, 3) := by decide +kernel
theorem dX3_misfit_9 : decode cX3_misfit 9 = .ok (.iload_n 2, 1) := by decide +kernel
theorem dX3_misfit_10 : decode cX3_misfit 10 = .ok (.bipush 12, 2) := by decide +kernel
theorem dX3_misfit_12 : decode cX3_misfit 12 = .ok (.if_icmp .lt 13, 3) := by decide +kernel
theorem dX3_misfit_15 : decode cX3_misfit 15 = .ok (.new 62, 3) := by decide +kernel
theorem dX3_misfit_18 : decode cX3_misfit 18 = .ok (.dup, 1) := by decide +kernel
theorem dX3_misfit_19 : decode cX3_misfit 19 = .ok (.ldc 102, 2) := by decide +kernel
theorem dX3_misfit_21 : decode cX3_misfit 21 = .ok (.invokespecial 66, 3) := by decide +kernel
theorem dX3_misfit_24 : decode cX3_misfit 24 = .ok (.athrow, 1) := by decide +kernel
theorem dX3_misfit_25 : decode cX3_misfit 25 = .ok (.aload_n 0, 1) := by decide +kernel
theorem dX3_misfit_26 : decode cX3_misfit 26 = .ok (.getfield 39, 3) := by decide +kernel
theorem dX3_misfit_29 : decode cX3_misfit 29 = .ok (.bipush 12, 2) := by decide +kernel
theorem dX3_misfit_31 : decode cX3_misfit 31 = .ok (.if_icmp .ge 5, 3) := by decide +kernel
theorem dX3_misfit_34 : decode cX3_misfit 34 = .ok (.iconst (-1), 1) := by decide +kernel
theorem dX3_misfit_35 : decode cX3_misfit 35 = .ok (.ireturn, 1) := by decide +kernel
theorem dX3_misfit_36 : decode cX3_misfit 36 = .ok (.aload_n 0, 1) := by decide +kernel
theorem dX3_misfit_37 : decode cX3_misfit 37 = .ok (.getfield 23, 3) := by decide +kernel
theorem dX3_misfit_40 : decode cX3_misfit 40 = .ok (.aload_n 0, 1) := by decide +kernel
theorem dX3_misfit_41 : decode cX3_misfit 41 = .ok (.getfield 9, 3) := by decide +kernel
theorem dX3_misfit_44 : decode cX3_misfit 44 = .ok (.iload_n 1, 1) := by decide +kernel
theorem dX3_misfit_45 : decode cX3_misfit 45 = .ok (.iload_n 2, 1) := by decide +kernel
theorem dX3_misfit_46 : decode cX3_misfit 46 = .ok (.invokevirtual 104, 3) := by decide +kernel
theorem dX3_misfit_49 : decode cX3_misfit 49 = .ok (.ireturn, 1) := by decide +kernel
set_option maxRecDepth 20000 in
theorem ggX3_told_X3_checkOrder : GoodIn wsX3_told wsX3_checkOrder := goodIn_ca (goodIn_r _ [8, 9, 10, 11, 25, 26, 27, 28, 29, 30, 31, 32, 33, 34, 35, 36] (by decide +kernel) (by decide +kernel)) (goodIn_sub (fun _ h => List.mem_cons_of_mem _ (List.mem_append_right _ h)) (by decide +kernel))
set_option maxRecDepth 20000 in
theorem gX3_told_X3_checkOrder : GoodIn wsX3_told (wsV RX3 108 RX3 yX3_checkOrder wsX3_checkOrder) := goodIn_app (goodIn_of _ (by decide +kernel)) ggX3_told_X3_checkOrder
set_option maxRecDepth 20000 in
theorem ggX3_told_X3_stateOf : GoodIn wsX3_told wsX3_stateOf := goodIn_r _ [15, 16, 17, 18, 7, 19, 3, 20, 21, 22, 23, 24, 25, 26, 27, 28, 29, 30, 31, 32, 33, 34, 35, 36] (by decide +kernel) (by decide +kernel)
set_option maxRecDepth 20000 in
theorem gX3_told_X3_stateOf : GoodIn wsX3_told (wsV RX3 113 RX3 yX3_stateOf wsX3_stateOf) := goodIn_app (goodIn_of _ (by decide +kernel)) ggX3_told_X3_stateOf
theorem dX3_told_0 : decode cX3_told 0 = .ok (.aload_n 0, 1) := by decide +kernel
theorem dX3_told_1 : decode cX3_told 1 = .ok (.iload_n 1, 1) := by decide +kernel
theorem dX3_told_2 : decode cX3_told 2 = .ok (.invokevirtual 108, 3) := by decide +kernel
theorem dX3_told_5 : decode cX3_told 5 = .ok (.iload_n 2, 1) := by decide +kernel
theorem dX3_told_6 : decode cX3_told 6 = .ok (.ifCond .lt 9, 3) := by decide +kernel
theorem dX3_told_9 : decode cX3_told 9 = .ok (.iload_n 2, 1) := by decide +kernel
theorem dX3_told_10 : decode cX3_told 10 = .ok (.bipush 11, 2) := by decide +kernel
theorem dX3_told_12 : decode cX3_told 12 = .ok (.if_icmp .le 13, 3) := by decide +kernel
theorem dX3_told_15 : decode cX3_told 15 = .ok (.new 62, 3) := by decide +kernel
theorem dX3_told_18 : decode cX3_told 18 = .ok (.dup, 1) := by decide +kernel
theorem dX3_told_19 : decode cX3_told 19 = .ok (.ldc 111, 2) := by decide +kernel
theorem dX3_told_21 : decode cX3_told 21 = .ok (.invokespecial 66, 3) := by decide +kernel
theorem dX3_told_24 : decode cX3_told 24 = .ok (.athrow, 1) := by decide +kernel
theorem dX3_told_25 : decode cX3_told 25 = .ok (.iload_n 2, 1) := by decide +kernel
theorem dX3_told_26 : decode cX3_told 26 = .ok (.bipush 8, 2) := by decide +kernel
theorem dX3_told_28 : decode cX3_told 28 = .ok (.if_icmp .ne 11, 3) := by decide +kernel
theorem dX3_told_31 : decode cX3_told 31 = .ok (.aload_n 0, 1) := by decide +kernel
theorem dX3_told_32 : decode cX3_told 32 = .ok (.iload_n 1, 1) := by decide +kernel
theorem dX3_told_33 : decode cX3_told 33 = .ok (.invokevirtual 113, 3) := by decide +kernel
theorem dX3_told_36 : decode cX3_told 36 = .ok (.goto 11, 3) := by decide +kernel
theorem dX3_told_39 : decode cX3_told 39 = .ok (.aload_n 0, 1) := by decide +kernel
theorem dX3_told_40 : decode cX3_told 40 = .ok (.getfield 29, 3) := by decide +kernel
theorem dX3_told_43 : decode cX3_told 43 = .ok (.iload_n 1, 1) := by decide +kernel
theorem dX3_told_44 : decode cX3_told 44 = .ok (.aaload, 1) := by decide +kernel
theorem dX3_told_45 : decode cX3_told 45 = .ok (.iload_n 2, 1) := by decide +kernel
theorem dX3_told_46 : decode cX3_told 46 = .ok (.iaload, 1) := by decide +kernel
theorem dX3_told_47 : decode cX3_told 47 = .ok (.ireturn, 1) := by decide +kernel
set_option maxRecDepth 20000 in
theorem ggX3_go_X3_checkOrder : GoodIn wsX3_go wsX3_checkOrder := goodIn_ca (goodIn_r _ [5, 6, 7, 8, 37, 38, 39, 40, 41, 42, 43, 44, 45, 46, 47, 48] (by decide +kernel) (by decide +kernel)) (goodIn_sub (fun _ h => List.mem_cons_of_mem _ (List.mem_append_right _ h)) (by decide +kernel))
set_option maxRecDepth 20000 in
theorem gX3_go_X3_checkOrder : GoodIn wsX3_go (wsV RX3 108 RX3 yX3_checkOrder wsX3_checkOrder) := goodIn_app (goodIn_of _ (by decide +kernel)) ggX3_go_X3_checkOrder
set_option maxRecDepth 20000 in
theorem ggX3_go_X3_isWaiting : GoodIn wsX3_go wsX3_isWaiting := goodIn_r _ [12, 13, 37, 38, 39, 40, 41, 42, 43, 44, 45, 46, 47, 48] (by decide +kernel) (by decide +kernel)
set_option maxRecDepth 20000 in
theorem gX3_go_X3_isWaiting : GoodIn wsX3_go (wsV RX3 116 RX3 yX3_isWaiting wsX3_isWaiting) := goodIn_app (goodIn_of _ (by decide +kernel)) ggX3_go_X3_isWaiting
set_option maxRecDepth 20000 in
theorem ggX3_go_X3_send : GoodIn wsX3_go wsX3_send := goodIn_r _ [17, 13, 18, 19, 20, 21, 22, 23, 24, 25, 26, 27, 4, 28, 29, 30, 31, 32, 33, 34, 35, 36, 37, 38, 39, 40, 41, 42, 43, 44, 45, 46, 47, 48, 49, 50, 51, 52, 53] (by decide +kernel) (by decide +kernel)
set_option maxRecDepth 20000 in
theorem gX3_go_X3_send : GoodIn wsX3_go (wsV RX3 120 RX3 yX3_send wsX3_send) := goodIn_app (goodIn_of _ (by decide +kernel)) ggX3_go_X3_send
theorem dX3_go_0 : decode cX3_go 0 = .ok (.aload_n 0, 1) := by decide +kernel
theorem dX3_go_1 : decode cX3_go 1 = .ok (.iload_n 1, 1) := by decide +kernel
theorem dX3_go_2 : decode cX3_go 2 = .ok (.invokevirtual 108, 3) := by decide +kernel
theorem dX3_go_5 : decode cX3_go 5 = .ok (.aload_n 0, 1) := by decide +kernel
theorem dX3_go_6 : decode cX3_go 6 = .ok (.iload_n 1, 1) := by decide +kernel
theorem dX3_go_7 : decode cX3_go 7 = .ok (.invokevirtual 116, 3) := by decide +kernel
theorem dX3_go_10 : decode cX3_go 10 = .ok (.ifCond .ne 5, 3) := by decide +kernel
theorem dX3_go_13 : decode cX3_go 13 = .ok (.iconst (-1), 1) := by decide +kernel
theorem dX3_go_14 : decode cX3_go 14 = .ok (.ireturn, 1) := by decide +kernel
theorem dX3_go_15 : decode cX3_go 15 = .ok (.aload_n 0, 1) := by decide +kernel
theorem dX3_go_16 : decode cX3_go 16 = .ok (.iload_n 1, 1) := by decide +kernel
theorem dX3_go_17 : decode cX3_go 17 = .ok (.invokevirtual 120, 3) := by decide +kernel
theorem dX3_go_20 : decode cX3_go 20 = .ok (.ireturn, 1) := by decide +kernel
theorem dX3_wait_0 : decode cX3_wait 0 = .ok (.iload_n 1, 1) := by decide +kernel
theorem dX3_wait_1 : decode cX3_wait 1 = .ok (.ifCond .lt 10, 3) := by decide +kernel
theorem dX3_wait_4 : decode cX3_wait 4 = .ok (.iload_n 1, 1) := by decide +kernel
theorem dX3_wait_5 : decode cX3_wait 5 = .ok (.sipush 10000, 3) := by decide +kernel
theorem dX3_wait_8 : decode cX3_wait 8 = .ok (.if_icmp .le 13, 3) := by decide +kernel
theorem dX3_wait_11 : decode cX3_wait 11 = .ok (.new 62, 3) := by decide +kernel
theorem dX3_wait_14 : decode cX3_wait 14 = .ok (.dup, 1) := by decide +kernel
theorem dX3_wait_15 : decode cX3_wait 15 = .ok (.ldc 123, 2) := by decide +kernel
theorem dX3_wait_17 : decode cX3_wait 17 = .ok (.invokespecial 66, 3) := by decide +kernel
theorem dX3_wait_20 : decode cX3_wait 20 = .ok (.athrow, 1) := by decide +kernel
theorem dX3_wait_21 : decode cX3_wait 21 = .ok (.aload_n 0, 1) := by decide +kernel
theorem dX3_wait_22 : decode cX3_wait 22 = .ok (.getfield 46, 3) := by decide +kernel
theorem dX3_wait_25 : decode cX3_wait 25 = .ok (.iload_n 1, 1) := by decide +kernel
theorem dX3_wait_26 : decode cX3_wait 26 = .ok (.iadd, 1) := by decide +kernel
theorem dX3_wait_27 : decode cX3_wait 27 = .ok (.ldc 125, 2) := by decide +kernel
theorem dX3_wait_29 : decode cX3_wait 29 = .ok (.if_icmp .le 13, 3) := by decide +kernel
theorem dX3_wait_32 : decode cX3_wait 32 = .ok (.new 62, 3) := by decide +kernel
theorem dX3_wait_35 : decode cX3_wait 35 = .ok (.dup, 1) := by decide +kernel
theorem dX3_wait_36 : decode cX3_wait 36 = .ok (.ldc 126, 2) := by decide +kernel
theorem dX3_wait_38 : decode cX3_wait 38 = .ok (.invokespecial 66, 3) := by decide +kernel
theorem dX3_wait_41 : decode cX3_wait 41 = .ok (.athrow, 1) := by decide +kernel
theorem dX3_wait_42 : decode cX3_wait 42 = .ok (.aload_n 0, 1) := by decide +kernel
theorem dX3_wait_43 : decode cX3_wait 43 = .ok (.dup, 1) := by decide +kernel
theorem dX3_wait_44 : decode cX3_wait 44 = .ok (.getfield 46, 3) := by decide +kernel
theorem dX3_wait_47 : decode cX3_wait 47 = .ok (.iload_n 1, 1) := by decide +kernel
theorem dX3_wait_48 : decode cX3_wait 48 = .ok (.iadd, 1) := by decide +kernel
theorem dX3_wait_49 : decode cX3_wait 49 = .ok (.putfield 46, 3) := by decide +kernel
theorem dX3_wait_52 : decode cX3_wait 52 = .ok (.aload_n 0, 1) := by decide +kernel
theorem dX3_wait_53 : decode cX3_wait 53 = .ok (.iconst 0, 1) := by decide +kernel
theorem dX3_wait_54 : decode cX3_wait 54 = .ok (.putfield 58, 3) := by decide +kernel
theorem dX3_wait_57 : decode cX3_wait 57 = .ok (.aload_n 0, 1) := by decide +kernel
theorem dX3_wait_58 : decode cX3_wait 58 = .ok (.getfield 46, 3) := by decide +kernel
theorem dX3_wait_61 : decode cX3_wait 61 = .ok (.ireturn, 1) := by decide +kernel
set_option maxRecDepth 20000 in
theorem ggX3_plan_X3_findBest : GoodIn wsX3_plan wsX3_findBest := goodIn_r _ [6, 7, 1, 8, 9, 10, 11, 12, 13, 14, 15, 16, 17, 18, 19, 20, 21, 22, 23, 24, 25, 5, 26, 27, 28, 29, 30, 31, 32, 33, 34, 35, 36, 37, 38, 39, 40, 41, 42, 43, 44, 45, 46, 47, 48, 49, 50, 51, 52, 53, 54, 55, 56, 57, 58, 59, 60, 61, 62, 67, 68, 69, 70, 71, 72, 73, 74, 75, 76, 77, 78, 79, 80, 81, 82, 83, 84, 85, 86, 87, 88, 89, 90, 91, 92, 93, 94, 95] (by decide +kernel) (by decide +kernel)
set_option maxRecDepth 20000 in
theorem gX3_plan_X3_findBest : GoodIn wsX3_plan (wsV RX3 128 RX3 yX3_findBest wsX3_findBest) := goodIn_app (goodIn_of _ (by decide +kernel)) ggX3_plan_X3_findBest
set_option maxRecDepth 20000 in
theorem ggX3_plan_X1_bestCost : GoodIn wsX3_plan wsX1_bestCost := goodIn_r _ [66, 21, 42, 84, 85, 86, 87, 88, 89, 90, 91, 92, 93, 94, 95] (by decide +kernel) (by decide +kernel)
set_option maxRecDepth 20000 in
theorem gX3_plan_X1_bestCost : GoodIn wsX3_plan (wsV RX3 131 RX1 yX1_bestCost wsX1_bestCost) := goodIn_app (goodIn_of _ (by decide +kernel)) ggX3_plan_X1_bestCost
theorem dX3_plan_0 : decode cX3_plan 0 = .ok (.aload_n 0, 1) := by decide +kernel
theorem dX3_plan_1 : decode cX3_plan 1 = .ok (.invokevirtual 128, 3) := by decide +kernel
theorem dX3_plan_4 : decode cX3_plan 4 = .ok (.aload_n 0, 1) := by decide +kernel
theorem dX3_plan_5 : decode cX3_plan 5 = .ok (.getfield 35, 3) := by decide +kernel
theorem dX3_plan_8 : decode cX3_plan 8 = .ok (.invokevirtual 131, 3) := by decide +kernel
theorem dX3_plan_11 : decode cX3_plan 11 = .ok (.lreturn, 1) := by decide +kernel
set_option maxRecDepth 20000 in
theorem ggX3_planned_X3_findBest : GoodIn wsX3_planned wsX3_findBest := goodIn_r _ [6, 7, 1, 8, 9, 10, 11, 12, 13, 14, 15, 16, 17, 18, 19, 20, 21, 22, 23, 24, 25, 5, 26, 27, 28, 29, 30, 31, 32, 33, 34, 35, 36, 37, 38, 39, 40, 41, 42, 43, 44, 45, 46, 47, 48, 49, 50, 51, 52, 53, 54, 55, 56, 57, 58, 59, 60, 61, 62, 67, 68, 69, 70, 71, 72, 73, 74, 75, 76, 77, 78, 79, 80, 81, 82, 83, 84, 85, 86, 87, 88, 89, 90, 91, 92, 93, 94, 95] (by decide +kernel) (by decide +kernel)
set_option maxRecDepth 20000 in
theorem gX3_planned_X3_findBest : GoodIn wsX3_planned (wsV RX3 128 RX3 yX3_findBest wsX3_findBest) := goodIn_app (goodIn_of _ (by decide +kernel)) ggX3_planned_X3_findBest
set_option maxRecDepth 20000 in
theorem ggX3_planned_X1_bestAt : GoodIn wsX3_planned wsX1_bestAt := goodIn_r _ [66, 21, 31, 51, 84, 85, 86, 87, 88, 89, 90, 91, 92, 93, 94, 95] (by decide +kernel) (by decide +kernel)
set_option maxRecDepth 20000 in
theorem gX3_planned_X1_bestAt : GoodIn wsX3_planned (wsV RX3 135 RX1 yX1_bestAt wsX1_bestAt) := goodIn_app (goodIn_of _ (by decide +kernel)) ggX3_planned_X1_bestAt
theorem dX3_planned_0 : decode cX3_planned 0 = .ok (.aload_n 0, 1) := by decide +kernel
theorem dX3_planned_1 : decode cX3_planned 1 = .ok (.invokevirtual 128, 3) := by decide +kernel
theorem dX3_planned_4 : decode cX3_planned 4 = .ok (.aload_n 0, 1) := by decide +kernel
theorem dX3_planned_5 : decode cX3_planned 5 = .ok (.getfield 35, 3) := by decide +kernel
theorem dX3_planned_8 : decode cX3_planned 8 = .ok (.iload_n 1, 1) := by decide +kernel
theorem dX3_planned_9 : decode cX3_planned 9 = .ok (.invokevirtual 135, 3) := by decide +kernel
theorem dX3_planned_12 : decode cX3_planned 12 = .ok (.ireturn, 1) := by decide +kernel
set_option maxRecDepth 20000 in
theorem ggX3_run_X3_findBest : GoodIn wsX3_run wsX3_findBest := goodIn_r _ [7, 8, 1, 9, 10, 11, 12, 2, 13, 14, 15, 16, 17, 18, 19, 20, 21, 22, 23, 24, 25, 6, 26, 27, 28, 29, 30, 31, 32, 33, 34, 35, 36, 37, 38, 39, 40, 41, 42, 43, 44, 45, 46, 47, 48, 49, 50, 51, 52, 53, 54, 55, 56, 57, 58, 59, 60, 61, 62, 79, 80, 81, 82, 83, 84, 85, 86, 87, 88, 89, 90, 103, 104, 105, 106, 107, 91, 92, 93, 94, 95, 96, 97, 98, 99, 100, 101, 102] (by decide +kernel) (by decide +kernel)
set_option maxRecDepth 20000 in
theorem gX3_run_X3_findBest : GoodIn wsX3_run (wsV RX3 128 RX3 yX3_findBest wsX3_findBest) := goodIn_app (goodIn_of _ (by decide +kernel)) ggX3_run_X3_findBest
set_option maxRecDepth 20000 in
theorem ggX3_run_X1_bestAt : GoodIn wsX3_run wsX1_bestAt := goodIn_r _ [66, 21, 31, 51, 91, 92, 93, 94, 95, 96, 97, 98, 99, 100, 101, 102] (by decide +kernel) (by decide +kernel)
set_option maxRecDepth 20000 in
theorem gX3_run_X1_bestAt : GoodIn wsX3_run (wsV RX3 135 RX1 yX1_bestAt wsX1_bestAt) := goodIn_app (goodIn_of _ (by decide +kernel)) ggX3_run_X1_bestAt
set_option maxRecDepth 20000 in
theorem ggX3_run_X3_send : GoodIn wsX3_run wsX3_send := goodIn_r _ [70, 13, 9, 14, 10, 11, 71, 72, 73, 8, 74, 57, 6, 58, 59, 60, 61, 62, 75, 76, 77, 78, 79, 80, 81, 82, 83, 84, 85, 86, 87, 88, 89, 90, 103, 104, 105, 106, 107] (by decide +kernel) (by decide +kernel)
set_option maxRecDepth 20000 in
theorem gX3_run_X3_send : GoodIn wsX3_run (wsV RX3 120 RX3 yX3_send wsX3_send) := goodIn_app (goodIn_of _ (by decide +kernel)) ggX3_run_X3_send
theorem dX3_run_0 : decode cX3_run 0 = .ok (.aload_n 0, 1) := by decide +kernel
theorem dX3_run_1 : decode cX3_run 1 = .ok (.invokevirtual 128, 3) := by decide +kernel
theorem dX3_run_4 : decode cX3_run 4 = .ok (.aload_n 0, 1) := by decide +kernel
theorem dX3_run_5 : decode cX3_run 5 = .ok (.getfield 35, 3) := by decide +kernel
theorem dX3_run_8 : decode cX3_run 8 = .ok (.getfield 138, 3) := by decide +kernel
theorem dX3_run_11 : decode cX3_run 11 = .ok (.istore_n 1, 1) := by decide +kernel
theorem dX3_run_12 : decode cX3_run 12 = .ok (.iconst 0, 1) := by decide +kernel
theorem dX3_run_13 : decode cX3_run 13 = .ok (.istore_n 2, 1) := by decide +kernel
theorem dX3_run_14 : decode cX3_run 14 = .ok (.iload_n 2, 1) := by decide +kernel
theorem dX3_run_15 : decode cX3_run 15 = .ok (.iload_n 1, 1) := by decide +kernel
theorem dX3_run_16 : decode cX3_run 16 = .ok (.if_icmp .ge 22, 3) := by decide +kernel
theorem dX3_run_19 : decode cX3_run 19 = .ok (.aload_n 0, 1) := by decide +kernel
theorem dX3_run_20 : decode cX3_run 20 = .ok (.aload_n 0, 1) := by decide +kernel
theorem dX3_run_21 : decode cX3_run 21 = .ok (.getfield 35, 3) := by decide +kernel
theorem dX3_run_24 : decode cX3_run 24 = .ok (.iload_n 2, 1) := by decide +kernel
theorem dX3_run_25 : decode cX3_run 25 = .ok (.invokevirtual 135, 3) := by decide +kernel
theorem dX3_run_28 : decode cX3_run 28 = .ok (.invokevirtual 120, 3) := by decide +kernel
theorem dX3_run_31 : decode cX3_run 31 = .ok (.pop, 1) := by decide +kernel
theorem dX3_run_32 : decode cX3_run 32 = .ok (.iinc 2 1, 3) := by decide +kernel
theorem dX3_run_35 : decode cX3_run 35 = .ok (.goto (-21), 3) := by decide +kernel
theorem dX3_run_38 : decode cX3_run 38 = .ok (.iload_n 1, 1) := by decide +kernel
theorem dX3_run_39 : decode cX3_run 39 = .ok (.ireturn, 1) := by decide +kernel
set_option maxRecDepth 20000 in
theorem ggX3_late_X3_isLate : GoodIn wsX3_late wsX3_isLate := goodIn_r _ [6, 7, 8, 9, 10, 11, 5, 12, 13, 14, 15, 16, 17, 18, 19, 20, 21, 22, 23, 24] (by decide +kernel) (by decide +kernel)
set_option maxRecDepth 20000 in
theorem gX3_late_X3_isLate : GoodIn wsX3_late (wsV RX3 139 RX3 yX3_isLate wsX3_isLate) := goodIn_app (goodIn_of _ (by decide +kernel)) ggX3_late_X3_isLate
theorem dX3_late_0 : decode cX3_late 0 = .ok (.iconst 0, 1) := by decide +kernel
theorem dX3_late_1 : decode cX3_late 1 = .ok (.istore_n 2, 1) := by decide +kernel
theorem dX3_late_2 : decode cX3_late 2 = .ok (.iconst 0, 1) := by decide +kernel
theorem dX3_late_3 : decode cX3_late 3 = .ok (.istore_n 3, 1) := by decide +kernel
theorem dX3_late_4 : decode cX3_late 4 = .ok (.iload_n 3, 1) := by decide +kernel
theorem dX3_late_5 : decode cX3_late 5 = .ok (.aload_n 0, 1) := by decide +kernel
theorem dX3_late_6 : decode cX3_late 6 = .ok (.getfield 43, 3) := by decide +kernel
theorem dX3_late_9 : decode cX3_late 9 = .ok (.if_icmp .ge 27, 3) := by decide +kernel
theorem dX3_late_12 : decode cX3_late 12 = .ok (.aload_n 0, 1) := by decide +kernel
theorem dX3_late_13 : decode cX3_late 13 = .ok (.iload_n 3, 1) := by decide +kernel
theorem dX3_late_14 : decode cX3_late 14 = .ok (.invokevirtual 139, 3) := by decide +kernel
theorem dX3_late_17 : decode cX3_late 17 = .ok (.ifCond .eq 13, 3) := by decide +kernel
theorem dX3_late_20 : decode cX3_late 20 = .ok (.iload_n 2, 1) := by decide +kernel
theorem dX3_late_21 : decode cX3_late 21 = .ok (.iload_n 1, 1) := by decide +kernel
theorem dX3_late_22 : decode cX3_late 22 = .ok (.if_icmp .ne 5, 3) := by decide +kernel
theorem dX3_late_25 : decode cX3_late 25 = .ok (.iload_n 3, 1) := by decide +kernel
theorem dX3_late_26 : decode cX3_late 26 = .ok (.ireturn, 1) := by decide +kernel
theorem dX3_late_27 : decode cX3_late 27 = .ok (.iinc 2 1, 3) := by decide +kernel
theorem dX3_late_30 : decode cX3_late 30 = .ok (.iinc 3 1, 3) := by decide +kernel
theorem dX3_late_33 : decode cX3_late 33 = .ok (.goto (-29), 3) := by decide +kernel
theorem dX3_late_36 : decode cX3_late 36 = .ok (.iconst (-1), 1) := by decide +kernel
theorem dX3_late_37 : decode cX3_late 37 = .ok (.ireturn, 1) := by decide +kernel
set_option maxRecDepth 20000 in
theorem ggX3_fit_X3_checkOrder : GoodIn wsX3_fit wsX3_checkOrder := goodIn_ca (goodIn_r _ [10, 11, 12, 13, 23, 24, 25, 26, 27, 28, 29, 30, 31, 32, 33, 34] (by decide +kernel) (by decide +kernel)) (goodIn_sub (fun _ h => List.mem_cons_of_mem _ (List.mem_append_right _ h)) (by decide +kernel))
set_option maxRecDepth 20000 in
theorem gX3_fit_X3_checkOrder : GoodIn wsX3_fit (wsV RX3 108 RX3 yX3_checkOrder wsX3_checkOrder) := goodIn_app (goodIn_of _ (by decide +kernel)) ggX3_fit_X3_checkOrder
set_option maxRecDepth 20000 in
theorem ggX3_fit_X3_isDone : GoodIn wsX3_fit wsX3_isDone := goodIn_r _ [17, 18, 3, 19, 20, 21, 9, 22, 23, 24, 25, 26, 27, 28, 29, 30, 31, 32, 33, 34] (by decide +kernel) (by decide +kernel)
set_option maxRecDepth 20000 in
theorem gX3_fit_X3_isDone : GoodIn wsX3_fit (wsV RX3 144 RX3 yX3_isDone wsX3_isDone) := goodIn_app (goodIn_of _ (by decide +kernel)) ggX3_fit_X3_isDone
theorem dX3_fit_0 : decode cX3_fit 0 = .ok (.aload_n 0, 1) := by decide +kernel
theorem dX3_fit_1 : decode cX3_fit 1 = .ok (.iload_n 1, 1) := by decide +kernel
theorem dX3_fit_2 : decode cX3_fit 2 = .ok (.invokevirtual 108, 3) := by decide +kernel
theorem dX3_fit_5 : decode cX3_fit 5 = .ok (.iload_n 2, 1) := by decide +kernel
theorem dX3_fit_6 : decode cX3_fit 6 = .ok (.bipush (-2), 2) := by decide +kernel
theorem dX3_fit_8 : decode cX3_fit 8 = .ok (.if_icmp .lt 8, 3) := by decide +kernel
theorem dX3_fit_11 : decode cX3_fit 11 = .ok (.iload_n 2, 1) := by decide +kernel
theorem dX3_fit_12 : decode cX3_fit 12 = .ok (.iconst 2, 1) := by decide +kernel
theorem dX3_fit_13 : decode cX3_fit 13 = .ok (.if_icmp .le 13, 3) := by decide +kernel
theorem dX3_fit_16 : decode cX3_fit 16 = .ok (.new 62, 3) := by decide +kernel
theorem dX3_fit_19 : decode cX3_fit 19 = .ok (.dup, 1) := by decide +kernel
theorem dX3_fit_20 : decode cX3_fit 20 = .ok (.ldc 142, 2) := by decide +kernel
theorem dX3_fit_22 : decode cX3_fit 22 = .ok (.invokespecial 66, 3) := by decide +kernel
theorem dX3_fit_25 : decode cX3_fit 25 = .ok (.athrow, 1) := by decide +kernel
theorem dX3_fit_26 : decode cX3_fit 26 = .ok (.aload_n 0, 1) := by decide +kernel
theorem dX3_fit_27 : decode cX3_fit 27 = .ok (.iload_n 1, 1) := by decide +kernel
theorem dX3_fit_28 : decode cX3_fit 28 = .ok (.invokevirtual 144, 3) := by decide +kernel
theorem dX3_fit_31 : decode cX3_fit 31 = .ok (.ifCond .ne 5, 3) := by decide +kernel
theorem dX3_fit_34 : decode cX3_fit 34 = .ok (.iconst (-1), 1) := by decide +kernel
theorem dX3_fit_35 : decode cX3_fit 35 = .ok (.ireturn, 1) := by decide +kernel
theorem dX3_fit_36 : decode cX3_fit 36 = .ok (.aload_n 0, 1) := by decide +kernel
theorem dX3_fit_37 : decode cX3_fit 37 = .ok (.getfield 29, 3) := by decide +kernel
theorem dX3_fit_40 : decode cX3_fit 40 = .ok (.iload_n 1, 1) := by decide +kernel
theorem dX3_fit_41 : decode cX3_fit 41 = .ok (.aaload, 1) := by decide +kernel
theorem dX3_fit_42 : decode cX3_fit 42 = .ok (.astore_n 3, 1) := by decide +kernel
theorem dX3_fit_43 : decode cX3_fit 43 = .ok (.aload_n 3, 1) := by decide +kernel
theorem dX3_fit_44 : decode cX3_fit 44 = .ok (.bipush 12, 2) := by decide +kernel
theorem dX3_fit_46 : decode cX3_fit 46 = .ok (.iaload, 1) := by decide +kernel
theorem dX3_fit_47 : decode cX3_fit 47 = .ok (.ifCond .eq 5, 3) := by decide +kernel
theorem dX3_fit_50 : decode cX3_fit 50 = .ok (.iconst 0, 1) := by decide +kernel
theorem dX3_fit_51 : decode cX3_fit 51 = .ok (.ireturn, 1) := by decide +kernel
theorem dX3_fit_52 : decode cX3_fit 52 = .ok (.aload_n 3, 1) := by decide +kernel
theorem dX3_fit_53 : decode cX3_fit 53 = .ok (.bipush 12, 2) := by decide +kernel
theorem dX3_fit_55 : decode cX3_fit 55 = .ok (.iconst 1, 1) := by decide +kernel
theorem dX3_fit_56 : decode cX3_fit 56 = .ok (.iastore, 1) := by decide +kernel
theorem dX3_fit_57 : decode cX3_fit 57 = .ok (.aload_n 0, 1) := by decide +kernel
theorem dX3_fit_58 : decode cX3_fit 58 = .ok (.getfield 23, 3) := by decide +kernel
theorem dX3_fit_61 : decode cX3_fit 61 = .ok (.getfield 147, 3) := by decide +kernel
theorem dX3_fit_64 : decode cX3_fit 64 = .ok (.aload_n 3, 1) := by decide +kernel
theorem dX3_fit_65 : decode cX3_fit 65 = .ok (.iconst 0, 1) := by decide +kernel
theorem dX3_fit_66 : decode cX3_fit 66 = .ok (.iaload, 1) := by decide +kernel
theorem dX3_fit_67 : decode cX3_fit 67 = .ok (.aaload, 1) := by decide +kernel
theorem dX3_fit_68 : decode cX3_fit 68 = .ok (.astore 4, 2) := by decide +kernel
theorem dX3_fit_70 : decode cX3_fit 70 = .ok (.aload 4, 2) := by decide +kernel
theorem dX3_fit_72 : decode cX3_fit 72 = .ok (.iconst 1, 1) := by decide +kernel
theorem dX3_fit_73 : decode cX3_fit 73 = .ok (.dup2, 1) := by decide +kernel
theorem dX3_fit_74 : decode cX3_fit 74 = .ok (.iaload, 1) := by decide +kernel
theorem dX3_fit_75 : decode cX3_fit 75 = .ok (.iconst 1, 1) := by decide +kernel
theorem dX3_fit_76 : decode cX3_fit 76 = .ok (.iadd, 1) := by decide +kernel
theorem dX3_fit_77 : decode cX3_fit 77 = .ok (.iastore, 1) := by decide +kernel
theorem dX3_fit_78 : decode cX3_fit 78 = .ok (.aload 4, 2) := by decide +kernel
theorem dX3_fit_80 : decode cX3_fit 80 = .ok (.iconst 2, 1) := by decide +kernel
theorem dX3_fit_81 : decode cX3_fit 81 = .ok (.dup2, 1) := by decide +kernel
theorem dX3_fit_82 : decode cX3_fit 82 = .ok (.iaload, 1) := by decide +kernel
theorem dX3_fit_83 : decode cX3_fit 83 = .ok (.iload_n 2, 1) := by decide +kernel
theorem dX3_fit_84 : decode cX3_fit 84 = .ok (.iadd, 1) := by decide +kernel
theorem dX3_fit_85 : decode cX3_fit 85 = .ok (.iastore, 1) := by decide +kernel
theorem dX3_fit_86 : decode cX3_fit 86 = .ok (.iconst 1, 1) := by decide +kernel
theorem dX3_fit_87 : decode cX3_fit 87 = .ok (.ireturn, 1) := by decide +kernel
set_option maxRecDepth 20000 in
theorem ggX3_wear_X3_checkBlock : GoodIn wsX3_wear wsX3_checkBlock := goodIn_ca (goodIn_r _ [9, 10, 11, 3, 12, 13, 14, 15, 16, 17, 18, 19, 20, 21, 22, 23, 24, 25, 26, 27, 28, 29] (by decide +kernel) (by decide +kernel)) (goodIn_sub (fun _ h => List.mem_cons_of_mem _ (List.mem_append_right _ h)) (by decide +kernel))
set_option maxRecDepth 20000 in
theorem gX3_wear_X3_checkBlock : GoodIn wsX3_wear (wsV RX3 99 RX3 yX3_checkBlock wsX3_checkBlock) := goodIn_app (goodIn_of _ (by decide +kernel)) ggX3_wear_X3_checkBlock
theorem dX3_wear_0 : decode cX3_wear 0 = .ok (.aload_n 0, 1) := by decide +kernel
theorem dX3_wear_1 : decode cX3_wear 1 = .ok (.iload_n 1, 1) := by decide +kernel
theorem dX3_wear_2 : decode cX3_wear 2 = .ok (.invokevirtual 99, 3) := by decide +kernel
theorem dX3_wear_5 : decode cX3_wear 5 = .ok (.iload_n 2, 1) := by decide +kernel
theorem dX3_wear_6 : decode cX3_wear 6 = .ok (.ifCond .lt 8, 3) := by decide +kernel
theorem dX3_wear_9 : decode cX3_wear 9 = .ok (.iload_n 2, 1) := by decide +kernel
theorem dX3_wear_10 : decode cX3_wear 10 = .ok (.iconst 2, 1) := by decide +kernel
theorem dX3_wear_11 : decode cX3_wear 11 = .ok (.if_icmp .le 13, 3) := by decide +kernel
theorem dX3_wear_14 : decode cX3_wear 14 = .ok (.new 62, 3) := by decide +kernel
theorem dX3_wear_17 : decode cX3_wear 17 = .ok (.dup, 1) := by decide +kernel
theorem dX3_wear_18 : decode cX3_wear 18 = .ok (.ldc 150, 2) := by decide +kernel
theorem dX3_wear_20 : decode cX3_wear 20 = .ok (.invokespecial 66, 3) := by decide +kernel
theorem dX3_wear_23 : decode cX3_wear 23 = .ok (.athrow, 1) := by decide +kernel
theorem dX3_wear_24 : decode cX3_wear 24 = .ok (.aload_n 0, 1) := by decide +kernel
theorem dX3_wear_25 : decode cX3_wear 25 = .ok (.getfield 23, 3) := by decide +kernel
theorem dX3_wear_28 : decode cX3_wear 28 = .ok (.getfield 147, 3) := by decide +kernel
theorem dX3_wear_31 : decode cX3_wear 31 = .ok (.iload_n 1, 1) := by decide +kernel
theorem dX3_wear_32 : decode cX3_wear 32 = .ok (.aaload, 1) := by decide +kernel
theorem dX3_wear_33 : decode cX3_wear 33 = .ok (.iload_n 2, 1) := by decide +kernel
theorem dX3_wear_34 : decode cX3_wear 34 = .ok (.iaload, 1) := by decide +kernel
theorem dX3_wear_35 : decode cX3_wear 35 = .ok (.ireturn, 1) := by decide +kernel
set_option maxRecDepth 20000 in
theorem ggX3_count_X3_countWaiting : GoodIn wsX3_count wsX3_countWaiting := goodIn_r _ [13, 3, 14, 15, 16, 12, 17, 18, 19, 20, 21, 22, 23, 24, 25, 26, 27, 28, 29, 30] (by decide +kernel) (by decide +kernel)
set_option maxRecDepth 20000 in
theorem gX3_count_X3_countWaiting : GoodIn wsX3_count (wsV RX3 152 RX3 yX3_countWaiting wsX3_countWaiting) := goodIn_app (goodIn_of _ (by decide +kernel)) ggX3_count_X3_countWaiting
theorem dX3_count_0 : decode cX3_count 0 = .ok (.iload_n 1, 1) := by decide +kernel
theorem dX3_count_1 : decode cX3_count 1 = .ok (.tableswitch 84 0 6 #[43, 51, 56, 61, 66, 71, 79], 43) := by decide +kernel
theorem dX3_count_44 : decode cX3_count 44 = .ok (.aload_n 0, 1) := by decide +kernel
theorem dX3_count_45 : decode cX3_count 45 = .ok (.getfield 23, 3) := by decide +kernel
theorem dX3_count_48 : decode cX3_count 48 = .ok (.getfield 69, 3) := by decide +kernel
theorem dX3_count_51 : decode cX3_count 51 = .ok (.ireturn, 1) := by decide +kernel
theorem dX3_count_52 : decode cX3_count 52 = .ok (.aload_n 0, 1) := by decide +kernel
theorem dX3_count_53 : decode cX3_count 53 = .ok (.getfield 43, 3) := by decide +kernel
theorem dX3_count_56 : decode cX3_count 56 = .ok (.ireturn, 1) := by decide +kernel
theorem dX3_count_57 : decode cX3_count 57 = .ok (.aload_n 0, 1) := by decide +kernel
theorem dX3_count_58 : decode cX3_count 58 = .ok (.invokevirtual 152, 3) := by decide +kernel
theorem dX3_count_61 : decode cX3_count 61 = .ok (.ireturn, 1) := by decide +kernel
theorem dX3_count_62 : decode cX3_count 62 = .ok (.aload_n 0, 1) := by decide +kernel
theorem dX3_count_63 : decode cX3_count 63 = .ok (.getfield 46, 3) := by decide +kernel
theorem dX3_count_66 : decode cX3_count 66 = .ok (.ireturn, 1) := by decide +kernel
theorem dX3_count_67 : decode cX3_count 67 = .ok (.aload_n 0, 1) := by decide +kernel
theorem dX3_count_68 : decode cX3_count 68 = .ok (.getfield 39, 3) := by decide +kernel
theorem dX3_count_71 : decode cX3_count 71 = .ok (.ireturn, 1) := by decide +kernel
theorem dX3_count_72 : decode cX3_count 72 = .ok (.aload_n 0, 1) := by decide +kernel
theorem dX3_count_73 : decode cX3_count 73 = .ok (.getfield 16, 3) := by decide +kernel
theorem dX3_count_76 : decode cX3_count 76 = .ok (.getfield 81, 3) := by decide +kernel
theorem dX3_count_79 : decode cX3_count 79 = .ok (.ireturn, 1) := by decide +kernel
theorem dX3_count_80 : decode cX3_count 80 = .ok (.aload_n 0, 1) := by decide +kernel
theorem dX3_count_81 : decode cX3_count 81 = .ok (.getfield 49, 3) := by decide +kernel
theorem dX3_count_84 : decode cX3_count 84 = .ok (.ireturn, 1) := by decide +kernel
theorem dX3_count_85 : decode cX3_count 85 = .ok (.iconst (-1), 1) := by decide +kernel
theorem dX3_count_86 : decode cX3_count 86 = .ok (.ireturn, 1) := by decide +kernel
theorem dX3_checkBlock_0 : decode cX3_checkBlock 0 = .ok (.iload_n 1, 1) := by decide +kernel
theorem dX3_checkBlock_1 : decode cX3_checkBlock 1 = .ok (.ifCond .lt 14, 3) := by decide +kernel
theorem dX3_checkBlock_4 : decode cX3_checkBlock 4 = .ok (.iload_n 1, 1) := by decide +kernel
theorem dX3_checkBlock_5 : decode cX3_checkBlock 5 = .ok (.aload_n 0, 1) := by decide +kernel
theorem dX3_checkBlock_6 : decode cX3_checkBlock 6 = .ok (.getfield 23, 3) := by decide +kernel
theorem dX3_checkBlock_9 : decode cX3_checkBlock 9 = .ok (.getfield 69, 3) := by decide +kernel
theorem dX3_checkBlock_12 : decode cX3_checkBlock 12 = .ok (.if_icmp .lt 13, 3) := by decide +kernel
theorem dX3_checkBlock_15 : decode cX3_checkBlock 15 = .ok (.new 156, 3) := by decide +kernel
theorem dX3_checkBlock_18 : decode cX3_checkBlock 18 = .ok (.dup, 1) := by decide +kernel
theorem dX3_checkBlock_19 : decode cX3_checkBlock 19 = .ok (.ldc 158, 2) := by decide +kernel
theorem dX3_checkBlock_21 : decode cX3_checkBlock 21 = .ok (.invokespecial 160, 3) := by decide +kernel
theorem dX3_checkBlock_24 : decode cX3_checkBlock 24 = .ok (.athrow, 1) := by decide +kernel
theorem dX3_checkBlock_25 : decode cX3_checkBlock 25 = .ok (.return_, 1) := by decide +kernel
theorem dX3_checkOrder_0 : decode cX3_checkOrder 0 = .ok (.iload_n 1, 1) := by decide +kernel
theorem dX3_checkOrder_1 : decode cX3_checkOrder 1 = .ok (.ifCond .lt 11, 3) := by decide +kernel
theorem dX3_checkOrder_4 : decode cX3_checkOrder 4 = .ok (.iload_n 1, 1) := by decide +kernel
theorem dX3_checkOrder_5 : decode cX3_checkOrder 5 = .ok (.aload_n 0, 1) := by decide +kernel
theorem dX3_checkOrder_6 : decode cX3_checkOrder 6 = .ok (.getfield 43, 3) := by decide +kernel
theorem dX3_checkOrder_9 : decode cX3_checkOrder 9 = .ok (.if_icmp .lt 13, 3) := by decide +kernel
theorem dX3_checkOrder_12 : decode cX3_checkOrder 12 = .ok (.new 156, 3) := by decide +kernel
theorem dX3_checkOrder_15 : decode cX3_checkOrder 15 = .ok (.dup, 1) := by decide +kernel
theorem dX3_checkOrder_16 : decode cX3_checkOrder 16 = .ok (.ldc 161, 2) := by decide +kernel
theorem dX3_checkOrder_18 : decode cX3_checkOrder 18 = .ok (.invokespecial 160, 3) := by decide +kernel
theorem dX3_checkOrder_21 : decode cX3_checkOrder 21 = .ok (.athrow, 1) := by decide +kernel
theorem dX3_checkOrder_22 : decode cX3_checkOrder 22 = .ok (.return_, 1) := by decide +kernel
theorem dX3_checkOrderArguments_0 : decode cX3_checkOrderArguments 0 = .ok (.iload_n 1, 1) := by decide +kernel
theorem dX3_checkOrderArguments_1 : decode cX3_checkOrderArguments 1 = .ok (.ifCond .lt 14, 3) := by decide +kernel
theorem dX3_checkOrderArguments_4 : decode cX3_checkOrderArguments 4 = .ok (.iload_n 1, 1) := by decide +kernel
theorem dX3_checkOrderArguments_5 : decode cX3_checkOrderArguments 5 = .ok (.aload_n 0, 1) := by decide +kernel
theorem dX3_checkOrderArguments_6 : decode cX3_checkOrderArguments 6 = .ok (.getfield 16, 3) := by decide +kernel
theorem dX3_checkOrderArguments_9 : decode cX3_checkOrderArguments 9 = .ok (.getfield 81, 3) := by decide +kernel
theorem dX3_checkOrderArguments_12 : decode cX3_checkOrderArguments 12 = .ok (.if_icmp .le 13, 3) := by decide +kernel
theorem dX3_checkOrderArguments_15 : decode cX3_checkOrderArguments 15 = .ok (.new 62, 3) := by decide +kernel
theorem dX3_checkOrderArguments_18 : decode cX3_checkOrderArguments 18 = .ok (.dup, 1) := by decide +kernel
theorem dX3_checkOrderArguments_19 : decode cX3_checkOrderArguments 19 = .ok (.ldc 163, 2) := by decide +kernel
theorem dX3_checkOrderArguments_21 : decode cX3_checkOrderArguments 21 = .ok (.invokespecial 66, 3) := by decide +kernel
theorem dX3_checkOrderArguments_24 : decode cX3_checkOrderArguments 24 = .ok (.athrow, 1) := by decide +kernel
theorem dX3_checkOrderArguments_25 : decode cX3_checkOrderArguments 25 = .ok (.iload_n 2, 1) := by decide +kernel
theorem dX3_checkOrderArguments_26 : decode cX3_checkOrderArguments 26 = .ok (.ifCond .lt 9, 3) := by decide +kernel
theorem dX3_checkOrderArguments_29 : decode cX3_checkOrderArguments 29 = .ok (.iload_n 2, 1) := by decide +kernel
theorem dX3_checkOrderArguments_30 : decode cX3_checkOrderArguments 30 = .ok (.ldc 125, 2) := by decide +kernel
theorem dX3_checkOrderArguments_32 : decode cX3_checkOrderArguments 32 = .ok (.if_icmp .le 13, 3) := by decide +kernel
theorem dX3_checkOrderArguments_35 : decode cX3_checkOrderArguments 35 = .ok (.new 62, 3) := by decide +kernel
theorem dX3_checkOrderArguments_38 : decode cX3_checkOrderArguments 38 = .ok (.dup, 1) := by decide +kernel
theorem dX3_checkOrderArguments_39 : decode cX3_checkOrderArguments 39 = .ok (.ldc 165, 2) := by decide +kernel
theorem dX3_checkOrderArguments_41 : decode cX3_checkOrderArguments 41 = .ok (.invokespecial 66, 3) := by decide +kernel
theorem dX3_checkOrderArguments_44 : decode cX3_checkOrderArguments 44 = .ok (.athrow, 1) := by decide +kernel
theorem dX3_checkOrderArguments_45 : decode cX3_checkOrderArguments 45 = .ok (.iload_n 3, 1) := by decide +kernel
theorem dX3_checkOrderArguments_46 : decode cX3_checkOrderArguments 46 = .ok (.iconst 1, 1) := by decide +kernel
theorem dX3_checkOrderArguments_47 : decode cX3_checkOrderArguments 47 = .ok (.if_icmp .lt 9, 3) := by decide +kernel
theorem dX3_checkOrderArguments_50 : decode cX3_checkOrderArguments 50 = .ok (.iload_n 3, 1) := by decide +kernel
theorem dX3_checkOrderArguments_51 : decode cX3_checkOrderArguments 51 = .ok (.bipush 9, 2) := by decide +kernel
theorem dX3_checkOrderArguments_53 : decode cX3_checkOrderArguments 53 = .ok (.if_icmp .le 13, 3) := by decide +kernel
theorem dX3_checkOrderArguments_56 : decode cX3_checkOrderArguments 56 = .ok (.new 62, 3) := by decide +kernel
theorem dX3_checkOrderArguments_59 : decode cX3_checkOrderArguments 59 = .ok (.dup, 1) := by decide +kernel
theorem dX3_checkOrderArguments_60 : decode cX3_checkOrderArguments 60 = .ok (.ldc 167, 2) := by decide +kernel
theorem dX3_checkOrderArguments_62 : decode cX3_checkOrderArguments 62 = .ok (.invokespecial 66, 3) := by decide +kernel
theorem dX3_checkOrderArguments_65 : decode cX3_checkOrderArguments 65 = .ok (.athrow, 1) := by decide +kernel
theorem dX3_checkOrderArguments_66 : decode cX3_checkOrderArguments 66 = .ok (.return_, 1) := by decide +kernel
set_option maxRecDepth 20000 in
theorem ggX3_addOrder_X0_match : GoodIn wsX3_addOrder wsX0_match := goodIn_r _ [11, 12, 13, 14, 15, 16, 10, 17, 18, 49, 50, 51, 52, 53] (by decide +kernel) (by decide +kernel)
set_option maxRecDepth 20000 in
theorem gX3_addOrder_X0_match : GoodIn wsX3_addOrder (wsV RX3 169 RX0 yX0_match wsX0_match) := goodIn_app (goodIn_of _ (by decide +kernel)) ggX3_addOrder_X0_match
set_option maxRecDepth 20000 in
theorem ggX3_addOrder_X2_price : GoodIn wsX3_addOrder wsX2_price := goodIn_r _ [23, 24, 25, 26, 22, 27, 28, 54, 55, 56, 57, 58, 59, 60] (by decide +kernel) (by decide +kernel)
set_option maxRecDepth 20000 in
theorem gX3_addOrder_X2_price : GoodIn wsX3_addOrder (wsV RX3 173 RX2 yX2_price wsX2_price) := goodIn_app (goodIn_of _ (by decide +kernel)) ggX3_addOrder_X2_price
set_option maxRecDepth 20000 in
theorem ggX3_addOrder_X2_steamMinutes : GoodIn wsX3_addOrder wsX2_steamMinutes := goodIn_r _ [32, 24, 25, 26, 22, 27, 28, 54, 55, 56, 57, 58, 59, 60] (by decide +kernel) (by decide +kernel)
set_option maxRecDepth 20000 in
theorem gX3_addOrder_X2_steamMinutes : GoodIn wsX3_addOrder (wsV RX3 176 RX2 yX2_steamMinutes wsX2_steamMinutes) := goodIn_app (goodIn_of _ (by decide +kernel)) ggX3_addOrder_X2_steamMinutes
set_option maxRecDepth 20000 in
theorem ggX3_addOrder_X2_onMinutes : GoodIn wsX3_addOrder wsX2_onMinutes := goodIn_r _ [36, 24, 25, 26, 22, 27, 28, 54, 55, 56, 57, 58, 59, 60] (by decide +kernel) (by decide +kernel)
set_option maxRecDepth 20000 in
theorem gX3_addOrder_X2_onMinutes : GoodIn wsX3_addOrder (wsV RX3 179 RX2 yX2_onMinutes wsX2_onMinutes) := goodIn_app (goodIn_of _ (by decide +kernel)) ggX3_addOrder_X2_onMinutes
theorem dX3_addOrder_0 : decode cX3_addOrder 0 = .ok (.aload_n 0, 1) := by decide +kernel
theorem dX3_addOrder_1 : decode cX3_addOrder 1 = .ok (.getfield 43, 3) := by decide +kernel
theorem dX3_addOrder_4 : decode cX3_addOrder 4 = .ok (.istore_n 3, 1) := by decide +kernel
theorem dX3_addOrder_5 : decode cX3_addOrder 5 = .ok (.aload_n 0, 1) := by decide +kernel
theorem dX3_addOrder_6 : decode cX3_addOrder 6 = .ok (.getfield 29, 3) := by decide +kernel
theorem dX3_addOrder_9 : decode cX3_addOrder 9 = .ok (.iload_n 3, 1) := by decide +kernel
theorem dX3_addOrder_10 : decode cX3_addOrder 10 = .ok (.aaload, 1) := by decide +kernel
theorem dX3_addOrder_11 : decode cX3_addOrder 11 = .ok (.astore 4, 2) := by decide +kernel
theorem dX3_addOrder_13 : decode cX3_addOrder 13 = .ok (.aload_n 0, 1) := by decide +kernel
theorem dX3_addOrder_14 : decode cX3_addOrder 14 = .ok (.getfield 23, 3) := by decide +kernel
theorem dX3_addOrder_17 : decode cX3_addOrder 17 = .ok (.aload_n 0, 1) := by decide +kernel
theorem dX3_addOrder_18 : decode cX3_addOrder 18 = .ok (.getfield 9, 3) := by decide +kernel
theorem dX3_addOrder_21 : decode cX3_addOrder 21 = .ok (.aload 4, 2) := by decide +kernel
theorem dX3_addOrder_23 : decode cX3_addOrder 23 = .ok (.invokevirtual 169, 3) := by decide +kernel
theorem dX3_addOrder_26 : decode cX3_addOrder 26 = .ok (.aload 4, 2) := by decide +kernel
theorem dX3_addOrder_28 : decode cX3_addOrder 28 = .ok (.iconst 3, 1) := by decide +kernel
theorem dX3_addOrder_29 : decode cX3_addOrder 29 = .ok (.aload_n 0, 1) := by decide +kernel
theorem dX3_addOrder_30 : decode cX3_addOrder 30 = .ok (.getfield 16, 3) := by decide +kernel
theorem dX3_addOrder_33 : decode cX3_addOrder 33 = .ok (.invokevirtual 173, 3) := by decide +kernel
theorem dX3_addOrder_36 : decode cX3_addOrder 36 = .ok (.iastore, 1) := by decide +kernel
theorem dX3_addOrder_37 : decode cX3_addOrder 37 = .ok (.aload 4, 2) := by decide +kernel
theorem dX3_addOrder_39 : decode cX3_addOrder 39 = .ok (.iconst 4, 1) := by decide +kernel
theorem dX3_addOrder_40 : decode cX3_addOrder 40 = .ok (.aload_n 0, 1) := by decide +kernel
theorem dX3_addOrder_41 : decode cX3_addOrder 41 = .ok (.getfield 16, 3) := by decide +kernel
theorem dX3_addOrder_44 : decode cX3_addOrder 44 = .ok (.invokevirtual 176, 3) := by decide +kernel
theorem dX3_addOrder_47 : decode cX3_addOrder 47 = .ok (.iastore, 1) := by decide +kernel
theorem dX3_addOrder_48 : decode cX3_addOrder 48 = .ok (.aload 4, 2) := by decide +kernel
theorem dX3_addOrder_50 : decode cX3_addOrder 50 = .ok (.iconst 5, 1) := by decide +kernel
theorem dX3_addOrder_51 : decode cX3_addOrder 51 = .ok (.aload_n 0, 1) := by decide +kernel
theorem dX3_addOrder_52 : decode cX3_addOrder 52 = .ok (.getfield 16, 3) := by decide +kernel
theorem dX3_addOrder_55 : decode cX3_addOrder 55 = .ok (.invokevirtual 179, 3) := by decide +kernel
theorem dX3_addOrder_58 : decode cX3_addOrder 58 = .ok (.iastore, 1) := by decide +kernel
theorem dX3_addOrder_59 : decode cX3_addOrder 59 = .ok (.aload 4, 2) := by decide +kernel
theorem dX3_addOrder_61 : decode cX3_addOrder 61 = .ok (.bipush 6, 2) := by decide +kernel
theorem dX3_addOrder_63 : decode cX3_addOrder 63 = .ok (.iload_n 1, 1) := by decide +kernel
theorem dX3_addOrder_64 : decode cX3_addOrder 64 = .ok (.iastore, 1) := by decide +kernel
theorem dX3_addOrder_65 : decode cX3_addOrder 65 = .ok (.aload 4, 2) := by decide +kernel
theorem dX3_addOrder_67 : decode cX3_addOrder 67 = .ok (.bipush 7, 2) := by decide +kernel
theorem dX3_addOrder_69 : decode cX3_addOrder 69 = .ok (.iload_n 2, 1) := by decide +kernel
theorem dX3_addOrder_70 : decode cX3_addOrder 70 = .ok (.iastore, 1) := by decide +kernel
theorem dX3_addOrder_71 : decode cX3_addOrder 71 = .ok (.aload 4, 2) := by decide +kernel
theorem dX3_addOrder_73 : decode cX3_addOrder 73 = .ok (.bipush 9, 2) := by decide +kernel
theorem dX3_addOrder_75 : decode cX3_addOrder 75 = .ok (.iconst (-1), 1) := by decide +kernel
theorem dX3_addOrder_76 : decode cX3_addOrder 76 = .ok (.iastore, 1) := by decide +kernel
theorem dX3_addOrder_77 : decode cX3_addOrder 77 = .ok (.aload 4, 2) := by decide +kernel
theorem dX3_addOrder_79 : decode cX3_addOrder 79 = .ok (.bipush 10, 2) := by decide +kernel
theorem dX3_addOrder_81 : decode cX3_addOrder 81 = .ok (.iconst (-1), 1) := by decide +kernel
theorem dX3_addOrder_82 : decode cX3_addOrder 82 = .ok (.iastore, 1) := by decide +kernel
theorem dX3_addOrder_83 : decode cX3_addOrder 83 = .ok (.aload 4, 2) := by decide +kernel
theorem dX3_addOrder_85 : decode cX3_addOrder 85 = .ok (.bipush 11, 2) := by decide +kernel
theorem dX3_addOrder_87 : decode cX3_addOrder 87 = .ok (.iconst (-1), 1) := by decide +kernel
theorem dX3_addOrder_88 : decode cX3_addOrder 88 = .ok (.iastore, 1) := by decide +kernel
theorem dX3_addOrder_89 : decode cX3_addOrder 89 = .ok (.aload 4, 2) := by decide +kernel
theorem dX3_addOrder_91 : decode cX3_addOrder 91 = .ok (.bipush 12, 2) := by decide +kernel
theorem dX3_addOrder_93 : decode cX3_addOrder 93 = .ok (.iconst 0, 1) := by decide +kernel
theorem dX3_addOrder_94 : decode cX3_addOrder 94 = .ok (.iastore, 1) := by decide +kernel
theorem dX3_addOrder_95 : decode cX3_addOrder 95 = .ok (.aload_n 0, 1) := by decide +kernel
theorem dX3_addOrder_96 : decode cX3_addOrder 96 = .ok (.dup, 1) := by decide +kernel
theorem dX3_addOrder_97 : decode cX3_addOrder 97 = .ok (.getfield 43, 3) := by decide +kernel
theorem dX3_addOrder_100 : decode cX3_addOrder 100 = .ok (.iconst 1, 1) := by decide +kernel
theorem dX3_addOrder_101 : decode cX3_addOrder 101 = .ok (.iadd, 1) := by decide +kernel
theorem dX3_addOrder_102 : decode cX3_addOrder 102 = .ok (.putfield 43, 3) := by decide +kernel
theorem dX3_addOrder_105 : decode cX3_addOrder 105 = .ok (.aload_n 0, 1) := by decide +kernel
theorem dX3_addOrder_106 : decode cX3_addOrder 106 = .ok (.iconst 0, 1) := by decide +kernel
theorem dX3_addOrder_107 : decode cX3_addOrder 107 = .ok (.putfield 58, 3) := by decide +kernel
theorem dX3_addOrder_110 : decode cX3_addOrder 110 = .ok (.iload_n 3, 1) := by decide +kernel
theorem dX3_addOrder_111 : decode cX3_addOrder 111 = .ok (.ireturn, 1) := by decide +kernel
theorem dX3_isWaiting_0 : decode cX3_isWaiting 0 = .ok (.aload_n 0, 1) := by decide +kernel
theorem dX3_isWaiting_1 : decode cX3_isWaiting 1 = .ok (.getfield 29, 3) := by decide +kernel
theorem dX3_isWaiting_4 : decode cX3_isWaiting 4 = .ok (.iload_n 1, 1) := by decide +kernel
theorem dX3_isWaiting_5 : decode cX3_isWaiting 5 = .ok (.aaload, 1) := by decide +kernel
theorem dX3_isWaiting_6 : decode cX3_isWaiting 6 = .ok (.bipush 9, 2) := by decide +kernel
theorem dX3_isWaiting_8 : decode cX3_isWaiting 8 = .ok (.iaload, 1) := by decide +kernel
theorem dX3_isWaiting_9 : decode cX3_isWaiting 9 = .ok (.iconst (-1), 1) := by decide +kernel
theorem dX3_isWaiting_10 : decode cX3_isWaiting 10 = .ok (.if_icmp .ne 7, 3) := by decide +kernel
theorem dX3_isWaiting_13 : decode cX3_isWaiting 13 = .ok (.iconst 1, 1) := by decide +kernel
theorem dX3_isWaiting_14 : decode cX3_isWaiting 14 = .ok (.goto 4, 3) := by decide +kernel
theorem dX3_isWaiting_17 : decode cX3_isWaiting 17 = .ok (.iconst 0, 1) := by decide +kernel
theorem dX3_isWaiting_18 : decode cX3_isWaiting 18 = .ok (.ireturn, 1) := by decide +kernel
set_option maxRecDepth 20000 in
theorem ggX3_isDone_X3_isWaiting : GoodIn wsX3_isDone wsX3_isWaiting := goodIn_r _ [7, 2, 8, 9, 10, 11, 12, 13, 14, 15, 16, 17, 18, 19] (by decide +kernel) (by decide +kernel)
set_option maxRecDepth 20000 in
theorem gX3_isDone_X3_isWaiting : GoodIn wsX3_isDone (wsV RX3 116 RX3 yX3_isWaiting wsX3_isWaiting) := goodIn_app (goodIn_of _ (by decide +kernel)) ggX3_isDone_X3_isWaiting
theorem dX3_isDone_0 : decode cX3_isDone 0 = .ok (.aload_n 0, 1) := by decide +kernel
theorem dX3_isDone_1 : decode cX3_isDone 1 = .ok (.iload_n 1, 1) := by decide +kernel
theorem dX3_isDone_2 : decode cX3_isDone 2 = .ok (.invokevirtual 116, 3) := by decide +kernel
theorem dX3_isDone_5 : decode cX3_isDone 5 = .ok (.ifCond .ne 23, 3) := by decide +kernel
theorem dX3_isDone_8 : decode cX3_isDone 8 = .ok (.aload_n 0, 1) := by decide +kernel
theorem dX3_isDone_9 : decode cX3_isDone 9 = .ok (.getfield 46, 3) := by decide +kernel
theorem dX3_isDone_12 : decode cX3_isDone 12 = .ok (.aload_n 0, 1) := by decide +kernel
theorem dX3_isDone_13 : decode cX3_isDone 13 = .ok (.getfield 29, 3) := by decide +kernel
theorem dX3_isDone_16 : decode cX3_isDone 16 = .ok (.iload_n 1, 1) := by decide +kernel
theorem dX3_isDone_17 : decode cX3_isDone 17 = .ok (.aaload, 1) := by decide +kernel
theorem dX3_isDone_18 : decode cX3_isDone 18 = .ok (.bipush 10, 2) := by decide +kernel
theorem dX3_isDone_20 : decode cX3_isDone 20 = .ok (.iaload, 1) := by decide +kernel
theorem dX3_isDone_21 : decode cX3_isDone 21 = .ok (.if_icmp .lt 7, 3) := by decide +kernel
theorem dX3_isDone_24 : decode cX3_isDone 24 = .ok (.iconst 1, 1) := by decide +kernel
theorem dX3_isDone_25 : decode cX3_isDone 25 = .ok (.goto 4, 3) := by decide +kernel
theorem dX3_isDone_28 : decode cX3_isDone 28 = .ok (.iconst 0, 1) := by decide +kernel
theorem dX3_isDone_29 : decode cX3_isDone 29 = .ok (.ireturn, 1) := by decide +kernel
set_option maxRecDepth 20000 in
theorem ggX3_stateOf_X3_isWaiting : GoodIn wsX3_stateOf wsX3_isWaiting := goodIn_r _ [5, 6, 12, 13, 14, 15, 16, 17, 18, 19, 20, 21, 22, 23] (by decide +kernel) (by decide +kernel)
set_option maxRecDepth 20000 in
theorem gX3_stateOf_X3_isWaiting : GoodIn wsX3_stateOf (wsV RX3 116 RX3 yX3_isWaiting wsX3_isWaiting) := goodIn_app (goodIn_of _ (by decide +kernel)) ggX3_stateOf_X3_isWaiting
set_option maxRecDepth 20000 in
theorem ggX3_stateOf_X3_isDone : GoodIn wsX3_stateOf wsX3_isDone := goodIn_r _ [10, 11, 6, 1, 2, 3, 4, 5, 12, 13, 14, 15, 16, 17, 18, 19, 20, 21, 22, 23] (by decide +kernel) (by decide +kernel)
set_option maxRecDepth 20000 in
theorem gX3_stateOf_X3_isDone : GoodIn wsX3_stateOf (wsV RX3 144 RX3 yX3_isDone wsX3_isDone) := goodIn_app (goodIn_of _ (by decide +kernel)) ggX3_stateOf_X3_isDone
theorem dX3_stateOf_0 : decode cX3_stateOf 0 = .ok (.aload_n 0, 1) := by decide +kernel
theorem dX3_stateOf_1 : decode cX3_stateOf 1 = .ok (.iload_n 1, 1) := by decide +kernel
theorem dX3_stateOf_2 : decode cX3_stateOf 2 = .ok (.invokevirtual 116, 3) := by decide +kernel
theorem dX3_stateOf_5 : decode cX3_stateOf 5 = .ok (.ifCond .eq 5, 3) := by decide +kernel
theorem dX3_stateOf_8 : decode cX3_stateOf 8 = .ok (.iconst 0, 1) := by decide +kernel
theorem dX3_stateOf_9 : decode cX3_stateOf 9 = .ok (.ireturn, 1) := by decide +kernel
theorem dX3_stateOf_10 : decode cX3_stateOf 10 = .ok (.aload_n 0, 1) := by decide +kernel
theorem dX3_stateOf_11 : decode cX3_stateOf 11 = .ok (.iload_n 1, 1) := by decide +kernel
theorem dX3_stateOf_12 : decode cX3_stateOf 12 = .ok (.invokevirtual 144, 3) := by decide +kernel
theorem dX3_stateOf_15 : decode cX3_stateOf 15 = .ok (.ifCond .eq 7, 3) := by decide +kernel
theorem dX3_stateOf_18 : decode cX3_stateOf 18 = .ok (.iconst 2, 1) := by decide +kernel
theorem dX3_stateOf_19 : decode cX3_stateOf 19 = .ok (.goto 4, 3) := by decide +kernel
theorem dX3_stateOf_22 : decode cX3_stateOf 22 = .ok (.iconst 1, 1) := by decide +kernel
theorem dX3_stateOf_23 : decode cX3_stateOf 23 = .ok (.ireturn, 1) := by decide +kernel
set_option maxRecDepth 20000 in
theorem ggX3_isLate_X3_isWaiting : GoodIn wsX3_isLate wsX3_isWaiting := goodIn_r _ [7, 1, 8, 9, 10, 11, 12, 13, 14, 15, 16, 17, 18, 19] (by decide +kernel) (by decide +kernel)
set_option maxRecDepth 20000 in
theorem gX3_isLate_X3_isWaiting : GoodIn wsX3_isLate (wsV RX3 116 RX3 yX3_isWaiting wsX3_isWaiting) := goodIn_app (goodIn_of _ (by decide +kernel)) ggX3_isLate_X3_isWaiting
theorem dX3_isLate_0 : decode cX3_isLate 0 = .ok (.aload_n 0, 1) := by decide +kernel
theorem dX3_isLate_1 : decode cX3_isLate 1 = .ok (.getfield 29, 3) := by decide +kernel
theorem dX3_isLate_4 : decode cX3_isLate 4 = .ok (.iload_n 1, 1) := by decide +kernel
theorem dX3_isLate_5 : decode cX3_isLate 5 = .ok (.aaload, 1) := by decide +kernel
theorem dX3_isLate_6 : decode cX3_isLate 6 = .ok (.astore_n 2, 1) := by decide +kernel
theorem dX3_isLate_7 : decode cX3_isLate 7 = .ok (.aload_n 0, 1) := by decide +kernel
theorem dX3_isLate_8 : decode cX3_isLate 8 = .ok (.iload_n 1, 1) := by decide +kernel
theorem dX3_isLate_9 : decode cX3_isLate 9 = .ok (.invokevirtual 116, 3) := by decide +kernel
theorem dX3_isLate_12 : decode cX3_isLate 12 = .ok (.ifCond .eq 10, 3) := by decide +kernel
theorem dX3_isLate_15 : decode cX3_isLate 15 = .ok (.aload_n 0, 1) := by decide +kernel
theorem dX3_isLate_16 : decode cX3_isLate 16 = .ok (.getfield 46, 3) := by decide +kernel
theorem dX3_isLate_19 : decode cX3_isLate 19 = .ok (.goto 7, 3) := by decide +kernel
theorem dX3_isLate_22 : decode cX3_isLate 22 = .ok (.aload_n 2, 1) := by decide +kernel
theorem dX3_isLate_23 : decode cX3_isLate 23 = .ok (.bipush 10, 2) := by decide +kernel
theorem dX3_isLate_25 : decode cX3_isLate 25 = .ok (.iaload, 1) := by decide +kernel
theorem dX3_isLate_26 : decode cX3_isLate 26 = .ok (.istore_n 3, 1) := by decide +kernel
theorem dX3_isLate_27 : decode cX3_isLate 27 = .ok (.iload_n 3, 1) := by decide +kernel
theorem dX3_isLate_28 : decode cX3_isLate 28 = .ok (.aload_n 2, 1) := by decide +kernel
theorem dX3_isLate_29 : decode cX3_isLate 29 = .ok (.bipush 6, 2) := by decide +kernel
theorem dX3_isLate_31 : decode cX3_isLate 31 = .ok (.iaload, 1) := by decide +kernel
theorem dX3_isLate_32 : decode cX3_isLate 32 = .ok (.if_icmp .le 7, 3) := by decide +kernel
theorem dX3_isLate_35 : decode cX3_isLate 35 = .ok (.iconst 1, 1) := by decide +kernel
theorem dX3_isLate_36 : decode cX3_isLate 36 = .ok (.goto 4, 3) := by decide +kernel
theorem dX3_isLate_39 : decode cX3_isLate 39 = .ok (.iconst 0, 1) := by decide +kernel
theorem dX3_isLate_40 : decode cX3_isLate 40 = .ok (.ireturn, 1) := by decide +kernel
set_option maxRecDepth 20000 in
theorem ggX3_countWaiting_X3_isWaiting : GoodIn wsX3_countWaiting wsX3_isWaiting := goodIn_r _ [6, 7, 8, 9, 10, 11, 12, 13, 14, 15, 16, 17, 18, 19] (by decide +kernel) (by decide +kernel)
set_option maxRecDepth 20000 in
theorem gX3_countWaiting_X3_isWaiting : GoodIn wsX3_countWaiting (wsV RX3 116 RX3 yX3_isWaiting wsX3_isWaiting) := goodIn_app (goodIn_of _ (by decide +kernel)) ggX3_countWaiting_X3_isWaiting
theorem dX3_countWaiting_0 : decode cX3_countWaiting 0 = .ok (.iconst 0, 1) := by decide +kernel
theorem dX3_countWaiting_1 : decode cX3_countWaiting 1 = .ok (.istore_n 1, 1) := by decide +kernel
theorem dX3_countWaiting_2 : decode cX3_countWaiting 2 = .ok (.iconst 0, 1) := by decide +kernel
theorem dX3_countWaiting_3 : decode cX3_countWaiting 3 = .ok (.istore_n 2, 1) := by decide +kernel
theorem dX3_countWaiting_4 : decode cX3_countWaiting 4 = .ok (.iload_n 2, 1) := by decide +kernel
theorem dX3_countWaiting_5 : decode cX3_countWaiting 5 = .ok (.aload_n 0, 1) := by decide +kernel
theorem dX3_countWaiting_6 : decode cX3_countWaiting 6 = .ok (.getfield 43, 3) := by decide +kernel
theorem dX3_countWaiting_9 : decode cX3_countWaiting 9 = .ok (.if_icmp .ge 20, 3) := by decide +kernel
theorem dX3_countWaiting_12 : decode cX3_countWaiting 12 = .ok (.aload_n 0, 1) := by decide +kernel
theorem dX3_countWaiting_13 : decode cX3_countWaiting 13 = .ok (.iload_n 2, 1) := by decide +kernel
theorem dX3_countWaiting_14 : decode cX3_countWaiting 14 = .ok (.invokevirtual 116, 3) := by decide +kernel
theorem dX3_countWaiting_17 : decode cX3_countWaiting 17 = .ok (.ifCond .eq 6, 3) := by decide +kernel
theorem dX3_countWaiting_20 : decode cX3_countWaiting 20 = .ok (.iinc 1 1, 3) := by decide +kernel
theorem dX3_countWaiting_23 : decode cX3_countWaiting 23 = .ok (.iinc 2 1, 3) := by decide +kernel
theorem dX3_countWaiting_26 : decode cX3_countWaiting 26 = .ok (.goto (-22), 3) := by decide +kernel
theorem dX3_countWaiting_29 : decode cX3_countWaiting 29 = .ok (.iload_n 1, 1) := by decide +kernel
theorem dX3_countWaiting_30 : decode cX3_countWaiting 30 = .ok (.ireturn, 1) := by decide +kernel
theorem dX3_startOf_0 : decode cX3_startOf 0 = .ok (.iload_n 0, 1) := by decide +kernel
theorem dX3_startOf_1 : decode cX3_startOf 1 = .ok (.iload_n 1, 1) := by decide +kernel
theorem dX3_startOf_2 : decode cX3_startOf 2 = .ok (.invokestatic 182, 3) := by decide +kernel
theorem dX3_startOf_5 : decode cX3_startOf 5 = .ok (.iload_n 2, 1) := by decide +kernel
theorem dX3_startOf_6 : decode cX3_startOf 6 = .ok (.iload_n 3, 1) := by decide +kernel
theorem dX3_startOf_7 : decode cX3_startOf 7 = .ok (.isub, 1) := by decide +kernel
theorem dX3_startOf_8 : decode cX3_startOf 8 = .ok (.invokestatic 182, 3) := by decide +kernel
theorem dX3_startOf_11 : decode cX3_startOf 11 = .ok (.ireturn, 1) := by decide +kernel
set_option maxRecDepth 20000 in
theorem ggX3_send_X3_startOf : GoodIn wsX3_send wsX3_startOf := goodIn_r _ [13, 14, 15, 16, 17] (by decide +kernel) (by decide +kernel)
set_option maxRecDepth 20000 in
theorem gX3_send_X3_startOf : GoodIn wsX3_send (va_wsS RX3 190 yX3_startOf wsX3_startOf) := goodIn_app (goodIn_of _ (by decide +kernel)) ggX3_send_X3_startOf
set_option maxRecDepth 20000 in
theorem ggX3_send_X3_holderOf : GoodIn wsX3_send wsX3_holderOf := goodIn_r _ [21, 2, 3, 6, 4, 7, 22, 23, 24, 25, 26, 27, 28, 29, 30, 31, 32, 33, 34, 35, 36, 37, 38] (by decide +kernel) (by decide +kernel)
set_option maxRecDepth 20000 in
theorem gX3_send_X3_holderOf : GoodIn wsX3_send (wsV RX3 194 RX3 yX3_holderOf wsX3_holderOf) := goodIn_app (goodIn_of _ (by decide +kernel)) ggX3_send_X3_holderOf
theorem dX3_send_0 : decode cX3_send 0 = .ok (.aload_n 0, 1) := by decide +kernel
theorem dX3_send_1 : decode cX3_send 1 = .ok (.getfield 29, 3) := by decide +kernel
theorem dX3_send_4 : decode cX3_send 4 = .ok (.iload_n 1, 1) := by decide +kernel
theorem dX3_send_5 : decode cX3_send 5 = .ok (.aaload, 1) := by decide +kernel
theorem dX3_send_6 : decode cX3_send 6 = .ok (.astore_n 2, 1) := by decide +kernel
theorem dX3_send_7 : decode cX3_send 7 = .ok (.aload_n 2, 1) := by decide +kernel
theorem dX3_send_8 : decode cX3_send 8 = .ok (.iconst 0, 1) := by decide +kernel
theorem dX3_send_9 : decode cX3_send 9 = .ok (.iaload, 1) := by decide +kernel
theorem dX3_send_10 : decode cX3_send 10 = .ok (.istore_n 3, 1) := by decide +kernel
theorem dX3_send_11 : decode cX3_send 11 = .ok (.aload_n 0, 1) := by decide +kernel
theorem dX3_send_12 : decode cX3_send 12 = .ok (.getfield 46, 3) := by decide +kernel
theorem dX3_send_15 : decode cX3_send 15 = .ok (.aload_n 0, 1) := by decide +kernel
theorem dX3_send_16 : decode cX3_send 16 = .ok (.getfield 49, 3) := by decide +kernel
theorem dX3_send_19 : decode cX3_send 19 = .ok (.aload_n 0, 1) := by decide +kernel
theorem dX3_send_20 : decode cX3_send 20 = .ok (.getfield 23, 3) := by decide +kernel
theorem dX3_send_23 : decode cX3_send 23 = .ok (.getfield 187, 3) := by decide +kernel
theorem dX3_send_26 : decode cX3_send 26 = .ok (.iload_n 3, 1) := by decide +kernel
theorem dX3_send_27 : decode cX3_send 27 = .ok (.iaload, 1) := by decide +kernel
theorem dX3_send_28 : decode cX3_send 28 = .ok (.aload_n 2, 1) := by decide +kernel
theorem dX3_send_29 : decode cX3_send 29 = .ok (.iconst 4, 1) := by decide +kernel
theorem dX3_send_30 : decode cX3_send 30 = .ok (.iaload, 1) := by decide +kernel
theorem dX3_send_31 : decode cX3_send 31 = .ok (.invokestatic 190, 3) := by decide +kernel
theorem dX3_send_34 : decode cX3_send 34 = .ok (.istore 4, 2) := by decide +kernel
theorem dX3_send_36 : decode cX3_send 36 = .ok (.aload_n 2, 1) := by decide +kernel
theorem dX3_send_37 : decode cX3_send 37 = .ok (.bipush 9, 2) := by decide +kernel
theorem dX3_send_39 : decode cX3_send 39 = .ok (.iload 4, 2) := by decide +kernel
theorem dX3_send_41 : decode cX3_send 41 = .ok (.iastore, 1) := by decide +kernel
theorem dX3_send_42 : decode cX3_send 42 = .ok (.aload_n 2, 1) := by decide +kernel
theorem dX3_send_43 : decode cX3_send 43 = .ok (.bipush 11, 2) := by decide +kernel
theorem dX3_send_45 : decode cX3_send 45 = .ok (.aload_n 0, 1) := by decide +kernel
theorem dX3_send_46 : decode cX3_send 46 = .ok (.iload 4, 2) := by decide +kernel
theorem dX3_send_48 : decode cX3_send 48 = .ok (.iload_n 3, 1) := by decide +kernel
theorem dX3_send_49 : decode cX3_send 49 = .ok (.invokevirtual 194, 3) := by decide +kernel
theorem dX3_send_52 : decode cX3_send 52 = .ok (.iastore, 1) := by decide +kernel
theorem dX3_send_53 : decode cX3_send 53 = .ok (.aload_n 2, 1) := by decide +kernel
theorem dX3_send_54 : decode cX3_send 54 = .ok (.bipush 10, 2) := by decide +kernel
theorem dX3_send_56 : decode cX3_send 56 = .ok (.iload 4, 2) := by decide +kernel
theorem dX3_send_58 : decode cX3_send 58 = .ok (.aload_n 2, 1) := by decide +kernel
theorem dX3_send_59 : decode cX3_send 59 = .ok (.iconst 4, 1) := by decide +kernel
theorem dX3_send_60 : decode cX3_send 60 = .ok (.iaload, 1) := by decide +kernel
theorem dX3_send_61 : decode cX3_send 61 = .ok (.iadd, 1) := by decide +kernel
theorem dX3_send_62 : decode cX3_send 62 = .ok (.aload_n 2, 1) := by decide +kernel
theorem dX3_send_63 : decode cX3_send 63 = .ok (.iconst 5, 1) := by decide +kernel
theorem dX3_send_64 : decode cX3_send 64 = .ok (.iaload, 1) := by decide +kernel
theorem dX3_send_65 : decode cX3_send 65 = .ok (.iadd, 1) := by decide +kernel
theorem dX3_send_66 : decode cX3_send 66 = .ok (.iastore, 1) := by decide +kernel
theorem dX3_send_67 : decode cX3_send 67 = .ok (.aload_n 0, 1) := by decide +kernel
theorem dX3_send_68 : decode cX3_send 68 = .ok (.iload 4, 2) := by decide +kernel
theorem dX3_send_70 : decode cX3_send 70 = .ok (.aload_n 2, 1) := by decide +kernel
theorem dX3_send_71 : decode cX3_send 71 = .ok (.iconst 4, 1) := by decide +kernel
theorem dX3_send_72 : decode cX3_send 72 = .ok (.iaload, 1) := by decide +kernel
theorem dX3_send_73 : decode cX3_send 73 = .ok (.iadd, 1) := by decide +kernel
theorem dX3_send_74 : decode cX3_send 74 = .ok (.putfield 49, 3) := by decide +kernel
theorem dX3_send_77 : decode cX3_send 77 = .ok (.aload_n 0, 1) := by decide +kernel
theorem dX3_send_78 : decode cX3_send 78 = .ok (.iload_n 1, 1) := by decide +kernel
theorem dX3_send_79 : decode cX3_send 79 = .ok (.putfield 52, 3) := by decide +kernel
theorem dX3_send_82 : decode cX3_send 82 = .ok (.aload_n 0, 1) := by decide +kernel
theorem dX3_send_83 : decode cX3_send 83 = .ok (.getfield 23, 3) := by decide +kernel
theorem dX3_send_86 : decode cX3_send 86 = .ok (.getfield 187, 3) := by decide +kernel
theorem dX3_send_89 : decode cX3_send 89 = .ok (.iload_n 3, 1) := by decide +kernel
theorem dX3_send_90 : decode cX3_send 90 = .ok (.aload_n 2, 1) := by decide +kernel
theorem dX3_send_91 : decode cX3_send 91 = .ok (.bipush 10, 2) := by decide +kernel
theorem dX3_send_93 : decode cX3_send 93 = .ok (.iaload, 1) := by decide +kernel
theorem dX3_send_94 : decode cX3_send 94 = .ok (.iastore, 1) := by decide +kernel
theorem dX3_send_95 : decode cX3_send 95 = .ok (.aload_n 0, 1) := by decide +kernel
theorem dX3_send_96 : decode cX3_send 96 = .ok (.getfield 23, 3) := by decide +kernel
theorem dX3_send_99 : decode cX3_send 99 = .ok (.getfield 197, 3) := by decide +kernel
theorem dX3_send_102 : decode cX3_send 102 = .ok (.iload_n 3, 1) := by decide +kernel
theorem dX3_send_103 : decode cX3_send 103 = .ok (.iload_n 1, 1) := by decide +kernel
theorem dX3_send_104 : decode cX3_send 104 = .ok (.iastore, 1) := by decide +kernel
theorem dX3_send_105 : decode cX3_send 105 = .ok (.aload_n 0, 1) := by decide +kernel
theorem dX3_send_106 : decode cX3_send 106 = .ok (.getfield 23, 3) := by decide +kernel
theorem dX3_send_109 : decode cX3_send 109 = .ok (.getfield 147, 3) := by decide +kernel
theorem dX3_send_112 : decode cX3_send 112 = .ok (.iload_n 3, 1) := by decide +kernel
theorem dX3_send_113 : decode cX3_send 113 = .ok (.aaload, 1) := by decide +kernel
theorem dX3_send_114 : decode cX3_send 114 = .ok (.iconst 0, 1) := by decide +kernel
theorem dX3_send_115 : decode cX3_send 115 = .ok (.dup2, 1) := by decide +kernel
theorem dX3_send_116 : decode cX3_send 116 = .ok (.iaload, 1) := by decide +kernel
theorem dX3_send_117 : decode cX3_send 117 = .ok (.iconst 1, 1) := by decide +kernel
theorem dX3_send_118 : decode cX3_send 118 = .ok (.iadd, 1) := by decide +kernel
theorem dX3_send_119 : decode cX3_send 119 = .ok (.iastore, 1) := by decide +kernel
theorem dX3_send_120 : decode cX3_send 120 = .ok (.aload_n 0, 1) := by decide +kernel
theorem dX3_send_121 : decode cX3_send 121 = .ok (.iconst 0, 1) := by decide +kernel
theorem dX3_send_122 : decode cX3_send 122 = .ok (.putfield 58, 3) := by decide +kernel
theorem dX3_send_125 : decode cX3_send 125 = .ok (.iload 4, 2) := by decide +kernel
theorem dX3_send_127 : decode cX3_send 127 = .ok (.ireturn, 1) := by decide +kernel
theorem dX3_holderOf_0 : decode cX3_holderOf 0 = .ok (.iload_n 1, 1) := by decide +kernel
theorem dX3_holderOf_1 : decode cX3_holderOf 1 = .ok (.aload_n 0, 1) := by decide +kernel
theorem dX3_holderOf_2 : decode cX3_holderOf 2 = .ok (.getfield 46, 3) := by decide +kernel
theorem dX3_holderOf_5 : decode cX3_holderOf 5 = .ok (.if_icmp .gt 5, 3) := by decide +kernel
theorem dX3_holderOf_8 : decode cX3_holderOf 8 = .ok (.iconst (-1), 1) := by decide +kernel
theorem dX3_holderOf_9 : decode cX3_holderOf 9 = .ok (.ireturn, 1) := by decide +kernel
theorem dX3_holderOf_10 : decode cX3_holderOf 10 = .ok (.aload_n 0, 1) := by decide +kernel
theorem dX3_holderOf_11 : decode cX3_holderOf 11 = .ok (.getfield 49, 3) := by decide +kernel
theorem dX3_holderOf_14 : decode cX3_holderOf 14 = .ok (.iload_n 1, 1) := by decide +kernel
theorem dX3_holderOf_15 : decode cX3_holderOf 15 = .ok (.if_icmp .lt 10, 3) := by decide +kernel
theorem dX3_holderOf_18 : decode cX3_holderOf 18 = .ok (.aload_n 0, 1) := by decide +kernel
theorem dX3_holderOf_19 : decode cX3_holderOf 19 = .ok (.getfield 52, 3) := by decide +kernel
theorem dX3_holderOf_22 : decode cX3_holderOf 22 = .ok (.goto 12, 3) := by decide +kernel
theorem dX3_holderOf_25 : decode cX3_holderOf 25 = .ok (.aload_n 0, 1) := by decide +kernel
theorem dX3_holderOf_26 : decode cX3_holderOf 26 = .ok (.getfield 23, 3) := by decide +kernel
theorem dX3_holderOf_29 : decode cX3_holderOf 29 = .ok (.getfield 197, 3) := by decide +kernel
theorem dX3_holderOf_32 : decode cX3_holderOf 32 = .ok (.iload_n 2, 1) := by decide +kernel
theorem dX3_holderOf_33 : decode cX3_holderOf 33 = .ok (.iaload, 1) := by decide +kernel
theorem dX3_holderOf_34 : decode cX3_holderOf 34 = .ok (.ireturn, 1) := by decide +kernel
set_option maxRecDepth 20000 in
theorem ggX3_findBest_X1_clear : GoodIn wsX3_findBest wsX1_clear := goodIn_r _ [14, 15, 16, 17, 76, 77, 78, 79, 80, 81, 82, 83, 84, 85, 86, 87] (by decide +kernel) (by decide +kernel)
set_option maxRecDepth 20000 in
theorem gX3_findBest_X1_clear : GoodIn wsX3_findBest (wsV RX3 200 RX1 yX1_clear wsX1_clear) := goodIn_app (goodIn_of _ (by decide +kernel)) ggX3_findBest_X1_clear
set_option maxRecDepth 20000 in
theorem ggX3_findBest_X3_isWaiting : GoodIn wsX3_findBest wsX3_isWaiting := goodIn_r _ [22, 8, 59, 60, 61, 62, 63, 64, 65, 66, 67, 68, 69, 70] (by decide +kernel) (by decide +kernel)
set_option maxRecDepth 20000 in
theorem gX3_findBest_X3_isWaiting : GoodIn wsX3_findBest (wsV RX3 116 RX3 yX3_isWaiting wsX3_isWaiting) := goodIn_app (goodIn_of _ (by decide +kernel)) ggX3_findBest_X3_isWaiting
set_option maxRecDepth 20000 in
theorem ggX3_findBest_X1_add : GoodIn wsX3_findBest wsX1_add := goodIn_r _ [26, 27, 16, 28, 29, 30, 31, 32, 76, 77, 78, 79, 80, 81, 82, 83, 84, 85, 86, 87] (by decide +kernel) (by decide +kernel)
set_option maxRecDepth 20000 in
theorem gX3_findBest_X1_add : GoodIn wsX3_findBest (wsV RX3 204 RX1 yX1_add wsX1_add) := goodIn_app (goodIn_of _ (by decide +kernel)) ggX3_findBest_X1_add
set_option maxRecDepth 20000 in
theorem ggX3_findBest_X1_search : GoodIn wsX3_findBest wsX1_search := goodIn_r _ [36, 37, 38, 39, 40, 41, 13, 42, 16, 32, 43, 44, 45, 46, 47, 48, 49, 50, 51, 52, 28, 17, 15, 29, 30, 31, 53, 21, 54, 55, 56, 57, 58, 76, 77, 78, 79, 80, 81, 82, 83, 84, 85, 86, 87] (by decide +kernel) (by decide +kernel)
set_option maxRecDepth 20000 in
theorem gX3_findBest_X1_search : GoodIn wsX3_findBest (wsV RX3 206 RX1 yX1_search wsX1_search) := goodIn_app (goodIn_of _ (by decide +kernel)) ggX3_findBest_X1_search
theorem dX3_findBest_0 : decode cX3_findBest 0 = .ok (.aload_n 0, 1) := by decide +kernel
theorem dX3_findBest_1 : decode cX3_findBest 1 = .ok (.getfield 58, 3) := by decide +kernel
theorem dX3_findBest_4 : decode cX3_findBest 4 = .ok (.ifCond .eq 4, 3) := by decide +kernel
theorem dX3_findBest_7 : decode cX3_findBest 7 = .ok (.return_, 1) := by decide +kernel
theorem dX3_findBest_8 : decode cX3_findBest 8 = .ok (.aload_n 0, 1) := by decide +kernel
theorem dX3_findBest_9 : decode cX3_findBest 9 = .ok (.getfield 35, 3) := by decide +kernel
theorem dX3_findBest_12 : decode cX3_findBest 12 = .ok (.aload_n 0, 1) := by decide +kernel
theorem dX3_findBest_13 : decode cX3_findBest 13 = .ok (.getfield 46, 3) := by decide +kernel
theorem dX3_findBest_16 : decode cX3_findBest 16 = .ok (.aload_n 0, 1) := by decide +kernel
theorem dX3_findBest_17 : decode cX3_findBest 17 = .ok (.getfield 23, 3) := by decide +kernel
theorem dX3_findBest_20 : decode cX3_findBest 20 = .ok (.getfield 187, 3) := by decide +kernel
theorem dX3_findBest_23 : decode cX3_findBest 23 = .ok (.invokevirtual 200, 3) := by decide +kernel
theorem dX3_findBest_26 : decode cX3_findBest 26 = .ok (.iconst 0, 1) := by decide +kernel
theorem dX3_findBest_27 : decode cX3_findBest 27 = .ok (.istore_n 1, 1) := by decide +kernel
theorem dX3_findBest_28 : decode cX3_findBest 28 = .ok (.iload_n 1, 1) := by decide +kernel
theorem dX3_findBest_29 : decode cX3_findBest 29 = .ok (.aload_n 0, 1) := by decide +kernel
theorem dX3_findBest_30 : decode cX3_findBest 30 = .ok (.getfield 43, 3) := by decide +kernel
theorem dX3_findBest_33 : decode cX3_findBest 33 = .ok (.if_icmp .ge 43, 3) := by decide +kernel
theorem dX3_findBest_36 : decode cX3_findBest 36 = .ok (.aload_n 0, 1) := by decide +kernel
theorem dX3_findBest_37 : decode cX3_findBest 37 = .ok (.getfield 35, 3) := by decide +kernel
theorem dX3_findBest_40 : decode cX3_findBest 40 = .ok (.getfield 138, 3) := by decide +kernel
theorem dX3_findBest_43 : decode cX3_findBest 43 = .ok (.bipush 7, 2) := by decide +kernel
theorem dX3_findBest_45 : decode cX3_findBest 45 = .ok (.if_icmp .ge 31, 3) := by decide +kernel
theorem dX3_findBest_48 : decode cX3_findBest 48 = .ok (.aload_n 0, 1) := by decide +kernel
theorem dX3_findBest_49 : decode cX3_findBest 49 = .ok (.iload_n 1, 1) := by decide +kernel
theorem dX3_findBest_50 : decode cX3_findBest 50 = .ok (.invokevirtual 116, 3) := by decide +kernel
theorem dX3_findBest_53 : decode cX3_findBest 53 = .ok (.ifCond .eq 17, 3) := by decide +kernel
theorem dX3_findBest_56 : decode cX3_findBest 56 = .ok (.aload_n 0, 1) := by decide +kernel
theorem dX3_findBest_57 : decode cX3_findBest 57 = .ok (.getfield 35, 3) := by decide +kernel
theorem dX3_findBest_60 : decode cX3_findBest 60 = .ok (.iload_n 1, 1) := by decide +kernel
theorem dX3_findBest_61 : decode cX3_findBest 61 = .ok (.aload_n 0, 1) := by decide +kernel
theorem dX3_findBest_62 : decode cX3_findBest 62 = .ok (.getfield 29, 3) := by decide +kernel
theorem dX3_findBest_65 : decode cX3_findBest 65 = .ok (.iload_n 1, 1) := by decide +kernel
theorem dX3_findBest_66 : decode cX3_findBest 66 = .ok (.aaload, 1) := by decide +kernel
theorem dX3_findBest_67 : decode cX3_findBest 67 = .ok (.invokevirtual 204, 3) := by decide +kernel
theorem dX3_findBest_70 : decode cX3_findBest 70 = .ok (.iinc 1 1, 3) := by decide +kernel
theorem dX3_findBest_73 : decode cX3_findBest 73 = .ok (.goto (-45), 3) := by decide +kernel
theorem dX3_findBest_76 : decode cX3_findBest 76 = .ok (.aload_n 0, 1) := by decide +kernel
theorem dX3_findBest_77 : decode cX3_findBest 77 = .ok (.getfield 35, 3) := by decide +kernel
theorem dX3_findBest_80 : decode cX3_findBest 80 = .ok (.aload_n 0, 1) := by decide +kernel
theorem dX3_findBest_81 : decode cX3_findBest 81 = .ok (.getfield 49, 3) := by decide +kernel
theorem dX3_findBest_84 : decode cX3_findBest 84 = .ok (.invokevirtual 206, 3) := by decide +kernel
theorem dX3_findBest_87 : decode cX3_findBest 87 = .ok (.aload_n 0, 1) := by decide +kernel
theorem dX3_findBest_88 : decode cX3_findBest 88 = .ok (.iconst 1, 1) := by decide +kernel
theorem dX3_findBest_89 : decode cX3_findBest 89 = .ok (.putfield 58, 3) := by decide +kernel
theorem dX3_findBest_92 : decode cX3_findBest 92 = .ok (.return_, 1) := by decide +kernel
end
section
theorem dX4_init_0 : decode cX4_init 0 = .ok (.aload_n 0, 1) := by decide +kernel
theorem dX4_init_1 : decode cX4_init 1 = .ok (.invokespecial 1, 3) := by decide +kernel
theorem dX4_init_4 : decode cX4_init 4 = .ok (.aload_n 0, 1) := by decide +kernel
theorem dX4_init_5 : decode cX4_init 5 = .ok (.bipush 12, 2) := by decide +kernel
theorem dX4_init_7 : decode cX4_init 7 = .ok (.newarray .int, 2) := by decide +kernel
theorem dX4_init_9 : decode cX4_init 9 = .ok (.putfield 9, 3) := by decide +kernel
theorem dX4_init_12 : decode cX4_init 12 = .ok (.aload_n 0, 1) := by decide +kernel
theorem dX4_init_13 : decode cX4_init 13 = .ok (.bipush 120, 2) := by decide +kernel
theorem dX4_init_15 : decode cX4_init 15 = .ok (.newarray .int, 2) := by decide +kernel
theorem dX4_init_17 : decode cX4_init 17 = .ok (.putfield 13, 3) := by decide +kernel
theorem dX4_init_20 : decode cX4_init 20 = .ok (.aload_n 0, 1) := by decide +kernel
theorem dX4_init_21 : decode cX4_init 21 = .ok (.bipush 100, 2) := by decide +kernel
theorem dX4_init_23 : decode cX4_init 23 = .ok (.newarray .byte, 2) := by decide +kernel
theorem dX4_init_25 : decode cX4_init 25 = .ok (.putfield 16, 3) := by decide +kernel
theorem dX4_init_28 : decode cX4_init 28 = .ok (.aload_n 0, 1) := by decide +kernel
theorem dX4_init_29 : decode cX4_init 29 = .ok (.iconst (-1), 1) := by decide +kernel
theorem dX4_init_30 : decode cX4_init 30 = .ok (.putfield 20, 3) := by decide +kernel
theorem dX4_init_33 : decode cX4_init 33 = .ok (.aload_n 0, 1) := by decide +kernel
theorem dX4_init_34 : decode cX4_init 34 = .ok (.iconst 4, 1) := by decide +kernel
theorem dX4_init_35 : decode cX4_init 35 = .ok (.newarray .int, 2) := by decide +kernel
theorem dX4_init_37 : decode cX4_init 37 = .ok (.putfield 24, 3) := by decide +kernel
theorem dX4_init_40 : decode cX4_init 40 = .ok (.aload_n 0, 1) := by decide +kernel
theorem dX4_init_41 : decode cX4_init 41 = .ok (.iconst 4, 1) := by decide +kernel
theorem dX4_init_42 : decode cX4_init 42 = .ok (.newarray .boolean, 2) := by decide +kernel
theorem dX4_init_44 : decode cX4_init 44 = .ok (.putfield 27, 3) := by decide +kernel
theorem dX4_init_47 : decode cX4_init 47 = .ok (.aload_n 0, 1) := by decide +kernel
theorem dX4_init_48 : decode cX4_init 48 = .ok (.iconst (-1), 1) := by decide +kernel
theorem dX4_init_49 : decode cX4_init 49 = .ok (.putfield 31, 3) := by decide +kernel
theorem dX4_init_52 : decode cX4_init 52 = .ok (.aload_n 0, 1) := by decide +kernel
theorem dX4_init_53 : decode cX4_init 53 = .ok (.bipush 10, 2) := by decide +kernel
theorem dX4_init_55 : decode cX4_init 55 = .ok (.newarray .int, 2) := by decide +kernel
theorem dX4_init_57 : decode cX4_init 57 = .ok (.putfield 34, 3) := by decide +kernel
theorem dX4_init_60 : decode cX4_init 60 = .ok (.aload_n 0, 1) := by decide +kernel
theorem dX4_init_61 : decode cX4_init 61 = .ok (.bipush 10, 2) := by decide +kernel
theorem dX4_init_63 : decode cX4_init 63 = .ok (.newarray .int, 2) := by decide +kernel
theorem dX4_init_65 : decode cX4_init 65 = .ok (.putfield 37, 3) := by decide +kernel
theorem dX4_init_68 : decode cX4_init 68 = .ok (.aload_n 0, 1) := by decide +kernel
theorem dX4_init_69 : decode cX4_init 69 = .ok (.sipush 720, 3) := by decide +kernel
theorem dX4_init_72 : decode cX4_init 72 = .ok (.newarray .int, 2) := by decide +kernel
theorem dX4_init_74 : decode cX4_init 74 = .ok (.putfield 40, 3) := by decide +kernel
theorem dX4_init_77 : decode cX4_init 77 = .ok (.aload_n 0, 1) := by decide +kernel
theorem dX4_init_78 : decode cX4_init 78 = .ok (.bipush 60, 2) := by decide +kernel
theorem dX4_init_80 : decode cX4_init 80 = .ok (.newarray .int, 2) := by decide +kernel
theorem dX4_init_82 : decode cX4_init 82 = .ok (.putfield 43, 3) := by decide +kernel
theorem dX4_init_85 : decode cX4_init 85 = .ok (.aload_n 0, 1) := by decide +kernel
theorem dX4_init_86 : decode cX4_init 86 = .ok (.bipush 60, 2) := by decide +kernel
theorem dX4_init_88 : decode cX4_init 88 = .ok (.newarray .boolean, 2) := by decide +kernel
theorem dX4_init_90 : decode cX4_init 90 = .ok (.putfield 46, 3) := by decide +kernel
theorem dX4_init_93 : decode cX4_init 93 = .ok (.aload_n 0, 1) := by decide +kernel
theorem dX4_init_94 : decode cX4_init 94 = .ok (.bipush 7, 2) := by decide +kernel
theorem dX4_init_96 : decode cX4_init 96 = .ok (.newarray .int, 2) := by decide +kernel
theorem dX4_init_98 : decode cX4_init 98 = .ok (.putfield 49, 3) := by decide +kernel
theorem dX4_init_101 : decode cX4_init 101 = .ok (.aload_n 0, 1) := by decide +kernel
theorem dX4_init_102 : decode cX4_init 102 = .ok (.bipush 7, 2) := by decide +kernel
theorem dX4_init_104 : decode cX4_init 104 = .ok (.newarray .int, 2) := by decide +kernel
theorem dX4_init_106 : decode cX4_init 106 = .ok (.putfield 52, 3) := by decide +kernel
theorem dX4_init_109 : decode cX4_init 109 = .ok (.aload_n 0, 1) := by decide +kernel
theorem dX4_init_110 : decode cX4_init 110 = .ok (.bipush 7, 2) := by decide +kernel
theorem dX4_init_112 : decode cX4_init 112 = .ok (.newarray .int, 2) := by decide +kernel
theorem dX4_init_114 : decode cX4_init 114 = .ok (.putfield 55, 3) := by decide +kernel
theorem dX4_init_117 : decode cX4_init 117 = .ok (.aload_n 0, 1) := by decide +kernel
theorem dX4_init_118 : decode cX4_init 118 = .ok (.bipush 10, 2) := by decide +kernel
theorem dX4_init_120 : decode cX4_init 120 = .ok (.newarray .int, 2) := by decide +kernel
theorem dX4_init_122 : decode cX4_init 122 = .ok (.putfield 58, 3) := by decide +kernel
theorem dX4_init_125 : decode cX4_init 125 = .ok (.return_, 1) := by decide +kernel
theorem dX4_thrown_0 : decode cX4_thrown 0 = .ok (.aload_n 0, 1) := by decide +kernel
theorem dX4_thrown_1 : decode cX4_thrown 1 = .ok (.getfield 61, 3) := by decide +kernel
theorem dX4_thrown_4 : decode cX4_thrown 4 = .ok (.ireturn, 1) := by decide +kernel
theorem dX4_bad_0 : decode cX4_bad 0 = .ok (.iload_n 1, 1) := by decide +kernel
theorem dX4_bad_1 : decode cX4_bad 1 = .ok (.ifCond .eq 8, 3) := by decide +kernel
theorem dX4_bad_4 : decode cX4_bad 4 = .ok (.aload_n 0, 1) := by decide +kernel
theorem dX4_bad_5 : decode cX4_bad 5 = .ok (.iload_n 2, 1) := by decide +kernel
theorem dX4_bad_6 : decode cX4_bad 6 = .ok (.putfield 61, 3) := by decide +kernel
theorem dX4_bad_9 : decode cX4_bad 9 = .ok (.iload_n 1, 1) := by decide +kernel
theorem dX4_bad_10 : decode cX4_bad 10 = .ok (.ireturn, 1) := by decide +kernel
set_option maxRecDepth 20000 in
theorem ggX4_push_X4_bad : GoodIn wsX4_push wsX4_bad := goodIn_r _ [8, 1, 9, 10, 11, 12, 13, 14, 15, 16, 17, 18, 19, 20, 21, 22, 23, 24, 25, 26, 27, 28, 29, 30, 31, 32, 33, 34, 35, 36] (by decide +kernel) (by decide +kernel)
set_option maxRecDepth 20000 in
theorem gX4_push_X4_bad : GoodIn wsX4_push (wsV RX4 64 RX4 yX4_bad wsX4_bad) := goodIn_app (goodIn_of _ (by decide +kernel)) ggX4_push_X4_bad
theorem dX4_push_0 : decode cX4_push 0 = .ok (.aload_n 0, 1) := by decide +kernel
theorem dX4_push_1 : decode cX4_push 1 = .ok (.iconst 0, 1) := by decide +kernel
theorem dX4_push_2 : decode cX4_push 2 = .ok (.putfield 61, 3) := by decide +kernel
theorem dX4_push_5 : decode cX4_push 5 = .ok (.aload_n 0, 1) := by decide +kernel
theorem dX4_push_6 : decode cX4_push 6 = .ok (.iload_n 1, 1) := by decide +kernel
theorem dX4_push_7 : decode cX4_push 7 = .ok (.bipush 50, 2) := by decide +kernel
theorem dX4_push_9 : decode cX4_push 9 = .ok (.if_icmp .lt 10, 3) := by decide +kernel
theorem dX4_push_12 : decode cX4_push 12 = .ok (.iload_n 1, 1) := by decide +kernel
theorem dX4_push_13 : decode cX4_push 13 = .ok (.sipush 200, 3) := by decide +kernel
theorem dX4_push_16 : decode cX4_push 16 = .ok (.if_icmp .le 7, 3) := by decide +kernel
theorem dX4_push_19 : decode cX4_push 19 = .ok (.iconst 1, 1) := by decide +kernel
theorem dX4_push_20 : decode cX4_push 20 = .ok (.goto 4, 3) := by decide +kernel
theorem dX4_push_23 : decode cX4_push 23 = .ok (.iconst 0, 1) := by decide +kernel
theorem dX4_push_24 : decode cX4_push 24 = .ok (.iconst 1, 1) := by decide +kernel
theorem dX4_push_25 : decode cX4_push 25 = .ok (.invokevirtual 64, 3) := by decide +kernel
theorem dX4_push_28 : decode cX4_push 28 = .ok (.ifCond .eq 5, 3) := by decide +kernel
theorem dX4_push_31 : decode cX4_push 31 = .ok (.iconst 0, 1) := by decide +kernel
theorem dX4_push_32 : decode cX4_push 32 = .ok (.ireturn, 1) := by decide +kernel
theorem dX4_push_33 : decode cX4_push 33 = .ok (.aload_n 0, 1) := by decide +kernel
theorem dX4_push_34 : decode cX4_push 34 = .ok (.getfield 68, 3) := by decide +kernel
theorem dX4_push_37 : decode cX4_push 37 = .ok (.bipush 12, 2) := by decide +kernel
theorem dX4_push_39 : decode cX4_push 39 = .ok (.if_icmp .ne 5, 3) := by decide +kernel
theorem dX4_push_42 : decode cX4_push 42 = .ok (.iconst (-1), 1) := by decide +kernel
theorem dX4_push_43 : decode cX4_push 43 = .ok (.ireturn, 1) := by decide +kernel
theorem dX4_push_44 : decode cX4_push 44 = .ok (.aload_n 0, 1) := by decide +kernel
theorem dX4_push_45 : decode cX4_push 45 = .ok (.getfield 9, 3) := by decide +kernel
theorem dX4_push_48 : decode cX4_push 48 = .ok (.aload_n 0, 1) := by decide +kernel
theorem dX4_push_49 : decode cX4_push 49 = .ok (.getfield 68, 3) := by decide +kernel
theorem dX4_push_52 : decode cX4_push 52 = .ok (.iload_n 1, 1) := by decide +kernel
theorem dX4_push_53 : decode cX4_push 53 = .ok (.iastore, 1) := by decide +kernel
theorem dX4_push_54 : decode cX4_push 54 = .ok (.aload_n 0, 1) := by decide +kernel
theorem dX4_push_55 : decode cX4_push 55 = .ok (.dup, 1) := by decide +kernel
theorem dX4_push_56 : decode cX4_push 56 = .ok (.getfield 68, 3) := by decide +kernel
theorem dX4_push_59 : decode cX4_push 59 = .ok (.iconst 1, 1) := by decide +kernel
theorem dX4_push_60 : decode cX4_push 60 = .ok (.iadd, 1) := by decide +kernel
theorem dX4_push_61 : decode cX4_push 61 = .ok (.putfield 68, 3) := by decide +kernel
theorem dX4_push_64 : decode cX4_push 64 = .ok (.aload_n 0, 1) := by decide +kernel
theorem dX4_push_65 : decode cX4_push 65 = .ok (.getfield 68, 3) := by decide +kernel
theorem dX4_push_68 : decode cX4_push 68 = .ok (.ireturn, 1) := by decide +kernel
set_option maxRecDepth 20000 in
theorem ggX4_block_X4_bad : GoodIn wsX4_block wsX4_bad := goodIn_r _ [10, 1, 11, 12, 13, 14, 15, 16, 17, 18, 19, 20, 21, 22, 23, 24, 25, 26, 27, 28, 29, 30, 31, 32, 33, 34, 35, 36, 37, 38] (by decide +kernel) (by decide +kernel)
set_option maxRecDepth 20000 in
theorem gX4_block_X4_bad : GoodIn wsX4_block (wsV RX4 64 RX4 yX4_bad wsX4_bad) := goodIn_app (goodIn_of _ (by decide +kernel)) ggX4_block_X4_bad
theorem dX4_block_0 : decode cX4_block 0 = .ok (.aload_n 0, 1) := by decide +kernel
theorem dX4_block_1 : decode cX4_block 1 = .ok (.iconst 0, 1) := by decide +kernel
theorem dX4_block_2 : decode cX4_block 2 = .ok (.putfield 61, 3) := by decide +kernel
theorem dX4_block_5 : decode cX4_block 5 = .ok (.aload_n 0, 1) := by decide +kernel
theorem dX4_block_6 : decode cX4_block 6 = .ok (.aload_n 0, 1) := by decide +kernel
theorem dX4_block_7 : decode cX4_block 7 = .ok (.getfield 71, 3) := by decide +kernel
theorem dX4_block_10 : decode cX4_block 10 = .ok (.bipush 10, 2) := by decide +kernel
theorem dX4_block_12 : decode cX4_block 12 = .ok (.if_icmp .ne 7, 3) := by decide +kernel
theorem dX4_block_15 : decode cX4_block 15 = .ok (.iconst 1, 1) := by decide +kernel
theorem dX4_block_16 : decode cX4_block 16 = .ok (.goto 4, 3) := by decide +kernel
theorem dX4_block_19 : decode cX4_block 19 = .ok (.iconst 0, 1) := by decide +kernel
theorem dX4_block_20 : decode cX4_block 20 = .ok (.iconst 1, 1) := by decide +kernel
theorem dX4_block_21 : decode cX4_block 21 = .ok (.invokevirtual 64, 3) := by decide +kernel
theorem dX4_block_24 : decode cX4_block 24 = .ok (.ifCond .eq 5, 3) := by decide +kernel
theorem dX4_block_27 : decode cX4_block 27 = .ok (.iconst 0, 1) := by decide +kernel
theorem dX4_block_28 : decode cX4_block 28 = .ok (.ireturn, 1) := by decide +kernel
theorem dX4_block_29 : decode cX4_block 29 = .ok (.aload_n 0, 1) := by decide +kernel
theorem dX4_block_30 : decode cX4_block 30 = .ok (.getfield 68, 3) := by decide +kernel
theorem dX4_block_33 : decode cX4_block 33 = .ok (.bipush 12, 2) := by decide +kernel
theorem dX4_block_35 : decode cX4_block 35 = .ok (.if_icmp .ge 5, 3) := by decide +kernel
theorem dX4_block_38 : decode cX4_block 38 = .ok (.iconst (-1), 1) := by decide +kernel
theorem dX4_block_39 : decode cX4_block 39 = .ok (.ireturn, 1) := by decide +kernel
theorem dX4_block_40 : decode cX4_block 40 = .ok (.iconst 0, 1) := by decide +kernel
theorem dX4_block_41 : decode cX4_block 41 = .ok (.istore_n 1, 1) := by decide +kernel
theorem dX4_block_42 : decode cX4_block 42 = .ok (.iload_n 1, 1) := by decide +kernel
theorem dX4_block_43 : decode cX4_block 43 = .ok (.bipush 12, 2) := by decide +kernel
theorem dX4_block_45 : decode cX4_block 45 = .ok (.if_icmp .ge 29, 3) := by decide +kernel
theorem dX4_block_48 : decode cX4_block 48 = .ok (.aload_n 0, 1) := by decide +kernel
theorem dX4_block_49 : decode cX4_block 49 = .ok (.getfield 13, 3) := by decide +kernel
theorem dX4_block_52 : decode cX4_block 52 = .ok (.bipush 12, 2) := by decide +kernel
theorem dX4_block_54 : decode cX4_block 54 = .ok (.aload_n 0, 1) := by decide +kernel
theorem dX4_block_55 : decode cX4_block 55 = .ok (.getfield 71, 3) := by decide +kernel
theorem dX4_block_58 : decode cX4_block 58 = .ok (.imul, 1) := by decide +kernel
theorem dX4_block_59 : decode cX4_block 59 = .ok (.iload_n 1, 1) := by decide +kernel
theorem dX4_block_60 : decode cX4_block 60 = .ok (.iadd, 1) := by decide +kernel
theorem dX4_block_61 : decode cX4_block 61 = .ok (.aload_n 0, 1) := by decide +kernel
theorem dX4_block_62 : decode cX4_block 62 = .ok (.getfield 9, 3) := by decide +kernel
theorem dX4_block_65 : decode cX4_block 65 = .ok (.iload_n 1, 1) := by decide +kernel
theorem dX4_block_66 : decode cX4_block 66 = .ok (.iaload, 1) := by decide +kernel
theorem dX4_block_67 : decode cX4_block 67 = .ok (.iastore, 1) := by decide +kernel
theorem dX4_block_68 : decode cX4_block 68 = .ok (.iinc 1 1, 3) := by decide +kernel
theorem dX4_block_71 : decode cX4_block 71 = .ok (.goto (-29), 3) := by decide +kernel
theorem dX4_block_74 : decode cX4_block 74 = .ok (.aload_n 0, 1) := by decide +kernel
theorem dX4_block_75 : decode cX4_block 75 = .ok (.iconst 0, 1) := by decide +kernel
theorem dX4_block_76 : decode cX4_block 76 = .ok (.putfield 68, 3) := by decide +kernel
theorem dX4_block_79 : decode cX4_block 79 = .ok (.aload_n 0, 1) := by decide +kernel
theorem dX4_block_80 : decode cX4_block 80 = .ok (.dup, 1) := by decide +kernel
theorem dX4_block_81 : decode cX4_block 81 = .ok (.getfield 71, 3) := by decide +kernel
theorem dX4_block_84 : decode cX4_block 84 = .ok (.iconst 1, 1) := by decide +kernel
theorem dX4_block_85 : decode cX4_block 85 = .ok (.iadd, 1) := by decide +kernel
theorem dX4_block_86 : decode cX4_block 86 = .ok (.putfield 71, 3) := by decide +kernel
theorem dX4_block_89 : decode cX4_block 89 = .ok (.aload_n 0, 1) := by decide +kernel
theorem dX4_block_90 : decode cX4_block 90 = .ok (.getfield 71, 3) := by decide +kernel
theorem dX4_block_93 : decode cX4_block 93 = .ok (.iconst 1, 1) := by decide +kernel
theorem dX4_block_94 : decode cX4_block 94 = .ok (.isub, 1) := by decide +kernel
theorem dX4_block_95 : decode cX4_block 95 = .ok (.ireturn, 1) := by decide +kernel
theorem dX4_misfitOf_0 : decode cX4_misfitOf 0 = .ok (.iconst 0, 1) := by decide +kernel
theorem dX4_misfitOf_1 : decode cX4_misfitOf 1 = .ok (.istore_n 3, 1) := by decide +kernel
theorem dX4_misfitOf_2 : decode cX4_misfitOf 2 = .ok (.iconst 0, 1) := by decide +kernel
theorem dX4_misfitOf_3 : decode cX4_misfitOf 3 = .ok (.istore 4, 2) := by decide +kernel
theorem dX4_misfitOf_5 : decode cX4_misfitOf 5 = .ok (.iload 4, 2) := by decide +kernel
theorem dX4_misfitOf_7 : decode cX4_misfitOf 7 = .ok (.bipush 12, 2) := by decide +kernel
theorem dX4_misfitOf_9 : decode cX4_misfitOf 9 = .ok (.if_icmp .ge 44, 3) := by decide +kernel
theorem dX4_misfitOf_12 : decode cX4_misfitOf 12 = .ok (.aload_n 0, 1) := by decide +kernel
theorem dX4_misfitOf_13 : decode cX4_misfitOf 13 = .ok (.getfield 9, 3) := by decide +kernel
theorem dX4_misfitOf_16 : decode cX4_misfitOf 16 = .ok (.iload 4, 2) := by decide +kernel
theorem dX4_misfitOf_18 : decode cX4_misfitOf 18 = .ok (.iload_n 2, 1) := by decide +kernel
theorem dX4_misfitOf_19 : decode cX4_misfitOf 19 = .ok (.iadd, 1) := by decide +kernel
theorem dX4_misfitOf_20 : decode cX4_misfitOf 20 = .ok (.bipush 12, 2) := by decide +kernel
theorem dX4_misfitOf_22 : decode cX4_misfitOf 22 = .ok (.irem, 1) := by decide +kernel
theorem dX4_misfitOf_23 : decode cX4_misfitOf 23 = .ok (.iaload, 1) := by decide +kernel
theorem dX4_misfitOf_24 : decode cX4_misfitOf 24 = .ok (.aload_n 0, 1) := by decide +kernel
theorem dX4_misfitOf_25 : decode cX4_misfitOf 25 = .ok (.getfield 13, 3) := by decide +kernel
theorem dX4_misfitOf_28 : decode cX4_misfitOf 28 = .ok (.bipush 12, 2) := by decide +kernel
theorem dX4_misfitOf_30 : decode cX4_misfitOf 30 = .ok (.iload_n 1, 1) := by decide +kernel
theorem dX4_misfitOf_31 : decode cX4_misfitOf 31 = .ok (.imul, 1) := by decide +kernel
theorem dX4_misfitOf_32 : decode cX4_misfitOf 32 = .ok (.iload 4, 2) := by decide +kernel
theorem dX4_misfitOf_34 : decode cX4_misfitOf 34 = .ok (.iadd, 1) := by decide +kernel
theorem dX4_misfitOf_35 : decode cX4_misfitOf 35 = .ok (.iaload, 1) := by decide +kernel
theorem dX4_misfitOf_36 : decode cX4_misfitOf 36 = .ok (.isub, 1) := by decide +kernel
theorem dX4_misfitOf_37 : decode cX4_misfitOf 37 = .ok (.istore 5, 2) := by decide +kernel
theorem dX4_misfitOf_39 : decode cX4_misfitOf 39 = .ok (.iload_n 3, 1) := by decide +kernel
theorem dX4_misfitOf_40 : decode cX4_misfitOf 40 = .ok (.iload 5, 2) := by decide +kernel
theorem dX4_misfitOf_42 : decode cX4_misfitOf 42 = .ok (.iload 5, 2) := by decide +kernel
theorem dX4_misfitOf_44 : decode cX4_misfitOf 44 = .ok (.imul, 1) := by decide +kernel
theorem dX4_misfitOf_45 : decode cX4_misfitOf 45 = .ok (.iadd, 1) := by decide +kernel
theorem dX4_misfitOf_46 : decode cX4_misfitOf 46 = .ok (.istore_n 3, 1) := by decide +kernel
theorem dX4_misfitOf_47 : decode cX4_misfitOf 47 = .ok (.iinc 4 1, 3) := by decide +kernel
theorem dX4_misfitOf_50 : decode cX4_misfitOf 50 = .ok (.goto (-45), 3) := by decide +kernel
theorem dX4_misfitOf_53 : decode cX4_misfitOf 53 = .ok (.iload_n 3, 1) := by decide +kernel
theorem dX4_misfitOf_54 : decode cX4_misfitOf 54 = .ok (.ireturn, 1) := by decide +kernel
theorem dX4_isBlock_0 : decode cX4_isBlock 0 = .ok (.aload_n 0, 1) := by decide +kernel
theorem dX4_isBlock_1 : decode cX4_isBlock 1 = .ok (.iload_n 1, 1) := by decide +kernel
theorem dX4_isBlock_2 : decode cX4_isBlock 2 = .ok (.ifCond .lt 11, 3) := by decide +kernel
theorem dX4_isBlock_5 : decode cX4_isBlock 5 = .ok (.iload_n 1, 1) := by decide +kernel
theorem dX4_isBlock_6 : decode cX4_isBlock 6 = .ok (.aload_n 0, 1) := by decide +kernel
theorem dX4_isBlock_7 : decode cX4_isBlock 7 = .ok (.getfield 71, 3) := by decide +kernel
theorem dX4_isBlock_10 : decode cX4_isBlock 10 = .ok (.if_icmp .lt 7, 3) := by decide +kernel
theorem dX4_isBlock_13 : decode cX4_isBlock 13 = .ok (.iconst 1, 1) := by decide +kernel
theorem dX4_isBlock_14 : decode cX4_isBlock 14 = .ok (.goto 4, 3) := by decide +kernel
theorem dX4_isBlock_17 : decode cX4_isBlock 17 = .ok (.iconst 0, 1) := by decide +kernel
theorem dX4_isBlock_18 : decode cX4_isBlock 18 = .ok (.putfield 61, 3) := by decide +kernel
theorem dX4_isBlock_21 : decode cX4_isBlock 21 = .ok (.aload_n 0, 1) := by decide +kernel
theorem dX4_isBlock_22 : decode cX4_isBlock 22 = .ok (.getfield 61, 3) := by decide +kernel
theorem dX4_isBlock_25 : decode cX4_isBlock 25 = .ok (.ifCond .ne 7, 3) := by decide +kernel
theorem dX4_isBlock_28 : decode cX4_isBlock 28 = .ok (.iconst 1, 1) := by decide +kernel
theorem dX4_isBlock_29 : decode cX4_isBlock 29 = .ok (.goto 4, 3) := by decide +kernel
theorem dX4_isBlock_32 : decode cX4_isBlock 32 = .ok (.iconst 0, 1) := by decide +kernel
theorem dX4_isBlock_33 : decode cX4_isBlock 33 = .ok (.ireturn, 1) := by decide +kernel
set_option maxRecDepth 20000 in
theorem ggX4_misfit_X4_isBlock : GoodIn wsX4_misfit wsX4_isBlock := goodIn_r _ [6, 7, 8, 19, 20, 21, 22, 23, 24, 25, 26, 27, 28, 29, 30, 31, 32, 33, 34, 35, 36, 37, 38, 39, 40, 41, 42, 43, 44, 45, 46] (by decide +kernel) (by decide +kernel)
set_option maxRecDepth 20000 in
theorem gX4_misfit_X4_isBlock : GoodIn wsX4_misfit (wsV RX4 74 RX4 yX4_isBlock wsX4_isBlock) := goodIn_app (goodIn_of _ (by decide +kernel)) ggX4_misfit_X4_isBlock
set_option maxRecDepth 20000 in
theorem ggX4_misfit_X4_bad : GoodIn wsX4_misfit wsX4_bad := goodIn_r _ [12, 8, 19, 20, 21, 22, 23, 24, 25, 26, 27, 28, 29, 30, 31, 32, 33, 34, 35, 36, 37, 38, 39, 40, 41, 42, 43, 44, 45, 46] (by decide +kernel) (by decide +kernel)
set_option maxRecDepth 20000 in
theorem gX4_misfit_X4_bad : GoodIn wsX4_misfit (wsV RX4 64 RX4 yX4_bad wsX4_bad) := goodIn_app (goodIn_of _ (by decide +kernel)) ggX4_misfit_X4_bad
set_option maxRecDepth 20000 in
theorem ggX4_misfit_X4_misfitOf : GoodIn wsX4_misfit wsX4_misfitOf := goodIn_r _ [16, 17, 18, 19, 20, 21, 22, 23, 24, 25, 26, 27, 28, 29, 30, 31, 32, 33, 34, 35, 36, 37, 38, 39, 40, 41, 42, 43, 44, 45, 46] (by decide +kernel) (by decide +kernel)
set_option maxRecDepth 20000 in
theorem gX4_misfit_X4_misfitOf : GoodIn wsX4_misfit (wsV RX4 78 RX4 yX4_misfitOf wsX4_misfitOf) := goodIn_app (goodIn_of _ (by decide +kernel)) ggX4_misfit_X4_misfitOf
theorem dX4_misfit_0 : decode cX4_misfit 0 = .ok (.aload_n 0, 1) := by decide +kernel
theorem dX4_misfit_1 : decode cX4_misfit 1 = .ok (.iload_n 1, 1) := by decide +kernel
theorem dX4_misfit_2 : decode cX4_misfit 2 = .ok (.invokevirtual 74, 3) := by decide +kernel
theorem dX4_misfit_5 : decode cX4_misfit 5 = .ok (.ifCond .eq 26, 3) := by decide +kernel
theorem dX4_misfit_8 : decode cX4_misfit 8 = .ok (.aload_n 0, 1) := by decide +kernel
theorem dX4_misfit_9 : decode cX4_misfit 9 = .ok (.iload_n 2, 1) := by decide +kernel
theorem dX4_misfit_10 : decode cX4_misfit 10 = .ok (.ifCond .lt 9, 3) := by decide +kernel
theorem dX4_misfit_13 : decode cX4_misfit 13 = .ok (.iload_n 2, 1) := by decide +kernel
theorem dX4_misfit_14 : decode cX4_misfit 14 = .ok (.bipush 12, 2) := by decide +kernel
theorem dX4_misfit_16 : decode cX4_misfit 16 = .ok (.if_icmp .lt 7, 3) := by decide +kernel
theorem dX4_misfit_19 : decode cX4_misfit 19 = .ok (.iconst 1, 1) := by decide +kernel
theorem dX4_misfit_20 : decode cX4_misfit 20 = .ok (.goto 4, 3) := by decide +kernel
theorem dX4_misfit_23 : decode cX4_misfit 23 = .ok (.iconst 0, 1) := by decide +kernel
theorem dX4_misfit_24 : decode cX4_misfit 24 = .ok (.iconst 2, 1) := by decide +kernel
theorem dX4_misfit_25 : decode cX4_misfit 25 = .ok (.invokevirtual 64, 3) := by decide +kernel
theorem dX4_misfit_28 : decode cX4_misfit 28 = .ok (.ifCond .eq 5, 3) := by decide +kernel
theorem dX4_misfit_31 : decode cX4_misfit 31 = .ok (.iconst 0, 1) := by decide +kernel
theorem dX4_misfit_32 : decode cX4_misfit 32 = .ok (.ireturn, 1) := by decide +kernel
theorem dX4_misfit_33 : decode cX4_misfit 33 = .ok (.aload_n 0, 1) := by decide +kernel
theorem dX4_misfit_34 : decode cX4_misfit 34 = .ok (.getfield 68, 3) := by decide +kernel
theorem dX4_misfit_37 : decode cX4_misfit 37 = .ok (.bipush 12, 2) := by decide +kernel
theorem dX4_misfit_39 : decode cX4_misfit 39 = .ok (.if_icmp .ge 7, 3) := by decide +kernel
theorem dX4_misfit_42 : decode cX4_misfit 42 = .ok (.iconst (-1), 1) := by decide +kernel
theorem dX4_misfit_43 : decode cX4_misfit 43 = .ok (.goto 9, 3) := by decide +kernel
theorem dX4_misfit_46 : decode cX4_misfit 46 = .ok (.aload_n 0, 1) := by decide +kernel
theorem dX4_misfit_47 : decode cX4_misfit 47 = .ok (.iload_n 1, 1) := by decide +kernel
theorem dX4_misfit_48 : decode cX4_misfit 48 = .ok (.iload_n 2, 1) := by decide +kernel
theorem dX4_misfit_49 : decode cX4_misfit 49 = .ok (.invokevirtual 78, 3) := by decide +kernel
theorem dX4_misfit_52 : decode cX4_misfit 52 = .ok (.ireturn, 1) := by decide +kernel
theorem dX4_feed_0 : decode cX4_feed 0 = .ok (.aload_n 0, 1) := by decide +kernel
theorem dX4_feed_1 : decode cX4_feed 1 = .ok (.iconst 0, 1) := by decide +kernel
theorem dX4_feed_2 : decode cX4_feed 2 = .ok (.putfield 61, 3) := by decide +kernel
theorem dX4_feed_5 : decode cX4_feed 5 = .ok (.aload_n 0, 1) := by decide +kernel
theorem dX4_feed_6 : decode cX4_feed 6 = .ok (.getfield 82, 3) := by decide +kernel
theorem dX4_feed_9 : decode cX4_feed 9 = .ok (.bipush 20, 2) := by decide +kernel
theorem dX4_feed_11 : decode cX4_feed 11 = .ok (.iadd, 1) := by decide +kernel
theorem dX4_feed_12 : decode cX4_feed 12 = .ok (.bipush 100, 2) := by decide +kernel
theorem dX4_feed_14 : decode cX4_feed 14 = .ok (.if_icmp .le 5, 3) := by decide +kernel
theorem dX4_feed_17 : decode cX4_feed 17 = .ok (.iconst (-1), 1) := by decide +kernel
theorem dX4_feed_18 : decode cX4_feed 18 = .ok (.ireturn, 1) := by decide +kernel
theorem dX4_feed_19 : decode cX4_feed 19 = .ok (.iconst 0, 1) := by decide +kernel
theorem dX4_feed_20 : decode cX4_feed 20 = .ok (.istore 6, 2) := by decide +kernel
theorem dX4_feed_22 : decode cX4_feed 22 = .ok (.iload 6, 2) := by decide +kernel
theorem dX4_feed_24 : decode cX4_feed 24 = .ok (.iconst 5, 1) := by decide +kernel
theorem dX4_feed_25 : decode cX4_feed 25 = .ok (.if_icmp .ge 93, 3) := by decide +kernel
theorem dX4_feed_28 : decode cX4_feed 28 = .ok (.iload 6, 2) := by decide +kernel
theorem dX4_feed_30 : decode cX4_feed 30 = .ok (.ifCond .ne 7, 3) := by decide +kernel
theorem dX4_feed_33 : decode cX4_feed 33 = .ok (.iload_n 1, 1) := by decide +kernel
theorem dX4_feed_34 : decode cX4_feed 34 = .ok (.goto 36, 3) := by decide +kernel
theorem dX4_feed_37 : decode cX4_feed 37 = .ok (.iload 6, 2) := by decide +kernel
theorem dX4_feed_39 : decode cX4_feed 39 = .ok (.iconst 1, 1) := by decide +kernel
theorem dX4_feed_40 : decode cX4_feed 40 = .ok (.if_icmp .ne 7, 3) := by decide +kernel
theorem dX4_feed_43 : decode cX4_feed 43 = .ok (.iload_n 2, 1) := by decide +kernel
theorem dX4_feed_44 : decode cX4_feed 44 = .ok (.goto 26, 3) := by decide +kernel
theorem dX4_feed_47 : decode cX4_feed 47 = .ok (.iload 6, 2) := by decide +kernel
theorem dX4_feed_49 : decode cX4_feed 49 = .ok (.iconst 2, 1) := by decide +kernel
theorem dX4_feed_50 : decode cX4_feed 50 = .ok (.if_icmp .ne 7, 3) := by decide +kernel
theorem dX4_feed_53 : decode cX4_feed 53 = .ok (.iload_n 3, 1) := by decide +kernel
theorem dX4_feed_54 : decode cX4_feed 54 = .ok (.goto 16, 3) := by decide +kernel
theorem dX4_feed_57 : decode cX4_feed 57 = .ok (.iload 6, 2) := by decide +kernel
theorem dX4_feed_59 : decode cX4_feed 59 = .ok (.iconst 3, 1) := by decide +kernel
theorem dX4_feed_60 : decode cX4_feed 60 = .ok (.if_icmp .ne 8, 3) := by decide +kernel
theorem dX4_feed_63 : decode cX4_feed 63 = .ok (.iload 4, 2) := by decide +kernel
theorem dX4_feed_65 : decode cX4_feed 65 = .ok (.goto 5, 3) := by decide +kernel
theorem dX4_feed_68 : decode cX4_feed 68 = .ok (.iload 5, 2) := by decide +kernel
theorem dX4_feed_70 : decode cX4_feed 70 = .ok (.istore 7, 2) := by decide +kernel
theorem dX4_feed_72 : decode cX4_feed 72 = .ok (.bipush 24, 2) := by decide +kernel
theorem dX4_feed_74 : decode cX4_feed 74 = .ok (.istore 8, 2) := by decide +kernel
theorem dX4_feed_76 : decode cX4_feed 76 = .ok (.iload 8, 2) := by decide +kernel
theorem dX4_feed_78 : decode cX4_feed 78 = .ok (.ifCond .lt 34, 3) := by decide +kernel
theorem dX4_feed_81 : decode cX4_feed 81 = .ok (.aload_n 0, 1) := by decide +kernel
theorem dX4_feed_82 : decode cX4_feed 82 = .ok (.getfield 16, 3) := by decide +kernel
theorem dX4_feed_85 : decode cX4_feed 85 = .ok (.aload_n 0, 1) := by decide +kernel
theorem dX4_feed_86 : decode cX4_feed 86 = .ok (.getfield 82, 3) := by decide +kernel
theorem dX4_feed_89 : decode cX4_feed 89 = .ok (.iload 7, 2) := by decide +kernel
theorem dX4_feed_91 : decode cX4_feed 91 = .ok (.iload 8, 2) := by decide +kernel
theorem dX4_feed_93 : decode cX4_feed 93 = .ok (.ishr, 1) := by decide +kernel
theorem dX4_feed_94 : decode cX4_feed 94 = .ok (.i2b, 1) := by decide +kernel
theorem dX4_feed_95 : decode cX4_feed 95 = .ok (.bastore, 1) := by decide +kernel
theorem dX4_feed_96 : decode cX4_feed 96 = .ok (.aload_n 0, 1) := by decide +kernel
theorem dX4_feed_97 : decode cX4_feed 97 = .ok (.dup, 1) := by decide +kernel
theorem dX4_feed_98 : decode cX4_feed 98 = .ok (.getfield 82, 3) := by decide +kernel
theorem dX4_feed_101 : decode cX4_feed 101 = .ok (.iconst 1, 1) := by decide +kernel
theorem dX4_feed_102 : decode cX4_feed 102 = .ok (.iadd, 1) := by decide +kernel
theorem dX4_feed_103 : decode cX4_feed 103 = .ok (.putfield 82, 3) := by decide +kernel
theorem dX4_feed_106 : decode cX4_feed 106 = .ok (.iinc 8 (-8), 3) := by decide +kernel
theorem dX4_feed_109 : decode cX4_feed 109 = .ok (.goto (-33), 3) := by decide +kernel
theorem dX4_feed_112 : decode cX4_feed 112 = .ok (.iinc 6 1, 3) := by decide +kernel
theorem dX4_feed_115 : decode cX4_feed 115 = .ok (.goto (-93), 3) := by decide +kernel
theorem dX4_feed_118 : decode cX4_feed 118 = .ok (.aload_n 0, 1) := by decide +kernel
theorem dX4_feed_119 : decode cX4_feed 119 = .ok (.getfield 82, 3) := by decide +kernel
theorem dX4_feed_122 : decode cX4_feed 122 = .ok (.ireturn, 1) := by decide +kernel
theorem dX4_byteAt_0 : decode cX4_byteAt 0 = .ok (.iload_n 1, 1) := by decide +kernel
theorem dX4_byteAt_1 : decode cX4_byteAt 1 = .ok (.aload_n 0, 1) := by decide +kernel
theorem dX4_byteAt_2 : decode cX4_byteAt 2 = .ok (.getfield 85, 3) := by decide +kernel
theorem dX4_byteAt_5 : decode cX4_byteAt 5 = .ok (.if_icmp .ge 16, 3) := by decide +kernel
theorem dX4_byteAt_8 : decode cX4_byteAt 8 = .ok (.aload_n 0, 1) := by decide +kernel
theorem dX4_byteAt_9 : decode cX4_byteAt 9 = .ok (.getfield 16, 3) := by decide +kernel
theorem dX4_byteAt_12 : decode cX4_byteAt 12 = .ok (.iload_n 1, 1) := by decide +kernel
theorem dX4_byteAt_13 : decode cX4_byteAt 13 = .ok (.baload, 1) := by decide +kernel
theorem dX4_byteAt_14 : decode cX4_byteAt 14 = .ok (.sipush 255, 3) := by decide +kernel
theorem dX4_byteAt_17 : decode cX4_byteAt 17 = .ok (.iand, 1) := by decide +kernel
theorem dX4_byteAt_18 : decode cX4_byteAt 18 = .ok (.goto 4, 3) := by decide +kernel
theorem dX4_byteAt_21 : decode cX4_byteAt 21 = .ok (.iconst 0, 1) := by decide +kernel
theorem dX4_byteAt_22 : decode cX4_byteAt 22 = .ok (.ireturn, 1) := by decide +kernel
set_option maxRecDepth 20000 in
theorem ggX4_blanks_X4_byteAt : GoodIn wsX4_blanks wsX4_byteAt := goodIn_r _ [7, 2, 8, 9, 10, 11, 12, 13, 14, 15, 16, 17, 18, 19, 20, 21, 22, 23, 24, 25, 26, 27, 28, 29, 30, 31, 32, 33, 34, 35, 36] (by decide +kernel) (by decide +kernel)
set_option maxRecDepth 20000 in
theorem gX4_blanks_X4_byteAt : GoodIn wsX4_blanks (wsV RX4 91 RX4 yX4_byteAt wsX4_byteAt) := goodIn_app (goodIn_of _ (by decide +kernel)) ggX4_blanks_X4_byteAt
theorem dX4_blanks_0 : decode cX4_blanks 0 = .ok (.aload_n 0, 1) := by decide +kernel
theorem dX4_blanks_1 : decode cX4_blanks 1 = .ok (.getfield 88, 3) := by decide +kernel
theorem dX4_blanks_4 : decode cX4_blanks 4 = .ok (.aload_n 0, 1) := by decide +kernel
theorem dX4_blanks_5 : decode cX4_blanks 5 = .ok (.getfield 85, 3) := by decide +kernel
theorem dX4_blanks_8 : decode cX4_blanks 8 = .ok (.if_icmp .ge 29, 3) := by decide +kernel
theorem dX4_blanks_11 : decode cX4_blanks 11 = .ok (.aload_n 0, 1) := by decide +kernel
theorem dX4_blanks_12 : decode cX4_blanks 12 = .ok (.aload_n 0, 1) := by decide +kernel
theorem dX4_blanks_13 : decode cX4_blanks 13 = .ok (.getfield 88, 3) := by decide +kernel
theorem dX4_blanks_16 : decode cX4_blanks 16 = .ok (.invokevirtual 91, 3) := by decide +kernel
theorem dX4_blanks_19 : decode cX4_blanks 19 = .ok (.bipush 32, 2) := by decide +kernel
theorem dX4_blanks_21 : decode cX4_blanks 21 = .ok (.if_icmp .ne 16, 3) := by decide +kernel
theorem dX4_blanks_24 : decode cX4_blanks 24 = .ok (.aload_n 0, 1) := by decide +kernel
theorem dX4_blanks_25 : decode cX4_blanks 25 = .ok (.dup, 1) := by decide +kernel
theorem dX4_blanks_26 : decode cX4_blanks 26 = .ok (.getfield 88, 3) := by decide +kernel
theorem dX4_blanks_29 : decode cX4_blanks 29 = .ok (.iconst 1, 1) := by decide +kernel
theorem dX4_blanks_30 : decode cX4_blanks 30 = .ok (.iadd, 1) := by decide +kernel
theorem dX4_blanks_31 : decode cX4_blanks 31 = .ok (.putfield 88, 3) := by decide +kernel
theorem dX4_blanks_34 : decode cX4_blanks 34 = .ok (.goto (-34), 3) := by decide +kernel
theorem dX4_blanks_37 : decode cX4_blanks 37 = .ok (.return_, 1) := by decide +kernel
theorem dX4_isSmall_0 : decode cX4_isSmall 0 = .ok (.iload_n 0, 1) := by decide +kernel
theorem dX4_isSmall_1 : decode cX4_isSmall 1 = .ok (.bipush 97, 2) := by decide +kernel
theorem dX4_isSmall_3 : decode cX4_isSmall 3 = .ok (.if_icmp .lt 13, 3) := by decide +kernel
theorem dX4_isSmall_6 : decode cX4_isSmall 6 = .ok (.iload_n 0, 1) := by decide +kernel
theorem dX4_isSmall_7 : decode cX4_isSmall 7 = .ok (.bipush 122, 2) := by decide +kernel
theorem dX4_isSmall_9 : decode cX4_isSmall 9 = .ok (.if_icmp .gt 7, 3) := by decide +kernel
theorem dX4_isSmall_12 : decode cX4_isSmall 12 = .ok (.iconst 1, 1) := by decide +kernel
theorem dX4_isSmall_13 : decode cX4_isSmall 13 = .ok (.goto 4, 3) := by decide +kernel
theorem dX4_isSmall_16 : decode cX4_isSmall 16 = .ok (.iconst 0, 1) := by decide +kernel
theorem dX4_isSmall_17 : decode cX4_isSmall 17 = .ok (.ireturn, 1) := by decide +kernel
theorem dX4_isDigit_0 : decode cX4_isDigit 0 = .ok (.iload_n 0, 1) := by decide +kernel
theorem dX4_isDigit_1 : decode cX4_isDigit 1 = .ok (.bipush 48, 2) := by decide +kernel
theorem dX4_isDigit_3 : decode cX4_isDigit 3 = .ok (.if_icmp .lt 13, 3) := by decide +kernel
theorem dX4_isDigit_6 : decode cX4_isDigit 6 = .ok (.iload_n 0, 1) := by decide +kernel
theorem dX4_isDigit_7 : decode cX4_isDigit 7 = .ok (.bipush 57, 2) := by decide +kernel
theorem dX4_isDigit_9 : decode cX4_isDigit 9 = .ok (.if_icmp .gt 7, 3) := by decide +kernel
theorem dX4_isDigit_12 : decode cX4_isDigit 12 = .ok (.iconst 1, 1) := by decide +kernel
theorem dX4_isDigit_13 : decode cX4_isDigit 13 = .ok (.goto 4, 3) := by decide +kernel
theorem dX4_isDigit_16 : decode cX4_isDigit 16 = .ok (.iconst 0, 1) := by decide +kernel
theorem dX4_isDigit_17 : decode cX4_isDigit 17 = .ok (.ireturn, 1) := by decide +kernel
theorem dX4_wrong_0 : decode cX4_wrong 0 = .ok (.aload_n 0, 1) := by decide +kernel
theorem dX4_wrong_1 : decode cX4_wrong 1 = .ok (.getfield 95, 3) := by decide +kernel
theorem dX4_wrong_4 : decode cX4_wrong 4 = .ok (.ifCond .le 4, 3) := by decide +kernel
theorem dX4_wrong_7 : decode cX4_wrong 7 = .ok (.return_, 1) := by decide +kernel
theorem dX4_wrong_8 : decode cX4_wrong 8 = .ok (.aload_n 0, 1) := by decide +kernel
theorem dX4_wrong_9 : decode cX4_wrong 9 = .ok (.iload_n 1, 1) := by decide +kernel
theorem dX4_wrong_10 : decode cX4_wrong 10 = .ok (.putfield 95, 3) := by decide +kernel
theorem dX4_wrong_13 : decode cX4_wrong 13 = .ok (.aload_n 0, 1) := by decide +kernel
theorem dX4_wrong_14 : decode cX4_wrong 14 = .ok (.iload_n 2, 1) := by decide +kernel
theorem dX4_wrong_15 : decode cX4_wrong 15 = .ok (.putfield 20, 3) := by decide +kernel
theorem dX4_wrong_18 : decode cX4_wrong 18 = .ok (.return_, 1) := by decide +kernel
theorem dX4_partName_0 : decode cX4_partName 0 = .ok (.iload_n 0, 1) := by decide +kernel
theorem dX4_partName_1 : decode cX4_partName 1 = .ok (.tableswitch 36 0 2 #[27, 30, 33], 27) := by decide +kernel
theorem dX4_partName_28 : decode cX4_partName 28 = .ok (.ldc 98, 2) := by decide +kernel
theorem dX4_partName_30 : decode cX4_partName 30 = .ok (.areturn, 1) := by decide +kernel
theorem dX4_partName_31 : decode cX4_partName 31 = .ok (.ldc 100, 2) := by decide +kernel
theorem dX4_partName_33 : decode cX4_partName 33 = .ok (.areturn, 1) := by decide +kernel
theorem dX4_partName_34 : decode cX4_partName 34 = .ok (.ldc 102, 2) := by decide +kernel
theorem dX4_partName_36 : decode cX4_partName 36 = .ok (.areturn, 1) := by decide +kernel
theorem dX4_partName_37 : decode cX4_partName 37 = .ok (.ldc 104, 2) := by decide +kernel
theorem dX4_partName_39 : decode cX4_partName 39 = .ok (.areturn, 1) := by decide +kernel
set_option maxRecDepth 20000 in
theorem ggX4_isWord_J0_length_8abf5 : GoodIn wsX4_isWord wsJ0_length_8abf5 := goodIn_r _ [6, 7, 8, 9, 10, 5, 11, 12, 13] (by decide +kernel) (by decide +kernel)
set_option maxRecDepth 20000 in
theorem gX4_isWord_J0_length_8abf5 : GoodIn wsX4_isWord (wsV RX4 106 RJ0 yJ0_length_8abf5 wsJ0_length_8abf5) := goodIn_app (goodIn_of _ (by decide +kernel)) ggX4_isWord_J0_length_8abf5
set_option maxRecDepth 20000 in
theorem ggX4_isWord_X4_byteAt : GoodIn wsX4_isWord wsX4_byteAt := goodIn_r _ [18, 19, 20, 61, 62, 63, 64, 65, 66, 67, 68, 69, 70, 71, 72, 73, 74, 75, 76, 77, 78, 79, 80, 81, 82, 83, 84, 85, 86, 87, 88] (by decide +kernel) (by decide +kernel)
set_option maxRecDepth 20000 in
theorem gX4_isWord_X4_byteAt : GoodIn wsX4_isWord (wsV RX4 91 RX4 yX4_byteAt wsX4_byteAt) := goodIn_app (goodIn_of _ (by decide +kernel)) ggX4_isWord_X4_byteAt
set_option maxRecDepth 20000 in
theorem ggX4_isWord_J0_charAt_5068e : GoodIn wsX4_isWord wsJ0_charAt_5068e := goodIn_r _ [24, 7, 25, 26, 27, 5, 28, 12, 13, 29, 30, 31, 32, 33, 34, 35, 36, 37, 38, 39, 40, 41, 42, 43, 44, 45, 46, 47, 48, 49, 50, 51, 52, 53, 54, 55, 56, 57] (by decide +kernel) (by decide +kernel)
set_option maxRecDepth 20000 in
theorem gX4_isWord_J0_charAt_5068e : GoodIn wsX4_isWord (wsV RX4 112 RJ0 yJ0_charAt_5068e wsJ0_charAt_5068e) := goodIn_app (goodIn_of _ (by decide +kernel)) ggX4_isWord_J0_charAt_5068e
set_option maxRecDepth 20000 in
theorem ggX4_isWord_X4_isSmall : GoodIn wsX4_isWord wsX4_isSmall := goodIn_r _ [60] (by decide +kernel) (by decide +kernel)
set_option maxRecDepth 20000 in
theorem gX4_isWord_X4_isSmall : GoodIn wsX4_isWord (va_wsS RX4 116 yX4_isSmall wsX4_isSmall) := goodIn_app (goodIn_of _ (by decide +kernel)) ggX4_isWord_X4_isSmall
theorem dX4_isWord_0 : decode cX4_isWord 0 = .ok (.iconst 0, 1) := by decide +kernel
theorem dX4_isWord_1 : decode cX4_isWord 1 = .ok (.istore_n 2, 1) := by decide +kernel
theorem dX4_isWord_2 : decode cX4_isWord 2 = .ok (.iload_n 2, 1) := by decide +kernel
theorem dX4_isWord_3 : decode cX4_isWord 3 = .ok (.aload_n 1, 1) := by decide +kernel
theorem dX4_isWord_4 : decode cX4_isWord 4 = .ok (.invokevirtual 106, 3) := by decide +kernel
theorem dX4_isWord_7 : decode cX4_isWord 7 = .ok (.if_icmp .ge 29, 3) := by decide +kernel
theorem dX4_isWord_10 : decode cX4_isWord 10 = .ok (.aload_n 0, 1) := by decide +kernel
theorem dX4_isWord_11 : decode cX4_isWord 11 = .ok (.aload_n 0, 1) := by decide +kernel
theorem dX4_isWord_12 : decode cX4_isWord 12 = .ok (.getfield 88, 3) := by decide +kernel
theorem dX4_isWord_15 : decode cX4_isWord 15 = .ok (.iload_n 2, 1) := by decide +kernel
theorem dX4_isWord_16 : decode cX4_isWord 16 = .ok (.iadd, 1) := by decide +kernel
theorem dX4_isWord_17 : decode cX4_isWord 17 = .ok (.invokevirtual 91, 3) := by decide +kernel
theorem dX4_isWord_20 : decode cX4_isWord 20 = .ok (.aload_n 1, 1) := by decide +kernel
theorem dX4_isWord_21 : decode cX4_isWord 21 = .ok (.iload_n 2, 1) := by decide +kernel
theorem dX4_isWord_22 : decode cX4_isWord 22 = .ok (.invokevirtual 112, 3) := by decide +kernel
theorem dX4_isWord_25 : decode cX4_isWord 25 = .ok (.if_icmp .eq 5, 3) := by decide +kernel
theorem dX4_isWord_28 : decode cX4_isWord 28 = .ok (.iconst 0, 1) := by decide +kernel
theorem dX4_isWord_29 : decode cX4_isWord 29 = .ok (.ireturn, 1) := by decide +kernel
theorem dX4_isWord_30 : decode cX4_isWord 30 = .ok (.iinc 2 1, 3) := by decide +kernel
theorem dX4_isWord_33 : decode cX4_isWord 33 = .ok (.goto (-31), 3) := by decide +kernel
theorem dX4_isWord_36 : decode cX4_isWord 36 = .ok (.aload_n 0, 1) := by decide +kernel
theorem dX4_isWord_37 : decode cX4_isWord 37 = .ok (.aload_n 0, 1) := by decide +kernel
theorem dX4_isWord_38 : decode cX4_isWord 38 = .ok (.getfield 88, 3) := by decide +kernel
theorem dX4_isWord_41 : decode cX4_isWord 41 = .ok (.aload_n 1, 1) := by decide +kernel
theorem dX4_isWord_42 : decode cX4_isWord 42 = .ok (.invokevirtual 106, 3) := by decide +kernel
theorem dX4_isWord_45 : decode cX4_isWord 45 = .ok (.iadd, 1) := by decide +kernel
theorem dX4_isWord_46 : decode cX4_isWord 46 = .ok (.invokevirtual 91, 3) := by decide +kernel
theorem dX4_isWord_49 : decode cX4_isWord 49 = .ok (.invokestatic 116, 3) := by decide +kernel
theorem dX4_isWord_52 : decode cX4_isWord 52 = .ok (.ifCond .ne 7, 3) := by decide +kernel
theorem dX4_isWord_55 : decode cX4_isWord 55 = .ok (.iconst 1, 1) := by decide +kernel
theorem dX4_isWord_56 : decode cX4_isWord 56 = .ok (.goto 4, 3) := by decide +kernel
theorem dX4_isWord_59 : decode cX4_isWord 59 = .ok (.iconst 0, 1) := by decide +kernel
theorem dX4_isWord_60 : decode cX4_isWord 60 = .ok (.ireturn, 1) := by decide +kernel
set_option maxRecDepth 20000 in
theorem ggX4_readPart_X4_blanks : GoodIn wsX4_readPart wsX4_blanks := goodIn_r _ [8, 2, 9, 10, 11, 12, 7, 13, 14, 83, 84, 85, 86, 87, 88, 89, 90, 91, 92, 93, 94, 95, 96, 97, 98, 99, 100, 101, 102, 103, 104, 105, 106, 107, 108, 109, 110] (by decide +kernel) (by decide +kernel)
set_option maxRecDepth 20000 in
theorem gX4_readPart_X4_blanks : GoodIn wsX4_readPart (wsV RX4 119 RX4 yX4_blanks wsX4_blanks) := goodIn_app (goodIn_of _ (by decide +kernel)) ggX4_readPart_X4_blanks
set_option maxRecDepth 20000 in
theorem ggX4_readPart_X4_partName : GoodIn wsX4_readPart wsX4_partName := goodIn_r _ [17] (by decide +kernel) (by decide +kernel)
set_option maxRecDepth 20000 in
theorem gX4_readPart_X4_partName : GoodIn wsX4_readPart (va_wsS RX4 122 yX4_partName wsX4_partName) := goodIn_app (goodIn_of _ (by decide +kernel)) ggX4_readPart_X4_partName
set_option maxRecDepth 20000 in
theorem ggX4_readPart_X4_isWord : GoodIn wsX4_readPart wsX4_isWord := goodIn_r _ [21, 2, 22, 23, 24, 25, 26, 27, 28, 29, 30, 31, 32, 33, 10, 11, 12, 7, 13, 9, 14, 34, 35, 36, 37, 38, 39, 40, 41, 42, 43, 44, 45, 46, 47, 48, 49, 50, 51, 52, 53, 54, 55, 56, 57, 58, 59, 60, 61, 62, 63, 64, 65, 66, 67, 68, 69, 70, 71, 72, 73, 83, 84, 85, 86, 87, 88, 89, 90, 91, 92, 93, 94, 95, 96, 97, 98, 99, 100, 101, 102, 103, 104, 105, 106, 107, 108, 109, 110] (by decide +kernel) (by decide +kernel)
set_option maxRecDepth 20000 in
theorem gX4_readPart_X4_isWord : GoodIn wsX4_readPart (wsV RX4 126 RX4 yX4_isWord wsX4_isWord) := goodIn_app (goodIn_of _ (by decide +kernel)) ggX4_readPart_X4_isWord
set_option maxRecDepth 20000 in
theorem ggX4_readPart_X4_wrong : GoodIn wsX4_readPart wsX4_wrong := goodIn_r _ [77, 78, 79, 83, 84, 85, 86, 87, 88, 89, 90, 91, 92, 93, 94, 95, 96, 97, 98, 99, 100, 101, 102, 103, 104, 105, 106, 107, 108, 109, 110] (by decide +kernel) (by decide +kernel)
set_option maxRecDepth 20000 in
theorem gX4_readPart_X4_wrong : GoodIn wsX4_readPart (wsV RX4 130 RX4 yX4_wrong wsX4_wrong) := goodIn_app (goodIn_of _ (by decide +kernel)) ggX4_readPart_X4_wrong
set_option maxRecDepth 20000 in
theorem ggX4_readPart_J0_length_8abf5 : GoodIn wsX4_readPart wsJ0_length_8abf5 := goodIn_r _ [26, 27, 28, 29, 30, 25, 31, 32, 33] (by decide +kernel) (by decide +kernel)
set_option maxRecDepth 20000 in
theorem gX4_readPart_J0_length_8abf5 : GoodIn wsX4_readPart (wsV RX4 106 RJ0 yJ0_length_8abf5 wsJ0_length_8abf5) := goodIn_app (goodIn_of _ (by decide +kernel)) ggX4_readPart_J0_length_8abf5
set_option maxRecDepth 20000 in
theorem ggX4_readPart_X4_byteAt : GoodIn wsX4_readPart wsX4_byteAt := goodIn_r _ [13, 9, 14, 83, 84, 85, 86, 87, 88, 89, 90, 91, 92, 93, 94, 95, 96, 97, 98, 99, 100, 101, 102, 103, 104, 105, 106, 107, 108, 109, 110] (by decide +kernel) (by decide +kernel)
set_option maxRecDepth 20000 in
theorem gX4_readPart_X4_byteAt : GoodIn wsX4_readPart (wsV RX4 91 RX4 yX4_byteAt wsX4_byteAt) := goodIn_app (goodIn_of _ (by decide +kernel)) ggX4_readPart_X4_byteAt
set_option maxRecDepth 20000 in
theorem ggX4_readPart_X4_isDigit : GoodIn wsX4_readPart wsX4_isDigit := goodIn_r _ [82] (by decide +kernel) (by decide +kernel)
set_option maxRecDepth 20000 in
theorem gX4_readPart_X4_isDigit : GoodIn wsX4_readPart (va_wsS RX4 134 yX4_isDigit wsX4_isDigit) := goodIn_app (goodIn_of _ (by decide +kernel)) ggX4_readPart_X4_isDigit
theorem dX4_readPart_0 : decode cX4_readPart 0 = .ok (.aload_n 0, 1) := by decide +kernel
theorem dX4_readPart_1 : decode cX4_readPart 1 = .ok (.invokevirtual 119, 3) := by decide +kernel
theorem dX4_readPart_4 : decode cX4_readPart 4 = .ok (.iconst 0, 1) := by decide +kernel
theorem dX4_readPart_5 : decode cX4_readPart 5 = .ok (.istore_n 1, 1) := by decide +kernel
theorem dX4_readPart_6 : decode cX4_readPart 6 = .ok (.iload_n 1, 1) := by decide +kernel
theorem dX4_readPart_7 : decode cX4_readPart 7 = .ok (.iconst 4, 1) := by decide +kernel
theorem dX4_readPart_8 : decode cX4_readPart 8 = .ok (.if_icmp .ge 20, 3) := by decide +kernel
theorem dX4_readPart_11 : decode cX4_readPart 11 = .ok (.aload_n 0, 1) := by decide +kernel
theorem dX4_readPart_12 : decode cX4_readPart 12 = .ok (.iload_n 1, 1) := by decide +kernel
theorem dX4_readPart_13 : decode cX4_readPart 13 = .ok (.invokestatic 122, 3) := by decide +kernel
theorem dX4_readPart_16 : decode cX4_readPart 16 = .ok (.invokevirtual 126, 3) := by decide +kernel
theorem dX4_readPart_19 : decode cX4_readPart 19 = .ok (.ifCond .ne 9, 3) := by decide +kernel
theorem dX4_readPart_22 : decode cX4_readPart 22 = .ok (.iinc 1 1, 3) := by decide +kernel
theorem dX4_readPart_25 : decode cX4_readPart 25 = .ok (.goto (-19), 3) := by decide +kernel
theorem dX4_readPart_28 : decode cX4_readPart 28 = .ok (.iload_n 1, 1) := by decide +kernel
theorem dX4_readPart_29 : decode cX4_readPart 29 = .ok (.iconst 4, 1) := by decide +kernel
theorem dX4_readPart_30 : decode cX4_readPart 30 = .ok (.if_icmp .eq 12, 3) := by decide +kernel
theorem dX4_readPart_33 : decode cX4_readPart 33 = .ok (.aload_n 0, 1) := by decide +kernel
theorem dX4_readPart_34 : decode cX4_readPart 34 = .ok (.getfield 27, 3) := by decide +kernel
theorem dX4_readPart_37 : decode cX4_readPart 37 = .ok (.iload_n 1, 1) := by decide +kernel
theorem dX4_readPart_38 : decode cX4_readPart 38 = .ok (.baload, 1) := by decide +kernel
theorem dX4_readPart_39 : decode cX4_readPart 39 = .ok (.ifCond .eq 13, 3) := by decide +kernel
theorem dX4_readPart_42 : decode cX4_readPart 42 = .ok (.aload_n 0, 1) := by decide +kernel
theorem dX4_readPart_43 : decode cX4_readPart 43 = .ok (.iconst 1, 1) := by decide +kernel
theorem dX4_readPart_44 : decode cX4_readPart 44 = .ok (.aload_n 0, 1) := by decide +kernel
theorem dX4_readPart_45 : decode cX4_readPart 45 = .ok (.getfield 88, 3) := by decide +kernel
theorem dX4_readPart_48 : decode cX4_readPart 48 = .ok (.invokevirtual 130, 3) := by decide +kernel
theorem dX4_readPart_51 : decode cX4_readPart 51 = .ok (.return_, 1) := by decide +kernel
theorem dX4_readPart_52 : decode cX4_readPart 52 = .ok (.aload_n 0, 1) := by decide +kernel
theorem dX4_readPart_53 : decode cX4_readPart 53 = .ok (.getfield 27, 3) := by decide +kernel
theorem dX4_readPart_56 : decode cX4_readPart 56 = .ok (.iload_n 1, 1) := by decide +kernel
theorem dX4_readPart_57 : decode cX4_readPart 57 = .ok (.iconst 1, 1) := by decide +kernel
theorem dX4_readPart_58 : decode cX4_readPart 58 = .ok (.bastore, 1) := by decide +kernel
theorem dX4_readPart_59 : decode cX4_readPart 59 = .ok (.aload_n 0, 1) := by decide +kernel
theorem dX4_readPart_60 : decode cX4_readPart 60 = .ok (.dup, 1) := by decide +kernel
theorem dX4_readPart_61 : decode cX4_readPart 61 = .ok (.getfield 88, 3) := by decide +kernel
theorem dX4_readPart_64 : decode cX4_readPart 64 = .ok (.iload_n 1, 1) := by decide +kernel
theorem dX4_readPart_65 : decode cX4_readPart 65 = .ok (.invokestatic 122, 3) := by decide +kernel
theorem dX4_readPart_68 : decode cX4_readPart 68 = .ok (.invokevirtual 106, 3) := by decide +kernel
theorem dX4_readPart_71 : decode cX4_readPart 71 = .ok (.iadd, 1) := by decide +kernel
theorem dX4_readPart_72 : decode cX4_readPart 72 = .ok (.putfield 88, 3) := by decide +kernel
theorem dX4_readPart_75 : decode cX4_readPart 75 = .ok (.aload_n 0, 1) := by decide +kernel
theorem dX4_readPart_76 : decode cX4_readPart 76 = .ok (.invokevirtual 119, 3) := by decide +kernel
theorem dX4_readPart_79 : decode cX4_readPart 79 = .ok (.aload_n 0, 1) := by decide +kernel
theorem dX4_readPart_80 : decode cX4_readPart 80 = .ok (.getfield 88, 3) := by decide +kernel
theorem dX4_readPart_83 : decode cX4_readPart 83 = .ok (.istore_n 2, 1) := by decide +kernel
theorem dX4_readPart_84 : decode cX4_readPart 84 = .ok (.aload_n 0, 1) := by decide +kernel
theorem dX4_readPart_85 : decode cX4_readPart 85 = .ok (.aload_n 0, 1) := by decide +kernel
theorem dX4_readPart_86 : decode cX4_readPart 86 = .ok (.getfield 88, 3) := by decide +kernel
theorem dX4_readPart_89 : decode cX4_readPart 89 = .ok (.invokevirtual 91, 3) := by decide +kernel
theorem dX4_readPart_92 : decode cX4_readPart 92 = .ok (.invokestatic 134, 3) := by decide +kernel
theorem dX4_readPart_95 : decode cX4_readPart 95 = .ok (.ifCond .ne 13, 3) := by decide +kernel
theorem dX4_readPart_98 : decode cX4_readPart 98 = .ok (.aload_n 0, 1) := by decide +kernel
theorem dX4_readPart_99 : decode cX4_readPart 99 = .ok (.iconst 1, 1) := by decide +kernel
theorem dX4_readPart_100 : decode cX4_readPart 100 = .ok (.aload_n 0, 1) := by decide +kernel
theorem dX4_readPart_101 : decode cX4_readPart 101 = .ok (.getfield 88, 3) := by decide +kernel
theorem dX4_readPart_104 : decode cX4_readPart 104 = .ok (.invokevirtual 130, 3) := by decide +kernel
theorem dX4_readPart_107 : decode cX4_readPart 107 = .ok (.return_, 1) := by decide +kernel
theorem dX4_readPart_108 : decode cX4_readPart 108 = .ok (.iconst 0, 1) := by decide +kernel
theorem dX4_readPart_109 : decode cX4_readPart 109 = .ok (.istore_n 3, 1) := by decide +kernel
theorem dX4_readPart_110 : decode cX4_readPart 110 = .ok (.aload_n 0, 1) := by decide +kernel
theorem dX4_readPart_111 : decode cX4_readPart 111 = .ok (.aload_n 0, 1) := by decide +kernel
theorem dX4_readPart_112 : decode cX4_readPart 112 = .ok (.getfield 88, 3) := by decide +kernel
theorem dX4_readPart_115 : decode cX4_readPart 115 = .ok (.invokevirtual 91, 3) := by decide +kernel
theorem dX4_readPart_118 : decode cX4_readPart 118 = .ok (.invokestatic 134, 3) := by decide +kernel
theorem dX4_readPart_121 : decode cX4_readPart 121 = .ok (.ifCond .eq 44, 3) := by decide +kernel
theorem dX4_readPart_124 : decode cX4_readPart 124 = .ok (.iload_n 3, 1) := by decide +kernel
theorem dX4_readPart_125 : decode cX4_readPart 125 = .ok (.sipush 1000, 3) := by decide +kernel
theorem dX4_readPart_128 : decode cX4_readPart 128 = .ok (.if_icmp .le 7, 3) := by decide +kernel
theorem dX4_readPart_131 : decode cX4_readPart 131 = .ok (.iload_n 3, 1) := by decide +kernel
theorem dX4_readPart_132 : decode cX4_readPart 132 = .ok (.goto 19, 3) := by decide +kernel
theorem dX4_readPart_135 : decode cX4_readPart 135 = .ok (.bipush 10, 2) := by decide +kernel
theorem dX4_readPart_137 : decode cX4_readPart 137 = .ok (.iload_n 3, 1) := by decide +kernel
theorem dX4_readPart_138 : decode cX4_readPart 138 = .ok (.imul, 1) := by decide +kernel
theorem dX4_readPart_139 : decode cX4_readPart 139 = .ok (.aload_n 0, 1) := by decide +kernel
theorem dX4_readPart_140 : decode cX4_readPart 140 = .ok (.aload_n 0, 1) := by decide +kernel
theorem dX4_readPart_141 : decode cX4_readPart 141 = .ok (.getfield 88, 3) := by decide +kernel
theorem dX4_readPart_144 : decode cX4_readPart 144 = .ok (.invokevirtual 91, 3) := by decide +kernel
theorem dX4_readPart_147 : decode cX4_readPart 147 = .ok (.iadd, 1) := by decide +kernel
theorem dX4_readPart_148 : decode cX4_readPart 148 = .ok (.bipush 48, 2) := by decide +kernel
theorem dX4_readPart_150 : decode cX4_readPart 150 = .ok (.isub, 1) := by decide +kernel
theorem dX4_readPart_151 : decode cX4_readPart 151 = .ok (.istore_n 3, 1) := by decide +kernel
theorem dX4_readPart_152 : decode cX4_readPart 152 = .ok (.aload_n 0, 1) := by decide +kernel
theorem dX4_readPart_153 : decode cX4_readPart 153 = .ok (.dup, 1) := by decide +kernel
theorem dX4_readPart_154 : decode cX4_readPart 154 = .ok (.getfield 88, 3) := by decide +kernel
theorem dX4_readPart_157 : decode cX4_readPart 157 = .ok (.iconst 1, 1) := by decide +kernel
theorem dX4_readPart_158 : decode cX4_readPart 158 = .ok (.iadd, 1) := by decide +kernel
theorem dX4_readPart_159 : decode cX4_readPart 159 = .ok (.putfield 88, 3) := by decide +kernel
theorem dX4_readPart_162 : decode cX4_readPart 162 = .ok (.goto (-52), 3) := by decide +kernel
theorem dX4_readPart_165 : decode cX4_readPart 165 = .ok (.iload_n 1, 1) := by decide +kernel
theorem dX4_readPart_166 : decode cX4_readPart 166 = .ok (.ifCond .ne 7, 3) := by decide +kernel
theorem dX4_readPart_169 : decode cX4_readPart 169 = .ok (.iconst 5, 1) := by decide +kernel
theorem dX4_readPart_170 : decode cX4_readPart 170 = .ok (.goto 13, 3) := by decide +kernel
theorem dX4_readPart_173 : decode cX4_readPart 173 = .ok (.iload_n 1, 1) := by decide +kernel
theorem dX4_readPart_174 : decode cX4_readPart 174 = .ok (.iconst 3, 1) := by decide +kernel
theorem dX4_readPart_175 : decode cX4_readPart 175 = .ok (.if_icmp .ne 7, 3) := by decide +kernel
theorem dX4_readPart_178 : decode cX4_readPart 178 = .ok (.iconst 1, 1) := by decide +kernel
theorem dX4_readPart_179 : decode cX4_readPart 179 = .ok (.goto 4, 3) := by decide +kernel
theorem dX4_readPart_182 : decode cX4_readPart 182 = .ok (.iconst 0, 1) := by decide +kernel
theorem dX4_readPart_183 : decode cX4_readPart 183 = .ok (.istore 4, 2) := by decide +kernel
theorem dX4_readPart_185 : decode cX4_readPart 185 = .ok (.iload_n 1, 1) := by decide +kernel
theorem dX4_readPart_186 : decode cX4_readPart 186 = .ok (.ifCond .ne 8, 3) := by decide +kernel
theorem dX4_readPart_189 : decode cX4_readPart 189 = .ok (.bipush 30, 2) := by decide +kernel
theorem dX4_readPart_191 : decode cX4_readPart 191 = .ok (.goto 24, 3) := by decide +kernel
theorem dX4_readPart_194 : decode cX4_readPart 194 = .ok (.iload_n 1, 1) := by decide +kernel
theorem dX4_readPart_195 : decode cX4_readPart 195 = .ok (.iconst 1, 1) := by decide +kernel
theorem dX4_readPart_196 : decode cX4_readPart 196 = .ok (.if_icmp .ne 8, 3) := by decide +kernel
theorem dX4_readPart_199 : decode cX4_readPart 199 = .ok (.bipush 20, 2) := by decide +kernel
theorem dX4_readPart_201 : decode cX4_readPart 201 = .ok (.goto 14, 3) := by decide +kernel
theorem dX4_readPart_204 : decode cX4_readPart 204 = .ok (.iload_n 1, 1) := by decide +kernel
theorem dX4_readPart_205 : decode cX4_readPart 205 = .ok (.iconst 2, 1) := by decide +kernel
theorem dX4_readPart_206 : decode cX4_readPart 206 = .ok (.if_icmp .ne 8, 3) := by decide +kernel
theorem dX4_readPart_209 : decode cX4_readPart 209 = .ok (.bipush 9, 2) := by decide +kernel
theorem dX4_readPart_211 : decode cX4_readPart 211 = .ok (.goto 4, 3) := by decide +kernel
theorem dX4_readPart_214 : decode cX4_readPart 214 = .ok (.iconst 5, 1) := by decide +kernel
theorem dX4_readPart_215 : decode cX4_readPart 215 = .ok (.istore 5, 2) := by decide +kernel
theorem dX4_readPart_217 : decode cX4_readPart 217 = .ok (.iload_n 3, 1) := by decide +kernel
theorem dX4_readPart_218 : decode cX4_readPart 218 = .ok (.iload 4, 2) := by decide +kernel
theorem dX4_readPart_220 : decode cX4_readPart 220 = .ok (.if_icmp .lt 9, 3) := by decide +kernel
theorem dX4_readPart_223 : decode cX4_readPart 223 = .ok (.iload_n 3, 1) := by decide +kernel
theorem dX4_readPart_224 : decode cX4_readPart 224 = .ok (.iload 5, 2) := by decide +kernel
theorem dX4_readPart_226 : decode cX4_readPart 226 = .ok (.if_icmp .le 9, 3) := by decide +kernel
theorem dX4_readPart_229 : decode cX4_readPart 229 = .ok (.aload_n 0, 1) := by decide +kernel
theorem dX4_readPart_230 : decode cX4_readPart 230 = .ok (.iconst 2, 1) := by decide +kernel
theorem dX4_readPart_231 : decode cX4_readPart 231 = .ok (.iload_n 2, 1) := by decide +kernel
theorem dX4_readPart_232 : decode cX4_readPart 232 = .ok (.invokevirtual 130, 3) := by decide +kernel
theorem dX4_readPart_235 : decode cX4_readPart 235 = .ok (.aload_n 0, 1) := by decide +kernel
theorem dX4_readPart_236 : decode cX4_readPart 236 = .ok (.getfield 24, 3) := by decide +kernel
theorem dX4_readPart_239 : decode cX4_readPart 239 = .ok (.iload_n 1, 1) := by decide +kernel
theorem dX4_readPart_240 : decode cX4_readPart 240 = .ok (.iload_n 3, 1) := by decide +kernel
theorem dX4_readPart_241 : decode cX4_readPart 241 = .ok (.iastore, 1) := by decide +kernel
theorem dX4_readPart_242 : decode cX4_readPart 242 = .ok (.return_, 1) := by decide +kernel
set_option maxRecDepth 20000 in
theorem ggX4_readHat_X4_readPart : GoodIn wsX4_readHat wsX4_readPart := goodIn_r _ [11, 5, 1, 4, 12, 13, 14, 10, 15, 6, 16, 17, 18, 19, 20, 21, 22, 23, 24, 25, 26, 27, 28, 29, 30, 31, 32, 33, 34, 35, 36, 37, 38, 39, 40, 41, 42, 43, 44, 45, 46, 47, 48, 49, 50, 51, 52, 53, 54, 55, 56, 57, 58, 59, 60, 61, 62, 63, 64, 65, 66, 67, 68, 69, 70, 71, 72, 73, 74, 75, 76, 77, 78, 79, 80, 81, 82, 83, 2, 3, 84, 85, 86, 87, 88, 89, 90, 91, 92, 93, 94, 95, 96, 97, 98, 99, 100, 101, 102, 103, 104, 105, 106, 107, 108, 109, 110, 111, 112, 113, 114] (by decide +kernel) (by decide +kernel)
set_option maxRecDepth 20000 in
theorem gX4_readHat_X4_readPart : GoodIn wsX4_readHat (wsV RX4 137 RX4 yX4_readPart wsX4_readPart) := goodIn_app (goodIn_of _ (by decide +kernel)) ggX4_readHat_X4_readPart
set_option maxRecDepth 20000 in
theorem ggX4_readHat_X4_blanks : GoodIn wsX4_readHat wsX4_blanks := goodIn_r _ [15, 1, 6, 16, 17, 18, 10, 19, 20, 87, 88, 89, 90, 91, 92, 93, 94, 95, 96, 97, 98, 99, 100, 101, 102, 103, 104, 105, 106, 107, 108, 109, 110, 111, 112, 113, 114] (by decide +kernel) (by decide +kernel)
set_option maxRecDepth 20000 in
theorem gX4_readHat_X4_blanks : GoodIn wsX4_readHat (wsV RX4 119 RX4 yX4_blanks wsX4_blanks) := goodIn_app (goodIn_of _ (by decide +kernel)) ggX4_readHat_X4_blanks
set_option maxRecDepth 20000 in
theorem ggX4_readHat_X4_byteAt : GoodIn wsX4_readHat wsX4_byteAt := goodIn_r _ [19, 6, 20, 87, 88, 89, 90, 91, 92, 93, 94, 95, 96, 97, 98, 99, 100, 101, 102, 103, 104, 105, 106, 107, 108, 109, 110, 111, 112, 113, 114] (by decide +kernel) (by decide +kernel)
set_option maxRecDepth 20000 in
theorem gX4_readHat_X4_byteAt : GoodIn wsX4_readHat (wsV RX4 91 RX4 yX4_byteAt wsX4_byteAt) := goodIn_app (goodIn_of _ (by decide +kernel)) ggX4_readHat_X4_byteAt
set_option maxRecDepth 20000 in
theorem ggX4_readHat_X4_wrong : GoodIn wsX4_readHat wsX4_wrong := goodIn_r _ [83, 2, 3, 87, 88, 89, 90, 91, 92, 93, 94, 95, 96, 97, 98, 99, 100, 101, 102, 103, 104, 105, 106, 107, 108, 109, 110, 111, 112, 113, 114] (by decide +kernel) (by decide +kernel)
set_option maxRecDepth 20000 in
theorem gX4_readHat_X4_wrong : GoodIn wsX4_readHat (wsV RX4 130 RX4 yX4_wrong wsX4_wrong) := goodIn_app (goodIn_of _ (by decide +kernel)) ggX4_readHat_X4_wrong
theorem dX4_readHat_0 : decode cX4_readHat 0 = .ok (.aload_n 0, 1) := by decide +kernel
theorem dX4_readHat_1 : decode cX4_readHat 1 = .ok (.iconst 0, 1) := by decide +kernel
theorem dX4_readHat_2 : decode cX4_readHat 2 = .ok (.putfield 88, 3) := by decide +kernel
theorem dX4_readHat_5 : decode cX4_readHat 5 = .ok (.aload_n 0, 1) := by decide +kernel
theorem dX4_readHat_6 : decode cX4_readHat 6 = .ok (.iconst 0, 1) := by decide +kernel
theorem dX4_readHat_7 : decode cX4_readHat 7 = .ok (.putfield 95, 3) := by decide +kernel
theorem dX4_readHat_10 : decode cX4_readHat 10 = .ok (.aload_n 0, 1) := by decide +kernel
theorem dX4_readHat_11 : decode cX4_readHat 11 = .ok (.iconst (-1), 1) := by decide +kernel
theorem dX4_readHat_12 : decode cX4_readHat 12 = .ok (.putfield 20, 3) := by decide +kernel
theorem dX4_readHat_15 : decode cX4_readHat 15 = .ok (.iconst 0, 1) := by decide +kernel
theorem dX4_readHat_16 : decode cX4_readHat 16 = .ok (.istore_n 1, 1) := by decide +kernel
theorem dX4_readHat_17 : decode cX4_readHat 17 = .ok (.iload_n 1, 1) := by decide +kernel
theorem dX4_readHat_18 : decode cX4_readHat 18 = .ok (.iconst 4, 1) := by decide +kernel
theorem dX4_readHat_19 : decode cX4_readHat 19 = .ok (.if_icmp .ge 23, 3) := by decide +kernel
theorem dX4_readHat_22 : decode cX4_readHat 22 = .ok (.aload_n 0, 1) := by decide +kernel
theorem dX4_readHat_23 : decode cX4_readHat 23 = .ok (.getfield 24, 3) := by decide +kernel
theorem dX4_readHat_26 : decode cX4_readHat 26 = .ok (.iload_n 1, 1) := by decide +kernel
theorem dX4_readHat_27 : decode cX4_readHat 27 = .ok (.iconst 0, 1) := by decide +kernel
theorem dX4_readHat_28 : decode cX4_readHat 28 = .ok (.iastore, 1) := by decide +kernel
theorem dX4_readHat_29 : decode cX4_readHat 29 = .ok (.aload_n 0, 1) := by decide +kernel
theorem dX4_readHat_30 : decode cX4_readHat 30 = .ok (.getfield 27, 3) := by decide +kernel
theorem dX4_readHat_33 : decode cX4_readHat 33 = .ok (.iload_n 1, 1) := by decide +kernel
theorem dX4_readHat_34 : decode cX4_readHat 34 = .ok (.iconst 0, 1) := by decide +kernel
theorem dX4_readHat_35 : decode cX4_readHat 35 = .ok (.bastore, 1) := by decide +kernel
theorem dX4_readHat_36 : decode cX4_readHat 36 = .ok (.iinc 1 1, 3) := by decide +kernel
theorem dX4_readHat_39 : decode cX4_readHat 39 = .ok (.goto (-22), 3) := by decide +kernel
theorem dX4_readHat_42 : decode cX4_readHat 42 = .ok (.aload_n 0, 1) := by decide +kernel
theorem dX4_readHat_43 : decode cX4_readHat 43 = .ok (.invokevirtual 137, 3) := by decide +kernel
theorem dX4_readHat_46 : decode cX4_readHat 46 = .ok (.aload_n 0, 1) := by decide +kernel
theorem dX4_readHat_47 : decode cX4_readHat 47 = .ok (.invokevirtual 119, 3) := by decide +kernel
theorem dX4_readHat_50 : decode cX4_readHat 50 = .ok (.aload_n 0, 1) := by decide +kernel
theorem dX4_readHat_51 : decode cX4_readHat 51 = .ok (.getfield 95, 3) := by decide +kernel
theorem dX4_readHat_54 : decode cX4_readHat 54 = .ok (.ifCond .ne 37, 3) := by decide +kernel
theorem dX4_readHat_57 : decode cX4_readHat 57 = .ok (.aload_n 0, 1) := by decide +kernel
theorem dX4_readHat_58 : decode cX4_readHat 58 = .ok (.aload_n 0, 1) := by decide +kernel
theorem dX4_readHat_59 : decode cX4_readHat 59 = .ok (.getfield 88, 3) := by decide +kernel
theorem dX4_readHat_62 : decode cX4_readHat 62 = .ok (.invokevirtual 91, 3) := by decide +kernel
theorem dX4_readHat_65 : decode cX4_readHat 65 = .ok (.bipush 44, 2) := by decide +kernel
theorem dX4_readHat_67 : decode cX4_readHat 67 = .ok (.if_icmp .ne 24, 3) := by decide +kernel
theorem dX4_readHat_70 : decode cX4_readHat 70 = .ok (.aload_n 0, 1) := by decide +kernel
theorem dX4_readHat_71 : decode cX4_readHat 71 = .ok (.dup, 1) := by decide +kernel
theorem dX4_readHat_72 : decode cX4_readHat 72 = .ok (.getfield 88, 3) := by decide +kernel
theorem dX4_readHat_75 : decode cX4_readHat 75 = .ok (.iconst 1, 1) := by decide +kernel
theorem dX4_readHat_76 : decode cX4_readHat 76 = .ok (.iadd, 1) := by decide +kernel
theorem dX4_readHat_77 : decode cX4_readHat 77 = .ok (.putfield 88, 3) := by decide +kernel
theorem dX4_readHat_80 : decode cX4_readHat 80 = .ok (.aload_n 0, 1) := by decide +kernel
theorem dX4_readHat_81 : decode cX4_readHat 81 = .ok (.invokevirtual 137, 3) := by decide +kernel
theorem dX4_readHat_84 : decode cX4_readHat 84 = .ok (.aload_n 0, 1) := by decide +kernel
theorem dX4_readHat_85 : decode cX4_readHat 85 = .ok (.invokevirtual 119, 3) := by decide +kernel
theorem dX4_readHat_88 : decode cX4_readHat 88 = .ok (.goto (-38), 3) := by decide +kernel
theorem dX4_readHat_91 : decode cX4_readHat 91 = .ok (.aload_n 0, 1) := by decide +kernel
theorem dX4_readHat_92 : decode cX4_readHat 92 = .ok (.getfield 88, 3) := by decide +kernel
theorem dX4_readHat_95 : decode cX4_readHat 95 = .ok (.aload_n 0, 1) := by decide +kernel
theorem dX4_readHat_96 : decode cX4_readHat 96 = .ok (.getfield 85, 3) := by decide +kernel
theorem dX4_readHat_99 : decode cX4_readHat 99 = .ok (.if_icmp .ge 12, 3) := by decide +kernel
theorem dX4_readHat_102 : decode cX4_readHat 102 = .ok (.aload_n 0, 1) := by decide +kernel
theorem dX4_readHat_103 : decode cX4_readHat 103 = .ok (.iconst 1, 1) := by decide +kernel
theorem dX4_readHat_104 : decode cX4_readHat 104 = .ok (.aload_n 0, 1) := by decide +kernel
theorem dX4_readHat_105 : decode cX4_readHat 105 = .ok (.getfield 88, 3) := by decide +kernel
theorem dX4_readHat_108 : decode cX4_readHat 108 = .ok (.invokevirtual 130, 3) := by decide +kernel
theorem dX4_readHat_111 : decode cX4_readHat 111 = .ok (.aload_n 0, 1) := by decide +kernel
theorem dX4_readHat_112 : decode cX4_readHat 112 = .ok (.getfield 27, 3) := by decide +kernel
theorem dX4_readHat_115 : decode cX4_readHat 115 = .ok (.iconst 0, 1) := by decide +kernel
theorem dX4_readHat_116 : decode cX4_readHat 116 = .ok (.baload, 1) := by decide +kernel
theorem dX4_readHat_117 : decode cX4_readHat 117 = .ok (.ifCond .eq 12, 3) := by decide +kernel
theorem dX4_readHat_120 : decode cX4_readHat 120 = .ok (.aload_n 0, 1) := by decide +kernel
theorem dX4_readHat_121 : decode cX4_readHat 121 = .ok (.getfield 27, 3) := by decide +kernel
theorem dX4_readHat_124 : decode cX4_readHat 124 = .ok (.iconst 3, 1) := by decide +kernel
theorem dX4_readHat_125 : decode cX4_readHat 125 = .ok (.baload, 1) := by decide +kernel
theorem dX4_readHat_126 : decode cX4_readHat 126 = .ok (.ifCond .ne 12, 3) := by decide +kernel
theorem dX4_readHat_129 : decode cX4_readHat 129 = .ok (.aload_n 0, 1) := by decide +kernel
theorem dX4_readHat_130 : decode cX4_readHat 130 = .ok (.iconst 3, 1) := by decide +kernel
theorem dX4_readHat_131 : decode cX4_readHat 131 = .ok (.aload_n 0, 1) := by decide +kernel
theorem dX4_readHat_132 : decode cX4_readHat 132 = .ok (.getfield 85, 3) := by decide +kernel
theorem dX4_readHat_135 : decode cX4_readHat 135 = .ok (.invokevirtual 130, 3) := by decide +kernel
theorem dX4_readHat_138 : decode cX4_readHat 138 = .ok (.return_, 1) := by decide +kernel
set_option maxRecDepth 20000 in
theorem ggX4_order_X4_bad : GoodIn wsX4_order wsX4_bad := goodIn_r _ [15, 1, 108, 109, 110, 111, 112, 113, 114, 115, 116, 117, 118, 119, 120, 121, 122, 123, 124, 125, 126, 127, 128, 129, 130, 131, 132, 133, 134, 135] (by decide +kernel) (by decide +kernel)
set_option maxRecDepth 20000 in
theorem gX4_order_X4_bad : GoodIn wsX4_order (wsV RX4 64 RX4 yX4_bad wsX4_bad) := goodIn_app (goodIn_of _ (by decide +kernel)) ggX4_order_X4_bad
set_option maxRecDepth 20000 in
theorem ggX4_order_X4_readHat : GoodIn wsX4_order wsX4_readHat := goodIn_r _ [19, 20, 8, 21, 10, 22, 7, 23, 24, 25, 14, 26, 27, 28, 29, 30, 31, 32, 33, 34, 35, 36, 37, 38, 39, 40, 41, 42, 43, 44, 45, 46, 47, 48, 49, 50, 51, 52, 53, 54, 55, 56, 57, 58, 59, 60, 61, 62, 63, 64, 65, 66, 67, 68, 69, 70, 71, 72, 73, 74, 75, 76, 77, 78, 79, 80, 81, 82, 83, 84, 85, 86, 87, 88, 89, 90, 91, 92, 93, 94, 95, 96, 97, 98, 99, 100, 101, 108, 109, 110, 111, 112, 113, 114, 115, 116, 117, 118, 119, 120, 121, 122, 123, 124, 125, 126, 127, 128, 129, 130, 131, 132, 133, 134, 135] (by decide +kernel) (by decide +kernel)
set_option maxRecDepth 20000 in
theorem gX4_order_X4_readHat : GoodIn wsX4_order (wsV RX4 144 RX4 yX4_readHat wsX4_readHat) := goodIn_app (goodIn_of _ (by decide +kernel)) ggX4_order_X4_readHat
set_option maxRecDepth 20000 in
theorem ggX4_order_X4_misfitOf : GoodIn wsX4_order wsX4_misfitOf := goodIn_r _ [105, 106, 107, 108, 109, 110, 111, 112, 113, 114, 115, 116, 117, 118, 119, 120, 121, 122, 123, 124, 125, 126, 127, 128, 129, 130, 131, 132, 133, 134, 135] (by decide +kernel) (by decide +kernel)
set_option maxRecDepth 20000 in
theorem gX4_order_X4_misfitOf : GoodIn wsX4_order (wsV RX4 78 RX4 yX4_misfitOf wsX4_misfitOf) := goodIn_app (goodIn_of _ (by decide +kernel)) ggX4_order_X4_misfitOf
theorem dX4_order_0 : decode cX4_order 0 = .ok (.aload_n 0, 1) := by decide +kernel
theorem dX4_order_1 : decode cX4_order 1 = .ok (.iconst 0, 1) := by decide +kernel
theorem dX4_order_2 : decode cX4_order 2 = .ok (.putfield 61, 3) := by decide +kernel
theorem dX4_order_5 : decode cX4_order 5 = .ok (.aload_n 0, 1) := by decide +kernel
theorem dX4_order_6 : decode cX4_order 6 = .ok (.iload_n 1, 1) := by decide +kernel
theorem dX4_order_7 : decode cX4_order 7 = .ok (.ifCond .lt 32, 3) := by decide +kernel
theorem dX4_order_10 : decode cX4_order 10 = .ok (.iload_n 1, 1) := by decide +kernel
theorem dX4_order_11 : decode cX4_order 11 = .ok (.aload_n 0, 1) := by decide +kernel
theorem dX4_order_12 : decode cX4_order 12 = .ok (.getfield 82, 3) := by decide +kernel
theorem dX4_order_15 : decode cX4_order 15 = .ok (.if_icmp .gt 24, 3) := by decide +kernel
theorem dX4_order_18 : decode cX4_order 18 = .ok (.iload_n 2, 1) := by decide +kernel
theorem dX4_order_19 : decode cX4_order 19 = .ok (.ifCond .lt 20, 3) := by decide +kernel
theorem dX4_order_22 : decode cX4_order 22 = .ok (.iload_n 2, 1) := by decide +kernel
theorem dX4_order_23 : decode cX4_order 23 = .ok (.ldc 140, 2) := by decide +kernel
theorem dX4_order_25 : decode cX4_order 25 = .ok (.if_icmp .gt 14, 3) := by decide +kernel
theorem dX4_order_28 : decode cX4_order 28 = .ok (.iload_n 3, 1) := by decide +kernel
theorem dX4_order_29 : decode cX4_order 29 = .ok (.iconst 1, 1) := by decide +kernel
theorem dX4_order_30 : decode cX4_order 30 = .ok (.if_icmp .lt 9, 3) := by decide +kernel
theorem dX4_order_33 : decode cX4_order 33 = .ok (.iload_n 3, 1) := by decide +kernel
theorem dX4_order_34 : decode cX4_order 34 = .ok (.bipush 9, 2) := by decide +kernel
theorem dX4_order_36 : decode cX4_order 36 = .ok (.if_icmp .le 7, 3) := by decide +kernel
theorem dX4_order_39 : decode cX4_order 39 = .ok (.iconst 1, 1) := by decide +kernel
theorem dX4_order_40 : decode cX4_order 40 = .ok (.goto 4, 3) := by decide +kernel
theorem dX4_order_43 : decode cX4_order 43 = .ok (.iconst 0, 1) := by decide +kernel
theorem dX4_order_44 : decode cX4_order 44 = .ok (.iconst 1, 1) := by decide +kernel
theorem dX4_order_45 : decode cX4_order 45 = .ok (.invokevirtual 64, 3) := by decide +kernel
theorem dX4_order_48 : decode cX4_order 48 = .ok (.ifCond .eq 5, 3) := by decide +kernel
theorem dX4_order_51 : decode cX4_order 51 = .ok (.iconst 0, 1) := by decide +kernel
theorem dX4_order_52 : decode cX4_order 52 = .ok (.ireturn, 1) := by decide +kernel
theorem dX4_order_53 : decode cX4_order 53 = .ok (.aload_n 0, 1) := by decide +kernel
theorem dX4_order_54 : decode cX4_order 54 = .ok (.getfield 68, 3) := by decide +kernel
theorem dX4_order_57 : decode cX4_order 57 = .ok (.bipush 12, 2) := by decide +kernel
theorem dX4_order_59 : decode cX4_order 59 = .ok (.if_icmp .ge 5, 3) := by decide +kernel
theorem dX4_order_62 : decode cX4_order 62 = .ok (.iconst (-1), 1) := by decide +kernel
theorem dX4_order_63 : decode cX4_order 63 = .ok (.ireturn, 1) := by decide +kernel
theorem dX4_order_64 : decode cX4_order 64 = .ok (.aload_n 0, 1) := by decide +kernel
theorem dX4_order_65 : decode cX4_order 65 = .ok (.getfield 71, 3) := by decide +kernel
theorem dX4_order_68 : decode cX4_order 68 = .ok (.ifCond .ne 6, 3) := by decide +kernel
theorem dX4_order_71 : decode cX4_order 71 = .ok (.bipush (-2), 2) := by decide +kernel
theorem dX4_order_73 : decode cX4_order 73 = .ok (.ireturn, 1) := by decide +kernel
theorem dX4_order_74 : decode cX4_order 74 = .ok (.aload_n 0, 1) := by decide +kernel
theorem dX4_order_75 : decode cX4_order 75 = .ok (.getfield 141, 3) := by decide +kernel
theorem dX4_order_78 : decode cX4_order 78 = .ok (.bipush 60, 2) := by decide +kernel
theorem dX4_order_80 : decode cX4_order 80 = .ok (.if_icmp .ne 6, 3) := by decide +kernel
theorem dX4_order_83 : decode cX4_order 83 = .ok (.bipush (-3), 2) := by decide +kernel
theorem dX4_order_85 : decode cX4_order 85 = .ok (.ireturn, 1) := by decide +kernel
theorem dX4_order_86 : decode cX4_order 86 = .ok (.aload_n 0, 1) := by decide +kernel
theorem dX4_order_87 : decode cX4_order 87 = .ok (.iload_n 1, 1) := by decide +kernel
theorem dX4_order_88 : decode cX4_order 88 = .ok (.putfield 85, 3) := by decide +kernel
theorem dX4_order_91 : decode cX4_order 91 = .ok (.aload_n 0, 1) := by decide +kernel
theorem dX4_order_92 : decode cX4_order 92 = .ok (.iconst 0, 1) := by decide +kernel
theorem dX4_order_93 : decode cX4_order 93 = .ok (.putfield 82, 3) := by decide +kernel
theorem dX4_order_96 : decode cX4_order 96 = .ok (.aload_n 0, 1) := by decide +kernel
theorem dX4_order_97 : decode cX4_order 97 = .ok (.iconst 0, 1) := by decide +kernel
theorem dX4_order_98 : decode cX4_order 98 = .ok (.putfield 68, 3) := by decide +kernel
theorem dX4_order_101 : decode cX4_order 101 = .ok (.aload_n 0, 1) := by decide +kernel
theorem dX4_order_102 : decode cX4_order 102 = .ok (.invokevirtual 144, 3) := by decide +kernel
theorem dX4_order_105 : decode cX4_order 105 = .ok (.aload_n 0, 1) := by decide +kernel
theorem dX4_order_106 : decode cX4_order 106 = .ok (.getfield 95, 3) := by decide +kernel
theorem dX4_order_109 : decode cX4_order 109 = .ok (.ifCond .le 11, 3) := by decide +kernel
theorem dX4_order_112 : decode cX4_order 112 = .ok (.aload_n 0, 1) := by decide +kernel
theorem dX4_order_113 : decode cX4_order 113 = .ok (.getfield 95, 3) := by decide +kernel
theorem dX4_order_116 : decode cX4_order 116 = .ok (.bipush 10, 2) := by decide +kernel
theorem dX4_order_118 : decode cX4_order 118 = .ok (.isub, 1) := by decide +kernel
theorem dX4_order_119 : decode cX4_order 119 = .ok (.ireturn, 1) := by decide +kernel
theorem dX4_order_120 : decode cX4_order 120 = .ok (.bipush 12, 2) := by decide +kernel
theorem dX4_order_122 : decode cX4_order 122 = .ok (.aload_n 0, 1) := by decide +kernel
theorem dX4_order_123 : decode cX4_order 123 = .ok (.getfield 141, 3) := by decide +kernel
theorem dX4_order_126 : decode cX4_order 126 = .ok (.imul, 1) := by decide +kernel
theorem dX4_order_127 : decode cX4_order 127 = .ok (.istore 4, 2) := by decide +kernel
theorem dX4_order_129 : decode cX4_order 129 = .ok (.iconst (-1), 1) := by decide +kernel
theorem dX4_order_130 : decode cX4_order 130 = .ok (.istore 5, 2) := by decide +kernel
theorem dX4_order_132 : decode cX4_order 132 = .ok (.iconst 0, 1) := by decide +kernel
theorem dX4_order_133 : decode cX4_order 133 = .ok (.istore 6, 2) := by decide +kernel
theorem dX4_order_135 : decode cX4_order 135 = .ok (.iload 6, 2) := by decide +kernel
theorem dX4_order_137 : decode cX4_order 137 = .ok (.bipush 12, 2) := by decide +kernel
theorem dX4_order_139 : decode cX4_order 139 = .ok (.if_icmp .ge 76, 3) := by decide +kernel
theorem dX4_order_142 : decode cX4_order 142 = .ok (.iconst 0, 1) := by decide +kernel
theorem dX4_order_143 : decode cX4_order 143 = .ok (.istore 7, 2) := by decide +kernel
theorem dX4_order_145 : decode cX4_order 145 = .ok (.iload 7, 2) := by decide +kernel
theorem dX4_order_147 : decode cX4_order 147 = .ok (.aload_n 0, 1) := by decide +kernel
theorem dX4_order_148 : decode cX4_order 148 = .ok (.getfield 71, 3) := by decide +kernel
theorem dX4_order_151 : decode cX4_order 151 = .ok (.if_icmp .ge 58, 3) := by decide +kernel
theorem dX4_order_154 : decode cX4_order 154 = .ok (.aload_n 0, 1) := by decide +kernel
theorem dX4_order_155 : decode cX4_order 155 = .ok (.iload 7, 2) := by decide +kernel
theorem dX4_order_157 : decode cX4_order 157 = .ok (.iload 6, 2) := by decide +kernel
theorem dX4_order_159 : decode cX4_order 159 = .ok (.invokevirtual 78, 3) := by decide +kernel
theorem dX4_order_162 : decode cX4_order 162 = .ok (.istore 8, 2) := by decide +kernel
theorem dX4_order_164 : decode cX4_order 164 = .ok (.iload 5, 2) := by decide +kernel
theorem dX4_order_166 : decode cX4_order 166 = .ok (.ifCond .lt 13, 3) := by decide +kernel
theorem dX4_order_169 : decode cX4_order 169 = .ok (.iload 8, 2) := by decide +kernel
theorem dX4_order_171 : decode cX4_order 171 = .ok (.iload 5, 2) := by decide +kernel
theorem dX4_order_173 : decode cX4_order 173 = .ok (.if_icmp .lt 6, 3) := by decide +kernel
theorem dX4_order_176 : decode cX4_order 176 = .ok (.goto 27, 3) := by decide +kernel
theorem dX4_order_179 : decode cX4_order 179 = .ok (.iload 8, 2) := by decide +kernel
theorem dX4_order_181 : decode cX4_order 181 = .ok (.istore 5, 2) := by decide +kernel
theorem dX4_order_183 : decode cX4_order 183 = .ok (.aload_n 0, 1) := by decide +kernel
theorem dX4_order_184 : decode cX4_order 184 = .ok (.getfield 40, 3) := by decide +kernel
theorem dX4_order_187 : decode cX4_order 187 = .ok (.iload 4, 2) := by decide +kernel
theorem dX4_order_189 : decode cX4_order 189 = .ok (.iload 7, 2) := by decide +kernel
theorem dX4_order_191 : decode cX4_order 191 = .ok (.iastore, 1) := by decide +kernel
theorem dX4_order_192 : decode cX4_order 192 = .ok (.aload_n 0, 1) := by decide +kernel
theorem dX4_order_193 : decode cX4_order 193 = .ok (.getfield 40, 3) := by decide +kernel
theorem dX4_order_196 : decode cX4_order 196 = .ok (.iload 4, 2) := by decide +kernel
theorem dX4_order_198 : decode cX4_order 198 = .ok (.iconst 1, 1) := by decide +kernel
theorem dX4_order_199 : decode cX4_order 199 = .ok (.iadd, 1) := by decide +kernel
theorem dX4_order_200 : decode cX4_order 200 = .ok (.iload 6, 2) := by decide +kernel
theorem dX4_order_202 : decode cX4_order 202 = .ok (.iastore, 1) := by decide +kernel
theorem dX4_order_203 : decode cX4_order 203 = .ok (.iinc 7 1, 3) := by decide +kernel
theorem dX4_order_206 : decode cX4_order 206 = .ok (.goto (-61), 3) := by decide +kernel
theorem dX4_order_209 : decode cX4_order 209 = .ok (.iinc 6 1, 3) := by decide +kernel
theorem dX4_order_212 : decode cX4_order 212 = .ok (.goto (-77), 3) := by decide +kernel
theorem dX4_order_215 : decode cX4_order 215 = .ok (.aload_n 0, 1) := by decide +kernel
theorem dX4_order_216 : decode cX4_order 216 = .ok (.getfield 40, 3) := by decide +kernel
theorem dX4_order_219 : decode cX4_order 219 = .ok (.iload 4, 2) := by decide +kernel
theorem dX4_order_221 : decode cX4_order 221 = .ok (.iconst 2, 1) := by decide +kernel
theorem dX4_order_222 : decode cX4_order 222 = .ok (.iadd, 1) := by decide +kernel
theorem dX4_order_223 : decode cX4_order 223 = .ok (.iload 5, 2) := by decide +kernel
theorem dX4_order_225 : decode cX4_order 225 = .ok (.iastore, 1) := by decide +kernel
theorem dX4_order_226 : decode cX4_order 226 = .ok (.aload_n 0, 1) := by decide +kernel
theorem dX4_order_227 : decode cX4_order 227 = .ok (.getfield 40, 3) := by decide +kernel
theorem dX4_order_230 : decode cX4_order 230 = .ok (.iload 4, 2) := by decide +kernel
theorem dX4_order_232 : decode cX4_order 232 = .ok (.iconst 3, 1) := by decide +kernel
theorem dX4_order_233 : decode cX4_order 233 = .ok (.iadd, 1) := by decide +kernel
theorem dX4_order_234 : decode cX4_order 234 = .ok (.iconst 4, 1) := by decide +kernel
theorem dX4_order_235 : decode cX4_order 235 = .ok (.aload_n 0, 1) := by decide +kernel
theorem dX4_order_236 : decode cX4_order 236 = .ok (.getfield 24, 3) := by decide +kernel
theorem dX4_order_239 : decode cX4_order 239 = .ok (.iconst 0, 1) := by decide +kernel
theorem dX4_order_240 : decode cX4_order 240 = .ok (.iaload, 1) := by decide +kernel
theorem dX4_order_241 : decode cX4_order 241 = .ok (.imul, 1) := by decide +kernel
theorem dX4_order_242 : decode cX4_order 242 = .ok (.aload_n 0, 1) := by decide +kernel
theorem dX4_order_243 : decode cX4_order 243 = .ok (.getfield 24, 3) := by decide +kernel
theorem dX4_order_246 : decode cX4_order 246 = .ok (.iconst 3, 1) := by decide +kernel
theorem dX4_order_247 : decode cX4_order 247 = .ok (.iaload, 1) := by decide +kernel
theorem dX4_order_248 : decode cX4_order 248 = .ok (.imul, 1) := by decide +kernel
theorem dX4_order_249 : decode cX4_order 249 = .ok (.iconst 3, 1) := by decide +kernel
theorem dX4_order_250 : decode cX4_order 250 = .ok (.aload_n 0, 1) := by decide +kernel
theorem dX4_order_251 : decode cX4_order 251 = .ok (.getfield 24, 3) := by decide +kernel
theorem dX4_order_254 : decode cX4_order 254 = .ok (.iconst 1, 1) := by decide +kernel
theorem dX4_order_255 : decode cX4_order 255 = .ok (.iaload, 1) := by decide +kernel
theorem dX4_order_256 : decode cX4_order 256 = .ok (.imul, 1) := by decide +kernel
theorem dX4_order_257 : decode cX4_order 257 = .ok (.aload_n 0, 1) := by decide +kernel
theorem dX4_order_258 : decode cX4_order 258 = .ok (.getfield 24, 3) := by decide +kernel
theorem dX4_order_261 : decode cX4_order 261 = .ok (.iconst 3, 1) := by decide +kernel
theorem dX4_order_262 : decode cX4_order 262 = .ok (.iaload, 1) := by decide +kernel
theorem dX4_order_263 : decode cX4_order 263 = .ok (.imul, 1) := by decide +kernel
theorem dX4_order_264 : decode cX4_order 264 = .ok (.iadd, 1) := by decide +kernel
theorem dX4_order_265 : decode cX4_order 265 = .ok (.bipush 10, 2) := by decide +kernel
theorem dX4_order_267 : decode cX4_order 267 = .ok (.aload_n 0, 1) := by decide +kernel
theorem dX4_order_268 : decode cX4_order 268 = .ok (.getfield 24, 3) := by decide +kernel
theorem dX4_order_271 : decode cX4_order 271 = .ok (.iconst 2, 1) := by decide +kernel
theorem dX4_order_272 : decode cX4_order 272 = .ok (.iaload, 1) := by decide +kernel
theorem dX4_order_273 : decode cX4_order 273 = .ok (.imul, 1) := by decide +kernel
theorem dX4_order_274 : decode cX4_order 274 = .ok (.iadd, 1) := by decide +kernel
theorem dX4_order_275 : decode cX4_order 275 = .ok (.iastore, 1) := by decide +kernel
theorem dX4_order_276 : decode cX4_order 276 = .ok (.aload_n 0, 1) := by decide +kernel
theorem dX4_order_277 : decode cX4_order 277 = .ok (.getfield 40, 3) := by decide +kernel
theorem dX4_order_280 : decode cX4_order 280 = .ok (.iload 4, 2) := by decide +kernel
theorem dX4_order_282 : decode cX4_order 282 = .ok (.iconst 4, 1) := by decide +kernel
theorem dX4_order_283 : decode cX4_order 283 = .ok (.iadd, 1) := by decide +kernel
theorem dX4_order_284 : decode cX4_order 284 = .ok (.bipush 6, 2) := by decide +kernel
theorem dX4_order_286 : decode cX4_order 286 = .ok (.aload_n 0, 1) := by decide +kernel
theorem dX4_order_287 : decode cX4_order 287 = .ok (.getfield 24, 3) := by decide +kernel
theorem dX4_order_290 : decode cX4_order 290 = .ok (.iconst 3, 1) := by decide +kernel
theorem dX4_order_291 : decode cX4_order 291 = .ok (.iaload, 1) := by decide +kernel
theorem dX4_order_292 : decode cX4_order 292 = .ok (.imul, 1) := by decide +kernel
theorem dX4_order_293 : decode cX4_order 293 = .ok (.aload_n 0, 1) := by decide +kernel
theorem dX4_order_294 : decode cX4_order 294 = .ok (.getfield 24, 3) := by decide +kernel
theorem dX4_order_297 : decode cX4_order 297 = .ok (.iconst 1, 1) := by decide +kernel
theorem dX4_order_298 : decode cX4_order 298 = .ok (.iaload, 1) := by decide +kernel
theorem dX4_order_299 : decode cX4_order 299 = .ok (.iadd, 1) := by decide +kernel
theorem dX4_order_300 : decode cX4_order 300 = .ok (.iastore, 1) := by decide +kernel
theorem dX4_order_301 : decode cX4_order 301 = .ok (.aload_n 0, 1) := by decide +kernel
theorem dX4_order_302 : decode cX4_order 302 = .ok (.getfield 40, 3) := by decide +kernel
theorem dX4_order_305 : decode cX4_order 305 = .ok (.iload 4, 2) := by decide +kernel
theorem dX4_order_307 : decode cX4_order 307 = .ok (.iconst 5, 1) := by decide +kernel
theorem dX4_order_308 : decode cX4_order 308 = .ok (.iadd, 1) := by decide +kernel
theorem dX4_order_309 : decode cX4_order 309 = .ok (.bipush 10, 2) := by decide +kernel
theorem dX4_order_311 : decode cX4_order 311 = .ok (.aload_n 0, 1) := by decide +kernel
theorem dX4_order_312 : decode cX4_order 312 = .ok (.getfield 24, 3) := by decide +kernel
theorem dX4_order_315 : decode cX4_order 315 = .ok (.iconst 0, 1) := by decide +kernel
theorem dX4_order_316 : decode cX4_order 316 = .ok (.iaload, 1) := by decide +kernel
theorem dX4_order_317 : decode cX4_order 317 = .ok (.iadd, 1) := by decide +kernel
theorem dX4_order_318 : decode cX4_order 318 = .ok (.bipush 20, 2) := by decide +kernel
theorem dX4_order_320 : decode cX4_order 320 = .ok (.aload_n 0, 1) := by decide +kernel
theorem dX4_order_321 : decode cX4_order 321 = .ok (.getfield 24, 3) := by decide +kernel
theorem dX4_order_324 : decode cX4_order 324 = .ok (.iconst 3, 1) := by decide +kernel
theorem dX4_order_325 : decode cX4_order 325 = .ok (.iaload, 1) := by decide +kernel
theorem dX4_order_326 : decode cX4_order 326 = .ok (.imul, 1) := by decide +kernel
theorem dX4_order_327 : decode cX4_order 327 = .ok (.iadd, 1) := by decide +kernel
theorem dX4_order_328 : decode cX4_order 328 = .ok (.iastore, 1) := by decide +kernel
theorem dX4_order_329 : decode cX4_order 329 = .ok (.aload_n 0, 1) := by decide +kernel
theorem dX4_order_330 : decode cX4_order 330 = .ok (.getfield 40, 3) := by decide +kernel
theorem dX4_order_333 : decode cX4_order 333 = .ok (.iload 4, 2) := by decide +kernel
theorem dX4_order_335 : decode cX4_order 335 = .ok (.bipush 6, 2) := by decide +kernel
theorem dX4_order_337 : decode cX4_order 337 = .ok (.iadd, 1) := by decide +kernel
theorem dX4_order_338 : decode cX4_order 338 = .ok (.iload_n 2, 1) := by decide +kernel
theorem dX4_order_339 : decode cX4_order 339 = .ok (.iastore, 1) := by decide +kernel
theorem dX4_order_340 : decode cX4_order 340 = .ok (.aload_n 0, 1) := by decide +kernel
theorem dX4_order_341 : decode cX4_order 341 = .ok (.getfield 40, 3) := by decide +kernel
theorem dX4_order_344 : decode cX4_order 344 = .ok (.iload 4, 2) := by decide +kernel
theorem dX4_order_346 : decode cX4_order 346 = .ok (.bipush 7, 2) := by decide +kernel
theorem dX4_order_348 : decode cX4_order 348 = .ok (.iadd, 1) := by decide +kernel
theorem dX4_order_349 : decode cX4_order 349 = .ok (.iload_n 3, 1) := by decide +kernel
theorem dX4_order_350 : decode cX4_order 350 = .ok (.iastore, 1) := by decide +kernel
theorem dX4_order_351 : decode cX4_order 351 = .ok (.aload_n 0, 1) := by decide +kernel
theorem dX4_order_352 : decode cX4_order 352 = .ok (.getfield 40, 3) := by decide +kernel
theorem dX4_order_355 : decode cX4_order 355 = .ok (.iload 4, 2) := by decide +kernel
theorem dX4_order_357 : decode cX4_order 357 = .ok (.bipush 8, 2) := by decide +kernel
theorem dX4_order_359 : decode cX4_order 359 = .ok (.iadd, 1) := by decide +kernel
theorem dX4_order_360 : decode cX4_order 360 = .ok (.iconst 0, 1) := by decide +kernel
theorem dX4_order_361 : decode cX4_order 361 = .ok (.iastore, 1) := by decide +kernel
theorem dX4_order_362 : decode cX4_order 362 = .ok (.bipush 9, 2) := by decide +kernel
theorem dX4_order_364 : decode cX4_order 364 = .ok (.istore 6, 2) := by decide +kernel
theorem dX4_order_366 : decode cX4_order 366 = .ok (.iload 6, 2) := by decide +kernel
theorem dX4_order_368 : decode cX4_order 368 = .ok (.bipush 12, 2) := by decide +kernel
theorem dX4_order_370 : decode cX4_order 370 = .ok (.if_icmp .ge 20, 3) := by decide +kernel
theorem dX4_order_373 : decode cX4_order 373 = .ok (.aload_n 0, 1) := by decide +kernel
theorem dX4_order_374 : decode cX4_order 374 = .ok (.getfield 40, 3) := by decide +kernel
theorem dX4_order_377 : decode cX4_order 377 = .ok (.iload 4, 2) := by decide +kernel
theorem dX4_order_379 : decode cX4_order 379 = .ok (.iload 6, 2) := by decide +kernel
theorem dX4_order_381 : decode cX4_order 381 = .ok (.iadd, 1) := by decide +kernel
theorem dX4_order_382 : decode cX4_order 382 = .ok (.iconst (-1), 1) := by decide +kernel
theorem dX4_order_383 : decode cX4_order 383 = .ok (.iastore, 1) := by decide +kernel
theorem dX4_order_384 : decode cX4_order 384 = .ok (.iinc 6 1, 3) := by decide +kernel
theorem dX4_order_387 : decode cX4_order 387 = .ok (.goto (-21), 3) := by decide +kernel
theorem dX4_order_390 : decode cX4_order 390 = .ok (.aload_n 0, 1) := by decide +kernel
theorem dX4_order_391 : decode cX4_order 391 = .ok (.dup, 1) := by decide +kernel
theorem dX4_order_392 : decode cX4_order 392 = .ok (.getfield 141, 3) := by decide +kernel
theorem dX4_order_395 : decode cX4_order 395 = .ok (.iconst 1, 1) := by decide +kernel
theorem dX4_order_396 : decode cX4_order 396 = .ok (.iadd, 1) := by decide +kernel
theorem dX4_order_397 : decode cX4_order 397 = .ok (.putfield 141, 3) := by decide +kernel
theorem dX4_order_400 : decode cX4_order 400 = .ok (.aload_n 0, 1) := by decide +kernel
theorem dX4_order_401 : decode cX4_order 401 = .ok (.getfield 141, 3) := by decide +kernel
theorem dX4_order_404 : decode cX4_order 404 = .ok (.iconst 1, 1) := by decide +kernel
theorem dX4_order_405 : decode cX4_order 405 = .ok (.isub, 1) := by decide +kernel
theorem dX4_order_406 : decode cX4_order 406 = .ok (.ireturn, 1) := by decide +kernel
theorem dX4_fault_0 : decode cX4_fault 0 = .ok (.aload_n 0, 1) := by decide +kernel
theorem dX4_fault_1 : decode cX4_fault 1 = .ok (.iconst 0, 1) := by decide +kernel
theorem dX4_fault_2 : decode cX4_fault 2 = .ok (.putfield 61, 3) := by decide +kernel
theorem dX4_fault_5 : decode cX4_fault 5 = .ok (.aload_n 0, 1) := by decide +kernel
theorem dX4_fault_6 : decode cX4_fault 6 = .ok (.getfield 20, 3) := by decide +kernel
theorem dX4_fault_9 : decode cX4_fault 9 = .ok (.ireturn, 1) := by decide +kernel
theorem dX4_isOrder_0 : decode cX4_isOrder 0 = .ok (.aload_n 0, 1) := by decide +kernel
theorem dX4_isOrder_1 : decode cX4_isOrder 1 = .ok (.iload_n 1, 1) := by decide +kernel
theorem dX4_isOrder_2 : decode cX4_isOrder 2 = .ok (.ifCond .lt 11, 3) := by decide +kernel
theorem dX4_isOrder_5 : decode cX4_isOrder 5 = .ok (.iload_n 1, 1) := by decide +kernel
theorem dX4_isOrder_6 : decode cX4_isOrder 6 = .ok (.aload_n 0, 1) := by decide +kernel
theorem dX4_isOrder_7 : decode cX4_isOrder 7 = .ok (.getfield 141, 3) := by decide +kernel
theorem dX4_isOrder_10 : decode cX4_isOrder 10 = .ok (.if_icmp .lt 7, 3) := by decide +kernel
theorem dX4_isOrder_13 : decode cX4_isOrder 13 = .ok (.iconst 1, 1) := by decide +kernel
theorem dX4_isOrder_14 : decode cX4_isOrder 14 = .ok (.goto 4, 3) := by decide +kernel
theorem dX4_isOrder_17 : decode cX4_isOrder 17 = .ok (.iconst 0, 1) := by decide +kernel
theorem dX4_isOrder_18 : decode cX4_isOrder 18 = .ok (.putfield 61, 3) := by decide +kernel
theorem dX4_isOrder_21 : decode cX4_isOrder 21 = .ok (.aload_n 0, 1) := by decide +kernel
theorem dX4_isOrder_22 : decode cX4_isOrder 22 = .ok (.getfield 61, 3) := by decide +kernel
theorem dX4_isOrder_25 : decode cX4_isOrder 25 = .ok (.ifCond .ne 7, 3) := by decide +kernel
theorem dX4_isOrder_28 : decode cX4_isOrder 28 = .ok (.iconst 1, 1) := by decide +kernel
theorem dX4_isOrder_29 : decode cX4_isOrder 29 = .ok (.goto 4, 3) := by decide +kernel
theorem dX4_isOrder_32 : decode cX4_isOrder 32 = .ok (.iconst 0, 1) := by decide +kernel
theorem dX4_isOrder_33 : decode cX4_isOrder 33 = .ok (.ireturn, 1) := by decide +kernel
theorem dX4_waits_0 : decode cX4_waits 0 = .ok (.aload_n 0, 1) := by decide +kernel
theorem dX4_waits_1 : decode cX4_waits 1 = .ok (.getfield 40, 3) := by decide +kernel
theorem dX4_waits_4 : decode cX4_waits 4 = .ok (.bipush 12, 2) := by decide +kernel
theorem dX4_waits_6 : decode cX4_waits 6 = .ok (.iload_n 1, 1) := by decide +kernel
theorem dX4_waits_7 : decode cX4_waits 7 = .ok (.imul, 1) := by decide +kernel
theorem dX4_waits_8 : decode cX4_waits 8 = .ok (.bipush 8, 2) := by decide +kernel
theorem dX4_waits_10 : decode cX4_waits 10 = .ok (.iadd, 1) := by decide +kernel
theorem dX4_waits_11 : decode cX4_waits 11 = .ok (.iaload, 1) := by decide +kernel
theorem dX4_waits_12 : decode cX4_waits 12 = .ok (.ifCond .ne 7, 3) := by decide +kernel
theorem dX4_waits_15 : decode cX4_waits 15 = .ok (.iconst 1, 1) := by decide +kernel
theorem dX4_waits_16 : decode cX4_waits 16 = .ok (.goto 4, 3) := by decide +kernel
theorem dX4_waits_19 : decode cX4_waits 19 = .ok (.iconst 0, 1) := by decide +kernel
theorem dX4_waits_20 : decode cX4_waits 20 = .ok (.ireturn, 1) := by decide +kernel
set_option maxRecDepth 20000 in
theorem ggX4_told_X4_isOrder : GoodIn wsX4_told wsX4_isOrder := goodIn_r _ [7, 8, 9, 14, 15, 16, 17, 18, 19, 20, 21, 22, 23, 24, 25, 26, 27, 28, 29, 30, 31, 32, 33, 34, 35, 36, 37, 38, 39, 40, 41] (by decide +kernel) (by decide +kernel)
set_option maxRecDepth 20000 in
theorem gX4_told_X4_isOrder : GoodIn wsX4_told (wsV RX4 147 RX4 yX4_isOrder wsX4_isOrder) := goodIn_app (goodIn_of _ (by decide +kernel)) ggX4_told_X4_isOrder
set_option maxRecDepth 20000 in
theorem ggX4_told_X4_bad : GoodIn wsX4_told wsX4_bad := goodIn_r _ [13, 9, 14, 15, 16, 17, 18, 19, 20, 21, 22, 23, 24, 25, 26, 27, 28, 29, 30, 31, 32, 33, 34, 35, 36, 37, 38, 39, 40, 41] (by decide +kernel) (by decide +kernel)
set_option maxRecDepth 20000 in
theorem gX4_told_X4_bad : GoodIn wsX4_told (wsV RX4 64 RX4 yX4_bad wsX4_bad) := goodIn_app (goodIn_of _ (by decide +kernel)) ggX4_told_X4_bad
theorem dX4_told_0 : decode cX4_told 0 = .ok (.aload_n 0, 1) := by decide +kernel
theorem dX4_told_1 : decode cX4_told 1 = .ok (.iload_n 1, 1) := by decide +kernel
theorem dX4_told_2 : decode cX4_told 2 = .ok (.invokevirtual 147, 3) := by decide +kernel
theorem dX4_told_5 : decode cX4_told 5 = .ok (.ifCond .eq 26, 3) := by decide +kernel
theorem dX4_told_8 : decode cX4_told 8 = .ok (.aload_n 0, 1) := by decide +kernel
theorem dX4_told_9 : decode cX4_told 9 = .ok (.iload_n 2, 1) := by decide +kernel
theorem dX4_told_10 : decode cX4_told 10 = .ok (.ifCond .lt 9, 3) := by decide +kernel
theorem dX4_told_13 : decode cX4_told 13 = .ok (.iload_n 2, 1) := by decide +kernel
theorem dX4_told_14 : decode cX4_told 14 = .ok (.bipush 11, 2) := by decide +kernel
theorem dX4_told_16 : decode cX4_told 16 = .ok (.if_icmp .le 7, 3) := by decide +kernel
theorem dX4_told_19 : decode cX4_told 19 = .ok (.iconst 1, 1) := by decide +kernel
theorem dX4_told_20 : decode cX4_told 20 = .ok (.goto 4, 3) := by decide +kernel
theorem dX4_told_23 : decode cX4_told 23 = .ok (.iconst 0, 1) := by decide +kernel
theorem dX4_told_24 : decode cX4_told 24 = .ok (.iconst 2, 1) := by decide +kernel
theorem dX4_told_25 : decode cX4_told 25 = .ok (.invokevirtual 64, 3) := by decide +kernel
theorem dX4_told_28 : decode cX4_told 28 = .ok (.ifCond .eq 5, 3) := by decide +kernel
theorem dX4_told_31 : decode cX4_told 31 = .ok (.iconst 0, 1) := by decide +kernel
theorem dX4_told_32 : decode cX4_told 32 = .ok (.ireturn, 1) := by decide +kernel
theorem dX4_told_33 : decode cX4_told 33 = .ok (.aload_n 0, 1) := by decide +kernel
theorem dX4_told_34 : decode cX4_told 34 = .ok (.getfield 40, 3) := by decide +kernel
theorem dX4_told_37 : decode cX4_told 37 = .ok (.bipush 12, 2) := by decide +kernel
theorem dX4_told_39 : decode cX4_told 39 = .ok (.iload_n 1, 1) := by decide +kernel
theorem dX4_told_40 : decode cX4_told 40 = .ok (.imul, 1) := by decide +kernel
theorem dX4_told_41 : decode cX4_told 41 = .ok (.iload_n 2, 1) := by decide +kernel
theorem dX4_told_42 : decode cX4_told 42 = .ok (.iadd, 1) := by decide +kernel
theorem dX4_told_43 : decode cX4_told 43 = .ok (.iaload, 1) := by decide +kernel
theorem dX4_told_44 : decode cX4_told 44 = .ok (.istore_n 3, 1) := by decide +kernel
theorem dX4_told_45 : decode cX4_told 45 = .ok (.iload_n 2, 1) := by decide +kernel
theorem dX4_told_46 : decode cX4_told 46 = .ok (.bipush 8, 2) := by decide +kernel
theorem dX4_told_48 : decode cX4_told 48 = .ok (.if_icmp .ne 31, 3) := by decide +kernel
theorem dX4_told_51 : decode cX4_told 51 = .ok (.iload_n 3, 1) := by decide +kernel
theorem dX4_told_52 : decode cX4_told 52 = .ok (.iconst 1, 1) := by decide +kernel
theorem dX4_told_53 : decode cX4_told 53 = .ok (.if_icmp .ne 26, 3) := by decide +kernel
theorem dX4_told_56 : decode cX4_told 56 = .ok (.aload_n 0, 1) := by decide +kernel
theorem dX4_told_57 : decode cX4_told 57 = .ok (.getfield 40, 3) := by decide +kernel
theorem dX4_told_60 : decode cX4_told 60 = .ok (.bipush 12, 2) := by decide +kernel
theorem dX4_told_62 : decode cX4_told 62 = .ok (.iload_n 1, 1) := by decide +kernel
theorem dX4_told_63 : decode cX4_told 63 = .ok (.imul, 1) := by decide +kernel
theorem dX4_told_64 : decode cX4_told 64 = .ok (.bipush 10, 2) := by decide +kernel
theorem dX4_told_66 : decode cX4_told 66 = .ok (.iadd, 1) := by decide +kernel
theorem dX4_told_67 : decode cX4_told 67 = .ok (.iaload, 1) := by decide +kernel
theorem dX4_told_68 : decode cX4_told 68 = .ok (.aload_n 0, 1) := by decide +kernel
theorem dX4_told_69 : decode cX4_told 69 = .ok (.getfield 150, 3) := by decide +kernel
theorem dX4_told_72 : decode cX4_told 72 = .ok (.if_icmp .gt 7, 3) := by decide +kernel
theorem dX4_told_75 : decode cX4_told 75 = .ok (.iconst 2, 1) := by decide +kernel
theorem dX4_told_76 : decode cX4_told 76 = .ok (.goto 4, 3) := by decide +kernel
theorem dX4_told_79 : decode cX4_told 79 = .ok (.iload_n 3, 1) := by decide +kernel
theorem dX4_told_80 : decode cX4_told 80 = .ok (.ireturn, 1) := by decide +kernel
theorem dX4_goes_0 : decode cX4_goes 0 = .ok (.bipush 12, 2) := by decide +kernel
theorem dX4_goes_2 : decode cX4_goes 2 = .ok (.iload_n 1, 1) := by decide +kernel
theorem dX4_goes_3 : decode cX4_goes 3 = .ok (.imul, 1) := by decide +kernel
theorem dX4_goes_4 : decode cX4_goes 4 = .ok (.istore_n 2, 1) := by decide +kernel
theorem dX4_goes_5 : decode cX4_goes 5 = .ok (.aload_n 0, 1) := by decide +kernel
theorem dX4_goes_6 : decode cX4_goes 6 = .ok (.getfield 40, 3) := by decide +kernel
theorem dX4_goes_9 : decode cX4_goes 9 = .ok (.iload_n 2, 1) := by decide +kernel
theorem dX4_goes_10 : decode cX4_goes 10 = .ok (.iaload, 1) := by decide +kernel
theorem dX4_goes_11 : decode cX4_goes 11 = .ok (.istore_n 3, 1) := by decide +kernel
theorem dX4_goes_12 : decode cX4_goes 12 = .ok (.aload_n 0, 1) := by decide +kernel
theorem dX4_goes_13 : decode cX4_goes 13 = .ok (.getfield 150, 3) := by decide +kernel
theorem dX4_goes_16 : decode cX4_goes 16 = .ok (.aload_n 0, 1) := by decide +kernel
theorem dX4_goes_17 : decode cX4_goes 17 = .ok (.getfield 153, 3) := by decide +kernel
theorem dX4_goes_20 : decode cX4_goes 20 = .ok (.if_icmp .le 10, 3) := by decide +kernel
theorem dX4_goes_23 : decode cX4_goes 23 = .ok (.aload_n 0, 1) := by decide +kernel
theorem dX4_goes_24 : decode cX4_goes 24 = .ok (.getfield 150, 3) := by decide +kernel
theorem dX4_goes_27 : decode cX4_goes 27 = .ok (.goto 7, 3) := by decide +kernel
theorem dX4_goes_30 : decode cX4_goes 30 = .ok (.aload_n 0, 1) := by decide +kernel
theorem dX4_goes_31 : decode cX4_goes 31 = .ok (.getfield 153, 3) := by decide +kernel
theorem dX4_goes_34 : decode cX4_goes 34 = .ok (.istore 4, 2) := by decide +kernel
theorem dX4_goes_36 : decode cX4_goes 36 = .ok (.aload_n 0, 1) := by decide +kernel
theorem dX4_goes_37 : decode cX4_goes 37 = .ok (.getfield 34, 3) := by decide +kernel
theorem dX4_goes_40 : decode cX4_goes 40 = .ok (.iload_n 3, 1) := by decide +kernel
theorem dX4_goes_41 : decode cX4_goes 41 = .ok (.iaload, 1) := by decide +kernel
theorem dX4_goes_42 : decode cX4_goes 42 = .ok (.aload_n 0, 1) := by decide +kernel
theorem dX4_goes_43 : decode cX4_goes 43 = .ok (.getfield 40, 3) := by decide +kernel
theorem dX4_goes_46 : decode cX4_goes 46 = .ok (.iload_n 2, 1) := by decide +kernel
theorem dX4_goes_47 : decode cX4_goes 47 = .ok (.iconst 4, 1) := by decide +kernel
theorem dX4_goes_48 : decode cX4_goes 48 = .ok (.iadd, 1) := by decide +kernel
theorem dX4_goes_49 : decode cX4_goes 49 = .ok (.iaload, 1) := by decide +kernel
theorem dX4_goes_50 : decode cX4_goes 50 = .ok (.isub, 1) := by decide +kernel
theorem dX4_goes_51 : decode cX4_goes 51 = .ok (.iload 4, 2) := by decide +kernel
theorem dX4_goes_53 : decode cX4_goes 53 = .ok (.if_icmp .le 20, 3) := by decide +kernel
theorem dX4_goes_56 : decode cX4_goes 56 = .ok (.aload_n 0, 1) := by decide +kernel
theorem dX4_goes_57 : decode cX4_goes 57 = .ok (.getfield 34, 3) := by decide +kernel
theorem dX4_goes_60 : decode cX4_goes 60 = .ok (.iload_n 3, 1) := by decide +kernel
theorem dX4_goes_61 : decode cX4_goes 61 = .ok (.iaload, 1) := by decide +kernel
theorem dX4_goes_62 : decode cX4_goes 62 = .ok (.aload_n 0, 1) := by decide +kernel
theorem dX4_goes_63 : decode cX4_goes 63 = .ok (.getfield 40, 3) := by decide +kernel
theorem dX4_goes_66 : decode cX4_goes 66 = .ok (.iload_n 2, 1) := by decide +kernel
theorem dX4_goes_67 : decode cX4_goes 67 = .ok (.iconst 4, 1) := by decide +kernel
theorem dX4_goes_68 : decode cX4_goes 68 = .ok (.iadd, 1) := by decide +kernel
theorem dX4_goes_69 : decode cX4_goes 69 = .ok (.iaload, 1) := by decide +kernel
theorem dX4_goes_70 : decode cX4_goes 70 = .ok (.isub, 1) := by decide +kernel
theorem dX4_goes_71 : decode cX4_goes 71 = .ok (.istore 4, 2) := by decide +kernel
theorem dX4_goes_73 : decode cX4_goes 73 = .ok (.aload_n 0, 1) := by decide +kernel
theorem dX4_goes_74 : decode cX4_goes 74 = .ok (.getfield 40, 3) := by decide +kernel
theorem dX4_goes_77 : decode cX4_goes 77 = .ok (.iload_n 2, 1) := by decide +kernel
theorem dX4_goes_78 : decode cX4_goes 78 = .ok (.bipush 8, 2) := by decide +kernel
theorem dX4_goes_80 : decode cX4_goes 80 = .ok (.iadd, 1) := by decide +kernel
theorem dX4_goes_81 : decode cX4_goes 81 = .ok (.iconst 1, 1) := by decide +kernel
theorem dX4_goes_82 : decode cX4_goes 82 = .ok (.iastore, 1) := by decide +kernel
theorem dX4_goes_83 : decode cX4_goes 83 = .ok (.aload_n 0, 1) := by decide +kernel
theorem dX4_goes_84 : decode cX4_goes 84 = .ok (.getfield 40, 3) := by decide +kernel
theorem dX4_goes_87 : decode cX4_goes 87 = .ok (.iload_n 2, 1) := by decide +kernel
theorem dX4_goes_88 : decode cX4_goes 88 = .ok (.bipush 9, 2) := by decide +kernel
theorem dX4_goes_90 : decode cX4_goes 90 = .ok (.iadd, 1) := by decide +kernel
theorem dX4_goes_91 : decode cX4_goes 91 = .ok (.iload 4, 2) := by decide +kernel
theorem dX4_goes_93 : decode cX4_goes 93 = .ok (.iastore, 1) := by decide +kernel
theorem dX4_goes_94 : decode cX4_goes 94 = .ok (.aload_n 0, 1) := by decide +kernel
theorem dX4_goes_95 : decode cX4_goes 95 = .ok (.getfield 40, 3) := by decide +kernel
theorem dX4_goes_98 : decode cX4_goes 98 = .ok (.iload_n 2, 1) := by decide +kernel
theorem dX4_goes_99 : decode cX4_goes 99 = .ok (.bipush 10, 2) := by decide +kernel
theorem dX4_goes_101 : decode cX4_goes 101 = .ok (.iadd, 1) := by decide +kernel
theorem dX4_goes_102 : decode cX4_goes 102 = .ok (.iload 4, 2) := by decide +kernel
theorem dX4_goes_104 : decode cX4_goes 104 = .ok (.aload_n 0, 1) := by decide +kernel
theorem dX4_goes_105 : decode cX4_goes 105 = .ok (.getfield 40, 3) := by decide +kernel
theorem dX4_goes_108 : decode cX4_goes 108 = .ok (.iload_n 2, 1) := by decide +kernel
theorem dX4_goes_109 : decode cX4_goes 109 = .ok (.iconst 4, 1) := by decide +kernel
theorem dX4_goes_110 : decode cX4_goes 110 = .ok (.iadd, 1) := by decide +kernel
theorem dX4_goes_111 : decode cX4_goes 111 = .ok (.iaload, 1) := by decide +kernel
theorem dX4_goes_112 : decode cX4_goes 112 = .ok (.iadd, 1) := by decide +kernel
theorem dX4_goes_113 : decode cX4_goes 113 = .ok (.aload_n 0, 1) := by decide +kernel
theorem dX4_goes_114 : decode cX4_goes 114 = .ok (.getfield 40, 3) := by decide +kernel
theorem dX4_goes_117 : decode cX4_goes 117 = .ok (.iload_n 2, 1) := by decide +kernel
theorem dX4_goes_118 : decode cX4_goes 118 = .ok (.iconst 5, 1) := by decide +kernel
theorem dX4_goes_119 : decode cX4_goes 119 = .ok (.iadd, 1) := by decide +kernel
theorem dX4_goes_120 : decode cX4_goes 120 = .ok (.iaload, 1) := by decide +kernel
theorem dX4_goes_121 : decode cX4_goes 121 = .ok (.iadd, 1) := by decide +kernel
theorem dX4_goes_122 : decode cX4_goes 122 = .ok (.iastore, 1) := by decide +kernel
theorem dX4_goes_123 : decode cX4_goes 123 = .ok (.aload_n 0, 1) := by decide +kernel
theorem dX4_goes_124 : decode cX4_goes 124 = .ok (.getfield 40, 3) := by decide +kernel
theorem dX4_goes_127 : decode cX4_goes 127 = .ok (.iload_n 2, 1) := by decide +kernel
theorem dX4_goes_128 : decode cX4_goes 128 = .ok (.bipush 11, 2) := by decide +kernel
theorem dX4_goes_130 : decode cX4_goes 130 = .ok (.iadd, 1) := by decide +kernel
theorem dX4_goes_131 : decode cX4_goes 131 = .ok (.iload 4, 2) := by decide +kernel
theorem dX4_goes_133 : decode cX4_goes 133 = .ok (.aload_n 0, 1) := by decide +kernel
theorem dX4_goes_134 : decode cX4_goes 134 = .ok (.getfield 150, 3) := by decide +kernel
theorem dX4_goes_137 : decode cX4_goes 137 = .ok (.if_icmp .ne 7, 3) := by decide +kernel
theorem dX4_goes_140 : decode cX4_goes 140 = .ok (.iconst (-1), 1) := by decide +kernel
theorem dX4_goes_141 : decode cX4_goes 141 = .ok (.goto 34, 3) := by decide +kernel
theorem dX4_goes_144 : decode cX4_goes 144 = .ok (.aload_n 0, 1) := by decide +kernel
theorem dX4_goes_145 : decode cX4_goes 145 = .ok (.getfield 153, 3) := by decide +kernel
theorem dX4_goes_148 : decode cX4_goes 148 = .ok (.iload 4, 2) := by decide +kernel
theorem dX4_goes_150 : decode cX4_goes 150 = .ok (.if_icmp .lt 17, 3) := by decide +kernel
theorem dX4_goes_153 : decode cX4_goes 153 = .ok (.aload_n 0, 1) := by decide +kernel
theorem dX4_goes_154 : decode cX4_goes 154 = .ok (.getfield 31, 3) := by decide +kernel
theorem dX4_goes_157 : decode cX4_goes 157 = .ok (.ifCond .lt 10, 3) := by decide +kernel
theorem dX4_goes_160 : decode cX4_goes 160 = .ok (.aload_n 0, 1) := by decide +kernel
theorem dX4_goes_161 : decode cX4_goes 161 = .ok (.getfield 31, 3) := by decide +kernel
theorem dX4_goes_164 : decode cX4_goes 164 = .ok (.goto 11, 3) := by decide +kernel
theorem dX4_goes_167 : decode cX4_goes 167 = .ok (.aload_n 0, 1) := by decide +kernel
theorem dX4_goes_168 : decode cX4_goes 168 = .ok (.getfield 37, 3) := by decide +kernel
theorem dX4_goes_171 : decode cX4_goes 171 = .ok (.iload_n 3, 1) := by decide +kernel
theorem dX4_goes_172 : decode cX4_goes 172 = .ok (.iaload, 1) := by decide +kernel
theorem dX4_goes_173 : decode cX4_goes 173 = .ok (.iconst 1, 1) := by decide +kernel
theorem dX4_goes_174 : decode cX4_goes 174 = .ok (.isub, 1) := by decide +kernel
theorem dX4_goes_175 : decode cX4_goes 175 = .ok (.iastore, 1) := by decide +kernel
theorem dX4_goes_176 : decode cX4_goes 176 = .ok (.aload_n 0, 1) := by decide +kernel
theorem dX4_goes_177 : decode cX4_goes 177 = .ok (.iload 4, 2) := by decide +kernel
theorem dX4_goes_179 : decode cX4_goes 179 = .ok (.aload_n 0, 1) := by decide +kernel
theorem dX4_goes_180 : decode cX4_goes 180 = .ok (.getfield 40, 3) := by decide +kernel
theorem dX4_goes_183 : decode cX4_goes 183 = .ok (.iload_n 2, 1) := by decide +kernel
theorem dX4_goes_184 : decode cX4_goes 184 = .ok (.iconst 4, 1) := by decide +kernel
theorem dX4_goes_185 : decode cX4_goes 185 = .ok (.iadd, 1) := by decide +kernel
theorem dX4_goes_186 : decode cX4_goes 186 = .ok (.iaload, 1) := by decide +kernel
theorem dX4_goes_187 : decode cX4_goes 187 = .ok (.iadd, 1) := by decide +kernel
theorem dX4_goes_188 : decode cX4_goes 188 = .ok (.putfield 153, 3) := by decide +kernel
theorem dX4_goes_191 : decode cX4_goes 191 = .ok (.aload_n 0, 1) := by decide +kernel
theorem dX4_goes_192 : decode cX4_goes 192 = .ok (.iload_n 1, 1) := by decide +kernel
theorem dX4_goes_193 : decode cX4_goes 193 = .ok (.putfield 31, 3) := by decide +kernel
theorem dX4_goes_196 : decode cX4_goes 196 = .ok (.aload_n 0, 1) := by decide +kernel
theorem dX4_goes_197 : decode cX4_goes 197 = .ok (.getfield 34, 3) := by decide +kernel
theorem dX4_goes_200 : decode cX4_goes 200 = .ok (.iload_n 3, 1) := by decide +kernel
theorem dX4_goes_201 : decode cX4_goes 201 = .ok (.aload_n 0, 1) := by decide +kernel
theorem dX4_goes_202 : decode cX4_goes 202 = .ok (.getfield 40, 3) := by decide +kernel
theorem dX4_goes_205 : decode cX4_goes 205 = .ok (.iload_n 2, 1) := by decide +kernel
theorem dX4_goes_206 : decode cX4_goes 206 = .ok (.bipush 10, 2) := by decide +kernel
theorem dX4_goes_208 : decode cX4_goes 208 = .ok (.iadd, 1) := by decide +kernel
theorem dX4_goes_209 : decode cX4_goes 209 = .ok (.iaload, 1) := by decide +kernel
theorem dX4_goes_210 : decode cX4_goes 210 = .ok (.iastore, 1) := by decide +kernel
theorem dX4_goes_211 : decode cX4_goes 211 = .ok (.aload_n 0, 1) := by decide +kernel
theorem dX4_goes_212 : decode cX4_goes 212 = .ok (.getfield 37, 3) := by decide +kernel
theorem dX4_goes_215 : decode cX4_goes 215 = .ok (.iload_n 3, 1) := by decide +kernel
theorem dX4_goes_216 : decode cX4_goes 216 = .ok (.iload_n 1, 1) := by decide +kernel
theorem dX4_goes_217 : decode cX4_goes 217 = .ok (.iconst 1, 1) := by decide +kernel
theorem dX4_goes_218 : decode cX4_goes 218 = .ok (.iadd, 1) := by decide +kernel
theorem dX4_goes_219 : decode cX4_goes 219 = .ok (.iastore, 1) := by decide +kernel
theorem dX4_goes_220 : decode cX4_goes 220 = .ok (.iload 4, 2) := by decide +kernel
theorem dX4_goes_222 : decode cX4_goes 222 = .ok (.ireturn, 1) := by decide +kernel
set_option maxRecDepth 20000 in
theorem ggX4_go_X4_isOrder : GoodIn wsX4_go wsX4_isOrder := goodIn_r _ [5, 6, 7, 22, 23, 24, 25, 26, 27, 28, 29, 30, 31, 32, 33, 34, 35, 36, 37, 38, 39, 40, 41, 42, 43, 44, 45, 46, 47, 48, 49] (by decide +kernel) (by decide +kernel)
set_option maxRecDepth 20000 in
theorem gX4_go_X4_isOrder : GoodIn wsX4_go (wsV RX4 147 RX4 yX4_isOrder wsX4_isOrder) := goodIn_app (goodIn_of _ (by decide +kernel)) ggX4_go_X4_isOrder
set_option maxRecDepth 20000 in
theorem ggX4_go_X4_waits : GoodIn wsX4_go wsX4_waits := goodIn_r _ [11, 12, 22, 23, 24, 25, 26, 27, 28, 29, 30, 31, 32, 33, 34, 35, 36, 37, 38, 39, 40, 41, 42, 43, 44, 45, 46, 47, 48, 49] (by decide +kernel) (by decide +kernel)
set_option maxRecDepth 20000 in
theorem gX4_go_X4_waits : GoodIn wsX4_go (wsV RX4 156 RX4 yX4_waits wsX4_waits) := goodIn_app (goodIn_of _ (by decide +kernel)) ggX4_go_X4_waits
set_option maxRecDepth 20000 in
theorem ggX4_go_X4_goes : GoodIn wsX4_go wsX4_goes := goodIn_r _ [16, 12, 17, 18, 19, 20, 21, 22, 23, 24, 25, 26, 27, 28, 29, 30, 31, 32, 33, 34, 35, 36, 37, 38, 39, 40, 41, 42, 43, 44, 45, 46, 47, 48, 49] (by decide +kernel) (by decide +kernel)
set_option maxRecDepth 20000 in
theorem gX4_go_X4_goes : GoodIn wsX4_go (wsV RX4 159 RX4 yX4_goes wsX4_goes) := goodIn_app (goodIn_of _ (by decide +kernel)) ggX4_go_X4_goes
theorem dX4_go_0 : decode cX4_go 0 = .ok (.aload_n 0, 1) := by decide +kernel
theorem dX4_go_1 : decode cX4_go 1 = .ok (.iload_n 1, 1) := by decide +kernel
theorem dX4_go_2 : decode cX4_go 2 = .ok (.invokevirtual 147, 3) := by decide +kernel
theorem dX4_go_5 : decode cX4_go 5 = .ok (.ifCond .ne 5, 3) := by decide +kernel
theorem dX4_go_8 : decode cX4_go 8 = .ok (.iconst 0, 1) := by decide +kernel
theorem dX4_go_9 : decode cX4_go 9 = .ok (.ireturn, 1) := by decide +kernel
theorem dX4_go_10 : decode cX4_go 10 = .ok (.aload_n 0, 1) := by decide +kernel
theorem dX4_go_11 : decode cX4_go 11 = .ok (.iload_n 1, 1) := by decide +kernel
theorem dX4_go_12 : decode cX4_go 12 = .ok (.invokevirtual 156, 3) := by decide +kernel
theorem dX4_go_15 : decode cX4_go 15 = .ok (.ifCond .eq 11, 3) := by decide +kernel
theorem dX4_go_18 : decode cX4_go 18 = .ok (.aload_n 0, 1) := by decide +kernel
theorem dX4_go_19 : decode cX4_go 19 = .ok (.iload_n 1, 1) := by decide +kernel
theorem dX4_go_20 : decode cX4_go 20 = .ok (.invokevirtual 159, 3) := by decide +kernel
theorem dX4_go_23 : decode cX4_go 23 = .ok (.goto 4, 3) := by decide +kernel
theorem dX4_go_26 : decode cX4_go 26 = .ok (.iconst (-1), 1) := by decide +kernel
theorem dX4_go_27 : decode cX4_go 27 = .ok (.ireturn, 1) := by decide +kernel
set_option maxRecDepth 20000 in
theorem ggX4_wait_X4_bad : GoodIn wsX4_wait wsX4_bad := goodIn_r _ [8, 1, 9, 10, 11, 12, 13, 14, 15, 16, 17, 18, 19, 20, 21, 22, 23, 24, 25, 26, 27, 28, 29, 30, 31, 32, 33, 34, 35, 36] (by decide +kernel) (by decide +kernel)
set_option maxRecDepth 20000 in
theorem gX4_wait_X4_bad : GoodIn wsX4_wait (wsV RX4 64 RX4 yX4_bad wsX4_bad) := goodIn_app (goodIn_of _ (by decide +kernel)) ggX4_wait_X4_bad
theorem dX4_wait_0 : decode cX4_wait 0 = .ok (.aload_n 0, 1) := by decide +kernel
theorem dX4_wait_1 : decode cX4_wait 1 = .ok (.iconst 0, 1) := by decide +kernel
theorem dX4_wait_2 : decode cX4_wait 2 = .ok (.putfield 61, 3) := by decide +kernel
theorem dX4_wait_5 : decode cX4_wait 5 = .ok (.aload_n 0, 1) := by decide +kernel
theorem dX4_wait_6 : decode cX4_wait 6 = .ok (.iload_n 1, 1) := by decide +kernel
theorem dX4_wait_7 : decode cX4_wait 7 = .ok (.ifCond .lt 21, 3) := by decide +kernel
theorem dX4_wait_10 : decode cX4_wait 10 = .ok (.iload_n 1, 1) := by decide +kernel
theorem dX4_wait_11 : decode cX4_wait 11 = .ok (.sipush 10000, 3) := by decide +kernel
theorem dX4_wait_14 : decode cX4_wait 14 = .ok (.if_icmp .gt 14, 3) := by decide +kernel
theorem dX4_wait_17 : decode cX4_wait 17 = .ok (.aload_n 0, 1) := by decide +kernel
theorem dX4_wait_18 : decode cX4_wait 18 = .ok (.getfield 150, 3) := by decide +kernel
theorem dX4_wait_21 : decode cX4_wait 21 = .ok (.iload_n 1, 1) := by decide +kernel
theorem dX4_wait_22 : decode cX4_wait 22 = .ok (.iadd, 1) := by decide +kernel
theorem dX4_wait_23 : decode cX4_wait 23 = .ok (.ldc 140, 2) := by decide +kernel
theorem dX4_wait_25 : decode cX4_wait 25 = .ok (.if_icmp .le 7, 3) := by decide +kernel
theorem dX4_wait_28 : decode cX4_wait 28 = .ok (.iconst 1, 1) := by decide +kernel
theorem dX4_wait_29 : decode cX4_wait 29 = .ok (.goto 4, 3) := by decide +kernel
theorem dX4_wait_32 : decode cX4_wait 32 = .ok (.iconst 0, 1) := by decide +kernel
theorem dX4_wait_33 : decode cX4_wait 33 = .ok (.iconst 1, 1) := by decide +kernel
theorem dX4_wait_34 : decode cX4_wait 34 = .ok (.invokevirtual 64, 3) := by decide +kernel
theorem dX4_wait_37 : decode cX4_wait 37 = .ok (.ifCond .eq 5, 3) := by decide +kernel
theorem dX4_wait_40 : decode cX4_wait 40 = .ok (.iconst 0, 1) := by decide +kernel
theorem dX4_wait_41 : decode cX4_wait 41 = .ok (.ireturn, 1) := by decide +kernel
theorem dX4_wait_42 : decode cX4_wait 42 = .ok (.aload_n 0, 1) := by decide +kernel
theorem dX4_wait_43 : decode cX4_wait 43 = .ok (.dup, 1) := by decide +kernel
theorem dX4_wait_44 : decode cX4_wait 44 = .ok (.getfield 150, 3) := by decide +kernel
theorem dX4_wait_47 : decode cX4_wait 47 = .ok (.iload_n 1, 1) := by decide +kernel
theorem dX4_wait_48 : decode cX4_wait 48 = .ok (.iadd, 1) := by decide +kernel
theorem dX4_wait_49 : decode cX4_wait 49 = .ok (.putfield 150, 3) := by decide +kernel
theorem dX4_wait_52 : decode cX4_wait 52 = .ok (.aload_n 0, 1) := by decide +kernel
theorem dX4_wait_53 : decode cX4_wait 53 = .ok (.getfield 150, 3) := by decide +kernel
theorem dX4_wait_56 : decode cX4_wait 56 = .ok (.ireturn, 1) := by decide +kernel
theorem dX4_costOf_0 : decode cX4_costOf 0 = .ok (.aload_n 0, 1) := by decide +kernel
theorem dX4_costOf_1 : decode cX4_costOf 1 = .ok (.getfield 153, 3) := by decide +kernel
theorem dX4_costOf_4 : decode cX4_costOf 4 = .ok (.istore_n 1, 1) := by decide +kernel
theorem dX4_costOf_5 : decode cX4_costOf 5 = .ok (.iconst 0, 1) := by decide +kernel
theorem dX4_costOf_6 : decode cX4_costOf 6 = .ok (.istore_n 2, 1) := by decide +kernel
theorem dX4_costOf_7 : decode cX4_costOf 7 = .ok (.iload_n 2, 1) := by decide +kernel
theorem dX4_costOf_8 : decode cX4_costOf 8 = .ok (.aload_n 0, 1) := by decide +kernel
theorem dX4_costOf_9 : decode cX4_costOf 9 = .ok (.getfield 71, 3) := by decide +kernel
theorem dX4_costOf_12 : decode cX4_costOf 12 = .ok (.if_icmp .ge 21, 3) := by decide +kernel
theorem dX4_costOf_15 : decode cX4_costOf 15 = .ok (.aload_n 0, 1) := by decide +kernel
theorem dX4_costOf_16 : decode cX4_costOf 16 = .ok (.getfield 58, 3) := by decide +kernel
theorem dX4_costOf_19 : decode cX4_costOf 19 = .ok (.iload_n 2, 1) := by decide +kernel
theorem dX4_costOf_20 : decode cX4_costOf 20 = .ok (.aload_n 0, 1) := by decide +kernel
theorem dX4_costOf_21 : decode cX4_costOf 21 = .ok (.getfield 34, 3) := by decide +kernel
theorem dX4_costOf_24 : decode cX4_costOf 24 = .ok (.iload_n 2, 1) := by decide +kernel
theorem dX4_costOf_25 : decode cX4_costOf 25 = .ok (.iaload, 1) := by decide +kernel
theorem dX4_costOf_26 : decode cX4_costOf 26 = .ok (.iastore, 1) := by decide +kernel
theorem dX4_costOf_27 : decode cX4_costOf 27 = .ok (.iinc 2 1, 3) := by decide +kernel
theorem dX4_costOf_30 : decode cX4_costOf 30 = .ok (.goto (-23), 3) := by decide +kernel
theorem dX4_costOf_33 : decode cX4_costOf 33 = .ok (.lconst 0, 1) := by decide +kernel
theorem dX4_costOf_34 : decode cX4_costOf 34 = .ok (.lstore_n 2, 1) := by decide +kernel
theorem dX4_costOf_35 : decode cX4_costOf 35 = .ok (.iconst 0, 1) := by decide +kernel
theorem dX4_costOf_36 : decode cX4_costOf 36 = .ok (.istore 4, 2) := by decide +kernel
theorem dX4_costOf_38 : decode cX4_costOf 38 = .ok (.iload 4, 2) := by decide +kernel
theorem dX4_costOf_40 : decode cX4_costOf 40 = .ok (.aload_n 0, 1) := by decide +kernel
theorem dX4_costOf_41 : decode cX4_costOf 41 = .ok (.getfield 162, 3) := by decide +kernel
theorem dX4_costOf_44 : decode cX4_costOf 44 = .ok (.if_icmp .ge 148, 3) := by decide +kernel
theorem dX4_costOf_47 : decode cX4_costOf 47 = .ok (.bipush 12, 2) := by decide +kernel
theorem dX4_costOf_49 : decode cX4_costOf 49 = .ok (.aload_n 0, 1) := by decide +kernel
theorem dX4_costOf_50 : decode cX4_costOf 50 = .ok (.getfield 49, 3) := by decide +kernel
theorem dX4_costOf_53 : decode cX4_costOf 53 = .ok (.aload_n 0, 1) := by decide +kernel
theorem dX4_costOf_54 : decode cX4_costOf 54 = .ok (.getfield 52, 3) := by decide +kernel
theorem dX4_costOf_57 : decode cX4_costOf 57 = .ok (.iload 4, 2) := by decide +kernel
theorem dX4_costOf_59 : decode cX4_costOf 59 = .ok (.iaload, 1) := by decide +kernel
theorem dX4_costOf_60 : decode cX4_costOf 60 = .ok (.iaload, 1) := by decide +kernel
theorem dX4_costOf_61 : decode cX4_costOf 61 = .ok (.imul, 1) := by decide +kernel
theorem dX4_costOf_62 : decode cX4_costOf 62 = .ok (.istore 5, 2) := by decide +kernel
theorem dX4_costOf_64 : decode cX4_costOf 64 = .ok (.aload_n 0, 1) := by decide +kernel
theorem dX4_costOf_65 : decode cX4_costOf 65 = .ok (.getfield 40, 3) := by decide +kernel
theorem dX4_costOf_68 : decode cX4_costOf 68 = .ok (.iload 5, 2) := by decide +kernel
theorem dX4_costOf_70 : decode cX4_costOf 70 = .ok (.iaload, 1) := by decide +kernel
theorem dX4_costOf_71 : decode cX4_costOf 71 = .ok (.istore 6, 2) := by decide +kernel
theorem dX4_costOf_73 : decode cX4_costOf 73 = .ok (.aload_n 0, 1) := by decide +kernel
theorem dX4_costOf_74 : decode cX4_costOf 74 = .ok (.getfield 150, 3) := by decide +kernel
theorem dX4_costOf_77 : decode cX4_costOf 77 = .ok (.iload_n 1, 1) := by decide +kernel
theorem dX4_costOf_78 : decode cX4_costOf 78 = .ok (.if_icmp .le 10, 3) := by decide +kernel
theorem dX4_costOf_81 : decode cX4_costOf 81 = .ok (.aload_n 0, 1) := by decide +kernel
theorem dX4_costOf_82 : decode cX4_costOf 82 = .ok (.getfield 150, 3) := by decide +kernel
theorem dX4_costOf_85 : decode cX4_costOf 85 = .ok (.goto 4, 3) := by decide +kernel
theorem dX4_costOf_88 : decode cX4_costOf 88 = .ok (.iload_n 1, 1) := by decide +kernel
theorem dX4_costOf_89 : decode cX4_costOf 89 = .ok (.istore 7, 2) := by decide +kernel
theorem dX4_costOf_91 : decode cX4_costOf 91 = .ok (.aload_n 0, 1) := by decide +kernel
theorem dX4_costOf_92 : decode cX4_costOf 92 = .ok (.getfield 58, 3) := by decide +kernel
theorem dX4_costOf_95 : decode cX4_costOf 95 = .ok (.iload 6, 2) := by decide +kernel
theorem dX4_costOf_97 : decode cX4_costOf 97 = .ok (.iaload, 1) := by decide +kernel
theorem dX4_costOf_98 : decode cX4_costOf 98 = .ok (.aload_n 0, 1) := by decide +kernel
theorem dX4_costOf_99 : decode cX4_costOf 99 = .ok (.getfield 40, 3) := by decide +kernel
theorem dX4_costOf_102 : decode cX4_costOf 102 = .ok (.iload 5, 2) := by decide +kernel
theorem dX4_costOf_104 : decode cX4_costOf 104 = .ok (.iconst 4, 1) := by decide +kernel
theorem dX4_costOf_105 : decode cX4_costOf 105 = .ok (.iadd, 1) := by decide +kernel
theorem dX4_costOf_106 : decode cX4_costOf 106 = .ok (.iaload, 1) := by decide +kernel
theorem dX4_costOf_107 : decode cX4_costOf 107 = .ok (.isub, 1) := by decide +kernel
theorem dX4_costOf_108 : decode cX4_costOf 108 = .ok (.iload 7, 2) := by decide +kernel
theorem dX4_costOf_110 : decode cX4_costOf 110 = .ok (.if_icmp .le 22, 3) := by decide +kernel
theorem dX4_costOf_113 : decode cX4_costOf 113 = .ok (.aload_n 0, 1) := by decide +kernel
theorem dX4_costOf_114 : decode cX4_costOf 114 = .ok (.getfield 58, 3) := by decide +kernel
theorem dX4_costOf_117 : decode cX4_costOf 117 = .ok (.iload 6, 2) := by decide +kernel
theorem dX4_costOf_119 : decode cX4_costOf 119 = .ok (.iaload, 1) := by decide +kernel
theorem dX4_costOf_120 : decode cX4_costOf 120 = .ok (.aload_n 0, 1) := by decide +kernel
theorem dX4_costOf_121 : decode cX4_costOf 121 = .ok (.getfield 40, 3) := by decide +kernel
theorem dX4_costOf_124 : decode cX4_costOf 124 = .ok (.iload 5, 2) := by decide +kernel
theorem dX4_costOf_126 : decode cX4_costOf 126 = .ok (.iconst 4, 1) := by decide +kernel
theorem dX4_costOf_127 : decode cX4_costOf 127 = .ok (.iadd, 1) := by decide +kernel
theorem dX4_costOf_128 : decode cX4_costOf 128 = .ok (.iaload, 1) := by decide +kernel
theorem dX4_costOf_129 : decode cX4_costOf 129 = .ok (.isub, 1) := by decide +kernel
theorem dX4_costOf_130 : decode cX4_costOf 130 = .ok (.istore 7, 2) := by decide +kernel
theorem dX4_costOf_132 : decode cX4_costOf 132 = .ok (.iload 7, 2) := by decide +kernel
theorem dX4_costOf_134 : decode cX4_costOf 134 = .ok (.aload_n 0, 1) := by decide +kernel
theorem dX4_costOf_135 : decode cX4_costOf 135 = .ok (.getfield 40, 3) := by decide +kernel
theorem dX4_costOf_138 : decode cX4_costOf 138 = .ok (.iload 5, 2) := by decide +kernel
theorem dX4_costOf_140 : decode cX4_costOf 140 = .ok (.iconst 4, 1) := by decide +kernel
theorem dX4_costOf_141 : decode cX4_costOf 141 = .ok (.iadd, 1) := by decide +kernel
theorem dX4_costOf_142 : decode cX4_costOf 142 = .ok (.iaload, 1) := by decide +kernel
theorem dX4_costOf_143 : decode cX4_costOf 143 = .ok (.iadd, 1) := by decide +kernel
theorem dX4_costOf_144 : decode cX4_costOf 144 = .ok (.istore_n 1, 1) := by decide +kernel
theorem dX4_costOf_145 : decode cX4_costOf 145 = .ok (.aload_n 0, 1) := by decide +kernel
theorem dX4_costOf_146 : decode cX4_costOf 146 = .ok (.getfield 58, 3) := by decide +kernel
theorem dX4_costOf_149 : decode cX4_costOf 149 = .ok (.iload 6, 2) := by decide +kernel
theorem dX4_costOf_151 : decode cX4_costOf 151 = .ok (.iload_n 1, 1) := by decide +kernel
theorem dX4_costOf_152 : decode cX4_costOf 152 = .ok (.aload_n 0, 1) := by decide +kernel
theorem dX4_costOf_153 : decode cX4_costOf 153 = .ok (.getfield 40, 3) := by decide +kernel
theorem dX4_costOf_156 : decode cX4_costOf 156 = .ok (.iload 5, 2) := by decide +kernel
theorem dX4_costOf_158 : decode cX4_costOf 158 = .ok (.iconst 5, 1) := by decide +kernel
theorem dX4_costOf_159 : decode cX4_costOf 159 = .ok (.iadd, 1) := by decide +kernel
theorem dX4_costOf_160 : decode cX4_costOf 160 = .ok (.iaload, 1) := by decide +kernel
theorem dX4_costOf_161 : decode cX4_costOf 161 = .ok (.iadd, 1) := by decide +kernel
theorem dX4_costOf_162 : decode cX4_costOf 162 = .ok (.iastore, 1) := by decide +kernel
theorem dX4_costOf_163 : decode cX4_costOf 163 = .ok (.lload_n 2, 1) := by decide +kernel
theorem dX4_costOf_164 : decode cX4_costOf 164 = .ok (.aload_n 0, 1) := by decide +kernel
theorem dX4_costOf_165 : decode cX4_costOf 165 = .ok (.getfield 40, 3) := by decide +kernel
theorem dX4_costOf_168 : decode cX4_costOf 168 = .ok (.iload 5, 2) := by decide +kernel
theorem dX4_costOf_170 : decode cX4_costOf 170 = .ok (.bipush 7, 2) := by decide +kernel
theorem dX4_costOf_172 : decode cX4_costOf 172 = .ok (.iadd, 1) := by decide +kernel
theorem dX4_costOf_173 : decode cX4_costOf 173 = .ok (.iaload, 1) := by decide +kernel
theorem dX4_costOf_174 : decode cX4_costOf 174 = .ok (.i2l, 1) := by decide +kernel
theorem dX4_costOf_175 : decode cX4_costOf 175 = .ok (.aload_n 0, 1) := by decide +kernel
theorem dX4_costOf_176 : decode cX4_costOf 176 = .ok (.getfield 58, 3) := by decide +kernel
theorem dX4_costOf_179 : decode cX4_costOf 179 = .ok (.iload 6, 2) := by decide +kernel
theorem dX4_costOf_181 : decode cX4_costOf 181 = .ok (.iaload, 1) := by decide +kernel
theorem dX4_costOf_182 : decode cX4_costOf 182 = .ok (.i2l, 1) := by decide +kernel
theorem dX4_costOf_183 : decode cX4_costOf 183 = .ok (.lmul, 1) := by decide +kernel
theorem dX4_costOf_184 : decode cX4_costOf 184 = .ok (.ladd, 1) := by decide +kernel
theorem dX4_costOf_185 : decode cX4_costOf 185 = .ok (.lstore_n 2, 1) := by decide +kernel
theorem dX4_costOf_186 : decode cX4_costOf 186 = .ok (.iinc 4 1, 3) := by decide +kernel
theorem dX4_costOf_189 : decode cX4_costOf 189 = .ok (.goto (-151), 3) := by decide +kernel
theorem dX4_costOf_192 : decode cX4_costOf 192 = .ok (.lload_n 2, 1) := by decide +kernel
theorem dX4_costOf_193 : decode cX4_costOf 193 = .ok (.lreturn, 1) := by decide +kernel
theorem dX4_isUsed_0 : decode cX4_isUsed 0 = .ok (.iconst 0, 1) := by decide +kernel
theorem dX4_isUsed_1 : decode cX4_isUsed 1 = .ok (.istore_n 3, 1) := by decide +kernel
theorem dX4_isUsed_2 : decode cX4_isUsed 2 = .ok (.iload_n 3, 1) := by decide +kernel
theorem dX4_isUsed_3 : decode cX4_isUsed 3 = .ok (.iload_n 1, 1) := by decide +kernel
theorem dX4_isUsed_4 : decode cX4_isUsed 4 = .ok (.if_icmp .ge 21, 3) := by decide +kernel
theorem dX4_isUsed_7 : decode cX4_isUsed 7 = .ok (.aload_n 0, 1) := by decide +kernel
theorem dX4_isUsed_8 : decode cX4_isUsed 8 = .ok (.getfield 52, 3) := by decide +kernel
theorem dX4_isUsed_11 : decode cX4_isUsed 11 = .ok (.iload_n 3, 1) := by decide +kernel
theorem dX4_isUsed_12 : decode cX4_isUsed 12 = .ok (.iaload, 1) := by decide +kernel
theorem dX4_isUsed_13 : decode cX4_isUsed 13 = .ok (.iload_n 2, 1) := by decide +kernel
theorem dX4_isUsed_14 : decode cX4_isUsed 14 = .ok (.if_icmp .ne 5, 3) := by decide +kernel
theorem dX4_isUsed_17 : decode cX4_isUsed 17 = .ok (.iconst 1, 1) := by decide +kernel
theorem dX4_isUsed_18 : decode cX4_isUsed 18 = .ok (.ireturn, 1) := by decide +kernel
theorem dX4_isUsed_19 : decode cX4_isUsed 19 = .ok (.iinc 3 1, 3) := by decide +kernel
theorem dX4_isUsed_22 : decode cX4_isUsed 22 = .ok (.goto (-20), 3) := by decide +kernel
theorem dX4_isUsed_25 : decode cX4_isUsed 25 = .ok (.iconst 0, 1) := by decide +kernel
theorem dX4_isUsed_26 : decode cX4_isUsed 26 = .ok (.ireturn, 1) := by decide +kernel
set_option maxRecDepth 20000 in
theorem ggX4_plans_X4_waits : GoodIn wsX4_plans wsX4_waits := goodIn_r _ [12, 13, 27, 28, 29, 30, 31, 32, 33, 34, 35, 36, 37, 38, 39, 40, 41, 42, 43, 44, 45, 46, 47, 48, 49, 50, 51, 52, 53, 54] (by decide +kernel) (by decide +kernel)
set_option maxRecDepth 20000 in
theorem gX4_plans_X4_waits : GoodIn wsX4_plans (wsV RX4 156 RX4 yX4_waits wsX4_waits) := goodIn_app (goodIn_of _ (by decide +kernel)) ggX4_plans_X4_waits
set_option maxRecDepth 20000 in
theorem ggX4_plans_X4_costOf : GoodIn wsX4_plans wsX4_costOf := goodIn_r _ [17, 18, 19, 20, 21, 1, 3, 6, 13, 22, 27, 28, 29, 30, 31, 32, 33, 34, 35, 36, 37, 38, 39, 40, 41, 42, 43, 44, 45, 46, 47, 48, 49, 50, 51, 52, 53, 54] (by decide +kernel) (by decide +kernel)
set_option maxRecDepth 20000 in
theorem gX4_plans_X4_costOf : GoodIn wsX4_plans (wsV RX4 171 RX4 yX4_costOf wsX4_costOf) := goodIn_app (goodIn_of _ (by decide +kernel)) ggX4_plans_X4_costOf
set_option maxRecDepth 20000 in
theorem ggX4_plans_X4_isUsed : GoodIn wsX4_plans wsX4_isUsed := goodIn_r _ [26, 6, 27, 28, 29, 30, 31, 32, 33, 34, 35, 36, 37, 38, 39, 40, 41, 42, 43, 44, 45, 46, 47, 48, 49, 50, 51, 52, 53, 54] (by decide +kernel) (by decide +kernel)
set_option maxRecDepth 20000 in
theorem gX4_plans_X4_isUsed : GoodIn wsX4_plans (wsV RX4 175 RX4 yX4_isUsed wsX4_isUsed) := goodIn_app (goodIn_of _ (by decide +kernel)) ggX4_plans_X4_isUsed
theorem dX4_plans_0 : decode cX4_plans 0 = .ok (.aload_n 0, 1) := by decide +kernel
theorem dX4_plans_1 : decode cX4_plans 1 = .ok (.iconst 0, 1) := by decide +kernel
theorem dX4_plans_2 : decode cX4_plans 2 = .ok (.putfield 162, 3) := by decide +kernel
theorem dX4_plans_5 : decode cX4_plans 5 = .ok (.iconst 0, 1) := by decide +kernel
theorem dX4_plans_6 : decode cX4_plans 6 = .ok (.istore_n 1, 1) := by decide +kernel
theorem dX4_plans_7 : decode cX4_plans 7 = .ok (.iload_n 1, 1) := by decide +kernel
theorem dX4_plans_8 : decode cX4_plans 8 = .ok (.aload_n 0, 1) := by decide +kernel
theorem dX4_plans_9 : decode cX4_plans 9 = .ok (.getfield 141, 3) := by decide +kernel
theorem dX4_plans_12 : decode cX4_plans 12 = .ok (.if_icmp .ge 49, 3) := by decide +kernel
theorem dX4_plans_15 : decode cX4_plans 15 = .ok (.aload_n 0, 1) := by decide +kernel
theorem dX4_plans_16 : decode cX4_plans 16 = .ok (.getfield 162, 3) := by decide +kernel
theorem dX4_plans_19 : decode cX4_plans 19 = .ok (.bipush 7, 2) := by decide +kernel
theorem dX4_plans_21 : decode cX4_plans 21 = .ok (.if_icmp .ge 40, 3) := by decide +kernel
theorem dX4_plans_24 : decode cX4_plans 24 = .ok (.aload_n 0, 1) := by decide +kernel
theorem dX4_plans_25 : decode cX4_plans 25 = .ok (.iload_n 1, 1) := by decide +kernel
theorem dX4_plans_26 : decode cX4_plans 26 = .ok (.invokevirtual 156, 3) := by decide +kernel
theorem dX4_plans_29 : decode cX4_plans 29 = .ok (.ifCond .ne 6, 3) := by decide +kernel
theorem dX4_plans_32 : decode cX4_plans 32 = .ok (.goto 23, 3) := by decide +kernel
theorem dX4_plans_35 : decode cX4_plans 35 = .ok (.aload_n 0, 1) := by decide +kernel
theorem dX4_plans_36 : decode cX4_plans 36 = .ok (.getfield 49, 3) := by decide +kernel
theorem dX4_plans_39 : decode cX4_plans 39 = .ok (.aload_n 0, 1) := by decide +kernel
theorem dX4_plans_40 : decode cX4_plans 40 = .ok (.getfield 162, 3) := by decide +kernel
theorem dX4_plans_43 : decode cX4_plans 43 = .ok (.iload_n 1, 1) := by decide +kernel
theorem dX4_plans_44 : decode cX4_plans 44 = .ok (.iastore, 1) := by decide +kernel
theorem dX4_plans_45 : decode cX4_plans 45 = .ok (.aload_n 0, 1) := by decide +kernel
theorem dX4_plans_46 : decode cX4_plans 46 = .ok (.dup, 1) := by decide +kernel
theorem dX4_plans_47 : decode cX4_plans 47 = .ok (.getfield 162, 3) := by decide +kernel
theorem dX4_plans_50 : decode cX4_plans 50 = .ok (.iconst 1, 1) := by decide +kernel
theorem dX4_plans_51 : decode cX4_plans 51 = .ok (.iadd, 1) := by decide +kernel
theorem dX4_plans_52 : decode cX4_plans 52 = .ok (.putfield 162, 3) := by decide +kernel
theorem dX4_plans_55 : decode cX4_plans 55 = .ok (.iinc 1 1, 3) := by decide +kernel
theorem dX4_plans_58 : decode cX4_plans 58 = .ok (.goto (-51), 3) := by decide +kernel
theorem dX4_plans_61 : decode cX4_plans 61 = .ok (.aload_n 0, 1) := by decide +kernel
theorem dX4_plans_62 : decode cX4_plans 62 = .ok (.ldc2_w 165, 3) := by decide +kernel
theorem dX4_plans_65 : decode cX4_plans 65 = .ok (.putfield 167, 3) := by decide +kernel
theorem dX4_plans_68 : decode cX4_plans 68 = .ok (.iconst 0, 1) := by decide +kernel
theorem dX4_plans_69 : decode cX4_plans 69 = .ok (.istore_n 1, 1) := by decide +kernel
theorem dX4_plans_70 : decode cX4_plans 70 = .ok (.iload_n 1, 1) := by decide +kernel
theorem dX4_plans_71 : decode cX4_plans 71 = .ok (.aload_n 0, 1) := by decide +kernel
theorem dX4_plans_72 : decode cX4_plans 72 = .ok (.getfield 162, 3) := by decide +kernel
theorem dX4_plans_75 : decode cX4_plans 75 = .ok (.if_icmp .ge 16, 3) := by decide +kernel
theorem dX4_plans_78 : decode cX4_plans 78 = .ok (.aload_n 0, 1) := by decide +kernel
theorem dX4_plans_79 : decode cX4_plans 79 = .ok (.getfield 52, 3) := by decide +kernel
theorem dX4_plans_82 : decode cX4_plans 82 = .ok (.iload_n 1, 1) := by decide +kernel
theorem dX4_plans_83 : decode cX4_plans 83 = .ok (.iload_n 1, 1) := by decide +kernel
theorem dX4_plans_84 : decode cX4_plans 84 = .ok (.iastore, 1) := by decide +kernel
theorem dX4_plans_85 : decode cX4_plans 85 = .ok (.iinc 1 1, 3) := by decide +kernel
theorem dX4_plans_88 : decode cX4_plans 88 = .ok (.goto (-18), 3) := by decide +kernel
theorem dX4_plans_91 : decode cX4_plans 91 = .ok (.aload_n 0, 1) := by decide +kernel
theorem dX4_plans_92 : decode cX4_plans 92 = .ok (.getfield 162, 3) := by decide +kernel
theorem dX4_plans_95 : decode cX4_plans 95 = .ok (.ifCond .le 7, 3) := by decide +kernel
theorem dX4_plans_98 : decode cX4_plans 98 = .ok (.iconst 1, 1) := by decide +kernel
theorem dX4_plans_99 : decode cX4_plans 99 = .ok (.goto 4, 3) := by decide +kernel
theorem dX4_plans_102 : decode cX4_plans 102 = .ok (.iconst 0, 1) := by decide +kernel
theorem dX4_plans_103 : decode cX4_plans 103 = .ok (.istore_n 1, 1) := by decide +kernel
theorem dX4_plans_104 : decode cX4_plans 104 = .ok (.iload_n 1, 1) := by decide +kernel
theorem dX4_plans_105 : decode cX4_plans 105 = .ok (.ifCond .eq 223, 3) := by decide +kernel
theorem dX4_plans_108 : decode cX4_plans 108 = .ok (.aload_n 0, 1) := by decide +kernel
theorem dX4_plans_109 : decode cX4_plans 109 = .ok (.invokevirtual 171, 3) := by decide +kernel
theorem dX4_plans_112 : decode cX4_plans 112 = .ok (.lstore_n 2, 1) := by decide +kernel
theorem dX4_plans_113 : decode cX4_plans 113 = .ok (.aload_n 0, 1) := by decide +kernel
theorem dX4_plans_114 : decode cX4_plans 114 = .ok (.getfield 167, 3) := by decide +kernel
theorem dX4_plans_117 : decode cX4_plans 117 = .ok (.lconst 0, 1) := by decide +kernel
theorem dX4_plans_118 : decode cX4_plans 118 = .ok (.lcmp, 1) := by decide +kernel
theorem dX4_plans_119 : decode cX4_plans 119 = .ok (.ifCond .lt 12, 3) := by decide +kernel
theorem dX4_plans_122 : decode cX4_plans 122 = .ok (.lload_n 2, 1) := by decide +kernel
theorem dX4_plans_123 : decode cX4_plans 123 = .ok (.aload_n 0, 1) := by decide +kernel
theorem dX4_plans_124 : decode cX4_plans 124 = .ok (.getfield 167, 3) := by decide +kernel
theorem dX4_plans_127 : decode cX4_plans 127 = .ok (.lcmp, 1) := by decide +kernel
theorem dX4_plans_128 : decode cX4_plans 128 = .ok (.ifCond .ge 40, 3) := by decide +kernel
theorem dX4_plans_131 : decode cX4_plans 131 = .ok (.aload_n 0, 1) := by decide +kernel
theorem dX4_plans_132 : decode cX4_plans 132 = .ok (.lload_n 2, 1) := by decide +kernel
theorem dX4_plans_133 : decode cX4_plans 133 = .ok (.putfield 167, 3) := by decide +kernel
theorem dX4_plans_136 : decode cX4_plans 136 = .ok (.iconst 0, 1) := by decide +kernel
theorem dX4_plans_137 : decode cX4_plans 137 = .ok (.istore 4, 2) := by decide +kernel
theorem dX4_plans_139 : decode cX4_plans 139 = .ok (.iload 4, 2) := by decide +kernel
theorem dX4_plans_141 : decode cX4_plans 141 = .ok (.aload_n 0, 1) := by decide +kernel
theorem dX4_plans_142 : decode cX4_plans 142 = .ok (.getfield 162, 3) := by decide +kernel
theorem dX4_plans_145 : decode cX4_plans 145 = .ok (.if_icmp .ge 23, 3) := by decide +kernel
theorem dX4_plans_148 : decode cX4_plans 148 = .ok (.aload_n 0, 1) := by decide +kernel
theorem dX4_plans_149 : decode cX4_plans 149 = .ok (.getfield 55, 3) := by decide +kernel
theorem dX4_plans_152 : decode cX4_plans 152 = .ok (.iload 4, 2) := by decide +kernel
theorem dX4_plans_154 : decode cX4_plans 154 = .ok (.aload_n 0, 1) := by decide +kernel
theorem dX4_plans_155 : decode cX4_plans 155 = .ok (.getfield 52, 3) := by decide +kernel
theorem dX4_plans_158 : decode cX4_plans 158 = .ok (.iload 4, 2) := by decide +kernel
theorem dX4_plans_160 : decode cX4_plans 160 = .ok (.iaload, 1) := by decide +kernel
theorem dX4_plans_161 : decode cX4_plans 161 = .ok (.iastore, 1) := by decide +kernel
theorem dX4_plans_162 : decode cX4_plans 162 = .ok (.iinc 4 1, 3) := by decide +kernel
theorem dX4_plans_165 : decode cX4_plans 165 = .ok (.goto (-26), 3) := by decide +kernel
theorem dX4_plans_168 : decode cX4_plans 168 = .ok (.aload_n 0, 1) := by decide +kernel
theorem dX4_plans_169 : decode cX4_plans 169 = .ok (.getfield 162, 3) := by decide +kernel
theorem dX4_plans_172 : decode cX4_plans 172 = .ok (.iconst 1, 1) := by decide +kernel
theorem dX4_plans_173 : decode cX4_plans 173 = .ok (.isub, 1) := by decide +kernel
theorem dX4_plans_174 : decode cX4_plans 174 = .ok (.istore 4, 2) := by decide +kernel
theorem dX4_plans_176 : decode cX4_plans 176 = .ok (.aload_n 0, 1) := by decide +kernel
theorem dX4_plans_177 : decode cX4_plans 177 = .ok (.getfield 162, 3) := by decide +kernel
theorem dX4_plans_180 : decode cX4_plans 180 = .ok (.istore 5, 2) := by decide +kernel
theorem dX4_plans_182 : decode cX4_plans 182 = .ok (.iload 4, 2) := by decide +kernel
theorem dX4_plans_184 : decode cX4_plans 184 = .ok (.ifCond .lt 64, 3) := by decide +kernel
theorem dX4_plans_187 : decode cX4_plans 187 = .ok (.iload 5, 2) := by decide +kernel
theorem dX4_plans_189 : decode cX4_plans 189 = .ok (.aload_n 0, 1) := by decide +kernel
theorem dX4_plans_190 : decode cX4_plans 190 = .ok (.getfield 162, 3) := by decide +kernel
theorem dX4_plans_193 : decode cX4_plans 193 = .ok (.if_icmp .ne 55, 3) := by decide +kernel
theorem dX4_plans_196 : decode cX4_plans 196 = .ok (.aload_n 0, 1) := by decide +kernel
theorem dX4_plans_197 : decode cX4_plans 197 = .ok (.getfield 52, 3) := by decide +kernel
theorem dX4_plans_200 : decode cX4_plans 200 = .ok (.iload 4, 2) := by decide +kernel
theorem dX4_plans_202 : decode cX4_plans 202 = .ok (.iaload, 1) := by decide +kernel
theorem dX4_plans_203 : decode cX4_plans 203 = .ok (.iconst 1, 1) := by decide +kernel
theorem dX4_plans_204 : decode cX4_plans 204 = .ok (.iadd, 1) := by decide +kernel
theorem dX4_plans_205 : decode cX4_plans 205 = .ok (.istore 5, 2) := by decide +kernel
theorem dX4_plans_207 : decode cX4_plans 207 = .ok (.iload 5, 2) := by decide +kernel
theorem dX4_plans_209 : decode cX4_plans 209 = .ok (.aload_n 0, 1) := by decide +kernel
theorem dX4_plans_210 : decode cX4_plans 210 = .ok (.getfield 162, 3) := by decide +kernel
theorem dX4_plans_213 : decode cX4_plans 213 = .ok (.if_icmp .ge 20, 3) := by decide +kernel
theorem dX4_plans_216 : decode cX4_plans 216 = .ok (.aload_n 0, 1) := by decide +kernel
theorem dX4_plans_217 : decode cX4_plans 217 = .ok (.iload 4, 2) := by decide +kernel
theorem dX4_plans_219 : decode cX4_plans 219 = .ok (.iload 5, 2) := by decide +kernel
theorem dX4_plans_221 : decode cX4_plans 221 = .ok (.invokevirtual 175, 3) := by decide +kernel
theorem dX4_plans_224 : decode cX4_plans 224 = .ok (.ifCond .eq 9, 3) := by decide +kernel
theorem dX4_plans_227 : decode cX4_plans 227 = .ok (.iinc 5 1, 3) := by decide +kernel
theorem dX4_plans_230 : decode cX4_plans 230 = .ok (.goto (-23), 3) := by decide +kernel
theorem dX4_plans_233 : decode cX4_plans 233 = .ok (.iload 5, 2) := by decide +kernel
theorem dX4_plans_235 : decode cX4_plans 235 = .ok (.aload_n 0, 1) := by decide +kernel
theorem dX4_plans_236 : decode cX4_plans 236 = .ok (.getfield 162, 3) := by decide +kernel
theorem dX4_plans_239 : decode cX4_plans 239 = .ok (.if_icmp .ne (-57), 3) := by decide +kernel
theorem dX4_plans_242 : decode cX4_plans 242 = .ok (.iinc 4 (-1), 3) := by decide +kernel
theorem dX4_plans_245 : decode cX4_plans 245 = .ok (.goto (-63), 3) := by decide +kernel
theorem dX4_plans_248 : decode cX4_plans 248 = .ok (.iload 4, 2) := by decide +kernel
theorem dX4_plans_250 : decode cX4_plans 250 = .ok (.ifCond .lt 7, 3) := by decide +kernel
theorem dX4_plans_253 : decode cX4_plans 253 = .ok (.iconst 1, 1) := by decide +kernel
theorem dX4_plans_254 : decode cX4_plans 254 = .ok (.goto 4, 3) := by decide +kernel
theorem dX4_plans_257 : decode cX4_plans 257 = .ok (.iconst 0, 1) := by decide +kernel
theorem dX4_plans_258 : decode cX4_plans 258 = .ok (.istore_n 1, 1) := by decide +kernel
theorem dX4_plans_259 : decode cX4_plans 259 = .ok (.iload_n 1, 1) := by decide +kernel
theorem dX4_plans_260 : decode cX4_plans 260 = .ok (.ifCond .ne 6, 3) := by decide +kernel
theorem dX4_plans_263 : decode cX4_plans 263 = .ok (.goto (-159), 3) := by decide +kernel
theorem dX4_plans_266 : decode cX4_plans 266 = .ok (.aload_n 0, 1) := by decide +kernel
theorem dX4_plans_267 : decode cX4_plans 267 = .ok (.getfield 52, 3) := by decide +kernel
theorem dX4_plans_270 : decode cX4_plans 270 = .ok (.iload 4, 2) := by decide +kernel
theorem dX4_plans_272 : decode cX4_plans 272 = .ok (.iload 5, 2) := by decide +kernel
theorem dX4_plans_274 : decode cX4_plans 274 = .ok (.iastore, 1) := by decide +kernel
theorem dX4_plans_275 : decode cX4_plans 275 = .ok (.iload 4, 2) := by decide +kernel
theorem dX4_plans_277 : decode cX4_plans 277 = .ok (.iconst 1, 1) := by decide +kernel
theorem dX4_plans_278 : decode cX4_plans 278 = .ok (.iadd, 1) := by decide +kernel
theorem dX4_plans_279 : decode cX4_plans 279 = .ok (.istore 6, 2) := by decide +kernel
theorem dX4_plans_281 : decode cX4_plans 281 = .ok (.iload 6, 2) := by decide +kernel
theorem dX4_plans_283 : decode cX4_plans 283 = .ok (.aload_n 0, 1) := by decide +kernel
theorem dX4_plans_284 : decode cX4_plans 284 = .ok (.getfield 162, 3) := by decide +kernel
theorem dX4_plans_287 : decode cX4_plans 287 = .ok (.if_icmp .ge 38, 3) := by decide +kernel
theorem dX4_plans_290 : decode cX4_plans 290 = .ok (.iconst 0, 1) := by decide +kernel
theorem dX4_plans_291 : decode cX4_plans 291 = .ok (.istore 7, 2) := by decide +kernel
theorem dX4_plans_293 : decode cX4_plans 293 = .ok (.aload_n 0, 1) := by decide +kernel
theorem dX4_plans_294 : decode cX4_plans 294 = .ok (.iload 6, 2) := by decide +kernel
theorem dX4_plans_296 : decode cX4_plans 296 = .ok (.iload 7, 2) := by decide +kernel
theorem dX4_plans_298 : decode cX4_plans 298 = .ok (.invokevirtual 175, 3) := by decide +kernel
theorem dX4_plans_301 : decode cX4_plans 301 = .ok (.ifCond .eq 9, 3) := by decide +kernel
theorem dX4_plans_304 : decode cX4_plans 304 = .ok (.iinc 7 1, 3) := by decide +kernel
theorem dX4_plans_307 : decode cX4_plans 307 = .ok (.goto (-14), 3) := by decide +kernel
theorem dX4_plans_310 : decode cX4_plans 310 = .ok (.aload_n 0, 1) := by decide +kernel
theorem dX4_plans_311 : decode cX4_plans 311 = .ok (.getfield 52, 3) := by decide +kernel
theorem dX4_plans_314 : decode cX4_plans 314 = .ok (.iload 6, 2) := by decide +kernel
theorem dX4_plans_316 : decode cX4_plans 316 = .ok (.iload 7, 2) := by decide +kernel
theorem dX4_plans_318 : decode cX4_plans 318 = .ok (.iastore, 1) := by decide +kernel
theorem dX4_plans_319 : decode cX4_plans 319 = .ok (.iinc 6 1, 3) := by decide +kernel
theorem dX4_plans_322 : decode cX4_plans 322 = .ok (.goto (-41), 3) := by decide +kernel
theorem dX4_plans_325 : decode cX4_plans 325 = .ok (.goto (-221), 3) := by decide +kernel
theorem dX4_plans_328 : decode cX4_plans 328 = .ok (.return_, 1) := by decide +kernel
set_option maxRecDepth 20000 in
theorem ggX4_plan_X4_plans : GoodIn wsX4_plan wsX4_plans := goodIn_r _ [8, 2, 9, 10, 11, 3, 12, 13, 14, 15, 16, 7, 17, 18, 19, 20, 21, 22, 23, 24, 25, 26, 27, 28, 29, 30, 31, 32, 33, 34, 35, 36, 37, 38, 39, 40, 41, 42, 43, 44, 45, 46, 47, 48, 49, 50, 51, 52, 53, 54, 55, 56, 57, 58, 59] (by decide +kernel) (by decide +kernel)
set_option maxRecDepth 20000 in
theorem gX4_plan_X4_plans : GoodIn wsX4_plan (wsV RX4 179 RX4 yX4_plans wsX4_plans) := goodIn_app (goodIn_of _ (by decide +kernel)) ggX4_plan_X4_plans
theorem dX4_plan_0 : decode cX4_plan 0 = .ok (.aload_n 0, 1) := by decide +kernel
theorem dX4_plan_1 : decode cX4_plan 1 = .ok (.iconst 0, 1) := by decide +kernel
theorem dX4_plan_2 : decode cX4_plan 2 = .ok (.putfield 61, 3) := by decide +kernel
theorem dX4_plan_5 : decode cX4_plan 5 = .ok (.aload_n 0, 1) := by decide +kernel
theorem dX4_plan_6 : decode cX4_plan 6 = .ok (.invokevirtual 179, 3) := by decide +kernel
theorem dX4_plan_9 : decode cX4_plan 9 = .ok (.aload_n 0, 1) := by decide +kernel
theorem dX4_plan_10 : decode cX4_plan 10 = .ok (.getfield 162, 3) := by decide +kernel
theorem dX4_plan_13 : decode cX4_plan 13 = .ok (.ifCond .ne 7, 3) := by decide +kernel
theorem dX4_plan_16 : decode cX4_plan 16 = .ok (.lconst 0, 1) := by decide +kernel
theorem dX4_plan_17 : decode cX4_plan 17 = .ok (.goto 7, 3) := by decide +kernel
theorem dX4_plan_20 : decode cX4_plan 20 = .ok (.aload_n 0, 1) := by decide +kernel
theorem dX4_plan_21 : decode cX4_plan 21 = .ok (.getfield 167, 3) := by decide +kernel
theorem dX4_plan_24 : decode cX4_plan 24 = .ok (.lreturn, 1) := by decide +kernel
set_option maxRecDepth 20000 in
theorem ggX4_planned_X4_plans : GoodIn wsX4_planned wsX4_plans := goodIn_r _ [9, 2, 10, 3, 11, 12, 13, 4, 14, 15, 16, 8, 17, 18, 19, 20, 21, 22, 23, 24, 25, 26, 27, 28, 29, 30, 31, 32, 33, 34, 35, 36, 37, 38, 39, 40, 41, 42, 43, 44, 45, 46, 47, 48, 49, 50, 51, 52, 53, 54, 55, 56, 57, 58, 59] (by decide +kernel) (by decide +kernel)
set_option maxRecDepth 20000 in
theorem gX4_planned_X4_plans : GoodIn wsX4_planned (wsV RX4 179 RX4 yX4_plans wsX4_plans) := goodIn_app (goodIn_of _ (by decide +kernel)) ggX4_planned_X4_plans
theorem dX4_planned_0 : decode cX4_planned 0 = .ok (.aload_n 0, 1) := by decide +kernel
theorem dX4_planned_1 : decode cX4_planned 1 = .ok (.iconst 0, 1) := by decide +kernel
theorem dX4_planned_2 : decode cX4_planned 2 = .ok (.putfield 61, 3) := by decide +kernel
theorem dX4_planned_5 : decode cX4_planned 5 = .ok (.aload_n 0, 1) := by decide +kernel
theorem dX4_planned_6 : decode cX4_planned 6 = .ok (.invokevirtual 179, 3) := by decide +kernel
theorem dX4_planned_9 : decode cX4_planned 9 = .ok (.iload_n 1, 1) := by decide +kernel
theorem dX4_planned_10 : decode cX4_planned 10 = .ok (.ifCond .lt 25, 3) := by decide +kernel
theorem dX4_planned_13 : decode cX4_planned 13 = .ok (.iload_n 1, 1) := by decide +kernel
theorem dX4_planned_14 : decode cX4_planned 14 = .ok (.aload_n 0, 1) := by decide +kernel
theorem dX4_planned_15 : decode cX4_planned 15 = .ok (.getfield 162, 3) := by decide +kernel
theorem dX4_planned_18 : decode cX4_planned 18 = .ok (.if_icmp .ge 17, 3) := by decide +kernel
theorem dX4_planned_21 : decode cX4_planned 21 = .ok (.aload_n 0, 1) := by decide +kernel
theorem dX4_planned_22 : decode cX4_planned 22 = .ok (.getfield 49, 3) := by decide +kernel
theorem dX4_planned_25 : decode cX4_planned 25 = .ok (.aload_n 0, 1) := by decide +kernel
theorem dX4_planned_26 : decode cX4_planned 26 = .ok (.getfield 55, 3) := by decide +kernel
theorem dX4_planned_29 : decode cX4_planned 29 = .ok (.iload_n 1, 1) := by decide +kernel
theorem dX4_planned_30 : decode cX4_planned 30 = .ok (.iaload, 1) := by decide +kernel
theorem dX4_planned_31 : decode cX4_planned 31 = .ok (.iaload, 1) := by decide +kernel
theorem dX4_planned_32 : decode cX4_planned 32 = .ok (.goto 4, 3) := by decide +kernel
theorem dX4_planned_35 : decode cX4_planned 35 = .ok (.iconst (-1), 1) := by decide +kernel
theorem dX4_planned_36 : decode cX4_planned 36 = .ok (.ireturn, 1) := by decide +kernel
set_option maxRecDepth 20000 in
theorem ggX4_run_X4_plans : GoodIn wsX4_run wsX4_plans := goodIn_r _ [9, 2, 10, 3, 11, 12, 13, 4, 14, 15, 16, 8, 17, 18, 19, 20, 21, 22, 23, 24, 25, 26, 27, 28, 29, 30, 31, 38, 39, 40, 41, 42, 43, 44, 45, 46, 47, 48, 49, 50, 51, 52, 53, 54, 55, 56, 57, 58, 59, 60, 61, 62, 63, 64, 65] (by decide +kernel) (by decide +kernel)
set_option maxRecDepth 20000 in
theorem gX4_run_X4_plans : GoodIn wsX4_run (wsV RX4 179 RX4 yX4_plans wsX4_plans) := goodIn_app (goodIn_of _ (by decide +kernel)) ggX4_run_X4_plans
set_option maxRecDepth 20000 in
theorem ggX4_run_X4_goes : GoodIn wsX4_run wsX4_goes := goodIn_r _ [35, 18, 27, 23, 26, 36, 37, 38, 39, 40, 41, 42, 43, 44, 45, 46, 47, 48, 49, 50, 51, 52, 53, 54, 55, 56, 57, 58, 59, 60, 61, 62, 63, 64, 65] (by decide +kernel) (by decide +kernel)
set_option maxRecDepth 20000 in
theorem gX4_run_X4_goes : GoodIn wsX4_run (wsV RX4 159 RX4 yX4_goes wsX4_goes) := goodIn_app (goodIn_of _ (by decide +kernel)) ggX4_run_X4_goes
theorem dX4_run_0 : decode cX4_run 0 = .ok (.aload_n 0, 1) := by decide +kernel
theorem dX4_run_1 : decode cX4_run 1 = .ok (.iconst 0, 1) := by decide +kernel
theorem dX4_run_2 : decode cX4_run 2 = .ok (.putfield 61, 3) := by decide +kernel
theorem dX4_run_5 : decode cX4_run 5 = .ok (.aload_n 0, 1) := by decide +kernel
theorem dX4_run_6 : decode cX4_run 6 = .ok (.invokevirtual 179, 3) := by decide +kernel
theorem dX4_run_9 : decode cX4_run 9 = .ok (.iconst 0, 1) := by decide +kernel
theorem dX4_run_10 : decode cX4_run 10 = .ok (.istore_n 1, 1) := by decide +kernel
theorem dX4_run_11 : decode cX4_run 11 = .ok (.iload_n 1, 1) := by decide +kernel
theorem dX4_run_12 : decode cX4_run 12 = .ok (.aload_n 0, 1) := by decide +kernel
theorem dX4_run_13 : decode cX4_run 13 = .ok (.getfield 162, 3) := by decide +kernel
theorem dX4_run_16 : decode cX4_run 16 = .ok (.if_icmp .ge 25, 3) := by decide +kernel
theorem dX4_run_19 : decode cX4_run 19 = .ok (.aload_n 0, 1) := by decide +kernel
theorem dX4_run_20 : decode cX4_run 20 = .ok (.aload_n 0, 1) := by decide +kernel
theorem dX4_run_21 : decode cX4_run 21 = .ok (.getfield 49, 3) := by decide +kernel
theorem dX4_run_24 : decode cX4_run 24 = .ok (.aload_n 0, 1) := by decide +kernel
theorem dX4_run_25 : decode cX4_run 25 = .ok (.getfield 55, 3) := by decide +kernel
theorem dX4_run_28 : decode cX4_run 28 = .ok (.iload_n 1, 1) := by decide +kernel
theorem dX4_run_29 : decode cX4_run 29 = .ok (.iaload, 1) := by decide +kernel
theorem dX4_run_30 : decode cX4_run 30 = .ok (.iaload, 1) := by decide +kernel
theorem dX4_run_31 : decode cX4_run 31 = .ok (.invokevirtual 159, 3) := by decide +kernel
theorem dX4_run_34 : decode cX4_run 34 = .ok (.pop, 1) := by decide +kernel
theorem dX4_run_35 : decode cX4_run 35 = .ok (.iinc 1 1, 3) := by decide +kernel
theorem dX4_run_38 : decode cX4_run 38 = .ok (.goto (-27), 3) := by decide +kernel
theorem dX4_run_41 : decode cX4_run 41 = .ok (.aload_n 0, 1) := by decide +kernel
theorem dX4_run_42 : decode cX4_run 42 = .ok (.getfield 162, 3) := by decide +kernel
theorem dX4_run_45 : decode cX4_run 45 = .ok (.ireturn, 1) := by decide +kernel
set_option maxRecDepth 20000 in
theorem ggX4_late_X4_waits : GoodIn wsX4_late wsX4_waits := goodIn_r _ [9, 4, 10, 11, 12, 13, 14, 15, 16, 17, 18, 19, 20, 21, 22, 23, 24, 25, 26, 27, 28, 29, 30, 31, 32, 33, 34, 35, 36, 37] (by decide +kernel) (by decide +kernel)
set_option maxRecDepth 20000 in
theorem gX4_late_X4_waits : GoodIn wsX4_late (wsV RX4 156 RX4 yX4_waits wsX4_waits) := goodIn_app (goodIn_of _ (by decide +kernel)) ggX4_late_X4_waits
theorem dX4_late_0 : decode cX4_late 0 = .ok (.aload_n 0, 1) := by decide +kernel
theorem dX4_late_1 : decode cX4_late 1 = .ok (.iconst 0, 1) := by decide +kernel
theorem dX4_late_2 : decode cX4_late 2 = .ok (.putfield 61, 3) := by decide +kernel
theorem dX4_late_5 : decode cX4_late 5 = .ok (.iload_n 1, 1) := by decide +kernel
theorem dX4_late_6 : decode cX4_late 6 = .ok (.istore_n 2, 1) := by decide +kernel
theorem dX4_late_7 : decode cX4_late 7 = .ok (.iconst 0, 1) := by decide +kernel
theorem dX4_late_8 : decode cX4_late 8 = .ok (.istore_n 3, 1) := by decide +kernel
theorem dX4_late_9 : decode cX4_late 9 = .ok (.iload_n 3, 1) := by decide +kernel
theorem dX4_late_10 : decode cX4_late 10 = .ok (.aload_n 0, 1) := by decide +kernel
theorem dX4_late_11 : decode cX4_late 11 = .ok (.getfield 141, 3) := by decide +kernel
theorem dX4_late_14 : decode cX4_late 14 = .ok (.if_icmp .ge 71, 3) := by decide +kernel
theorem dX4_late_17 : decode cX4_late 17 = .ok (.iload_n 1, 1) := by decide +kernel
theorem dX4_late_18 : decode cX4_late 18 = .ok (.ifCond .lt 67, 3) := by decide +kernel
theorem dX4_late_21 : decode cX4_late 21 = .ok (.aload_n 0, 1) := by decide +kernel
theorem dX4_late_22 : decode cX4_late 22 = .ok (.iload_n 3, 1) := by decide +kernel
theorem dX4_late_23 : decode cX4_late 23 = .ok (.invokevirtual 156, 3) := by decide +kernel
theorem dX4_late_26 : decode cX4_late 26 = .ok (.ifCond .eq 10, 3) := by decide +kernel
theorem dX4_late_29 : decode cX4_late 29 = .ok (.aload_n 0, 1) := by decide +kernel
theorem dX4_late_30 : decode cX4_late 30 = .ok (.getfield 150, 3) := by decide +kernel
theorem dX4_late_33 : decode cX4_late 33 = .ok (.goto 15, 3) := by decide +kernel
theorem dX4_late_36 : decode cX4_late 36 = .ok (.aload_n 0, 1) := by decide +kernel
theorem dX4_late_37 : decode cX4_late 37 = .ok (.getfield 40, 3) := by decide +kernel
theorem dX4_late_40 : decode cX4_late 40 = .ok (.bipush 12, 2) := by decide +kernel
theorem dX4_late_42 : decode cX4_late 42 = .ok (.iload_n 3, 1) := by decide +kernel
theorem dX4_late_43 : decode cX4_late 43 = .ok (.imul, 1) := by decide +kernel
theorem dX4_late_44 : decode cX4_late 44 = .ok (.bipush 10, 2) := by decide +kernel
theorem dX4_late_46 : decode cX4_late 46 = .ok (.iadd, 1) := by decide +kernel
theorem dX4_late_47 : decode cX4_late 47 = .ok (.iaload, 1) := by decide +kernel
theorem dX4_late_48 : decode cX4_late 48 = .ok (.istore 4, 2) := by decide +kernel
theorem dX4_late_50 : decode cX4_late 50 = .ok (.iload 4, 2) := by decide +kernel
theorem dX4_late_52 : decode cX4_late 52 = .ok (.aload_n 0, 1) := by decide +kernel
theorem dX4_late_53 : decode cX4_late 53 = .ok (.getfield 40, 3) := by decide +kernel
theorem dX4_late_56 : decode cX4_late 56 = .ok (.bipush 12, 2) := by decide +kernel
theorem dX4_late_58 : decode cX4_late 58 = .ok (.iload_n 3, 1) := by decide +kernel
theorem dX4_late_59 : decode cX4_late 59 = .ok (.imul, 1) := by decide +kernel
theorem dX4_late_60 : decode cX4_late 60 = .ok (.bipush 6, 2) := by decide +kernel
theorem dX4_late_62 : decode cX4_late 62 = .ok (.iadd, 1) := by decide +kernel
theorem dX4_late_63 : decode cX4_late 63 = .ok (.iaload, 1) := by decide +kernel
theorem dX4_late_64 : decode cX4_late 64 = .ok (.if_icmp .gt 6, 3) := by decide +kernel
theorem dX4_late_67 : decode cX4_late 67 = .ok (.goto 12, 3) := by decide +kernel
theorem dX4_late_70 : decode cX4_late 70 = .ok (.iload_n 2, 1) := by decide +kernel
theorem dX4_late_71 : decode cX4_late 71 = .ok (.ifCond .ne 5, 3) := by decide +kernel
theorem dX4_late_74 : decode cX4_late 74 = .ok (.iload_n 3, 1) := by decide +kernel
theorem dX4_late_75 : decode cX4_late 75 = .ok (.ireturn, 1) := by decide +kernel
theorem dX4_late_76 : decode cX4_late 76 = .ok (.iinc 2 (-1), 3) := by decide +kernel
theorem dX4_late_79 : decode cX4_late 79 = .ok (.iinc 3 1, 3) := by decide +kernel
theorem dX4_late_82 : decode cX4_late 82 = .ok (.goto (-73), 3) := by decide +kernel
theorem dX4_late_85 : decode cX4_late 85 = .ok (.iconst (-1), 1) := by decide +kernel
theorem dX4_late_86 : decode cX4_late 86 = .ok (.ireturn, 1) := by decide +kernel
set_option maxRecDepth 20000 in
theorem ggX4_fit_X4_isOrder : GoodIn wsX4_fit wsX4_isOrder := goodIn_r _ [9, 10, 11, 20, 21, 22, 23, 24, 25, 26, 27, 28, 29, 30, 31, 32, 33, 34, 35, 36, 37, 38, 39, 40, 41, 42, 43, 44, 45, 46, 47] (by decide +kernel) (by decide +kernel)
set_option maxRecDepth 20000 in
theorem gX4_fit_X4_isOrder : GoodIn wsX4_fit (wsV RX4 147 RX4 yX4_isOrder wsX4_isOrder) := goodIn_app (goodIn_of _ (by decide +kernel)) ggX4_fit_X4_isOrder
set_option maxRecDepth 20000 in
theorem ggX4_fit_X4_bad : GoodIn wsX4_fit wsX4_bad := goodIn_r _ [15, 11, 20, 21, 22, 23, 24, 25, 26, 27, 28, 29, 30, 31, 32, 33, 34, 35, 36, 37, 38, 39, 40, 41, 42, 43, 44, 45, 46, 47] (by decide +kernel) (by decide +kernel)
set_option maxRecDepth 20000 in
theorem gX4_fit_X4_bad : GoodIn wsX4_fit (wsV RX4 64 RX4 yX4_bad wsX4_bad) := goodIn_app (goodIn_of _ (by decide +kernel)) ggX4_fit_X4_bad
set_option maxRecDepth 20000 in
theorem ggX4_fit_X4_waits : GoodIn wsX4_fit wsX4_waits := goodIn_r _ [19, 1, 20, 21, 22, 23, 24, 25, 26, 27, 28, 29, 30, 31, 32, 33, 34, 35, 36, 37, 38, 39, 40, 41, 42, 43, 44, 45, 46, 47] (by decide +kernel) (by decide +kernel)
set_option maxRecDepth 20000 in
theorem gX4_fit_X4_waits : GoodIn wsX4_fit (wsV RX4 156 RX4 yX4_waits wsX4_waits) := goodIn_app (goodIn_of _ (by decide +kernel)) ggX4_fit_X4_waits
theorem dX4_fit_0 : decode cX4_fit 0 = .ok (.aload_n 0, 1) := by decide +kernel
theorem dX4_fit_1 : decode cX4_fit 1 = .ok (.iload_n 1, 1) := by decide +kernel
theorem dX4_fit_2 : decode cX4_fit 2 = .ok (.invokevirtual 147, 3) := by decide +kernel
theorem dX4_fit_5 : decode cX4_fit 5 = .ok (.ifCond .eq 27, 3) := by decide +kernel
theorem dX4_fit_8 : decode cX4_fit 8 = .ok (.aload_n 0, 1) := by decide +kernel
theorem dX4_fit_9 : decode cX4_fit 9 = .ok (.iload_n 2, 1) := by decide +kernel
theorem dX4_fit_10 : decode cX4_fit 10 = .ok (.bipush (-2), 2) := by decide +kernel
theorem dX4_fit_12 : decode cX4_fit 12 = .ok (.if_icmp .lt 8, 3) := by decide +kernel
theorem dX4_fit_15 : decode cX4_fit 15 = .ok (.iload_n 2, 1) := by decide +kernel
theorem dX4_fit_16 : decode cX4_fit 16 = .ok (.iconst 2, 1) := by decide +kernel
theorem dX4_fit_17 : decode cX4_fit 17 = .ok (.if_icmp .le 7, 3) := by decide +kernel
theorem dX4_fit_20 : decode cX4_fit 20 = .ok (.iconst 1, 1) := by decide +kernel
theorem dX4_fit_21 : decode cX4_fit 21 = .ok (.goto 4, 3) := by decide +kernel
theorem dX4_fit_24 : decode cX4_fit 24 = .ok (.iconst 0, 1) := by decide +kernel
theorem dX4_fit_25 : decode cX4_fit 25 = .ok (.iconst 2, 1) := by decide +kernel
theorem dX4_fit_26 : decode cX4_fit 26 = .ok (.invokevirtual 64, 3) := by decide +kernel
theorem dX4_fit_29 : decode cX4_fit 29 = .ok (.ifCond .eq 5, 3) := by decide +kernel
theorem dX4_fit_32 : decode cX4_fit 32 = .ok (.iconst 0, 1) := by decide +kernel
theorem dX4_fit_33 : decode cX4_fit 33 = .ok (.ireturn, 1) := by decide +kernel
theorem dX4_fit_34 : decode cX4_fit 34 = .ok (.aload_n 0, 1) := by decide +kernel
theorem dX4_fit_35 : decode cX4_fit 35 = .ok (.iload_n 1, 1) := by decide +kernel
theorem dX4_fit_36 : decode cX4_fit 36 = .ok (.invokevirtual 156, 3) := by decide +kernel
theorem dX4_fit_39 : decode cX4_fit 39 = .ok (.ifCond .ne 22, 3) := by decide +kernel
theorem dX4_fit_42 : decode cX4_fit 42 = .ok (.aload_n 0, 1) := by decide +kernel
theorem dX4_fit_43 : decode cX4_fit 43 = .ok (.getfield 40, 3) := by decide +kernel
theorem dX4_fit_46 : decode cX4_fit 46 = .ok (.bipush 12, 2) := by decide +kernel
theorem dX4_fit_48 : decode cX4_fit 48 = .ok (.iload_n 1, 1) := by decide +kernel
theorem dX4_fit_49 : decode cX4_fit 49 = .ok (.imul, 1) := by decide +kernel
theorem dX4_fit_50 : decode cX4_fit 50 = .ok (.bipush 10, 2) := by decide +kernel
theorem dX4_fit_52 : decode cX4_fit 52 = .ok (.iadd, 1) := by decide +kernel
theorem dX4_fit_53 : decode cX4_fit 53 = .ok (.iaload, 1) := by decide +kernel
theorem dX4_fit_54 : decode cX4_fit 54 = .ok (.aload_n 0, 1) := by decide +kernel
theorem dX4_fit_55 : decode cX4_fit 55 = .ok (.getfield 150, 3) := by decide +kernel
theorem dX4_fit_58 : decode cX4_fit 58 = .ok (.if_icmp .le 5, 3) := by decide +kernel
theorem dX4_fit_61 : decode cX4_fit 61 = .ok (.iconst (-1), 1) := by decide +kernel
theorem dX4_fit_62 : decode cX4_fit 62 = .ok (.ireturn, 1) := by decide +kernel
theorem dX4_fit_63 : decode cX4_fit 63 = .ok (.aload_n 0, 1) := by decide +kernel
theorem dX4_fit_64 : decode cX4_fit 64 = .ok (.getfield 46, 3) := by decide +kernel
theorem dX4_fit_67 : decode cX4_fit 67 = .ok (.iload_n 1, 1) := by decide +kernel
theorem dX4_fit_68 : decode cX4_fit 68 = .ok (.baload, 1) := by decide +kernel
theorem dX4_fit_69 : decode cX4_fit 69 = .ok (.ifCond .eq 5, 3) := by decide +kernel
theorem dX4_fit_72 : decode cX4_fit 72 = .ok (.iconst 0, 1) := by decide +kernel
theorem dX4_fit_73 : decode cX4_fit 73 = .ok (.ireturn, 1) := by decide +kernel
theorem dX4_fit_74 : decode cX4_fit 74 = .ok (.aload_n 0, 1) := by decide +kernel
theorem dX4_fit_75 : decode cX4_fit 75 = .ok (.getfield 46, 3) := by decide +kernel
theorem dX4_fit_78 : decode cX4_fit 78 = .ok (.iload_n 1, 1) := by decide +kernel
theorem dX4_fit_79 : decode cX4_fit 79 = .ok (.iconst 1, 1) := by decide +kernel
theorem dX4_fit_80 : decode cX4_fit 80 = .ok (.bastore, 1) := by decide +kernel
theorem dX4_fit_81 : decode cX4_fit 81 = .ok (.aload_n 0, 1) := by decide +kernel
theorem dX4_fit_82 : decode cX4_fit 82 = .ok (.getfield 43, 3) := by decide +kernel
theorem dX4_fit_85 : decode cX4_fit 85 = .ok (.iload_n 1, 1) := by decide +kernel
theorem dX4_fit_86 : decode cX4_fit 86 = .ok (.iload_n 2, 1) := by decide +kernel
theorem dX4_fit_87 : decode cX4_fit 87 = .ok (.iastore, 1) := by decide +kernel
theorem dX4_fit_88 : decode cX4_fit 88 = .ok (.iconst 1, 1) := by decide +kernel
theorem dX4_fit_89 : decode cX4_fit 89 = .ok (.ireturn, 1) := by decide +kernel
set_option maxRecDepth 20000 in
theorem ggX4_wear_X4_isBlock : GoodIn wsX4_wear wsX4_isBlock := goodIn_r _ [9, 10, 11, 20, 21, 22, 23, 24, 25, 26, 27, 28, 29, 30, 31, 32, 33, 34, 35, 36, 37, 38, 39, 40, 41, 42, 43, 44, 45, 46, 47] (by decide +kernel) (by decide +kernel)
set_option maxRecDepth 20000 in
theorem gX4_wear_X4_isBlock : GoodIn wsX4_wear (wsV RX4 74 RX4 yX4_isBlock wsX4_isBlock) := goodIn_app (goodIn_of _ (by decide +kernel)) ggX4_wear_X4_isBlock
set_option maxRecDepth 20000 in
theorem ggX4_wear_X4_bad : GoodIn wsX4_wear wsX4_bad := goodIn_r _ [15, 11, 20, 21, 22, 23, 24, 25, 26, 27, 28, 29, 30, 31, 32, 33, 34, 35, 36, 37, 38, 39, 40, 41, 42, 43, 44, 45, 46, 47] (by decide +kernel) (by decide +kernel)
set_option maxRecDepth 20000 in
theorem gX4_wear_X4_bad : GoodIn wsX4_wear (wsV RX4 64 RX4 yX4_bad wsX4_bad) := goodIn_app (goodIn_of _ (by decide +kernel)) ggX4_wear_X4_bad
set_option maxRecDepth 20000 in
theorem ggX4_wear_X4_waits : GoodIn wsX4_wear wsX4_waits := goodIn_r _ [19, 2, 20, 21, 22, 23, 24, 25, 26, 27, 28, 29, 30, 31, 32, 33, 34, 35, 36, 37, 38, 39, 40, 41, 42, 43, 44, 45, 46, 47] (by decide +kernel) (by decide +kernel)
set_option maxRecDepth 20000 in
theorem gX4_wear_X4_waits : GoodIn wsX4_wear (wsV RX4 156 RX4 yX4_waits wsX4_waits) := goodIn_app (goodIn_of _ (by decide +kernel)) ggX4_wear_X4_waits
theorem dX4_wear_0 : decode cX4_wear 0 = .ok (.aload_n 0, 1) := by decide +kernel
theorem dX4_wear_1 : decode cX4_wear 1 = .ok (.iload_n 1, 1) := by decide +kernel
theorem dX4_wear_2 : decode cX4_wear 2 = .ok (.invokevirtual 74, 3) := by decide +kernel
theorem dX4_wear_5 : decode cX4_wear 5 = .ok (.ifCond .eq 25, 3) := by decide +kernel
theorem dX4_wear_8 : decode cX4_wear 8 = .ok (.aload_n 0, 1) := by decide +kernel
theorem dX4_wear_9 : decode cX4_wear 9 = .ok (.iload_n 2, 1) := by decide +kernel
theorem dX4_wear_10 : decode cX4_wear 10 = .ok (.ifCond .lt 8, 3) := by decide +kernel
theorem dX4_wear_13 : decode cX4_wear 13 = .ok (.iload_n 2, 1) := by decide +kernel
theorem dX4_wear_14 : decode cX4_wear 14 = .ok (.iconst 2, 1) := by decide +kernel
theorem dX4_wear_15 : decode cX4_wear 15 = .ok (.if_icmp .le 7, 3) := by decide +kernel
theorem dX4_wear_18 : decode cX4_wear 18 = .ok (.iconst 1, 1) := by decide +kernel
theorem dX4_wear_19 : decode cX4_wear 19 = .ok (.goto 4, 3) := by decide +kernel
theorem dX4_wear_22 : decode cX4_wear 22 = .ok (.iconst 0, 1) := by decide +kernel
theorem dX4_wear_23 : decode cX4_wear 23 = .ok (.iconst 2, 1) := by decide +kernel
theorem dX4_wear_24 : decode cX4_wear 24 = .ok (.invokevirtual 64, 3) := by decide +kernel
theorem dX4_wear_27 : decode cX4_wear 27 = .ok (.ifCond .eq 5, 3) := by decide +kernel
theorem dX4_wear_30 : decode cX4_wear 30 = .ok (.iconst 0, 1) := by decide +kernel
theorem dX4_wear_31 : decode cX4_wear 31 = .ok (.ireturn, 1) := by decide +kernel
theorem dX4_wear_32 : decode cX4_wear 32 = .ok (.iconst 0, 1) := by decide +kernel
theorem dX4_wear_33 : decode cX4_wear 33 = .ok (.istore_n 3, 1) := by decide +kernel
theorem dX4_wear_34 : decode cX4_wear 34 = .ok (.iconst 0, 1) := by decide +kernel
theorem dX4_wear_35 : decode cX4_wear 35 = .ok (.istore 4, 2) := by decide +kernel
theorem dX4_wear_37 : decode cX4_wear 37 = .ok (.iload 4, 2) := by decide +kernel
theorem dX4_wear_39 : decode cX4_wear 39 = .ok (.aload_n 0, 1) := by decide +kernel
theorem dX4_wear_40 : decode cX4_wear 40 = .ok (.getfield 141, 3) := by decide +kernel
theorem dX4_wear_43 : decode cX4_wear 43 = .ok (.if_icmp .ge 76, 3) := by decide +kernel
theorem dX4_wear_46 : decode cX4_wear 46 = .ok (.aload_n 0, 1) := by decide +kernel
theorem dX4_wear_47 : decode cX4_wear 47 = .ok (.iload 4, 2) := by decide +kernel
theorem dX4_wear_49 : decode cX4_wear 49 = .ok (.invokevirtual 156, 3) := by decide +kernel
theorem dX4_wear_52 : decode cX4_wear 52 = .ok (.ifCond .ne 61, 3) := by decide +kernel
theorem dX4_wear_55 : decode cX4_wear 55 = .ok (.aload_n 0, 1) := by decide +kernel
theorem dX4_wear_56 : decode cX4_wear 56 = .ok (.getfield 40, 3) := by decide +kernel
theorem dX4_wear_59 : decode cX4_wear 59 = .ok (.bipush 12, 2) := by decide +kernel
theorem dX4_wear_61 : decode cX4_wear 61 = .ok (.iload 4, 2) := by decide +kernel
theorem dX4_wear_63 : decode cX4_wear 63 = .ok (.imul, 1) := by decide +kernel
theorem dX4_wear_64 : decode cX4_wear 64 = .ok (.iaload, 1) := by decide +kernel
theorem dX4_wear_65 : decode cX4_wear 65 = .ok (.iload_n 1, 1) := by decide +kernel
theorem dX4_wear_66 : decode cX4_wear 66 = .ok (.if_icmp .eq 6, 3) := by decide +kernel
theorem dX4_wear_69 : decode cX4_wear 69 = .ok (.goto 44, 3) := by decide +kernel
theorem dX4_wear_72 : decode cX4_wear 72 = .ok (.iload_n 3, 1) := by decide +kernel
theorem dX4_wear_73 : decode cX4_wear 73 = .ok (.iload_n 2, 1) := by decide +kernel
theorem dX4_wear_74 : decode cX4_wear 74 = .ok (.ifCond .ne 7, 3) := by decide +kernel
theorem dX4_wear_77 : decode cX4_wear 77 = .ok (.iconst 1, 1) := by decide +kernel
theorem dX4_wear_78 : decode cX4_wear 78 = .ok (.goto 33, 3) := by decide +kernel
theorem dX4_wear_81 : decode cX4_wear 81 = .ok (.aload_n 0, 1) := by decide +kernel
theorem dX4_wear_82 : decode cX4_wear 82 = .ok (.getfield 46, 3) := by decide +kernel
theorem dX4_wear_85 : decode cX4_wear 85 = .ok (.iload 4, 2) := by decide +kernel
theorem dX4_wear_87 : decode cX4_wear 87 = .ok (.baload, 1) := by decide +kernel
theorem dX4_wear_88 : decode cX4_wear 88 = .ok (.ifCond .ne 7, 3) := by decide +kernel
theorem dX4_wear_91 : decode cX4_wear 91 = .ok (.iconst 0, 1) := by decide +kernel
theorem dX4_wear_92 : decode cX4_wear 92 = .ok (.goto 19, 3) := by decide +kernel
theorem dX4_wear_95 : decode cX4_wear 95 = .ok (.iload_n 2, 1) := by decide +kernel
theorem dX4_wear_96 : decode cX4_wear 96 = .ok (.iconst 1, 1) := by decide +kernel
theorem dX4_wear_97 : decode cX4_wear 97 = .ok (.if_icmp .ne 7, 3) := by decide +kernel
theorem dX4_wear_100 : decode cX4_wear 100 = .ok (.iconst 1, 1) := by decide +kernel
theorem dX4_wear_101 : decode cX4_wear 101 = .ok (.goto 10, 3) := by decide +kernel
theorem dX4_wear_104 : decode cX4_wear 104 = .ok (.aload_n 0, 1) := by decide +kernel
theorem dX4_wear_105 : decode cX4_wear 105 = .ok (.getfield 43, 3) := by decide +kernel
theorem dX4_wear_108 : decode cX4_wear 108 = .ok (.iload 4, 2) := by decide +kernel
theorem dX4_wear_110 : decode cX4_wear 110 = .ok (.iaload, 1) := by decide +kernel
theorem dX4_wear_111 : decode cX4_wear 111 = .ok (.iadd, 1) := by decide +kernel
theorem dX4_wear_112 : decode cX4_wear 112 = .ok (.istore_n 3, 1) := by decide +kernel
theorem dX4_wear_113 : decode cX4_wear 113 = .ok (.iinc 4 1, 3) := by decide +kernel
theorem dX4_wear_116 : decode cX4_wear 116 = .ok (.goto (-79), 3) := by decide +kernel
theorem dX4_wear_119 : decode cX4_wear 119 = .ok (.iload_n 3, 1) := by decide +kernel
theorem dX4_wear_120 : decode cX4_wear 120 = .ok (.ireturn, 1) := by decide +kernel
set_option maxRecDepth 20000 in
theorem ggX4_count_X4_waits : GoodIn wsX4_count wsX4_waits := goodIn_r _ [12, 13, 14, 15, 16, 17, 18, 19, 20, 21, 22, 23, 24, 25, 26, 27, 28, 29, 30, 31, 32, 33, 34, 35, 36, 37, 38, 39, 40, 41] (by decide +kernel) (by decide +kernel)
set_option maxRecDepth 20000 in
theorem gX4_count_X4_waits : GoodIn wsX4_count (wsV RX4 156 RX4 yX4_waits wsX4_waits) := goodIn_app (goodIn_of _ (by decide +kernel)) ggX4_count_X4_waits
theorem dX4_count_0 : decode cX4_count 0 = .ok (.aload_n 0, 1) := by decide +kernel
theorem dX4_count_1 : decode cX4_count 1 = .ok (.iconst 0, 1) := by decide +kernel
theorem dX4_count_2 : decode cX4_count 2 = .ok (.putfield 61, 3) := by decide +kernel
theorem dX4_count_5 : decode cX4_count 5 = .ok (.iload_n 1, 1) := by decide +kernel
theorem dX4_count_6 : decode cX4_count 6 = .ok (.tableswitch 108 0 6 #[42, 47, 52, 88, 93, 98, 103], 42) := by decide +kernel
theorem dX4_count_48 : decode cX4_count 48 = .ok (.aload_n 0, 1) := by decide +kernel
theorem dX4_count_49 : decode cX4_count 49 = .ok (.getfield 71, 3) := by decide +kernel
theorem dX4_count_52 : decode cX4_count 52 = .ok (.ireturn, 1) := by decide +kernel
theorem dX4_count_53 : decode cX4_count 53 = .ok (.aload_n 0, 1) := by decide +kernel
theorem dX4_count_54 : decode cX4_count 54 = .ok (.getfield 141, 3) := by decide +kernel
theorem dX4_count_57 : decode cX4_count 57 = .ok (.ireturn, 1) := by decide +kernel
theorem dX4_count_58 : decode cX4_count 58 = .ok (.iconst 0, 1) := by decide +kernel
theorem dX4_count_59 : decode cX4_count 59 = .ok (.istore_n 2, 1) := by decide +kernel
theorem dX4_count_60 : decode cX4_count 60 = .ok (.iconst 0, 1) := by decide +kernel
theorem dX4_count_61 : decode cX4_count 61 = .ok (.istore_n 3, 1) := by decide +kernel
theorem dX4_count_62 : decode cX4_count 62 = .ok (.iload_n 3, 1) := by decide +kernel
theorem dX4_count_63 : decode cX4_count 63 = .ok (.aload_n 0, 1) := by decide +kernel
theorem dX4_count_64 : decode cX4_count 64 = .ok (.getfield 141, 3) := by decide +kernel
theorem dX4_count_67 : decode cX4_count 67 = .ok (.if_icmp .ge 25, 3) := by decide +kernel
theorem dX4_count_70 : decode cX4_count 70 = .ok (.iload_n 2, 1) := by decide +kernel
theorem dX4_count_71 : decode cX4_count 71 = .ok (.aload_n 0, 1) := by decide +kernel
theorem dX4_count_72 : decode cX4_count 72 = .ok (.iload_n 3, 1) := by decide +kernel
theorem dX4_count_73 : decode cX4_count 73 = .ok (.invokevirtual 156, 3) := by decide +kernel
theorem dX4_count_76 : decode cX4_count 76 = .ok (.ifCond .eq 7, 3) := by decide +kernel
theorem dX4_count_79 : decode cX4_count 79 = .ok (.iconst 1, 1) := by decide +kernel
theorem dX4_count_80 : decode cX4_count 80 = .ok (.goto 4, 3) := by decide +kernel
theorem dX4_count_83 : decode cX4_count 83 = .ok (.iconst 0, 1) := by decide +kernel
theorem dX4_count_84 : decode cX4_count 84 = .ok (.iadd, 1) := by decide +kernel
theorem dX4_count_85 : decode cX4_count 85 = .ok (.istore_n 2, 1) := by decide +kernel
theorem dX4_count_86 : decode cX4_count 86 = .ok (.iinc 3 1, 3) := by decide +kernel
theorem dX4_count_89 : decode cX4_count 89 = .ok (.goto (-27), 3) := by decide +kernel
theorem dX4_count_92 : decode cX4_count 92 = .ok (.iload_n 2, 1) := by decide +kernel
theorem dX4_count_93 : decode cX4_count 93 = .ok (.ireturn, 1) := by decide +kernel
theorem dX4_count_94 : decode cX4_count 94 = .ok (.aload_n 0, 1) := by decide +kernel
theorem dX4_count_95 : decode cX4_count 95 = .ok (.getfield 150, 3) := by decide +kernel
theorem dX4_count_98 : decode cX4_count 98 = .ok (.ireturn, 1) := by decide +kernel
theorem dX4_count_99 : decode cX4_count 99 = .ok (.aload_n 0, 1) := by decide +kernel
theorem dX4_count_100 : decode cX4_count 100 = .ok (.getfield 68, 3) := by decide +kernel
theorem dX4_count_103 : decode cX4_count 103 = .ok (.ireturn, 1) := by decide +kernel
theorem dX4_count_104 : decode cX4_count 104 = .ok (.aload_n 0, 1) := by decide +kernel
theorem dX4_count_105 : decode cX4_count 105 = .ok (.getfield 82, 3) := by decide +kernel
theorem dX4_count_108 : decode cX4_count 108 = .ok (.ireturn, 1) := by decide +kernel
theorem dX4_count_109 : decode cX4_count 109 = .ok (.aload_n 0, 1) := by decide +kernel
theorem dX4_count_110 : decode cX4_count 110 = .ok (.getfield 153, 3) := by decide +kernel
theorem dX4_count_113 : decode cX4_count 113 = .ok (.ireturn, 1) := by decide +kernel
theorem dX4_count_114 : decode cX4_count 114 = .ok (.iconst (-1), 1) := by decide +kernel
theorem dX4_count_115 : decode cX4_count 115 = .ok (.ireturn, 1) := by decide +kernel
end
section
/-! THE FRAME: a walk over one fixed object graph: Wd g a c lists its cells; g the int fields, a the int arrays' contents, c the long field. K: the walk's context. -/
abbrev hw_G : Type := Nat → Int32
abbrev hw_A : Type := Nat → Nat → Int32
abbrev hw_W : Type := hw_G → hw_A → Int64 → va_W
abbrev hw_XT : Type := (Nat → Prop) → State → Heap → Prop
abbrev hw_K : Type := Program × Launch × Env × Room × State × MethodId × Array Value × List Frame × Method × Code × (State → Prop) × va_G × (Nat → Prop) × Nat
def hw_XOK (X : hw_XT) : Prop := (∀ (A : Nat → Prop) (s U : State) (H : Heap), s.WarmedH U.vm → X A s H → X A U H) ∧ (∀ (A : Nat → Prop) (U : State) (H H1 : Heap), X A U H → (∀ q : Nat, q < H.size → ¬ A q → H1[q]? = H[q]?) → X A U H1) ∧ (∀ (A B : Nat → Prop) (U : State) (H : Heap), X A U H → (∀ q, B q → A q) → X B U H) ∧ (∀ (A : Nat → Prop) (U : State) (H : Heap) (g : JFrame) (mk : MethodId) (a : Array Value), X A U H → X A (U.calling g mk a) H)
/-- the judgement -/
def hw_J (K : hw_K) (Wd : hw_W) (kc ks : Nat) (g : hw_G) (a : hw_A) (c : Int64) (lv : List (Nat × Value)) (pc : Nat) (st : List Value) : Prop := match K with
  | (p, l, e, R, s, m, args, below, meth, cd, Q, D, A, nL) => ∀ (H : Heap) (locs : List Loc) (ls : Array Slot), va_P D vwCl (Wd g a c) H → va_S A s.heap H locs → lv_has ls nL lv → W p l e R s m args below meth cd H locs kc ks Q (F0 m pc ls st)
/-- what a walk knows of its context -/
def hw_F (K : hw_K) (l : Launch) (D : va_G) (Wd : hw_W) (tys : List (ClassId × FieldType)) (X : hw_XT) (cc : ByteArray) (own : String) (Ts : List Cond) (rm : Room) (nL : Nat) : Prop := match K with
  | (p, l', _, R, s, m, args, _, meth, cd, _, D', A, nL') => l' = l ∧ D' = D ∧ R = rm ∧ nL' = nL ∧ p.tables.exec = Jvm.exec ∧ cd.code = cc ∧ cd.maxLocals = nL ∧ s.vm.findClass own = some m.cls ∧ (∀ w ∈ Ts, w.before args s = true) ∧ va_K D vwCl tys s ∧ (∀ g a c, va_D A (Wd g a c)) ∧ (∀ q, s.heap.size ≤ q → A q) ∧ meth.locks = false ∧ hw_XOK X ∧ X A s s.heap
section HWR
variable {K : hw_K} {l : Launch} {D : va_G} {Wd : hw_W} {tys : List (ClassId × FieldType)} {X : hw_XT} {cc : ByteArray} {own : String} {Ts : List Cond} {rm : Room} {nL : Nat} {kc ks : Nat} {g : hw_G} {a : hw_A} {c : Int64} {lv : List (Nat × Value)} {pc : Nat} {st : List Value}
theorem hj_iconst (F : hw_F K l D Wd tys X cc own Ts rm nL) {n : Int} {v : Int32} (d : decode cc pc = .ok (.iconst n, 1)) (hv : Int32.ofInt n = v) (h : hw_J K Wd kc ks g a c lv (pc + 1) (.int v :: st)) : hw_J K Wd kc ks g a c lv pc st := by
  obtain ⟨p, l, e, R, s, m, args, below, meth, cd, Q, D, A, nL⟩ := K
  obtain ⟨rfl, rfl, rfl, rfl, hx, hb, hml, hown, hts, hK, hD, hA, hlk, hok, hX⟩ := F
  intro H locs ls hP hS hl
  exact lv_iconst hx hb d hv (h H locs ls hP hS hl)
theorem hj_bipush (F : hw_F K l D Wd tys X cc own Ts rm nL) {n : Int} {v : Int32} (d : decode cc pc = .ok (.bipush n, 2)) (hv : (Int8.ofInt n).toInt32 = v) (h : hw_J K Wd kc ks g a c lv (pc + 2) (.int v :: st)) : hw_J K Wd kc ks g a c lv pc st := by
  obtain ⟨p, l, e, R, s, m, args, below, meth, cd, Q, D, A, nL⟩ := K
  obtain ⟨rfl, rfl, rfl, rfl, hx, hb, hml, hown, hts, hK, hD, hA, hlk, hok, hX⟩ := F
  intro H locs ls hP hS hl
  exact lv_bipush hx hb d hv (h H locs ls hP hS hl)
theorem hj_sipush (F : hw_F K l D Wd tys X cc own Ts rm nL) {n : Int} {v : Int32} (d : decode cc pc = .ok (.sipush n, 3)) (hv : (Int16.ofInt n).toInt32 = v) (h : hw_J K Wd kc ks g a c lv (pc + 3) (.int v :: st)) : hw_J K Wd kc ks g a c lv pc st := by
  obtain ⟨p, l, e, R, s, m, args, below, meth, cd, Q, D, A, nL⟩ := K
  obtain ⟨rfl, rfl, rfl, rfl, hx, hb, hml, hown, hts, hK, hD, hA, hlk, hok, hX⟩ := F
  intro H locs ls hP hS hl
  exact lv_sipush hx hb d hv (h H locs ls hP hS hl)
theorem hj_lconst (F : hw_F K l D Wd tys X cc own Ts rm nL) {n : Fin 2} {v : Int64} (d : decode cc pc = .ok (.lconst n, 1)) (hv : Int64.ofNat (n : Nat) = v) (h : hw_J K Wd kc ks g a c lv (pc + 1) (.long v :: st)) : hw_J K Wd kc ks g a c lv pc st := by
  obtain ⟨p, l, e, R, s, m, args, below, meth, cd, Q, D, A, nL⟩ := K
  obtain ⟨rfl, rfl, rfl, rfl, hx, hb, hml, hown, hts, hK, hD, hA, hlk, hok, hX⟩ := F
  intro H locs ls hP hS hl
  exact lv_lconst hx hb d hv (h H locs ls hP hS hl)
theorem hj_ldc (F : hw_F K l D Wd tys X cc own Ts rm nL) {index : Nat} {v : Int32} (hc : Cond.constant own index v ∈ Ts) (d : decode cc pc = .ok (.ldc index, 2)) (h : hw_J K Wd kc ks g a c lv (pc + 2) (.int v :: st)) : hw_J K Wd kc ks g a c lv pc st := by
  obtain ⟨p, l, e, R, s, m, args, below, meth, cd, Q, D, A, nL⟩ := K
  obtain ⟨rfl, rfl, rfl, rfl, hx, hb, hml, hown, hts, hK, hD, hA, hlk, hok, hX⟩ := F
  intro H locs ls hP hS hl
  exact lv_ldc hx hb hown (hts _ hc) d (h H locs ls hP hS hl)
theorem hj_ldc2 (F : hw_F K l D Wd tys X cc own Ts rm nL) {index : Nat} {v : Int64} (hc : Cond.constantLong own index v ∈ Ts) (d : decode cc pc = .ok (.ldc2_w index, 3)) (h : hw_J K Wd kc ks g a c lv (pc + 3) (.long v :: st)) : hw_J K Wd kc ks g a c lv pc st := by
  obtain ⟨p, l, e, R, s, m, args, below, meth, cd, Q, D, A, nL⟩ := K
  obtain ⟨rfl, rfl, rfl, rfl, hx, hb, hml, hown, hts, hK, hD, hA, hlk, hok, hX⟩ := F
  intro H locs ls hP hS hl
  exact lv_ldc2 hx hb hown (hts _ hc) d (h H locs ls hP hS hl)
theorem hj_iload_n (F : hw_F K l D Wd tys X cc own Ts rm nL) (k : Nat) {n : Fin 4} {i : Nat} {x : Int32} (d : decode cc pc = .ok (.iload_n n, 1)) (hi : (n : Nat) = i) (hk : lv[k]? = some (i, .int x)) (h : hw_J K Wd kc ks g a c lv (pc + 1) (.int x :: st)) : hw_J K Wd kc ks g a c lv pc st := by
  obtain ⟨p, l, e, R, s, m, args, below, meth, cd, Q, D, A, nL⟩ := K
  obtain ⟨rfl, rfl, rfl, rfl, hx, hb, hml, hown, hts, hK, hD, hA, hlk, hok, hX⟩ := F
  intro H locs ls hP hS hl
  exact lv_iload_n hx hb d hi (lv_at hl k hk) (h H locs ls hP hS hl)
theorem hj_iload (F : hw_F K l D Wd tys X cc own Ts rm nL) (k : Nat) {i : Nat} {x : Int32} (d : decode cc pc = .ok (.iload i, 2)) (hk : lv[k]? = some (i, .int x)) (h : hw_J K Wd kc ks g a c lv (pc + 2) (.int x :: st)) : hw_J K Wd kc ks g a c lv pc st := by
  obtain ⟨p, l, e, R, s, m, args, below, meth, cd, Q, D, A, nL⟩ := K
  obtain ⟨rfl, rfl, rfl, rfl, hx, hb, hml, hown, hts, hK, hD, hA, hlk, hok, hX⟩ := F
  intro H locs ls hP hS hl
  exact lv_iload hx hb d (lv_at hl k hk) (h H locs ls hP hS hl)
theorem hj_istore_n (F : hw_F K l D Wd tys X cc own Ts rm nL) {n : Fin 4} {i : Nat} {x : Int32} {lv' : List (Nat × Value)} (d : decode cc pc = .ok (.istore_n n, 1)) (hi : (n : Nat) = i) (hn : i < nL) (hl' : (i, Value.int x) :: lv.filter (fun q => !(q.1 == i) && !(q.1 + 1 == i && q.2.category == 2)) = lv') (h : hw_J K Wd kc ks g a c lv' (pc + 1) st) : hw_J K Wd kc ks g a c lv pc (.int x :: st) := by
  obtain ⟨p, l, e, R, s, m, args, below, meth, cd, Q, D, A, nL⟩ := K
  obtain ⟨rfl, rfl, rfl, rfl, hx, hb, hml, hown, hts, hK, hD, hA, hlk, hok, hX⟩ := F
  intro H locs ls hP hS hl
  exact lv_istore_n hx hb d hi hl hn hl' (fun ls hl => h H locs ls hP hS hl)
theorem hj_istore (F : hw_F K l D Wd tys X cc own Ts rm nL) {i : Nat} {x : Int32} {lv' : List (Nat × Value)} (d : decode cc pc = .ok (.istore i, 2)) (hn : i < nL) (hl' : (i, Value.int x) :: lv.filter (fun q => !(q.1 == i) && !(q.1 + 1 == i && q.2.category == 2)) = lv') (h : hw_J K Wd kc ks g a c lv' (pc + 2) st) : hw_J K Wd kc ks g a c lv pc (.int x :: st) := by
  obtain ⟨p, l, e, R, s, m, args, below, meth, cd, Q, D, A, nL⟩ := K
  obtain ⟨rfl, rfl, rfl, rfl, hx, hb, hml, hown, hts, hK, hD, hA, hlk, hok, hX⟩ := F
  intro H locs ls hP hS hl
  exact lv_istore hx hb d hl hn hl' (fun ls hl => h H locs ls hP hS hl)
theorem hj_lload_n (F : hw_F K l D Wd tys X cc own Ts rm nL) (k : Nat) {n : Fin 4} {i : Nat} {x : Int64} (d : decode cc pc = .ok (.lload_n n, 1)) (hi : (n : Nat) = i) (hk : lv[k]? = some (i, .long x)) (h : hw_J K Wd kc ks g a c lv (pc + 1) (.long x :: st)) : hw_J K Wd kc ks g a c lv pc st := by
  obtain ⟨p, l, e, R, s, m, args, below, meth, cd, Q, D, A, nL⟩ := K
  obtain ⟨rfl, rfl, rfl, rfl, hx, hb, hml, hown, hts, hK, hD, hA, hlk, hok, hX⟩ := F
  intro H locs ls hP hS hl
  exact lv_lload_n hx hb d hi (lv_at hl k hk) (h H locs ls hP hS hl)
theorem hj_lload (F : hw_F K l D Wd tys X cc own Ts rm nL) (k : Nat) {i : Nat} {x : Int64} (d : decode cc pc = .ok (.lload i, 2)) (hk : lv[k]? = some (i, .long x)) (h : hw_J K Wd kc ks g a c lv (pc + 2) (.long x :: st)) : hw_J K Wd kc ks g a c lv pc st := by
  obtain ⟨p, l, e, R, s, m, args, below, meth, cd, Q, D, A, nL⟩ := K
  obtain ⟨rfl, rfl, rfl, rfl, hx, hb, hml, hown, hts, hK, hD, hA, hlk, hok, hX⟩ := F
  intro H locs ls hP hS hl
  exact lv_lload hx hb d (lv_at hl k hk) (h H locs ls hP hS hl)
theorem hj_lstore_n (F : hw_F K l D Wd tys X cc own Ts rm nL) {n : Fin 4} {i : Nat} {x : Int64} {lv' : List (Nat × Value)} (d : decode cc pc = .ok (.lstore_n n, 1)) (hi : (n : Nat) = i) (hn : i + 1 < nL) (hl' : (i, Value.long x) :: lv.filter (fun q => !(q.1 == i) && (!(q.1 == i + 1) && !(q.1 + 1 == i && q.2.category == 2))) = lv') (h : hw_J K Wd kc ks g a c lv' (pc + 1) st) : hw_J K Wd kc ks g a c lv pc (.long x :: st) := by
  obtain ⟨p, l, e, R, s, m, args, below, meth, cd, Q, D, A, nL⟩ := K
  obtain ⟨rfl, rfl, rfl, rfl, hx, hb, hml, hown, hts, hK, hD, hA, hlk, hok, hX⟩ := F
  intro H locs ls hP hS hl
  exact lv_lstore_n hx hb d hi hl hn hl' (fun ls hl => h H locs ls hP hS hl)
theorem hj_lstore (F : hw_F K l D Wd tys X cc own Ts rm nL) {i : Nat} {x : Int64} {lv' : List (Nat × Value)} (d : decode cc pc = .ok (.lstore i, 2)) (hn : i + 1 < nL) (hl' : (i, Value.long x) :: lv.filter (fun q => !(q.1 == i) && (!(q.1 == i + 1) && !(q.1 + 1 == i && q.2.category == 2))) = lv') (h : hw_J K Wd kc ks g a c lv' (pc + 2) st) : hw_J K Wd kc ks g a c lv pc (.long x :: st) := by
  obtain ⟨p, l, e, R, s, m, args, below, meth, cd, Q, D, A, nL⟩ := K
  obtain ⟨rfl, rfl, rfl, rfl, hx, hb, hml, hown, hts, hK, hD, hA, hlk, hok, hX⟩ := F
  intro H locs ls hP hS hl
  exact lv_lstore hx hb d hl hn hl' (fun ls hl => h H locs ls hP hS hl)
theorem hj_aload_n (F : hw_F K l D Wd tys X cc own Ts rm nL) (k : Nat) {n : Fin 4} {i : Nat} {x : Nat} (d : decode cc pc = .ok (.aload_n n, 1)) (hi : (n : Nat) = i) (hk : lv[k]? = some (i, .ref x)) (h : hw_J K Wd kc ks g a c lv (pc + 1) (.ref x :: st)) : hw_J K Wd kc ks g a c lv pc st := by
  obtain ⟨p, l, e, R, s, m, args, below, meth, cd, Q, D, A, nL⟩ := K
  obtain ⟨rfl, rfl, rfl, rfl, hx, hb, hml, hown, hts, hK, hD, hA, hlk, hok, hX⟩ := F
  intro H locs ls hP hS hl
  exact lv_aload_n hx hb d hi (lv_at hl k hk) (h H locs ls hP hS hl)
theorem hj_aload (F : hw_F K l D Wd tys X cc own Ts rm nL) (k : Nat) {i : Nat} {x : Nat} (d : decode cc pc = .ok (.aload i, 2)) (hk : lv[k]? = some (i, .ref x)) (h : hw_J K Wd kc ks g a c lv (pc + 2) (.ref x :: st)) : hw_J K Wd kc ks g a c lv pc st := by
  obtain ⟨p, l, e, R, s, m, args, below, meth, cd, Q, D, A, nL⟩ := K
  obtain ⟨rfl, rfl, rfl, rfl, hx, hb, hml, hown, hts, hK, hD, hA, hlk, hok, hX⟩ := F
  intro H locs ls hP hS hl
  exact lv_aload hx hb d (lv_at hl k hk) (h H locs ls hP hS hl)
theorem hj_astore_n (F : hw_F K l D Wd tys X cc own Ts rm nL) {n : Fin 4} {i : Nat} {x : Nat} {lv' : List (Nat × Value)} (d : decode cc pc = .ok (.astore_n n, 1)) (hi : (n : Nat) = i) (hn : i < nL) (hl' : (i, Value.ref x) :: lv.filter (fun q => !(q.1 == i) && !(q.1 + 1 == i && q.2.category == 2)) = lv') (h : hw_J K Wd kc ks g a c lv' (pc + 1) st) : hw_J K Wd kc ks g a c lv pc (.ref x :: st) := by
  obtain ⟨p, l, e, R, s, m, args, below, meth, cd, Q, D, A, nL⟩ := K
  obtain ⟨rfl, rfl, rfl, rfl, hx, hb, hml, hown, hts, hK, hD, hA, hlk, hok, hX⟩ := F
  intro H locs ls hP hS hl
  exact lv_astore_n hx hb d hi hl hn hl' (fun ls hl => h H locs ls hP hS hl)
theorem hj_astore (F : hw_F K l D Wd tys X cc own Ts rm nL) {i : Nat} {x : Nat} {lv' : List (Nat × Value)} (d : decode cc pc = .ok (.astore i, 2)) (hn : i < nL) (hl' : (i, Value.ref x) :: lv.filter (fun q => !(q.1 == i) && !(q.1 + 1 == i && q.2.category == 2)) = lv') (h : hw_J K Wd kc ks g a c lv' (pc + 2) st) : hw_J K Wd kc ks g a c lv pc (.ref x :: st) := by
  obtain ⟨p, l, e, R, s, m, args, below, meth, cd, Q, D, A, nL⟩ := K
  obtain ⟨rfl, rfl, rfl, rfl, hx, hb, hml, hown, hts, hK, hD, hA, hlk, hok, hX⟩ := F
  intro H locs ls hP hS hl
  exact lv_astore hx hb d hl hn hl' (fun ls hl => h H locs ls hP hS hl)
theorem hj_iinc (F : hw_F K l D Wd tys X cc own Ts rm nL) (k : Nat) {i : Nat} {n : Int} {x v : Int32} {lv' : List (Nat × Value)} (d : decode cc pc = .ok (.iinc i n, 3)) (hk : lv[k]? = some (i, .int x)) (hv : x + Int32.ofInt n = v) (hn : i < nL) (hl' : (i, Value.int v) :: lv.filter (fun q => !(q.1 == i) && !(q.1 + 1 == i && q.2.category == 2)) = lv') (h : hw_J K Wd kc ks g a c lv' (pc + 3) st) : hw_J K Wd kc ks g a c lv pc st := by
  obtain ⟨p, l, e, R, s, m, args, below, meth, cd, Q, D, A, nL⟩ := K
  obtain ⟨rfl, rfl, rfl, rfl, hx, hb, hml, hown, hts, hK, hD, hA, hlk, hok, hX⟩ := F
  intro H locs ls hP hS hl
  exact lv_iinc hx hb d hl hk hv hn hl' (fun ls hl => h H locs ls hP hS hl)
theorem hj_iadd (F : hw_F K l D Wd tys X cc own Ts rm nL) {x y : Int32} (d : decode cc pc = .ok (.iadd, 1)) (h : hw_J K Wd kc ks g a c lv (pc + 1) (.int (x + y) :: st)) : hw_J K Wd kc ks g a c lv pc (.int y :: .int x :: st) := by
  obtain ⟨p, l, e, R, s, m, args, below, meth, cd, Q, D, A, nL⟩ := K
  obtain ⟨rfl, rfl, rfl, rfl, hx, hb, hml, hown, hts, hK, hD, hA, hlk, hok, hX⟩ := F
  intro H locs ls hP hS hl
  exact lv_iadd hx hb d (h H locs ls hP hS hl)
theorem hj_isub (F : hw_F K l D Wd tys X cc own Ts rm nL) {x y : Int32} (d : decode cc pc = .ok (.isub, 1)) (h : hw_J K Wd kc ks g a c lv (pc + 1) (.int (x - y) :: st)) : hw_J K Wd kc ks g a c lv pc (.int y :: .int x :: st) := by
  obtain ⟨p, l, e, R, s, m, args, below, meth, cd, Q, D, A, nL⟩ := K
  obtain ⟨rfl, rfl, rfl, rfl, hx, hb, hml, hown, hts, hK, hD, hA, hlk, hok, hX⟩ := F
  intro H locs ls hP hS hl
  exact lv_isub hx hb d (h H locs ls hP hS hl)
theorem hj_imul (F : hw_F K l D Wd tys X cc own Ts rm nL) {x y : Int32} (d : decode cc pc = .ok (.imul, 1)) (h : hw_J K Wd kc ks g a c lv (pc + 1) (.int (x * y) :: st)) : hw_J K Wd kc ks g a c lv pc (.int y :: .int x :: st) := by
  obtain ⟨p, l, e, R, s, m, args, below, meth, cd, Q, D, A, nL⟩ := K
  obtain ⟨rfl, rfl, rfl, rfl, hx, hb, hml, hown, hts, hK, hD, hA, hlk, hok, hX⟩ := F
  intro H locs ls hP hS hl
  exact lv_imul hx hb d (h H locs ls hP hS hl)
theorem hj_iand (F : hw_F K l D Wd tys X cc own Ts rm nL) {x y : Int32} (d : decode cc pc = .ok (.iand, 1)) (h : hw_J K Wd kc ks g a c lv (pc + 1) (.int (x &&& y) :: st)) : hw_J K Wd kc ks g a c lv pc (.int y :: .int x :: st) := by
  obtain ⟨p, l, e, R, s, m, args, below, meth, cd, Q, D, A, nL⟩ := K
  obtain ⟨rfl, rfl, rfl, rfl, hx, hb, hml, hown, hts, hK, hD, hA, hlk, hok, hX⟩ := F
  intro H locs ls hP hS hl
  exact lv_iand hx hb d (h H locs ls hP hS hl)
theorem hj_ishr (F : hw_F K l D Wd tys X cc own Ts rm nL) {x y : Int32} (d : decode cc pc = .ok (.ishr, 1)) (h : hw_J K Wd kc ks g a c lv (pc + 1) (.int (x >>> (y &&& 31)) :: st)) : hw_J K Wd kc ks g a c lv pc (.int y :: .int x :: st) := by
  obtain ⟨p, l, e, R, s, m, args, below, meth, cd, Q, D, A, nL⟩ := K
  obtain ⟨rfl, rfl, rfl, rfl, hx, hb, hml, hown, hts, hK, hD, hA, hlk, hok, hX⟩ := F
  intro H locs ls hP hS hl
  exact lv_ishr hx hb d (h H locs ls hP hS hl)
theorem hj_irem (F : hw_F K l D Wd tys X cc own Ts rm nL) {x y : Int32} (d : decode cc pc = .ok (.irem, 1)) (hne : ¬ y = 0) (h : hw_J K Wd kc ks g a c lv (pc + 1) (.int (x - x / y * y) :: st)) : hw_J K Wd kc ks g a c lv pc (.int y :: .int x :: st) := by
  obtain ⟨p, l, e, R, s, m, args, below, meth, cd, Q, D, A, nL⟩ := K
  obtain ⟨rfl, rfl, rfl, rfl, hx, hb, hml, hown, hts, hK, hD, hA, hlk, hok, hX⟩ := F
  intro H locs ls hP hS hl
  exact lv_irem hx hb d hne (h H locs ls hP hS hl)
theorem hj_iushr (F : hw_F K l D Wd tys X cc own Ts rm nL) {x y : Int32} (d : decode cc pc = .ok (.iushr, 1)) (h : hw_J K Wd kc ks g a c lv (pc + 1) (.int (x.toUInt32 >>> (y.toUInt32 &&& Int32.toUInt32 31)).toInt32 :: st)) : hw_J K Wd kc ks g a c lv pc (.int y :: .int x :: st) := by
  obtain ⟨p, l, e, R, s, m, args, below, meth, cd, Q, D, A, nL⟩ := K
  obtain ⟨rfl, rfl, rfl, rfl, hx, hb, hml, hown, hts, hK, hD, hA, hlk, hok, hX⟩ := F
  intro H locs ls hP hS hl
  exact lv_iushr hx hb d rfl (h H locs ls hP hS hl)
theorem hj_ladd (F : hw_F K l D Wd tys X cc own Ts rm nL) {x y : Int64} (d : decode cc pc = .ok (.ladd, 1)) (h : hw_J K Wd kc ks g a c lv (pc + 1) (.long (x + y) :: st)) : hw_J K Wd kc ks g a c lv pc (.long y :: .long x :: st) := by
  obtain ⟨p, l, e, R, s, m, args, below, meth, cd, Q, D, A, nL⟩ := K
  obtain ⟨rfl, rfl, rfl, rfl, hx, hb, hml, hown, hts, hK, hD, hA, hlk, hok, hX⟩ := F
  intro H locs ls hP hS hl
  exact lv_ladd hx hb d (h H locs ls hP hS hl)
theorem hj_lmul (F : hw_F K l D Wd tys X cc own Ts rm nL) {x y : Int64} (d : decode cc pc = .ok (.lmul, 1)) (h : hw_J K Wd kc ks g a c lv (pc + 1) (.long (x * y) :: st)) : hw_J K Wd kc ks g a c lv pc (.long y :: .long x :: st) := by
  obtain ⟨p, l, e, R, s, m, args, below, meth, cd, Q, D, A, nL⟩ := K
  obtain ⟨rfl, rfl, rfl, rfl, hx, hb, hml, hown, hts, hK, hD, hA, hlk, hok, hX⟩ := F
  intro H locs ls hP hS hl
  exact lv_lmul hx hb d (h H locs ls hP hS hl)
theorem hj_lcmp (F : hw_F K l D Wd tys X cc own Ts rm nL) {x y : Int64} (d : decode cc pc = .ok (.lcmp, 1)) (h : hw_J K Wd kc ks g a c lv (pc + 1) (.int (lg_cmp x y) :: st)) : hw_J K Wd kc ks g a c lv pc (.long y :: .long x :: st) := by
  obtain ⟨p, l, e, R, s, m, args, below, meth, cd, Q, D, A, nL⟩ := K
  obtain ⟨rfl, rfl, rfl, rfl, hx, hb, hml, hown, hts, hK, hD, hA, hlk, hok, hX⟩ := F
  intro H locs ls hP hS hl
  exact W.lcmp hx hb d (h H locs ls hP hS hl)
theorem hj_i2l (F : hw_F K l D Wd tys X cc own Ts rm nL) {x : Int32} (d : decode cc pc = .ok (.i2l, 1)) (h : hw_J K Wd kc ks g a c lv (pc + 1) (.long x.toInt64 :: st)) : hw_J K Wd kc ks g a c lv pc (.int x :: st) := by
  obtain ⟨p, l, e, R, s, m, args, below, meth, cd, Q, D, A, nL⟩ := K
  obtain ⟨rfl, rfl, rfl, rfl, hx, hb, hml, hown, hts, hK, hD, hA, hlk, hok, hX⟩ := F
  intro H locs ls hP hS hl
  exact lv_i2l hx hb d rfl (h H locs ls hP hS hl)
theorem hj_i2b (F : hw_F K l D Wd tys X cc own Ts rm nL) {x : Int32} (d : decode cc pc = .ok (.i2b, 1)) (h : hw_J K Wd kc ks g a c lv (pc + 1) (.int x.toInt8.toInt32 :: st)) : hw_J K Wd kc ks g a c lv pc (.int x :: st) := by
  obtain ⟨p, l, e, R, s, m, args, below, meth, cd, Q, D, A, nL⟩ := K
  obtain ⟨rfl, rfl, rfl, rfl, hx, hb, hml, hown, hts, hK, hD, hA, hlk, hok, hX⟩ := F
  intro H locs ls hP hS hl
  exact lv_i2b hx hb d rfl (h H locs ls hP hS hl)
theorem hj_dup (F : hw_F K l D Wd tys X cc own Ts rm nL) {v : Value} (d : decode cc pc = .ok (.dup, 1)) (hv : v.category = 1) (h : hw_J K Wd kc ks g a c lv (pc + 1) (v :: v :: st)) : hw_J K Wd kc ks g a c lv pc (v :: st) := by
  obtain ⟨p, l, e, R, s, m, args, below, meth, cd, Q, D, A, nL⟩ := K
  obtain ⟨rfl, rfl, rfl, rfl, hx, hb, hml, hown, hts, hK, hD, hA, hlk, hok, hX⟩ := F
  intro H locs ls hP hS hl
  exact lv_dup hx hb d hv (h H locs ls hP hS hl)
theorem hj_pop (F : hw_F K l D Wd tys X cc own Ts rm nL) {v : Value} (d : decode cc pc = .ok (.pop, 1)) (hv : v.category = 1) (h : hw_J K Wd kc ks g a c lv (pc + 1) st) : hw_J K Wd kc ks g a c lv pc (v :: st) := by
  obtain ⟨p, l, e, R, s, m, args, below, meth, cd, Q, D, A, nL⟩ := K
  obtain ⟨rfl, rfl, rfl, rfl, hx, hb, hml, hown, hts, hK, hD, hA, hlk, hok, hX⟩ := F
  intro H locs ls hP hS hl
  exact lv_pop hx hb d hv (h H locs ls hP hS hl)
theorem hj_dup2 (F : hw_F K l D Wd tys X cc own Ts rm nL) {v w : Value} (d : decode cc pc = .ok (.dup2, 1)) (hv : v.category = 1) (hw : w.category = 1) (h : hw_J K Wd kc ks g a c lv (pc + 1) (v :: w :: v :: w :: st)) : hw_J K Wd kc ks g a c lv pc (v :: w :: st) := by
  obtain ⟨p, l, e, R, s, m, args, below, meth, cd, Q, D, A, nL⟩ := K
  obtain ⟨rfl, rfl, rfl, rfl, hx, hb, hml, hown, hts, hK, hD, hA, hlk, hok, hX⟩ := F
  intro H locs ls hP hS hl
  exact lv_dup2_11 hx hb d hv hw (h H locs ls hP hS hl)
theorem hj_goto (F : hw_F K l D Wd tys X cc own Ts rm nL) {off : Int} (tgt : Nat) (d : decode cc pc = .ok (.goto off, 3)) (ht : (pc : Int) + off = (tgt : Int)) (h : hw_J K Wd kc ks g a c lv tgt st) : hw_J K Wd kc ks g a c lv pc st := by
  obtain ⟨p, l, e, R, s, m, args, below, meth, cd, Q, D, A, nL⟩ := K
  obtain ⟨rfl, rfl, rfl, rfl, hx, hb, hml, hown, hts, hK, hD, hA, hlk, hok, hX⟩ := F
  intro H locs ls hP hS hl
  exact lv_goto hx hb d ht (h H locs ls hP hS hl)
theorem hj_if_eq (F : hw_F K l D Wd tys X cc own Ts rm nL) {x : Int32} {off : Int} (tgt : Nat) (d : decode cc pc = .ok (.ifCond .eq off, 3)) (ht : (pc : Int) + off = (tgt : Int)) (h1 : x = 0 → hw_J K Wd kc ks g a c lv tgt st) (h2 : ¬ x = 0 → hw_J K Wd kc ks g a c lv (pc + 3) st) : hw_J K Wd kc ks g a c lv pc (.int x :: st) := by
  obtain ⟨p, l, e, R, s, m, args, below, meth, cd, Q, D, A, nL⟩ := K
  obtain ⟨rfl, rfl, rfl, rfl, hx, hb, hml, hown, hts, hK, hD, hA, hlk, hok, hX⟩ := F
  intro H locs ls hP hS hl
  exact lv_if_eq hx hb d ht (fun q => h1 q H locs ls hP hS hl) (fun q => h2 q H locs ls hP hS hl)
theorem hj_icmp_eq (F : hw_F K l D Wd tys X cc own Ts rm nL) {x y : Int32} {off : Int} (tgt : Nat) (d : decode cc pc = .ok (.if_icmp .eq off, 3)) (ht : (pc : Int) + off = (tgt : Int)) (h1 : x = y → hw_J K Wd kc ks g a c lv tgt st) (h2 : ¬ x = y → hw_J K Wd kc ks g a c lv (pc + 3) st) : hw_J K Wd kc ks g a c lv pc (.int y :: .int x :: st) := by
  obtain ⟨p, l, e, R, s, m, args, below, meth, cd, Q, D, A, nL⟩ := K
  obtain ⟨rfl, rfl, rfl, rfl, hx, hb, hml, hown, hts, hK, hD, hA, hlk, hok, hX⟩ := F
  intro H locs ls hP hS hl
  exact lv_icmp_eq hx hb d ht (fun q => h1 q H locs ls hP hS hl) (fun q => h2 q H locs ls hP hS hl)
theorem hj_if_ne (F : hw_F K l D Wd tys X cc own Ts rm nL) {x : Int32} {off : Int} (tgt : Nat) (d : decode cc pc = .ok (.ifCond .ne off, 3)) (ht : (pc : Int) + off = (tgt : Int)) (h1 : ¬ x = 0 → hw_J K Wd kc ks g a c lv tgt st) (h2 : x = 0 → hw_J K Wd kc ks g a c lv (pc + 3) st) : hw_J K Wd kc ks g a c lv pc (.int x :: st) := by
  obtain ⟨p, l, e, R, s, m, args, below, meth, cd, Q, D, A, nL⟩ := K
  obtain ⟨rfl, rfl, rfl, rfl, hx, hb, hml, hown, hts, hK, hD, hA, hlk, hok, hX⟩ := F
  intro H locs ls hP hS hl
  exact lv_if_ne hx hb d ht (fun q => h1 q H locs ls hP hS hl) (fun q => h2 q H locs ls hP hS hl)
theorem hj_icmp_ne (F : hw_F K l D Wd tys X cc own Ts rm nL) {x y : Int32} {off : Int} (tgt : Nat) (d : decode cc pc = .ok (.if_icmp .ne off, 3)) (ht : (pc : Int) + off = (tgt : Int)) (h1 : ¬ x = y → hw_J K Wd kc ks g a c lv tgt st) (h2 : x = y → hw_J K Wd kc ks g a c lv (pc + 3) st) : hw_J K Wd kc ks g a c lv pc (.int y :: .int x :: st) := by
  obtain ⟨p, l, e, R, s, m, args, below, meth, cd, Q, D, A, nL⟩ := K
  obtain ⟨rfl, rfl, rfl, rfl, hx, hb, hml, hown, hts, hK, hD, hA, hlk, hok, hX⟩ := F
  intro H locs ls hP hS hl
  exact lv_icmp_ne hx hb d ht (fun q => h1 q H locs ls hP hS hl) (fun q => h2 q H locs ls hP hS hl)
theorem hj_if_lt (F : hw_F K l D Wd tys X cc own Ts rm nL) {x : Int32} {off : Int} (tgt : Nat) (d : decode cc pc = .ok (.ifCond .lt off, 3)) (ht : (pc : Int) + off = (tgt : Int)) (h1 : x < 0 → hw_J K Wd kc ks g a c lv tgt st) (h2 : ¬ x < 0 → hw_J K Wd kc ks g a c lv (pc + 3) st) : hw_J K Wd kc ks g a c lv pc (.int x :: st) := by
  obtain ⟨p, l, e, R, s, m, args, below, meth, cd, Q, D, A, nL⟩ := K
  obtain ⟨rfl, rfl, rfl, rfl, hx, hb, hml, hown, hts, hK, hD, hA, hlk, hok, hX⟩ := F
  intro H locs ls hP hS hl
  exact lv_if_lt hx hb d ht (fun q => h1 q H locs ls hP hS hl) (fun q => h2 q H locs ls hP hS hl)
theorem hj_icmp_lt (F : hw_F K l D Wd tys X cc own Ts rm nL) {x y : Int32} {off : Int} (tgt : Nat) (d : decode cc pc = .ok (.if_icmp .lt off, 3)) (ht : (pc : Int) + off = (tgt : Int)) (h1 : x < y → hw_J K Wd kc ks g a c lv tgt st) (h2 : ¬ x < y → hw_J K Wd kc ks g a c lv (pc + 3) st) : hw_J K Wd kc ks g a c lv pc (.int y :: .int x :: st) := by
  obtain ⟨p, l, e, R, s, m, args, below, meth, cd, Q, D, A, nL⟩ := K
  obtain ⟨rfl, rfl, rfl, rfl, hx, hb, hml, hown, hts, hK, hD, hA, hlk, hok, hX⟩ := F
  intro H locs ls hP hS hl
  exact lv_icmp_lt hx hb d ht (fun q => h1 q H locs ls hP hS hl) (fun q => h2 q H locs ls hP hS hl)
theorem hj_if_ge (F : hw_F K l D Wd tys X cc own Ts rm nL) {x : Int32} {off : Int} (tgt : Nat) (d : decode cc pc = .ok (.ifCond .ge off, 3)) (ht : (pc : Int) + off = (tgt : Int)) (h1 : 0 ≤ x → hw_J K Wd kc ks g a c lv tgt st) (h2 : ¬ 0 ≤ x → hw_J K Wd kc ks g a c lv (pc + 3) st) : hw_J K Wd kc ks g a c lv pc (.int x :: st) := by
  obtain ⟨p, l, e, R, s, m, args, below, meth, cd, Q, D, A, nL⟩ := K
  obtain ⟨rfl, rfl, rfl, rfl, hx, hb, hml, hown, hts, hK, hD, hA, hlk, hok, hX⟩ := F
  intro H locs ls hP hS hl
  exact lv_if_ge hx hb d ht (fun q => h1 q H locs ls hP hS hl) (fun q => h2 q H locs ls hP hS hl)
theorem hj_icmp_ge (F : hw_F K l D Wd tys X cc own Ts rm nL) {x y : Int32} {off : Int} (tgt : Nat) (d : decode cc pc = .ok (.if_icmp .ge off, 3)) (ht : (pc : Int) + off = (tgt : Int)) (h1 : y ≤ x → hw_J K Wd kc ks g a c lv tgt st) (h2 : ¬ y ≤ x → hw_J K Wd kc ks g a c lv (pc + 3) st) : hw_J K Wd kc ks g a c lv pc (.int y :: .int x :: st) := by
  obtain ⟨p, l, e, R, s, m, args, below, meth, cd, Q, D, A, nL⟩ := K
  obtain ⟨rfl, rfl, rfl, rfl, hx, hb, hml, hown, hts, hK, hD, hA, hlk, hok, hX⟩ := F
  intro H locs ls hP hS hl
  exact lv_icmp_ge hx hb d ht (fun q => h1 q H locs ls hP hS hl) (fun q => h2 q H locs ls hP hS hl)
theorem hj_if_gt (F : hw_F K l D Wd tys X cc own Ts rm nL) {x : Int32} {off : Int} (tgt : Nat) (d : decode cc pc = .ok (.ifCond .gt off, 3)) (ht : (pc : Int) + off = (tgt : Int)) (h1 : 0 < x → hw_J K Wd kc ks g a c lv tgt st) (h2 : ¬ 0 < x → hw_J K Wd kc ks g a c lv (pc + 3) st) : hw_J K Wd kc ks g a c lv pc (.int x :: st) := by
  obtain ⟨p, l, e, R, s, m, args, below, meth, cd, Q, D, A, nL⟩ := K
  obtain ⟨rfl, rfl, rfl, rfl, hx, hb, hml, hown, hts, hK, hD, hA, hlk, hok, hX⟩ := F
  intro H locs ls hP hS hl
  exact lv_if_gt hx hb d ht (fun q => h1 q H locs ls hP hS hl) (fun q => h2 q H locs ls hP hS hl)
theorem hj_icmp_gt (F : hw_F K l D Wd tys X cc own Ts rm nL) {x y : Int32} {off : Int} (tgt : Nat) (d : decode cc pc = .ok (.if_icmp .gt off, 3)) (ht : (pc : Int) + off = (tgt : Int)) (h1 : y < x → hw_J K Wd kc ks g a c lv tgt st) (h2 : ¬ y < x → hw_J K Wd kc ks g a c lv (pc + 3) st) : hw_J K Wd kc ks g a c lv pc (.int y :: .int x :: st) := by
  obtain ⟨p, l, e, R, s, m, args, below, meth, cd, Q, D, A, nL⟩ := K
  obtain ⟨rfl, rfl, rfl, rfl, hx, hb, hml, hown, hts, hK, hD, hA, hlk, hok, hX⟩ := F
  intro H locs ls hP hS hl
  exact lv_icmp_gt hx hb d ht (fun q => h1 q H locs ls hP hS hl) (fun q => h2 q H locs ls hP hS hl)
theorem hj_if_le (F : hw_F K l D Wd tys X cc own Ts rm nL) {x : Int32} {off : Int} (tgt : Nat) (d : decode cc pc = .ok (.ifCond .le off, 3)) (ht : (pc : Int) + off = (tgt : Int)) (h1 : x ≤ 0 → hw_J K Wd kc ks g a c lv tgt st) (h2 : ¬ x ≤ 0 → hw_J K Wd kc ks g a c lv (pc + 3) st) : hw_J K Wd kc ks g a c lv pc (.int x :: st) := by
  obtain ⟨p, l, e, R, s, m, args, below, meth, cd, Q, D, A, nL⟩ := K
  obtain ⟨rfl, rfl, rfl, rfl, hx, hb, hml, hown, hts, hK, hD, hA, hlk, hok, hX⟩ := F
  intro H locs ls hP hS hl
  exact lv_if_le hx hb d ht (fun q => h1 q H locs ls hP hS hl) (fun q => h2 q H locs ls hP hS hl)
theorem hj_icmp_le (F : hw_F K l D Wd tys X cc own Ts rm nL) {x y : Int32} {off : Int} (tgt : Nat) (d : decode cc pc = .ok (.if_icmp .le off, 3)) (ht : (pc : Int) + off = (tgt : Int)) (h1 : x ≤ y → hw_J K Wd kc ks g a c lv tgt st) (h2 : ¬ x ≤ y → hw_J K Wd kc ks g a c lv (pc + 3) st) : hw_J K Wd kc ks g a c lv pc (.int y :: .int x :: st) := by
  obtain ⟨p, l, e, R, s, m, args, below, meth, cd, Q, D, A, nL⟩ := K
  obtain ⟨rfl, rfl, rfl, rfl, hx, hb, hml, hown, hts, hK, hD, hA, hlk, hok, hX⟩ := F
  intro H locs ls hP hS hl
  exact lv_icmp_le hx hb d ht (fun q => h1 q H locs ls hP hS hl) (fun q => h2 q H locs ls hP hS hl)
theorem hj_tableOut (F : hw_F K l D Wd tys X cc own Ts rm nL) {dflt lo hi : Int} {offs : Array Int} {len : Nat} {x : Int32} (tgt : Nat) (d : decode cc pc = .ok (.tableswitch dflt lo hi offs, len)) (hq : x.toInt < lo ∨ hi < x.toInt) (ht : (pc : Int) + dflt = (tgt : Int)) (h : hw_J K Wd kc ks g a c lv tgt st) : hw_J K Wd kc ks g a c lv pc (.int x :: st) := by
  obtain ⟨p, l, e, R, s, m, args, below, meth, cd, Q, D, A, nL⟩ := K
  obtain ⟨rfl, rfl, rfl, rfl, hx, hb, hml, hown, hts, hK, hD, hA, hlk, hok, hX⟩ := F
  intro H locs ls hP hS hl
  exact lv_tableOut hx hb d hq ht (h H locs ls hP hS hl)
theorem hj_tableIn (F : hw_F K l D Wd tys X cc own Ts rm nL) {dflt lo hi : Int} {offs : Array Int} {len : Nat} {x : Int32} {off : Int} (tgt : Nat) (d : decode cc pc = .ok (.tableswitch dflt lo hi offs, len)) (q1 : ¬ x.toInt < lo) (q2 : ¬ hi < x.toInt) (ho : offs[(x.toInt - lo).toNat]? = some off) (ht : (pc : Int) + off = (tgt : Int)) (h : hw_J K Wd kc ks g a c lv tgt st) : hw_J K Wd kc ks g a c lv pc (.int x :: st) := by
  obtain ⟨p, l, e, R, s, m, args, below, meth, cd, Q, D, A, nL⟩ := K
  obtain ⟨rfl, rfl, rfl, rfl, hx, hb, hml, hown, hts, hK, hD, hA, hlk, hok, hX⟩ := F
  intro H locs ls hP hS hl
  exact lv_tableIn hx hb d q1 q2 ho ht (h H locs ls hP hS hl)
theorem hj_get (F : hw_F K l D Wd tys X cc own Ts rm nL) {index ci N : Nat} {C : String} {T : u_T} (hin : ∀ w ∈ u_ws C T N, w ∈ Ts) (q0 : Nat) {b : Nat} {fs : List Value} (he : (Wd g a c)[q0]? = some (b, .inr (ci, fs))) (hc : vwCl[ci]? = some (C, T, N)) (k : Nat) (hk : k < N) (hlink : Cond.fieldLink own index (T k).1 (T k).2.1 (T k).2.2.1 ∈ Ts) {v : Value} (hv : fs[k]? = some v) (d : decode cc pc = .ok (.getfield index, 3)) (h : hw_J K Wd kc ks g a c lv (pc + 3) (v :: st)) : hw_J K Wd kc ks g a c lv pc (.ref b :: st) := by
  obtain ⟨p, l, e, R, s, m, args, below, meth, cd, Q, D, A, nL⟩ := K
  obtain ⟨rfl, rfl, rfl, rfl, hx, hb, hml, hown, hts, hK, hD, hA, hlk, hok, hX⟩ := F
  intro H locs ls hP hS hl
  exact va_get hx hb hts hin hown hK hP q0 he hc k hk (hts _ hlink) (fun _ q => q) hv d (h H locs ls hP hS hl)
theorem hj_put (F : hw_F K l D Wd tys X cc own Ts rm nL) {index ci N : Nat} {C : String} {T : u_T} (hin : ∀ w ∈ u_ws C T N, w ∈ Ts) {ty0 : Nat → FieldType} (hty : ∀ k, k < N → parseFieldDescriptor (T k).2.2.1 = some (ty0 k)) (hnm : ∀ a, a < N → ∀ b, b < N → a ≠ b → (T a).2.1 ≠ (T b).2.1) (q0 : Nat) {b : Nat} {fs : List Value} (he : (Wd g a c)[q0]? = some (b, .inr (ci, fs))) (hc : vwCl[ci]? = some (C, T, N)) (k : Nat) (hk : k < N) (hlink : Cond.fieldLink own index (T k).1 (T k).2.1 (T k).2.2.1 ∈ Ts) (hfin : (T k).2.2.2 = false) {ty : FieldType} {v : Value} (hd : parseFieldDescriptor (T k).2.2.1 = some ty) (hn : narrow ty v = v) (hfit : fits ty v = true) (hl' : k < fs.length) {g' : hw_G} {c' : Int64} (hw : (Wd g a c).set q0 (b, .inr (ci, fs.set k v)) = Wd g' a c') (d : decode cc pc = .ok (.putfield index, 3)) (h : hw_J K Wd kc ks g' a c' lv (pc + 3) st) : hw_J K Wd kc ks g a c lv pc (v :: .ref b :: st) := by
  obtain ⟨p, l, e, R, s, m, args, below, meth, cd, Q, D, A, nL⟩ := K
  obtain ⟨rfl, rfl, rfl, rfl, hx, hb, hml, hown, hts, hK, hD, hA, hlk, hok, hX⟩ := F
  intro H locs ls hP hS hl
  exact va_put hx hb hts hin ty0 hty hnm hown hK hP (hD g a c) hS q0 he hc k hk (hts _ hlink) (fun _ q => q) hfin hd hn hfit hl' d (fun H1 locs1 hP1 hD1 hS1 => h H1 locs1 ls (by rw [← hw]; exact hP1) hS1 hl)
theorem hj_iald (F : hw_F K l D Wd tys X cc own Ts rm nL) (q0 t0 : Nat) {b : Nat} {cA : ClassId} {n : Nat} {f : Nat → Int32} (he : (Wd g a c)[q0]? = some (b, .inl (cA, n, .inl f))) (ht : tys[t0]? = some (cA, .int)) {i : Int32} (hin : vp_in i n) (d : decode cc pc = .ok (.iaload, 1)) (h : hw_J K Wd kc ks g a c lv (pc + 1) (.int (f i.toNatClampNeg) :: st)) : hw_J K Wd kc ks g a c lv pc (.int i :: .ref b :: st) := by
  obtain ⟨p, l, e, R, s, m, args, below, meth, cd, Q, D, A, nL⟩ := K
  obtain ⟨rfl, rfl, rfl, rfl, hx, hb, hml, hown, hts, hK, hD, hA, hlk, hok, hX⟩ := F
  intro H locs ls hP hS hl
  exact va_iald hx hb hK hP q0 t0 he ht hin d (h H locs ls hP hS hl)
theorem hj_iast (F : hw_F K l D Wd tys X cc own Ts rm nL) (q0 t0 : Nat) {b : Nat} {cA : ClassId} {n : Nat} {f : Nat → Int32} (he : (Wd g a c)[q0]? = some (b, .inl (cA, n, .inl f))) (ht : tys[t0]? = some (cA, .int)) {i x : Int32} (hin : vp_in i n) {a' : hw_A} (hw : (Wd g a c).set q0 (b, .inl (cA, n, .inl (upd f i.toNatClampNeg (x)))) = Wd g a' c) (d : decode cc pc = .ok (.iastore, 1)) (h : hw_J K Wd kc ks g a' c lv (pc + 1) st) : hw_J K Wd kc ks g a c lv pc (.int x :: .int i :: .ref b :: st) := by
  obtain ⟨p, l, e, R, s, m, args, below, meth, cd, Q, D, A, nL⟩ := K
  obtain ⟨rfl, rfl, rfl, rfl, hx, hb, hml, hown, hts, hK, hD, hA, hlk, hok, hX⟩ := F
  intro H locs ls hP hS hl
  exact va_iast hx hb hK hP (hD g a c) hS q0 t0 he ht hin d (fun H1 locs1 hP1 hD1 hS1 => h H1 locs1 ls (by rw [← hw]; exact hP1) hS1 hl)
theorem hj_bald (F : hw_F K l D Wd tys X cc own Ts rm nL) (q0 t0 : Nat) {b : Nat} {cA : ClassId} {n : Nat} {f : Nat → Int32} (he : (Wd g a c)[q0]? = some (b, .inl (cA, n, .inl f))) (ht : tys[t0]? = some (cA, .byte)) {i : Int32} (hin : vp_in i n) (d : decode cc pc = .ok (.baload, 1)) (h : hw_J K Wd kc ks g a c lv (pc + 1) (.int (f i.toNatClampNeg) :: st)) : hw_J K Wd kc ks g a c lv pc (.int i :: .ref b :: st) := by
  obtain ⟨p, l, e, R, s, m, args, below, meth, cd, Q, D, A, nL⟩ := K
  obtain ⟨rfl, rfl, rfl, rfl, hx, hb, hml, hown, hts, hK, hD, hA, hlk, hok, hX⟩ := F
  intro H locs ls hP hS hl
  exact va_bald hx hb hK hP q0 t0 he ht hin d (h H locs ls hP hS hl)
theorem hj_bast (F : hw_F K l D Wd tys X cc own Ts rm nL) (q0 t0 : Nat) {b : Nat} {cA : ClassId} {n : Nat} {f : Nat → Int32} (he : (Wd g a c)[q0]? = some (b, .inl (cA, n, .inl f))) (ht : tys[t0]? = some (cA, .byte)) {i x : Int32} (hin : vp_in i n) {a' : hw_A} (hw : (Wd g a c).set q0 (b, .inl (cA, n, .inl (upd f i.toNatClampNeg (vp_nar .byte x)))) = Wd g a' c) (d : decode cc pc = .ok (.bastore, 1)) (h : hw_J K Wd kc ks g a' c lv (pc + 1) st) : hw_J K Wd kc ks g a c lv pc (.int x :: .int i :: .ref b :: st) := by
  obtain ⟨p, l, e, R, s, m, args, below, meth, cd, Q, D, A, nL⟩ := K
  obtain ⟨rfl, rfl, rfl, rfl, hx, hb, hml, hown, hts, hK, hD, hA, hlk, hok, hX⟩ := F
  intro H locs ls hP hS hl
  exact va_bast hx hb hK hP (hD g a c) hS q0 t0 he ht hin d (fun H1 locs1 hP1 hD1 hS1 => h H1 locs1 ls (by rw [← hw]; exact hP1) hS1 hl)
theorem hj_zald (F : hw_F K l D Wd tys X cc own Ts rm nL) (q0 t0 : Nat) {b : Nat} {cA : ClassId} {n : Nat} {f : Nat → Int32} (he : (Wd g a c)[q0]? = some (b, .inl (cA, n, .inl f))) (ht : tys[t0]? = some (cA, .boolean)) {i : Int32} (hin : vp_in i n) (d : decode cc pc = .ok (.baload, 1)) (h : hw_J K Wd kc ks g a c lv (pc + 1) (.int (f i.toNatClampNeg) :: st)) : hw_J K Wd kc ks g a c lv pc (.int i :: .ref b :: st) := by
  obtain ⟨p, l, e, R, s, m, args, below, meth, cd, Q, D, A, nL⟩ := K
  obtain ⟨rfl, rfl, rfl, rfl, hx, hb, hml, hown, hts, hK, hD, hA, hlk, hok, hX⟩ := F
  intro H locs ls hP hS hl
  exact va_zald hx hb hK hP q0 t0 he ht hin d (h H locs ls hP hS hl)
theorem hj_zast (F : hw_F K l D Wd tys X cc own Ts rm nL) (q0 t0 : Nat) {b : Nat} {cA : ClassId} {n : Nat} {f : Nat → Int32} (he : (Wd g a c)[q0]? = some (b, .inl (cA, n, .inl f))) (ht : tys[t0]? = some (cA, .boolean)) {i x : Int32} (hin : vp_in i n) {a' : hw_A} (hw : (Wd g a c).set q0 (b, .inl (cA, n, .inl (upd f i.toNatClampNeg (vp_nar .boolean x)))) = Wd g a' c) (d : decode cc pc = .ok (.bastore, 1)) (h : hw_J K Wd kc ks g a' c lv (pc + 1) st) : hw_J K Wd kc ks g a c lv pc (.int x :: .int i :: .ref b :: st) := by
  obtain ⟨p, l, e, R, s, m, args, below, meth, cd, Q, D, A, nL⟩ := K
  obtain ⟨rfl, rfl, rfl, rfl, hx, hb, hml, hown, hts, hK, hD, hA, hlk, hok, hX⟩ := F
  intro H locs ls hP hS hl
  exact va_zast hx hb hK hP (hD g a c) hS q0 t0 he ht hin d (fun H1 locs1 hP1 hD1 hS1 => h H1 locs1 ls (by rw [← hw]; exact hP1) hS1 hl)
theorem hj_aald (F : hw_F K l D Wd tys X cc own Ts rm nL) (q0 t0 : Nat) {b : Nat} {cA : ClassId} {ty : FieldType} {n : Nat} {f : Nat → Option Nat} (he : (Wd g a c)[q0]? = some (b, .inl (cA, n, .inr (.inr (.inr (.inr f)))))) (ht : tys[t0]? = some (cA, .array ty)) {i : Int32} (hin : vp_in i n) {r : Nat} (hr : f i.toNatClampNeg = some r) (d : decode cc pc = .ok (.aaload, 1)) (h : hw_J K Wd kc ks g a c lv (pc + 1) (.ref r :: st)) : hw_J K Wd kc ks g a c lv pc (.int i :: .ref b :: st) := by
  obtain ⟨p, l, e, R, s, m, args, below, meth, cd, Q, D, A, nL⟩ := K
  obtain ⟨rfl, rfl, rfl, rfl, hx, hb, hml, hown, hts, hK, hD, hA, hlk, hok, hX⟩ := F
  intro H locs ls hP hS hl
  have hlt : i.toNatClampNeg < n := Nat.not_le.mp fun q => hin (Or.inr q)
  exact W.aald (v := .ref r) (ty := .array ty) hx hb (hP q0 _ he) ((hK.2 t0 _ ht).1 n (fun j => va_rf (f j))) rfl (fun q => by cases q) (by show ¬ (i < 0 ∨ (arrV _ _ _).slots.size ≤ _); rw [arrV_size]; exact hin) (by show (arrV _ _ _).slots[_]? = _; rw [arrV_read _ _ hlt, hr]; rfl) rfl rfl d (h H locs ls hP hS hl)
theorem hj_mmax (F : hw_F K l D Wd tys X cc own Ts rm nL) {index : Nat} {x y : Int32} (h1 : Cond.methodLink own index Lib.Math.max.name ∈ Ts) (h2 : Cond.static Lib.Math.max.name ∈ Ts) (h3 : Cond.initialized "java/lang/Math" ∈ Ts) (h4 : Cond.code Lib.Math.max.name Lib.Math.max.code 2 (some .int) ∈ Ts) (hf : 1 ≤ rm.frames) (hlo : (st.map fun v => v.category).sum + 13 ≤ rm.locals) (hc : kc ≤ rm.cells) (hs : ks ≤ rm.slots) (d : decode cc pc = .ok (.invokestatic index, 3)) (h : hw_J K Wd kc ks g a c lv (pc + 3) (.int (if x < y then y else x) :: st)) : hw_J K Wd kc ks g a c lv pc (.int y :: .int x :: st) := by
  obtain ⟨p, l, e, R, s, m, args, below, meth, cd, Q, D, A, nL⟩ := K
  obtain ⟨rfl, rfl, rfl, rfl, hx, hb, hml, hown, hts, hK, hD, hA, hlk, hok, hX⟩ := F
  intro H locs ls hP hS hl
  exact va_mmax hx hb (hml.trans hl.1.symm) hown (hts _ h1) (hts _ h2) (hts _ h3) (hts _ h4) hf hlo hc hs d (h H locs ls hP hS hl)
theorem hj_mmin (F : hw_F K l D Wd tys X cc own Ts rm nL) {index : Nat} {x y : Int32} (h1 : Cond.methodLink own index Lib.Math.min.name ∈ Ts) (h2 : Cond.static Lib.Math.min.name ∈ Ts) (h3 : Cond.initialized "java/lang/Math" ∈ Ts) (h4 : Cond.code Lib.Math.min.name Lib.Math.min.code 2 (some .int) ∈ Ts) (hf : 1 ≤ rm.frames) (hlo : (st.map fun v => v.category).sum + 13 ≤ rm.locals) (hc : kc ≤ rm.cells) (hs : ks ≤ rm.slots) (d : decode cc pc = .ok (.invokestatic index, 3)) (h : hw_J K Wd kc ks g a c lv (pc + 3) (.int (if y < x then y else x) :: st)) : hw_J K Wd kc ks g a c lv pc (.int y :: .int x :: st) := by
  obtain ⟨p, l, e, R, s, m, args, below, meth, cd, Q, D, A, nL⟩ := K
  obtain ⟨rfl, rfl, rfl, rfl, hx, hb, hml, hown, hts, hK, hD, hA, hlk, hok, hX⟩ := F
  intro H locs ls hP hS hl
  exact va_mmin hx hb (hml.trans hl.1.symm) hown (hts _ h1) (hts _ h2) (hts _ h3) (hts _ h4) hf hlo hc hs d (h H locs ls hP hS hl)
theorem hj_w {kc1 ks1 : Nat} (h1 : kc ≤ kc1) (h2 : ks ≤ ks1) (h : hw_J K Wd kc1 ks1 g a c lv pc st) : hw_J K Wd kc ks g a c lv pc st := by
  obtain ⟨p, l, e, R, s, m, args, below, meth, cd, Q, D, A, nL⟩ := K
  intro H locs ls hP hS hl
  exact W.widen h1 h2 (h H locs ls hP hS hl)
theorem hj_lv {lv' : List (Nat × Value)} (ks' : List Nat) (hs : lv_pick lv ks' = lv') (h : hw_J K Wd kc ks g a c lv' pc st) : hw_J K Wd kc ks g a c lv pc st := by
  obtain ⟨p, l, e, R, s, m, args, below, meth, cd, Q, D, A, nL⟩ := K
  intro H locs ls hP hS hl
  exact h H locs ls hP hS (lv_sub hl ks' hs)
end HWR
end
section
/-! CONTRACTS over one object graph, their entry, their calls -/
abbrev hw_S : Type := hw_G × hw_A × Int64
def hw_Pre (D : va_G) (Wd : hw_W) (tys : List (ClassId × FieldType)) (X : hw_XT) (g : hw_G) (a : hw_A) (c : Int64) (sz : Nat) : State → Prop := fun U => U.heap.size = sz ∧ va_P D vwCl (Wd g a c) U.heap ∧ va_K D vwCl tys U ∧ va_D (fun _ => True) (Wd g a c) ∧ X (va_A (Wd g a c) sz) U U.heap
/-- the addresses don't change -/
def hw_ads (Wd : hw_W) : Prop := ∀ (g : hw_G) (a : hw_A) (c : Int64) (g' : hw_G) (a' : hw_A) (c' : Int64), (Wd g a c).map (·.1) = (Wd g' a' c').map (·.1)
theorem hw_adr {ws ws' : va_W} (he : ws.map (·.1) = ws'.map (·.1)) {k : Nat} {q : Nat × va_E} (h : ws'[k]? = some q) : ∃ q0 : Nat × va_E, ws[k]? = some q0 ∧ q0.1 = q.1 := by
  have h1 : (ws.map (·.1))[k]? = some q.1 := by rw [he, List.getElem?_map, h]; rfl
  rw [List.getElem?_map] at h1
  cases h2 : ws[k]? with
  | none => rw [h2] at h1; cases h1
  | some z => rw [h2] at h1; exact ⟨z, rfl, Option.some.inj h1⟩
theorem hw_D {A : Nat → Prop} {ws ws' : va_W} (hD : va_D A ws) (he : ws.map (·.1) = ws'.map (·.1)) : va_D A ws' := by
  refine ⟨fun i j p q hi hj e => ?_, fun k q hk => ?_⟩
  · obtain ⟨p0, h1, e1⟩ := hw_adr he hi
    obtain ⟨q0, h2, e2⟩ := hw_adr he hj
    exact hD.1 i j p0 q0 h1 h2 (by rw [e1, e2]; exact e)
  · obtain ⟨q0, h1, e1⟩ := hw_adr he hk
    rw [← e1]
    exact hD.2 k q0 h1
theorem hw_blind {D : va_G} {Wd : hw_W} {tys : List (ClassId × FieldType)} {X : hw_XT} {g : hw_G} {a : hw_A} {c : Int64} {sz : Nat} {av : List Value} (hok : hw_XOK X) : FrameBlind (va_Pc av (hw_Pre D Wd tys X g a c sz)) := fun b U f mk q => by
  obtain ⟨q0, q1, q2, q3, q4, q5⟩ := q
  exact ⟨q0, q1, q2, va_K.moved (u := U) (U := U.calling f mk b) (Vm.Alike.refl U.vm) q3, q4, hok.2.2.2 _ _ _ _ _ _ q5⟩
def hw_Ci (l : Launch) (D : va_G) (Wd : hw_W) (tys : List (ClassId × FieldType)) (X : hw_XT) (y : MethodName) (ws : List Cond) (rm : Room) (av : List Value) (g : hw_G) (a : hw_A) (c : Int64) (P : Int32 → hw_G → hw_A → Int64 → Prop) : Prop :=
  ∀ sz : Nat, Met l y ws rm (va_Pc av (hw_Pre D Wd tys X g a c sz)) (va_Qi (S := hw_S) (fun r u => P r u.1 u.2.1 u.2.2) (fun u t => va_P D vwCl (Wd u.1 u.2.1 u.2.2) t.heap) (va_A (Wd g a c) sz)) 0 0 (va_A (Wd g a c) sz)
theorem hw_Ci.mk {l : Launch} {D : va_G} {Wd : hw_W} {tys : List (ClassId × FieldType)} {X : hw_XT} {y : MethodName} {ws ws' : List Cond} {rm : Room} {av : List Value} {g : hw_G} {a : hw_A} {c : Int64} {P : Int32 → hw_G → hw_A → Int64 → Prop} {cc : ByteArray} {nL : Nat} {ty : FieldType} {lv0 : List (Nat × Value)}
    (hy : plainName y.cls = true) (hw : ws = Cond.code y cc nL (some ty) :: ws') (hav : (lg_sl av).length ≤ nL) (hlv : lv_args 0 av = lv0) (hWd : hw_ads Wd) (hok : hw_XOK X)
    (body : ∀ K : hw_K, hw_F K l D Wd tys X cc y.cls ws rm nL → (∀ {g' : hw_G} {a' : hw_A} {c' : Int64} {lv : List (Nat × Value)} {pc : Nat} {v : Int32}, decode cc pc = .ok (.ireturn, 1) → narrow ty (.int v) = .int v → P v g' a' c' → hw_J K Wd 0 0 g' a' c' lv pc [.int v]) → hw_J K Wd 0 0 g a c lv0 0 []) : hw_Ci l D Wd tys X y ws rm av g a c P := by
  intro sz
  refine Met.ofW (cc := cc) (maxL := nL) (ret := (some ty)) hy hw ?_
  intro p e s m args below meth cd s₁ B hml hv
  obtain ⟨rfl, hsz, hP, hK, hD0, hX⟩ := hv
  have hx := B.exec
  have hb := B.bytes
  have hr := B.returns
  have hts := atoms_spec (ws := ws) B.pre
  have hown : s.vm.findClass y.cls = some m.cls := findClass_of_methodNamed B.named
  have hlocks := B.notSynchronized
  subst hsz
  have hD := hD0.self (sz := s.heap.size)
  rw [lg_entry_eq]
  have hl := lv_entry av (n := nL) hav
  rw [hlv] at hl
  exact body (p, l, e, rm, s, m, av.toArray, below, meth, cd, _, D, va_A (Wd g a c) s.heap.size, nL) ⟨rfl, rfl, rfl, rfl, hx, hb, hml, hown, hts, hK, fun g' a' c' => hw_D hD (hWd g a c g' a' c'), fun q h => Or.inr h, hlocks, hok, hX⟩
    (fun {g' a' c' lv pc v} d hn hp H locs ls hP hS hl => W.zret hx hb hr hn (fun t ht hW => ⟨⟨v, (g', a', c'), rfl, hp, by show va_P _ _ _ t.heap; rw [ht]; exact hP⟩, hS.F ht⟩) hS.2.2 d hlocks) s.heap [] _ hP va_S.rf hl
def hw_Cl (l : Launch) (D : va_G) (Wd : hw_W) (tys : List (ClassId × FieldType)) (X : hw_XT) (y : MethodName) (ws : List Cond) (rm : Room) (av : List Value) (g : hw_G) (a : hw_A) (c : Int64) (P : Int64 → hw_G → hw_A → Int64 → Prop) : Prop :=
  ∀ sz : Nat, Met l y ws rm (va_Pc av (hw_Pre D Wd tys X g a c sz)) (va_Ql (S := hw_S) (fun r u => P r u.1 u.2.1 u.2.2) (fun u t => va_P D vwCl (Wd u.1 u.2.1 u.2.2) t.heap) (va_A (Wd g a c) sz)) 0 0 (va_A (Wd g a c) sz)
theorem hw_Cl.mk {l : Launch} {D : va_G} {Wd : hw_W} {tys : List (ClassId × FieldType)} {X : hw_XT} {y : MethodName} {ws ws' : List Cond} {rm : Room} {av : List Value} {g : hw_G} {a : hw_A} {c : Int64} {P : Int64 → hw_G → hw_A → Int64 → Prop} {cc : ByteArray} {nL : Nat} {lv0 : List (Nat × Value)}
    (hy : plainName y.cls = true) (hw : ws = Cond.code y cc nL (some .long) :: ws') (hav : (lg_sl av).length ≤ nL) (hlv : lv_args 0 av = lv0) (hWd : hw_ads Wd) (hok : hw_XOK X)
    (body : ∀ K : hw_K, hw_F K l D Wd tys X cc y.cls ws rm nL → (∀ {g' : hw_G} {a' : hw_A} {c' : Int64} {lv : List (Nat × Value)} {pc : Nat} {v : Int64}, decode cc pc = .ok (.lreturn, 1) → P v g' a' c' → hw_J K Wd 0 0 g' a' c' lv pc [.long v]) → hw_J K Wd 0 0 g a c lv0 0 []) : hw_Cl l D Wd tys X y ws rm av g a c P := by
  intro sz
  refine Met.ofW (cc := cc) (maxL := nL) (ret := (some .long)) hy hw ?_
  intro p e s m args below meth cd s₁ B hml hv
  obtain ⟨rfl, hsz, hP, hK, hD0, hX⟩ := hv
  have hx := B.exec
  have hb := B.bytes
  have hr := B.returns
  have hts := atoms_spec (ws := ws) B.pre
  have hown : s.vm.findClass y.cls = some m.cls := findClass_of_methodNamed B.named
  have hlocks := B.notSynchronized
  subst hsz
  have hD := hD0.self (sz := s.heap.size)
  rw [lg_entry_eq]
  have hl := lv_entry av (n := nL) hav
  rw [hlv] at hl
  exact body (p, l, e, rm, s, m, av.toArray, below, meth, cd, _, D, va_A (Wd g a c) s.heap.size, nL) ⟨rfl, rfl, rfl, rfl, hx, hb, hml, hown, hts, hK, fun g' a' c' => hw_D hD (hWd g a c g' a' c'), fun q h => Or.inr h, hlocks, hok, hX⟩
    (fun {g' a' c' lv pc v} d hp H locs ls hP hS hl => W.lret hx hb hr (fun t ht hW => ⟨⟨v, (g', a', c'), rfl, hp, by show va_P _ _ _ t.heap; rw [ht]; exact hP⟩, hS.F ht⟩) hS.2.2 d hlocks) s.heap [] _ hP va_S.rf hl
def hw_Cv (l : Launch) (D : va_G) (Wd : hw_W) (tys : List (ClassId × FieldType)) (X : hw_XT) (y : MethodName) (ws : List Cond) (rm : Room) (av : List Value) (g : hw_G) (a : hw_A) (c : Int64) (P : hw_G → hw_A → Int64 → Prop) : Prop :=
  ∀ sz : Nat, Met l y ws rm (va_Pc av (hw_Pre D Wd tys X g a c sz)) (va_Qv (S := hw_S) (fun u => P u.1 u.2.1 u.2.2) (fun u t => va_P D vwCl (Wd u.1 u.2.1 u.2.2) t.heap) (va_A (Wd g a c) sz)) 0 0 (va_A (Wd g a c) sz)
theorem hw_Cv.mk {l : Launch} {D : va_G} {Wd : hw_W} {tys : List (ClassId × FieldType)} {X : hw_XT} {y : MethodName} {ws ws' : List Cond} {rm : Room} {av : List Value} {g : hw_G} {a : hw_A} {c : Int64} {P : hw_G → hw_A → Int64 → Prop} {cc : ByteArray} {nL : Nat} {lv0 : List (Nat × Value)}
    (hy : plainName y.cls = true) (hw : ws = Cond.code y cc nL none :: ws') (hav : (lg_sl av).length ≤ nL) (hlv : lv_args 0 av = lv0) (hWd : hw_ads Wd) (hok : hw_XOK X)
    (body : ∀ K : hw_K, hw_F K l D Wd tys X cc y.cls ws rm nL → (∀ {g' : hw_G} {a' : hw_A} {c' : Int64} {lv : List (Nat × Value)} {pc : Nat}, decode cc pc = .ok (.return_, 1) → P g' a' c' → hw_J K Wd 0 0 g' a' c' lv pc []) → hw_J K Wd 0 0 g a c lv0 0 []) : hw_Cv l D Wd tys X y ws rm av g a c P := by
  intro sz
  refine Met.ofW (cc := cc) (maxL := nL) (ret := none) hy hw ?_
  intro p e s m args below meth cd s₁ B hml hv
  obtain ⟨rfl, hsz, hP, hK, hD0, hX⟩ := hv
  have hx := B.exec
  have hb := B.bytes
  have hr := B.returns
  have hts := atoms_spec (ws := ws) B.pre
  have hown : s.vm.findClass y.cls = some m.cls := findClass_of_methodNamed B.named
  have hlocks := B.notSynchronized
  subst hsz
  have hD := hD0.self (sz := s.heap.size)
  rw [lg_entry_eq]
  have hl := lv_entry av (n := nL) hav
  rw [hlv] at hl
  exact body (p, l, e, rm, s, m, av.toArray, below, meth, cd, _, D, va_A (Wd g a c) s.heap.size, nL) ⟨rfl, rfl, rfl, rfl, hx, hb, hml, hown, hts, hK, fun g' a' c' => hw_D hD (hWd g a c g' a' c'), fun q h => Or.inr h, hlocks, hok, hX⟩
    (fun {g' a' c' lv pc} d hp H locs ls hP hS hl => W.vret hx hb hr (fun t ht hW => ⟨⟨(g', a', c'), rfl, hp, by show va_P _ _ _ t.heap; rw [ht]; exact hP⟩, hS.F ht⟩) hS.2.2 d hlocks) s.heap [] _ hP va_S.rf hl
section HWC
variable {K : hw_K} {l : Launch} {D : va_G} {Wd : hw_W} {tys : List (ClassId × FieldType)} {X : hw_XT} {cc : ByteArray} {own : String} {Ts : List Cond} {rm : Room} {nL : Nat} {kc ks : Nat} {g : hw_G} {a : hw_A} {c : Int64} {lv : List (Nat × Value)} {pc : Nat} {st : List Value}
variable {y : MethodName} {ws1 ws2 : List Cond} {rm1 : Room} {bytes : ByteArray} {maxL n index b : Nat} {ret : Option FieldType} {C host : String} {As st0 : List Value}
theorem hj_cVi (F : hw_F K l D Wd tys X cc own Ts rm nL) {P : Int32 → hw_G → hw_A → Int64 → Prop} (hC : hw_Ci l D Wd tys X y ws1 rm1 (.ref b :: As) g a c P) (hG : GoodIn Ts (wsV own index C y ws1)) (hw : ws1 = Cond.code y bytes maxL ret :: ws2) (hz : rm1.cells = 0 ∧ rm1.slots = 0) (hd : y.cls = C ∧ y.cls ≠ "java/lang/invoke/MethodHandle" ∧ y.cls ≠ "java/lang/invoke/VarHandle" ∧ (parseMethodDescriptor y.desc).map (fun d => d.parameters.length) = some n) (hR : rm1.frames + 1 ≤ rm.frames ∧ 8 + (maxL + 11) + rm1.locals ≤ rm.locals) (q0 ci : Nat) {fs : List Value} (he : (Wd g a c)[q0]? = some (b, .inr (ci, fs))) {T : u_T} {N : Nat} (hc : vwCl[ci]? = some (C, T, N)) (hn : As.length = n) (hst : st0 = As.reverse ++ .ref b :: st) (hW8 : (st.map fun v => v.category).sum ≤ 8) (hcs : kc ≤ rm.cells ∧ ks ≤ rm.slots) (d : decode cc pc = .ok (.invokevirtual index, 3))
    (h : ∀ r g' a' c', P r g' a' c' → hw_J K Wd kc ks g' a' c' lv (pc + 3) (.int r :: st)) : hw_J K Wd kc ks g a c lv pc st0 := by
  obtain ⟨p, l, e, R, s, m, args, below, meth, cd, Q, D, A, nL⟩ := K
  obtain ⟨rfl, rfl, rfl, rfl, hx, hb, hml, hown, hts, hK, hD, hA, hlk, hok, hX⟩ := F
  intro H locs ls hP hS hl
  have hfree : ∀ q, va_A (Wd g a c) H.size q → A q := fun q hq => hq.elim (fun ⟨k, e, hk⟩ => (hD g a c).2 k _ hk) (fun h => hA q (Nat.le_trans hS.1 h))
  have hXf : ∀ U : State, s.WarmedH U.vm → X (va_A (Wd g a c) H.size) U H := fun U hW => hok.2.2.1 _ _ _ _ (hok.1 _ _ _ _ hW (hok.2.1 _ _ _ _ hX hS.2.1)) hfree
  subst hst
  exact va_calli (S := hw_S) (va_runV (As := As) (rest := st) ⟨hx, hb, hml, hown, hts⟩ (hC H.size) (cwV n hts hG hw hz.1 hz.2 hd hR) ⟨hw_blind hok, va_recv hK hP hc he, fun U hU hW => ⟨rfl, by rw [hU], by rw [hU]; exact hP, va_K.moved hW.alike hK, (hD g a c).weaken (fun _ _ _ _ => trivial), by rw [hU]; exact hXf U hW⟩⟩ rfl hn hl.1 rfl (lv_room hW8) d ⟨hcs.1, hcs.2⟩) hS (fun q _ hq => hfree q hq) hfree (fun r u t H1 locs1 ht hvm hw hB hz1 hk1 hS1 => h r u.1 u.2.1 u.2.2 hw H1 locs1 ls (by rw [← ht]; exact hB) hS1 hl)
theorem hj_cVl (F : hw_F K l D Wd tys X cc own Ts rm nL) {P : Int64 → hw_G → hw_A → Int64 → Prop} (hC : hw_Cl l D Wd tys X y ws1 rm1 (.ref b :: As) g a c P) (hG : GoodIn Ts (wsV own index C y ws1)) (hw : ws1 = Cond.code y bytes maxL ret :: ws2) (hz : rm1.cells = 0 ∧ rm1.slots = 0) (hd : y.cls = C ∧ y.cls ≠ "java/lang/invoke/MethodHandle" ∧ y.cls ≠ "java/lang/invoke/VarHandle" ∧ (parseMethodDescriptor y.desc).map (fun d => d.parameters.length) = some n) (hR : rm1.frames + 1 ≤ rm.frames ∧ 8 + (maxL + 11) + rm1.locals ≤ rm.locals) (q0 ci : Nat) {fs : List Value} (he : (Wd g a c)[q0]? = some (b, .inr (ci, fs))) {T : u_T} {N : Nat} (hc : vwCl[ci]? = some (C, T, N)) (hn : As.length = n) (hst : st0 = As.reverse ++ .ref b :: st) (hW8 : (st.map fun v => v.category).sum ≤ 8) (hcs : kc ≤ rm.cells ∧ ks ≤ rm.slots) (d : decode cc pc = .ok (.invokevirtual index, 3))
    (h : ∀ r g' a' c', P r g' a' c' → hw_J K Wd kc ks g' a' c' lv (pc + 3) (.long r :: st)) : hw_J K Wd kc ks g a c lv pc st0 := by
  obtain ⟨p, l, e, R, s, m, args, below, meth, cd, Q, D, A, nL⟩ := K
  obtain ⟨rfl, rfl, rfl, rfl, hx, hb, hml, hown, hts, hK, hD, hA, hlk, hok, hX⟩ := F
  intro H locs ls hP hS hl
  have hfree : ∀ q, va_A (Wd g a c) H.size q → A q := fun q hq => hq.elim (fun ⟨k, e, hk⟩ => (hD g a c).2 k _ hk) (fun h => hA q (Nat.le_trans hS.1 h))
  have hXf : ∀ U : State, s.WarmedH U.vm → X (va_A (Wd g a c) H.size) U H := fun U hW => hok.2.2.1 _ _ _ _ (hok.1 _ _ _ _ hW (hok.2.1 _ _ _ _ hX hS.2.1)) hfree
  subst hst
  exact va_calll (S := hw_S) (va_runV (As := As) (rest := st) ⟨hx, hb, hml, hown, hts⟩ (hC H.size) (cwV n hts hG hw hz.1 hz.2 hd hR) ⟨hw_blind hok, va_recv hK hP hc he, fun U hU hW => ⟨rfl, by rw [hU], by rw [hU]; exact hP, va_K.moved hW.alike hK, (hD g a c).weaken (fun _ _ _ _ => trivial), by rw [hU]; exact hXf U hW⟩⟩ rfl hn hl.1 rfl (lv_room hW8) d ⟨hcs.1, hcs.2⟩) hS (fun q _ hq => hfree q hq) hfree (fun r u t H1 locs1 ht hvm hw hB hz1 hk1 hS1 => h r u.1 u.2.1 u.2.2 hw H1 locs1 ls (by rw [← ht]; exact hB) hS1 hl)
theorem hj_cVv (F : hw_F K l D Wd tys X cc own Ts rm nL) {P : hw_G → hw_A → Int64 → Prop} (hC : hw_Cv l D Wd tys X y ws1 rm1 (.ref b :: As) g a c P) (hG : GoodIn Ts (wsV own index C y ws1)) (hw : ws1 = Cond.code y bytes maxL ret :: ws2) (hz : rm1.cells = 0 ∧ rm1.slots = 0) (hd : y.cls = C ∧ y.cls ≠ "java/lang/invoke/MethodHandle" ∧ y.cls ≠ "java/lang/invoke/VarHandle" ∧ (parseMethodDescriptor y.desc).map (fun d => d.parameters.length) = some n) (hR : rm1.frames + 1 ≤ rm.frames ∧ 8 + (maxL + 11) + rm1.locals ≤ rm.locals) (q0 ci : Nat) {fs : List Value} (he : (Wd g a c)[q0]? = some (b, .inr (ci, fs))) {T : u_T} {N : Nat} (hc : vwCl[ci]? = some (C, T, N)) (hn : As.length = n) (hst : st0 = As.reverse ++ .ref b :: st) (hW8 : (st.map fun v => v.category).sum ≤ 8) (hcs : kc ≤ rm.cells ∧ ks ≤ rm.slots) (d : decode cc pc = .ok (.invokevirtual index, 3))
    (h : ∀ g' a' c', P g' a' c' → hw_J K Wd kc ks g' a' c' lv (pc + 3) st) : hw_J K Wd kc ks g a c lv pc st0 := by
  obtain ⟨p, l, e, R, s, m, args, below, meth, cd, Q, D, A, nL⟩ := K
  obtain ⟨rfl, rfl, rfl, rfl, hx, hb, hml, hown, hts, hK, hD, hA, hlk, hok, hX⟩ := F
  intro H locs ls hP hS hl
  have hfree : ∀ q, va_A (Wd g a c) H.size q → A q := fun q hq => hq.elim (fun ⟨k, e, hk⟩ => (hD g a c).2 k _ hk) (fun h => hA q (Nat.le_trans hS.1 h))
  have hXf : ∀ U : State, s.WarmedH U.vm → X (va_A (Wd g a c) H.size) U H := fun U hW => hok.2.2.1 _ _ _ _ (hok.1 _ _ _ _ hW (hok.2.1 _ _ _ _ hX hS.2.1)) hfree
  subst hst
  exact va_callv (S := hw_S) (va_runV (As := As) (rest := st) ⟨hx, hb, hml, hown, hts⟩ (hC H.size) (cwV n hts hG hw hz.1 hz.2 hd hR) ⟨hw_blind hok, va_recv hK hP hc he, fun U hU hW => ⟨rfl, by rw [hU], by rw [hU]; exact hP, va_K.moved hW.alike hK, (hD g a c).weaken (fun _ _ _ _ => trivial), by rw [hU]; exact hXf U hW⟩⟩ rfl hn hl.1 rfl (lv_room hW8) d ⟨hcs.1, hcs.2⟩) hS (fun q _ hq => hfree q hq) hfree (fun u t H1 locs1 ht hvm hw hB hz1 hk1 hS1 => h u.1 u.2.1 u.2.2 hw H1 locs1 ls (by rw [← ht]; exact hB) hS1 hl)
theorem hj_cSi (F : hw_F K l D Wd tys X cc own Ts rm nL) {P : Int32 → hw_G → hw_A → Int64 → Prop} (hC : hw_Ci l D Wd tys X y ws1 rm1 As g a c P) (hG : GoodIn Ts (va_wsS own index y ws1)) (hw : ws1 = Cond.code y bytes maxL ret :: ws2) (hz : rm1.cells = 0 ∧ rm1.slots = 0) (hd : y.cls ≠ "java/lang/invoke/MethodHandle" ∧ y.cls ≠ "java/lang/invoke/VarHandle" ∧ (parseMethodDescriptor y.desc).map (fun d => d.parameters.length) = some n) (hR : rm1.frames + 1 ≤ rm.frames ∧ 8 + (maxL + 11) + rm1.locals ≤ rm.locals) (hn : As.length = n) (hst : st0 = As.reverse ++ st) (hW8 : (st.map fun v => v.category).sum ≤ 8) (hcs : kc ≤ rm.cells ∧ ks ≤ rm.slots) (d : decode cc pc = .ok (.invokestatic index, 3))
    (h : ∀ r g' a' c', P r g' a' c' → hw_J K Wd kc ks g' a' c' lv (pc + 3) (.int r :: st)) : hw_J K Wd kc ks g a c lv pc st0 := by
  obtain ⟨p, l, e, R, s, m, args, below, meth, cd, Q, D, A, nL⟩ := K
  obtain ⟨rfl, rfl, rfl, rfl, hx, hb, hml, hown, hts, hK, hD, hA, hlk, hok, hX⟩ := F
  intro H locs ls hP hS hl
  have hfree : ∀ q, va_A (Wd g a c) H.size q → A q := fun q hq => hq.elim (fun ⟨k, e, hk⟩ => (hD g a c).2 k _ hk) (fun h => hA q (Nat.le_trans hS.1 h))
  have hXf : ∀ U : State, s.WarmedH U.vm → X (va_A (Wd g a c) H.size) U H := fun U hW => hok.2.2.1 _ _ _ _ (hok.1 _ _ _ _ hW (hok.2.1 _ _ _ _ hX hS.2.1)) hfree
  subst hst
  exact va_calli (S := hw_S) (va_runS (As := As) (rest := st) ⟨hx, hb, hml, hown, hts⟩ (hC H.size) (va_cwS n hts hG hw hz.1 hz.2 hd hR) ⟨hw_blind hok, fun U hU hW => ⟨rfl, by rw [hU], by rw [hU]; exact hP, va_K.moved hW.alike hK, (hD g a c).weaken (fun _ _ _ _ => trivial), by rw [hU]; exact hXf U hW⟩⟩ rfl hn hl.1 rfl (lv_room hW8) d ⟨hcs.1, hcs.2⟩) hS (fun q _ hq => hfree q hq) hfree (fun r u t H1 locs1 ht hvm hw hB hz1 hk1 hS1 => h r u.1 u.2.1 u.2.2 hw H1 locs1 ls (by rw [← ht]; exact hB) hS1 hl)
theorem hj_cSl (F : hw_F K l D Wd tys X cc own Ts rm nL) {P : Int64 → hw_G → hw_A → Int64 → Prop} (hC : hw_Cl l D Wd tys X y ws1 rm1 As g a c P) (hG : GoodIn Ts (va_wsS own index y ws1)) (hw : ws1 = Cond.code y bytes maxL ret :: ws2) (hz : rm1.cells = 0 ∧ rm1.slots = 0) (hd : y.cls ≠ "java/lang/invoke/MethodHandle" ∧ y.cls ≠ "java/lang/invoke/VarHandle" ∧ (parseMethodDescriptor y.desc).map (fun d => d.parameters.length) = some n) (hR : rm1.frames + 1 ≤ rm.frames ∧ 8 + (maxL + 11) + rm1.locals ≤ rm.locals) (hn : As.length = n) (hst : st0 = As.reverse ++ st) (hW8 : (st.map fun v => v.category).sum ≤ 8) (hcs : kc ≤ rm.cells ∧ ks ≤ rm.slots) (d : decode cc pc = .ok (.invokestatic index, 3))
    (h : ∀ r g' a' c', P r g' a' c' → hw_J K Wd kc ks g' a' c' lv (pc + 3) (.long r :: st)) : hw_J K Wd kc ks g a c lv pc st0 := by
  obtain ⟨p, l, e, R, s, m, args, below, meth, cd, Q, D, A, nL⟩ := K
  obtain ⟨rfl, rfl, rfl, rfl, hx, hb, hml, hown, hts, hK, hD, hA, hlk, hok, hX⟩ := F
  intro H locs ls hP hS hl
  have hfree : ∀ q, va_A (Wd g a c) H.size q → A q := fun q hq => hq.elim (fun ⟨k, e, hk⟩ => (hD g a c).2 k _ hk) (fun h => hA q (Nat.le_trans hS.1 h))
  have hXf : ∀ U : State, s.WarmedH U.vm → X (va_A (Wd g a c) H.size) U H := fun U hW => hok.2.2.1 _ _ _ _ (hok.1 _ _ _ _ hW (hok.2.1 _ _ _ _ hX hS.2.1)) hfree
  subst hst
  exact va_calll (S := hw_S) (va_runS (As := As) (rest := st) ⟨hx, hb, hml, hown, hts⟩ (hC H.size) (va_cwS n hts hG hw hz.1 hz.2 hd hR) ⟨hw_blind hok, fun U hU hW => ⟨rfl, by rw [hU], by rw [hU]; exact hP, va_K.moved hW.alike hK, (hD g a c).weaken (fun _ _ _ _ => trivial), by rw [hU]; exact hXf U hW⟩⟩ rfl hn hl.1 rfl (lv_room hW8) d ⟨hcs.1, hcs.2⟩) hS (fun q _ hq => hfree q hq) hfree (fun r u t H1 locs1 ht hvm hw hB hz1 hk1 hS1 => h r u.1 u.2.1 u.2.2 hw H1 locs1 ls (by rw [← ht]; exact hB) hS1 hl)
theorem hj_cSv (F : hw_F K l D Wd tys X cc own Ts rm nL) {P : hw_G → hw_A → Int64 → Prop} (hC : hw_Cv l D Wd tys X y ws1 rm1 As g a c P) (hG : GoodIn Ts (va_wsS own index y ws1)) (hw : ws1 = Cond.code y bytes maxL ret :: ws2) (hz : rm1.cells = 0 ∧ rm1.slots = 0) (hd : y.cls ≠ "java/lang/invoke/MethodHandle" ∧ y.cls ≠ "java/lang/invoke/VarHandle" ∧ (parseMethodDescriptor y.desc).map (fun d => d.parameters.length) = some n) (hR : rm1.frames + 1 ≤ rm.frames ∧ 8 + (maxL + 11) + rm1.locals ≤ rm.locals) (hn : As.length = n) (hst : st0 = As.reverse ++ st) (hW8 : (st.map fun v => v.category).sum ≤ 8) (hcs : kc ≤ rm.cells ∧ ks ≤ rm.slots) (d : decode cc pc = .ok (.invokestatic index, 3))
    (h : ∀ g' a' c', P g' a' c' → hw_J K Wd kc ks g' a' c' lv (pc + 3) st) : hw_J K Wd kc ks g a c lv pc st0 := by
  obtain ⟨p, l, e, R, s, m, args, below, meth, cd, Q, D, A, nL⟩ := K
  obtain ⟨rfl, rfl, rfl, rfl, hx, hb, hml, hown, hts, hK, hD, hA, hlk, hok, hX⟩ := F
  intro H locs ls hP hS hl
  have hfree : ∀ q, va_A (Wd g a c) H.size q → A q := fun q hq => hq.elim (fun ⟨k, e, hk⟩ => (hD g a c).2 k _ hk) (fun h => hA q (Nat.le_trans hS.1 h))
  have hXf : ∀ U : State, s.WarmedH U.vm → X (va_A (Wd g a c) H.size) U H := fun U hW => hok.2.2.1 _ _ _ _ (hok.1 _ _ _ _ hW (hok.2.1 _ _ _ _ hX hS.2.1)) hfree
  subst hst
  exact va_callv (S := hw_S) (va_runS (As := As) (rest := st) ⟨hx, hb, hml, hown, hts⟩ (hC H.size) (va_cwS n hts hG hw hz.1 hz.2 hd hR) ⟨hw_blind hok, fun U hU hW => ⟨rfl, by rw [hU], by rw [hU]; exact hP, va_K.moved hW.alike hK, (hD g a c).weaken (fun _ _ _ _ => trivial), by rw [hU]; exact hXf U hW⟩⟩ rfl hn hl.1 rfl (lv_room hW8) d ⟨hcs.1, hcs.2⟩) hS (fun q _ hq => hfree q hq) hfree (fun u t H1 locs1 ht hvm hw hB hz1 hk1 hS1 => h u.1 u.2.1 u.2.2 hw H1 locs1 ls (by rw [← ht]; exact hB) hS1 hl)
theorem hj_cNi (F : hw_F K l D Wd tys X cc own Ts rm nL) {P : Int32 → hw_G → hw_A → Int64 → Prop} (hC : hw_Ci l D Wd tys X y ws1 rm1 As g a c P) (hG : GoodIn Ts ws1) (hN : ∀ (A : Nat → Prop) (U : State) (H : Heap), X A U H → va_Nw (.methodLinkNest own index y host) U) (hini : Cond.initialized y.cls ∈ Ts) (hsta : Cond.static y ∈ Ts) (hw : ws1 = Cond.code y bytes maxL ret :: ws2) (hz : rm1.cells = 0 ∧ rm1.slots = 0) (hd : y.cls ≠ "java/lang/invoke/MethodHandle" ∧ y.cls ≠ "java/lang/invoke/VarHandle" ∧ (parseMethodDescriptor y.desc).map (fun d => d.parameters.length) = some n) (hR : rm1.frames + 1 ≤ rm.frames ∧ 8 + (maxL + 11) + rm1.locals ≤ rm.locals) (hn : As.length = n) (hst : st0 = As.reverse ++ st) (hW8 : (st.map fun v => v.category).sum ≤ 8) (hcs : kc ≤ rm.cells ∧ ks ≤ rm.slots) (d : decode cc pc = .ok (.invokestatic index, 3))
    (h : ∀ r g' a' c', P r g' a' c' → hw_J K Wd kc ks g' a' c' lv (pc + 3) (.int r :: st)) : hw_J K Wd kc ks g a c lv pc st0 := by
  obtain ⟨p, l, e, R, s, m, args, below, meth, cd, Q, D, A, nL⟩ := K
  obtain ⟨rfl, rfl, rfl, rfl, hx, hb, hml, hown, hts, hK, hD, hA, hlk, hok, hX⟩ := F
  intro H locs ls hP hS hl
  have hfree : ∀ q, va_A (Wd g a c) H.size q → A q := fun q hq => hq.elim (fun ⟨k, e, hk⟩ => (hD g a c).2 k _ hk) (fun h => hA q (Nat.le_trans hS.1 h))
  have hXf : ∀ U : State, s.WarmedH U.vm → X (va_A (Wd g a c) H.size) U H := fun U hW => hok.2.2.1 _ _ _ _ (hok.1 _ _ _ _ hW (hok.2.1 _ _ _ _ hX hS.2.1)) hfree
  subst hst
  exact va_calli (S := hw_S) (va_runSN (As := As) (rest := st) ⟨hx, hb, hml, hown, hts⟩ (hC H.size) ⟨va_cnB n hts hG hw hz.1 hz.2 (hN _ _ _ hX) (hts _ hini) hd hR, hts _ hsta, trivial⟩ ⟨hw_blind hok, fun U hU hW => ⟨rfl, by rw [hU], by rw [hU]; exact hP, va_K.moved hW.alike hK, (hD g a c).weaken (fun _ _ _ _ => trivial), by rw [hU]; exact hXf U hW⟩⟩ rfl hn hl.1 rfl (lv_room hW8) d ⟨hcs.1, hcs.2⟩) hS (fun q _ hq => hfree q hq) hfree (fun r u t H1 locs1 ht hvm hw hB hz1 hk1 hS1 => h r u.1 u.2.1 u.2.2 hw H1 locs1 ls (by rw [← ht]; exact hB) hS1 hl)
theorem hj_cNl (F : hw_F K l D Wd tys X cc own Ts rm nL) {P : Int64 → hw_G → hw_A → Int64 → Prop} (hC : hw_Cl l D Wd tys X y ws1 rm1 As g a c P) (hG : GoodIn Ts ws1) (hN : ∀ (A : Nat → Prop) (U : State) (H : Heap), X A U H → va_Nw (.methodLinkNest own index y host) U) (hini : Cond.initialized y.cls ∈ Ts) (hsta : Cond.static y ∈ Ts) (hw : ws1 = Cond.code y bytes maxL ret :: ws2) (hz : rm1.cells = 0 ∧ rm1.slots = 0) (hd : y.cls ≠ "java/lang/invoke/MethodHandle" ∧ y.cls ≠ "java/lang/invoke/VarHandle" ∧ (parseMethodDescriptor y.desc).map (fun d => d.parameters.length) = some n) (hR : rm1.frames + 1 ≤ rm.frames ∧ 8 + (maxL + 11) + rm1.locals ≤ rm.locals) (hn : As.length = n) (hst : st0 = As.reverse ++ st) (hW8 : (st.map fun v => v.category).sum ≤ 8) (hcs : kc ≤ rm.cells ∧ ks ≤ rm.slots) (d : decode cc pc = .ok (.invokestatic index, 3))
    (h : ∀ r g' a' c', P r g' a' c' → hw_J K Wd kc ks g' a' c' lv (pc + 3) (.long r :: st)) : hw_J K Wd kc ks g a c lv pc st0 := by
  obtain ⟨p, l, e, R, s, m, args, below, meth, cd, Q, D, A, nL⟩ := K
  obtain ⟨rfl, rfl, rfl, rfl, hx, hb, hml, hown, hts, hK, hD, hA, hlk, hok, hX⟩ := F
  intro H locs ls hP hS hl
  have hfree : ∀ q, va_A (Wd g a c) H.size q → A q := fun q hq => hq.elim (fun ⟨k, e, hk⟩ => (hD g a c).2 k _ hk) (fun h => hA q (Nat.le_trans hS.1 h))
  have hXf : ∀ U : State, s.WarmedH U.vm → X (va_A (Wd g a c) H.size) U H := fun U hW => hok.2.2.1 _ _ _ _ (hok.1 _ _ _ _ hW (hok.2.1 _ _ _ _ hX hS.2.1)) hfree
  subst hst
  exact va_calll (S := hw_S) (va_runSN (As := As) (rest := st) ⟨hx, hb, hml, hown, hts⟩ (hC H.size) ⟨va_cnB n hts hG hw hz.1 hz.2 (hN _ _ _ hX) (hts _ hini) hd hR, hts _ hsta, trivial⟩ ⟨hw_blind hok, fun U hU hW => ⟨rfl, by rw [hU], by rw [hU]; exact hP, va_K.moved hW.alike hK, (hD g a c).weaken (fun _ _ _ _ => trivial), by rw [hU]; exact hXf U hW⟩⟩ rfl hn hl.1 rfl (lv_room hW8) d ⟨hcs.1, hcs.2⟩) hS (fun q _ hq => hfree q hq) hfree (fun r u t H1 locs1 ht hvm hw hB hz1 hk1 hS1 => h r u.1 u.2.1 u.2.2 hw H1 locs1 ls (by rw [← ht]; exact hB) hS1 hl)
theorem hj_cNv (F : hw_F K l D Wd tys X cc own Ts rm nL) {P : hw_G → hw_A → Int64 → Prop} (hC : hw_Cv l D Wd tys X y ws1 rm1 As g a c P) (hG : GoodIn Ts ws1) (hN : ∀ (A : Nat → Prop) (U : State) (H : Heap), X A U H → va_Nw (.methodLinkNest own index y host) U) (hini : Cond.initialized y.cls ∈ Ts) (hsta : Cond.static y ∈ Ts) (hw : ws1 = Cond.code y bytes maxL ret :: ws2) (hz : rm1.cells = 0 ∧ rm1.slots = 0) (hd : y.cls ≠ "java/lang/invoke/MethodHandle" ∧ y.cls ≠ "java/lang/invoke/VarHandle" ∧ (parseMethodDescriptor y.desc).map (fun d => d.parameters.length) = some n) (hR : rm1.frames + 1 ≤ rm.frames ∧ 8 + (maxL + 11) + rm1.locals ≤ rm.locals) (hn : As.length = n) (hst : st0 = As.reverse ++ st) (hW8 : (st.map fun v => v.category).sum ≤ 8) (hcs : kc ≤ rm.cells ∧ ks ≤ rm.slots) (d : decode cc pc = .ok (.invokestatic index, 3))
    (h : ∀ g' a' c', P g' a' c' → hw_J K Wd kc ks g' a' c' lv (pc + 3) st) : hw_J K Wd kc ks g a c lv pc st0 := by
  obtain ⟨p, l, e, R, s, m, args, below, meth, cd, Q, D, A, nL⟩ := K
  obtain ⟨rfl, rfl, rfl, rfl, hx, hb, hml, hown, hts, hK, hD, hA, hlk, hok, hX⟩ := F
  intro H locs ls hP hS hl
  have hfree : ∀ q, va_A (Wd g a c) H.size q → A q := fun q hq => hq.elim (fun ⟨k, e, hk⟩ => (hD g a c).2 k _ hk) (fun h => hA q (Nat.le_trans hS.1 h))
  have hXf : ∀ U : State, s.WarmedH U.vm → X (va_A (Wd g a c) H.size) U H := fun U hW => hok.2.2.1 _ _ _ _ (hok.1 _ _ _ _ hW (hok.2.1 _ _ _ _ hX hS.2.1)) hfree
  subst hst
  exact va_callv (S := hw_S) (va_runSN (As := As) (rest := st) ⟨hx, hb, hml, hown, hts⟩ (hC H.size) ⟨va_cnB n hts hG hw hz.1 hz.2 (hN _ _ _ hX) (hts _ hini) hd hR, hts _ hsta, trivial⟩ ⟨hw_blind hok, fun U hU hW => ⟨rfl, by rw [hU], by rw [hU]; exact hP, va_K.moved hW.alike hK, (hD g a c).weaken (fun _ _ _ _ => trivial), by rw [hU]; exact hXf U hW⟩⟩ rfl hn hl.1 rfl (lv_room hW8) d ⟨hcs.1, hcs.2⟩) hS (fun q _ hq => hfree q hq) hfree (fun u t H1 locs1 ht hvm hw hB hz1 hk1 hS1 => h u.1 u.2.1 u.2.2 hw H1 locs1 ls (by rw [← ht]; exact hB) hS1 hl)
end HWC
end
section
/-! THE TWO WORLDS. ad: the addresses; t: the array classes (int, byte, boolean, int[]) -/
abbrev hw_T (t : Nat → ClassId) : List (ClassId × FieldType) := [(t 0, .int), (t 1, .byte), (t 2, .boolean), (t 3, .array .int)]
def hw_out (ad : Nat → Nat) (b n : Nat) : Nat → Option Nat := fun i => if i < n then some (ad (b + i)) else none
def hw_rows (ad : Nat → Nat) (t : Nat → ClassId) (b n w : Nat) (a : hw_A) : va_W := (List.range n).map (fun i => (ad (b + i), .inl (t 0, w, .inl (a (b + i)))))
def hw_fix (ad : Nat → Nat) (t : Nat → ClassId) (g : hw_G) (a : hw_A) (c : Int64) : va_W := [
  (ad 0, .inr (3, [.ref (ad 10), .ref (ad 1), .ref (ad 2), .ref (ad 30), .ref (ad 3), .int (g 0), .int (g 1), .int (g 2), .int (g 3), .int (g 4), .int (g 5), .int (g 6)])),
  (ad 1, .inr (2, [.ref (ad 11), .ref (ad 12), .int (g 7), .int (g 8), .int (g 9), .int (g 10), .int (g 11)])),
  (ad 2, .inr (0, [.ref (ad 31), .ref (ad 32), .ref (ad 13), .ref (ad 14), .int (g 12)])),
  (ad 3, .inr (1, [.ref (ad 15), .ref (ad 16), .ref (ad 17), .ref (ad 18), .ref (ad 19), .ref (ad 20), .ref (ad 21), .ref (ad 22), .ref (ad 23), .int (g 13), .long c, .int (g 14)])),
  (ad 10, .inl (t 0, 12, .inl (a 0))),
  (ad 11, .inl (t 1, 100, .inl (a 1))),
  (ad 12, .inl (t 0, 4, .inl (a 2))),
  (ad 13, .inl (t 0, 10, .inl (a 3))),
  (ad 14, .inl (t 0, 10, .inl (a 4))),
  (ad 15, .inl (t 0, 7, .inl (a 5))),
  (ad 16, .inl (t 0, 7, .inl (a 6))),
  (ad 17, .inl (t 0, 7, .inl (a 7))),
  (ad 18, .inl (t 0, 7, .inl (a 8))),
  (ad 19, .inl (t 0, 7, .inl (a 9))),
  (ad 20, .inl (t 2, 7, .inl (a 10))),
  (ad 21, .inl (t 0, 7, .inl (a 11))),
  (ad 22, .inl (t 0, 7, .inl (a 12))),
  (ad 23, .inl (t 0, 10, .inl (a 13))),
  (ad 30, .inl (t 3, 60, .inr (.inr (.inr (.inr (hw_out ad 100 60)))))),
  (ad 31, .inl (t 3, 10, .inr (.inr (.inr (.inr (hw_out ad 200 10)))))),
  (ad 32, .inl (t 3, 10, .inr (.inr (.inr (.inr (hw_out ad 300 10))))))]
def WH (ad : Nat → Nat) (t : Nat → ClassId) : hw_W := fun g a c => hw_fix ad t g a c ++ (hw_rows ad t 100 60 13 a ++ (hw_rows ad t 200 10 12 a ++ hw_rows ad t 300 10 3 a))
def WM (ad : Nat → Nat) (t : Nat → ClassId) : hw_W := fun g a c => [
  (ad 0, .inr (4, [.int (g 0), .ref (ad 10), .int (g 1), .ref (ad 11), .int (g 2), .ref (ad 12), .int (g 3), .int (g 4), .int (g 5), .int (g 6), .int (g 7), .ref (ad 13), .ref (ad 14), .int (g 8), .int (g 9), .int (g 10), .int (g 11), .ref (ad 15), .ref (ad 16), .ref (ad 17), .ref (ad 18), .ref (ad 19), .ref (ad 20), .ref (ad 21), .ref (ad 22), .ref (ad 23), .int (g 12), .long c])),
  (ad 10, .inl (t 0, 12, .inl (a 0))),
  (ad 11, .inl (t 0, 120, .inl (a 1))),
  (ad 12, .inl (t 1, 100, .inl (a 2))),
  (ad 13, .inl (t 0, 4, .inl (a 3))),
  (ad 14, .inl (t 2, 4, .inl (a 4))),
  (ad 15, .inl (t 0, 10, .inl (a 5))),
  (ad 16, .inl (t 0, 10, .inl (a 6))),
  (ad 17, .inl (t 0, 720, .inl (a 7))),
  (ad 18, .inl (t 0, 60, .inl (a 8))),
  (ad 19, .inl (t 2, 60, .inl (a 9))),
  (ad 20, .inl (t 0, 7, .inl (a 10))),
  (ad 21, .inl (t 0, 7, .inl (a 11))),
  (ad 22, .inl (t 0, 7, .inl (a 12))),
  (ad 23, .inl (t 0, 10, .inl (a 13)))]
theorem hw_rows_ad (ad : Nat → Nat) (t : Nat → ClassId) (b n w : Nat) (a a' : hw_A) : (hw_rows ad t b n w a).map (·.1) = (hw_rows ad t b n w a').map (·.1) := by
  unfold hw_rows
  rw [List.map_map, List.map_map]
  rfl
theorem WH_ads (ad : Nat → Nat) (t : Nat → ClassId) : hw_ads (WH ad t) := fun g a c g' a' c' => by
  unfold WH
  rw [List.map_append, List.map_append, List.map_append, List.map_append, List.map_append, List.map_append, hw_rows_ad ad t 100 60 13 a a', hw_rows_ad ad t 200 10 12 a a', hw_rows_ad ad t 300 10 3 a a']
  rfl
theorem WM_ads (ad : Nat → Nat) (t : Nat → ClassId) : hw_ads (WM ad t) := fun _ _ _ _ _ _ => rfl
theorem hw_rows_c {ad : Nat → Nat} {t : Nat → ClassId} {b n w : Nat} {a a' : hw_A} (h : ∀ i, i < n → a (b + i) = a' (b + i)) : hw_rows ad t b n w a = hw_rows ad t b n w a' := by
  unfold hw_rows
  apply List.map_congr_left
  intro i hi
  rw [h i (List.mem_range.mp hi)]
theorem hw_rows_len (ad : Nat → Nat) (t : Nat → ClassId) (b n w : Nat) (a : hw_A) : (hw_rows ad t b n w a).length = n := by
  unfold hw_rows
  rw [List.length_map, List.length_range]
theorem hw_row_at {F B : va_W} {ad : Nat → Nat} {t : Nat → ClassId} {b n w N j : Nat} {a : hw_A} (hF : F.length = N) (hj : j < n) : (F ++ (hw_rows ad t b n w a ++ B))[N + j]? = some (ad (b + j), .inl (t 0, w, .inl (a (b + j)))) := by
  subst hF
  rw [List.getElem?_append_right (by omega), show F.length + j - F.length = j by omega, List.getElem?_append_left (by rw [hw_rows_len]; exact hj)]
  unfold hw_rows
  rw [List.getElem?_map, List.getElem?_range hj]
  rfl
theorem hw_row_set {F B : va_W} {ad : Nat → Nat} {t : Nat → ClassId} {b n w N j : Nat} {a : hw_A} {r : Nat → Int32} (hF : F.length = N) (hj : j < n) : (F ++ (hw_rows ad t b n w a ++ B)).set (N + j) (ad (b + j), .inl (t 0, w, .inl r)) = F ++ (hw_rows ad t b n w (va_up a (b + j) r) ++ B) := by
  subst hF
  rw [List.set_append_right _ _ (by omega), show F.length + j - F.length = j by omega, List.set_append_left _ _ (by rw [hw_rows_len]; exact hj)]
  congr 2
  apply List.ext_getElem?
  intro i
  by_cases hi : i < n
  · by_cases e : i = j
    · subst e
      rw [List.getElem?_set_self (by rw [hw_rows_len]; exact hi)]
      unfold hw_rows
      rw [List.getElem?_map, List.getElem?_range hi]
      simp [va_up]
    · rw [List.getElem?_set_ne (by omega)]
      unfold hw_rows
      rw [List.getElem?_map, List.getElem?_map, List.getElem?_range hi]
      simp [va_up, e]
  · rw [List.getElem?_eq_none (by rw [List.length_set, hw_rows_len]; omega), List.getElem?_eq_none (by rw [hw_rows_len]; omega)]
theorem hw_set_fix {ad : Nat → Nat} {t : Nat → ClassId} {g g' : hw_G} {a a' : hw_A} {c c' : Int64} {p : Nat} {x : Nat × va_E} (hp : p < 21) (h : (hw_fix ad t g a c).set p x = hw_fix ad t g' a' c') (ha : ∀ k, 100 ≤ k → a k = a' k) : (WH ad t g a c).set p x = WH ad t g' a' c' := by
  unfold WH
  rw [List.set_append_left _ _ (show p < (hw_fix ad t g a c).length from hp), h, hw_rows_c (a := a) (a' := a') (fun i _ => ha _ (by omega)), hw_rows_c (b := 200) (a := a) (a' := a') (fun i _ => ha _ (by omega)), hw_rows_c (b := 300) (a := a) (a' := a') (fun i _ => ha _ (by omega))]
theorem hw_fix_c {ad : Nat → Nat} {t : Nat → ClassId} {g : hw_G} {a a' : hw_A} {c : Int64} (h : ∀ k, k < 100 → a k = a' k) : hw_fix ad t g a c = hw_fix ad t g a' c := by
  unfold hw_fix
  rw [h 0 (by omega), h 1 (by omega), h 2 (by omega), h 3 (by omega), h 4 (by omega), h 5 (by omega), h 6 (by omega), h 7 (by omega), h 8 (by omega), h 9 (by omega), h 10 (by omega), h 11 (by omega), h 12 (by omega), h 13 (by omega)]
theorem hw_at_X_order {ad : Nat → Nat} {t : Nat → ClassId} {g : hw_G} {a : hw_A} {c : Int64} {j : Nat} (hj : j < 60) : (WH ad t g a c)[21 + j]? = some (ad (100 + j), .inl (t 0, 13, .inl (a (100 + j)))) := by
  unfold WH
  exact hw_row_at rfl hj
theorem hw_set_X_order {ad : Nat → Nat} {t : Nat → ClassId} {g : hw_G} {a : hw_A} {c : Int64} {j : Nat} {r : Nat → Int32} (hj : j < 60) : (WH ad t g a c).set (21 + j) (ad (100 + j), .inl (t 0, 13, .inl r)) = WH ad t g (va_up a (100 + j) r) c := by
  have e0 : ∀ k, k < 100 → a k = va_up a (100 + j) r k := fun k hk => (va_up_ne _ _ (by omega)).symm
  unfold WH
  rw [hw_row_set (F := hw_fix ad t g a c) (N := 21) rfl hj]
  rw [hw_fix_c e0]
  rw [hw_rows_c (b := 200) (n := 10) (a := a) (a' := va_up a (100 + j) r) (fun i hi => (va_up_ne _ _ (by omega)).symm)]
  rw [hw_rows_c (b := 300) (n := 10) (a := a) (a' := va_up a (100 + j) r) (fun i hi => (va_up_ne _ _ (by omega)).symm)]
theorem hw_at_B_ring {ad : Nat → Nat} {t : Nat → ClassId} {g : hw_G} {a : hw_A} {c : Int64} {j : Nat} (hj : j < 10) : (WH ad t g a c)[81 + j]? = some (ad (200 + j), .inl (t 0, 12, .inl (a (200 + j)))) := by
  unfold WH
  rw [← List.append_assoc]; exact hw_row_at (by rw [List.length_append, hw_rows_len]; rfl) hj
theorem hw_set_B_ring {ad : Nat → Nat} {t : Nat → ClassId} {g : hw_G} {a : hw_A} {c : Int64} {j : Nat} {r : Nat → Int32} (hj : j < 10) : (WH ad t g a c).set (81 + j) (ad (200 + j), .inl (t 0, 12, .inl r)) = WH ad t g (va_up a (200 + j) r) c := by
  have e0 : ∀ k, k < 100 → a k = va_up a (200 + j) r k := fun k hk => (va_up_ne _ _ (by omega)).symm
  unfold WH
  rw [← List.append_assoc]; rw [hw_row_set (F := (hw_fix ad t g a c ++ hw_rows ad t 100 60 13 a)) (N := 81) (by rw [List.length_append, hw_rows_len]; rfl) hj]
  rw [hw_fix_c e0]
  rw [hw_rows_c (b := 100) (n := 60) (a := a) (a' := va_up a (200 + j) r) (fun i hi => (va_up_ne _ _ (by omega)).symm)]
  rw [hw_rows_c (b := 300) (n := 10) (a := a) (a' := va_up a (200 + j) r) (fun i hi => (va_up_ne _ _ (by omega)).symm)]
  simp only [List.append_assoc, List.append_nil]
theorem hw_at_B_wear {ad : Nat → Nat} {t : Nat → ClassId} {g : hw_G} {a : hw_A} {c : Int64} {j : Nat} (hj : j < 10) : (WH ad t g a c)[91 + j]? = some (ad (300 + j), .inl (t 0, 3, .inl (a (300 + j)))) := by
  unfold WH
  rw [← List.append_assoc, ← List.append_assoc, ← List.append_nil (hw_rows ad t 300 10 3 a)]; exact hw_row_at (by rw [List.length_append, List.length_append, hw_rows_len, hw_rows_len]; rfl) hj
theorem hw_set_B_wear {ad : Nat → Nat} {t : Nat → ClassId} {g : hw_G} {a : hw_A} {c : Int64} {j : Nat} {r : Nat → Int32} (hj : j < 10) : (WH ad t g a c).set (91 + j) (ad (300 + j), .inl (t 0, 3, .inl r)) = WH ad t g (va_up a (300 + j) r) c := by
  have e0 : ∀ k, k < 100 → a k = va_up a (300 + j) r k := fun k hk => (va_up_ne _ _ (by omega)).symm
  unfold WH
  rw [← List.append_assoc, ← List.append_assoc, ← List.append_nil (hw_rows ad t 300 10 3 a)]; rw [hw_row_set (F := ((hw_fix ad t g a c ++ hw_rows ad t 100 60 13 a) ++ hw_rows ad t 200 10 12 a)) (N := 91) (by rw [List.length_append, List.length_append, hw_rows_len, hw_rows_len]; rfl) hj]
  rw [hw_fix_c e0]
  rw [hw_rows_c (b := 100) (n := 60) (a := a) (a' := va_up a (300 + j) r) (fun i hi => (va_up_ne _ _ (by omega)).symm)]
  rw [hw_rows_c (b := 200) (n := 10) (a := a) (a' := va_up a (300 + j) r) (fun i hi => (va_up_ne _ _ (by omega)).symm)]
  simp only [List.append_assoc, List.append_nil]
section HWF
variable {K : hw_K} {l : Launch} {D : va_G} {ad : Nat → Nat} {t : Nat → ClassId} {X : hw_XT} {cc : ByteArray} {own : String} {Ts : List Cond} {rm : Room} {nL : Nat} {kc ks : Nat} {g : hw_G} {a : hw_A} {c : Int64} {lv : List (Nat × Value)} {pc : Nat} {st : List Value} {index : Nat}
theorem hg_X_hand (F : hw_F K l D (WH ad t) (hw_T t) X cc own Ts rm nL) (hin : ∀ w ∈ u_ws RX3 TX3 12, w ∈ Ts) (hlink : Cond.fieldLink own index "HatWorks" "hand" "[I" ∈ Ts) (d : decode cc pc = .ok (.getfield index, 3)) (h : hw_J K (WH ad t) kc ks g a c lv (pc + 3) (.ref (ad 10) :: st)) : hw_J K (WH ad t) kc ks g a c lv pc (.ref (ad 0) :: st) := hj_get F hin 0 rfl (ci := 3) (C := RX3) (T := TX3) (N := 12) rfl 0 (by decide) hlink rfl d h
theorem hg_X_tape (F : hw_F K l D (WH ad t) (hw_T t) X cc own Ts rm nL) (hin : ∀ w ∈ u_ws RX3 TX3 12, w ∈ Ts) (hlink : Cond.fieldLink own index "HatWorks" "tape" "LHatWorks$Tape;" ∈ Ts) (d : decode cc pc = .ok (.getfield index, 3)) (h : hw_J K (WH ad t) kc ks g a c lv (pc + 3) (.ref (ad 1) :: st)) : hw_J K (WH ad t) kc ks g a c lv pc (.ref (ad 0) :: st) := hj_get F hin 0 rfl (ci := 3) (C := RX3) (T := TX3) (N := 12) rfl 1 (by decide) hlink rfl d h
theorem hg_X_blocks (F : hw_F K l D (WH ad t) (hw_T t) X cc own Ts rm nL) (hin : ∀ w ∈ u_ws RX3 TX3 12, w ∈ Ts) (hlink : Cond.fieldLink own index "HatWorks" "blocks" "LHatWorks$Blocks;" ∈ Ts) (d : decode cc pc = .ok (.getfield index, 3)) (h : hw_J K (WH ad t) kc ks g a c lv (pc + 3) (.ref (ad 2) :: st)) : hw_J K (WH ad t) kc ks g a c lv pc (.ref (ad 0) :: st) := hj_get F hin 0 rfl (ci := 3) (C := RX3) (T := TX3) (N := 12) rfl 2 (by decide) hlink rfl d h
theorem hg_X_orders (F : hw_F K l D (WH ad t) (hw_T t) X cc own Ts rm nL) (hin : ∀ w ∈ u_ws RX3 TX3 12, w ∈ Ts) (hlink : Cond.fieldLink own index "HatWorks" "orders" "[[I" ∈ Ts) (d : decode cc pc = .ok (.getfield index, 3)) (h : hw_J K (WH ad t) kc ks g a c lv (pc + 3) (.ref (ad 30) :: st)) : hw_J K (WH ad t) kc ks g a c lv pc (.ref (ad 0) :: st) := hj_get F hin 0 rfl (ci := 3) (C := RX3) (T := TX3) (N := 12) rfl 3 (by decide) hlink rfl d h
theorem hg_X_planner (F : hw_F K l D (WH ad t) (hw_T t) X cc own Ts rm nL) (hin : ∀ w ∈ u_ws RX3 TX3 12, w ∈ Ts) (hlink : Cond.fieldLink own index "HatWorks" "planner" "LHatWorks$Planner;" ∈ Ts) (d : decode cc pc = .ok (.getfield index, 3)) (h : hw_J K (WH ad t) kc ks g a c lv (pc + 3) (.ref (ad 3) :: st)) : hw_J K (WH ad t) kc ks g a c lv pc (.ref (ad 0) :: st) := hj_get F hin 0 rfl (ci := 3) (C := RX3) (T := TX3) (N := 12) rfl 4 (by decide) hlink rfl d h
theorem hg_X_handSize (F : hw_F K l D (WH ad t) (hw_T t) X cc own Ts rm nL) (hin : ∀ w ∈ u_ws RX3 TX3 12, w ∈ Ts) (hlink : Cond.fieldLink own index "HatWorks" "handSize" "I" ∈ Ts) (d : decode cc pc = .ok (.getfield index, 3)) (h : hw_J K (WH ad t) kc ks g a c lv (pc + 3) (.int (g 0) :: st)) : hw_J K (WH ad t) kc ks g a c lv pc (.ref (ad 0) :: st) := hj_get F hin 0 rfl (ci := 3) (C := RX3) (T := TX3) (N := 12) rfl 5 (by decide) hlink rfl d h
theorem hp_X_handSize (F : hw_F K l D (WH ad t) (hw_T t) X cc own Ts rm nL) (hin : ∀ w ∈ u_ws RX3 TX3 12, w ∈ Ts) (hlink : Cond.fieldLink own index "HatWorks" "handSize" "I" ∈ Ts) {v : Int32} (d : decode cc pc = .ok (.putfield index, 3)) (h : hw_J K (WH ad t) kc ks (upd g 0 v) a c lv (pc + 3) st) : hw_J K (WH ad t) kc ks g a c lv pc (.int v :: .ref (ad 0) :: st) := hj_put F hin tyX3_ok nmX3 0 rfl (ci := 3) (C := RX3) (T := TX3) (N := 12) rfl 5 (by decide) hlink rfl (ty := .int) rfl rfl rfl (Nat.le_of_ble_eq_true rfl) (hw_set_fix (by decide) rfl (fun _ _ => rfl)) d h
theorem hg_X_orderCount (F : hw_F K l D (WH ad t) (hw_T t) X cc own Ts rm nL) (hin : ∀ w ∈ u_ws RX3 TX3 12, w ∈ Ts) (hlink : Cond.fieldLink own index "HatWorks" "orderCount" "I" ∈ Ts) (d : decode cc pc = .ok (.getfield index, 3)) (h : hw_J K (WH ad t) kc ks g a c lv (pc + 3) (.int (g 1) :: st)) : hw_J K (WH ad t) kc ks g a c lv pc (.ref (ad 0) :: st) := hj_get F hin 0 rfl (ci := 3) (C := RX3) (T := TX3) (N := 12) rfl 6 (by decide) hlink rfl d h
theorem hp_X_orderCount (F : hw_F K l D (WH ad t) (hw_T t) X cc own Ts rm nL) (hin : ∀ w ∈ u_ws RX3 TX3 12, w ∈ Ts) (hlink : Cond.fieldLink own index "HatWorks" "orderCount" "I" ∈ Ts) {v : Int32} (d : decode cc pc = .ok (.putfield index, 3)) (h : hw_J K (WH ad t) kc ks (upd g 1 v) a c lv (pc + 3) st) : hw_J K (WH ad t) kc ks g a c lv pc (.int v :: .ref (ad 0) :: st) := hj_put F hin tyX3_ok nmX3 0 rfl (ci := 3) (C := RX3) (T := TX3) (N := 12) rfl 6 (by decide) hlink rfl (ty := .int) rfl rfl rfl (Nat.le_of_ble_eq_true rfl) (hw_set_fix (by decide) rfl (fun _ _ => rfl)) d h
theorem hg_X_now (F : hw_F K l D (WH ad t) (hw_T t) X cc own Ts rm nL) (hin : ∀ w ∈ u_ws RX3 TX3 12, w ∈ Ts) (hlink : Cond.fieldLink own index "HatWorks" "now" "I" ∈ Ts) (d : decode cc pc = .ok (.getfield index, 3)) (h : hw_J K (WH ad t) kc ks g a c lv (pc + 3) (.int (g 2) :: st)) : hw_J K (WH ad t) kc ks g a c lv pc (.ref (ad 0) :: st) := hj_get F hin 0 rfl (ci := 3) (C := RX3) (T := TX3) (N := 12) rfl 7 (by decide) hlink rfl d h
theorem hp_X_now (F : hw_F K l D (WH ad t) (hw_T t) X cc own Ts rm nL) (hin : ∀ w ∈ u_ws RX3 TX3 12, w ∈ Ts) (hlink : Cond.fieldLink own index "HatWorks" "now" "I" ∈ Ts) {v : Int32} (d : decode cc pc = .ok (.putfield index, 3)) (h : hw_J K (WH ad t) kc ks (upd g 2 v) a c lv (pc + 3) st) : hw_J K (WH ad t) kc ks g a c lv pc (.int v :: .ref (ad 0) :: st) := hj_put F hin tyX3_ok nmX3 0 rfl (ci := 3) (C := RX3) (T := TX3) (N := 12) rfl 7 (by decide) hlink rfl (ty := .int) rfl rfl rfl (Nat.le_of_ble_eq_true rfl) (hw_set_fix (by decide) rfl (fun _ _ => rfl)) d h
theorem hg_X_steamerFree (F : hw_F K l D (WH ad t) (hw_T t) X cc own Ts rm nL) (hin : ∀ w ∈ u_ws RX3 TX3 12, w ∈ Ts) (hlink : Cond.fieldLink own index "HatWorks" "steamerFree" "I" ∈ Ts) (d : decode cc pc = .ok (.getfield index, 3)) (h : hw_J K (WH ad t) kc ks g a c lv (pc + 3) (.int (g 3) :: st)) : hw_J K (WH ad t) kc ks g a c lv pc (.ref (ad 0) :: st) := hj_get F hin 0 rfl (ci := 3) (C := RX3) (T := TX3) (N := 12) rfl 8 (by decide) hlink rfl d h
theorem hp_X_steamerFree (F : hw_F K l D (WH ad t) (hw_T t) X cc own Ts rm nL) (hin : ∀ w ∈ u_ws RX3 TX3 12, w ∈ Ts) (hlink : Cond.fieldLink own index "HatWorks" "steamerFree" "I" ∈ Ts) {v : Int32} (d : decode cc pc = .ok (.putfield index, 3)) (h : hw_J K (WH ad t) kc ks (upd g 3 v) a c lv (pc + 3) st) : hw_J K (WH ad t) kc ks g a c lv pc (.int v :: .ref (ad 0) :: st) := hj_put F hin tyX3_ok nmX3 0 rfl (ci := 3) (C := RX3) (T := TX3) (N := 12) rfl 8 (by decide) hlink rfl (ty := .int) rfl rfl rfl (Nat.le_of_ble_eq_true rfl) (hw_set_fix (by decide) rfl (fun _ _ => rfl)) d h
theorem hg_X_steamerLatest (F : hw_F K l D (WH ad t) (hw_T t) X cc own Ts rm nL) (hin : ∀ w ∈ u_ws RX3 TX3 12, w ∈ Ts) (hlink : Cond.fieldLink own index "HatWorks" "steamerLatest" "I" ∈ Ts) (d : decode cc pc = .ok (.getfield index, 3)) (h : hw_J K (WH ad t) kc ks g a c lv (pc + 3) (.int (g 4) :: st)) : hw_J K (WH ad t) kc ks g a c lv pc (.ref (ad 0) :: st) := hj_get F hin 0 rfl (ci := 3) (C := RX3) (T := TX3) (N := 12) rfl 9 (by decide) hlink rfl d h
theorem hp_X_steamerLatest (F : hw_F K l D (WH ad t) (hw_T t) X cc own Ts rm nL) (hin : ∀ w ∈ u_ws RX3 TX3 12, w ∈ Ts) (hlink : Cond.fieldLink own index "HatWorks" "steamerLatest" "I" ∈ Ts) {v : Int32} (d : decode cc pc = .ok (.putfield index, 3)) (h : hw_J K (WH ad t) kc ks (upd g 4 v) a c lv (pc + 3) st) : hw_J K (WH ad t) kc ks g a c lv pc (.int v :: .ref (ad 0) :: st) := hj_put F hin tyX3_ok nmX3 0 rfl (ci := 3) (C := RX3) (T := TX3) (N := 12) rfl 9 (by decide) hlink rfl (ty := .int) rfl rfl rfl (Nat.le_of_ble_eq_true rfl) (hw_set_fix (by decide) rfl (fun _ _ => rfl)) d h
theorem hg_X_faultPlace (F : hw_F K l D (WH ad t) (hw_T t) X cc own Ts rm nL) (hin : ∀ w ∈ u_ws RX3 TX3 12, w ∈ Ts) (hlink : Cond.fieldLink own index "HatWorks" "faultPlace" "I" ∈ Ts) (d : decode cc pc = .ok (.getfield index, 3)) (h : hw_J K (WH ad t) kc ks g a c lv (pc + 3) (.int (g 5) :: st)) : hw_J K (WH ad t) kc ks g a c lv pc (.ref (ad 0) :: st) := hj_get F hin 0 rfl (ci := 3) (C := RX3) (T := TX3) (N := 12) rfl 10 (by decide) hlink rfl d h
theorem hp_X_faultPlace (F : hw_F K l D (WH ad t) (hw_T t) X cc own Ts rm nL) (hin : ∀ w ∈ u_ws RX3 TX3 12, w ∈ Ts) (hlink : Cond.fieldLink own index "HatWorks" "faultPlace" "I" ∈ Ts) {v : Int32} (d : decode cc pc = .ok (.putfield index, 3)) (h : hw_J K (WH ad t) kc ks (upd g 5 v) a c lv (pc + 3) st) : hw_J K (WH ad t) kc ks g a c lv pc (.int v :: .ref (ad 0) :: st) := hj_put F hin tyX3_ok nmX3 0 rfl (ci := 3) (C := RX3) (T := TX3) (N := 12) rfl 10 (by decide) hlink rfl (ty := .int) rfl rfl rfl (Nat.le_of_ble_eq_true rfl) (hw_set_fix (by decide) rfl (fun _ _ => rfl)) d h
theorem hg_X_bestStands (F : hw_F K l D (WH ad t) (hw_T t) X cc own Ts rm nL) (hin : ∀ w ∈ u_ws RX3 TX3 12, w ∈ Ts) (hlink : Cond.fieldLink own index "HatWorks" "bestStands" "Z" ∈ Ts) (d : decode cc pc = .ok (.getfield index, 3)) (h : hw_J K (WH ad t) kc ks g a c lv (pc + 3) (.int (g 6) :: st)) : hw_J K (WH ad t) kc ks g a c lv pc (.ref (ad 0) :: st) := hj_get F hin 0 rfl (ci := 3) (C := RX3) (T := TX3) (N := 12) rfl 11 (by decide) hlink rfl d h
theorem hp_X_bestStands (F : hw_F K l D (WH ad t) (hw_T t) X cc own Ts rm nL) (hin : ∀ w ∈ u_ws RX3 TX3 12, w ∈ Ts) (hlink : Cond.fieldLink own index "HatWorks" "bestStands" "Z" ∈ Ts) {v : Int32} (hn : narrow .boolean (.int v) = .int v) (hfit : fits .boolean (.int v) = true) (d : decode cc pc = .ok (.putfield index, 3)) (h : hw_J K (WH ad t) kc ks (upd g 6 v) a c lv (pc + 3) st) : hw_J K (WH ad t) kc ks g a c lv pc (.int v :: .ref (ad 0) :: st) := hj_put F hin tyX3_ok nmX3 0 rfl (ci := 3) (C := RX3) (T := TX3) (N := 12) rfl 11 (by decide) hlink rfl (ty := .boolean) rfl hn hfit (Nat.le_of_ble_eq_true rfl) (hw_set_fix (by decide) rfl (fun _ _ => rfl)) d h
theorem hg_T_bytes (F : hw_F K l D (WH ad t) (hw_T t) X cc own Ts rm nL) (hin : ∀ w ∈ u_ws RX2 TX2 7, w ∈ Ts) (hlink : Cond.fieldLink own index "HatWorks$Tape" "bytes" "[B" ∈ Ts) (d : decode cc pc = .ok (.getfield index, 3)) (h : hw_J K (WH ad t) kc ks g a c lv (pc + 3) (.ref (ad 11) :: st)) : hw_J K (WH ad t) kc ks g a c lv pc (.ref (ad 1) :: st) := hj_get F hin 1 rfl (ci := 2) (C := RX2) (T := TX2) (N := 7) rfl 0 (by decide) hlink rfl d h
theorem hg_T_parts (F : hw_F K l D (WH ad t) (hw_T t) X cc own Ts rm nL) (hin : ∀ w ∈ u_ws RX2 TX2 7, w ∈ Ts) (hlink : Cond.fieldLink own index "HatWorks$Tape" "parts" "[I" ∈ Ts) (d : decode cc pc = .ok (.getfield index, 3)) (h : hw_J K (WH ad t) kc ks g a c lv (pc + 3) (.ref (ad 12) :: st)) : hw_J K (WH ad t) kc ks g a c lv pc (.ref (ad 1) :: st) := hj_get F hin 1 rfl (ci := 2) (C := RX2) (T := TX2) (N := 7) rfl 1 (by decide) hlink rfl d h
theorem hg_T_length (F : hw_F K l D (WH ad t) (hw_T t) X cc own Ts rm nL) (hin : ∀ w ∈ u_ws RX2 TX2 7, w ∈ Ts) (hlink : Cond.fieldLink own index "HatWorks$Tape" "length" "I" ∈ Ts) (d : decode cc pc = .ok (.getfield index, 3)) (h : hw_J K (WH ad t) kc ks g a c lv (pc + 3) (.int (g 7) :: st)) : hw_J K (WH ad t) kc ks g a c lv pc (.ref (ad 1) :: st) := hj_get F hin 1 rfl (ci := 2) (C := RX2) (T := TX2) (N := 7) rfl 2 (by decide) hlink rfl d h
theorem hp_T_length (F : hw_F K l D (WH ad t) (hw_T t) X cc own Ts rm nL) (hin : ∀ w ∈ u_ws RX2 TX2 7, w ∈ Ts) (hlink : Cond.fieldLink own index "HatWorks$Tape" "length" "I" ∈ Ts) {v : Int32} (d : decode cc pc = .ok (.putfield index, 3)) (h : hw_J K (WH ad t) kc ks (upd g 7 v) a c lv (pc + 3) st) : hw_J K (WH ad t) kc ks g a c lv pc (.int v :: .ref (ad 1) :: st) := hj_put F hin tyX2_ok nmX2 1 rfl (ci := 2) (C := RX2) (T := TX2) (N := 7) rfl 2 (by decide) hlink rfl (ty := .int) rfl rfl rfl (Nat.le_of_ble_eq_true rfl) (hw_set_fix (by decide) rfl (fun _ _ => rfl)) d h
theorem hg_T_at (F : hw_F K l D (WH ad t) (hw_T t) X cc own Ts rm nL) (hin : ∀ w ∈ u_ws RX2 TX2 7, w ∈ Ts) (hlink : Cond.fieldLink own index "HatWorks$Tape" "at" "I" ∈ Ts) (d : decode cc pc = .ok (.getfield index, 3)) (h : hw_J K (WH ad t) kc ks g a c lv (pc + 3) (.int (g 8) :: st)) : hw_J K (WH ad t) kc ks g a c lv pc (.ref (ad 1) :: st) := hj_get F hin 1 rfl (ci := 2) (C := RX2) (T := TX2) (N := 7) rfl 3 (by decide) hlink rfl d h
theorem hp_T_at (F : hw_F K l D (WH ad t) (hw_T t) X cc own Ts rm nL) (hin : ∀ w ∈ u_ws RX2 TX2 7, w ∈ Ts) (hlink : Cond.fieldLink own index "HatWorks$Tape" "at" "I" ∈ Ts) {v : Int32} (d : decode cc pc = .ok (.putfield index, 3)) (h : hw_J K (WH ad t) kc ks (upd g 8 v) a c lv (pc + 3) st) : hw_J K (WH ad t) kc ks g a c lv pc (.int v :: .ref (ad 1) :: st) := hj_put F hin tyX2_ok nmX2 1 rfl (ci := 2) (C := RX2) (T := TX2) (N := 7) rfl 3 (by decide) hlink rfl (ty := .int) rfl rfl rfl (Nat.le_of_ble_eq_true rfl) (hw_set_fix (by decide) rfl (fun _ _ => rfl)) d h
theorem hg_T_fault (F : hw_F K l D (WH ad t) (hw_T t) X cc own Ts rm nL) (hin : ∀ w ∈ u_ws RX2 TX2 7, w ∈ Ts) (hlink : Cond.fieldLink own index "HatWorks$Tape" "fault" "I" ∈ Ts) (d : decode cc pc = .ok (.getfield index, 3)) (h : hw_J K (WH ad t) kc ks g a c lv (pc + 3) (.int (g 9) :: st)) : hw_J K (WH ad t) kc ks g a c lv pc (.ref (ad 1) :: st) := hj_get F hin 1 rfl (ci := 2) (C := RX2) (T := TX2) (N := 7) rfl 4 (by decide) hlink rfl d h
theorem hp_T_fault (F : hw_F K l D (WH ad t) (hw_T t) X cc own Ts rm nL) (hin : ∀ w ∈ u_ws RX2 TX2 7, w ∈ Ts) (hlink : Cond.fieldLink own index "HatWorks$Tape" "fault" "I" ∈ Ts) {v : Int32} (d : decode cc pc = .ok (.putfield index, 3)) (h : hw_J K (WH ad t) kc ks (upd g 9 v) a c lv (pc + 3) st) : hw_J K (WH ad t) kc ks g a c lv pc (.int v :: .ref (ad 1) :: st) := hj_put F hin tyX2_ok nmX2 1 rfl (ci := 2) (C := RX2) (T := TX2) (N := 7) rfl 4 (by decide) hlink rfl (ty := .int) rfl rfl rfl (Nat.le_of_ble_eq_true rfl) (hw_set_fix (by decide) rfl (fun _ _ => rfl)) d h
theorem hg_T_faultPlace (F : hw_F K l D (WH ad t) (hw_T t) X cc own Ts rm nL) (hin : ∀ w ∈ u_ws RX2 TX2 7, w ∈ Ts) (hlink : Cond.fieldLink own index "HatWorks$Tape" "faultPlace" "I" ∈ Ts) (d : decode cc pc = .ok (.getfield index, 3)) (h : hw_J K (WH ad t) kc ks g a c lv (pc + 3) (.int (g 10) :: st)) : hw_J K (WH ad t) kc ks g a c lv pc (.ref (ad 1) :: st) := hj_get F hin 1 rfl (ci := 2) (C := RX2) (T := TX2) (N := 7) rfl 5 (by decide) hlink rfl d h
theorem hp_T_faultPlace (F : hw_F K l D (WH ad t) (hw_T t) X cc own Ts rm nL) (hin : ∀ w ∈ u_ws RX2 TX2 7, w ∈ Ts) (hlink : Cond.fieldLink own index "HatWorks$Tape" "faultPlace" "I" ∈ Ts) {v : Int32} (d : decode cc pc = .ok (.putfield index, 3)) (h : hw_J K (WH ad t) kc ks (upd g 10 v) a c lv (pc + 3) st) : hw_J K (WH ad t) kc ks g a c lv pc (.int v :: .ref (ad 1) :: st) := hj_put F hin tyX2_ok nmX2 1 rfl (ci := 2) (C := RX2) (T := TX2) (N := 7) rfl 5 (by decide) hlink rfl (ty := .int) rfl rfl rfl (Nat.le_of_ble_eq_true rfl) (hw_set_fix (by decide) rfl (fun _ _ => rfl)) d h
theorem hg_T_size (F : hw_F K l D (WH ad t) (hw_T t) X cc own Ts rm nL) (hin : ∀ w ∈ u_ws RX2 TX2 7, w ∈ Ts) (hlink : Cond.fieldLink own index "HatWorks$Tape" "size" "I" ∈ Ts) (d : decode cc pc = .ok (.getfield index, 3)) (h : hw_J K (WH ad t) kc ks g a c lv (pc + 3) (.int (g 11) :: st)) : hw_J K (WH ad t) kc ks g a c lv pc (.ref (ad 1) :: st) := hj_get F hin 1 rfl (ci := 2) (C := RX2) (T := TX2) (N := 7) rfl 6 (by decide) hlink rfl d h
theorem hp_T_size (F : hw_F K l D (WH ad t) (hw_T t) X cc own Ts rm nL) (hin : ∀ w ∈ u_ws RX2 TX2 7, w ∈ Ts) (hlink : Cond.fieldLink own index "HatWorks$Tape" "size" "I" ∈ Ts) {v : Int32} (d : decode cc pc = .ok (.putfield index, 3)) (h : hw_J K (WH ad t) kc ks (upd g 11 v) a c lv (pc + 3) st) : hw_J K (WH ad t) kc ks g a c lv pc (.int v :: .ref (ad 1) :: st) := hj_put F hin tyX2_ok nmX2 1 rfl (ci := 2) (C := RX2) (T := TX2) (N := 7) rfl 6 (by decide) hlink rfl (ty := .int) rfl rfl rfl (Nat.le_of_ble_eq_true rfl) (hw_set_fix (by decide) rfl (fun _ _ => rfl)) d h
theorem hg_B_rings (F : hw_F K l D (WH ad t) (hw_T t) X cc own Ts rm nL) (hin : ∀ w ∈ u_ws RX0 TX0 5, w ∈ Ts) (hlink : Cond.fieldLink own index "HatWorks$Blocks" "rings" "[[I" ∈ Ts) (d : decode cc pc = .ok (.getfield index, 3)) (h : hw_J K (WH ad t) kc ks g a c lv (pc + 3) (.ref (ad 31) :: st)) : hw_J K (WH ad t) kc ks g a c lv pc (.ref (ad 2) :: st) := hj_get F hin 2 rfl (ci := 0) (C := RX0) (T := TX0) (N := 5) rfl 0 (by decide) hlink rfl d h
theorem hg_B_wears (F : hw_F K l D (WH ad t) (hw_T t) X cc own Ts rm nL) (hin : ∀ w ∈ u_ws RX0 TX0 5, w ∈ Ts) (hlink : Cond.fieldLink own index "HatWorks$Blocks" "wears" "[[I" ∈ Ts) (d : decode cc pc = .ok (.getfield index, 3)) (h : hw_J K (WH ad t) kc ks g a c lv (pc + 3) (.ref (ad 32) :: st)) : hw_J K (WH ad t) kc ks g a c lv pc (.ref (ad 2) :: st) := hj_get F hin 2 rfl (ci := 0) (C := RX0) (T := TX0) (N := 5) rfl 1 (by decide) hlink rfl d h
theorem hg_B_freeFrom (F : hw_F K l D (WH ad t) (hw_T t) X cc own Ts rm nL) (hin : ∀ w ∈ u_ws RX0 TX0 5, w ∈ Ts) (hlink : Cond.fieldLink own index "HatWorks$Blocks" "freeFrom" "[I" ∈ Ts) (d : decode cc pc = .ok (.getfield index, 3)) (h : hw_J K (WH ad t) kc ks g a c lv (pc + 3) (.ref (ad 13) :: st)) : hw_J K (WH ad t) kc ks g a c lv pc (.ref (ad 2) :: st) := hj_get F hin 2 rfl (ci := 0) (C := RX0) (T := TX0) (N := 5) rfl 2 (by decide) hlink rfl d h
theorem hg_B_latest (F : hw_F K l D (WH ad t) (hw_T t) X cc own Ts rm nL) (hin : ∀ w ∈ u_ws RX0 TX0 5, w ∈ Ts) (hlink : Cond.fieldLink own index "HatWorks$Blocks" "latest" "[I" ∈ Ts) (d : decode cc pc = .ok (.getfield index, 3)) (h : hw_J K (WH ad t) kc ks g a c lv (pc + 3) (.ref (ad 14) :: st)) : hw_J K (WH ad t) kc ks g a c lv pc (.ref (ad 2) :: st) := hj_get F hin 2 rfl (ci := 0) (C := RX0) (T := TX0) (N := 5) rfl 3 (by decide) hlink rfl d h
theorem hg_B_size (F : hw_F K l D (WH ad t) (hw_T t) X cc own Ts rm nL) (hin : ∀ w ∈ u_ws RX0 TX0 5, w ∈ Ts) (hlink : Cond.fieldLink own index "HatWorks$Blocks" "size" "I" ∈ Ts) (d : decode cc pc = .ok (.getfield index, 3)) (h : hw_J K (WH ad t) kc ks g a c lv (pc + 3) (.int (g 12) :: st)) : hw_J K (WH ad t) kc ks g a c lv pc (.ref (ad 2) :: st) := hj_get F hin 2 rfl (ci := 0) (C := RX0) (T := TX0) (N := 5) rfl 4 (by decide) hlink rfl d h
theorem hp_B_size (F : hw_F K l D (WH ad t) (hw_T t) X cc own Ts rm nL) (hin : ∀ w ∈ u_ws RX0 TX0 5, w ∈ Ts) (hlink : Cond.fieldLink own index "HatWorks$Blocks" "size" "I" ∈ Ts) {v : Int32} (d : decode cc pc = .ok (.putfield index, 3)) (h : hw_J K (WH ad t) kc ks (upd g 12 v) a c lv (pc + 3) st) : hw_J K (WH ad t) kc ks g a c lv pc (.int v :: .ref (ad 2) :: st) := hj_put F hin tyX0_ok nmX0 2 rfl (ci := 0) (C := RX0) (T := TX0) (N := 5) rfl 4 (by decide) hlink rfl (ty := .int) rfl rfl rfl (Nat.le_of_ble_eq_true rfl) (hw_set_fix (by decide) rfl (fun _ _ => rfl)) d h
theorem hg_P_numbers (F : hw_F K l D (WH ad t) (hw_T t) X cc own Ts rm nL) (hin : ∀ w ∈ u_ws RX1 TX1 12, w ∈ Ts) (hlink : Cond.fieldLink own index "HatWorks$Planner" "numbers" "[I" ∈ Ts) (d : decode cc pc = .ok (.getfield index, 3)) (h : hw_J K (WH ad t) kc ks g a c lv (pc + 3) (.ref (ad 15) :: st)) : hw_J K (WH ad t) kc ks g a c lv pc (.ref (ad 3) :: st) := hj_get F hin 3 rfl (ci := 1) (C := RX1) (T := TX1) (N := 12) rfl 0 (by decide) hlink rfl d h
theorem hg_P_onBlock (F : hw_F K l D (WH ad t) (hw_T t) X cc own Ts rm nL) (hin : ∀ w ∈ u_ws RX1 TX1 12, w ∈ Ts) (hlink : Cond.fieldLink own index "HatWorks$Planner" "onBlock" "[I" ∈ Ts) (d : decode cc pc = .ok (.getfield index, 3)) (h : hw_J K (WH ad t) kc ks g a c lv (pc + 3) (.ref (ad 16) :: st)) : hw_J K (WH ad t) kc ks g a c lv pc (.ref (ad 3) :: st) := hj_get F hin 3 rfl (ci := 1) (C := RX1) (T := TX1) (N := 12) rfl 1 (by decide) hlink rfl d h
theorem hg_P_steams (F : hw_F K l D (WH ad t) (hw_T t) X cc own Ts rm nL) (hin : ∀ w ∈ u_ws RX1 TX1 12, w ∈ Ts) (hlink : Cond.fieldLink own index "HatWorks$Planner" "steams" "[I" ∈ Ts) (d : decode cc pc = .ok (.getfield index, 3)) (h : hw_J K (WH ad t) kc ks g a c lv (pc + 3) (.ref (ad 17) :: st)) : hw_J K (WH ad t) kc ks g a c lv pc (.ref (ad 3) :: st) := hj_get F hin 3 rfl (ci := 1) (C := RX1) (T := TX1) (N := 12) rfl 2 (by decide) hlink rfl d h
theorem hg_P_ons (F : hw_F K l D (WH ad t) (hw_T t) X cc own Ts rm nL) (hin : ∀ w ∈ u_ws RX1 TX1 12, w ∈ Ts) (hlink : Cond.fieldLink own index "HatWorks$Planner" "ons" "[I" ∈ Ts) (d : decode cc pc = .ok (.getfield index, 3)) (h : hw_J K (WH ad t) kc ks g a c lv (pc + 3) (.ref (ad 18) :: st)) : hw_J K (WH ad t) kc ks g a c lv pc (.ref (ad 3) :: st) := hj_get F hin 3 rfl (ci := 1) (C := RX1) (T := TX1) (N := 12) rfl 3 (by decide) hlink rfl d h
theorem hg_P_weights (F : hw_F K l D (WH ad t) (hw_T t) X cc own Ts rm nL) (hin : ∀ w ∈ u_ws RX1 TX1 12, w ∈ Ts) (hlink : Cond.fieldLink own index "HatWorks$Planner" "weights" "[I" ∈ Ts) (d : decode cc pc = .ok (.getfield index, 3)) (h : hw_J K (WH ad t) kc ks g a c lv (pc + 3) (.ref (ad 19) :: st)) : hw_J K (WH ad t) kc ks g a c lv pc (.ref (ad 3) :: st) := hj_get F hin 3 rfl (ci := 1) (C := RX1) (T := TX1) (N := 12) rfl 4 (by decide) hlink rfl d h
theorem hg_P_gone (F : hw_F K l D (WH ad t) (hw_T t) X cc own Ts rm nL) (hin : ∀ w ∈ u_ws RX1 TX1 12, w ∈ Ts) (hlink : Cond.fieldLink own index "HatWorks$Planner" "gone" "[Z" ∈ Ts) (d : decode cc pc = .ok (.getfield index, 3)) (h : hw_J K (WH ad t) kc ks g a c lv (pc + 3) (.ref (ad 20) :: st)) : hw_J K (WH ad t) kc ks g a c lv pc (.ref (ad 3) :: st) := hj_get F hin 3 rfl (ci := 1) (C := RX1) (T := TX1) (N := 12) rfl 5 (by decide) hlink rfl d h
theorem hg_P_tried (F : hw_F K l D (WH ad t) (hw_T t) X cc own Ts rm nL) (hin : ∀ w ∈ u_ws RX1 TX1 12, w ∈ Ts) (hlink : Cond.fieldLink own index "HatWorks$Planner" "tried" "[I" ∈ Ts) (d : decode cc pc = .ok (.getfield index, 3)) (h : hw_J K (WH ad t) kc ks g a c lv (pc + 3) (.ref (ad 21) :: st)) : hw_J K (WH ad t) kc ks g a c lv pc (.ref (ad 3) :: st) := hj_get F hin 3 rfl (ci := 1) (C := RX1) (T := TX1) (N := 12) rfl 6 (by decide) hlink rfl d h
theorem hg_P_best (F : hw_F K l D (WH ad t) (hw_T t) X cc own Ts rm nL) (hin : ∀ w ∈ u_ws RX1 TX1 12, w ∈ Ts) (hlink : Cond.fieldLink own index "HatWorks$Planner" "best" "[I" ∈ Ts) (d : decode cc pc = .ok (.getfield index, 3)) (h : hw_J K (WH ad t) kc ks g a c lv (pc + 3) (.ref (ad 22) :: st)) : hw_J K (WH ad t) kc ks g a c lv pc (.ref (ad 3) :: st) := hj_get F hin 3 rfl (ci := 1) (C := RX1) (T := TX1) (N := 12) rfl 7 (by decide) hlink rfl d h
theorem hg_P_blockFree (F : hw_F K l D (WH ad t) (hw_T t) X cc own Ts rm nL) (hin : ∀ w ∈ u_ws RX1 TX1 12, w ∈ Ts) (hlink : Cond.fieldLink own index "HatWorks$Planner" "blockFree" "[I" ∈ Ts) (d : decode cc pc = .ok (.getfield index, 3)) (h : hw_J K (WH ad t) kc ks g a c lv (pc + 3) (.ref (ad 23) :: st)) : hw_J K (WH ad t) kc ks g a c lv pc (.ref (ad 3) :: st) := hj_get F hin 3 rfl (ci := 1) (C := RX1) (T := TX1) (N := 12) rfl 8 (by decide) hlink rfl d h
theorem hg_P_minute (F : hw_F K l D (WH ad t) (hw_T t) X cc own Ts rm nL) (hin : ∀ w ∈ u_ws RX1 TX1 12, w ∈ Ts) (hlink : Cond.fieldLink own index "HatWorks$Planner" "minute" "I" ∈ Ts) (d : decode cc pc = .ok (.getfield index, 3)) (h : hw_J K (WH ad t) kc ks g a c lv (pc + 3) (.int (g 13) :: st)) : hw_J K (WH ad t) kc ks g a c lv pc (.ref (ad 3) :: st) := hj_get F hin 3 rfl (ci := 1) (C := RX1) (T := TX1) (N := 12) rfl 9 (by decide) hlink rfl d h
theorem hp_P_minute (F : hw_F K l D (WH ad t) (hw_T t) X cc own Ts rm nL) (hin : ∀ w ∈ u_ws RX1 TX1 12, w ∈ Ts) (hlink : Cond.fieldLink own index "HatWorks$Planner" "minute" "I" ∈ Ts) {v : Int32} (d : decode cc pc = .ok (.putfield index, 3)) (h : hw_J K (WH ad t) kc ks (upd g 13 v) a c lv (pc + 3) st) : hw_J K (WH ad t) kc ks g a c lv pc (.int v :: .ref (ad 3) :: st) := hj_put F hin tyX1_ok nmX1 3 rfl (ci := 1) (C := RX1) (T := TX1) (N := 12) rfl 9 (by decide) hlink rfl (ty := .int) rfl rfl rfl (Nat.le_of_ble_eq_true rfl) (hw_set_fix (by decide) rfl (fun _ _ => rfl)) d h
theorem hg_P_leastCost (F : hw_F K l D (WH ad t) (hw_T t) X cc own Ts rm nL) (hin : ∀ w ∈ u_ws RX1 TX1 12, w ∈ Ts) (hlink : Cond.fieldLink own index "HatWorks$Planner" "leastCost" "J" ∈ Ts) (d : decode cc pc = .ok (.getfield index, 3)) (h : hw_J K (WH ad t) kc ks g a c lv (pc + 3) (.long c :: st)) : hw_J K (WH ad t) kc ks g a c lv pc (.ref (ad 3) :: st) := hj_get F hin 3 rfl (ci := 1) (C := RX1) (T := TX1) (N := 12) rfl 10 (by decide) hlink rfl d h
theorem hp_P_leastCost (F : hw_F K l D (WH ad t) (hw_T t) X cc own Ts rm nL) (hin : ∀ w ∈ u_ws RX1 TX1 12, w ∈ Ts) (hlink : Cond.fieldLink own index "HatWorks$Planner" "leastCost" "J" ∈ Ts) {v : Int64} (d : decode cc pc = .ok (.putfield index, 3)) (h : hw_J K (WH ad t) kc ks g a v lv (pc + 3) st) : hw_J K (WH ad t) kc ks g a c lv pc (.long v :: .ref (ad 3) :: st) := hj_put F hin tyX1_ok nmX1 3 rfl (ci := 1) (C := RX1) (T := TX1) (N := 12) rfl 10 (by decide) hlink rfl (ty := .long) rfl rfl rfl (Nat.le_of_ble_eq_true rfl) (hw_set_fix (by decide) rfl (fun _ _ => rfl)) d h
theorem hg_P_size (F : hw_F K l D (WH ad t) (hw_T t) X cc own Ts rm nL) (hin : ∀ w ∈ u_ws RX1 TX1 12, w ∈ Ts) (hlink : Cond.fieldLink own index "HatWorks$Planner" "size" "I" ∈ Ts) (d : decode cc pc = .ok (.getfield index, 3)) (h : hw_J K (WH ad t) kc ks g a c lv (pc + 3) (.int (g 14) :: st)) : hw_J K (WH ad t) kc ks g a c lv pc (.ref (ad 3) :: st) := hj_get F hin 3 rfl (ci := 1) (C := RX1) (T := TX1) (N := 12) rfl 11 (by decide) hlink rfl d h
theorem hp_P_size (F : hw_F K l D (WH ad t) (hw_T t) X cc own Ts rm nL) (hin : ∀ w ∈ u_ws RX1 TX1 12, w ∈ Ts) (hlink : Cond.fieldLink own index "HatWorks$Planner" "size" "I" ∈ Ts) {v : Int32} (d : decode cc pc = .ok (.putfield index, 3)) (h : hw_J K (WH ad t) kc ks (upd g 14 v) a c lv (pc + 3) st) : hw_J K (WH ad t) kc ks g a c lv pc (.int v :: .ref (ad 3) :: st) := hj_put F hin tyX1_ok nmX1 3 rfl (ci := 1) (C := RX1) (T := TX1) (N := 12) rfl 11 (by decide) hlink rfl (ty := .int) rfl rfl rfl (Nat.le_of_ble_eq_true rfl) (hw_set_fix (by decide) rfl (fun _ _ => rfl)) d h
theorem hg_M_thrown (F : hw_F K l D (WM ad t) (hw_T t) X cc own Ts rm nL) (hin : ∀ w ∈ u_ws RX4 TX4 28, w ∈ Ts) (hlink : Cond.fieldLink own index "HatWorksModel" "thrown" "I" ∈ Ts) (d : decode cc pc = .ok (.getfield index, 3)) (h : hw_J K (WM ad t) kc ks g a c lv (pc + 3) (.int (g 0) :: st)) : hw_J K (WM ad t) kc ks g a c lv pc (.ref (ad 0) :: st) := hj_get F hin 0 rfl (ci := 4) (C := RX4) (T := TX4) (N := 28) rfl 0 (by decide) hlink rfl d h
theorem hp_M_thrown (F : hw_F K l D (WM ad t) (hw_T t) X cc own Ts rm nL) (hin : ∀ w ∈ u_ws RX4 TX4 28, w ∈ Ts) (hlink : Cond.fieldLink own index "HatWorksModel" "thrown" "I" ∈ Ts) {v : Int32} (d : decode cc pc = .ok (.putfield index, 3)) (h : hw_J K (WM ad t) kc ks (upd g 0 v) a c lv (pc + 3) st) : hw_J K (WM ad t) kc ks g a c lv pc (.int v :: .ref (ad 0) :: st) := hj_put F hin tyX4_ok nmX4 0 rfl (ci := 4) (C := RX4) (T := TX4) (N := 28) rfl 0 (by decide) hlink rfl (ty := .int) rfl rfl rfl (Nat.le_of_ble_eq_true rfl) rfl d h
theorem hg_M_hand (F : hw_F K l D (WM ad t) (hw_T t) X cc own Ts rm nL) (hin : ∀ w ∈ u_ws RX4 TX4 28, w ∈ Ts) (hlink : Cond.fieldLink own index "HatWorksModel" "hand" "[I" ∈ Ts) (d : decode cc pc = .ok (.getfield index, 3)) (h : hw_J K (WM ad t) kc ks g a c lv (pc + 3) (.ref (ad 10) :: st)) : hw_J K (WM ad t) kc ks g a c lv pc (.ref (ad 0) :: st) := hj_get F hin 0 rfl (ci := 4) (C := RX4) (T := TX4) (N := 28) rfl 1 (by decide) hlink rfl d h
theorem hg_M_handMany (F : hw_F K l D (WM ad t) (hw_T t) X cc own Ts rm nL) (hin : ∀ w ∈ u_ws RX4 TX4 28, w ∈ Ts) (hlink : Cond.fieldLink own index "HatWorksModel" "handMany" "I" ∈ Ts) (d : decode cc pc = .ok (.getfield index, 3)) (h : hw_J K (WM ad t) kc ks g a c lv (pc + 3) (.int (g 1) :: st)) : hw_J K (WM ad t) kc ks g a c lv pc (.ref (ad 0) :: st) := hj_get F hin 0 rfl (ci := 4) (C := RX4) (T := TX4) (N := 28) rfl 2 (by decide) hlink rfl d h
theorem hp_M_handMany (F : hw_F K l D (WM ad t) (hw_T t) X cc own Ts rm nL) (hin : ∀ w ∈ u_ws RX4 TX4 28, w ∈ Ts) (hlink : Cond.fieldLink own index "HatWorksModel" "handMany" "I" ∈ Ts) {v : Int32} (d : decode cc pc = .ok (.putfield index, 3)) (h : hw_J K (WM ad t) kc ks (upd g 1 v) a c lv (pc + 3) st) : hw_J K (WM ad t) kc ks g a c lv pc (.int v :: .ref (ad 0) :: st) := hj_put F hin tyX4_ok nmX4 0 rfl (ci := 4) (C := RX4) (T := TX4) (N := 28) rfl 2 (by decide) hlink rfl (ty := .int) rfl rfl rfl (Nat.le_of_ble_eq_true rfl) rfl d h
theorem hg_M_rings (F : hw_F K l D (WM ad t) (hw_T t) X cc own Ts rm nL) (hin : ∀ w ∈ u_ws RX4 TX4 28, w ∈ Ts) (hlink : Cond.fieldLink own index "HatWorksModel" "rings" "[I" ∈ Ts) (d : decode cc pc = .ok (.getfield index, 3)) (h : hw_J K (WM ad t) kc ks g a c lv (pc + 3) (.ref (ad 11) :: st)) : hw_J K (WM ad t) kc ks g a c lv pc (.ref (ad 0) :: st) := hj_get F hin 0 rfl (ci := 4) (C := RX4) (T := TX4) (N := 28) rfl 3 (by decide) hlink rfl d h
theorem hg_M_blocks (F : hw_F K l D (WM ad t) (hw_T t) X cc own Ts rm nL) (hin : ∀ w ∈ u_ws RX4 TX4 28, w ∈ Ts) (hlink : Cond.fieldLink own index "HatWorksModel" "blocks" "I" ∈ Ts) (d : decode cc pc = .ok (.getfield index, 3)) (h : hw_J K (WM ad t) kc ks g a c lv (pc + 3) (.int (g 2) :: st)) : hw_J K (WM ad t) kc ks g a c lv pc (.ref (ad 0) :: st) := hj_get F hin 0 rfl (ci := 4) (C := RX4) (T := TX4) (N := 28) rfl 4 (by decide) hlink rfl d h
theorem hp_M_blocks (F : hw_F K l D (WM ad t) (hw_T t) X cc own Ts rm nL) (hin : ∀ w ∈ u_ws RX4 TX4 28, w ∈ Ts) (hlink : Cond.fieldLink own index "HatWorksModel" "blocks" "I" ∈ Ts) {v : Int32} (d : decode cc pc = .ok (.putfield index, 3)) (h : hw_J K (WM ad t) kc ks (upd g 2 v) a c lv (pc + 3) st) : hw_J K (WM ad t) kc ks g a c lv pc (.int v :: .ref (ad 0) :: st) := hj_put F hin tyX4_ok nmX4 0 rfl (ci := 4) (C := RX4) (T := TX4) (N := 28) rfl 4 (by decide) hlink rfl (ty := .int) rfl rfl rfl (Nat.le_of_ble_eq_true rfl) rfl d h
theorem hg_M_tape (F : hw_F K l D (WM ad t) (hw_T t) X cc own Ts rm nL) (hin : ∀ w ∈ u_ws RX4 TX4 28, w ∈ Ts) (hlink : Cond.fieldLink own index "HatWorksModel" "tape" "[B" ∈ Ts) (d : decode cc pc = .ok (.getfield index, 3)) (h : hw_J K (WM ad t) kc ks g a c lv (pc + 3) (.ref (ad 12) :: st)) : hw_J K (WM ad t) kc ks g a c lv pc (.ref (ad 0) :: st) := hj_get F hin 0 rfl (ci := 4) (C := RX4) (T := TX4) (N := 28) rfl 5 (by decide) hlink rfl d h
theorem hg_M_taped (F : hw_F K l D (WM ad t) (hw_T t) X cc own Ts rm nL) (hin : ∀ w ∈ u_ws RX4 TX4 28, w ∈ Ts) (hlink : Cond.fieldLink own index "HatWorksModel" "taped" "I" ∈ Ts) (d : decode cc pc = .ok (.getfield index, 3)) (h : hw_J K (WM ad t) kc ks g a c lv (pc + 3) (.int (g 3) :: st)) : hw_J K (WM ad t) kc ks g a c lv pc (.ref (ad 0) :: st) := hj_get F hin 0 rfl (ci := 4) (C := RX4) (T := TX4) (N := 28) rfl 6 (by decide) hlink rfl d h
theorem hp_M_taped (F : hw_F K l D (WM ad t) (hw_T t) X cc own Ts rm nL) (hin : ∀ w ∈ u_ws RX4 TX4 28, w ∈ Ts) (hlink : Cond.fieldLink own index "HatWorksModel" "taped" "I" ∈ Ts) {v : Int32} (d : decode cc pc = .ok (.putfield index, 3)) (h : hw_J K (WM ad t) kc ks (upd g 3 v) a c lv (pc + 3) st) : hw_J K (WM ad t) kc ks g a c lv pc (.int v :: .ref (ad 0) :: st) := hj_put F hin tyX4_ok nmX4 0 rfl (ci := 4) (C := RX4) (T := TX4) (N := 28) rfl 6 (by decide) hlink rfl (ty := .int) rfl rfl rfl (Nat.le_of_ble_eq_true rfl) rfl d h
theorem hg_M_size (F : hw_F K l D (WM ad t) (hw_T t) X cc own Ts rm nL) (hin : ∀ w ∈ u_ws RX4 TX4 28, w ∈ Ts) (hlink : Cond.fieldLink own index "HatWorksModel" "size" "I" ∈ Ts) (d : decode cc pc = .ok (.getfield index, 3)) (h : hw_J K (WM ad t) kc ks g a c lv (pc + 3) (.int (g 4) :: st)) : hw_J K (WM ad t) kc ks g a c lv pc (.ref (ad 0) :: st) := hj_get F hin 0 rfl (ci := 4) (C := RX4) (T := TX4) (N := 28) rfl 7 (by decide) hlink rfl d h
theorem hp_M_size (F : hw_F K l D (WM ad t) (hw_T t) X cc own Ts rm nL) (hin : ∀ w ∈ u_ws RX4 TX4 28, w ∈ Ts) (hlink : Cond.fieldLink own index "HatWorksModel" "size" "I" ∈ Ts) {v : Int32} (d : decode cc pc = .ok (.putfield index, 3)) (h : hw_J K (WM ad t) kc ks (upd g 4 v) a c lv (pc + 3) st) : hw_J K (WM ad t) kc ks g a c lv pc (.int v :: .ref (ad 0) :: st) := hj_put F hin tyX4_ok nmX4 0 rfl (ci := 4) (C := RX4) (T := TX4) (N := 28) rfl 7 (by decide) hlink rfl (ty := .int) rfl rfl rfl (Nat.le_of_ble_eq_true rfl) rfl d h
theorem hg_M_at (F : hw_F K l D (WM ad t) (hw_T t) X cc own Ts rm nL) (hin : ∀ w ∈ u_ws RX4 TX4 28, w ∈ Ts) (hlink : Cond.fieldLink own index "HatWorksModel" "at" "I" ∈ Ts) (d : decode cc pc = .ok (.getfield index, 3)) (h : hw_J K (WM ad t) kc ks g a c lv (pc + 3) (.int (g 5) :: st)) : hw_J K (WM ad t) kc ks g a c lv pc (.ref (ad 0) :: st) := hj_get F hin 0 rfl (ci := 4) (C := RX4) (T := TX4) (N := 28) rfl 8 (by decide) hlink rfl d h
theorem hp_M_at (F : hw_F K l D (WM ad t) (hw_T t) X cc own Ts rm nL) (hin : ∀ w ∈ u_ws RX4 TX4 28, w ∈ Ts) (hlink : Cond.fieldLink own index "HatWorksModel" "at" "I" ∈ Ts) {v : Int32} (d : decode cc pc = .ok (.putfield index, 3)) (h : hw_J K (WM ad t) kc ks (upd g 5 v) a c lv (pc + 3) st) : hw_J K (WM ad t) kc ks g a c lv pc (.int v :: .ref (ad 0) :: st) := hj_put F hin tyX4_ok nmX4 0 rfl (ci := 4) (C := RX4) (T := TX4) (N := 28) rfl 8 (by decide) hlink rfl (ty := .int) rfl rfl rfl (Nat.le_of_ble_eq_true rfl) rfl d h
theorem hg_M_fault (F : hw_F K l D (WM ad t) (hw_T t) X cc own Ts rm nL) (hin : ∀ w ∈ u_ws RX4 TX4 28, w ∈ Ts) (hlink : Cond.fieldLink own index "HatWorksModel" "fault" "I" ∈ Ts) (d : decode cc pc = .ok (.getfield index, 3)) (h : hw_J K (WM ad t) kc ks g a c lv (pc + 3) (.int (g 6) :: st)) : hw_J K (WM ad t) kc ks g a c lv pc (.ref (ad 0) :: st) := hj_get F hin 0 rfl (ci := 4) (C := RX4) (T := TX4) (N := 28) rfl 9 (by decide) hlink rfl d h
theorem hp_M_fault (F : hw_F K l D (WM ad t) (hw_T t) X cc own Ts rm nL) (hin : ∀ w ∈ u_ws RX4 TX4 28, w ∈ Ts) (hlink : Cond.fieldLink own index "HatWorksModel" "fault" "I" ∈ Ts) {v : Int32} (d : decode cc pc = .ok (.putfield index, 3)) (h : hw_J K (WM ad t) kc ks (upd g 6 v) a c lv (pc + 3) st) : hw_J K (WM ad t) kc ks g a c lv pc (.int v :: .ref (ad 0) :: st) := hj_put F hin tyX4_ok nmX4 0 rfl (ci := 4) (C := RX4) (T := TX4) (N := 28) rfl 9 (by decide) hlink rfl (ty := .int) rfl rfl rfl (Nat.le_of_ble_eq_true rfl) rfl d h
theorem hg_M_place (F : hw_F K l D (WM ad t) (hw_T t) X cc own Ts rm nL) (hin : ∀ w ∈ u_ws RX4 TX4 28, w ∈ Ts) (hlink : Cond.fieldLink own index "HatWorksModel" "place" "I" ∈ Ts) (d : decode cc pc = .ok (.getfield index, 3)) (h : hw_J K (WM ad t) kc ks g a c lv (pc + 3) (.int (g 7) :: st)) : hw_J K (WM ad t) kc ks g a c lv pc (.ref (ad 0) :: st) := hj_get F hin 0 rfl (ci := 4) (C := RX4) (T := TX4) (N := 28) rfl 10 (by decide) hlink rfl d h
theorem hp_M_place (F : hw_F K l D (WM ad t) (hw_T t) X cc own Ts rm nL) (hin : ∀ w ∈ u_ws RX4 TX4 28, w ∈ Ts) (hlink : Cond.fieldLink own index "HatWorksModel" "place" "I" ∈ Ts) {v : Int32} (d : decode cc pc = .ok (.putfield index, 3)) (h : hw_J K (WM ad t) kc ks (upd g 7 v) a c lv (pc + 3) st) : hw_J K (WM ad t) kc ks g a c lv pc (.int v :: .ref (ad 0) :: st) := hj_put F hin tyX4_ok nmX4 0 rfl (ci := 4) (C := RX4) (T := TX4) (N := 28) rfl 10 (by decide) hlink rfl (ty := .int) rfl rfl rfl (Nat.le_of_ble_eq_true rfl) rfl d h
theorem hg_M_part (F : hw_F K l D (WM ad t) (hw_T t) X cc own Ts rm nL) (hin : ∀ w ∈ u_ws RX4 TX4 28, w ∈ Ts) (hlink : Cond.fieldLink own index "HatWorksModel" "part" "[I" ∈ Ts) (d : decode cc pc = .ok (.getfield index, 3)) (h : hw_J K (WM ad t) kc ks g a c lv (pc + 3) (.ref (ad 13) :: st)) : hw_J K (WM ad t) kc ks g a c lv pc (.ref (ad 0) :: st) := hj_get F hin 0 rfl (ci := 4) (C := RX4) (T := TX4) (N := 28) rfl 11 (by decide) hlink rfl d h
theorem hg_M_has (F : hw_F K l D (WM ad t) (hw_T t) X cc own Ts rm nL) (hin : ∀ w ∈ u_ws RX4 TX4 28, w ∈ Ts) (hlink : Cond.fieldLink own index "HatWorksModel" "has" "[Z" ∈ Ts) (d : decode cc pc = .ok (.getfield index, 3)) (h : hw_J K (WM ad t) kc ks g a c lv (pc + 3) (.ref (ad 14) :: st)) : hw_J K (WM ad t) kc ks g a c lv pc (.ref (ad 0) :: st) := hj_get F hin 0 rfl (ci := 4) (C := RX4) (T := TX4) (N := 28) rfl 12 (by decide) hlink rfl d h
theorem hg_M_now (F : hw_F K l D (WM ad t) (hw_T t) X cc own Ts rm nL) (hin : ∀ w ∈ u_ws RX4 TX4 28, w ∈ Ts) (hlink : Cond.fieldLink own index "HatWorksModel" "now" "I" ∈ Ts) (d : decode cc pc = .ok (.getfield index, 3)) (h : hw_J K (WM ad t) kc ks g a c lv (pc + 3) (.int (g 8) :: st)) : hw_J K (WM ad t) kc ks g a c lv pc (.ref (ad 0) :: st) := hj_get F hin 0 rfl (ci := 4) (C := RX4) (T := TX4) (N := 28) rfl 13 (by decide) hlink rfl d h
theorem hp_M_now (F : hw_F K l D (WM ad t) (hw_T t) X cc own Ts rm nL) (hin : ∀ w ∈ u_ws RX4 TX4 28, w ∈ Ts) (hlink : Cond.fieldLink own index "HatWorksModel" "now" "I" ∈ Ts) {v : Int32} (d : decode cc pc = .ok (.putfield index, 3)) (h : hw_J K (WM ad t) kc ks (upd g 8 v) a c lv (pc + 3) st) : hw_J K (WM ad t) kc ks g a c lv pc (.int v :: .ref (ad 0) :: st) := hj_put F hin tyX4_ok nmX4 0 rfl (ci := 4) (C := RX4) (T := TX4) (N := 28) rfl 13 (by decide) hlink rfl (ty := .int) rfl rfl rfl (Nat.le_of_ble_eq_true rfl) rfl d h
theorem hg_M_orders (F : hw_F K l D (WM ad t) (hw_T t) X cc own Ts rm nL) (hin : ∀ w ∈ u_ws RX4 TX4 28, w ∈ Ts) (hlink : Cond.fieldLink own index "HatWorksModel" "orders" "I" ∈ Ts) (d : decode cc pc = .ok (.getfield index, 3)) (h : hw_J K (WM ad t) kc ks g a c lv (pc + 3) (.int (g 9) :: st)) : hw_J K (WM ad t) kc ks g a c lv pc (.ref (ad 0) :: st) := hj_get F hin 0 rfl (ci := 4) (C := RX4) (T := TX4) (N := 28) rfl 14 (by decide) hlink rfl d h
theorem hp_M_orders (F : hw_F K l D (WM ad t) (hw_T t) X cc own Ts rm nL) (hin : ∀ w ∈ u_ws RX4 TX4 28, w ∈ Ts) (hlink : Cond.fieldLink own index "HatWorksModel" "orders" "I" ∈ Ts) {v : Int32} (d : decode cc pc = .ok (.putfield index, 3)) (h : hw_J K (WM ad t) kc ks (upd g 9 v) a c lv (pc + 3) st) : hw_J K (WM ad t) kc ks g a c lv pc (.int v :: .ref (ad 0) :: st) := hj_put F hin tyX4_ok nmX4 0 rfl (ci := 4) (C := RX4) (T := TX4) (N := 28) rfl 14 (by decide) hlink rfl (ty := .int) rfl rfl rfl (Nat.le_of_ble_eq_true rfl) rfl d h
theorem hg_M_steamer (F : hw_F K l D (WM ad t) (hw_T t) X cc own Ts rm nL) (hin : ∀ w ∈ u_ws RX4 TX4 28, w ∈ Ts) (hlink : Cond.fieldLink own index "HatWorksModel" "steamer" "I" ∈ Ts) (d : decode cc pc = .ok (.getfield index, 3)) (h : hw_J K (WM ad t) kc ks g a c lv (pc + 3) (.int (g 10) :: st)) : hw_J K (WM ad t) kc ks g a c lv pc (.ref (ad 0) :: st) := hj_get F hin 0 rfl (ci := 4) (C := RX4) (T := TX4) (N := 28) rfl 15 (by decide) hlink rfl d h
theorem hp_M_steamer (F : hw_F K l D (WM ad t) (hw_T t) X cc own Ts rm nL) (hin : ∀ w ∈ u_ws RX4 TX4 28, w ∈ Ts) (hlink : Cond.fieldLink own index "HatWorksModel" "steamer" "I" ∈ Ts) {v : Int32} (d : decode cc pc = .ok (.putfield index, 3)) (h : hw_J K (WM ad t) kc ks (upd g 10 v) a c lv (pc + 3) st) : hw_J K (WM ad t) kc ks g a c lv pc (.int v :: .ref (ad 0) :: st) := hj_put F hin tyX4_ok nmX4 0 rfl (ci := 4) (C := RX4) (T := TX4) (N := 28) rfl 15 (by decide) hlink rfl (ty := .int) rfl rfl rfl (Nat.le_of_ble_eq_true rfl) rfl d h
theorem hg_M_lastSteam (F : hw_F K l D (WM ad t) (hw_T t) X cc own Ts rm nL) (hin : ∀ w ∈ u_ws RX4 TX4 28, w ∈ Ts) (hlink : Cond.fieldLink own index "HatWorksModel" "lastSteam" "I" ∈ Ts) (d : decode cc pc = .ok (.getfield index, 3)) (h : hw_J K (WM ad t) kc ks g a c lv (pc + 3) (.int (g 11) :: st)) : hw_J K (WM ad t) kc ks g a c lv pc (.ref (ad 0) :: st) := hj_get F hin 0 rfl (ci := 4) (C := RX4) (T := TX4) (N := 28) rfl 16 (by decide) hlink rfl d h
theorem hp_M_lastSteam (F : hw_F K l D (WM ad t) (hw_T t) X cc own Ts rm nL) (hin : ∀ w ∈ u_ws RX4 TX4 28, w ∈ Ts) (hlink : Cond.fieldLink own index "HatWorksModel" "lastSteam" "I" ∈ Ts) {v : Int32} (d : decode cc pc = .ok (.putfield index, 3)) (h : hw_J K (WM ad t) kc ks (upd g 11 v) a c lv (pc + 3) st) : hw_J K (WM ad t) kc ks g a c lv pc (.int v :: .ref (ad 0) :: st) := hj_put F hin tyX4_ok nmX4 0 rfl (ci := 4) (C := RX4) (T := TX4) (N := 28) rfl 16 (by decide) hlink rfl (ty := .int) rfl rfl rfl (Nat.le_of_ble_eq_true rfl) rfl d h
theorem hg_M_blockFree (F : hw_F K l D (WM ad t) (hw_T t) X cc own Ts rm nL) (hin : ∀ w ∈ u_ws RX4 TX4 28, w ∈ Ts) (hlink : Cond.fieldLink own index "HatWorksModel" "blockFree" "[I" ∈ Ts) (d : decode cc pc = .ok (.getfield index, 3)) (h : hw_J K (WM ad t) kc ks g a c lv (pc + 3) (.ref (ad 15) :: st)) : hw_J K (WM ad t) kc ks g a c lv pc (.ref (ad 0) :: st) := hj_get F hin 0 rfl (ci := 4) (C := RX4) (T := TX4) (N := 28) rfl 17 (by decide) hlink rfl d h
theorem hg_M_lastOn (F : hw_F K l D (WM ad t) (hw_T t) X cc own Ts rm nL) (hin : ∀ w ∈ u_ws RX4 TX4 28, w ∈ Ts) (hlink : Cond.fieldLink own index "HatWorksModel" "lastOn" "[I" ∈ Ts) (d : decode cc pc = .ok (.getfield index, 3)) (h : hw_J K (WM ad t) kc ks g a c lv (pc + 3) (.ref (ad 16) :: st)) : hw_J K (WM ad t) kc ks g a c lv pc (.ref (ad 0) :: st) := hj_get F hin 0 rfl (ci := 4) (C := RX4) (T := TX4) (N := 28) rfl 18 (by decide) hlink rfl d h
theorem hg_M_order (F : hw_F K l D (WM ad t) (hw_T t) X cc own Ts rm nL) (hin : ∀ w ∈ u_ws RX4 TX4 28, w ∈ Ts) (hlink : Cond.fieldLink own index "HatWorksModel" "order" "[I" ∈ Ts) (d : decode cc pc = .ok (.getfield index, 3)) (h : hw_J K (WM ad t) kc ks g a c lv (pc + 3) (.ref (ad 17) :: st)) : hw_J K (WM ad t) kc ks g a c lv pc (.ref (ad 0) :: st) := hj_get F hin 0 rfl (ci := 4) (C := RX4) (T := TX4) (N := 28) rfl 19 (by decide) hlink rfl d h
theorem hg_M_fits (F : hw_F K l D (WM ad t) (hw_T t) X cc own Ts rm nL) (hin : ∀ w ∈ u_ws RX4 TX4 28, w ∈ Ts) (hlink : Cond.fieldLink own index "HatWorksModel" "fits" "[I" ∈ Ts) (d : decode cc pc = .ok (.getfield index, 3)) (h : hw_J K (WM ad t) kc ks g a c lv (pc + 3) (.ref (ad 18) :: st)) : hw_J K (WM ad t) kc ks g a c lv pc (.ref (ad 0) :: st) := hj_get F hin 0 rfl (ci := 4) (C := RX4) (T := TX4) (N := 28) rfl 20 (by decide) hlink rfl d h
theorem hg_M_isTold (F : hw_F K l D (WM ad t) (hw_T t) X cc own Ts rm nL) (hin : ∀ w ∈ u_ws RX4 TX4 28, w ∈ Ts) (hlink : Cond.fieldLink own index "HatWorksModel" "isTold" "[Z" ∈ Ts) (d : decode cc pc = .ok (.getfield index, 3)) (h : hw_J K (WM ad t) kc ks g a c lv (pc + 3) (.ref (ad 19) :: st)) : hw_J K (WM ad t) kc ks g a c lv pc (.ref (ad 0) :: st) := hj_get F hin 0 rfl (ci := 4) (C := RX4) (T := TX4) (N := 28) rfl 21 (by decide) hlink rfl d h
theorem hg_M_of (F : hw_F K l D (WM ad t) (hw_T t) X cc own Ts rm nL) (hin : ∀ w ∈ u_ws RX4 TX4 28, w ∈ Ts) (hlink : Cond.fieldLink own index "HatWorksModel" "of" "[I" ∈ Ts) (d : decode cc pc = .ok (.getfield index, 3)) (h : hw_J K (WM ad t) kc ks g a c lv (pc + 3) (.ref (ad 20) :: st)) : hw_J K (WM ad t) kc ks g a c lv pc (.ref (ad 0) :: st) := hj_get F hin 0 rfl (ci := 4) (C := RX4) (T := TX4) (N := 28) rfl 22 (by decide) hlink rfl d h
theorem hg_M_row (F : hw_F K l D (WM ad t) (hw_T t) X cc own Ts rm nL) (hin : ∀ w ∈ u_ws RX4 TX4 28, w ∈ Ts) (hlink : Cond.fieldLink own index "HatWorksModel" "row" "[I" ∈ Ts) (d : decode cc pc = .ok (.getfield index, 3)) (h : hw_J K (WM ad t) kc ks g a c lv (pc + 3) (.ref (ad 21) :: st)) : hw_J K (WM ad t) kc ks g a c lv pc (.ref (ad 0) :: st) := hj_get F hin 0 rfl (ci := 4) (C := RX4) (T := TX4) (N := 28) rfl 23 (by decide) hlink rfl d h
theorem hg_M_best (F : hw_F K l D (WM ad t) (hw_T t) X cc own Ts rm nL) (hin : ∀ w ∈ u_ws RX4 TX4 28, w ∈ Ts) (hlink : Cond.fieldLink own index "HatWorksModel" "best" "[I" ∈ Ts) (d : decode cc pc = .ok (.getfield index, 3)) (h : hw_J K (WM ad t) kc ks g a c lv (pc + 3) (.ref (ad 22) :: st)) : hw_J K (WM ad t) kc ks g a c lv pc (.ref (ad 0) :: st) := hj_get F hin 0 rfl (ci := 4) (C := RX4) (T := TX4) (N := 28) rfl 24 (by decide) hlink rfl d h
theorem hg_M_free (F : hw_F K l D (WM ad t) (hw_T t) X cc own Ts rm nL) (hin : ∀ w ∈ u_ws RX4 TX4 28, w ∈ Ts) (hlink : Cond.fieldLink own index "HatWorksModel" "free" "[I" ∈ Ts) (d : decode cc pc = .ok (.getfield index, 3)) (h : hw_J K (WM ad t) kc ks g a c lv (pc + 3) (.ref (ad 23) :: st)) : hw_J K (WM ad t) kc ks g a c lv pc (.ref (ad 0) :: st) := hj_get F hin 0 rfl (ci := 4) (C := RX4) (T := TX4) (N := 28) rfl 25 (by decide) hlink rfl d h
theorem hg_M_many (F : hw_F K l D (WM ad t) (hw_T t) X cc own Ts rm nL) (hin : ∀ w ∈ u_ws RX4 TX4 28, w ∈ Ts) (hlink : Cond.fieldLink own index "HatWorksModel" "many" "I" ∈ Ts) (d : decode cc pc = .ok (.getfield index, 3)) (h : hw_J K (WM ad t) kc ks g a c lv (pc + 3) (.int (g 12) :: st)) : hw_J K (WM ad t) kc ks g a c lv pc (.ref (ad 0) :: st) := hj_get F hin 0 rfl (ci := 4) (C := RX4) (T := TX4) (N := 28) rfl 26 (by decide) hlink rfl d h
theorem hp_M_many (F : hw_F K l D (WM ad t) (hw_T t) X cc own Ts rm nL) (hin : ∀ w ∈ u_ws RX4 TX4 28, w ∈ Ts) (hlink : Cond.fieldLink own index "HatWorksModel" "many" "I" ∈ Ts) {v : Int32} (d : decode cc pc = .ok (.putfield index, 3)) (h : hw_J K (WM ad t) kc ks (upd g 12 v) a c lv (pc + 3) st) : hw_J K (WM ad t) kc ks g a c lv pc (.int v :: .ref (ad 0) :: st) := hj_put F hin tyX4_ok nmX4 0 rfl (ci := 4) (C := RX4) (T := TX4) (N := 28) rfl 26 (by decide) hlink rfl (ty := .int) rfl rfl rfl (Nat.le_of_ble_eq_true rfl) rfl d h
theorem hg_M_bestCost (F : hw_F K l D (WM ad t) (hw_T t) X cc own Ts rm nL) (hin : ∀ w ∈ u_ws RX4 TX4 28, w ∈ Ts) (hlink : Cond.fieldLink own index "HatWorksModel" "bestCost" "J" ∈ Ts) (d : decode cc pc = .ok (.getfield index, 3)) (h : hw_J K (WM ad t) kc ks g a c lv (pc + 3) (.long c :: st)) : hw_J K (WM ad t) kc ks g a c lv pc (.ref (ad 0) :: st) := hj_get F hin 0 rfl (ci := 4) (C := RX4) (T := TX4) (N := 28) rfl 27 (by decide) hlink rfl d h
theorem hp_M_bestCost (F : hw_F K l D (WM ad t) (hw_T t) X cc own Ts rm nL) (hin : ∀ w ∈ u_ws RX4 TX4 28, w ∈ Ts) (hlink : Cond.fieldLink own index "HatWorksModel" "bestCost" "J" ∈ Ts) {v : Int64} (d : decode cc pc = .ok (.putfield index, 3)) (h : hw_J K (WM ad t) kc ks g a v lv (pc + 3) st) : hw_J K (WM ad t) kc ks g a c lv pc (.long v :: .ref (ad 0) :: st) := hj_put F hin tyX4_ok nmX4 0 rfl (ci := 4) (C := RX4) (T := TX4) (N := 28) rfl 27 (by decide) hlink rfl (ty := .long) rfl rfl rfl (Nat.le_of_ble_eq_true rfl) rfl d h
theorem hl_X_hand (F : hw_F K l D (WH ad t) (hw_T t) X cc own Ts rm nL) {i : Int32} (hin : vp_in i 12) (d : decode cc pc = .ok (.iaload, 1)) (h : hw_J K (WH ad t) kc ks g a c lv (pc + 1) (.int (a 0 i.toNatClampNeg) :: st)) : hw_J K (WH ad t) kc ks g a c lv pc (.int i :: .ref (ad 10) :: st) := hj_iald F 4 0 (cA := t 0) (n := 12) (f := a 0) rfl rfl hin d h
theorem hs_X_hand (F : hw_F K l D (WH ad t) (hw_T t) X cc own Ts rm nL) {i x : Int32} (hin : vp_in i 12) (d : decode cc pc = .ok (.iastore, 1)) (h : hw_J K (WH ad t) kc ks g (va_up a 0 (upd (a 0) i.toNatClampNeg x)) c lv (pc + 1) st) : hw_J K (WH ad t) kc ks g a c lv pc (.int x :: .int i :: .ref (ad 10) :: st) := hj_iast F 4 0 (cA := t 0) (n := 12) (f := a 0) rfl rfl hin (hw_set_fix (by decide) rfl (fun k hk => (va_up_ne _ _ (by omega)).symm)) d h
theorem hl_T_bytes (F : hw_F K l D (WH ad t) (hw_T t) X cc own Ts rm nL) {i : Int32} (hin : vp_in i 100) (d : decode cc pc = .ok (.baload, 1)) (h : hw_J K (WH ad t) kc ks g a c lv (pc + 1) (.int (a 1 i.toNatClampNeg) :: st)) : hw_J K (WH ad t) kc ks g a c lv pc (.int i :: .ref (ad 11) :: st) := hj_bald F 5 1 (cA := t 1) (n := 100) (f := a 1) rfl rfl hin d h
theorem hs_T_bytes (F : hw_F K l D (WH ad t) (hw_T t) X cc own Ts rm nL) {i x : Int32} (hin : vp_in i 100) (d : decode cc pc = .ok (.bastore, 1)) (h : hw_J K (WH ad t) kc ks g (va_up a 1 (upd (a 1) i.toNatClampNeg (vp_nar .byte x))) c lv (pc + 1) st) : hw_J K (WH ad t) kc ks g a c lv pc (.int x :: .int i :: .ref (ad 11) :: st) := hj_bast F 5 1 (cA := t 1) (n := 100) (f := a 1) rfl rfl hin (hw_set_fix (by decide) rfl (fun k hk => (va_up_ne _ _ (by omega)).symm)) d h
theorem hl_T_parts (F : hw_F K l D (WH ad t) (hw_T t) X cc own Ts rm nL) {i : Int32} (hin : vp_in i 4) (d : decode cc pc = .ok (.iaload, 1)) (h : hw_J K (WH ad t) kc ks g a c lv (pc + 1) (.int (a 2 i.toNatClampNeg) :: st)) : hw_J K (WH ad t) kc ks g a c lv pc (.int i :: .ref (ad 12) :: st) := hj_iald F 6 0 (cA := t 0) (n := 4) (f := a 2) rfl rfl hin d h
theorem hs_T_parts (F : hw_F K l D (WH ad t) (hw_T t) X cc own Ts rm nL) {i x : Int32} (hin : vp_in i 4) (d : decode cc pc = .ok (.iastore, 1)) (h : hw_J K (WH ad t) kc ks g (va_up a 2 (upd (a 2) i.toNatClampNeg x)) c lv (pc + 1) st) : hw_J K (WH ad t) kc ks g a c lv pc (.int x :: .int i :: .ref (ad 12) :: st) := hj_iast F 6 0 (cA := t 0) (n := 4) (f := a 2) rfl rfl hin (hw_set_fix (by decide) rfl (fun k hk => (va_up_ne _ _ (by omega)).symm)) d h
theorem hl_B_freeFrom (F : hw_F K l D (WH ad t) (hw_T t) X cc own Ts rm nL) {i : Int32} (hin : vp_in i 10) (d : decode cc pc = .ok (.iaload, 1)) (h : hw_J K (WH ad t) kc ks g a c lv (pc + 1) (.int (a 3 i.toNatClampNeg) :: st)) : hw_J K (WH ad t) kc ks g a c lv pc (.int i :: .ref (ad 13) :: st) := hj_iald F 7 0 (cA := t 0) (n := 10) (f := a 3) rfl rfl hin d h
theorem hs_B_freeFrom (F : hw_F K l D (WH ad t) (hw_T t) X cc own Ts rm nL) {i x : Int32} (hin : vp_in i 10) (d : decode cc pc = .ok (.iastore, 1)) (h : hw_J K (WH ad t) kc ks g (va_up a 3 (upd (a 3) i.toNatClampNeg x)) c lv (pc + 1) st) : hw_J K (WH ad t) kc ks g a c lv pc (.int x :: .int i :: .ref (ad 13) :: st) := hj_iast F 7 0 (cA := t 0) (n := 10) (f := a 3) rfl rfl hin (hw_set_fix (by decide) rfl (fun k hk => (va_up_ne _ _ (by omega)).symm)) d h
theorem hl_B_latest (F : hw_F K l D (WH ad t) (hw_T t) X cc own Ts rm nL) {i : Int32} (hin : vp_in i 10) (d : decode cc pc = .ok (.iaload, 1)) (h : hw_J K (WH ad t) kc ks g a c lv (pc + 1) (.int (a 4 i.toNatClampNeg) :: st)) : hw_J K (WH ad t) kc ks g a c lv pc (.int i :: .ref (ad 14) :: st) := hj_iald F 8 0 (cA := t 0) (n := 10) (f := a 4) rfl rfl hin d h
theorem hs_B_latest (F : hw_F K l D (WH ad t) (hw_T t) X cc own Ts rm nL) {i x : Int32} (hin : vp_in i 10) (d : decode cc pc = .ok (.iastore, 1)) (h : hw_J K (WH ad t) kc ks g (va_up a 4 (upd (a 4) i.toNatClampNeg x)) c lv (pc + 1) st) : hw_J K (WH ad t) kc ks g a c lv pc (.int x :: .int i :: .ref (ad 14) :: st) := hj_iast F 8 0 (cA := t 0) (n := 10) (f := a 4) rfl rfl hin (hw_set_fix (by decide) rfl (fun k hk => (va_up_ne _ _ (by omega)).symm)) d h
theorem hl_P_numbers (F : hw_F K l D (WH ad t) (hw_T t) X cc own Ts rm nL) {i : Int32} (hin : vp_in i 7) (d : decode cc pc = .ok (.iaload, 1)) (h : hw_J K (WH ad t) kc ks g a c lv (pc + 1) (.int (a 5 i.toNatClampNeg) :: st)) : hw_J K (WH ad t) kc ks g a c lv pc (.int i :: .ref (ad 15) :: st) := hj_iald F 9 0 (cA := t 0) (n := 7) (f := a 5) rfl rfl hin d h
theorem hs_P_numbers (F : hw_F K l D (WH ad t) (hw_T t) X cc own Ts rm nL) {i x : Int32} (hin : vp_in i 7) (d : decode cc pc = .ok (.iastore, 1)) (h : hw_J K (WH ad t) kc ks g (va_up a 5 (upd (a 5) i.toNatClampNeg x)) c lv (pc + 1) st) : hw_J K (WH ad t) kc ks g a c lv pc (.int x :: .int i :: .ref (ad 15) :: st) := hj_iast F 9 0 (cA := t 0) (n := 7) (f := a 5) rfl rfl hin (hw_set_fix (by decide) rfl (fun k hk => (va_up_ne _ _ (by omega)).symm)) d h
theorem hl_P_onBlock (F : hw_F K l D (WH ad t) (hw_T t) X cc own Ts rm nL) {i : Int32} (hin : vp_in i 7) (d : decode cc pc = .ok (.iaload, 1)) (h : hw_J K (WH ad t) kc ks g a c lv (pc + 1) (.int (a 6 i.toNatClampNeg) :: st)) : hw_J K (WH ad t) kc ks g a c lv pc (.int i :: .ref (ad 16) :: st) := hj_iald F 10 0 (cA := t 0) (n := 7) (f := a 6) rfl rfl hin d h
theorem hs_P_onBlock (F : hw_F K l D (WH ad t) (hw_T t) X cc own Ts rm nL) {i x : Int32} (hin : vp_in i 7) (d : decode cc pc = .ok (.iastore, 1)) (h : hw_J K (WH ad t) kc ks g (va_up a 6 (upd (a 6) i.toNatClampNeg x)) c lv (pc + 1) st) : hw_J K (WH ad t) kc ks g a c lv pc (.int x :: .int i :: .ref (ad 16) :: st) := hj_iast F 10 0 (cA := t 0) (n := 7) (f := a 6) rfl rfl hin (hw_set_fix (by decide) rfl (fun k hk => (va_up_ne _ _ (by omega)).symm)) d h
theorem hl_P_steams (F : hw_F K l D (WH ad t) (hw_T t) X cc own Ts rm nL) {i : Int32} (hin : vp_in i 7) (d : decode cc pc = .ok (.iaload, 1)) (h : hw_J K (WH ad t) kc ks g a c lv (pc + 1) (.int (a 7 i.toNatClampNeg) :: st)) : hw_J K (WH ad t) kc ks g a c lv pc (.int i :: .ref (ad 17) :: st) := hj_iald F 11 0 (cA := t 0) (n := 7) (f := a 7) rfl rfl hin d h
theorem hs_P_steams (F : hw_F K l D (WH ad t) (hw_T t) X cc own Ts rm nL) {i x : Int32} (hin : vp_in i 7) (d : decode cc pc = .ok (.iastore, 1)) (h : hw_J K (WH ad t) kc ks g (va_up a 7 (upd (a 7) i.toNatClampNeg x)) c lv (pc + 1) st) : hw_J K (WH ad t) kc ks g a c lv pc (.int x :: .int i :: .ref (ad 17) :: st) := hj_iast F 11 0 (cA := t 0) (n := 7) (f := a 7) rfl rfl hin (hw_set_fix (by decide) rfl (fun k hk => (va_up_ne _ _ (by omega)).symm)) d h
theorem hl_P_ons (F : hw_F K l D (WH ad t) (hw_T t) X cc own Ts rm nL) {i : Int32} (hin : vp_in i 7) (d : decode cc pc = .ok (.iaload, 1)) (h : hw_J K (WH ad t) kc ks g a c lv (pc + 1) (.int (a 8 i.toNatClampNeg) :: st)) : hw_J K (WH ad t) kc ks g a c lv pc (.int i :: .ref (ad 18) :: st) := hj_iald F 12 0 (cA := t 0) (n := 7) (f := a 8) rfl rfl hin d h
theorem hs_P_ons (F : hw_F K l D (WH ad t) (hw_T t) X cc own Ts rm nL) {i x : Int32} (hin : vp_in i 7) (d : decode cc pc = .ok (.iastore, 1)) (h : hw_J K (WH ad t) kc ks g (va_up a 8 (upd (a 8) i.toNatClampNeg x)) c lv (pc + 1) st) : hw_J K (WH ad t) kc ks g a c lv pc (.int x :: .int i :: .ref (ad 18) :: st) := hj_iast F 12 0 (cA := t 0) (n := 7) (f := a 8) rfl rfl hin (hw_set_fix (by decide) rfl (fun k hk => (va_up_ne _ _ (by omega)).symm)) d h
theorem hl_P_weights (F : hw_F K l D (WH ad t) (hw_T t) X cc own Ts rm nL) {i : Int32} (hin : vp_in i 7) (d : decode cc pc = .ok (.iaload, 1)) (h : hw_J K (WH ad t) kc ks g a c lv (pc + 1) (.int (a 9 i.toNatClampNeg) :: st)) : hw_J K (WH ad t) kc ks g a c lv pc (.int i :: .ref (ad 19) :: st) := hj_iald F 13 0 (cA := t 0) (n := 7) (f := a 9) rfl rfl hin d h
theorem hs_P_weights (F : hw_F K l D (WH ad t) (hw_T t) X cc own Ts rm nL) {i x : Int32} (hin : vp_in i 7) (d : decode cc pc = .ok (.iastore, 1)) (h : hw_J K (WH ad t) kc ks g (va_up a 9 (upd (a 9) i.toNatClampNeg x)) c lv (pc + 1) st) : hw_J K (WH ad t) kc ks g a c lv pc (.int x :: .int i :: .ref (ad 19) :: st) := hj_iast F 13 0 (cA := t 0) (n := 7) (f := a 9) rfl rfl hin (hw_set_fix (by decide) rfl (fun k hk => (va_up_ne _ _ (by omega)).symm)) d h
theorem hl_P_gone (F : hw_F K l D (WH ad t) (hw_T t) X cc own Ts rm nL) {i : Int32} (hin : vp_in i 7) (d : decode cc pc = .ok (.baload, 1)) (h : hw_J K (WH ad t) kc ks g a c lv (pc + 1) (.int (a 10 i.toNatClampNeg) :: st)) : hw_J K (WH ad t) kc ks g a c lv pc (.int i :: .ref (ad 20) :: st) := hj_zald F 14 2 (cA := t 2) (n := 7) (f := a 10) rfl rfl hin d h
theorem hs_P_gone (F : hw_F K l D (WH ad t) (hw_T t) X cc own Ts rm nL) {i x : Int32} (hin : vp_in i 7) (d : decode cc pc = .ok (.bastore, 1)) (h : hw_J K (WH ad t) kc ks g (va_up a 10 (upd (a 10) i.toNatClampNeg (vp_nar .boolean x))) c lv (pc + 1) st) : hw_J K (WH ad t) kc ks g a c lv pc (.int x :: .int i :: .ref (ad 20) :: st) := hj_zast F 14 2 (cA := t 2) (n := 7) (f := a 10) rfl rfl hin (hw_set_fix (by decide) rfl (fun k hk => (va_up_ne _ _ (by omega)).symm)) d h
theorem hl_P_tried (F : hw_F K l D (WH ad t) (hw_T t) X cc own Ts rm nL) {i : Int32} (hin : vp_in i 7) (d : decode cc pc = .ok (.iaload, 1)) (h : hw_J K (WH ad t) kc ks g a c lv (pc + 1) (.int (a 11 i.toNatClampNeg) :: st)) : hw_J K (WH ad t) kc ks g a c lv pc (.int i :: .ref (ad 21) :: st) := hj_iald F 15 0 (cA := t 0) (n := 7) (f := a 11) rfl rfl hin d h
theorem hs_P_tried (F : hw_F K l D (WH ad t) (hw_T t) X cc own Ts rm nL) {i x : Int32} (hin : vp_in i 7) (d : decode cc pc = .ok (.iastore, 1)) (h : hw_J K (WH ad t) kc ks g (va_up a 11 (upd (a 11) i.toNatClampNeg x)) c lv (pc + 1) st) : hw_J K (WH ad t) kc ks g a c lv pc (.int x :: .int i :: .ref (ad 21) :: st) := hj_iast F 15 0 (cA := t 0) (n := 7) (f := a 11) rfl rfl hin (hw_set_fix (by decide) rfl (fun k hk => (va_up_ne _ _ (by omega)).symm)) d h
theorem hl_P_best (F : hw_F K l D (WH ad t) (hw_T t) X cc own Ts rm nL) {i : Int32} (hin : vp_in i 7) (d : decode cc pc = .ok (.iaload, 1)) (h : hw_J K (WH ad t) kc ks g a c lv (pc + 1) (.int (a 12 i.toNatClampNeg) :: st)) : hw_J K (WH ad t) kc ks g a c lv pc (.int i :: .ref (ad 22) :: st) := hj_iald F 16 0 (cA := t 0) (n := 7) (f := a 12) rfl rfl hin d h
theorem hs_P_best (F : hw_F K l D (WH ad t) (hw_T t) X cc own Ts rm nL) {i x : Int32} (hin : vp_in i 7) (d : decode cc pc = .ok (.iastore, 1)) (h : hw_J K (WH ad t) kc ks g (va_up a 12 (upd (a 12) i.toNatClampNeg x)) c lv (pc + 1) st) : hw_J K (WH ad t) kc ks g a c lv pc (.int x :: .int i :: .ref (ad 22) :: st) := hj_iast F 16 0 (cA := t 0) (n := 7) (f := a 12) rfl rfl hin (hw_set_fix (by decide) rfl (fun k hk => (va_up_ne _ _ (by omega)).symm)) d h
theorem hl_P_blockFree (F : hw_F K l D (WH ad t) (hw_T t) X cc own Ts rm nL) {i : Int32} (hin : vp_in i 10) (d : decode cc pc = .ok (.iaload, 1)) (h : hw_J K (WH ad t) kc ks g a c lv (pc + 1) (.int (a 13 i.toNatClampNeg) :: st)) : hw_J K (WH ad t) kc ks g a c lv pc (.int i :: .ref (ad 23) :: st) := hj_iald F 17 0 (cA := t 0) (n := 10) (f := a 13) rfl rfl hin d h
theorem hs_P_blockFree (F : hw_F K l D (WH ad t) (hw_T t) X cc own Ts rm nL) {i x : Int32} (hin : vp_in i 10) (d : decode cc pc = .ok (.iastore, 1)) (h : hw_J K (WH ad t) kc ks g (va_up a 13 (upd (a 13) i.toNatClampNeg x)) c lv (pc + 1) st) : hw_J K (WH ad t) kc ks g a c lv pc (.int x :: .int i :: .ref (ad 23) :: st) := hj_iast F 17 0 (cA := t 0) (n := 10) (f := a 13) rfl rfl hin (hw_set_fix (by decide) rfl (fun k hk => (va_up_ne _ _ (by omega)).symm)) d h
theorem hl_M_hand (F : hw_F K l D (WM ad t) (hw_T t) X cc own Ts rm nL) {i : Int32} (hin : vp_in i 12) (d : decode cc pc = .ok (.iaload, 1)) (h : hw_J K (WM ad t) kc ks g a c lv (pc + 1) (.int (a 0 i.toNatClampNeg) :: st)) : hw_J K (WM ad t) kc ks g a c lv pc (.int i :: .ref (ad 10) :: st) := hj_iald F 1 0 (cA := t 0) (n := 12) (f := a 0) rfl rfl hin d h
theorem hs_M_hand (F : hw_F K l D (WM ad t) (hw_T t) X cc own Ts rm nL) {i x : Int32} (hin : vp_in i 12) (d : decode cc pc = .ok (.iastore, 1)) (h : hw_J K (WM ad t) kc ks g (va_up a 0 (upd (a 0) i.toNatClampNeg x)) c lv (pc + 1) st) : hw_J K (WM ad t) kc ks g a c lv pc (.int x :: .int i :: .ref (ad 10) :: st) := hj_iast F 1 0 (cA := t 0) (n := 12) (f := a 0) rfl rfl hin rfl d h
theorem hl_M_rings (F : hw_F K l D (WM ad t) (hw_T t) X cc own Ts rm nL) {i : Int32} (hin : vp_in i 120) (d : decode cc pc = .ok (.iaload, 1)) (h : hw_J K (WM ad t) kc ks g a c lv (pc + 1) (.int (a 1 i.toNatClampNeg) :: st)) : hw_J K (WM ad t) kc ks g a c lv pc (.int i :: .ref (ad 11) :: st) := hj_iald F 2 0 (cA := t 0) (n := 120) (f := a 1) rfl rfl hin d h
theorem hs_M_rings (F : hw_F K l D (WM ad t) (hw_T t) X cc own Ts rm nL) {i x : Int32} (hin : vp_in i 120) (d : decode cc pc = .ok (.iastore, 1)) (h : hw_J K (WM ad t) kc ks g (va_up a 1 (upd (a 1) i.toNatClampNeg x)) c lv (pc + 1) st) : hw_J K (WM ad t) kc ks g a c lv pc (.int x :: .int i :: .ref (ad 11) :: st) := hj_iast F 2 0 (cA := t 0) (n := 120) (f := a 1) rfl rfl hin rfl d h
theorem hl_M_tape (F : hw_F K l D (WM ad t) (hw_T t) X cc own Ts rm nL) {i : Int32} (hin : vp_in i 100) (d : decode cc pc = .ok (.baload, 1)) (h : hw_J K (WM ad t) kc ks g a c lv (pc + 1) (.int (a 2 i.toNatClampNeg) :: st)) : hw_J K (WM ad t) kc ks g a c lv pc (.int i :: .ref (ad 12) :: st) := hj_bald F 3 1 (cA := t 1) (n := 100) (f := a 2) rfl rfl hin d h
theorem hs_M_tape (F : hw_F K l D (WM ad t) (hw_T t) X cc own Ts rm nL) {i x : Int32} (hin : vp_in i 100) (d : decode cc pc = .ok (.bastore, 1)) (h : hw_J K (WM ad t) kc ks g (va_up a 2 (upd (a 2) i.toNatClampNeg (vp_nar .byte x))) c lv (pc + 1) st) : hw_J K (WM ad t) kc ks g a c lv pc (.int x :: .int i :: .ref (ad 12) :: st) := hj_bast F 3 1 (cA := t 1) (n := 100) (f := a 2) rfl rfl hin rfl d h
theorem hl_M_part (F : hw_F K l D (WM ad t) (hw_T t) X cc own Ts rm nL) {i : Int32} (hin : vp_in i 4) (d : decode cc pc = .ok (.iaload, 1)) (h : hw_J K (WM ad t) kc ks g a c lv (pc + 1) (.int (a 3 i.toNatClampNeg) :: st)) : hw_J K (WM ad t) kc ks g a c lv pc (.int i :: .ref (ad 13) :: st) := hj_iald F 4 0 (cA := t 0) (n := 4) (f := a 3) rfl rfl hin d h
theorem hs_M_part (F : hw_F K l D (WM ad t) (hw_T t) X cc own Ts rm nL) {i x : Int32} (hin : vp_in i 4) (d : decode cc pc = .ok (.iastore, 1)) (h : hw_J K (WM ad t) kc ks g (va_up a 3 (upd (a 3) i.toNatClampNeg x)) c lv (pc + 1) st) : hw_J K (WM ad t) kc ks g a c lv pc (.int x :: .int i :: .ref (ad 13) :: st) := hj_iast F 4 0 (cA := t 0) (n := 4) (f := a 3) rfl rfl hin rfl d h
theorem hl_M_has (F : hw_F K l D (WM ad t) (hw_T t) X cc own Ts rm nL) {i : Int32} (hin : vp_in i 4) (d : decode cc pc = .ok (.baload, 1)) (h : hw_J K (WM ad t) kc ks g a c lv (pc + 1) (.int (a 4 i.toNatClampNeg) :: st)) : hw_J K (WM ad t) kc ks g a c lv pc (.int i :: .ref (ad 14) :: st) := hj_zald F 5 2 (cA := t 2) (n := 4) (f := a 4) rfl rfl hin d h
theorem hs_M_has (F : hw_F K l D (WM ad t) (hw_T t) X cc own Ts rm nL) {i x : Int32} (hin : vp_in i 4) (d : decode cc pc = .ok (.bastore, 1)) (h : hw_J K (WM ad t) kc ks g (va_up a 4 (upd (a 4) i.toNatClampNeg (vp_nar .boolean x))) c lv (pc + 1) st) : hw_J K (WM ad t) kc ks g a c lv pc (.int x :: .int i :: .ref (ad 14) :: st) := hj_zast F 5 2 (cA := t 2) (n := 4) (f := a 4) rfl rfl hin rfl d h
theorem hl_M_blockFree (F : hw_F K l D (WM ad t) (hw_T t) X cc own Ts rm nL) {i : Int32} (hin : vp_in i 10) (d : decode cc pc = .ok (.iaload, 1)) (h : hw_J K (WM ad t) kc ks g a c lv (pc + 1) (.int (a 5 i.toNatClampNeg) :: st)) : hw_J K (WM ad t) kc ks g a c lv pc (.int i :: .ref (ad 15) :: st) := hj_iald F 6 0 (cA := t 0) (n := 10) (f := a 5) rfl rfl hin d h
theorem hs_M_blockFree (F : hw_F K l D (WM ad t) (hw_T t) X cc own Ts rm nL) {i x : Int32} (hin : vp_in i 10) (d : decode cc pc = .ok (.iastore, 1)) (h : hw_J K (WM ad t) kc ks g (va_up a 5 (upd (a 5) i.toNatClampNeg x)) c lv (pc + 1) st) : hw_J K (WM ad t) kc ks g a c lv pc (.int x :: .int i :: .ref (ad 15) :: st) := hj_iast F 6 0 (cA := t 0) (n := 10) (f := a 5) rfl rfl hin rfl d h
theorem hl_M_lastOn (F : hw_F K l D (WM ad t) (hw_T t) X cc own Ts rm nL) {i : Int32} (hin : vp_in i 10) (d : decode cc pc = .ok (.iaload, 1)) (h : hw_J K (WM ad t) kc ks g a c lv (pc + 1) (.int (a 6 i.toNatClampNeg) :: st)) : hw_J K (WM ad t) kc ks g a c lv pc (.int i :: .ref (ad 16) :: st) := hj_iald F 7 0 (cA := t 0) (n := 10) (f := a 6) rfl rfl hin d h
theorem hs_M_lastOn (F : hw_F K l D (WM ad t) (hw_T t) X cc own Ts rm nL) {i x : Int32} (hin : vp_in i 10) (d : decode cc pc = .ok (.iastore, 1)) (h : hw_J K (WM ad t) kc ks g (va_up a 6 (upd (a 6) i.toNatClampNeg x)) c lv (pc + 1) st) : hw_J K (WM ad t) kc ks g a c lv pc (.int x :: .int i :: .ref (ad 16) :: st) := hj_iast F 7 0 (cA := t 0) (n := 10) (f := a 6) rfl rfl hin rfl d h
theorem hl_M_order (F : hw_F K l D (WM ad t) (hw_T t) X cc own Ts rm nL) {i : Int32} (hin : vp_in i 720) (d : decode cc pc = .ok (.iaload, 1)) (h : hw_J K (WM ad t) kc ks g a c lv (pc + 1) (.int (a 7 i.toNatClampNeg) :: st)) : hw_J K (WM ad t) kc ks g a c lv pc (.int i :: .ref (ad 17) :: st) := hj_iald F 8 0 (cA := t 0) (n := 720) (f := a 7) rfl rfl hin d h
theorem hs_M_order (F : hw_F K l D (WM ad t) (hw_T t) X cc own Ts rm nL) {i x : Int32} (hin : vp_in i 720) (d : decode cc pc = .ok (.iastore, 1)) (h : hw_J K (WM ad t) kc ks g (va_up a 7 (upd (a 7) i.toNatClampNeg x)) c lv (pc + 1) st) : hw_J K (WM ad t) kc ks g a c lv pc (.int x :: .int i :: .ref (ad 17) :: st) := hj_iast F 8 0 (cA := t 0) (n := 720) (f := a 7) rfl rfl hin rfl d h
theorem hl_M_fits (F : hw_F K l D (WM ad t) (hw_T t) X cc own Ts rm nL) {i : Int32} (hin : vp_in i 60) (d : decode cc pc = .ok (.iaload, 1)) (h : hw_J K (WM ad t) kc ks g a c lv (pc + 1) (.int (a 8 i.toNatClampNeg) :: st)) : hw_J K (WM ad t) kc ks g a c lv pc (.int i :: .ref (ad 18) :: st) := hj_iald F 9 0 (cA := t 0) (n := 60) (f := a 8) rfl rfl hin d h
theorem hs_M_fits (F : hw_F K l D (WM ad t) (hw_T t) X cc own Ts rm nL) {i x : Int32} (hin : vp_in i 60) (d : decode cc pc = .ok (.iastore, 1)) (h : hw_J K (WM ad t) kc ks g (va_up a 8 (upd (a 8) i.toNatClampNeg x)) c lv (pc + 1) st) : hw_J K (WM ad t) kc ks g a c lv pc (.int x :: .int i :: .ref (ad 18) :: st) := hj_iast F 9 0 (cA := t 0) (n := 60) (f := a 8) rfl rfl hin rfl d h
theorem hl_M_isTold (F : hw_F K l D (WM ad t) (hw_T t) X cc own Ts rm nL) {i : Int32} (hin : vp_in i 60) (d : decode cc pc = .ok (.baload, 1)) (h : hw_J K (WM ad t) kc ks g a c lv (pc + 1) (.int (a 9 i.toNatClampNeg) :: st)) : hw_J K (WM ad t) kc ks g a c lv pc (.int i :: .ref (ad 19) :: st) := hj_zald F 10 2 (cA := t 2) (n := 60) (f := a 9) rfl rfl hin d h
theorem hs_M_isTold (F : hw_F K l D (WM ad t) (hw_T t) X cc own Ts rm nL) {i x : Int32} (hin : vp_in i 60) (d : decode cc pc = .ok (.bastore, 1)) (h : hw_J K (WM ad t) kc ks g (va_up a 9 (upd (a 9) i.toNatClampNeg (vp_nar .boolean x))) c lv (pc + 1) st) : hw_J K (WM ad t) kc ks g a c lv pc (.int x :: .int i :: .ref (ad 19) :: st) := hj_zast F 10 2 (cA := t 2) (n := 60) (f := a 9) rfl rfl hin rfl d h
theorem hl_M_of (F : hw_F K l D (WM ad t) (hw_T t) X cc own Ts rm nL) {i : Int32} (hin : vp_in i 7) (d : decode cc pc = .ok (.iaload, 1)) (h : hw_J K (WM ad t) kc ks g a c lv (pc + 1) (.int (a 10 i.toNatClampNeg) :: st)) : hw_J K (WM ad t) kc ks g a c lv pc (.int i :: .ref (ad 20) :: st) := hj_iald F 11 0 (cA := t 0) (n := 7) (f := a 10) rfl rfl hin d h
theorem hs_M_of (F : hw_F K l D (WM ad t) (hw_T t) X cc own Ts rm nL) {i x : Int32} (hin : vp_in i 7) (d : decode cc pc = .ok (.iastore, 1)) (h : hw_J K (WM ad t) kc ks g (va_up a 10 (upd (a 10) i.toNatClampNeg x)) c lv (pc + 1) st) : hw_J K (WM ad t) kc ks g a c lv pc (.int x :: .int i :: .ref (ad 20) :: st) := hj_iast F 11 0 (cA := t 0) (n := 7) (f := a 10) rfl rfl hin rfl d h
theorem hl_M_row (F : hw_F K l D (WM ad t) (hw_T t) X cc own Ts rm nL) {i : Int32} (hin : vp_in i 7) (d : decode cc pc = .ok (.iaload, 1)) (h : hw_J K (WM ad t) kc ks g a c lv (pc + 1) (.int (a 11 i.toNatClampNeg) :: st)) : hw_J K (WM ad t) kc ks g a c lv pc (.int i :: .ref (ad 21) :: st) := hj_iald F 12 0 (cA := t 0) (n := 7) (f := a 11) rfl rfl hin d h
theorem hs_M_row (F : hw_F K l D (WM ad t) (hw_T t) X cc own Ts rm nL) {i x : Int32} (hin : vp_in i 7) (d : decode cc pc = .ok (.iastore, 1)) (h : hw_J K (WM ad t) kc ks g (va_up a 11 (upd (a 11) i.toNatClampNeg x)) c lv (pc + 1) st) : hw_J K (WM ad t) kc ks g a c lv pc (.int x :: .int i :: .ref (ad 21) :: st) := hj_iast F 12 0 (cA := t 0) (n := 7) (f := a 11) rfl rfl hin rfl d h
theorem hl_M_best (F : hw_F K l D (WM ad t) (hw_T t) X cc own Ts rm nL) {i : Int32} (hin : vp_in i 7) (d : decode cc pc = .ok (.iaload, 1)) (h : hw_J K (WM ad t) kc ks g a c lv (pc + 1) (.int (a 12 i.toNatClampNeg) :: st)) : hw_J K (WM ad t) kc ks g a c lv pc (.int i :: .ref (ad 22) :: st) := hj_iald F 13 0 (cA := t 0) (n := 7) (f := a 12) rfl rfl hin d h
theorem hs_M_best (F : hw_F K l D (WM ad t) (hw_T t) X cc own Ts rm nL) {i x : Int32} (hin : vp_in i 7) (d : decode cc pc = .ok (.iastore, 1)) (h : hw_J K (WM ad t) kc ks g (va_up a 12 (upd (a 12) i.toNatClampNeg x)) c lv (pc + 1) st) : hw_J K (WM ad t) kc ks g a c lv pc (.int x :: .int i :: .ref (ad 22) :: st) := hj_iast F 13 0 (cA := t 0) (n := 7) (f := a 12) rfl rfl hin rfl d h
theorem hl_M_free (F : hw_F K l D (WM ad t) (hw_T t) X cc own Ts rm nL) {i : Int32} (hin : vp_in i 10) (d : decode cc pc = .ok (.iaload, 1)) (h : hw_J K (WM ad t) kc ks g a c lv (pc + 1) (.int (a 13 i.toNatClampNeg) :: st)) : hw_J K (WM ad t) kc ks g a c lv pc (.int i :: .ref (ad 23) :: st) := hj_iald F 14 0 (cA := t 0) (n := 10) (f := a 13) rfl rfl hin d h
theorem hs_M_free (F : hw_F K l D (WM ad t) (hw_T t) X cc own Ts rm nL) {i x : Int32} (hin : vp_in i 10) (d : decode cc pc = .ok (.iastore, 1)) (h : hw_J K (WM ad t) kc ks g (va_up a 13 (upd (a 13) i.toNatClampNeg x)) c lv (pc + 1) st) : hw_J K (WM ad t) kc ks g a c lv pc (.int x :: .int i :: .ref (ad 23) :: st) := hj_iast F 14 0 (cA := t 0) (n := 10) (f := a 13) rfl rfl hin rfl d h
theorem hl_X_orders (F : hw_F K l D (WH ad t) (hw_T t) X cc own Ts rm nL) {i : Int32} (hin : vp_in i 60) (d : decode cc pc = .ok (.aaload, 1)) (h : hw_J K (WH ad t) kc ks g a c lv (pc + 1) (.ref (ad (100 + i.toNatClampNeg)) :: st)) : hw_J K (WH ad t) kc ks g a c lv pc (.int i :: .ref (ad 30) :: st) := hj_aald F 18 3 (cA := t 3) (n := 60) (f := hw_out ad 100 60) rfl rfl hin (if_pos (Nat.not_le.mp fun q => hin (Or.inr q))) d h
theorem hl_X_order (F : hw_F K l D (WH ad t) (hw_T t) X cc own Ts rm nL) {j : Nat} (hj : j < 60) {i : Int32} (hin : vp_in i 13) (d : decode cc pc = .ok (.iaload, 1)) (h : hw_J K (WH ad t) kc ks g a c lv (pc + 1) (.int (a (100 + j) i.toNatClampNeg) :: st)) : hw_J K (WH ad t) kc ks g a c lv pc (.int i :: .ref (ad (100 + j)) :: st) := hj_iald F (21 + j) 0 (cA := t 0) (n := 13) (f := a (100 + j)) (hw_at_X_order hj) rfl hin d h
theorem hs_X_order (F : hw_F K l D (WH ad t) (hw_T t) X cc own Ts rm nL) {j : Nat} (hj : j < 60) {i x : Int32} (hin : vp_in i 13) (d : decode cc pc = .ok (.iastore, 1)) (h : hw_J K (WH ad t) kc ks g (va_up a (100 + j) (upd (a (100 + j)) i.toNatClampNeg x)) c lv (pc + 1) st) : hw_J K (WH ad t) kc ks g a c lv pc (.int x :: .int i :: .ref (ad (100 + j)) :: st) := hj_iast F (21 + j) 0 (cA := t 0) (n := 13) (f := a (100 + j)) (hw_at_X_order hj) rfl hin (hw_set_X_order hj) d h
theorem hl_B_rings (F : hw_F K l D (WH ad t) (hw_T t) X cc own Ts rm nL) {i : Int32} (hin : vp_in i 10) (d : decode cc pc = .ok (.aaload, 1)) (h : hw_J K (WH ad t) kc ks g a c lv (pc + 1) (.ref (ad (200 + i.toNatClampNeg)) :: st)) : hw_J K (WH ad t) kc ks g a c lv pc (.int i :: .ref (ad 31) :: st) := hj_aald F 19 3 (cA := t 3) (n := 10) (f := hw_out ad 200 10) rfl rfl hin (if_pos (Nat.not_le.mp fun q => hin (Or.inr q))) d h
theorem hl_B_ring (F : hw_F K l D (WH ad t) (hw_T t) X cc own Ts rm nL) {j : Nat} (hj : j < 10) {i : Int32} (hin : vp_in i 12) (d : decode cc pc = .ok (.iaload, 1)) (h : hw_J K (WH ad t) kc ks g a c lv (pc + 1) (.int (a (200 + j) i.toNatClampNeg) :: st)) : hw_J K (WH ad t) kc ks g a c lv pc (.int i :: .ref (ad (200 + j)) :: st) := hj_iald F (81 + j) 0 (cA := t 0) (n := 12) (f := a (200 + j)) (hw_at_B_ring hj) rfl hin d h
theorem hs_B_ring (F : hw_F K l D (WH ad t) (hw_T t) X cc own Ts rm nL) {j : Nat} (hj : j < 10) {i x : Int32} (hin : vp_in i 12) (d : decode cc pc = .ok (.iastore, 1)) (h : hw_J K (WH ad t) kc ks g (va_up a (200 + j) (upd (a (200 + j)) i.toNatClampNeg x)) c lv (pc + 1) st) : hw_J K (WH ad t) kc ks g a c lv pc (.int x :: .int i :: .ref (ad (200 + j)) :: st) := hj_iast F (81 + j) 0 (cA := t 0) (n := 12) (f := a (200 + j)) (hw_at_B_ring hj) rfl hin (hw_set_B_ring hj) d h
theorem hl_B_wears (F : hw_F K l D (WH ad t) (hw_T t) X cc own Ts rm nL) {i : Int32} (hin : vp_in i 10) (d : decode cc pc = .ok (.aaload, 1)) (h : hw_J K (WH ad t) kc ks g a c lv (pc + 1) (.ref (ad (300 + i.toNatClampNeg)) :: st)) : hw_J K (WH ad t) kc ks g a c lv pc (.int i :: .ref (ad 32) :: st) := hj_aald F 20 3 (cA := t 3) (n := 10) (f := hw_out ad 300 10) rfl rfl hin (if_pos (Nat.not_le.mp fun q => hin (Or.inr q))) d h
theorem hl_B_wear (F : hw_F K l D (WH ad t) (hw_T t) X cc own Ts rm nL) {j : Nat} (hj : j < 10) {i : Int32} (hin : vp_in i 3) (d : decode cc pc = .ok (.iaload, 1)) (h : hw_J K (WH ad t) kc ks g a c lv (pc + 1) (.int (a (300 + j) i.toNatClampNeg) :: st)) : hw_J K (WH ad t) kc ks g a c lv pc (.int i :: .ref (ad (300 + j)) :: st) := hj_iald F (91 + j) 0 (cA := t 0) (n := 3) (f := a (300 + j)) (hw_at_B_wear hj) rfl hin d h
theorem hs_B_wear (F : hw_F K l D (WH ad t) (hw_T t) X cc own Ts rm nL) {j : Nat} (hj : j < 10) {i x : Int32} (hin : vp_in i 3) (d : decode cc pc = .ok (.iastore, 1)) (h : hw_J K (WH ad t) kc ks g (va_up a (300 + j) (upd (a (300 + j)) i.toNatClampNeg x)) c lv (pc + 1) st) : hw_J K (WH ad t) kc ks g a c lv pc (.int x :: .int i :: .ref (ad (300 + j)) :: st) := hj_iast F (91 + j) 0 (cA := t 0) (n := 3) (f := a (300 + j)) (hw_at_B_wear hj) rfl hin (hw_set_B_wear hj) d h
end HWF
end
section
/-! small rows on numbers, registers, and the pure readings of loops -/
abbrev hw_rm (n : Nat) : Room := { frames := n, cells := 0, slots := 0, locals := 64 * n }
theorem hw_inc {i : Int32} {n : Nat} (h : (!decide (i < 0) && decide (i.toNatClampNeg < n)) = true) : vp_in i n := by
  simp only [Bool.and_eq_true, Bool.not_eq_true', decide_eq_false_iff_not, decide_eq_true_eq] at h
  exact fun q => q.elim h.1 (fun q => Nat.not_lt.mpr q h.2)
theorem hw_inN {x : Int32} {k n : Nat} (e : x = nI k) (h : k < n) (hn : n < 2 ^ 31) : vp_in x n := by rw [e]; exact vp_in_nI h hn
theorem hw_lt {i : Int32} {n : Nat} (h : vp_in i n) : i.toNatClampNeg < n := Nat.not_le.mp fun q => h (Or.inr q)
theorem upd_uu (f : Nat → Int32) (k : Nat) (x y : Int32) : upd (upd f k x) k y = upd f k y := by
  funext j
  by_cases h : j = k <;> simp [upd, h]
theorem upd_self (f : Nat → Int32) (k : Nat) {x : Int32} (h : f k = x) : upd f k x = f := by
  funext j
  by_cases e : j = k
  · rw [e, pk_us, h]
  · rw [pk_un e]
theorem upd_comm (f : Nat → Int32) {k j : Nat} (x y : Int32) (h : k ≠ j) : upd (upd f k x) j y = upd (upd f j y) k x := by
  funext i
  by_cases h1 : i = k <;> by_cases h2 : i = j <;> simp [upd, h1, h2, h, Ne.symm h]
theorem vau_self {α : Type} (f : Nat → α) (k : Nat) {x : α} (h : f k = x) : va_up f k x = f := by
  funext j
  by_cases e : j = k
  · rw [e]; simp [va_up, h]
  · rw [va_up_ne _ _ e]
theorem vau_s {α : Type} (f : Nat → α) (k : Nat) (x : α) : va_up f k x k = x := by simp [va_up]
theorem vau_comm {α : Type} (f : Nat → α) {k j : Nat} (x y : α) (h : k ≠ j) : va_up (va_up f k x) j y = va_up (va_up f j y) k x := by
  funext i
  by_cases h1 : i = k <;> by_cases h2 : i = j <;> simp [va_up, h1, h2, h, Ne.symm h]
/-- from n on, at most k places on, while p -/
def sk (p : Nat → Bool) : Nat → Nat → Nat
  | 0, n => n
  | k + 1, n => if p n then sk p k (n + 1) else n
/-- from n on, below L, while p -/
def skp (p : Nat → Bool) (L n : Nat) : Nat := sk p (L - n) n
theorem skp_t {p : Nat → Bool} {L n : Nat} (h : n < L) (hp : p n = true) : skp p L n = skp p L (n + 1) := by
  unfold skp
  rw [show L - n = (L - (n + 1)) + 1 by omega]
  show (if p n then _ else _) = _
  rw [if_pos hp]
theorem skp_f {p : Nat → Bool} {L n : Nat} (h : ¬ (n < L ∧ p n = true)) : skp p L n = n := by
  unfold skp
  by_cases hn : n < L
  · rw [show L - n = (L - (n + 1)) + 1 by omega]
    show (if p n then _ else _) = _
    rw [if_neg (fun q => h ⟨hn, q⟩)]
  · rw [show L - n = 0 by omega]
    rfl
theorem sk_ge (p : Nat → Bool) : ∀ k n, n ≤ sk p k n ∧ sk p k n ≤ n + k
  | 0, n => ⟨Nat.le_refl _, Nat.le_refl _⟩
  | k + 1, n => by
    have h := sk_ge p k (n + 1)
    show n ≤ (if p n then _ else _) ∧ (if p n then _ else _) ≤ _
    by_cases hp : p n = true
    · rw [if_pos hp]; omega
    · rw [if_neg hp]; omega
theorem skp_ge (p : Nat → Bool) {L n : Nat} (h : n ≤ L) : n ≤ skp p L n ∧ skp p L n ≤ L := by
  have := sk_ge p (L - n) n
  unfold skp
  omega
theorem hw_eq4 {α β γ δ : Type} {r0 : α} {g0 : β} {a0 : γ} {c0 : δ} {Q : α → β → γ → δ → Prop} (h : Q r0 g0 a0 c0) : ∀ r g a c, (r = r0 ∧ g = g0 ∧ a = a0 ∧ c = c0) → Q r g a c := by
  rintro _ _ _ _ ⟨rfl, rfl, rfl, rfl⟩
  exact h
theorem hw_eq3 {β γ δ : Type} {g0 : β} {a0 : γ} {c0 : δ} {Q : β → γ → δ → Prop} (h : Q g0 a0 c0) : ∀ g a c, (g = g0 ∧ a = a0 ∧ c = c0) → Q g a c := by
  rintro _ _ _ ⟨rfl, rfl, rfl⟩
  exact h
end
section
section STAPE
theorem hi_X2_blame_T : ∀ w ∈ u_ws RX2 TX2 7, w ∈ wsX2_blame := fun w h => by
  unfold wsX2_blame
  simp only [List.mem_cons, List.mem_append]
  first | (simp only [h, or_true, true_or]; done) | (have h2 : w ∈ wsX20 := h; simp only [h2, or_true, true_or]; done)
theorem lk_X2_blame_26 : Cond.fieldLink RX2 26 "HatWorks$Tape" "fault" "I" ∈ wsX2_blame := List.mem_of_getElem? (i := 1) rfl
theorem lk_X2_blame_29 : Cond.fieldLink RX2 29 "HatWorks$Tape" "faultPlace" "I" ∈ wsX2_blame := List.mem_of_getElem? (i := 2) rfl
theorem hi_X2_readComma_T : ∀ w ∈ u_ws RX2 TX2 7, w ∈ wsX2_readComma := fun w h => by
  unfold wsX2_readComma
  simp only [List.mem_cons, List.mem_append]
  first | (simp only [h, or_true, true_or]; done) | (have h2 : w ∈ wsX20 := h; simp only [h2, or_true, true_or]; done)
theorem lk_X2_readComma_19 : Cond.fieldLink RX2 19 "HatWorks$Tape" "length" "I" ∈ wsX2_readComma := List.mem_of_getElem? (i := 2) rfl
theorem lk_X2_readComma_23 : Cond.fieldLink RX2 23 "HatWorks$Tape" "at" "I" ∈ wsX2_readComma := List.mem_of_getElem? (i := 1) rfl
theorem lk_X2_readComma_9 : Cond.fieldLink RX2 9 "HatWorks$Tape" "bytes" "[B" ∈ wsX2_readComma := List.mem_of_getElem? (i := 3) rfl
theorem hi_X2_readNumber_T : ∀ w ∈ u_ws RX2 TX2 7, w ∈ wsX2_readNumber := fun w h => by
  unfold wsX2_readNumber
  simp only [List.mem_cons, List.mem_append]
  first | (simp only [h, or_true, true_or]; done) | (have h2 : w ∈ wsX20 := h; simp only [h2, or_true, true_or]; done)
theorem lm_X2_readNumber_73 : Cond.methodLink RX2 73 Lib.Math.min.name ∈ wsX2_readNumber ∧ Cond.static Lib.Math.min.name ∈ wsX2_readNumber ∧ Cond.initialized "java/lang/Math" ∈ wsX2_readNumber ∧ Cond.code Lib.Math.min.name Lib.Math.min.code 2 (some .int) ∈ wsX2_readNumber := ⟨List.mem_of_getElem? (i := 4) rfl, List.mem_of_getElem? (i := 5) rfl, List.mem_of_getElem? (i := 6) rfl, List.mem_of_getElem? (i := 7) rfl⟩
theorem lk_X2_readNumber_19 : Cond.fieldLink RX2 19 "HatWorks$Tape" "length" "I" ∈ wsX2_readNumber := List.mem_of_getElem? (i := 2) rfl
theorem lk_X2_readNumber_23 : Cond.fieldLink RX2 23 "HatWorks$Tape" "at" "I" ∈ wsX2_readNumber := List.mem_of_getElem? (i := 1) rfl
theorem lk_X2_readNumber_9 : Cond.fieldLink RX2 9 "HatWorks$Tape" "bytes" "[B" ∈ wsX2_readNumber := List.mem_of_getElem? (i := 3) rfl
theorem hi_X2_skipBlanks_T : ∀ w ∈ u_ws RX2 TX2 7, w ∈ wsX2_skipBlanks := fun w h => by
  unfold wsX2_skipBlanks
  simp only [List.mem_cons, List.mem_append]
  first | (simp only [h, or_true, true_or]; done) | (have h2 : w ∈ wsX20 := h; simp only [h2, or_true, true_or]; done)
theorem lk_X2_skipBlanks_19 : Cond.fieldLink RX2 19 "HatWorks$Tape" "length" "I" ∈ wsX2_skipBlanks := List.mem_of_getElem? (i := 2) rfl
theorem lk_X2_skipBlanks_23 : Cond.fieldLink RX2 23 "HatWorks$Tape" "at" "I" ∈ wsX2_skipBlanks := List.mem_of_getElem? (i := 1) rfl
theorem lk_X2_skipBlanks_9 : Cond.fieldLink RX2 9 "HatWorks$Tape" "bytes" "[B" ∈ wsX2_skipBlanks := List.mem_of_getElem? (i := 3) rfl
theorem hi_X2_skipLetters_T : ∀ w ∈ u_ws RX2 TX2 7, w ∈ wsX2_skipLetters := fun w h => by
  unfold wsX2_skipLetters
  simp only [List.mem_cons, List.mem_append]
  first | (simp only [h, or_true, true_or]; done) | (have h2 : w ∈ wsX20 := h; simp only [h2, or_true, true_or]; done)
theorem lk_X2_skipLetters_19 : Cond.fieldLink RX2 19 "HatWorks$Tape" "length" "I" ∈ wsX2_skipLetters := List.mem_of_getElem? (i := 2) rfl
theorem lk_X2_skipLetters_23 : Cond.fieldLink RX2 23 "HatWorks$Tape" "at" "I" ∈ wsX2_skipLetters := List.mem_of_getElem? (i := 1) rfl
theorem lk_X2_skipLetters_9 : Cond.fieldLink RX2 9 "HatWorks$Tape" "bytes" "[B" ∈ wsX2_skipLetters := List.mem_of_getElem? (i := 3) rfl
theorem hi_X2_startReading_T : ∀ w ∈ u_ws RX2 TX2 7, w ∈ wsX2_startReading := fun w h => by
  unfold wsX2_startReading
  simp only [List.mem_cons, List.mem_append]
  first | (simp only [h, or_true, true_or]; done) | (have h2 : w ∈ wsX20 := h; simp only [h2, or_true, true_or]; done)
theorem lk_X2_startReading_15 : Cond.fieldLink RX2 15 "HatWorks$Tape" "parts" "[I" ∈ wsX2_startReading := List.mem_of_getElem? (i := 5) rfl
theorem lk_X2_startReading_19 : Cond.fieldLink RX2 19 "HatWorks$Tape" "length" "I" ∈ wsX2_startReading := List.mem_of_getElem? (i := 1) rfl
theorem lk_X2_startReading_23 : Cond.fieldLink RX2 23 "HatWorks$Tape" "at" "I" ∈ wsX2_startReading := List.mem_of_getElem? (i := 2) rfl
theorem lk_X2_startReading_26 : Cond.fieldLink RX2 26 "HatWorks$Tape" "fault" "I" ∈ wsX2_startReading := List.mem_of_getElem? (i := 3) rfl
theorem lk_X2_startReading_29 : Cond.fieldLink RX2 29 "HatWorks$Tape" "faultPlace" "I" ∈ wsX2_startReading := List.mem_of_getElem? (i := 4) rfl
theorem hi_X2_take_T : ∀ w ∈ u_ws RX2 TX2 7, w ∈ wsX2_take := fun w h => by
  unfold wsX2_take
  simp only [List.mem_cons, List.mem_append]
  first | (simp only [h, or_true, true_or]; done) | (have h2 : w ∈ wsX20 := h; simp only [h2, or_true, true_or]; done)
theorem lk_X2_take_32 : Cond.fieldLink RX2 32 "HatWorks$Tape" "size" "I" ∈ wsX2_take := List.mem_of_getElem? (i := 1) rfl
theorem lk_X2_take_9 : Cond.fieldLink RX2 9 "HatWorks$Tape" "bytes" "[B" ∈ wsX2_take := List.mem_of_getElem? (i := 2) rfl
theorem hi_X2_valueOf_T : ∀ w ∈ u_ws RX2 TX2 7, w ∈ wsX2_valueOf := fun w h => by
  unfold wsX2_valueOf
  simp only [List.mem_cons, List.mem_append]
  first | (simp only [h, or_true, true_or]; done) | (have h2 : w ∈ wsX20 := h; simp only [h2, or_true, true_or]; done)
theorem lk_X2_valueOf_15 : Cond.fieldLink RX2 15 "HatWorks$Tape" "parts" "[I" ∈ wsX2_valueOf := List.mem_of_getElem? (i := 1) rfl
variable {K : hw_K} {l : Launch} {D : va_G} {ad : Nat → Nat} {t : Nat → ClassId} {X : hw_XT} {rm : Room} {g : hw_G} {a : hw_A} {c : Int64}
set_option maxHeartbeats 4000000 in
set_option maxRecDepth 100000 in
theorem k_T_blame (hok : hw_XOK X) {k p : Int32} : hw_Cv l D (WH ad t) (hw_T t) X yX2_blame wsX2_blame (hw_rm 1) [.ref (ad 1), .int k, .int p] g a c (fun g' a' c' => g' = upd (upd g 9 k) 10 p ∧ a' = a ∧ c' = c) := by
  refine hw_Cv.mk (lv0 := [(0, _), (1, _), (2, _)]) (by decide) rfl (Nat.le_of_ble_eq_true rfl) rfl (WH_ads ad t) hok (fun K F ret => ?_)
  have F : hw_F K l D (WH ad t) (hw_T t) X cX2_blame RX2 wsX2_blame (hw_rm 1) 3 := F
  refine hj_aload_n F 0 dX2_blame_0 rfl rfl ?_
  refine hj_iload_n F 1 dX2_blame_1 rfl rfl ?_
  refine hp_T_fault F hi_X2_blame_T lk_X2_blame_26 dX2_blame_2 ?_
  refine hj_aload_n F 0 dX2_blame_5 rfl rfl ?_
  refine hj_iload_n F 2 dX2_blame_6 rfl rfl ?_
  refine hp_T_faultPlace F hi_X2_blame_T lk_X2_blame_29 dX2_blame_7 ?_
  exact ret dX2_blame_10 ⟨rfl, rfl, rfl⟩
def tp_v (x : Int32) : Int32 := if x = -1 then 0 else x
set_option maxHeartbeats 4000000 in
set_option maxRecDepth 100000 in
theorem k_T_valueOf (hok : hw_XOK X) {x : Int32} (hx : vp_in x 4) : hw_Ci l D (WH ad t) (hw_T t) X yX2_valueOf wsX2_valueOf (hw_rm 1) [.ref (ad 1), .int x] g a c (fun r g' a' c' => r = tp_v (a 2 x.toNatClampNeg) ∧ g' = g ∧ a' = a ∧ c' = c) := by
  refine hw_Ci.mk (lv0 := [(0, _), (1, _)]) (by decide) rfl (Nat.le_of_ble_eq_true rfl) rfl (WH_ads ad t) hok (fun K F ret => ?_)
  have F : hw_F K l D (WH ad t) (hw_T t) X cX2_valueOf RX2 wsX2_valueOf (hw_rm 1) 2 := F
  refine hj_aload_n F 0 dX2_valueOf_0 rfl rfl ?_
  refine hg_T_parts F hi_X2_valueOf_T lk_X2_valueOf_15 dX2_valueOf_1 ?_
  refine hj_iload_n F 1 dX2_valueOf_4 rfl rfl ?_
  refine hl_T_parts F (by first | assumption | exact hw_inc (by decide)) dX2_valueOf_5 ?_
  refine hj_iconst F (v := -1) dX2_valueOf_6 (by decide) ?_
  refine hj_icmp_ne F 14 dX2_valueOf_7 (by decide) (fun q7 => ?_) (fun q7 => ?_)
  · refine hj_aload_n F 0 dX2_valueOf_14 rfl rfl ?_
    refine hg_T_parts F hi_X2_valueOf_T lk_X2_valueOf_15 dX2_valueOf_15 ?_
    refine hj_iload_n F 1 dX2_valueOf_18 rfl rfl ?_
    refine hl_T_parts F (by first | assumption | exact hw_inc (by decide)) dX2_valueOf_19 ?_
    exact ret dX2_valueOf_20 rfl ⟨(if_neg q7).symm, rfl, rfl, rfl⟩
  · refine hj_iconst F (v := 0) dX2_valueOf_10 (by decide) ?_
    refine hj_goto F 20 dX2_valueOf_11 (by decide) ?_
    exact ret dX2_valueOf_20 rfl ⟨(if_pos q7).symm, rfl, rfl, rfl⟩
set_option maxHeartbeats 4000000 in
set_option maxRecDepth 100000 in
theorem k_T_price (hok : hw_XOK X)  : hw_Ci l D (WH ad t) (hw_T t) X yX2_price wsX2_price (hw_rm 2) [.ref (ad 1)] g a c (fun r g' a' c' => r = 4 * tp_v (a 2 0) * tp_v (a 2 3) + 3 * tp_v (a 2 1) * tp_v (a 2 3) + 10 * tp_v (a 2 2) ∧ g' = g ∧ a' = a ∧ c' = c) := by
  refine hw_Ci.mk (lv0 := [(0, _)]) (by decide) rfl (Nat.le_of_ble_eq_true rfl) rfl (WH_ads ad t) hok (fun K F ret => ?_)
  have F : hw_F K l D (WH ad t) (hw_T t) X cX2_price RX2 wsX2_price (hw_rm 2) 2 := F
  refine hj_aload_n F 0 dX2_price_0 rfl rfl ?_
  refine hj_iconst F (v := 3) dX2_price_1 (by decide) ?_
  refine hj_cVi F (n := 1) (k_T_valueOf hok (hw_inc (by decide))) gX2_price_X2_valueOf rfl ⟨rfl, rfl⟩ (by decide +kernel) ⟨by decide, by decide⟩ 1 2 rfl rfl (As := [_]) rfl rfl (Nat.le_of_ble_eq_true rfl) ⟨Nat.zero_le _, Nat.zero_le _⟩ dX2_price_2 (hw_eq4 ?_)
  refine hj_istore_n F (lv' := [(1, _), (0, _)]) dX2_price_5 rfl (by decide) rfl ?_
  refine hj_iconst F (v := 4) dX2_price_6 (by decide) ?_
  refine hj_aload_n F 1 dX2_price_7 rfl rfl ?_
  refine hj_iconst F (v := 0) dX2_price_8 (by decide) ?_
  refine hj_cVi F (n := 1) (k_T_valueOf hok (hw_inc (by decide))) gX2_price_X2_valueOf rfl ⟨rfl, rfl⟩ (by decide +kernel) ⟨by decide, by decide⟩ 1 2 rfl rfl (As := [_]) rfl rfl (Nat.le_of_ble_eq_true rfl) ⟨Nat.zero_le _, Nat.zero_le _⟩ dX2_price_9 (hw_eq4 ?_)
  refine hj_imul F dX2_price_12 ?_
  refine hj_iload_n F 0 dX2_price_13 rfl rfl ?_
  refine hj_imul F dX2_price_14 ?_
  refine hj_iconst F (v := 3) dX2_price_15 (by decide) ?_
  refine hj_aload_n F 1 dX2_price_16 rfl rfl ?_
  refine hj_iconst F (v := 1) dX2_price_17 (by decide) ?_
  refine hj_cVi F (n := 1) (k_T_valueOf hok (hw_inc (by decide))) gX2_price_X2_valueOf rfl ⟨rfl, rfl⟩ (by decide +kernel) ⟨by decide, by decide⟩ 1 2 rfl rfl (As := [_]) rfl rfl (Nat.le_of_ble_eq_true rfl) ⟨Nat.zero_le _, Nat.zero_le _⟩ dX2_price_18 (hw_eq4 ?_)
  refine hj_imul F dX2_price_21 ?_
  refine hj_iload_n F 0 dX2_price_22 rfl rfl ?_
  refine hj_imul F dX2_price_23 ?_
  refine hj_iadd F dX2_price_24 ?_
  refine hj_bipush F (v := 10) dX2_price_25 (by decide) ?_
  refine hj_aload_n F 1 dX2_price_27 rfl rfl ?_
  refine hj_iconst F (v := 2) dX2_price_28 (by decide) ?_
  refine hj_cVi F (n := 1) (k_T_valueOf hok (hw_inc (by decide))) gX2_price_X2_valueOf rfl ⟨rfl, rfl⟩ (by decide +kernel) ⟨by decide, by decide⟩ 1 2 rfl rfl (As := [_]) rfl rfl (Nat.le_of_ble_eq_true rfl) ⟨Nat.zero_le _, Nat.zero_le _⟩ dX2_price_29 (hw_eq4 ?_)
  refine hj_imul F dX2_price_32 ?_
  refine hj_iadd F dX2_price_33 ?_
  exact ret dX2_price_34 rfl ⟨rfl, rfl, rfl, rfl⟩
set_option maxHeartbeats 4000000 in
set_option maxRecDepth 100000 in
theorem k_T_steamMinutes (hok : hw_XOK X)  : hw_Ci l D (WH ad t) (hw_T t) X yX2_steamMinutes wsX2_steamMinutes (hw_rm 2) [.ref (ad 1)] g a c (fun r g' a' c' => r = 6 * tp_v (a 2 3) + tp_v (a 2 1) ∧ g' = g ∧ a' = a ∧ c' = c) := by
  refine hw_Ci.mk (lv0 := [(0, _)]) (by decide) rfl (Nat.le_of_ble_eq_true rfl) rfl (WH_ads ad t) hok (fun K F ret => ?_)
  have F : hw_F K l D (WH ad t) (hw_T t) X cX2_steamMinutes RX2 wsX2_steamMinutes (hw_rm 2) 1 := F
  refine hj_bipush F (v := 6) dX2_steamMinutes_0 (by decide) ?_
  refine hj_aload_n F 0 dX2_steamMinutes_2 rfl rfl ?_
  refine hj_iconst F (v := 3) dX2_steamMinutes_3 (by decide) ?_
  refine hj_cVi F (n := 1) (k_T_valueOf hok (hw_inc (by decide))) gX2_steamMinutes_X2_valueOf rfl ⟨rfl, rfl⟩ (by decide +kernel) ⟨by decide, by decide⟩ 1 2 rfl rfl (As := [_]) rfl rfl (Nat.le_of_ble_eq_true rfl) ⟨Nat.zero_le _, Nat.zero_le _⟩ dX2_steamMinutes_4 (hw_eq4 ?_)
  refine hj_imul F dX2_steamMinutes_7 ?_
  refine hj_aload_n F 0 dX2_steamMinutes_8 rfl rfl ?_
  refine hj_iconst F (v := 1) dX2_steamMinutes_9 (by decide) ?_
  refine hj_cVi F (n := 1) (k_T_valueOf hok (hw_inc (by decide))) gX2_steamMinutes_X2_valueOf rfl ⟨rfl, rfl⟩ (by decide +kernel) ⟨by decide, by decide⟩ 1 2 rfl rfl (As := [_]) rfl rfl (Nat.le_of_ble_eq_true rfl) ⟨Nat.zero_le _, Nat.zero_le _⟩ dX2_steamMinutes_10 (hw_eq4 ?_)
  refine hj_iadd F dX2_steamMinutes_13 ?_
  exact ret dX2_steamMinutes_14 rfl ⟨rfl, rfl, rfl, rfl⟩
set_option maxHeartbeats 4000000 in
set_option maxRecDepth 100000 in
theorem k_T_onMinutes (hok : hw_XOK X)  : hw_Ci l D (WH ad t) (hw_T t) X yX2_onMinutes wsX2_onMinutes (hw_rm 2) [.ref (ad 1)] g a c (fun r g' a' c' => r = 10 + tp_v (a 2 0) + 20 * tp_v (a 2 3) ∧ g' = g ∧ a' = a ∧ c' = c) := by
  refine hw_Ci.mk (lv0 := [(0, _)]) (by decide) rfl (Nat.le_of_ble_eq_true rfl) rfl (WH_ads ad t) hok (fun K F ret => ?_)
  have F : hw_F K l D (WH ad t) (hw_T t) X cX2_onMinutes RX2 wsX2_onMinutes (hw_rm 2) 1 := F
  refine hj_bipush F (v := 10) dX2_onMinutes_0 (by decide) ?_
  refine hj_aload_n F 0 dX2_onMinutes_2 rfl rfl ?_
  refine hj_iconst F (v := 0) dX2_onMinutes_3 (by decide) ?_
  refine hj_cVi F (n := 1) (k_T_valueOf hok (hw_inc (by decide))) gX2_onMinutes_X2_valueOf rfl ⟨rfl, rfl⟩ (by decide +kernel) ⟨by decide, by decide⟩ 1 2 rfl rfl (As := [_]) rfl rfl (Nat.le_of_ble_eq_true rfl) ⟨Nat.zero_le _, Nat.zero_le _⟩ dX2_onMinutes_4 (hw_eq4 ?_)
  refine hj_iadd F dX2_onMinutes_7 ?_
  refine hj_bipush F (v := 20) dX2_onMinutes_8 (by decide) ?_
  refine hj_aload_n F 0 dX2_onMinutes_10 rfl rfl ?_
  refine hj_iconst F (v := 3) dX2_onMinutes_11 (by decide) ?_
  refine hj_cVi F (n := 1) (k_T_valueOf hok (hw_inc (by decide))) gX2_onMinutes_X2_valueOf rfl ⟨rfl, rfl⟩ (by decide +kernel) ⟨by decide, by decide⟩ 1 2 rfl rfl (As := [_]) rfl rfl (Nat.le_of_ble_eq_true rfl) ⟨Nat.zero_le _, Nat.zero_le _⟩ dX2_onMinutes_12 (hw_eq4 ?_)
  refine hj_imul F dX2_onMinutes_15 ?_
  refine hj_iadd F dX2_onMinutes_16 ?_
  exact ret dX2_onMinutes_17 rfl ⟨rfl, rfl, rfl, rfl⟩
def tp_none (f : Nat → Int32) : Nat → Int32 := upd (upd (upd (upd f 0 (-1)) 1 (-1)) 2 (-1)) 3 (-1)
set_option maxHeartbeats 4000000 in
set_option maxRecDepth 100000 in
theorem k_T_startReading (hok : hw_XOK X) {n : Int32} : hw_Cv l D (WH ad t) (hw_T t) X yX2_startReading wsX2_startReading (hw_rm 1) [.ref (ad 1), .int n] g a c (fun g' a' c' => g' = upd (upd (upd (upd g 7 n) 8 0) 9 0) 10 (-1) ∧ a' = va_up a 2 (tp_none (a 2)) ∧ c' = c) := by
  refine hw_Cv.mk (lv0 := [(0, _), (1, _)]) (by decide) rfl (Nat.le_of_ble_eq_true rfl) rfl (WH_ads ad t) hok (fun K F ret => ?_)
  have F : hw_F K l D (WH ad t) (hw_T t) X cX2_startReading RX2 wsX2_startReading (hw_rm 1) 3 := F
  refine hj_aload_n F 0 dX2_startReading_0 rfl rfl ?_
  refine hj_iload_n F 1 dX2_startReading_1 rfl rfl ?_
  refine hp_T_length F hi_X2_startReading_T lk_X2_startReading_19 dX2_startReading_2 ?_
  refine hj_aload_n F 0 dX2_startReading_5 rfl rfl ?_
  refine hj_iconst F (v := 0) dX2_startReading_6 (by decide) ?_
  refine hp_T_at F hi_X2_startReading_T lk_X2_startReading_23 dX2_startReading_7 ?_
  refine hj_aload_n F 0 dX2_startReading_10 rfl rfl ?_
  refine hj_iconst F (v := 0) dX2_startReading_11 (by decide) ?_
  refine hp_T_fault F hi_X2_startReading_T lk_X2_startReading_26 dX2_startReading_12 ?_
  refine hj_aload_n F 0 dX2_startReading_15 rfl rfl ?_
  refine hj_iconst F (v := -1) dX2_startReading_16 (by decide) ?_
  refine hp_T_faultPlace F hi_X2_startReading_T lk_X2_startReading_29 dX2_startReading_17 ?_
  refine hj_iconst F (v := 0) dX2_startReading_20 (by decide) ?_
  refine hj_istore_n F (lv' := [(2, _), (0, _), (1, _)]) dX2_startReading_21 rfl (by decide) rfl ?_
  refine hj_iload_n F 0 dX2_startReading_22 rfl rfl ?_
  refine hj_iconst F (v := 4) dX2_startReading_23 (by decide) ?_
  refine hj_icmp_ge F 40 dX2_startReading_24 (by decide) (fun q24 => ?_) (fun q24 => ?_)
  · exact absurd q24 (by decide)
  · refine hj_aload_n F 1 dX2_startReading_27 rfl rfl ?_
    refine hg_T_parts F hi_X2_startReading_T lk_X2_startReading_15 dX2_startReading_28 ?_
    refine hj_iload_n F 0 dX2_startReading_31 rfl rfl ?_
    refine hj_iconst F (v := -1) dX2_startReading_32 (by decide) ?_
    refine hs_T_parts F (by first | assumption | exact hw_inc (by decide)) dX2_startReading_33 ?_
    refine hj_iinc F 0 (v := _ + 1) (lv' := [(2, _), (0, _), (1, _)]) dX2_startReading_34 rfl rfl (by decide) rfl ?_
    refine hj_goto F 22 dX2_startReading_37 (by decide) ?_
    refine hj_iload_n F 0 dX2_startReading_22 rfl rfl ?_
    refine hj_iconst F (v := 4) dX2_startReading_23 (by decide) ?_
    refine hj_icmp_ge F 40 dX2_startReading_24 (by decide) (fun q24_2 => ?_) (fun q24_2 => ?_)
    · exact absurd q24_2 (by decide)
    · refine hj_aload_n F 1 dX2_startReading_27 rfl rfl ?_
      refine hg_T_parts F hi_X2_startReading_T lk_X2_startReading_15 dX2_startReading_28 ?_
      refine hj_iload_n F 0 dX2_startReading_31 rfl rfl ?_
      refine hj_iconst F (v := -1) dX2_startReading_32 (by decide) ?_
      refine hs_T_parts F (by first | assumption | exact hw_inc (by decide)) dX2_startReading_33 ?_
      refine hj_iinc F 0 (v := _ + 1) (lv' := [(2, _), (0, _), (1, _)]) dX2_startReading_34 rfl rfl (by decide) rfl ?_
      refine hj_goto F 22 dX2_startReading_37 (by decide) ?_
      refine hj_iload_n F 0 dX2_startReading_22 rfl rfl ?_
      refine hj_iconst F (v := 4) dX2_startReading_23 (by decide) ?_
      refine hj_icmp_ge F 40 dX2_startReading_24 (by decide) (fun q24_3 => ?_) (fun q24_3 => ?_)
      · exact absurd q24_3 (by decide)
      · refine hj_aload_n F 1 dX2_startReading_27 rfl rfl ?_
        refine hg_T_parts F hi_X2_startReading_T lk_X2_startReading_15 dX2_startReading_28 ?_
        refine hj_iload_n F 0 dX2_startReading_31 rfl rfl ?_
        refine hj_iconst F (v := -1) dX2_startReading_32 (by decide) ?_
        refine hs_T_parts F (by first | assumption | exact hw_inc (by decide)) dX2_startReading_33 ?_
        refine hj_iinc F 0 (v := _ + 1) (lv' := [(2, _), (0, _), (1, _)]) dX2_startReading_34 rfl rfl (by decide) rfl ?_
        refine hj_goto F 22 dX2_startReading_37 (by decide) ?_
        refine hj_iload_n F 0 dX2_startReading_22 rfl rfl ?_
        refine hj_iconst F (v := 4) dX2_startReading_23 (by decide) ?_
        refine hj_icmp_ge F 40 dX2_startReading_24 (by decide) (fun q24_4 => ?_) (fun q24_4 => ?_)
        · exact absurd q24_4 (by decide)
        · refine hj_aload_n F 1 dX2_startReading_27 rfl rfl ?_
          refine hg_T_parts F hi_X2_startReading_T lk_X2_startReading_15 dX2_startReading_28 ?_
          refine hj_iload_n F 0 dX2_startReading_31 rfl rfl ?_
          refine hj_iconst F (v := -1) dX2_startReading_32 (by decide) ?_
          refine hs_T_parts F (by first | assumption | exact hw_inc (by decide)) dX2_startReading_33 ?_
          refine hj_iinc F 0 (v := _ + 1) (lv' := [(2, _), (0, _), (1, _)]) dX2_startReading_34 rfl rfl (by decide) rfl ?_
          refine hj_goto F 22 dX2_startReading_37 (by decide) ?_
          refine hj_iload_n F 0 dX2_startReading_22 rfl rfl ?_
          refine hj_iconst F (v := 4) dX2_startReading_23 (by decide) ?_
          refine hj_icmp_ge F 40 dX2_startReading_24 (by decide) (fun q24_5 => ?_) (fun q24_5 => ?_)
          · refine ret dX2_startReading_40 ⟨rfl, ?_, rfl⟩
            simp only [bx_uu, vau_s]
            rfl
          · exact absurd (by decide) q24_5
def tp_sh (x s : Int32) : Int32 := vp_nar .byte (x.toUInt32 >>> (s.toUInt32 &&& Int32.toUInt32 31)).toInt32.toInt8.toInt32
def tp_put4 (f : Nat → Int32) (n : Nat) (x : Int32) : Nat → Int32 := upd (upd (upd (upd f n (tp_sh x 24)) (n + 1) (tp_sh x 16)) (n + 2) (tp_sh x 8)) (n + 3) (tp_sh x 0)
def tp_bl (b : Nat → Int32) (i : Nat) : Bool := b i == 32
def tp_le (b : Nat → Int32) (i : Nat) : Bool := decide (97 ≤ b i) && decide (b i ≤ 122)
def tp_di (b : Nat → Int32) (i : Nat) : Bool := decide (48 ≤ b i) && decide (b i ≤ 57)
def tp_nx (v d : Int32) : Int32 := if 1000 < v * 10 + (d - 48) then 1000 else v * 10 + (d - 48)
def tp_rn (b : Nat → Int32) : Nat → Nat → Int32 → Int32
  | 0, _, v => v
  | k + 1, n, v => if tp_di b n then tp_rn b k (n + 1) (tp_nx v (b n)) else v
def tp_rv (b : Nat → Int32) (L n : Nat) (v : Int32) : Int32 := tp_rn b (L - n) n v
theorem tp_rv_t {b : Nat → Int32} {L n : Nat} {v : Int32} (h : n < L) (hp : tp_di b n = true) : tp_rv b L n v = tp_rv b L (n + 1) (tp_nx v (b n)) := by
  unfold tp_rv
  rw [show L - n = (L - (n + 1)) + 1 by omega]
  show (if tp_di b n then _ else _) = _
  rw [if_pos hp]
theorem tp_rv_f {b : Nat → Int32} {L n : Nat} {v : Int32} (h : ¬ (n < L ∧ tp_di b n = true)) : tp_rv b L n v = v := by
  unfold tp_rv
  by_cases hn : n < L
  · rw [show L - n = (L - (n + 1)) + 1 by omega]
    show (if tp_di b n then _ else _) = _
    rw [if_neg (fun q => h ⟨hn, q⟩)]
  · rw [show L - n = 0 by omega]
    rfl
set_option maxHeartbeats 4000000 in
set_option maxRecDepth 100000 in
theorem lp_T_skipBlanks (F : hw_F K l D (WH ad t) (hw_T t) X cX2_skipBlanks RX2 wsX2_skipBlanks rm 1) {L : Nat} (hL : g 7 = nI L) (hL1 : L ≤ 100) : ∀ (m n : Nat), L - n < m → n ≤ L → hw_J K (WH ad t) 0 0 (upd g 8 (nI (skp (tp_bl (a 1)) L n))) a c [(0, .ref (ad 1))] 38 [] → hw_J K (WH ad t) 0 0 (upd g 8 (nI n)) a c [(0, .ref (ad 1))] 0 [] := by
  intro m
  induction m with
  | zero => intro n hm; exact absurd hm (Nat.not_lt_zero _)
  | succ m ih =>
    intro n hm hn hx
    have e8 : upd g 8 (nI n) 8 = nI n := pk_us
    have e7 : upd g 8 (nI n) 7 = nI L := by rw [pk_un (by decide)]; exact hL
    refine hj_aload_n F 0 dX2_skipBlanks_0 rfl rfl ?_
    refine hg_T_at F hi_X2_skipBlanks_T lk_X2_skipBlanks_23 dX2_skipBlanks_1 ?_
    refine hj_aload_n F 0 dX2_skipBlanks_4 rfl rfl ?_
    refine hg_T_length F hi_X2_skipBlanks_T lk_X2_skipBlanks_19 dX2_skipBlanks_5 ?_
    refine hj_icmp_ge F 38 dX2_skipBlanks_8 (by decide) (fun q8 => ?_) (fun q8 => ?_)
    · rw [e7, e8, nI_leI (by omega) (by omega)] at q8
      rw [skp_f (by omega)] at hx
      exact hx
    · rw [e7, e8, nI_leI (by omega) (by omega)] at q8
      have hlt : n < L := by omega
      refine hj_aload_n F 0 dX2_skipBlanks_11 rfl rfl ?_
      refine hg_T_bytes F hi_X2_skipBlanks_T lk_X2_skipBlanks_9 dX2_skipBlanks_12 ?_
      refine hj_aload_n F 0 dX2_skipBlanks_15 rfl rfl ?_
      refine hg_T_at F hi_X2_skipBlanks_T lk_X2_skipBlanks_23 dX2_skipBlanks_16 ?_
      refine hl_T_bytes F (by rw [e8]; exact vp_in_nI (by omega) (by decide)) dX2_skipBlanks_19 ?_
      refine hj_bipush F (v := 32) dX2_skipBlanks_20 (by decide) ?_
      refine hj_icmp_ne F 38 dX2_skipBlanks_22 (by decide) (fun q22 => ?_) (fun q22 => ?_)
      · rw [e8, nI_clamp (by omega)] at q22
        rw [skp_f (fun z => q22 (by simpa [tp_bl] using z.2))] at hx
        exact hx
      · rw [e8, nI_clamp (by omega)] at q22
        refine hj_aload_n F 0 dX2_skipBlanks_25 rfl rfl ?_
        refine hj_dup F dX2_skipBlanks_26 rfl ?_
        refine hg_T_at F hi_X2_skipBlanks_T lk_X2_skipBlanks_23 dX2_skipBlanks_27 ?_
        refine hj_iconst F (v := 1) dX2_skipBlanks_30 (by decide) ?_
        refine hj_iadd F dX2_skipBlanks_31 ?_
        refine hp_T_at F hi_X2_skipBlanks_T lk_X2_skipBlanks_23 dX2_skipBlanks_32 ?_
        refine hj_goto F 0 dX2_skipBlanks_35 (by decide) ?_
        rw [e8, nI_1, upd_uu]
        exact ih (n + 1) (by omega) (by omega) (by rw [skp_t hlt (by simp [tp_bl, q22])] at hx; exact hx)
set_option maxHeartbeats 4000000 in
set_option maxRecDepth 100000 in
theorem k_T_skipBlanks (hok : hw_XOK X) {L n : Nat} (hL : g 7 = nI L) (hL1 : L ≤ 100) (hn : g 8 = nI n) (hnL : n ≤ L) : hw_Cv l D (WH ad t) (hw_T t) X yX2_skipBlanks wsX2_skipBlanks (hw_rm 1) [.ref (ad 1)] g a c (fun g' a' c' => g' = upd g 8 (nI (skp (tp_bl (a 1)) L n)) ∧ a' = a ∧ c' = c) := by
  refine hw_Cv.mk (lv0 := [(0, _)]) (by decide) rfl (Nat.le_of_ble_eq_true rfl) rfl (WH_ads ad t) hok (fun K F ret => ?_)
  have F : hw_F K l D (WH ad t) (hw_T t) X cX2_skipBlanks RX2 wsX2_skipBlanks (hw_rm 1) 1 := F
  have h := lp_T_skipBlanks F hL hL1 (a := a) (c := c) (L - n + 1) n (by omega) hnL (ret dX2_skipBlanks_38 ⟨rfl, rfl, rfl⟩)
  rw [upd_self g 8 hn] at h
  exact h
set_option maxHeartbeats 4000000 in
set_option maxRecDepth 100000 in
theorem lp_T_skipLetters (F : hw_F K l D (WH ad t) (hw_T t) X cX2_skipLetters RX2 wsX2_skipLetters rm 1) {L : Nat} (hL : g 7 = nI L) (hL1 : L ≤ 100) : ∀ (m n : Nat), L - n < m → n ≤ L → hw_J K (WH ad t) 0 0 (upd g 8 (nI (skp (tp_le (a 1)) L n))) a c [(0, .ref (ad 1))] 52 [] → hw_J K (WH ad t) 0 0 (upd g 8 (nI n)) a c [(0, .ref (ad 1))] 0 [] := by
  intro m
  induction m with
  | zero => intro n hm; exact absurd hm (Nat.not_lt_zero _)
  | succ m ih =>
    intro n hm hn hx
    have e8 : upd g 8 (nI n) 8 = nI n := pk_us
    have e7 : upd g 8 (nI n) 7 = nI L := by rw [pk_un (by decide)]; exact hL
    refine hj_aload_n F 0 dX2_skipLetters_0 rfl rfl ?_
    refine hg_T_at F hi_X2_skipLetters_T lk_X2_skipLetters_23 dX2_skipLetters_1 ?_
    refine hj_aload_n F 0 dX2_skipLetters_4 rfl rfl ?_
    refine hg_T_length F hi_X2_skipLetters_T lk_X2_skipLetters_19 dX2_skipLetters_5 ?_
    refine hj_icmp_ge F 52 dX2_skipLetters_8 (by decide) (fun q8 => ?_) (fun q8 => ?_)
    · rw [e7, e8, nI_leI (by omega) (by omega)] at q8
      rw [skp_f (by omega)] at hx
      exact hx
    · rw [e7, e8, nI_leI (by omega) (by omega)] at q8
      have hlt : n < L := by omega
      refine hj_aload_n F 0 dX2_skipLetters_11 rfl rfl ?_
      refine hg_T_bytes F hi_X2_skipLetters_T lk_X2_skipLetters_9 dX2_skipLetters_12 ?_
      refine hj_aload_n F 0 dX2_skipLetters_15 rfl rfl ?_
      refine hg_T_at F hi_X2_skipLetters_T lk_X2_skipLetters_23 dX2_skipLetters_16 ?_
      refine hl_T_bytes F (by rw [e8]; exact vp_in_nI (by omega) (by decide)) dX2_skipLetters_19 ?_
      refine hj_bipush F (v := 97) dX2_skipLetters_20 (by decide) ?_
      refine hj_icmp_lt F 52 dX2_skipLetters_22 (by decide) (fun q22 => ?_) (fun q22 => ?_)
      · rw [e8, nI_clamp (by omega)] at q22
        rw [skp_f (fun z => by have := z.2; simp only [tp_le, Bool.and_eq_true, decide_eq_true_eq] at this; exact absurd q22 (Int32.not_lt.mpr this.1))] at hx
        exact hx
      · rw [e8, nI_clamp (by omega)] at q22
        refine hj_aload_n F 0 dX2_skipLetters_25 rfl rfl ?_
        refine hg_T_bytes F hi_X2_skipLetters_T lk_X2_skipLetters_9 dX2_skipLetters_26 ?_
        refine hj_aload_n F 0 dX2_skipLetters_29 rfl rfl ?_
        refine hg_T_at F hi_X2_skipLetters_T lk_X2_skipLetters_23 dX2_skipLetters_30 ?_
        refine hl_T_bytes F (by rw [e8]; exact vp_in_nI (by omega) (by decide)) dX2_skipLetters_33 ?_
        refine hj_bipush F (v := 122) dX2_skipLetters_34 (by decide) ?_
        refine hj_icmp_gt F 52 dX2_skipLetters_36 (by decide) (fun q36 => ?_) (fun q36 => ?_)
        · rw [e8, nI_clamp (by omega)] at q36
          rw [skp_f (fun z => by have := z.2; simp only [tp_le, Bool.and_eq_true, decide_eq_true_eq] at this; exact absurd q36 (Int32.not_lt.mpr this.2))] at hx
          exact hx
        · rw [e8, nI_clamp (by omega)] at q36
          refine hj_aload_n F 0 dX2_skipLetters_39 rfl rfl ?_
          refine hj_dup F dX2_skipLetters_40 rfl ?_
          refine hg_T_at F hi_X2_skipLetters_T lk_X2_skipLetters_23 dX2_skipLetters_41 ?_
          refine hj_iconst F (v := 1) dX2_skipLetters_44 (by decide) ?_
          refine hj_iadd F dX2_skipLetters_45 ?_
          refine hp_T_at F hi_X2_skipLetters_T lk_X2_skipLetters_23 dX2_skipLetters_46 ?_
          refine hj_goto F 0 dX2_skipLetters_49 (by decide) ?_
          rw [e8, nI_1, upd_uu]
          exact ih (n + 1) (by omega) (by omega) (by rw [skp_t hlt (by simp only [tp_le, Bool.and_eq_true, decide_eq_true_eq]; exact ⟨Int32.not_lt.mp q22, Int32.not_lt.mp q36⟩)] at hx; exact hx)
set_option maxHeartbeats 4000000 in
set_option maxRecDepth 100000 in
theorem k_T_skipLetters (hok : hw_XOK X) {L n : Nat} (hL : g 7 = nI L) (hL1 : L ≤ 100) (hn : g 8 = nI n) (hnL : n ≤ L) : hw_Cv l D (WH ad t) (hw_T t) X yX2_skipLetters wsX2_skipLetters (hw_rm 1) [.ref (ad 1)] g a c (fun g' a' c' => g' = upd g 8 (nI (skp (tp_le (a 1)) L n)) ∧ a' = a ∧ c' = c) := by
  refine hw_Cv.mk (lv0 := [(0, _)]) (by decide) rfl (Nat.le_of_ble_eq_true rfl) rfl (WH_ads ad t) hok (fun K F ret => ?_)
  have F : hw_F K l D (WH ad t) (hw_T t) X cX2_skipLetters RX2 wsX2_skipLetters (hw_rm 1) 1 := F
  have h := lp_T_skipLetters F hL hL1 (a := a) (c := c) (L - n + 1) n (by omega) hnL (ret dX2_skipLetters_52 ⟨rfl, rfl, rfl⟩)
  rw [upd_self g 8 hn] at h
  exact h
set_option maxHeartbeats 4000000 in
set_option maxRecDepth 100000 in
theorem lp_T_readNumber (F : hw_F K l D (WH ad t) (hw_T t) X cX2_readNumber RX2 wsX2_readNumber rm 2) {L : Nat} (hL : g 7 = nI L) (hL1 : L ≤ 100) (hrm : 1 ≤ rm.frames ∧ 64 ≤ rm.locals) : ∀ (m n : Nat) (v : Int32), L - n < m → n ≤ L → hw_J K (WH ad t) 0 0 (upd g 8 (nI (skp (tp_di (a 1)) L n))) a c [(1, .int (tp_rv (a 1) L n v)), (0, .ref (ad 1))] 78 [] → hw_J K (WH ad t) 0 0 (upd g 8 (nI n)) a c [(1, .int v), (0, .ref (ad 1))] 2 [] := by
  intro m
  induction m with
  | zero => intro n v hm; exact absurd hm (Nat.not_lt_zero _)
  | succ m ih =>
    intro n v hm hn hx
    have e8 : upd g 8 (nI n) 8 = nI n := pk_us
    have e7 : upd g 8 (nI n) 7 = nI L := by rw [pk_un (by decide)]; exact hL
    refine hj_aload_n F 1 dX2_readNumber_2 rfl rfl ?_
    refine hg_T_at F hi_X2_readNumber_T lk_X2_readNumber_23 dX2_readNumber_3 ?_
    refine hj_aload_n F 1 dX2_readNumber_6 rfl rfl ?_
    refine hg_T_length F hi_X2_readNumber_T lk_X2_readNumber_19 dX2_readNumber_7 ?_
    refine hj_icmp_ge F 78 dX2_readNumber_10 (by decide) (fun q10 => ?_) (fun q10 => ?_)
    · rw [e7, e8, nI_leI (by omega) (by omega)] at q10
      have hf : ¬ (n < L ∧ tp_di (a 1) n = true) := by omega
      rw [skp_f hf, tp_rv_f hf] at hx
      exact hx
    · rw [e7, e8, nI_leI (by omega) (by omega)] at q10
      have hlt : n < L := by omega
      refine hj_aload_n F 1 dX2_readNumber_13 rfl rfl ?_
      refine hg_T_bytes F hi_X2_readNumber_T lk_X2_readNumber_9 dX2_readNumber_14 ?_
      refine hj_aload_n F 1 dX2_readNumber_17 rfl rfl ?_
      refine hg_T_at F hi_X2_readNumber_T lk_X2_readNumber_23 dX2_readNumber_18 ?_
      refine hl_T_bytes F (by rw [e8]; exact vp_in_nI (by omega) (by decide)) dX2_readNumber_21 ?_
      refine hj_bipush F (v := 48) dX2_readNumber_22 (by decide) ?_
      refine hj_icmp_lt F 78 dX2_readNumber_24 (by decide) (fun q24 => ?_) (fun q24 => ?_)
      · rw [e8, nI_clamp (by omega)] at q24
        have hf : ¬ (n < L ∧ tp_di (a 1) n = true) := fun z => by have := z.2; simp only [tp_di, Bool.and_eq_true, decide_eq_true_eq] at this; exact absurd q24 (Int32.not_lt.mpr this.1)
        rw [skp_f hf, tp_rv_f hf] at hx
        exact hx
      · rw [e8, nI_clamp (by omega)] at q24
        refine hj_aload_n F 1 dX2_readNumber_27 rfl rfl ?_
        refine hg_T_bytes F hi_X2_readNumber_T lk_X2_readNumber_9 dX2_readNumber_28 ?_
        refine hj_aload_n F 1 dX2_readNumber_31 rfl rfl ?_
        refine hg_T_at F hi_X2_readNumber_T lk_X2_readNumber_23 dX2_readNumber_32 ?_
        refine hl_T_bytes F (by rw [e8]; exact vp_in_nI (by omega) (by decide)) dX2_readNumber_35 ?_
        refine hj_bipush F (v := 57) dX2_readNumber_36 (by decide) ?_
        refine hj_icmp_gt F 78 dX2_readNumber_38 (by decide) (fun q38 => ?_) (fun q38 => ?_)
        · rw [e8, nI_clamp (by omega)] at q38
          have hf : ¬ (n < L ∧ tp_di (a 1) n = true) := fun z => by have := z.2; simp only [tp_di, Bool.and_eq_true, decide_eq_true_eq] at this; exact absurd q38 (Int32.not_lt.mpr this.2)
          rw [skp_f hf, tp_rv_f hf] at hx
          exact hx
        · rw [e8, nI_clamp (by omega)] at q38
          refine hj_iload_n F 0 dX2_readNumber_41 rfl rfl ?_
          refine hj_bipush F (v := 10) dX2_readNumber_42 (by decide) ?_
          refine hj_imul F dX2_readNumber_44 ?_
          refine hj_aload_n F 1 dX2_readNumber_45 rfl rfl ?_
          refine hg_T_bytes F hi_X2_readNumber_T lk_X2_readNumber_9 dX2_readNumber_46 ?_
          refine hj_aload_n F 1 dX2_readNumber_49 rfl rfl ?_
          refine hg_T_at F hi_X2_readNumber_T lk_X2_readNumber_23 dX2_readNumber_50 ?_
          refine hl_T_bytes F (by rw [e8]; exact vp_in_nI (by omega) (by decide)) dX2_readNumber_53 ?_
          refine hj_bipush F (v := 48) dX2_readNumber_54 (by decide) ?_
          refine hj_isub F dX2_readNumber_56 ?_
          refine hj_iadd F dX2_readNumber_57 ?_
          refine hj_sipush F (v := 1000) dX2_readNumber_58 (by decide) ?_
          refine hj_mmin F lm_X2_readNumber_73.1 lm_X2_readNumber_73.2.1 lm_X2_readNumber_73.2.2.1 lm_X2_readNumber_73.2.2.2 hrm.1 (by simp; omega) (Nat.zero_le _) (Nat.zero_le _) dX2_readNumber_61 ?_
          refine hj_istore_n F (lv' := [(1, _), (0, _)]) dX2_readNumber_64 rfl (by decide) rfl ?_
          refine hj_aload_n F 1 dX2_readNumber_65 rfl rfl ?_
          refine hj_dup F dX2_readNumber_66 rfl ?_
          refine hg_T_at F hi_X2_readNumber_T lk_X2_readNumber_23 dX2_readNumber_67 ?_
          refine hj_iconst F (v := 1) dX2_readNumber_70 (by decide) ?_
          refine hj_iadd F dX2_readNumber_71 ?_
          refine hp_T_at F hi_X2_readNumber_T lk_X2_readNumber_23 dX2_readNumber_72 ?_
          refine hj_goto F 2 dX2_readNumber_75 (by decide) ?_
          have hd : tp_di (a 1) n = true := by simp only [tp_di, Bool.and_eq_true, decide_eq_true_eq]; exact ⟨Int32.not_lt.mp q24, Int32.not_lt.mp q38⟩
          rw [skp_t hlt hd, tp_rv_t hlt hd] at hx
          rw [e8, nI_1, upd_uu, nI_clamp (by omega)]
          exact ih (n + 1) _ (by omega) (by omega) hx
set_option maxHeartbeats 4000000 in
set_option maxRecDepth 100000 in
theorem k_T_readNumber (hok : hw_XOK X) {L n : Nat} (hL : g 7 = nI L) (hL1 : L ≤ 100) (hn : g 8 = nI n) (hnL : n ≤ L) : hw_Ci l D (WH ad t) (hw_T t) X yX2_readNumber wsX2_readNumber (hw_rm 1) [.ref (ad 1)] g a c (fun r g' a' c' => r = tp_rv (a 1) L n 0 ∧ g' = upd g 8 (nI (skp (tp_di (a 1)) L n)) ∧ a' = a ∧ c' = c) := by
  refine hw_Ci.mk (lv0 := [(0, _)]) (by decide) rfl (Nat.le_of_ble_eq_true rfl) rfl (WH_ads ad t) hok (fun K F ret => ?_)
  have F : hw_F K l D (WH ad t) (hw_T t) X cX2_readNumber RX2 wsX2_readNumber (hw_rm 1) 2 := F
  have hend : hw_J K (WH ad t) 0 0 (upd g 8 (nI (skp (tp_di (a 1)) L n))) a c [(1, .int (tp_rv (a 1) L n 0)), (0, .ref (ad 1))] 78 [] := by
    refine hj_iload_n F 0 dX2_readNumber_78 rfl rfl ?_
    exact ret dX2_readNumber_79 rfl ⟨rfl, rfl, rfl, rfl⟩
  refine hj_iconst F (v := 0) dX2_readNumber_0 (by decide) ?_
  refine hj_istore_n F (lv' := [(1, _), (0, _)]) dX2_readNumber_1 rfl (by decide) rfl ?_
  have h := lp_T_readNumber F hL hL1 (by decide) (a := a) (c := c) (L - n + 1) n 0 (by omega) hnL hend
  rw [upd_self g 8 hn] at h
  exact h
set_option maxHeartbeats 4000000 in
set_option maxRecDepth 100000 in
theorem st_T_take (F : hw_F K l D (WH ad t) (hw_T t) X cX2_take RX2 wsX2_take rm 3) {n : Nat} {x s : Int32} (hs : ¬ s < 0) (hn : g 11 = nI n) (hn1 : n < 100) (h1 : hw_J K (WH ad t) 0 0 (upd g 11 (nI (n + 1))) (va_up a 1 (upd (a 1) n (tp_sh x s))) c [(2, .int (s + (-8))), (0, .ref (ad 1)), (1, .int x)] 3 []) : hw_J K (WH ad t) 0 0 g a c [(2, .int s), (0, .ref (ad 1)), (1, .int x)] 3 [] := by
  refine hj_iload_n F 0 dX2_take_3 rfl rfl ?_
  refine hj_if_lt F 45 dX2_take_4 (by decide) (fun q4 => ?_) (fun q4 => ?_)
  · exact absurd q4 hs
  · refine hj_aload_n F 1 dX2_take_7 rfl rfl ?_
    refine hg_T_size F hi_X2_take_T lk_X2_take_32 dX2_take_8 ?_
    refine hj_bipush F (v := 100) dX2_take_11 (by decide) ?_
    refine hj_icmp_ge F 45 dX2_take_13 (by decide) (fun q13 => ?_) (fun q13 => ?_)
    · exact absurd q13 (by rw [hn]; exact nI_ge hn1 (by decide))
    · refine hj_aload_n F 1 dX2_take_16 rfl rfl ?_
      refine hg_T_bytes F hi_X2_take_T lk_X2_take_9 dX2_take_17 ?_
      refine hj_aload_n F 1 dX2_take_20 rfl rfl ?_
      refine hg_T_size F hi_X2_take_T lk_X2_take_32 dX2_take_21 ?_
      refine hj_iload_n F 2 dX2_take_24 rfl rfl ?_
      refine hj_iload_n F 0 dX2_take_25 rfl rfl ?_
      refine hj_iushr F dX2_take_26 ?_
      refine hj_i2b F dX2_take_27 ?_
      refine hs_T_bytes F (by rw [hn]; exact vp_in_nI hn1 (by decide)) dX2_take_28 ?_
      refine hj_aload_n F 1 dX2_take_29 rfl rfl ?_
      refine hj_dup F dX2_take_30 rfl ?_
      refine hg_T_size F hi_X2_take_T lk_X2_take_32 dX2_take_31 ?_
      refine hj_iconst F (v := 1) dX2_take_34 (by decide) ?_
      refine hj_iadd F dX2_take_35 ?_
      refine hp_T_size F hi_X2_take_T lk_X2_take_32 dX2_take_36 ?_
      refine hj_iinc F 0 (v := _ + (-8)) (lv' := [(2, _), (0, _), (1, _)]) dX2_take_39 rfl rfl (by decide) rfl ?_
      refine hj_goto F 3 dX2_take_42 (by decide) ?_
      rw [hn, nI_1, nI_clamp (by omega)]
      exact h1
set_option maxHeartbeats 4000000 in
set_option maxRecDepth 100000 in
theorem se_T_take (F : hw_F K l D (WH ad t) (hw_T t) X cX2_take RX2 wsX2_take rm 3) {x s : Int32} (hs : s < 0) (h1 : hw_J K (WH ad t) 0 0 g a c [(2, .int s), (0, .ref (ad 1)), (1, .int x)] 45 []) : hw_J K (WH ad t) 0 0 g a c [(2, .int s), (0, .ref (ad 1)), (1, .int x)] 3 [] := by
  refine hj_iload_n F 0 dX2_take_3 rfl rfl ?_
  refine hj_if_lt F 45 dX2_take_4 (by decide) (fun q4 => ?_) (fun q4 => ?_)
  · exact h1
  · exact absurd hs q4
set_option maxHeartbeats 4000000 in
set_option maxRecDepth 100000 in
theorem k_T_take (hok : hw_XOK X) {n : Nat} {x : Int32} (hn : g 11 = nI n) (hn1 : n + 4 ≤ 100) : hw_Cv l D (WH ad t) (hw_T t) X yX2_take wsX2_take (hw_rm 1) [.ref (ad 1), .int x] g a c (fun g' a' c' => g' = upd g 11 (nI (n + 4)) ∧ a' = va_up a 1 (tp_put4 (a 1) n x) ∧ c' = c) := by
  refine hw_Cv.mk (lv0 := [(0, _), (1, _)]) (by decide) rfl (Nat.le_of_ble_eq_true rfl) rfl (WH_ads ad t) hok (fun K F ret => ?_)
  have F : hw_F K l D (WH ad t) (hw_T t) X cX2_take RX2 wsX2_take (hw_rm 1) 3 := F
  refine hj_bipush F (v := 24) dX2_take_0 (by decide) ?_
  refine hj_istore_n F (lv' := [(2, _), (0, _), (1, _)]) dX2_take_2 rfl (by decide) rfl ?_
  refine st_T_take F (by decide) hn (by omega) ?_
  refine st_T_take F (by decide) pk_us (by omega) ?_
  refine st_T_take F (by decide) pk_us (by omega) ?_
  refine st_T_take F (by decide) pk_us (by omega) ?_
  refine se_T_take F (by decide) ?_
  refine ret dX2_take_45 ⟨?_, ?_, rfl⟩
  · simp only [upd_uu]
  · simp only [bx_uu, vau_s]
    rfl
set_option maxHeartbeats 4000000 in
set_option maxRecDepth 100000 in
theorem k_T_readComma (hok : hw_XOK X) {L n : Nat} (hL : g 7 = nI L) (hL1 : L ≤ 100) (hn : g 8 = nI n) (hnL : n ≤ L) : hw_Ci l D (WH ad t) (hw_T t) X yX2_readComma wsX2_readComma (hw_rm 2) [.ref (ad 1)] g a c (fun r g' a' c' => a' = a ∧ c' = c ∧ (if L ≤ (skp (tp_bl (a 1)) L n) then r = 0 ∧ g' = upd g 8 (nI (skp (tp_bl (a 1)) L n)) else if a 1 (skp (tp_bl (a 1)) L n) = 44 then r = 1 ∧ g' = upd g 8 (nI ((skp (tp_bl (a 1)) L n) + 1)) else r = 0 ∧ g' = upd (upd (upd g 8 (nI (skp (tp_bl (a 1)) L n))) 9 1) 10 (nI (skp (tp_bl (a 1)) L n)))) := by
  refine hw_Ci.mk (lv0 := [(0, _)]) (by decide) rfl (Nat.le_of_ble_eq_true rfl) rfl (WH_ads ad t) hok (fun K F ret => ?_)
  have F : hw_F K l D (WH ad t) (hw_T t) X cX2_readComma RX2 wsX2_readComma (hw_rm 2) 1 := F
  have hb1 := skp_ge (tp_bl (a 1)) hnL
  generalize hn1 : (skp (tp_bl (a 1)) L n) = n1 at hb1 ⊢
  refine hj_aload_n F 0 dX2_readComma_0 rfl rfl ?_
  refine hj_cVv F (n := 0) (k_T_skipBlanks hok hL hL1 hn hnL) gX2_readComma_X2_skipBlanks rfl ⟨rfl, rfl⟩ (by decide +kernel) ⟨by decide, by decide⟩ 1 2 rfl rfl (As := []) rfl rfl (Nat.le_of_ble_eq_true rfl) ⟨Nat.zero_le _, Nat.zero_le _⟩ dX2_readComma_1 (hw_eq3 ?_)
  rw [hn1]
  have e8 : upd g 8 (nI n1) 8 = nI n1 := pk_us
  have e7 : upd g 8 (nI n1) 7 = nI L := by rw [pk_un (by decide)]; exact hL
  refine hj_aload_n F 0 dX2_readComma_4 rfl rfl ?_
  refine hg_T_at F hi_X2_readComma_T lk_X2_readComma_23 dX2_readComma_5 ?_
  refine hj_aload_n F 0 dX2_readComma_8 rfl rfl ?_
  refine hg_T_length F hi_X2_readComma_T lk_X2_readComma_19 dX2_readComma_9 ?_
  refine hj_icmp_lt F 17 dX2_readComma_12 (by decide) (fun q12 => ?_) (fun q12 => ?_)
  · rw [e8, e7, nI_ltI (by omega) (by omega)] at q12
    refine hj_aload_n F 0 dX2_readComma_17 rfl rfl ?_
    refine hg_T_bytes F hi_X2_readComma_T lk_X2_readComma_9 dX2_readComma_18 ?_
    refine hj_aload_n F 0 dX2_readComma_21 rfl rfl ?_
    refine hg_T_at F hi_X2_readComma_T lk_X2_readComma_23 dX2_readComma_22 ?_
    refine hl_T_bytes F (by rw [e8]; exact vp_in_nI (by omega) (by decide)) dX2_readComma_25 ?_
    refine hj_bipush F (v := 44) dX2_readComma_26 (by decide) ?_
    refine hj_icmp_eq F 42 dX2_readComma_28 (by decide) (fun q28 => ?_) (fun q28 => ?_)
    · rw [e8, nI_clamp (by omega)] at q28
      refine hj_aload_n F 0 dX2_readComma_42 rfl rfl ?_
      refine hj_dup F dX2_readComma_43 rfl ?_
      refine hg_T_at F hi_X2_readComma_T lk_X2_readComma_23 dX2_readComma_44 ?_
      refine hj_iconst F (v := 1) dX2_readComma_47 (by decide) ?_
      refine hj_iadd F dX2_readComma_48 ?_
      refine hp_T_at F hi_X2_readComma_T lk_X2_readComma_23 dX2_readComma_49 ?_
      refine hj_iconst F (v := 1) dX2_readComma_52 (by decide) ?_
      exact ret dX2_readComma_53 rfl ⟨rfl, rfl, by rw [hn1, if_neg (by omega), if_pos q28, e8, nI_1, upd_uu]; exact ⟨rfl, rfl⟩⟩
    · rw [e8, nI_clamp (by omega)] at q28
      refine hj_aload_n F 0 dX2_readComma_31 rfl rfl ?_
      refine hj_iconst F (v := 1) dX2_readComma_32 (by decide) ?_
      refine hj_aload_n F 0 dX2_readComma_33 rfl rfl ?_
      refine hg_T_at F hi_X2_readComma_T lk_X2_readComma_23 dX2_readComma_34 ?_
      refine hj_cVv F (n := 2) (k_T_blame hok) gX2_readComma_X2_blame rfl ⟨rfl, rfl⟩ (by decide +kernel) ⟨by decide, by decide⟩ 1 2 rfl rfl (As := [_, _]) rfl rfl (Nat.le_of_ble_eq_true rfl) ⟨Nat.zero_le _, Nat.zero_le _⟩ dX2_readComma_37 (hw_eq3 ?_)
      refine hj_iconst F (v := 0) dX2_readComma_40 (by decide) ?_
      exact ret dX2_readComma_41 rfl ⟨rfl, rfl, by rw [hn1, if_neg (by omega), if_neg q28, e8]; exact ⟨rfl, rfl⟩⟩
  · rw [e8, e7, nI_ltI (by omega) (by omega)] at q12
    refine hj_iconst F (v := 0) dX2_readComma_15 (by decide) ?_
    exact ret dX2_readComma_16 rfl ⟨rfl, rfl, by rw [hn1, if_pos (by omega)]; exact ⟨rfl, rfl⟩⟩
end STAPE
end
section
/-! the four words, String.length and String.charAt of them; static tables -/
def sx_len : List Nat := [5, 4, 4, 4]
def sx_B : List (List Int32) := [[99, 114, 111, 119, 110], [98, 114, 105, 109], [98, 97, 110, 100], [102, 101, 108, 116]]
def tp_len (i : Nat) : Nat := sx_len.getD i 0
def tp_ch (i j : Nat) : Int32 := (sx_B.getD i []).getD j 0
/-- what is given of the JDK's statics and of the four words at τ 0 .. τ 3 -/
def sx (τ : Nat → Nat) (A : Nat → Prop) (U : State) (H : Heap) : Prop := vk_S 4 sx_len sx_B (fun i => τ i) (fun i => τ (10 + i)) A U H ∧ va_Z "java/lang/String" "COMPACT_STRINGS" "Z" (.int 1) A U H ∧ va_Zq "jdk/internal/util/Preconditions" "SIOOBE_FORMATTER" "Ljava/util/function/BiFunction;" A U H
section SXR
variable {K : hw_K} {l : Launch} {D : va_G} {Wd : hw_W} {tys : List (ClassId × FieldType)} {X : hw_XT} {cc : ByteArray} {own : String} {Ts : List Cond} {rm : Room} {nL : Nat} {kc ks : Nat} {g : hw_G} {a : hw_A} {c : Int64} {lv : List (Nat × Value)} {pc : Nat} {st : List Value}
theorem hj_gets (F : hw_F K l D Wd tys X cc own Ts rm nL) {C n d : String} {v : Value} {index : Nat} (hZ : ∀ (A : Nat → Prop) (U : State) (H : Heap), X A U H → va_Z C n d v A U H) (hlink : Cond.fieldLink own index C n d ∈ Ts) (dd : decode cc pc = .ok (.getstatic index, 3)) (h : hw_J K Wd kc ks g a c lv (pc + 3) (v :: st)) : hw_J K Wd kc ks g a c lv pc st := by
  obtain ⟨p, l, e, R, s, m, args, below, meth, cd, Q, D, A, nL⟩ := K
  obtain ⟨rfl, rfl, rfl, rfl, hx, hb, hml, hown, hts, hK, hD, hA, hlk, hok, hX⟩ := F
  intro H locs ls hP hS hl
  exact va_gets hx hb (hZ _ _ _ hX) hS hown (hts _ hlink) (fun _ q => q) dd (h H locs ls hP hS hl)
theorem hj_getq (F : hw_F K l D Wd tys X cc own Ts rm nL) {C n d : String} {index : Nat} (hZ : ∀ (A : Nat → Prop) (U : State) (H : Heap), X A U H → va_Zq C n d A U H) (hlink : Cond.fieldLink own index C n d ∈ Ts) (dd : decode cc pc = .ok (.getstatic index, 3)) (h : ∀ v : Value, (v = .null ∨ ∃ q, v = .ref q) → hw_J K Wd kc ks g a c lv (pc + 3) (v :: st)) : hw_J K Wd kc ks g a c lv pc st := by
  obtain ⟨p, l, e, R, s, m, args, below, meth, cd, Q, D, A, nL⟩ := K
  obtain ⟨rfl, rfl, rfl, rfl, hx, hb, hml, hown, hts, hK, hD, hA, hlk, hok, hX⟩ := F
  intro H locs ls hP hS hl
  rcases hZ _ _ _ hX with hz | ⟨q, hz⟩
  · exact va_gets hx hb hz hS hown (hts _ hlink) (fun _ q => q) dd (h _ (Or.inl rfl) H locs ls hP hS hl)
  · exact va_gets hx hb hz hS hown (hts _ hlink) (fun _ q => q) dd (h _ (Or.inr ⟨q, rfl⟩) H locs ls hP hS hl)
theorem hj_getf (F : hw_F K l D Wd tys X cc own Ts rm nL) {o n d : String} {v : Value} {index q : Nat} (hE : ∀ (A : Nat → Prop) (U : State) (H : Heap), X A U H → va_OF o n d v q A U H) (hlink : Cond.fieldLink own index o n d ∈ Ts) (dd : decode cc pc = .ok (.getfield index, 3)) (h : hw_J K Wd kc ks g a c lv (pc + 3) (v :: st)) : hw_J K Wd kc ks g a c lv pc (.ref q :: st) := by
  obtain ⟨p, l, e, R, s, m, args, below, meth, cd, Q, D, A, nL⟩ := K
  obtain ⟨rfl, rfl, rfl, rfl, hx, hb, hml, hown, hts, hK, hD, hA, hlk, hok, hX⟩ := F
  intro H locs ls hP hS hl
  exact vk_getf hx hb (hE _ _ _ hX) hS hown (hts _ hlink) (fun _ q => q) dd (h H locs ls hP hS hl)
theorem hj_tlen (F : hw_F K l D Wd tys X cc own Ts rm nL) {ty : FieldType} {t N : Nat} {f : Nat → Value} (hT : ∀ (A : Nat → Prop) (U : State) (H : Heap), X A U H → va_T ty t N f A U H) (dd : decode cc pc = .ok (.arraylength, 1)) (h : hw_J K Wd kc ks g a c lv (pc + 1) (.int (nI N) :: st)) : hw_J K Wd kc ks g a c lv pc (.ref t :: st) := by
  obtain ⟨p, l, e, R, s, m, args, below, meth, cd, Q, D, A, nL⟩ := K
  obtain ⟨rfl, rfl, rfl, rfl, hx, hb, hml, hown, hts, hK, hD, hA, hlk, hok, hX⟩ := F
  intro H locs ls hP hS hl
  exact va_tlen hx hb (hT _ _ _ hX) hS rfl dd (h H locs ls hP hS hl)
theorem hj_tb (F : hw_F K l D Wd tys X cc own Ts rm nL) {t N : Nat} {f : Nat → Value} (hT : ∀ (A : Nat → Prop) (U : State) (H : Heap), X A U H → va_T .byte t N f A U H) {i : Int32} (hin : vp_in i N) (dd : decode cc pc = .ok (.baload, 1)) (h : hw_J K Wd kc ks g a c lv (pc + 1) (f i.toNatClampNeg :: st)) : hw_J K Wd kc ks g a c lv pc (.int i :: .ref t :: st) := by
  obtain ⟨p, l, e, R, s, m, args, below, meth, cd, Q, D, A, nL⟩ := K
  obtain ⟨rfl, rfl, rfl, rfl, hx, hb, hml, hown, hts, hK, hD, hA, hlk, hok, hX⟩ := F
  intro H locs ls hP hS hl
  exact va_tb hx hb (hT _ _ _ hX) hS hin rfl dd (h H locs ls hP hS hl)
theorem hj_ti (F : hw_F K l D Wd tys X cc own Ts rm nL) {t N : Nat} {f : Nat → Value} (hT : ∀ (A : Nat → Prop) (U : State) (H : Heap), X A U H → va_T .int t N f A U H) {i : Int32} (hin : vp_in i N) (dd : decode cc pc = .ok (.iaload, 1)) (h : hw_J K Wd kc ks g a c lv (pc + 1) (f i.toNatClampNeg :: st)) : hw_J K Wd kc ks g a c lv pc (.int i :: .ref t :: st) := by
  obtain ⟨p, l, e, R, s, m, args, below, meth, cd, Q, D, A, nL⟩ := K
  obtain ⟨rfl, rfl, rfl, rfl, hx, hb, hml, hown, hts, hK, hD, hA, hlk, hok, hX⟩ := F
  intro H locs ls hP hS hl
  exact va_ti hx hb (hT _ _ _ hX) hS hin rfl dd (h H locs ls hP hS hl)
theorem hj_ldcS (F : hw_F K l D Wd tys X cc own Ts rm nL) {index q : Nat} {tx : String} (hR : ∀ (A : Nat → Prop) (U : State) (H : Heap), X A U H → vk_R own index tx q U) (dd : decode cc pc = .ok (.ldc index, 2)) (h : hw_J K Wd kc ks g a c lv (pc + 2) (.ref q :: st)) : hw_J K Wd kc ks g a c lv pc st := by
  obtain ⟨p, l, e, R, s, m, args, below, meth, cd, Q, D, A, nL⟩ := K
  obtain ⟨rfl, rfl, rfl, rfl, hx, hb, hml, hown, hts, hK, hD, hA, hlk, hok, hX⟩ := F
  intro H locs ls hP hS hl
  exact va_ldcS hx hb hown (hR _ _ _ hX) dd (h H locs ls hP hS hl)
theorem hj_i2c (F : hw_F K l D Wd tys X cc own Ts rm nL) {x : Int32} (dd : decode cc pc = .ok (.i2c, 1)) (h : hw_J K Wd kc ks g a c lv (pc + 1) (.int (x.toUInt32 % 65536).toInt32 :: st)) : hw_J K Wd kc ks g a c lv pc (.int x :: st) := by
  obtain ⟨p, l, e, R, s, m, args, below, meth, cd, Q, D, A, nL⟩ := K
  obtain ⟨rfl, rfl, rfl, rfl, hx, hb, hml, hown, hts, hK, hD, hA, hlk, hok, hX⟩ := F
  intro H locs ls hP hS hl
  exact lv_i2c hx hb dd rfl (h H locs ls hP hS hl)
variable {y : MethodName} {ws1 ws2 : List Cond} {rm1 : Room} {bytes : ByteArray} {maxL n index b : Nat} {ret : Option FieldType} {C : String} {As st0 : List Value}
/-- a call of a method of an object that lies outside the world -/
theorem hj_cXi (F : hw_F K l D Wd tys X cc own Ts rm nL) {P : Int32 → hw_G → hw_A → Int64 → Prop} (hC : hw_Ci l D Wd tys X y ws1 rm1 (.ref b :: As) g a c P) (hG : GoodIn Ts (wsV own index C y ws1)) (hw : ws1 = Cond.code y bytes maxL ret :: ws2) (hz : rm1.cells = 0 ∧ rm1.slots = 0) (hd : y.cls = C ∧ y.cls ≠ "java/lang/invoke/MethodHandle" ∧ y.cls ≠ "java/lang/invoke/VarHandle" ∧ (parseMethodDescriptor y.desc).map (fun d => d.parameters.length) = some n) (hR : rm1.frames + 1 ≤ rm.frames ∧ 8 + (maxL + 11) + rm1.locals ≤ rm.locals) (hO : ∀ (A : Nat → Prop) (U : State) (H : Heap), X A U H → va_O C b A U H) (hn : As.length = n) (hst : st0 = As.reverse ++ .ref b :: st) (hW8 : (st.map fun v => v.category).sum ≤ 8) (hcs : kc ≤ rm.cells ∧ ks ≤ rm.slots) (d : decode cc pc = .ok (.invokevirtual index, 3))
    (h : ∀ r g' a' c', P r g' a' c' → hw_J K Wd kc ks g' a' c' lv (pc + 3) (.int r :: st)) : hw_J K Wd kc ks g a c lv pc st0 := by
  obtain ⟨p, l, e, R, s, m, args, below, meth, cd, Q, D, A, nL⟩ := K
  obtain ⟨rfl, rfl, rfl, rfl, hx, hb, hml, hown, hts, hK, hD, hA, hlk, hok, hX⟩ := F
  intro H locs ls hP hS hl
  have hfree : ∀ q, va_A (Wd g a c) H.size q → A q := fun q hq => hq.elim (fun ⟨k, e, hk⟩ => (hD g a c).2 k _ hk) (fun h => hA q (Nat.le_trans hS.1 h))
  have hXf : ∀ U : State, s.WarmedH U.vm → X (va_A (Wd g a c) H.size) U H := fun U hW => hok.2.2.1 _ _ _ _ (hok.1 _ _ _ _ hW (hok.2.1 _ _ _ _ hX hS.2.1)) hfree
  subst hst
  have hrec : ∃ cell : Cell, H[b]? = some cell ∧ cell.vm.isStatics = false ∧ s.vm.findClass C = some cell.cls := by
    obtain ⟨cell, h1, h2, h3, -⟩ := (hO _ _ _ hX).kept hS.2.1
    exact ⟨cell, h1, h2, h3⟩
  exact va_calli (S := hw_S) (va_runV (As := As) (rest := st) ⟨hx, hb, hml, hown, hts⟩ (hC H.size) (cwV n hts hG hw hz.1 hz.2 hd hR) ⟨hw_blind hok, hrec, fun U hU hW => ⟨rfl, by rw [hU], by rw [hU]; exact hP, va_K.moved hW.alike hK, (hD g a c).weaken (fun _ _ _ _ => trivial), by rw [hU]; exact hXf U hW⟩⟩ rfl hn hl.1 rfl (lv_room hW8) d ⟨hcs.1, hcs.2⟩) hS (fun q _ hq => hfree q hq) hfree (fun r u t H1 locs1 ht hvm hw hB hz1 hk1 hS1 => h r u.1 u.2.1 u.2.2 hw H1 locs1 ls (by rw [← ht]; exact hB) hS1 hl)
end SXR
/-- a method that answers a reference, and changes nothing -/
def hw_Cr (l : Launch) (D : va_G) (Wd : hw_W) (tys : List (ClassId × FieldType)) (X : hw_XT) (y : MethodName) (ws : List Cond) (rm : Room) (av : List Value) (g : hw_G) (a : hw_A) (c : Int64) (q : Nat) : Prop :=
  ∀ sz : Nat, Met l y ws rm (va_Pc av (hw_Pre D Wd tys X g a c sz)) (va_Qr (S := Unit) (fun _ => True) (fun _ ra t => ra = q ∧ va_P D vwCl (Wd g a c) t.heap) (va_A (Wd g a c) sz)) 0 0 (va_A (Wd g a c) sz)
theorem hw_Cr.mk {l : Launch} {D : va_G} {Wd : hw_W} {tys : List (ClassId × FieldType)} {X : hw_XT} {y : MethodName} {ws ws' : List Cond} {rm : Room} {av : List Value} {g : hw_G} {a : hw_A} {c : Int64} {q : Nat} {cc : ByteArray} {nL : Nat} {cn : String} {lv0 : List (Nat × Value)}
    (hy : plainName y.cls = true) (hw : ws = Cond.code y cc nL (some (.object cn)) :: ws') (hav : (lg_sl av).length ≤ nL) (hlv : lv_args 0 av = lv0) (hWd : hw_ads Wd) (hok : hw_XOK X)
    (body : ∀ K : hw_K, hw_F K l D Wd tys X cc y.cls ws rm nL → (∀ {lv : List (Nat × Value)} {pc : Nat}, decode cc pc = .ok (.areturn, 1) → hw_J K Wd 0 0 g a c lv pc [.ref q]) → hw_J K Wd 0 0 g a c lv0 0 []) : hw_Cr l D Wd tys X y ws rm av g a c q := by
  intro sz
  refine Met.ofW (cc := cc) (maxL := nL) (ret := (some (.object cn))) hy hw ?_
  intro p e s m args below meth cd s₁ B hml hv
  obtain ⟨rfl, hsz, hP, hK, hD0, hX⟩ := hv
  have hx := B.exec
  have hb := B.bytes
  have hr := B.returns
  have hts := atoms_spec (ws := ws) B.pre
  have hown : s.vm.findClass y.cls = some m.cls := findClass_of_methodNamed B.named
  have hlocks := B.notSynchronized
  subst hsz
  have hD := hD0.self (sz := s.heap.size)
  rw [lg_entry_eq]
  have hl := lv_entry av (n := nL) hav
  rw [hlv] at hl
  exact body (p, l, e, rm, s, m, av.toArray, below, meth, cd, _, D, va_A (Wd g a c) s.heap.size, nL) ⟨rfl, rfl, rfl, rfl, hx, hb, hml, hown, hts, hK, fun g' a' c' => hw_D hD (hWd g a c g' a' c'), fun q h => Or.inr h, hlocks, hok, hX⟩
    (fun {lv pc} d H locs ls hP hS hl => W.aret hx hb hr (Or.inl ⟨_, rfl⟩) (Or.inr ⟨_, rfl⟩) (fun t ht hW => ⟨⟨(), q, rfl, trivial, rfl, by show va_P _ _ _ t.heap; rw [ht]; exact hP⟩, hS.F ht⟩) hS.2.2 d hlocks) s.heap [] _ hP va_S.rf hl
section SXQ
variable {K : hw_K} {l : Launch} {D : va_G} {Wd : hw_W} {tys : List (ClassId × FieldType)} {X : hw_XT} {cc : ByteArray} {own : String} {Ts : List Cond} {rm : Room} {nL : Nat} {kc ks : Nat} {g : hw_G} {a : hw_A} {c : Int64} {lv : List (Nat × Value)} {pc : Nat} {st : List Value}
variable {y : MethodName} {ws1 ws2 : List Cond} {rm1 : Room} {bytes : ByteArray} {maxL n index b : Nat} {ret : Option FieldType} {C : String} {As st0 : List Value}
theorem hj_cSr (F : hw_F K l D Wd tys X cc own Ts rm nL) {q : Nat} (hC : hw_Cr l D Wd tys X y ws1 rm1 As g a c q) (hG : GoodIn Ts (va_wsS own index y ws1)) (hw : ws1 = Cond.code y bytes maxL ret :: ws2) (hz : rm1.cells = 0 ∧ rm1.slots = 0) (hd : y.cls ≠ "java/lang/invoke/MethodHandle" ∧ y.cls ≠ "java/lang/invoke/VarHandle" ∧ (parseMethodDescriptor y.desc).map (fun d => d.parameters.length) = some n) (hR : rm1.frames + 1 ≤ rm.frames ∧ 8 + (maxL + 11) + rm1.locals ≤ rm.locals) (hn : As.length = n) (hst : st0 = As.reverse ++ st) (hW8 : (st.map fun v => v.category).sum ≤ 8) (hcs : kc ≤ rm.cells ∧ ks ≤ rm.slots) (d : decode cc pc = .ok (.invokestatic index, 3))
    (h : hw_J K Wd kc ks g a c lv (pc + 3) (.ref q :: st)) : hw_J K Wd kc ks g a c lv pc st0 := by
  obtain ⟨p, l, e, R, s, m, args, below, meth, cd, Q, D, A, nL⟩ := K
  obtain ⟨rfl, rfl, rfl, rfl, hx, hb, hml, hown, hts, hK, hD, hA, hlk, hok, hX⟩ := F
  intro H locs ls hP hS hl
  have hfree : ∀ q, va_A (Wd g a c) H.size q → A q := fun q hq => hq.elim (fun ⟨k, e, hk⟩ => (hD g a c).2 k _ hk) (fun h => hA q (Nat.le_trans hS.1 h))
  have hXf : ∀ U : State, s.WarmedH U.vm → X (va_A (Wd g a c) H.size) U H := fun U hW => hok.2.2.1 _ _ _ _ (hok.1 _ _ _ _ hW (hok.2.1 _ _ _ _ hX hS.2.1)) hfree
  subst hst
  exact va_callr (S := Unit) (va_runS (As := As) (rest := st) ⟨hx, hb, hml, hown, hts⟩ (hC H.size) (va_cwS n hts hG hw hz.1 hz.2 hd hR) ⟨hw_blind hok, fun U hU hW => ⟨rfl, by rw [hU], by rw [hU]; exact hP, va_K.moved hW.alike hK, (hD g a c).weaken (fun _ _ _ _ => trivial), by rw [hU]; exact hXf U hW⟩⟩ rfl hn hl.1 rfl (lv_room hW8) d ⟨hcs.1, hcs.2⟩) hS (fun q _ hq => hfree q hq) hfree (fun u ra t H1 locs1 ht hvm hw hB hz1 hk1 hS1 => by
    obtain ⟨rfl, hB⟩ := hB
    exact h H1 locs1 ls (by rw [← ht]; exact hB) hS1 hl)
end SXQ
section SXM
variable {l : Launch} {D : va_G} {Wd : hw_W} {tys : List (ClassId × FieldType)} {X : hw_XT} {g : hw_G} {a : hw_A} {c : Int64} {τ : Nat → Nat}
theorem sx_ok : ∀ i : Fin 4, ∀ j : Fin 5, ((tp_ch i j &&& 255).toUInt32 % 65536).toInt32 = tp_ch i j ∧ narrow .char (.int (tp_ch i j)) = .int (tp_ch i j) := by decide +kernel
theorem sx_l5 : ∀ i : Fin 4, tp_len i ≤ 5 := by decide +kernel
set_option maxHeartbeats 4000000 in
set_option maxRecDepth 100000 in
theorem k_S_coder (hok : hw_XOK X) (hWd : hw_ads Wd) (hs : ∀ A U H, X A U H → sx τ A U H) {i : Nat} (hi : i < 4) : hw_Ci l D Wd tys X yJ0_coder_7d493 wsJ0_coder_7d493 (hw_rm 1) [.ref (τ i)] g a c (fun r g' a' c' => r = 0 ∧ g' = g ∧ a' = a ∧ c' = c) := by
  refine hw_Ci.mk (lv0 := [(0, _)]) (by decide) rfl (Nat.le_of_ble_eq_true rfl) rfl hWd hok (fun K F ret => ?_)
  refine hj_gets F (fun A U H h => (hs A U H h).2.1) (List.mem_of_getElem? (i := 1) rfl) dJ0_coder_7d493_0 ?_
  refine hj_if_eq F 13 dJ0_coder_7d493_3 (by decide) (fun q => absurd q (by decide)) (fun q => ?_)
  refine hj_aload_n F 0 dJ0_coder_7d493_6 rfl rfl ?_
  refine hj_getf F (fun A U H h => ((hs A U H h).1.1 i hi).2.1) (List.mem_of_getElem? (i := 2) rfl) dJ0_coder_7d493_7 ?_
  refine hj_goto F 14 dJ0_coder_7d493_10 (by decide) ?_
  exact ret dJ0_coder_7d493_14 rfl ⟨rfl, rfl, rfl, rfl⟩
set_option maxHeartbeats 4000000 in
set_option maxRecDepth 100000 in
theorem k_S_isLatin1 (hok : hw_XOK X) (hWd : hw_ads Wd) (hs : ∀ A U H, X A U H → sx τ A U H) {i : Nat} (hi : i < 4) : hw_Ci l D Wd tys X yJ0_isLatin1_aae02 wsJ0_isLatin1_aae02 (hw_rm 1) [.ref (τ i)] g a c (fun r g' a' c' => r = 1 ∧ g' = g ∧ a' = a ∧ c' = c) := by
  refine hw_Ci.mk (lv0 := [(0, _)]) (by decide) rfl (Nat.le_of_ble_eq_true rfl) rfl hWd hok (fun K F ret => ?_)
  refine hj_gets F (fun A U H h => (hs A U H h).2.1) (List.mem_of_getElem? (i := 1) rfl) dJ0_isLatin1_aae02_0 ?_
  refine hj_if_eq F 17 dJ0_isLatin1_aae02_3 (by decide) (fun q => absurd q (by decide)) (fun q => ?_)
  refine hj_aload_n F 0 dJ0_isLatin1_aae02_6 rfl rfl ?_
  refine hj_getf F (fun A U H h => ((hs A U H h).1.1 i hi).2.1) (List.mem_of_getElem? (i := 2) rfl) dJ0_isLatin1_aae02_7 ?_
  refine hj_if_ne F 17 dJ0_isLatin1_aae02_10 (by decide) (fun q => absurd rfl q) (fun q => ?_)
  refine hj_iconst F (v := 1) dJ0_isLatin1_aae02_13 (by decide) ?_
  refine hj_goto F 18 dJ0_isLatin1_aae02_14 (by decide) ?_
  exact ret dJ0_isLatin1_aae02_18 rfl ⟨rfl, rfl, rfl, rfl⟩
set_option maxHeartbeats 4000000 in
set_option maxRecDepth 100000 in
theorem k_S_length (hok : hw_XOK X) (hWd : hw_ads Wd) (hs : ∀ A U H, X A U H → sx τ A U H) {i : Nat} (hi : i < 4) : hw_Ci l D Wd tys X yJ0_length_8abf5 wsJ0_length_8abf5 (hw_rm 2) [.ref (τ i)] g a c (fun r g' a' c' => r = nI (tp_len i) ∧ g' = g ∧ a' = a ∧ c' = c) := by
  refine hw_Ci.mk (lv0 := [(0, _)]) (by decide) rfl (Nat.le_of_ble_eq_true rfl) rfl hWd hok (fun K F ret => ?_)
  have F : hw_F K l D Wd tys X cJ0_length_8abf5 RJ0 wsJ0_length_8abf5 (hw_rm 2) 1 := F
  refine hj_aload_n F 0 dJ0_length_8abf5_0 rfl rfl ?_
  refine hj_getf F (fun A U H h => ((hs A U H h).1.1 i hi).2.2.1) (List.mem_of_getElem? (i := 1) rfl) dJ0_length_8abf5_1 ?_
  refine hj_tlen F (fun A U H h => ((hs A U H h).1.1 i hi).2.2.2) dJ0_length_8abf5_4 ?_
  refine hj_aload_n F 0 dJ0_length_8abf5_5 rfl rfl ?_
  refine hj_cXi F (n := 0) (k_S_coder hok hWd hs hi) gJ0_length_8abf5_J0_coder_7d493 rfl ⟨rfl, rfl⟩ (by decide +kernel) ⟨by decide, by decide⟩ (fun A U H h => ((hs A U H h).1.1 i hi).1) (As := []) rfl rfl (Nat.le_of_ble_eq_true rfl) ⟨Nat.zero_le _, Nat.zero_le _⟩ dJ0_length_8abf5_6 (hw_eq4 ?_)
  refine hj_ishr F dJ0_length_8abf5_9 ?_
  exact ret dJ0_length_8abf5_10 rfl ⟨sb_shr0 _, rfl, rfl, rfl⟩
set_option maxHeartbeats 4000000 in
set_option maxRecDepth 100000 in
theorem k_S_check3 (hok : hw_XOK X) (hWd : hw_ads Wd) {j N : Nat} (hj : j < N) (hN : N < 2 ^ 31) {v : Value} (hv : v = .null ∨ ∃ q, v = .ref q) : hw_Ci l D Wd tys X yJ3_checkIndex_8e157 wsJ3_checkIndex_8e157 (hw_rm 1) [.int (nI j), .int (nI N), v] g a c (fun r g' a' c' => r = nI j ∧ g' = g ∧ a' = a ∧ c' = c) := by
  refine hw_Ci.mk (lv0 := [(0, .int (nI j)), (1, .int (nI N)), (2, v)]) (by decide) rfl (by rcases hv with rfl | ⟨q, rfl⟩ <;> exact Nat.le_of_ble_eq_true rfl) (by rcases hv with rfl | ⟨q, rfl⟩ <;> rfl) hWd hok (fun K F ret => ?_)
  refine hj_iload_n F 0 dJ3_checkIndex_8e157_0 rfl rfl ?_
  refine hj_if_lt F 9 dJ3_checkIndex_8e157_1 (by decide) (fun q => absurd q (nI_pos (by omega))) (fun q => ?_)
  refine hj_iload_n F 0 dJ3_checkIndex_8e157_4 rfl rfl ?_
  refine hj_iload_n F 1 dJ3_checkIndex_8e157_5 rfl rfl ?_
  refine hj_icmp_lt F 16 dJ3_checkIndex_8e157_6 (by decide) (fun q => ?_) (fun q => absurd (nI_lt hj hN) q)
  refine hj_iload_n F 0 dJ3_checkIndex_8e157_16 rfl rfl ?_
  exact ret dJ3_checkIndex_8e157_17 rfl ⟨rfl, rfl, rfl, rfl⟩
set_option maxHeartbeats 4000000 in
set_option maxRecDepth 100000 in
theorem k_S_check0 (hok : hw_XOK X) (hWd : hw_ads Wd) (hs : ∀ A U H, X A U H → sx τ A U H) {j N : Nat} (hj : j < N) (hN : N < 2 ^ 31) : hw_Cv l D Wd tys X yJ0_checkIndex_df160 wsJ0_checkIndex_df160 (hw_rm 2) [.int (nI j), .int (nI N)] g a c (fun g' a' c' => g' = g ∧ a' = a ∧ c' = c) := by
  refine hw_Cv.mk (lv0 := [(0, _), (1, _)]) (by decide) rfl (Nat.le_of_ble_eq_true rfl) rfl hWd hok (fun K F ret => ?_)
  have F : hw_F K l D Wd tys X cJ0_checkIndex_df160 RJ0 wsJ0_checkIndex_df160 (hw_rm 2) 2 := F
  refine hj_iload_n F 0 dJ0_checkIndex_df160_0 rfl rfl ?_
  refine hj_iload_n F 1 dJ0_checkIndex_df160_1 rfl rfl ?_
  refine hj_getq F (fun A U H h => (hs A U H h).2.2) (List.mem_of_getElem? (i := 1) rfl) dJ0_checkIndex_df160_2 (fun v hv => ?_)
  refine hj_cSi F (n := 3) (k_S_check3 hok hWd hj hN hv) gJ0_checkIndex_df160_J3_checkIndex_8e157 rfl ⟨rfl, rfl⟩ (by decide +kernel) ⟨by decide, by decide⟩ (As := [_, _, _]) rfl rfl (Nat.le_of_ble_eq_true rfl) ⟨Nat.zero_le _, Nat.zero_le _⟩ dJ0_checkIndex_df160_5 (hw_eq4 ?_)
  refine hj_pop F dJ0_checkIndex_df160_8 rfl ?_
  exact ret dJ0_checkIndex_df160_9 ⟨rfl, rfl, rfl⟩
set_option maxHeartbeats 4000000 in
set_option maxRecDepth 100000 in
theorem k_S_charAt1 (hok : hw_XOK X) (hWd : hw_ads Wd) (hs : ∀ A U H, X A U H → sx τ A U H) {i j : Nat} (hi : i < 4) (hj : j < tp_len i) : hw_Ci l D Wd tys X yJ1_charAt_3b067 wsJ1_charAt_3b067 (hw_rm 3) [.ref (τ (10 + i)), .int (nI j)] g a c (fun r g' a' c' => r = tp_ch i j ∧ g' = g ∧ a' = a ∧ c' = c) := by
  refine hw_Ci.mk (lv0 := [(0, _), (1, _)]) (by decide) rfl (Nat.le_of_ble_eq_true rfl) rfl hWd hok (fun K F ret => ?_)
  have F : hw_F K l D Wd tys X cJ1_charAt_3b067 RJ1 wsJ1_charAt_3b067 (hw_rm 3) 2 := F
  have h5 := sx_l5 ⟨i, hi⟩
  have h5 : tp_len i ≤ 5 := h5
  obtain ⟨e1, e2⟩ := sx_ok ⟨i, hi⟩ ⟨j, by omega⟩
  have e1 : ((tp_ch i j &&& 255).toUInt32 % 65536).toInt32 = tp_ch i j := e1
  have e2 : narrow .char (.int (tp_ch i j)) = .int (tp_ch i j) := e2
  refine hj_iload_n F 1 dJ1_charAt_3b067_0 rfl rfl ?_
  refine hj_aload_n F 0 dJ1_charAt_3b067_1 rfl rfl ?_
  refine hj_tlen F (fun A U H h => ((hs A U H h).1.1 i hi).2.2.2) dJ1_charAt_3b067_2 ?_
  refine hj_cSv F (n := 2) (k_S_check0 hok hWd hs hj (by omega)) gJ1_charAt_3b067_J0_checkIndex_df160 rfl ⟨rfl, rfl⟩ (by decide +kernel) ⟨by decide, by decide⟩ (As := [_, _]) rfl rfl (Nat.le_of_ble_eq_true rfl) ⟨Nat.zero_le _, Nat.zero_le _⟩ dJ1_charAt_3b067_3 (hw_eq3 ?_)
  refine hj_aload_n F 0 dJ1_charAt_3b067_6 rfl rfl ?_
  refine hj_iload_n F 1 dJ1_charAt_3b067_7 rfl rfl ?_
  refine hj_tb F (fun A U H h => ((hs A U H h).1.1 i hi).2.2.2) (vp_in_nI hj (by show tp_len i < _; omega)) dJ1_charAt_3b067_8 ?_
  refine hj_sipush F (v := 255) dJ1_charAt_3b067_9 (by decide) ?_
  refine hj_iand F dJ1_charAt_3b067_12 ?_
  refine hj_i2c F dJ1_charAt_3b067_13 ?_
  have e3 : (sx_B.getD i []).getD (nI j).toNatClampNeg 0 = tp_ch i j := by rw [nI_clamp (by omega)]; rfl
  rw [e3, e1]
  exact ret dJ1_charAt_3b067_14 e2 ⟨rfl, rfl, rfl, rfl⟩
set_option maxHeartbeats 4000000 in
set_option maxRecDepth 100000 in
theorem k_S_charAt (hok : hw_XOK X) (hWd : hw_ads Wd) (hs : ∀ A U H, X A U H → sx τ A U H) {i j : Nat} (hi : i < 4) (hj : j < tp_len i) : hw_Ci l D Wd tys X yJ0_charAt_5068e wsJ0_charAt_5068e (hw_rm 4) [.ref (τ i), .int (nI j)] g a c (fun r g' a' c' => r = tp_ch i j ∧ g' = g ∧ a' = a ∧ c' = c) := by
  refine hw_Ci.mk (lv0 := [(0, _), (1, _)]) (by decide) rfl (Nat.le_of_ble_eq_true rfl) rfl hWd hok (fun K F ret => ?_)
  have F : hw_F K l D Wd tys X cJ0_charAt_5068e RJ0 wsJ0_charAt_5068e (hw_rm 4) 2 := F
  have h5 := sx_l5 ⟨i, hi⟩
  have h5 : tp_len i ≤ 5 := h5
  have e2 : narrow .char (.int (tp_ch i j)) = .int (tp_ch i j) := (sx_ok ⟨i, hi⟩ ⟨j, by omega⟩).2
  refine hj_aload_n F 0 dJ0_charAt_5068e_0 rfl rfl ?_
  refine hj_cXi F (n := 0) (k_S_isLatin1 hok hWd hs hi) gJ0_charAt_5068e_J0_isLatin1_aae02 rfl ⟨rfl, rfl⟩ (by decide +kernel) ⟨by decide, by decide⟩ (fun A U H h => ((hs A U H h).1.1 i hi).1) (As := []) rfl rfl (Nat.le_of_ble_eq_true rfl) ⟨Nat.zero_le _, Nat.zero_le _⟩ dJ0_charAt_5068e_1 (hw_eq4 ?_)
  refine hj_if_eq F 16 dJ0_charAt_5068e_4 (by decide) (fun q => absurd q (by decide)) (fun q => ?_)
  refine hj_aload_n F 0 dJ0_charAt_5068e_7 rfl rfl ?_
  refine hj_getf F (fun A U H h => ((hs A U H h).1.1 i hi).2.2.1) (List.mem_of_getElem? (i := 1) rfl) dJ0_charAt_5068e_8 ?_
  refine hj_iload_n F 1 dJ0_charAt_5068e_11 rfl rfl ?_
  refine hj_cSi F (n := 2) (k_S_charAt1 hok hWd hs hi hj) gJ0_charAt_5068e_J1_charAt_3b067 rfl ⟨rfl, rfl⟩ (by decide +kernel) ⟨by decide, by decide⟩ (As := [_, _]) rfl rfl (Nat.le_of_ble_eq_true rfl) ⟨Nat.zero_le _, Nat.zero_le _⟩ dJ0_charAt_5068e_12 (hw_eq4 ?_)
  exact ret dJ0_charAt_5068e_15 e2 ⟨rfl, rfl, rfl, rfl⟩
end SXM
end
section
section STAPE2
theorem hi_X2_isWord_T : ∀ w ∈ u_ws RX2 TX2 7, w ∈ wsX2_isWord := fun w h => by
  unfold wsX2_isWord
  simp only [List.mem_cons, List.mem_append]
  first | (simp only [h, or_true, true_or]; done) | (have h2 : w ∈ wsX20 := h; simp only [h2, or_true, true_or]; done)
theorem lk_X2_isWord_23 : Cond.fieldLink RX2 23 "HatWorks$Tape" "at" "I" ∈ wsX2_isWord := List.mem_of_getElem? (i := 1) rfl
theorem lk_X2_isWord_9 : Cond.fieldLink RX2 9 "HatWorks$Tape" "bytes" "[B" ∈ wsX2_isWord := List.mem_of_getElem? (i := 2) rfl
variable {K : hw_K} {l : Launch} {D : va_G} {ad : Nat → Nat} {t : Nat → ClassId} {X : hw_XT} {rm : Room} {g : hw_G} {a : hw_A} {c : Int64}
variable {τ : Nat → Nat}
def sx2 (τ : Nat → Nat) (U : State) : Prop := vk_R RX2 95 "crown" (τ 0) U ∧ vk_R RX2 97 "brim" (τ 1) U ∧ vk_R RX2 99 "band" (τ 2) U ∧ vk_R RX2 101 "felt" (τ 3) U
def tp_least (j : Nat) : Int32 := [5, 0, 0, 1].getD j 0
def tp_most (j : Nat) : Int32 := [30, 20, 9, 5].getD j 0
def sxT (τ : Nat → Nat) (A : Nat → Prop) (U : State) (H : Heap) : Prop := va_Z "HatWorks$Tape" "LEAST" "[I" (.ref (τ 20)) A U H ∧ va_T .int (τ 20) 4 (fun j => .int (tp_least j)) A U H ∧ va_Z "HatWorks$Tape" "MOST" "[I" (.ref (τ 21)) A U H ∧ va_T .int (τ 21) 4 (fun j => .int (tp_most j)) A U H
def tp_isb (b : Nat → Int32) (i n1 n2 : Nat) : Bool := decide (n2 = n1 + tp_len i) && (List.range (tp_len i)).all (fun j => b (n1 + j) == tp_ch i j)
theorem tp_isb_iff {b : Nat → Int32} {i n1 n2 : Nat} : tp_isb b i n1 n2 = true ↔ n2 = n1 + tp_len i ∧ ∀ j, j < tp_len i → b (n1 + j) = tp_ch i j := by
  simp [tp_isb]
/-- which part is named from n1 to n2; 4: none -/
def tp_pn (b : Nat → Int32) (n1 n2 : Nat) : Nat := if tp_isb b 0 n1 n2 then 0 else if tp_isb b 1 n1 n2 then 1 else if tp_isb b 2 n1 n2 then 2 else if tp_isb b 3 n1 n2 then 3 else 4
def tp_pr (b : Nat → Int32) (n1 n2 : Nat) : Int32 := if tp_pn b n1 n2 = 4 then -1 else nI (tp_pn b n1 n2)
theorem tp_pn_le (b : Nat → Int32) (n1 n2 : Nat) : tp_pn b n1 n2 ≤ 4 := by
  unfold tp_pn
  repeat' split
  all_goals omega
theorem tp_pn_is {b : Nat → Int32} {n1 n2 : Nat} (h : tp_pn b n1 n2 < 4) : tp_isb b (tp_pn b n1 n2) n1 n2 = true := by
  unfold tp_pn at h ⊢
  by_cases h0 : tp_isb b 0 n1 n2 = true
  · simpa [h0] using h0
  · by_cases h1 : tp_isb b 1 n1 n2 = true
    · simpa [h0, h1] using h1
    · by_cases h2 : tp_isb b 2 n1 n2 = true
      · simpa [h0, h1, h2] using h2
      · by_cases h3 : tp_isb b 3 n1 n2 = true
        · simpa [h0, h1, h2, h3] using h3
        · simp [h0, h1, h2, h3] at h
set_option maxHeartbeats 4000000 in
set_option maxRecDepth 100000 in
theorem k_T_nameOf (hok : hw_XOK X) (hs2 : ∀ A U H, X A U H → sx2 τ U) {i : Nat} (hi : i < 4) : hw_Cr l D (WH ad t) (hw_T t) X yX2_nameOf wsX2_nameOf (hw_rm 1) [.int (nI i)] g a c (τ i) := by
  refine hw_Cr.mk (lv0 := [(0, _)]) (by decide) rfl (Nat.le_of_ble_eq_true rfl) rfl (WH_ads ad t) hok (fun K F ret => ?_)
  have F : hw_F K l D (WH ad t) (hw_T t) X cX2_nameOf RX2 wsX2_nameOf (hw_rm 1) 1 := F
  refine hj_iload_n F 0 dX2_nameOf_0 rfl rfl ?_
  match i, hi with
  | 0, _ =>
    refine hj_tableIn F 28 dX2_nameOf_1 (by decide) (by decide) (off := 27) (by decide) (by decide) ?_
    refine hj_ldcS F (fun A U H h => (hs2 A U H h).1) dX2_nameOf_28 ?_
    exact ret dX2_nameOf_30
  | 1, _ =>
    refine hj_tableIn F 31 dX2_nameOf_1 (by decide) (by decide) (off := 30) (by decide) (by decide) ?_
    refine hj_ldcS F (fun A U H h => (hs2 A U H h).2.1) dX2_nameOf_31 ?_
    exact ret dX2_nameOf_33
  | 2, _ =>
    refine hj_tableIn F 34 dX2_nameOf_1 (by decide) (by decide) (off := 33) (by decide) (by decide) ?_
    refine hj_ldcS F (fun A U H h => (hs2 A U H h).2.2.1) dX2_nameOf_34 ?_
    exact ret dX2_nameOf_36
  | 3, _ =>
    refine hj_tableOut F 37 dX2_nameOf_1 (by decide) (by decide) ?_
    refine hj_ldcS F (fun A U H h => (hs2 A U H h).2.2.2) dX2_nameOf_37 ?_
    exact ret dX2_nameOf_39
set_option maxHeartbeats 4000000 in
set_option maxRecDepth 100000 in
theorem lp_T_isWord (F : hw_F K l D (WH ad t) (hw_T t) X cX2_isWord RX2 wsX2_isWord (hw_rm 5) 4) (hok : hw_XOK X) (hs : ∀ A U H, X A U H → sx τ A U H) {i : Nat} (hi : i < 4) {n1 n2 : Nat} (hlen : n2 = n1 + tp_len i) (hn2 : n2 ≤ 100) (ret : ∀ {lv : List (Nat × Value)} {pc : Nat} {v : Int32}, decode cX2_isWord pc = .ok (.ireturn, 1) → narrow .boolean (.int v) = .int v → v = (if tp_isb (a 1) i n1 n2 = true then 1 else 0) → hw_J K (WH ad t) 0 0 g a c lv pc [.int v]) : ∀ m j : Nat, tp_len i - j < m → j ≤ tp_len i → (∀ k, k < j → a 1 (n1 + k) = tp_ch i k) → hw_J K (WH ad t) 0 0 g a c [(3, .int (nI j)), (0, .ref (ad 1)), (1, .ref (τ i)), (2, .int (nI n1))] 17 [] := by
  intro m
  induction m with
  | zero => intro j hm; exact absurd hm (Nat.not_lt_zero _)
  | succ m ih =>
    intro j hm hjl hj
    have h5 : tp_len i ≤ 5 := sx_l5 ⟨i, hi⟩
    refine hj_iload_n F 0 dX2_isWord_17 rfl rfl ?_
    refine hj_aload_n F 2 dX2_isWord_18 rfl rfl ?_
    refine hj_cXi F (n := 0) (k_S_length hok (WH_ads ad t) hs hi) gX2_isWord_J0_length_8abf5 rfl ⟨rfl, rfl⟩ (by decide +kernel) ⟨by decide, by decide⟩ (fun A U H h => ((hs A U H h).1.1 i hi).1) (As := []) rfl rfl (Nat.le_of_ble_eq_true rfl) ⟨Nat.zero_le _, Nat.zero_le _⟩ dX2_isWord_19 (hw_eq4 ?_)
    refine hj_icmp_ge F 49 dX2_isWord_22 (by decide) (fun q22 => ?_) (fun q22 => ?_)
    · rw [nI_leI (by omega) (by omega)] at q22
      refine hj_iconst F (v := 1) dX2_isWord_49 (by decide) ?_
      exact ret dX2_isWord_50 rfl (by rw [if_pos (tp_isb_iff.mpr ⟨hlen, fun k hk => hj k (by omega)⟩)])
    · rw [nI_leI (by omega) (by omega)] at q22
      have hlt : j < tp_len i := by omega
      refine hj_aload_n F 1 dX2_isWord_25 rfl rfl ?_
      refine hg_T_bytes F hi_X2_isWord_T lk_X2_isWord_9 dX2_isWord_26 ?_
      refine hj_iload_n F 3 dX2_isWord_29 rfl rfl ?_
      refine hj_iload_n F 0 dX2_isWord_30 rfl rfl ?_
      refine hj_iadd F dX2_isWord_31 ?_
      refine hl_T_bytes F (by rw [nI_add]; exact vp_in_nI (by omega) (by decide)) dX2_isWord_32 ?_
      refine hj_aload_n F 2 dX2_isWord_33 rfl rfl ?_
      refine hj_iload_n F 0 dX2_isWord_34 rfl rfl ?_
      refine hj_cXi F (n := 1) (k_S_charAt hok (WH_ads ad t) hs hi hlt) gX2_isWord_J0_charAt_5068e rfl ⟨rfl, rfl⟩ (by decide +kernel) ⟨by decide, by decide⟩ (fun A U H h => ((hs A U H h).1.1 i hi).1) (As := [_]) rfl rfl (Nat.le_of_ble_eq_true rfl) ⟨Nat.zero_le _, Nat.zero_le _⟩ dX2_isWord_35 (hw_eq4 ?_)
      refine hj_icmp_eq F 43 dX2_isWord_38 (by decide) (fun q38 => ?_) (fun q38 => ?_)
      · rw [nI_add, nI_clamp (by omega)] at q38
        refine hj_iinc F 0 (v := _ + 1) (lv' := [(3, _), (0, _), (1, _), (2, _)]) dX2_isWord_43 rfl rfl (by decide) rfl ?_
        refine hj_goto F 17 dX2_isWord_46 (by decide) ?_
        rw [nI_1]
        exact ih (j + 1) (by omega) (by omega) (fun k hk => by
          rcases Nat.lt_or_ge k j with h | h
          · exact hj k h
          · rw [show k = j by omega]; exact q38)
      · rw [nI_add, nI_clamp (by omega)] at q38
        refine hj_iconst F (v := 0) dX2_isWord_41 (by decide) ?_
        exact ret dX2_isWord_42 rfl (by rw [if_neg (fun z => q38 ((tp_isb_iff.mp z).2 j hlt))])
set_option maxHeartbeats 4000000 in
set_option maxRecDepth 100000 in
theorem k_T_isWord (hok : hw_XOK X) (hs : ∀ A U H, X A U H → sx τ A U H) {i n1 n2 : Nat} (hi : i < 4) (h8 : g 8 = nI n2) (h12 : n1 ≤ n2) (hn2 : n2 ≤ 100) : hw_Ci l D (WH ad t) (hw_T t) X yX2_isWord wsX2_isWord (hw_rm 5) [.ref (ad 1), .ref (τ i), .int (nI n1)] g a c (fun r g' a' c' => r = (if tp_isb (a 1) i n1 n2 = true then 1 else 0) ∧ g' = g ∧ a' = a ∧ c' = c) := by
  refine hw_Ci.mk (lv0 := [(0, _), (1, _), (2, _)]) (by decide) rfl (Nat.le_of_ble_eq_true rfl) rfl (WH_ads ad t) hok (fun K F ret => ?_)
  have F : hw_F K l D (WH ad t) (hw_T t) X cX2_isWord RX2 wsX2_isWord (hw_rm 5) 4 := F
  have h5 : tp_len i ≤ 5 := sx_l5 ⟨i, hi⟩
  refine hj_aload_n F 0 dX2_isWord_0 rfl rfl ?_
  refine hg_T_at F hi_X2_isWord_T lk_X2_isWord_23 dX2_isWord_1 ?_
  rw [h8]
  refine hj_iload_n F 2 dX2_isWord_4 rfl rfl ?_
  refine hj_isub F dX2_isWord_5 ?_
  rw [pk_sub h12]
  refine hj_aload_n F 1 dX2_isWord_6 rfl rfl ?_
  refine hj_cXi F (n := 0) (k_S_length hok (WH_ads ad t) hs hi) gX2_isWord_J0_length_8abf5 rfl ⟨rfl, rfl⟩ (by decide +kernel) ⟨by decide, by decide⟩ (fun A U H h => ((hs A U H h).1.1 i hi).1) (As := []) rfl rfl (Nat.le_of_ble_eq_true rfl) ⟨Nat.zero_le _, Nat.zero_le _⟩ dX2_isWord_7 (hw_eq4 ?_)
  refine hj_icmp_eq F 15 dX2_isWord_10 (by decide) (fun q10 => ?_) (fun q10 => ?_)
  · rw [nI_eq (by omega) (by omega)] at q10
    refine hj_iconst F (v := 0) dX2_isWord_15 (by decide) ?_
    refine hj_istore_n F (lv' := [(3, _), (0, _), (1, _), (2, _)]) dX2_isWord_16 rfl (by decide) rfl ?_
    exact lp_T_isWord F hok hs hi (n2 := n2) (by omega) hn2 (fun d hn hv => ret d hn ⟨hv, rfl, rfl, rfl⟩) (tp_len i + 1) 0 (by omega) (Nat.zero_le _) (fun k hk => absurd hk (Nat.not_lt_zero _))
  · rw [nI_eq (by omega) (by omega)] at q10
    refine hj_iconst F (v := 0) dX2_isWord_13 (by decide) ?_
    exact ret dX2_isWord_14 rfl ⟨by rw [if_neg (fun z => q10 (by have := (tp_isb_iff.mp z).1; omega))], rfl, rfl, rfl⟩
set_option maxHeartbeats 4000000 in
set_option maxRecDepth 100000 in
theorem k_T_partNamed (hok : hw_XOK X) (hs : ∀ A U H, X A U H → sx τ A U H) (hs2 : ∀ A U H, X A U H → sx2 τ U) {n1 n2 : Nat} (h8 : g 8 = nI n2) (h12 : n1 ≤ n2) (hn2 : n2 ≤ 100) : hw_Ci l D (WH ad t) (hw_T t) X yX2_partNamed wsX2_partNamed (hw_rm 6) [.ref (ad 1), .int (nI n1)] g a c (fun r g' a' c' => r = tp_pr (a 1) n1 n2 ∧ g' = g ∧ a' = a ∧ c' = c) := by
  refine hw_Ci.mk (lv0 := [(0, _), (1, _)]) (by decide) rfl (Nat.le_of_ble_eq_true rfl) rfl (WH_ads ad t) hok (fun K F ret => ?_)
  have F : hw_F K l D (WH ad t) (hw_T t) X cX2_partNamed RX2 wsX2_partNamed (hw_rm 6) 3 := F
  refine hj_iconst F (v := 0) dX2_partNamed_0 (by decide) ?_
  refine hj_istore_n F (lv' := [(2, _), (0, _), (1, _)]) dX2_partNamed_1 rfl (by decide) rfl ?_
  refine hj_iload_n F 0 dX2_partNamed_2 rfl rfl ?_
  refine hj_iconst F (v := 4) dX2_partNamed_3 (by decide) ?_
  refine hj_icmp_ge F 27 dX2_partNamed_4 (by decide) (fun q4 => ?_) (fun q4 => ?_)
  · exact absurd q4 (by decide)
  · refine hj_aload_n F 1 dX2_partNamed_7 rfl rfl ?_
    refine hj_iload_n F 0 dX2_partNamed_8 rfl rfl ?_
    refine hj_cSr F (n := 1) (k_T_nameOf hok hs2 (i := 0) (by decide)) gX2_partNamed_X2_nameOf rfl ⟨rfl, rfl⟩ (by decide +kernel) ⟨by decide, by decide⟩ (As := [_]) rfl rfl (Nat.le_of_ble_eq_true rfl) ⟨Nat.zero_le _, Nat.zero_le _⟩ dX2_partNamed_9 ?_
    refine hj_iload_n F 2 dX2_partNamed_12 rfl rfl ?_
    refine hj_cVi F (n := 2) (k_T_isWord hok hs (i := 0) (by decide) h8 h12 hn2) gX2_partNamed_X2_isWord rfl ⟨rfl, rfl⟩ (by decide +kernel) ⟨by decide, by decide⟩ 1 2 rfl rfl (As := [_, _]) rfl rfl (Nat.le_of_ble_eq_true rfl) ⟨Nat.zero_le _, Nat.zero_le _⟩ dX2_partNamed_13 (hw_eq4 ?_)
    refine hj_if_eq F 21 dX2_partNamed_16 (by decide) (fun q16 => ?_) (fun q16 => ?_)
    · have z1 : ¬ tp_isb (a 1) 0 n1 n2 = true := fun z => by rw [if_pos z] at q16; exact absurd q16 (by decide)
      refine hj_iinc F 0 (v := _ + 1) (lv' := [(2, _), (0, _), (1, _)]) dX2_partNamed_21 rfl rfl (by decide) rfl ?_
      refine hj_goto F 2 dX2_partNamed_24 (by decide) ?_
      refine hj_iload_n F 0 dX2_partNamed_2 rfl rfl ?_
      refine hj_iconst F (v := 4) dX2_partNamed_3 (by decide) ?_
      refine hj_icmp_ge F 27 dX2_partNamed_4 (by decide) (fun q4_2 => ?_) (fun q4_2 => ?_)
      · exact absurd q4_2 (by decide)
      · refine hj_aload_n F 1 dX2_partNamed_7 rfl rfl ?_
        refine hj_iload_n F 0 dX2_partNamed_8 rfl rfl ?_
        refine hj_cSr F (n := 1) (k_T_nameOf hok hs2 (i := 1) (by decide)) gX2_partNamed_X2_nameOf rfl ⟨rfl, rfl⟩ (by decide +kernel) ⟨by decide, by decide⟩ (As := [_]) rfl rfl (Nat.le_of_ble_eq_true rfl) ⟨Nat.zero_le _, Nat.zero_le _⟩ dX2_partNamed_9 ?_
        refine hj_iload_n F 2 dX2_partNamed_12 rfl rfl ?_
        refine hj_cVi F (n := 2) (k_T_isWord hok hs (i := 1) (by decide) h8 h12 hn2) gX2_partNamed_X2_isWord rfl ⟨rfl, rfl⟩ (by decide +kernel) ⟨by decide, by decide⟩ 1 2 rfl rfl (As := [_, _]) rfl rfl (Nat.le_of_ble_eq_true rfl) ⟨Nat.zero_le _, Nat.zero_le _⟩ dX2_partNamed_13 (hw_eq4 ?_)
        refine hj_if_eq F 21 dX2_partNamed_16 (by decide) (fun q16_2 => ?_) (fun q16_2 => ?_)
        · have z2 : ¬ tp_isb (a 1) 1 n1 n2 = true := fun z => by rw [if_pos z] at q16_2; exact absurd q16_2 (by decide)
          refine hj_iinc F 0 (v := _ + 1) (lv' := [(2, _), (0, _), (1, _)]) dX2_partNamed_21 rfl rfl (by decide) rfl ?_
          refine hj_goto F 2 dX2_partNamed_24 (by decide) ?_
          refine hj_iload_n F 0 dX2_partNamed_2 rfl rfl ?_
          refine hj_iconst F (v := 4) dX2_partNamed_3 (by decide) ?_
          refine hj_icmp_ge F 27 dX2_partNamed_4 (by decide) (fun q4_3 => ?_) (fun q4_3 => ?_)
          · exact absurd q4_3 (by decide)
          · refine hj_aload_n F 1 dX2_partNamed_7 rfl rfl ?_
            refine hj_iload_n F 0 dX2_partNamed_8 rfl rfl ?_
            refine hj_cSr F (n := 1) (k_T_nameOf hok hs2 (i := 2) (by decide)) gX2_partNamed_X2_nameOf rfl ⟨rfl, rfl⟩ (by decide +kernel) ⟨by decide, by decide⟩ (As := [_]) rfl rfl (Nat.le_of_ble_eq_true rfl) ⟨Nat.zero_le _, Nat.zero_le _⟩ dX2_partNamed_9 ?_
            refine hj_iload_n F 2 dX2_partNamed_12 rfl rfl ?_
            refine hj_cVi F (n := 2) (k_T_isWord hok hs (i := 2) (by decide) h8 h12 hn2) gX2_partNamed_X2_isWord rfl ⟨rfl, rfl⟩ (by decide +kernel) ⟨by decide, by decide⟩ 1 2 rfl rfl (As := [_, _]) rfl rfl (Nat.le_of_ble_eq_true rfl) ⟨Nat.zero_le _, Nat.zero_le _⟩ dX2_partNamed_13 (hw_eq4 ?_)
            refine hj_if_eq F 21 dX2_partNamed_16 (by decide) (fun q16_3 => ?_) (fun q16_3 => ?_)
            · have z3 : ¬ tp_isb (a 1) 2 n1 n2 = true := fun z => by rw [if_pos z] at q16_3; exact absurd q16_3 (by decide)
              refine hj_iinc F 0 (v := _ + 1) (lv' := [(2, _), (0, _), (1, _)]) dX2_partNamed_21 rfl rfl (by decide) rfl ?_
              refine hj_goto F 2 dX2_partNamed_24 (by decide) ?_
              refine hj_iload_n F 0 dX2_partNamed_2 rfl rfl ?_
              refine hj_iconst F (v := 4) dX2_partNamed_3 (by decide) ?_
              refine hj_icmp_ge F 27 dX2_partNamed_4 (by decide) (fun q4_4 => ?_) (fun q4_4 => ?_)
              · exact absurd q4_4 (by decide)
              · refine hj_aload_n F 1 dX2_partNamed_7 rfl rfl ?_
                refine hj_iload_n F 0 dX2_partNamed_8 rfl rfl ?_
                refine hj_cSr F (n := 1) (k_T_nameOf hok hs2 (i := 3) (by decide)) gX2_partNamed_X2_nameOf rfl ⟨rfl, rfl⟩ (by decide +kernel) ⟨by decide, by decide⟩ (As := [_]) rfl rfl (Nat.le_of_ble_eq_true rfl) ⟨Nat.zero_le _, Nat.zero_le _⟩ dX2_partNamed_9 ?_
                refine hj_iload_n F 2 dX2_partNamed_12 rfl rfl ?_
                refine hj_cVi F (n := 2) (k_T_isWord hok hs (i := 3) (by decide) h8 h12 hn2) gX2_partNamed_X2_isWord rfl ⟨rfl, rfl⟩ (by decide +kernel) ⟨by decide, by decide⟩ 1 2 rfl rfl (As := [_, _]) rfl rfl (Nat.le_of_ble_eq_true rfl) ⟨Nat.zero_le _, Nat.zero_le _⟩ dX2_partNamed_13 (hw_eq4 ?_)
                refine hj_if_eq F 21 dX2_partNamed_16 (by decide) (fun q16_4 => ?_) (fun q16_4 => ?_)
                · have z4 : ¬ tp_isb (a 1) 3 n1 n2 = true := fun z => by rw [if_pos z] at q16_4; exact absurd q16_4 (by decide)
                  refine hj_iinc F 0 (v := _ + 1) (lv' := [(2, _), (0, _), (1, _)]) dX2_partNamed_21 rfl rfl (by decide) rfl ?_
                  refine hj_goto F 2 dX2_partNamed_24 (by decide) ?_
                  refine hj_iload_n F 0 dX2_partNamed_2 rfl rfl ?_
                  refine hj_iconst F (v := 4) dX2_partNamed_3 (by decide) ?_
                  refine hj_icmp_ge F 27 dX2_partNamed_4 (by decide) (fun q4_5 => ?_) (fun q4_5 => ?_)
                  · refine hj_iconst F (v := -1) dX2_partNamed_27 (by decide) ?_
                    exact ret dX2_partNamed_28 rfl ⟨by simp [tp_pr, tp_pn, z1, z2, z3, z4], rfl, rfl, rfl⟩
                  · exact absurd (by decide) q4_5
                · have z4 : tp_isb (a 1) 3 n1 n2 = true := Classical.byContradiction (fun z => q16_4 (if_neg z))
                  refine hj_iload_n F 0 dX2_partNamed_19 rfl rfl ?_
                  exact ret dX2_partNamed_20 rfl ⟨by simp [tp_pr, tp_pn, z1, z2, z3, z4] <;> rfl, rfl, rfl, rfl⟩
            · have z3 : tp_isb (a 1) 2 n1 n2 = true := Classical.byContradiction (fun z => q16_3 (if_neg z))
              refine hj_iload_n F 0 dX2_partNamed_19 rfl rfl ?_
              exact ret dX2_partNamed_20 rfl ⟨by simp [tp_pr, tp_pn, z1, z2, z3] <;> rfl, rfl, rfl, rfl⟩
        · have z2 : tp_isb (a 1) 1 n1 n2 = true := Classical.byContradiction (fun z => q16_2 (if_neg z))
          refine hj_iload_n F 0 dX2_partNamed_19 rfl rfl ?_
          exact ret dX2_partNamed_20 rfl ⟨by simp [tp_pr, tp_pn, z1, z2] <;> rfl, rfl, rfl, rfl⟩
    · have z1 : tp_isb (a 1) 0 n1 n2 = true := Classical.byContradiction (fun z => q16 (if_neg z))
      refine hj_iload_n F 0 dX2_partNamed_19 rfl rfl ?_
      exact ret dX2_partNamed_20 rfl ⟨by simp [tp_pr, tp_pn, z1] <;> rfl, rfl, rfl, rfl⟩
end STAPE2
end
section
section STAPE3
theorem hi_X2_readHat_T : ∀ w ∈ u_ws RX2 TX2 7, w ∈ wsX2_readHat := fun w h => by
  unfold wsX2_readHat
  simp only [List.mem_cons, List.mem_append]
  first | (simp only [h, or_true, true_or]; done) | (have h2 : w ∈ wsX20 := h; simp only [h2, or_true, true_or]; done)
theorem lk_X2_readHat_15 : Cond.fieldLink RX2 15 "HatWorks$Tape" "parts" "[I" ∈ wsX2_readHat := List.mem_of_getElem? (i := 2) rfl
theorem lk_X2_readHat_19 : Cond.fieldLink RX2 19 "HatWorks$Tape" "length" "I" ∈ wsX2_readHat := List.mem_of_getElem? (i := 3) rfl
theorem lk_X2_readHat_26 : Cond.fieldLink RX2 26 "HatWorks$Tape" "fault" "I" ∈ wsX2_readHat := List.mem_of_getElem? (i := 1) rfl
theorem hi_X2_readPart_T : ∀ w ∈ u_ws RX2 TX2 7, w ∈ wsX2_readPart := fun w h => by
  unfold wsX2_readPart
  simp only [List.mem_cons, List.mem_append]
  first | (simp only [h, or_true, true_or]; done) | (have h2 : w ∈ wsX20 := h; simp only [h2, or_true, true_or]; done)
theorem lk_X2_readPart_15 : Cond.fieldLink RX2 15 "HatWorks$Tape" "parts" "[I" ∈ wsX2_readPart := List.mem_of_getElem? (i := 2) rfl
theorem lk_X2_readPart_23 : Cond.fieldLink RX2 23 "HatWorks$Tape" "at" "I" ∈ wsX2_readPart := List.mem_of_getElem? (i := 1) rfl
variable {K : hw_K} {l : Launch} {D : va_G} {ad : Nat → Nat} {t : Nat → ClassId} {X : hw_XT} {rm : Room} {g : hw_G} {a : hw_A} {c : Int64}
variable {τ : Nat → Nat}
/-- what readPart does; n1 .. n4: where blanks, word, blanks, digits end; p: the part; v: its number -/
def tp_PP (g : hw_G) (a : hw_A) (c : Int64) (n1 n2 n3 n4 p : Nat) (v r : Int32) (g' : hw_G) (a' : hw_A) (c' : Int64) : Prop := c' = c ∧
  (if p = 4 ∨ ¬ a 2 p = -1 then r = 0 ∧ a' = a ∧ g' = upd (upd (upd g 8 (nI n2)) 9 1) 10 (nI n1)
   else if n4 = n3 then r = 0 ∧ a' = a ∧ g' = upd (upd (upd g 8 (nI n4)) 9 1) 10 (nI n3)
   else if v < tp_least p ∨ tp_most p < v then r = 0 ∧ a' = a ∧ g' = upd (upd (upd g 8 (nI n4)) 9 2) 10 (nI n3)
   else r = 1 ∧ a' = va_up a 2 (upd (a 2) p v) ∧ g' = upd g 8 (nI n4))
theorem tp_pr_m {b : Nat → Int32} {n1 n2 : Nat} (h : tp_pr b n1 n2 = -1) : tp_pn b n1 n2 = 4 := by
  unfold tp_pr at h
  by_cases e : tp_pn b n1 n2 = 4
  · exact e
  · rw [if_neg e] at h
    have h9 := tp_pn_le b n1 n2
    have h3 : (nI (tp_pn b n1 n2)).toInt = (-1 : Int32).toInt := by rw [h]
    rw [nI_toInt (by omega)] at h3
    have h4 : (-1 : Int32).toInt = -1 := by decide
    omega
theorem tp_pr_p {b : Nat → Int32} {n1 n2 p : Nat} {pr : Int32} (h : tp_pr b n1 n2 = pr) (ep : tp_pn b n1 n2 = p) (hq : ¬ pr = -1) : p < 4 ∧ nI p = pr := by
  subst ep
  have h9 := tp_pn_le b n1 n2
  unfold tp_pr at h
  by_cases e : tp_pn b n1 n2 = 4
  · rw [if_pos e] at h
    exact absurd h.symm hq
  · rw [if_neg e] at h
    exact ⟨by omega, h⟩
set_option maxHeartbeats 4000000 in
set_option maxRecDepth 100000 in
theorem k_T_readPart (hok : hw_XOK X) (hs : ∀ A U H, X A U H → sx τ A U H) (hs2 : ∀ A U H, X A U H → sx2 τ U) (hsT : ∀ A U H, X A U H → sxT τ A U H) {L n n1 n2 n3 n4 p : Nat} {v : Int32} (hL : g 7 = nI L) (hL1 : L ≤ 100) (hn : g 8 = nI n) (hnL : n ≤ L) (e1 : skp (tp_bl (a 1)) L n = n1) (e2 : skp (tp_le (a 1)) L n1 = n2) (ep : tp_pn (a 1) n1 n2 = p) (e3 : skp (tp_bl (a 1)) L n2 = n3) (e4 : skp (tp_di (a 1)) L n3 = n4) (ev : tp_rv (a 1) L n3 0 = v) : hw_Ci l D (WH ad t) (hw_T t) X yX2_readPart wsX2_readPart (hw_rm 7) [.ref (ad 1)] g a c (tp_PP g a c n1 n2 n3 n4 p v) := by
  refine hw_Ci.mk (lv0 := [(0, _)]) (by decide) rfl (Nat.le_of_ble_eq_true rfl) rfl (WH_ads ad t) hok (fun K F ret => ?_)
  have F : hw_F K l D (WH ad t) (hw_T t) X cX2_readPart RX2 wsX2_readPart (hw_rm 7) 5 := F
  have h1 : n ≤ n1 ∧ n1 ≤ L := by rw [← e1]; exact skp_ge _ hnL
  have h2 : n1 ≤ n2 ∧ n2 ≤ L := by rw [← e2]; exact skp_ge _ h1.2
  have h3 : n2 ≤ n3 ∧ n3 ≤ L := by rw [← e3]; exact skp_ge _ h2.2
  have h4 : n3 ≤ n4 ∧ n4 ≤ L := by rw [← e4]; exact skp_ge _ h3.2
  refine hj_aload_n F 0 dX2_readPart_0 rfl rfl ?_
  refine hj_cVv F (n := 0) (k_T_skipBlanks hok hL hL1 hn hnL) gX2_readPart_X2_skipBlanks rfl ⟨rfl, rfl⟩ (by decide +kernel) ⟨by decide, by decide⟩ 1 2 rfl rfl (As := []) rfl rfl (Nat.le_of_ble_eq_true rfl) ⟨Nat.zero_le _, Nat.zero_le _⟩ dX2_readPart_1 (hw_eq3 ?_)
  rw [e1]
  refine hj_aload_n F 0 dX2_readPart_4 rfl rfl ?_
  refine hg_T_at F hi_X2_readPart_T lk_X2_readPart_23 dX2_readPart_5 ?_
  rw [pk_us]
  refine hj_istore_n F (lv' := [(1, _), (0, _)]) dX2_readPart_8 rfl (by decide) rfl ?_
  refine hj_aload_n F 1 dX2_readPart_9 rfl rfl ?_
  refine hj_cVv F (n := 0) (k_T_skipLetters hok (by rw [pk_un (by decide)]; exact hL) hL1 pk_us h1.2) gX2_readPart_X2_skipLetters rfl ⟨rfl, rfl⟩ (by decide +kernel) ⟨by decide, by decide⟩ 1 2 rfl rfl (As := []) rfl rfl (Nat.le_of_ble_eq_true rfl) ⟨Nat.zero_le _, Nat.zero_le _⟩ dX2_readPart_10 (hw_eq3 ?_)
  rw [e2, upd_uu]
  refine hj_aload_n F 1 dX2_readPart_13 rfl rfl ?_
  refine hj_iload_n F 0 dX2_readPart_14 rfl rfl ?_
  refine hj_cVi F (n := 1) (k_T_partNamed hok hs hs2 (n1 := n1) (n2 := n2) pk_us h2.1 (by omega)) gX2_readPart_X2_partNamed rfl ⟨rfl, rfl⟩ (by decide +kernel) ⟨by decide, by decide⟩ 1 2 rfl rfl (As := [_]) rfl rfl (Nat.le_of_ble_eq_true rfl) ⟨Nat.zero_le _, Nat.zero_le _⟩ dX2_readPart_15 (hw_eq4 ?_)
  generalize hpr : tp_pr (a 1) n1 n2 = pr
  refine hj_istore_n F (lv' := [(2, _), (1, _), (0, _)]) dX2_readPart_18 rfl (by decide) rfl ?_
  refine hj_iload_n F 0 dX2_readPart_19 rfl rfl ?_
  refine hj_iconst F (v := -1) dX2_readPart_20 (by decide) ?_
  refine hj_icmp_eq F 34 dX2_readPart_21 (by decide) (fun q21 => ?_) (fun q21 => ?_)
  · have hp4 : p = 4 := by rw [← ep]; exact tp_pr_m (hpr.trans q21)
    refine hj_aload_n F 2 dX2_readPart_34 rfl rfl ?_
    refine hj_iconst F (v := 1) dX2_readPart_35 (by decide) ?_
    refine hj_iload_n F 1 dX2_readPart_36 rfl rfl ?_
    refine hj_cVv F (n := 2) (k_T_blame hok) gX2_readPart_X2_blame rfl ⟨rfl, rfl⟩ (by decide +kernel) ⟨by decide, by decide⟩ 1 2 rfl rfl (As := [_, _]) rfl rfl (Nat.le_of_ble_eq_true rfl) ⟨Nat.zero_le _, Nat.zero_le _⟩ dX2_readPart_37 (hw_eq3 ?_)
    refine hj_iconst F (v := 0) dX2_readPart_40 (by decide) ?_
    exact ret dX2_readPart_41 rfl ⟨rfl, by rw [if_pos (Or.inl hp4)]; exact ⟨rfl, rfl, rfl⟩⟩
  · obtain ⟨hp, rfl⟩ := tp_pr_p hpr ep q21
    have hp0 := hp
    refine hj_aload_n F 2 dX2_readPart_24 rfl rfl ?_
    refine hg_T_parts F hi_X2_readPart_T lk_X2_readPart_15 dX2_readPart_25 ?_
    refine hj_iload_n F 0 dX2_readPart_28 rfl rfl ?_
    refine hl_T_parts F (vp_in_nI hp (by decide)) dX2_readPart_29 ?_
    refine hj_iconst F (v := -1) dX2_readPart_30 (by decide) ?_
    refine hj_icmp_eq F 42 dX2_readPart_31 (by decide) (fun q31 => ?_) (fun q31 => ?_)
    · rw [nI_clamp (by omega)] at q31
      refine hj_aload_n F 2 dX2_readPart_42 rfl rfl ?_
      refine hj_cVv F (n := 0) (k_T_skipBlanks hok (by rw [pk_un (by decide)]; exact hL) hL1 pk_us h2.2) gX2_readPart_X2_skipBlanks rfl ⟨rfl, rfl⟩ (by decide +kernel) ⟨by decide, by decide⟩ 1 2 rfl rfl (As := []) rfl rfl (Nat.le_of_ble_eq_true rfl) ⟨Nat.zero_le _, Nat.zero_le _⟩ dX2_readPart_43 (hw_eq3 ?_)
      rw [e3, upd_uu]
      refine hj_aload_n F 2 dX2_readPart_46 rfl rfl ?_
      refine hg_T_at F hi_X2_readPart_T lk_X2_readPart_23 dX2_readPart_47 ?_
      rw [pk_us]
      refine hj_istore_n F (lv' := [(3, _), (2, _), (1, _), (0, _)]) dX2_readPart_50 rfl (by decide) rfl ?_
      refine hj_aload_n F 3 dX2_readPart_51 rfl rfl ?_
      refine hj_cVi F (n := 0) (k_T_readNumber hok (by rw [pk_un (by decide)]; exact hL) hL1 pk_us h3.2) gX2_readPart_X2_readNumber rfl ⟨rfl, rfl⟩ (by decide +kernel) ⟨by decide, by decide⟩ 1 2 rfl rfl (As := []) rfl rfl (Nat.le_of_ble_eq_true rfl) ⟨Nat.zero_le _, Nat.zero_le _⟩ dX2_readPart_52 (hw_eq4 ?_)
      rw [e4, ev, upd_uu]
      refine hj_istore F (lv' := [(4, _), (3, _), (2, _), (1, _), (0, _)]) dX2_readPart_55 (by decide) rfl ?_
      refine hj_aload_n F 4 dX2_readPart_57 rfl rfl ?_
      refine hg_T_at F hi_X2_readPart_T lk_X2_readPart_23 dX2_readPart_58 ?_
      refine hj_iload_n F 1 dX2_readPart_61 rfl rfl ?_
      refine hj_icmp_ne F 73 dX2_readPart_62 (by decide) (fun q62 => ?_) (fun q62 => ?_)
      · rw [pk_us, nI_eq (by omega) (by omega)] at q62
        refine hj_iload F 0 dX2_readPart_73 rfl ?_
        refine hj_gets F (fun A U H h => (hsT A U H h).1) (List.mem_of_getElem? (i := 3) rfl) dX2_readPart_75 ?_
        refine hj_iload_n F 2 dX2_readPart_78 rfl rfl ?_
        refine hj_ti F (fun A U H h => (hsT A U H h).2.1) (vp_in_nI hp (by decide)) dX2_readPart_79 ?_
        refine hj_icmp_lt F 93 dX2_readPart_80 (by decide) (fun q80 => ?_) (fun q80 => ?_)
        · have q80 : v < tp_least (nI p).toNatClampNeg := q80
          rw [nI_clamp (by omega)] at q80
          refine hj_aload_n F 4 dX2_readPart_93 rfl rfl ?_
          refine hj_iconst F (v := 2) dX2_readPart_94 (by decide) ?_
          refine hj_iload_n F 1 dX2_readPart_95 rfl rfl ?_
          refine hj_cVv F (n := 2) (k_T_blame hok) gX2_readPart_X2_blame rfl ⟨rfl, rfl⟩ (by decide +kernel) ⟨by decide, by decide⟩ 1 2 rfl rfl (As := [_, _]) rfl rfl (Nat.le_of_ble_eq_true rfl) ⟨Nat.zero_le _, Nat.zero_le _⟩ dX2_readPart_96 (hw_eq3 ?_)
          refine hj_iconst F (v := 0) dX2_readPart_99 (by decide) ?_
          exact ret dX2_readPart_100 rfl ⟨rfl, by rw [if_neg (fun z => z.elim (by omega) (fun z => z q31)), if_neg q62, if_pos (Or.inl q80)]; exact ⟨rfl, rfl, rfl⟩⟩
        · have q80 : ¬ v < tp_least (nI p).toNatClampNeg := q80
          rw [nI_clamp (by omega)] at q80
          refine hj_iload F 0 dX2_readPart_83 rfl ?_
          refine hj_gets F (fun A U H h => (hsT A U H h).2.2.1) (List.mem_of_getElem? (i := 4) rfl) dX2_readPart_85 ?_
          refine hj_iload_n F 2 dX2_readPart_88 rfl rfl ?_
          refine hj_ti F (fun A U H h => (hsT A U H h).2.2.2) (vp_in_nI hp (by decide)) dX2_readPart_89 ?_
          refine hj_icmp_le F 101 dX2_readPart_90 (by decide) (fun q90 => ?_) (fun q90 => ?_)
          · have q90 : v ≤ tp_most (nI p).toNatClampNeg := q90
            rw [nI_clamp (by omega)] at q90
            refine hj_aload_n F 4 dX2_readPart_101 rfl rfl ?_
            refine hg_T_parts F hi_X2_readPart_T lk_X2_readPart_15 dX2_readPart_102 ?_
            refine hj_iload_n F 2 dX2_readPart_105 rfl rfl ?_
            refine hj_iload F 0 dX2_readPart_106 rfl ?_
            refine hs_T_parts F (vp_in_nI hp (by decide)) dX2_readPart_108 ?_
            refine hj_iconst F (v := 1) dX2_readPart_109 (by decide) ?_
            exact ret dX2_readPart_110 rfl ⟨rfl, by rw [if_neg (fun z => z.elim (by omega) (fun z => z q31)), if_neg q62, if_neg (fun z => z.elim q80 (fun z => absurd q90 (Int32.not_le.mpr z))), nI_clamp (by omega)]; exact ⟨rfl, rfl, rfl⟩⟩
          · have q90 : ¬ v ≤ tp_most (nI p).toNatClampNeg := q90
            rw [nI_clamp (by omega)] at q90
            refine hj_aload_n F 4 dX2_readPart_93 rfl rfl ?_
            refine hj_iconst F (v := 2) dX2_readPart_94 (by decide) ?_
            refine hj_iload_n F 1 dX2_readPart_95 rfl rfl ?_
            refine hj_cVv F (n := 2) (k_T_blame hok) gX2_readPart_X2_blame rfl ⟨rfl, rfl⟩ (by decide +kernel) ⟨by decide, by decide⟩ 1 2 rfl rfl (As := [_, _]) rfl rfl (Nat.le_of_ble_eq_true rfl) ⟨Nat.zero_le _, Nat.zero_le _⟩ dX2_readPart_96 (hw_eq3 ?_)
            refine hj_iconst F (v := 0) dX2_readPart_99 (by decide) ?_
            exact ret dX2_readPart_100 rfl ⟨rfl, by rw [if_neg (fun z => z.elim (by omega) (fun z => z q31)), if_neg q62, if_pos (Or.inr (Int32.not_le.mp q90))]; exact ⟨rfl, rfl, rfl⟩⟩
      · rw [pk_us, nI_eq (by omega) (by omega)] at q62
        refine hj_aload_n F 4 dX2_readPart_65 rfl rfl ?_
        refine hj_iconst F (v := 1) dX2_readPart_66 (by decide) ?_
        refine hj_iload_n F 1 dX2_readPart_67 rfl rfl ?_
        refine hj_cVv F (n := 2) (k_T_blame hok) gX2_readPart_X2_blame rfl ⟨rfl, rfl⟩ (by decide +kernel) ⟨by decide, by decide⟩ 1 2 rfl rfl (As := [_, _]) rfl rfl (Nat.le_of_ble_eq_true rfl) ⟨Nat.zero_le _, Nat.zero_le _⟩ dX2_readPart_68 (hw_eq3 ?_)
        refine hj_iconst F (v := 0) dX2_readPart_71 (by decide) ?_
        exact ret dX2_readPart_72 rfl ⟨rfl, by rw [if_neg (fun z => z.elim (by omega) (fun z => z q31)), if_pos q62]; exact ⟨rfl, rfl, rfl⟩⟩
    · rw [nI_clamp (by omega)] at q31
      refine hj_aload_n F 2 dX2_readPart_34 rfl rfl ?_
      refine hj_iconst F (v := 1) dX2_readPart_35 (by decide) ?_
      refine hj_iload_n F 1 dX2_readPart_36 rfl rfl ?_
      refine hj_cVv F (n := 2) (k_T_blame hok) gX2_readPart_X2_blame rfl ⟨rfl, rfl⟩ (by decide +kernel) ⟨by decide, by decide⟩ 1 2 rfl rfl (As := [_, _]) rfl rfl (Nat.le_of_ble_eq_true rfl) ⟨Nat.zero_le _, Nat.zero_le _⟩ dX2_readPart_37 (hw_eq3 ?_)
      refine hj_iconst F (v := 0) dX2_readPart_40 (by decide) ?_
      exact ret dX2_readPart_41 rfl ⟨rfl, by rw [if_pos (Or.inr q31)]; exact ⟨rfl, rfl, rfl⟩⟩
/-- the reading of a hat from n on: fault, place, parts; k: how many parts at most -/
def tp_hat (b : Nat → Int32) (L : Nat) : Nat → Nat → (Nat → Int32) → Int32 × Int32 × (Nat → Int32)
  | 0, _, ps => (0, -1, ps)
  | k + 1, n, ps =>
    if tp_pn b (skp (tp_bl b) L n) (skp (tp_le b) L (skp (tp_bl b) L n)) = 4 ∨ ¬ ps (tp_pn b (skp (tp_bl b) L n) (skp (tp_le b) L (skp (tp_bl b) L n))) = -1 then (1, nI (skp (tp_bl b) L n), ps)
    else if skp (tp_di b) L (skp (tp_bl b) L (skp (tp_le b) L (skp (tp_bl b) L n))) = skp (tp_bl b) L (skp (tp_le b) L (skp (tp_bl b) L n)) then (1, nI (skp (tp_bl b) L (skp (tp_le b) L (skp (tp_bl b) L n))), ps)
    else if tp_rv b L (skp (tp_bl b) L (skp (tp_le b) L (skp (tp_bl b) L n))) 0 < tp_least (tp_pn b (skp (tp_bl b) L n) (skp (tp_le b) L (skp (tp_bl b) L n))) ∨ tp_most (tp_pn b (skp (tp_bl b) L n) (skp (tp_le b) L (skp (tp_bl b) L n))) < tp_rv b L (skp (tp_bl b) L (skp (tp_le b) L (skp (tp_bl b) L n))) 0 then (2, nI (skp (tp_bl b) L (skp (tp_le b) L (skp (tp_bl b) L n))), ps)
    else
      if L ≤ skp (tp_bl b) L (skp (tp_di b) L (skp (tp_bl b) L (skp (tp_le b) L (skp (tp_bl b) L n)))) then (0, -1, upd ps (tp_pn b (skp (tp_bl b) L n) (skp (tp_le b) L (skp (tp_bl b) L n))) (tp_rv b L (skp (tp_bl b) L (skp (tp_le b) L (skp (tp_bl b) L n))) 0))
      else if b (skp (tp_bl b) L (skp (tp_di b) L (skp (tp_bl b) L (skp (tp_le b) L (skp (tp_bl b) L n))))) = 44 then tp_hat b L k (skp (tp_bl b) L (skp (tp_di b) L (skp (tp_bl b) L (skp (tp_le b) L (skp (tp_bl b) L n)))) + 1) (upd ps (tp_pn b (skp (tp_bl b) L n) (skp (tp_le b) L (skp (tp_bl b) L n))) (tp_rv b L (skp (tp_bl b) L (skp (tp_le b) L (skp (tp_bl b) L n))) 0))
      else (1, nI (skp (tp_bl b) L (skp (tp_di b) L (skp (tp_bl b) L (skp (tp_le b) L (skp (tp_bl b) L n))))), upd ps (tp_pn b (skp (tp_bl b) L n) (skp (tp_le b) L (skp (tp_bl b) L n))) (tp_rv b L (skp (tp_bl b) L (skp (tp_le b) L (skp (tp_bl b) L n))) 0))
theorem tp_hat_s {b : Nat → Int32} {L k n n1 n2 n3 n4 n5 p : Nat} {ps : Nat → Int32} {v : Int32} (e1 : skp (tp_bl b) L n = n1) (e2 : skp (tp_le b) L n1 = n2) (ep : tp_pn b n1 n2 = p) (e3 : skp (tp_bl b) L n2 = n3) (e4 : skp (tp_di b) L n3 = n4) (ev : tp_rv b L n3 0 = v) (e5 : skp (tp_bl b) L n4 = n5) :
    tp_hat b L (k + 1) n ps = if p = 4 ∨ ¬ ps p = -1 then (1, nI n1, ps) else if n4 = n3 then (1, nI n3, ps) else if v < tp_least p ∨ tp_most p < v then (2, nI n3, ps) else if L ≤ n5 then (0, -1, upd ps p v) else if b n5 = 44 then tp_hat b L k (n5 + 1) (upd ps p v) else (1, nI n5, upd ps p v) := by
  subst e1; subst e2; subst ep; subst e3; subst e4; subst ev; subst e5
  rfl
def tp_G (g : hw_G) (l x f p : Int32) : hw_G := upd (upd (upd (upd g 7 l) 8 x) 9 f) 10 p
theorem tp_G8 (g : hw_G) (l x f p y : Int32) : upd (tp_G g l x f p) 8 y = tp_G g l y f p := by
  unfold tp_G
  rw [upd_comm _ _ _ (show (10 : Nat) ≠ 8 by decide), upd_comm _ _ _ (show (9 : Nat) ≠ 8 by decide), upd_uu]
theorem tp_G9 (g : hw_G) (l x f p y z : Int32) : upd (upd (tp_G g l x f p) 9 y) 10 z = tp_G g l x y z := by
  unfold tp_G
  rw [upd_comm _ _ _ (show (10 : Nat) ≠ 9 by decide), upd_uu, upd_uu]
set_option maxHeartbeats 4000000 in
set_option maxRecDepth 100000 in
theorem l0_T_readHat (F : hw_F K l D (WH ad t) (hw_T t) X cX2_readHat RX2 wsX2_readHat (hw_rm 8) 4) {z1 k3 : Int32} (h44 : ∀ k3 m2 : Int32, hw_J K (WH ad t) 0 0 g a c [(3, .int k3), (2, .int m2), (0, .ref (ad 1)), (1, .int z1)] 44 []) : hw_J K (WH ad t) 0 0 g a c [(3, .int k3), (2, .int 0), (0, .ref (ad 1)), (1, .int z1)] 9 [] := by
  refine hj_iload_n F 0 dX2_readHat_9 rfl rfl ?_
  refine hj_iconst F (v := 4) dX2_readHat_10 (by decide) ?_
  refine hj_icmp_gt F 44 dX2_readHat_11 (by decide) (fun q11 => ?_) (fun q11 => ?_)
  · exact h44 _ _
  · refine hj_iload_n F 1 dX2_readHat_14 rfl rfl ?_
    refine hj_if_eq F 44 dX2_readHat_15 (by decide) (fun q15 => ?_) (fun q15 => ?_)
    · exact h44 _ _
    · exact absurd rfl q15
set_option maxHeartbeats 4000000 in
set_option maxRecDepth 100000 in
theorem l1_T_readHat (F : hw_F K l D (WH ad t) (hw_T t) X cX2_readHat RX2 wsX2_readHat (hw_rm 8) 4) {z1 k3 m2 : Int32} (h44 : ∀ k3 m2 : Int32, hw_J K (WH ad t) 0 0 g a c [(3, .int k3), (2, .int m2), (0, .ref (ad 1)), (1, .int z1)] 44 []) : hw_J K (WH ad t) 0 0 g a c [(3, .int k3), (2, .int m2), (0, .ref (ad 1)), (1, .int z1)] 22 [.int 0] := by
  refine hj_if_eq F 36 dX2_readHat_22 (by decide) (fun q22 => ?_) (fun q22 => ?_)
  · refine hj_iconst F (v := 0) dX2_readHat_36 (by decide) ?_
    refine hj_istore_n F (lv' := [(2, _), (3, _), (0, _), (1, _)]) dX2_readHat_37 rfl (by decide) rfl ?_
    refine hj_iinc F 1 (v := _ + 1) (lv' := [(3, _), (2, _), (0, _), (1, _)]) dX2_readHat_38 rfl rfl (by decide) rfl ?_
    refine hj_goto F 9 dX2_readHat_41 (by decide) ?_
    refine hj_lv [0, 1, 2, 3] rfl ?_
    exact l0_T_readHat F h44
  · exact absurd rfl q22
set_option maxHeartbeats 4000000 in
set_option maxRecDepth 100000 in
theorem l2_T_readHat (F : hw_F K l D (WH ad t) (hw_T t) X cX2_readHat RX2 wsX2_readHat (hw_rm 8) 4) {z1 k3 m2 : Int32} (h44 : ∀ k3 m2 : Int32, hw_J K (WH ad t) 0 0 g a c [(3, .int k3), (2, .int m2), (0, .ref (ad 1)), (1, .int z1)] 44 []) : hw_J K (WH ad t) 0 0 g a c [(3, .int k3), (2, .int m2), (0, .ref (ad 1)), (1, .int z1)] 29 [.int 0] := by
  refine hj_if_eq F 36 dX2_readHat_29 (by decide) (fun q29 => ?_) (fun q29 => ?_)
  · refine hj_iconst F (v := 0) dX2_readHat_36 (by decide) ?_
    refine hj_istore_n F (lv' := [(2, _), (3, _), (0, _), (1, _)]) dX2_readHat_37 rfl (by decide) rfl ?_
    refine hj_iinc F 1 (v := _ + 1) (lv' := [(3, _), (2, _), (0, _), (1, _)]) dX2_readHat_38 rfl rfl (by decide) rfl ?_
    refine hj_goto F 9 dX2_readHat_41 (by decide) ?_
    refine hj_lv [0, 1, 2, 3] rfl ?_
    exact l0_T_readHat F h44
  · exact absurd rfl q29
set_option maxHeartbeats 4000000 in
set_option maxRecDepth 100000 in
theorem lp_T_readHat (F : hw_F K l D (WH ad t) (hw_T t) X cX2_readHat RX2 wsX2_readHat (hw_rm 8) 4) (hok : hw_XOK X) (hs : ∀ A U H, X A U H → sx τ A U H) (hs2 : ∀ A U H, X A U H → sx2 τ U) (hsT : ∀ A U H, X A U H → sxT τ A U H) {z1 : Int32} {L : Nat} (hL1 : L ≤ 100) : ∀ (k n : Nat) (ps : Nat → Int32), k ≤ 5 → n ≤ L → (∀ x k3 m2 : Int32, hw_J K (WH ad t) 0 0 (tp_G g (nI L) x (tp_hat (a 1) L k n ps).1 (tp_hat (a 1) L k n ps).2.1) (va_up a 2 (tp_hat (a 1) L k n ps).2.2) c [(3, .int k3), (2, .int m2), (0, .ref (ad 1)), (1, .int z1)] 44 []) → hw_J K (WH ad t) 0 0 (tp_G g (nI L) (nI n) 0 (-1)) (va_up a 2 ps) c [(3, .int (nI (5 - k))), (2, .int 1), (0, .ref (ad 1)), (1, .int z1)] 9 [] := by
  intro k
  induction k with
  | zero =>
    intro n ps hk hnL h44
    refine hj_iload_n F 0 dX2_readHat_9 rfl rfl ?_
    refine hj_iconst F (v := 4) dX2_readHat_10 (by decide) ?_
    refine hj_icmp_gt F 44 dX2_readHat_11 (by decide) (fun q11 => ?_) (fun q11 => ?_)
    · exact h44 _ _ _
    · exact absurd (by decide) q11
  | succ k ih =>
    intro n ps hk hnL h44
    obtain ⟨n1, e1⟩ : ∃ z, skp (tp_bl (a 1)) L n = z := ⟨_, rfl⟩
    obtain ⟨n2, e2⟩ : ∃ z, skp (tp_le (a 1)) L n1 = z := ⟨_, rfl⟩
    obtain ⟨p, ep⟩ : ∃ z, tp_pn (a 1) n1 n2 = z := ⟨_, rfl⟩
    obtain ⟨n3, e3⟩ : ∃ z, skp (tp_bl (a 1)) L n2 = z := ⟨_, rfl⟩
    obtain ⟨n4, e4⟩ : ∃ z, skp (tp_di (a 1)) L n3 = z := ⟨_, rfl⟩
    obtain ⟨v, ev⟩ : ∃ z, tp_rv (a 1) L n3 0 = z := ⟨_, rfl⟩
    obtain ⟨n5, e5⟩ : ∃ z, skp (tp_bl (a 1)) L n4 = z := ⟨_, rfl⟩
    have h1 : n ≤ n1 ∧ n1 ≤ L := by rw [← e1]; exact skp_ge _ hnL
    have h2 : n1 ≤ n2 ∧ n2 ≤ L := by rw [← e2]; exact skp_ge _ h1.2
    have h3 : n2 ≤ n3 ∧ n3 ≤ L := by rw [← e3]; exact skp_ge _ h2.2
    have h4 : n3 ≤ n4 ∧ n4 ≤ L := by rw [← e4]; exact skp_ge _ h3.2
    have h5 : n4 ≤ n5 ∧ n5 ≤ L := by rw [← e5]; exact skp_ge _ h4.2
    rw [tp_hat_s e1 e2 ep e3 e4 ev e5] at h44
    have hs5 : ∀ hbad : ¬ (p = 4 ∨ ¬ ps p = -1), ∀ hd : ¬ n4 = n3, ∀ hv : ¬ (v < tp_least p ∨ tp_most p < v), hw_J K (WH ad t) 0 0 (tp_G g (nI L) (nI n4) 0 (-1)) (va_up a 2 (upd ps p v)) c [(3, .int (nI (5 - (k + 1)))), (2, .int 1), (0, .ref (ad 1)), (1, .int z1)] 22 [.int 1] := by
      intro hbad hd hv
      rw [if_neg hbad, if_neg hd, if_neg hv] at h44
      have comma : ∀ (r : Int32) (g1 : hw_G), (if L ≤ n5 then r = 0 ∧ g1 = (tp_G g (nI L) (nI n5) 0 (-1)) else if a 1 n5 = 44 then r = 1 ∧ g1 = (tp_G g (nI L) (nI (n5 + 1)) 0 (-1)) else r = 0 ∧ g1 = (tp_G g (nI L) (nI n5) 1 (nI n5))) → hw_J K (WH ad t) 0 0 g1 (va_up a 2 (upd ps p v)) c [(3, .int (nI (5 - (k + 1)))), (2, .int 1), (0, .ref (ad 1)), (1, .int z1)] 29 [.int r] := by
        intro r g1 hc
        by_cases c1 : L ≤ n5
        · rw [if_pos c1] at hc h44
          obtain ⟨rfl, rfl⟩ := hc
          exact l2_T_readHat F (h44 _)
        · by_cases c2 : a 1 n5 = 44
          · rw [if_neg c1, if_pos c2] at hc h44
            obtain ⟨rfl, rfl⟩ := hc
            refine hj_if_eq F 36 dX2_readHat_29 (by decide) (fun q29 => ?_) (fun q29 => ?_)
            · exact absurd q29 (by decide)
            · refine hj_iconst F (v := 1) dX2_readHat_32 (by decide) ?_
              refine hj_goto F 37 dX2_readHat_33 (by decide) ?_
              refine hj_istore_n F (lv' := [(2, _), (3, _), (0, _), (1, _)]) dX2_readHat_37 rfl (by decide) rfl ?_
              refine hj_iinc F 1 (v := _ + 1) (lv' := [(3, _), (2, _), (0, _), (1, _)]) dX2_readHat_38 rfl rfl (by decide) rfl ?_
              refine hj_goto F 9 dX2_readHat_41 (by decide) ?_
              refine hj_lv [0, 1, 2, 3] rfl ?_
              rw [show nI (5 - (k + 1)) + 1 = nI (5 - k) by rw [nI_1]; congr 1; omega]
              exact ih (n5 + 1) _ (by omega) (by omega) h44
          · rw [if_neg c1, if_neg c2] at hc h44
            obtain ⟨rfl, rfl⟩ := hc
            exact l2_T_readHat F (h44 _)
      refine hj_if_eq F 36 dX2_readHat_22 (by decide) (fun q22 => ?_) (fun q22 => ?_)
      · exact absurd q22 (by decide)
      · refine hj_aload_n F 2 dX2_readHat_25 rfl rfl ?_
        refine hj_cVi F (n := 0) (k_T_readComma hok (n := n4) (L := L) (by simp [tp_G, upd]) hL1 (by simp [tp_G, upd]) h4.2) gX2_readHat_X2_readComma rfl ⟨rfl, rfl⟩ (by decide +kernel) ⟨by decide, by decide⟩ 1 2 rfl rfl (As := []) rfl rfl (Nat.le_of_ble_eq_true rfl) ⟨Nat.zero_le _, Nat.zero_le _⟩ dX2_readHat_26 ?_
        intro r g1 a1 c1 hpp
        obtain ⟨rfl, rfl, hpp⟩ := hpp
        rw [show va_up a 2 (upd ps p v) 1 = a 1 from va_up_ne _ _ (by decide), e5, tp_G8, tp_G8, tp_G9] at hpp
        exact comma r g1 hpp
    have part : ∀ (r : Int32) (g1 : hw_G) (a1 : hw_A), (if p = 4 ∨ ¬ (va_up a 2 ps) 2 p = -1 then r = 0 ∧ a1 = va_up a 2 ps ∧ g1 = upd (upd (upd (tp_G g (nI L) (nI n) 0 (-1)) 8 (nI n2)) 9 1) 10 (nI n1) else if n4 = n3 then r = 0 ∧ a1 = va_up a 2 ps ∧ g1 = upd (upd (upd (tp_G g (nI L) (nI n) 0 (-1)) 8 (nI n4)) 9 1) 10 (nI n3) else if v < tp_least p ∨ tp_most p < v then r = 0 ∧ a1 = va_up a 2 ps ∧ g1 = upd (upd (upd (tp_G g (nI L) (nI n) 0 (-1)) 8 (nI n4)) 9 2) 10 (nI n3) else r = 1 ∧ a1 = va_up (va_up a 2 ps) 2 (upd ((va_up a 2 ps) 2) p v) ∧ g1 = upd (tp_G g (nI L) (nI n) 0 (-1)) 8 (nI n4)) → hw_J K (WH ad t) 0 0 g1 a1 c [(3, .int (nI (5 - (k + 1)))), (2, .int 1), (0, .ref (ad 1)), (1, .int z1)] 22 [.int r] := by
      intro r g1 a1 hc
      rw [vau_s, bx_uu] at hc
      by_cases c1 : p = 4 ∨ ¬ ps p = -1
      · rw [if_pos c1] at hc h44
        obtain ⟨rfl, rfl, rfl⟩ := hc
        rw [tp_G8, tp_G9]
        exact l1_T_readHat F (h44 _)
      · by_cases c2 : n4 = n3
        · rw [if_neg c1, if_pos c2] at hc h44
          obtain ⟨rfl, rfl, rfl⟩ := hc
          rw [tp_G8, tp_G9]
          exact l1_T_readHat F (h44 _)
        · by_cases c3 : v < tp_least p ∨ tp_most p < v
          · rw [if_neg c1, if_neg c2, if_pos c3] at hc h44
            obtain ⟨rfl, rfl, rfl⟩ := hc
            rw [tp_G8, tp_G9]
            exact l1_T_readHat F (h44 _)
          · rw [if_neg c1, if_neg c2, if_neg c3] at hc
            obtain ⟨rfl, rfl, rfl⟩ := hc
            rw [tp_G8]
            exact hs5 c1 c2 c3
    refine hj_iload_n F 0 dX2_readHat_9 rfl rfl ?_
    refine hj_iconst F (v := 4) dX2_readHat_10 (by decide) ?_
    refine hj_icmp_gt F 44 dX2_readHat_11 (by decide) (fun q11 => ?_) (fun q11 => ?_)
    · exact absurd q11 (Int32.not_lt.mpr (nI_le (show 5 - (k + 1) ≤ 4 by omega) (by decide)))
    · refine hj_iload_n F 1 dX2_readHat_14 rfl rfl ?_
      refine hj_if_eq F 44 dX2_readHat_15 (by decide) (fun q15 => ?_) (fun q15 => ?_)
      · exact absurd q15 (by decide)
      · refine hj_aload_n F 2 dX2_readHat_18 rfl rfl ?_
        refine hj_cVi F (n := 0) (k_T_readPart hok hs hs2 hsT (n := n) (L := L) (by simp [tp_G, upd]) hL1 (by simp [tp_G, upd]) hnL e1 e2 ep e3 e4 ev) gX2_readHat_X2_readPart rfl ⟨rfl, rfl⟩ (by decide +kernel) ⟨by decide, by decide⟩ 1 2 rfl rfl (As := []) rfl rfl (Nat.le_of_ble_eq_true rfl) ⟨Nat.zero_le _, Nat.zero_le _⟩ dX2_readHat_19 ?_
        intro r g1 a1 c1 hpp
        obtain ⟨rfl, hpp⟩ := hpp
        exact part r g1 a1 hpp
def tp_end (h : Int32 × Int32 × (Nat → Int32)) (L : Nat) : Int32 × Int32 := if h.1 = 0 ∧ (h.2.2 0 = -1 ∨ h.2.2 3 = -1) then (3, nI L) else (h.1, h.2.1)
set_option maxHeartbeats 4000000 in
set_option maxRecDepth 100000 in
theorem k_T_readHat (hok : hw_XOK X) (hs : ∀ A U H, X A U H → sx τ A U H) (hs2 : ∀ A U H, X A U H → sx2 τ U) (hsT : ∀ A U H, X A U H → sxT τ A U H) {L : Nat} (hL1 : L ≤ 100) {h : Int32 × Int32 × (Nat → Int32)} (hh : tp_hat (a 1) L 5 0 (tp_none (a 2)) = h) : hw_Ci l D (WH ad t) (hw_T t) X yX2_readHat wsX2_readHat (hw_rm 8) [.ref (ad 1), .int (nI L)] g a c (fun r g' a' c' => ∃ x : Int32, r = (tp_end h L).1 ∧ g' = tp_G g (nI L) x (tp_end h L).1 (tp_end h L).2 ∧ a' = va_up a 2 h.2.2 ∧ c' = c) := by
  refine hw_Ci.mk (lv0 := [(0, _), (1, _)]) (by decide) rfl (Nat.le_of_ble_eq_true rfl) rfl (WH_ads ad t) hok (fun K F ret => ?_)
  have F : hw_F K l D (WH ad t) (hw_T t) X cX2_readHat RX2 wsX2_readHat (hw_rm 8) 4 := F
  have h44 : ∀ x k3 m2 : Int32, hw_J K (WH ad t) 0 0 (tp_G g (nI L) x (tp_hat (a 1) L 5 0 (tp_none (a 2))).1 (tp_hat (a 1) L 5 0 (tp_none (a 2))).2.1) (va_up a 2 (tp_hat (a 1) L 5 0 (tp_none (a 2))).2.2) c [(3, .int k3), (2, .int m2), (0, .ref (ad 1)), (1, .int (nI L))] 44 [] := by
    intro x k3 m2
    rw [hh]
    refine hj_aload_n F 2 dX2_readHat_44 rfl rfl ?_
    refine hg_T_fault F hi_X2_readHat_T lk_X2_readHat_26 dX2_readHat_45 ?_
    rw [show tp_G g (nI L) x h.1 h.2.1 9 = h.1 by simp [tp_G, upd]]
    refine hj_if_ne F 80 dX2_readHat_48 (by decide) (fun q48 => ?_) (fun q48 => ?_)
    · refine hj_aload_n F 2 dX2_readHat_80 rfl rfl ?_
      refine hg_T_fault F hi_X2_readHat_T lk_X2_readHat_26 dX2_readHat_81 ?_
      exact ret dX2_readHat_84 rfl ⟨x, by rw [show tp_end h L = (h.1, h.2.1) from if_neg (fun z => q48 z.1)]; exact ⟨by simp [tp_G, upd], rfl, rfl, rfl⟩⟩
    · refine hj_aload_n F 2 dX2_readHat_51 rfl rfl ?_
      refine hg_T_parts F hi_X2_readHat_T lk_X2_readHat_15 dX2_readHat_52 ?_
      refine hj_iconst F (v := 0) dX2_readHat_55 (by decide) ?_
      refine hl_T_parts F (by first | assumption | exact hw_inc (by decide)) dX2_readHat_56 ?_
      refine hj_iconst F (v := -1) dX2_readHat_57 (by decide) ?_
      refine hj_icmp_eq F 71 dX2_readHat_58 (by decide) (fun q58 => ?_) (fun q58 => ?_)
      · have q58 : h.2.2 0 = -1 := q58
        refine hj_aload_n F 2 dX2_readHat_71 rfl rfl ?_
        refine hj_iconst F (v := 3) dX2_readHat_72 (by decide) ?_
        refine hj_aload_n F 2 dX2_readHat_73 rfl rfl ?_
        refine hg_T_length F hi_X2_readHat_T lk_X2_readHat_19 dX2_readHat_74 ?_
        rw [show tp_G g (nI L) x h.1 h.2.1 7 = nI L by simp [tp_G, upd]]
        refine hj_cVv F (n := 2) (k_T_blame hok) gX2_readHat_X2_blame rfl ⟨rfl, rfl⟩ (by decide +kernel) ⟨by decide, by decide⟩ 1 2 rfl rfl (As := [_, _]) rfl rfl (Nat.le_of_ble_eq_true rfl) ⟨Nat.zero_le _, Nat.zero_le _⟩ dX2_readHat_77 (hw_eq3 ?_)
        refine hj_aload_n F 2 dX2_readHat_80 rfl rfl ?_
        refine hg_T_fault F hi_X2_readHat_T lk_X2_readHat_26 dX2_readHat_81 ?_
        exact ret dX2_readHat_84 rfl ⟨x, by rw [show tp_end h L = (3, nI L) from if_pos ⟨q48, Or.inl q58⟩, tp_G9]; exact ⟨by simp [tp_G, upd], rfl, rfl, rfl⟩⟩
      · have q58 : ¬ h.2.2 0 = -1 := q58
        refine hj_aload_n F 2 dX2_readHat_61 rfl rfl ?_
        refine hg_T_parts F hi_X2_readHat_T lk_X2_readHat_15 dX2_readHat_62 ?_
        refine hj_iconst F (v := 3) dX2_readHat_65 (by decide) ?_
        refine hl_T_parts F (by first | assumption | exact hw_inc (by decide)) dX2_readHat_66 ?_
        refine hj_iconst F (v := -1) dX2_readHat_67 (by decide) ?_
        refine hj_icmp_ne F 80 dX2_readHat_68 (by decide) (fun q68 => ?_) (fun q68 => ?_)
        · have q68 : ¬ h.2.2 3 = -1 := q68
          refine hj_aload_n F 2 dX2_readHat_80 rfl rfl ?_
          refine hg_T_fault F hi_X2_readHat_T lk_X2_readHat_26 dX2_readHat_81 ?_
          exact ret dX2_readHat_84 rfl ⟨x, by rw [show tp_end h L = (h.1, h.2.1) from if_neg (fun z => z.2.elim q58 q68)]; exact ⟨by simp [tp_G, upd], rfl, rfl, rfl⟩⟩
        · have q68 : h.2.2 3 = -1 := q68
          refine hj_aload_n F 2 dX2_readHat_71 rfl rfl ?_
          refine hj_iconst F (v := 3) dX2_readHat_72 (by decide) ?_
          refine hj_aload_n F 2 dX2_readHat_73 rfl rfl ?_
          refine hg_T_length F hi_X2_readHat_T lk_X2_readHat_19 dX2_readHat_74 ?_
          rw [show tp_G g (nI L) x h.1 h.2.1 7 = nI L by simp [tp_G, upd]]
          refine hj_cVv F (n := 2) (k_T_blame hok) gX2_readHat_X2_blame rfl ⟨rfl, rfl⟩ (by decide +kernel) ⟨by decide, by decide⟩ 1 2 rfl rfl (As := [_, _]) rfl rfl (Nat.le_of_ble_eq_true rfl) ⟨Nat.zero_le _, Nat.zero_le _⟩ dX2_readHat_77 (hw_eq3 ?_)
          refine hj_aload_n F 2 dX2_readHat_80 rfl rfl ?_
          refine hg_T_fault F hi_X2_readHat_T lk_X2_readHat_26 dX2_readHat_81 ?_
          exact ret dX2_readHat_84 rfl ⟨x, by rw [show tp_end h L = (3, nI L) from if_pos ⟨q48, Or.inr q68⟩, tp_G9]; exact ⟨by simp [tp_G, upd], rfl, rfl, rfl⟩⟩
  refine hj_aload_n F 0 dX2_readHat_0 rfl rfl ?_
  refine hj_iload_n F 1 dX2_readHat_1 rfl rfl ?_
  refine hj_cVv F (n := 1) (k_T_startReading hok) gX2_readHat_X2_startReading rfl ⟨rfl, rfl⟩ (by decide +kernel) ⟨by decide, by decide⟩ 1 2 rfl rfl (As := [_]) rfl rfl (Nat.le_of_ble_eq_true rfl) ⟨Nat.zero_le _, Nat.zero_le _⟩ dX2_readHat_2 (hw_eq3 ?_)
  refine hj_iconst F (v := 1) dX2_readHat_5 (by decide) ?_
  refine hj_istore_n F (lv' := [(2, _), (0, _), (1, _)]) dX2_readHat_6 rfl (by decide) rfl ?_
  refine hj_iconst F (v := 0) dX2_readHat_7 (by decide) ?_
  refine hj_istore_n F (lv' := [(3, _), (2, _), (0, _), (1, _)]) dX2_readHat_8 rfl (by decide) rfl ?_
  have hz : upd (upd (upd (upd g 7 (nI L)) 8 0) 9 0) 10 (-1) = tp_G g (nI L) (nI 0) 0 (-1) := rfl
  rw [hz]
  exact lp_T_readHat F hok hs hs2 hsT hL1 5 0 (tp_none (a 2)) (Nat.le_refl _) (Nat.zero_le _) h44
end STAPE3
end
section
section SBLOCKS
theorem hi_X0_add_B : ∀ w ∈ u_ws RX0 TX0 5, w ∈ wsX0_add := fun w h => by
  unfold wsX0_add
  simp only [List.mem_cons, List.mem_append]
  first | (simp only [h, or_true, true_or]; done) | (have h2 : w ∈ wsX00 := h; simp only [h2, or_true, true_or]; done)
theorem lk_X0_add_11 : Cond.fieldLink RX0 11 "HatWorks$Blocks" "rings" "[[I" ∈ wsX0_add := List.mem_of_getElem? (i := 2) rfl
theorem lk_X0_add_23 : Cond.fieldLink RX0 23 "HatWorks$Blocks" "latest" "[I" ∈ wsX0_add := List.mem_of_getElem? (i := 3) rfl
theorem lk_X0_add_26 : Cond.fieldLink RX0 26 "HatWorks$Blocks" "size" "I" ∈ wsX0_add := List.mem_of_getElem? (i := 1) rfl
theorem lc_X0_match_32 : Cond.constant RX0 32 2147483647 ∈ wsX0_match := by decide +kernel
theorem hi_X0_match_B : ∀ w ∈ u_ws RX0 TX0 5, w ∈ wsX0_match := fun w h => by
  unfold wsX0_match
  simp only [List.mem_cons, List.mem_append]
  first | (simp only [h, or_true, true_or]; done) | (have h2 : w ∈ wsX00 := h; simp only [h2, or_true, true_or]; done)
theorem lk_X0_match_26 : Cond.fieldLink RX0 26 "HatWorks$Blocks" "size" "I" ∈ wsX0_match := List.mem_of_getElem? (i := 2) rfl
theorem hi_X0_misfitOf_B : ∀ w ∈ u_ws RX0 TX0 5, w ∈ wsX0_misfitOf := fun w h => by
  unfold wsX0_misfitOf
  simp only [List.mem_cons, List.mem_append]
  first | (simp only [h, or_true, true_or]; done) | (have h2 : w ∈ wsX00 := h; simp only [h2, or_true, true_or]; done)
theorem lk_X0_misfitOf_11 : Cond.fieldLink RX0 11 "HatWorks$Blocks" "rings" "[[I" ∈ wsX0_misfitOf := List.mem_of_getElem? (i := 1) rfl
variable {K : hw_K} {l : Launch} {D : va_G} {ad : Nat → Nat} {t : Nat → ClassId} {X : hw_XT} {rm : Room} {g : hw_G} {a : hw_A} {c : Int64}
def ms_ix (i t : Nat) : Nat := if i + t < 12 then i + t else i + t - 12
def ms (h r : Nat → Int32) (t : Nat) : Nat → Int32
  | 0 => 0
  | i + 1 => ms h r t i + (h (ms_ix i t) - r i) * (h (ms_ix i t) - r i)
set_option maxHeartbeats 4000000 in
set_option maxRecDepth 100000 in
theorem lp_B_misfitOf (F : hw_F K l D (WH ad t) (hw_T t) X cX0_misfitOf RX0 wsX0_misfitOf rm 9) {b t9 : Nat} (hb : b < 10) (ht : t9 < 12) (hx : hw_J K (WH ad t) 0 0 g a c [(6, .int (nI 12)), (5, .int (ms (a 0) (a (200 + b)) t9 12)), (4, .ref (ad (200 + b))), (0, .ref (ad 2)), (1, .ref (ad 10)), (2, .int (nI b)), (3, .int (nI t9))] 70 []) : ∀ m i : Nat, 12 - i < m → i ≤ 12 → hw_J K (WH ad t) 0 0 g a c [(6, .int (nI i)), (5, .int (ms (a 0) (a (200 + b)) t9 i)), (4, .ref (ad (200 + b))), (0, .ref (ad 2)), (1, .ref (ad 10)), (2, .int (nI b)), (3, .int (nI t9))] 14 [] := by
  intro m
  induction m with
  | zero => intro i hm; exact absurd hm (Nat.not_lt_zero _)
  | succ m ih =>
    intro i hm hi
    refine hj_iload F 0 dX0_misfitOf_14 rfl ?_
    refine hj_bipush F (v := 12) dX0_misfitOf_16 (by decide) ?_
    refine hj_icmp_ge F 70 dX0_misfitOf_18 (by decide) (fun q18 => ?_) (fun q18 => ?_)
    · have q18 : nI 12 ≤ nI i := q18
      rw [nI_leI (by omega) (by omega)] at q18
      obtain rfl : i = 12 := by omega
      exact hx
    · have q18 : ¬ nI 12 ≤ nI i := q18
      rw [nI_leI (by omega) (by omega)] at q18
      refine hj_iload F 0 dX0_misfitOf_21 rfl ?_
      refine hj_iload_n F 6 dX0_misfitOf_23 rfl rfl ?_
      refine hj_iadd F dX0_misfitOf_24 ?_
      refine hj_istore F (lv' := [(7, _), (6, _), (5, _), (4, _), (0, _), (1, _), (2, _), (3, _)]) dX0_misfitOf_25 (by decide) rfl ?_
      rw [nI_add]
      refine hj_aload_n F 5 dX0_misfitOf_27 rfl rfl ?_
      refine hj_iload F 0 dX0_misfitOf_28 rfl ?_
      refine hj_bipush F (v := 12) dX0_misfitOf_30 (by decide) ?_
      refine hj_icmp_ge F 40 dX0_misfitOf_32 (by decide) (fun q32 => ?_) (fun q32 => ?_)
      · have q32 : nI 12 ≤ nI (i + t9) := q32
        rw [nI_leI (by omega) (by omega)] at q32
        have hix : ms_ix i t9 = i + t9 - 12 := if_neg (by omega)
        refine hj_iload F 0 dX0_misfitOf_40 rfl ?_
        refine hj_bipush F (v := 12) dX0_misfitOf_42 (by decide) ?_
        refine hj_isub F dX0_misfitOf_44 ?_
        rw [show nI (i + t9) - 12 = nI (i + t9 - 12) from pk_sub (b := 12) (by omega)]
        refine hl_X_hand F (vp_in_nI (show i + t9 - 12 < 12 by omega) (by decide)) dX0_misfitOf_45 ?_
        refine hj_aload F 3 dX0_misfitOf_46 rfl ?_
        refine hj_iload F 1 dX0_misfitOf_48 rfl ?_
        refine hl_B_ring F hb (vp_in_nI (show i < 12 by omega) (by decide)) dX0_misfitOf_50 ?_
        refine hj_isub F dX0_misfitOf_51 ?_
        refine hj_istore F (lv' := [(8, _), (7, _), (6, _), (5, _), (4, _), (0, _), (1, _), (2, _), (3, _)]) dX0_misfitOf_52 (by decide) rfl ?_
        refine hj_iload F 3 dX0_misfitOf_54 rfl ?_
        refine hj_iload F 0 dX0_misfitOf_56 rfl ?_
        refine hj_iload F 0 dX0_misfitOf_58 rfl ?_
        refine hj_imul F dX0_misfitOf_60 ?_
        refine hj_iadd F dX0_misfitOf_61 ?_
        refine hj_istore F (lv' := [(5, _), (8, _), (7, _), (6, _), (4, _), (0, _), (1, _), (2, _), (3, _)]) dX0_misfitOf_62 (by decide) rfl ?_
        refine hj_iinc F 3 (v := _ + 1) (lv' := [(6, _), (5, _), (8, _), (7, _), (4, _), (0, _), (1, _), (2, _), (3, _)]) dX0_misfitOf_64 rfl rfl (by decide) rfl ?_
        refine hj_goto F 14 dX0_misfitOf_67 (by decide) ?_
        refine hj_lv [0, 1, 4, 5, 6, 7, 8] rfl ?_
        rw [nI_1, nI_clamp (by omega), nI_clamp (by omega)]
        have e := ih (i + 1) (by omega) (by omega)
        rw [show ms (a 0) (a (200 + b)) t9 (i + 1) = ms (a 0) (a (200 + b)) t9 i + (a 0 (ms_ix i t9) - a (200 + b) i) * (a 0 (ms_ix i t9) - a (200 + b) i) from rfl, hix] at e
        exact e
      · have q32 : ¬ nI 12 ≤ nI (i + t9) := q32
        rw [nI_leI (by omega) (by omega)] at q32
        have hix : ms_ix i t9 = i + t9 := if_pos (by omega)
        refine hj_iload F 0 dX0_misfitOf_35 rfl ?_
        refine hj_goto F 45 dX0_misfitOf_37 (by decide) ?_
        refine hl_X_hand F (vp_in_nI (show i + t9 < 12 by omega) (by decide)) dX0_misfitOf_45 ?_
        refine hj_aload F 3 dX0_misfitOf_46 rfl ?_
        refine hj_iload F 1 dX0_misfitOf_48 rfl ?_
        refine hl_B_ring F hb (vp_in_nI (show i < 12 by omega) (by decide)) dX0_misfitOf_50 ?_
        refine hj_isub F dX0_misfitOf_51 ?_
        refine hj_istore F (lv' := [(8, _), (7, _), (6, _), (5, _), (4, _), (0, _), (1, _), (2, _), (3, _)]) dX0_misfitOf_52 (by decide) rfl ?_
        refine hj_iload F 3 dX0_misfitOf_54 rfl ?_
        refine hj_iload F 0 dX0_misfitOf_56 rfl ?_
        refine hj_iload F 0 dX0_misfitOf_58 rfl ?_
        refine hj_imul F dX0_misfitOf_60 ?_
        refine hj_iadd F dX0_misfitOf_61 ?_
        refine hj_istore F (lv' := [(5, _), (8, _), (7, _), (6, _), (4, _), (0, _), (1, _), (2, _), (3, _)]) dX0_misfitOf_62 (by decide) rfl ?_
        refine hj_iinc F 3 (v := _ + 1) (lv' := [(6, _), (5, _), (8, _), (7, _), (4, _), (0, _), (1, _), (2, _), (3, _)]) dX0_misfitOf_64 rfl rfl (by decide) rfl ?_
        refine hj_goto F 14 dX0_misfitOf_67 (by decide) ?_
        refine hj_lv [0, 1, 4, 5, 6, 7, 8] rfl ?_
        rw [nI_1, nI_clamp (by omega), nI_clamp (by omega)]
        have e := ih (i + 1) (by omega) (by omega)
        rw [show ms (a 0) (a (200 + b)) t9 (i + 1) = ms (a 0) (a (200 + b)) t9 i + (a 0 (ms_ix i t9) - a (200 + b) i) * (a 0 (ms_ix i t9) - a (200 + b) i) from rfl, hix] at e
        exact e
set_option maxHeartbeats 4000000 in
set_option maxRecDepth 100000 in
theorem k_B_misfitOf (hok : hw_XOK X) {b t9 : Nat} (hb : b < 10) (ht : t9 < 12) : hw_Ci l D (WH ad t) (hw_T t) X yX0_misfitOf wsX0_misfitOf (hw_rm 1) [.ref (ad 2), .ref (ad 10), .int (nI b), .int (nI t9)] g a c (fun r g' a' c' => r = ms (a 0) (a (200 + b)) t9 12 ∧ g' = g ∧ a' = a ∧ c' = c) := by
  refine hw_Ci.mk (lv0 := [(0, _), (1, _), (2, _), (3, _)]) (by decide) rfl (Nat.le_of_ble_eq_true rfl) rfl (WH_ads ad t) hok (fun K F ret => ?_)
  have F : hw_F K l D (WH ad t) (hw_T t) X cX0_misfitOf RX0 wsX0_misfitOf (hw_rm 1) 9 := F
  have hx : hw_J K (WH ad t) 0 0 g a c [(6, .int (nI 12)), (5, .int (ms (a 0) (a (200 + b)) t9 12)), (4, .ref (ad (200 + b))), (0, .ref (ad 2)), (1, .ref (ad 10)), (2, .int (nI b)), (3, .int (nI t9))] 70 [] := by
    refine hj_iload F 1 dX0_misfitOf_70 rfl ?_
    exact ret dX0_misfitOf_72 rfl ⟨rfl, rfl, rfl, rfl⟩
  refine hj_aload_n F 0 dX0_misfitOf_0 rfl rfl ?_
  refine hg_B_rings F hi_X0_misfitOf_B lk_X0_misfitOf_11 dX0_misfitOf_1 ?_
  refine hj_iload_n F 2 dX0_misfitOf_4 rfl rfl ?_
  refine hl_B_rings F (vp_in_nI hb (by decide)) dX0_misfitOf_5 ?_
  rw [nI_clamp (by omega)]
  refine hj_astore F (lv' := [(4, _), (0, _), (1, _), (2, _), (3, _)]) dX0_misfitOf_6 (by decide) rfl ?_
  refine hj_iconst F (v := 0) dX0_misfitOf_8 (by decide) ?_
  refine hj_istore F (lv' := [(5, _), (4, _), (0, _), (1, _), (2, _), (3, _)]) dX0_misfitOf_9 (by decide) rfl ?_
  refine hj_iconst F (v := 0) dX0_misfitOf_11 (by decide) ?_
  refine hj_istore F (lv' := [(6, _), (5, _), (4, _), (0, _), (1, _), (2, _), (3, _)]) dX0_misfitOf_12 (by decide) rfl ?_
  exact lp_B_misfitOf F hb ht hx 13 0 (by decide) (by decide)
def mt_s (h : Nat → Int32) (rg : Nat → Nat → Int32) (t b : Nat) (s : Int32 × (Nat → Int32)) : Int32 × (Nat → Int32) := if ms h (rg b) t 12 < s.1 then (ms h (rg b) t 12, upd (upd (upd s.2 0 (nI b)) 1 (nI t)) 2 (ms h (rg b) t 12)) else s
def mt_b (h : Nat → Int32) (rg : Nat → Nat → Int32) (t : Nat) : Nat → Int32 × (Nat → Int32) → Int32 × (Nat → Int32)
  | 0, s => s
  | b + 1, s => mt_s h rg t b (mt_b h rg t b s)
def mt_t (h : Nat → Int32) (rg : Nat → Nat → Int32) (N : Nat) : Nat → Int32 × (Nat → Int32) → Int32 × (Nat → Int32)
  | 0, s => s
  | t + 1, s => mt_b h rg t N (mt_t h rg N t s)
set_option maxHeartbeats 4000000 in
set_option maxRecDepth 100000 in
theorem li_B_match (F : hw_F K l D (WH ad t) (hw_T t) X cX0_match RX0 wsX0_match (hw_rm 2) 7) (hok : hw_XOK X) {N t9 o : Nat} (h12 : g 12 = nI N) (hN : N ≤ 10) (ht : t9 < 12) (ho : o < 60) {s : Int32 × (Nat → Int32)} (hx : hw_J K (WH ad t) 0 0 g (va_up a (100 + o) (mt_b (a 0) (fun b => a (200 + b)) t9 N s).2) c [(5, .int (nI N)), (4, .int (nI t9)), (3, .int (mt_b (a 0) (fun b => a (200 + b)) t9 N s).1), (0, .ref (ad 2)), (1, .ref (ad 10)), (2, .ref (ad (100 + o)))] 66 []) : ∀ m b : Nat, N - b < m → b ≤ N → hw_J K (WH ad t) 0 0 g (va_up a (100 + o) (mt_b (a 0) (fun b => a (200 + b)) t9 b s).2) c [(5, .int (nI b)), (4, .int (nI t9)), (3, .int (mt_b (a 0) (fun b => a (200 + b)) t9 b s).1), (0, .ref (ad 2)), (1, .ref (ad 10)), (2, .ref (ad (100 + o)))] 16 [] := by
  intro m
  induction m with
  | zero => intro b hm; exact absurd hm (Nat.not_lt_zero _)
  | succ m ih =>
    intro b hm hb
    have e0 : va_up a (100 + o) (mt_b (a 0) (fun b => a (200 + b)) t9 b s).2 0 = a 0 := va_up_ne _ _ (by omega)
    have e1 : va_up a (100 + o) (mt_b (a 0) (fun b => a (200 + b)) t9 b s).2 (200 + b) = a (200 + b) := va_up_ne _ _ (by omega)
    refine hj_iload F 0 dX0_match_16 rfl ?_
    refine hj_aload_n F 3 dX0_match_18 rfl rfl ?_
    refine hg_B_size F hi_X0_match_B lk_X0_match_26 dX0_match_19 ?_
    rw [h12]
    refine hj_icmp_ge F 66 dX0_match_22 (by decide) (fun q22 => ?_) (fun q22 => ?_)
    · rw [nI_leI (by omega) (by omega)] at q22
      obtain rfl : b = N := by omega
      exact hx
    · rw [nI_leI (by omega) (by omega)] at q22
      refine hj_aload_n F 3 dX0_match_25 rfl rfl ?_
      refine hj_aload_n F 4 dX0_match_26 rfl rfl ?_
      refine hj_iload F 0 dX0_match_27 rfl ?_
      refine hj_iload F 1 dX0_match_29 rfl ?_
      refine hj_cVi F (n := 3) (k_B_misfitOf hok (b := b) (t9 := t9) (by omega) ht) gX0_match_X0_misfitOf rfl ⟨rfl, rfl⟩ (by decide +kernel) ⟨by decide, by decide⟩ 2 0 rfl rfl (As := [_, _, _]) rfl rfl (Nat.le_of_ble_eq_true rfl) ⟨Nat.zero_le _, Nat.zero_le _⟩ dX0_match_31 (hw_eq4 ?_)
      refine hj_istore F (lv' := [(6, _), (5, _), (4, _), (3, _), (0, _), (1, _), (2, _)]) dX0_match_34 (by decide) rfl ?_
      rw [e0, e1]
      have hS : mt_b (a 0) (fun b => a (200 + b)) t9 (b + 1) s = mt_s (a 0) (fun b => a (200 + b)) t9 b (mt_b (a 0) (fun b => a (200 + b)) t9 b s) := rfl
      refine hj_iload F 0 dX0_match_36 rfl ?_
      refine hj_iload_n F 3 dX0_match_38 rfl rfl ?_
      refine hj_icmp_ge F 60 dX0_match_39 (by decide) (fun q39 => ?_) (fun q39 => ?_)
      · rw [mt_s, if_neg (Int32.not_lt.mpr q39)] at hS
        refine hj_iinc F 1 (v := _ + 1) (lv' := [(5, _), (6, _), (4, _), (3, _), (0, _), (1, _), (2, _)]) dX0_match_60 rfl rfl (by decide) rfl ?_
        refine hj_goto F 16 dX0_match_63 (by decide) ?_
        refine hj_lv [0, 2, 3, 4, 5, 6] rfl ?_
        rw [nI_1]
        have e := ih (b + 1) (by omega) (by omega)
        rw [hS] at e
        exact e
      · rw [mt_s, if_pos (Int32.not_le.mp q39)] at hS
        refine hj_iload F 0 dX0_match_42 rfl ?_
        refine hj_istore_n F (lv' := [(3, _), (6, _), (5, _), (4, _), (0, _), (1, _), (2, _)]) dX0_match_44 rfl (by decide) rfl ?_
        refine hj_aload_n F 6 dX0_match_45 rfl rfl ?_
        refine hj_iconst F (v := 0) dX0_match_46 (by decide) ?_
        refine hj_iload F 2 dX0_match_47 rfl ?_
        refine hs_X_order F ho (by first | assumption | exact hw_inc (by decide)) dX0_match_49 ?_
        refine hj_aload_n F 6 dX0_match_50 rfl rfl ?_
        refine hj_iconst F (v := 1) dX0_match_51 (by decide) ?_
        refine hj_iload F 3 dX0_match_52 rfl ?_
        refine hs_X_order F ho (by first | assumption | exact hw_inc (by decide)) dX0_match_54 ?_
        refine hj_aload_n F 6 dX0_match_55 rfl rfl ?_
        refine hj_iconst F (v := 2) dX0_match_56 (by decide) ?_
        refine hj_iload F 1 dX0_match_57 rfl ?_
        refine hs_X_order F ho (by first | assumption | exact hw_inc (by decide)) dX0_match_59 ?_
        refine hj_iinc F 2 (v := _ + 1) (lv' := [(5, _), (3, _), (6, _), (4, _), (0, _), (1, _), (2, _)]) dX0_match_60 rfl rfl (by decide) rfl ?_
        refine hj_goto F 16 dX0_match_63 (by decide) ?_
        refine hj_lv [0, 3, 1, 4, 5, 6] rfl ?_
        rw [nI_1]
        have e := ih (b + 1) (by omega) (by omega)
        rw [hS] at e
        simp only [vau_s, bx_uu]
        exact e
set_option maxHeartbeats 4000000 in
set_option maxRecDepth 100000 in
theorem lt_B_match (F : hw_F K l D (WH ad t) (hw_T t) X cX0_match RX0 wsX0_match (hw_rm 2) 7) (hok : hw_XOK X) {N o : Nat} (h12 : g 12 = nI N) (hN : N ≤ 10) (ho : o < 60) {s : Int32 × (Nat → Int32)} (hx : hw_J K (WH ad t) 0 0 g (va_up a (100 + o) (mt_t (a 0) (fun b => a (200 + b)) N 12 s).2) c [(4, .int (nI 12)), (3, .int (mt_t (a 0) (fun b => a (200 + b)) N 12 s).1), (0, .ref (ad 2)), (1, .ref (ad 10)), (2, .ref (ad (100 + o)))] 72 []) : ∀ m t9 : Nat, 12 - t9 < m → t9 ≤ 12 → hw_J K (WH ad t) 0 0 g (va_up a (100 + o) (mt_t (a 0) (fun b => a (200 + b)) N t9 s).2) c [(4, .int (nI t9)), (3, .int (mt_t (a 0) (fun b => a (200 + b)) N t9 s).1), (0, .ref (ad 2)), (1, .ref (ad 10)), (2, .ref (ad (100 + o)))] 6 [] := by
  intro m
  induction m with
  | zero => intro t9 hm; exact absurd hm (Nat.not_lt_zero _)
  | succ m ih =>
    intro t9 hm ht
    refine hj_iload F 0 dX0_match_6 rfl ?_
    refine hj_bipush F (v := 12) dX0_match_8 (by decide) ?_
    refine hj_icmp_ge F 72 dX0_match_10 (by decide) (fun q10 => ?_) (fun q10 => ?_)
    · have q10 : nI 12 ≤ nI t9 := q10
      rw [nI_leI (by omega) (by omega)] at q10
      obtain rfl : t9 = 12 := by omega
      exact hx
    · have q10 : ¬ nI 12 ≤ nI t9 := q10
      rw [nI_leI (by omega) (by omega)] at q10
      refine hj_iconst F (v := 0) dX0_match_13 (by decide) ?_
      refine hj_istore F (lv' := [(5, _), (4, _), (3, _), (0, _), (1, _), (2, _)]) dX0_match_14 (by decide) rfl ?_
      have h66 : hw_J K (WH ad t) 0 0 g (va_up a (100 + o) (mt_b (a 0) (fun b => a (200 + b)) t9 N (mt_t (a 0) (fun b => a (200 + b)) N t9 s)).2) c [(5, .int (nI N)), (4, .int (nI t9)), (3, .int (mt_b (a 0) (fun b => a (200 + b)) t9 N (mt_t (a 0) (fun b => a (200 + b)) N t9 s)).1), (0, .ref (ad 2)), (1, .ref (ad 10)), (2, .ref (ad (100 + o)))] 66 [] := by
        refine hj_iinc F 1 (v := _ + 1) (lv' := [(4, _), (5, _), (3, _), (0, _), (1, _), (2, _)]) dX0_match_66 rfl rfl (by decide) rfl ?_
        refine hj_goto F 6 dX0_match_69 (by decide) ?_
        refine hj_lv [0, 2, 3, 4, 5] rfl ?_
        rw [nI_1]
        exact ih (t9 + 1) (by omega) (by omega)
      exact li_B_match F hok h12 hN (by omega) ho h66 (N + 1) 0 (by omega) (Nat.zero_le _)
set_option maxHeartbeats 4000000 in
set_option maxRecDepth 100000 in
theorem k_B_match (hok : hw_XOK X) {N o : Nat} (h12 : g 12 = nI N) (hN : N ≤ 10) (ho : o < 60) : hw_Cv l D (WH ad t) (hw_T t) X yX0_match wsX0_match (hw_rm 2) [.ref (ad 2), .ref (ad 10), .ref (ad (100 + o))] g a c (fun g' a' c' => g' = g ∧ a' = va_up a (100 + o) (mt_t (a 0) (fun b => a (200 + b)) N 12 (2147483647, a (100 + o))).2 ∧ c' = c) := by
  refine hw_Cv.mk (lv0 := [(0, _), (1, _), (2, _)]) (by decide) rfl (Nat.le_of_ble_eq_true rfl) rfl (WH_ads ad t) hok (fun K F ret => ?_)
  have F : hw_F K l D (WH ad t) (hw_T t) X cX0_match RX0 wsX0_match (hw_rm 2) 7 := F
  refine hj_ldc F lc_X0_match_32 dX0_match_0 ?_
  refine hj_istore_n F (lv' := [(3, _), (0, _), (1, _), (2, _)]) dX0_match_2 rfl (by decide) rfl ?_
  refine hj_iconst F (v := 0) dX0_match_3 (by decide) ?_
  refine hj_istore F (lv' := [(4, _), (3, _), (0, _), (1, _), (2, _)]) dX0_match_4 (by decide) rfl ?_
  have h := lt_B_match F hok h12 hN ho (s := (2147483647, a (100 + o))) (ret dX0_match_72 ⟨rfl, rfl, rfl⟩) 13 0 (by decide) (by decide)
  rw [show (mt_t (a 0) (fun b => a (200 + b)) N 0 (2147483647, a (100 + o))) = (2147483647, a (100 + o)) from rfl, vau_self a (100 + o) rfl] at h
  exact h
def cp_n (f h : Nat → Int32) : Nat → Nat → Int32
  | 0 => f
  | i + 1 => upd (cp_n f h i) i (h i)
set_option maxHeartbeats 4000000 in
set_option maxRecDepth 100000 in
theorem lp_B_add (F : hw_F K l D (WH ad t) (hw_T t) X cX0_add RX0 wsX0_add rm 4) {n : Nat} (hn : n < 10) (hx : hw_J K (WH ad t) 0 0 g (va_up a (200 + n) (cp_n (a (200 + n)) (a 0) 12)) c [(3, .int (nI 12)), (2, .int (nI n)), (0, .ref (ad 2)), (1, .ref (ad 10))] 30 []) : ∀ m i : Nat, 12 - i < m → i ≤ 12 → hw_J K (WH ad t) 0 0 g (va_up a (200 + n) (cp_n (a (200 + n)) (a 0) i)) c [(3, .int (nI i)), (2, .int (nI n)), (0, .ref (ad 2)), (1, .ref (ad 10))] 7 [] := by
  intro m
  induction m with
  | zero => intro i hm; exact absurd hm (Nat.not_lt_zero _)
  | succ m ih =>
    intro i hm hi
    have e0 : va_up a (200 + n) (cp_n (a (200 + n)) (a 0) i) 0 = a 0 := va_up_ne _ _ (by omega)
    refine hj_iload_n F 0 dX0_add_7 rfl rfl ?_
    refine hj_bipush F (v := 12) dX0_add_8 (by decide) ?_
    refine hj_icmp_ge F 30 dX0_add_10 (by decide) (fun q10 => ?_) (fun q10 => ?_)
    · have q10 : nI 12 ≤ nI i := q10
      rw [nI_leI (by omega) (by omega)] at q10
      obtain rfl : i = 12 := by omega
      exact hx
    · have q10 : ¬ nI 12 ≤ nI i := q10
      rw [nI_leI (by omega) (by omega)] at q10
      refine hj_aload_n F 2 dX0_add_13 rfl rfl ?_
      refine hg_B_rings F hi_X0_add_B lk_X0_add_11 dX0_add_14 ?_
      refine hj_iload_n F 1 dX0_add_17 rfl rfl ?_
      refine hl_B_rings F (vp_in_nI hn (by decide)) dX0_add_18 ?_
      rw [nI_clamp (show n < 2 ^ 31 by omega)]
      refine hj_iload_n F 0 dX0_add_19 rfl rfl ?_
      refine hj_aload_n F 3 dX0_add_20 rfl rfl ?_
      refine hj_iload_n F 0 dX0_add_21 rfl rfl ?_
      refine hl_X_hand F (vp_in_nI (show i < 12 by omega) (by decide)) dX0_add_22 ?_
      refine hs_B_ring F hn (vp_in_nI (show i < 12 by omega) (by decide)) dX0_add_23 ?_
      refine hj_iinc F 0 (v := _ + 1) (lv' := [(3, _), (2, _), (0, _), (1, _)]) dX0_add_24 rfl rfl (by decide) rfl ?_
      refine hj_goto F 7 dX0_add_27 (by decide) ?_
      refine hj_lv [0, 1, 2, 3] rfl ?_
      rw [nI_1, nI_clamp (show i < 2 ^ 31 by omega), vau_s, bx_uu, e0]
      exact ih (i + 1) (by omega) (by omega)
set_option maxHeartbeats 4000000 in
set_option maxRecDepth 100000 in
theorem k_B_add (hok : hw_XOK X) {n : Nat} (h12 : g 12 = nI n) (hn : n < 10) : hw_Ci l D (WH ad t) (hw_T t) X yX0_add wsX0_add (hw_rm 1) [.ref (ad 2), .ref (ad 10)] g a c (fun r g' a' c' => r = nI n ∧ g' = upd g 12 (nI (n + 1)) ∧ a' = va_up (va_up a (200 + n) (cp_n (a (200 + n)) (a 0) 12)) 4 (upd (a 4) n (-1)) ∧ c' = c) := by
  refine hw_Ci.mk (lv0 := [(0, _), (1, _)]) (by decide) rfl (Nat.le_of_ble_eq_true rfl) rfl (WH_ads ad t) hok (fun K F ret => ?_)
  have F : hw_F K l D (WH ad t) (hw_T t) X cX0_add RX0 wsX0_add (hw_rm 1) 4 := F
  have e4 : va_up a (200 + n) (cp_n (a (200 + n)) (a 0) 12) 4 = a 4 := va_up_ne _ _ (by omega)
  have h30 : hw_J K (WH ad t) 0 0 g (va_up a (200 + n) (cp_n (a (200 + n)) (a 0) 12)) c [(3, .int (nI 12)), (2, .int (nI n)), (0, .ref (ad 2)), (1, .ref (ad 10))] 30 [] := by
    refine hj_aload_n F 2 dX0_add_30 rfl rfl ?_
    refine hg_B_latest F hi_X0_add_B lk_X0_add_23 dX0_add_31 ?_
    refine hj_iload_n F 1 dX0_add_34 rfl rfl ?_
    refine hj_iconst F (v := -1) dX0_add_35 (by decide) ?_
    refine hs_B_latest F (vp_in_nI hn (by decide)) dX0_add_36 ?_
    rw [nI_clamp (show n < 2 ^ 31 by omega), e4]
    refine hj_aload_n F 2 dX0_add_37 rfl rfl ?_
    refine hj_dup F dX0_add_38 rfl ?_
    refine hg_B_size F hi_X0_add_B lk_X0_add_26 dX0_add_39 ?_
    refine hj_iconst F (v := 1) dX0_add_42 (by decide) ?_
    rw [h12]
    refine hj_iadd F dX0_add_43 ?_
    rw [nI_1]
    refine hp_B_size F hi_X0_add_B lk_X0_add_26 dX0_add_44 ?_
    refine hj_iload_n F 1 dX0_add_47 rfl rfl ?_
    exact ret dX0_add_48 rfl ⟨rfl, rfl, rfl, rfl⟩
  refine hj_aload_n F 0 dX0_add_0 rfl rfl ?_
  refine hg_B_size F hi_X0_add_B lk_X0_add_26 dX0_add_1 ?_
  rw [h12]
  refine hj_istore_n F (lv' := [(2, _), (0, _), (1, _)]) dX0_add_4 rfl (by decide) rfl ?_
  refine hj_iconst F (v := 0) dX0_add_5 (by decide) ?_
  refine hj_istore_n F (lv' := [(3, _), (2, _), (0, _), (1, _)]) dX0_add_6 rfl (by decide) rfl ?_
  have h := lp_B_add F hn h30 13 0 (by decide) (by decide)
  rw [show cp_n (a (200 + n)) (a 0) 0 = a (200 + n) from rfl, vau_self a (200 + n) rfl] at h
  exact h
end SBLOCKS
end
section
section SPLAN1
theorem hi_X1_add_P : ∀ w ∈ u_ws RX1 TX1 12, w ∈ wsX1_add := fun w h => by
  unfold wsX1_add
  simp only [List.mem_cons, List.mem_append]
  first | (simp only [h, or_true, true_or]; done) | (have h2 : w ∈ wsX10 := h; simp only [h2, or_true, true_or]; done)
theorem lk_X1_add_15 : Cond.fieldLink RX1 15 "HatWorks$Planner" "onBlock" "[I" ∈ wsX1_add := List.mem_of_getElem? (i := 3) rfl
theorem lk_X1_add_18 : Cond.fieldLink RX1 18 "HatWorks$Planner" "steams" "[I" ∈ wsX1_add := List.mem_of_getElem? (i := 4) rfl
theorem lk_X1_add_21 : Cond.fieldLink RX1 21 "HatWorks$Planner" "ons" "[I" ∈ wsX1_add := List.mem_of_getElem? (i := 5) rfl
theorem lk_X1_add_24 : Cond.fieldLink RX1 24 "HatWorks$Planner" "weights" "[I" ∈ wsX1_add := List.mem_of_getElem? (i := 6) rfl
theorem lk_X1_add_27 : Cond.fieldLink RX1 27 "HatWorks$Planner" "gone" "[Z" ∈ wsX1_add := List.mem_of_getElem? (i := 7) rfl
theorem lk_X1_add_48 : Cond.fieldLink RX1 48 "HatWorks$Planner" "size" "I" ∈ wsX1_add := List.mem_of_getElem? (i := 2) rfl
theorem lk_X1_add_9 : Cond.fieldLink RX1 9 "HatWorks$Planner" "numbers" "[I" ∈ wsX1_add := List.mem_of_getElem? (i := 1) rfl
theorem hi_X1_bestAt_P : ∀ w ∈ u_ws RX1 TX1 12, w ∈ wsX1_bestAt := fun w h => by
  unfold wsX1_bestAt
  simp only [List.mem_cons, List.mem_append]
  first | (simp only [h, or_true, true_or]; done) | (have h2 : w ∈ wsX10 := h; simp only [h2, or_true, true_or]; done)
theorem lk_X1_bestAt_34 : Cond.fieldLink RX1 34 "HatWorks$Planner" "best" "[I" ∈ wsX1_bestAt := List.mem_of_getElem? (i := 3) rfl
theorem lk_X1_bestAt_48 : Cond.fieldLink RX1 48 "HatWorks$Planner" "size" "I" ∈ wsX1_bestAt := List.mem_of_getElem? (i := 1) rfl
theorem lk_X1_bestAt_9 : Cond.fieldLink RX1 9 "HatWorks$Planner" "numbers" "[I" ∈ wsX1_bestAt := List.mem_of_getElem? (i := 2) rfl
theorem hi_X1_bestCost_P : ∀ w ∈ u_ws RX1 TX1 12, w ∈ wsX1_bestCost := fun w h => by
  unfold wsX1_bestCost
  simp only [List.mem_cons, List.mem_append]
  first | (simp only [h, or_true, true_or]; done) | (have h2 : w ∈ wsX10 := h; simp only [h2, or_true, true_or]; done)
theorem lk_X1_bestCost_44 : Cond.fieldLink RX1 44 "HatWorks$Planner" "leastCost" "J" ∈ wsX1_bestCost := List.mem_of_getElem? (i := 2) rfl
theorem lk_X1_bestCost_48 : Cond.fieldLink RX1 48 "HatWorks$Planner" "size" "I" ∈ wsX1_bestCost := List.mem_of_getElem? (i := 1) rfl
theorem hi_X1_clear_P : ∀ w ∈ u_ws RX1 TX1 12, w ∈ wsX1_clear := fun w h => by
  unfold wsX1_clear
  simp only [List.mem_cons, List.mem_append]
  first | (simp only [h, or_true, true_or]; done) | (have h2 : w ∈ wsX10 := h; simp only [h2, or_true, true_or]; done)
theorem lk_X1_clear_37 : Cond.fieldLink RX1 37 "HatWorks$Planner" "blockFree" "[I" ∈ wsX1_clear := List.mem_of_getElem? (i := 3) rfl
theorem lk_X1_clear_40 : Cond.fieldLink RX1 40 "HatWorks$Planner" "minute" "I" ∈ wsX1_clear := List.mem_of_getElem? (i := 1) rfl
theorem lk_X1_clear_48 : Cond.fieldLink RX1 48 "HatWorks$Planner" "size" "I" ∈ wsX1_clear := List.mem_of_getElem? (i := 2) rfl
theorem hi_X1_keepTried_P : ∀ w ∈ u_ws RX1 TX1 12, w ∈ wsX1_keepTried := fun w h => by
  unfold wsX1_keepTried
  simp only [List.mem_cons, List.mem_append]
  first | (simp only [h, or_true, true_or]; done) | (have h2 : w ∈ wsX10 := h; simp only [h2, or_true, true_or]; done)
theorem lk_X1_keepTried_31 : Cond.fieldLink RX1 31 "HatWorks$Planner" "tried" "[I" ∈ wsX1_keepTried := List.mem_of_getElem? (i := 4) rfl
theorem lk_X1_keepTried_34 : Cond.fieldLink RX1 34 "HatWorks$Planner" "best" "[I" ∈ wsX1_keepTried := List.mem_of_getElem? (i := 3) rfl
theorem lk_X1_keepTried_44 : Cond.fieldLink RX1 44 "HatWorks$Planner" "leastCost" "J" ∈ wsX1_keepTried := List.mem_of_getElem? (i := 1) rfl
theorem lk_X1_keepTried_48 : Cond.fieldLink RX1 48 "HatWorks$Planner" "size" "I" ∈ wsX1_keepTried := List.mem_of_getElem? (i := 2) rfl
theorem lm_X3_startOf_182 : Cond.methodLink RX3 182 Lib.Math.max.name ∈ wsX3_startOf ∧ Cond.static Lib.Math.max.name ∈ wsX3_startOf ∧ Cond.initialized "java/lang/Math" ∈ wsX3_startOf ∧ Cond.code Lib.Math.max.name Lib.Math.max.code 2 (some .int) ∈ wsX3_startOf := ⟨List.mem_of_getElem? (i := 1) rfl, List.mem_of_getElem? (i := 2) rfl, List.mem_of_getElem? (i := 3) rfl, List.mem_of_getElem? (i := 4) rfl⟩
variable {K : hw_K} {l : Launch} {D : va_G} {ad : Nat → Nat} {t : Nat → ClassId} {X : hw_XT} {rm : Room} {g : hw_G} {a : hw_A} {c : Int64}
def mxi (x y : Int32) : Int32 := if x < y then y else x
set_option maxHeartbeats 4000000 in
set_option maxRecDepth 100000 in
theorem k_X_startOf (hok : hw_XOK X) {x y z w : Int32} : hw_Ci l D (WH ad t) (hw_T t) X yX3_startOf wsX3_startOf (hw_rm 1) [.int x, .int y, .int z, .int w] g a c (fun r g' a' c' => r = mxi (mxi x y) (z - w) ∧ g' = g ∧ a' = a ∧ c' = c) := by
  refine hw_Ci.mk (lv0 := [(0, _), (1, _), (2, _), (3, _)]) (by decide) rfl (Nat.le_of_ble_eq_true rfl) rfl (WH_ads ad t) hok (fun K F ret => ?_)
  have F : hw_F K l D (WH ad t) (hw_T t) X cX3_startOf RX3 wsX3_startOf (hw_rm 1) 4 := F
  refine hj_iload_n F 0 dX3_startOf_0 rfl rfl ?_
  refine hj_iload_n F 1 dX3_startOf_1 rfl rfl ?_
  refine hj_mmax F lm_X3_startOf_182.1 lm_X3_startOf_182.2.1 lm_X3_startOf_182.2.2.1 lm_X3_startOf_182.2.2.2 (by decide) (Nat.le_of_ble_eq_true rfl) (Nat.zero_le _) (Nat.zero_le _) dX3_startOf_2 ?_
  refine hj_iload_n F 2 dX3_startOf_5 rfl rfl ?_
  refine hj_iload_n F 3 dX3_startOf_6 rfl rfl ?_
  refine hj_isub F dX3_startOf_7 ?_
  refine hj_mmax F lm_X3_startOf_182.1 lm_X3_startOf_182.2.1 lm_X3_startOf_182.2.2.1 lm_X3_startOf_182.2.2.2 (by decide) (Nat.le_of_ble_eq_true rfl) (Nat.zero_le _) (Nat.zero_le _) dX3_startOf_8 ?_
  exact ret dX3_startOf_11 rfl ⟨rfl, rfl, rfl, rfl⟩
set_option maxHeartbeats 4000000 in
set_option maxRecDepth 100000 in
theorem lp_P_clear (F : hw_F K l D (WH ad t) (hw_T t) X cX1_clear RX1 wsX1_clear rm 4) {x : Int32} (hx : hw_J K (WH ad t) 0 0 g (va_up a 13 (cp_n (a 13) (a 3) 10)) c [(3, .int (nI 10)), (0, .ref (ad 3)), (1, .int x), (2, .ref (ad 13))] 33 []) : ∀ m i : Nat, 10 - i < m → i ≤ 10 → hw_J K (WH ad t) 0 0 g (va_up a 13 (cp_n (a 13) (a 3) i)) c [(3, .int (nI i)), (0, .ref (ad 3)), (1, .int x), (2, .ref (ad 13))] 12 [] := by
  intro m
  induction m with
  | zero => intro i hm; exact absurd hm (Nat.not_lt_zero _)
  | succ m ih =>
    intro i hm hi
    refine hj_iload_n F 0 dX1_clear_12 rfl rfl ?_
    refine hj_bipush F (v := 10) dX1_clear_13 (by decide) ?_
    refine hj_icmp_ge F 33 dX1_clear_15 (by decide) (fun q15 => ?_) (fun q15 => ?_)
    · have q15 : nI 10 ≤ nI i := q15
      rw [nI_leI (by omega) (by omega)] at q15
      obtain rfl : i = 10 := by omega
      exact hx
    · have q15 : ¬ nI 10 ≤ nI i := q15
      rw [nI_leI (by omega) (by omega)] at q15
      refine hj_aload_n F 1 dX1_clear_18 rfl rfl ?_
      refine hg_P_blockFree F hi_X1_clear_P lk_X1_clear_37 dX1_clear_19 ?_
      refine hj_iload_n F 0 dX1_clear_22 rfl rfl ?_
      refine hj_aload_n F 3 dX1_clear_23 rfl rfl ?_
      refine hj_iload_n F 0 dX1_clear_24 rfl rfl ?_
      refine hl_B_freeFrom F (vp_in_nI (show i < 10 by omega) (by decide)) dX1_clear_25 ?_
      refine hs_P_blockFree F (vp_in_nI (show i < 10 by omega) (by decide)) dX1_clear_26 ?_
      refine hj_iinc F 0 (v := _ + 1) (lv' := [(3, _), (0, _), (1, _), (2, _)]) dX1_clear_27 rfl rfl (by decide) rfl ?_
      refine hj_goto F 12 dX1_clear_30 (by decide) ?_
      refine hj_lv [0, 1, 2, 3] rfl ?_
      rw [nI_1, nI_clamp (show i < 2 ^ 31 by omega), vau_s, bx_uu, va_up_ne _ _ (show (3 : Nat) ≠ 13 by decide)]
      exact ih (i + 1) (by omega) (by omega)
set_option maxHeartbeats 4000000 in
set_option maxRecDepth 100000 in
theorem k_P_clear (hok : hw_XOK X) {x : Int32} : hw_Cv l D (WH ad t) (hw_T t) X yX1_clear wsX1_clear (hw_rm 1) [.ref (ad 3), .int x, .ref (ad 13)] g a c (fun g' a' c' => g' = upd (upd g 13 x) 14 0 ∧ a' = (va_up a 13 (cp_n (a 13) (a 3) 10)) ∧ c' = c) := by
  refine hw_Cv.mk (lv0 := [(0, _), (1, _), (2, _)]) (by decide) rfl (Nat.le_of_ble_eq_true rfl) rfl (WH_ads ad t) hok (fun K F ret => ?_)
  have F : hw_F K l D (WH ad t) (hw_T t) X cX1_clear RX1 wsX1_clear (hw_rm 1) 4 := F
  refine hj_aload_n F 0 dX1_clear_0 rfl rfl ?_
  refine hj_iload_n F 1 dX1_clear_1 rfl rfl ?_
  refine hp_P_minute F hi_X1_clear_P lk_X1_clear_40 dX1_clear_2 ?_
  refine hj_aload_n F 0 dX1_clear_5 rfl rfl ?_
  refine hj_iconst F (v := 0) dX1_clear_6 (by decide) ?_
  refine hp_P_size F hi_X1_clear_P lk_X1_clear_48 dX1_clear_7 ?_
  refine hj_iconst F (v := 0) dX1_clear_10 (by decide) ?_
  refine hj_istore_n F (lv' := [(3, _), (0, _), (1, _), (2, _)]) dX1_clear_11 rfl (by decide) rfl ?_
  have h := lp_P_clear F (a := a) (x := x) (ret dX1_clear_33 ⟨rfl, rfl, rfl⟩) 11 0 (by decide) (by decide)
  rw [show cp_n (a 13) (a 3) 0 = a 13 from rfl, vau_self a 13 rfl] at h
  exact h
def pl_add (a : hw_A) (n : Nat) (x : Int32) (o : Nat) : hw_A := va_up (va_up (va_up (va_up (va_up (va_up a 5 (upd (a 5) n x)) 6 (upd (a 6) n (a (100 + o) 0))) 7 (upd (a 7) n (a (100 + o) 4))) 8 (upd (a 8) n (a (100 + o) 5))) 9 (upd (a 9) n (a (100 + o) 7))) 10 (upd (a 10) n 0)
set_option maxHeartbeats 4000000 in
set_option maxRecDepth 100000 in
theorem k_P_add (hok : hw_XOK X) {n o : Nat} {x : Int32} (h14 : g 14 = nI n) (hn : n < 7) (ho : o < 60) : hw_Cv l D (WH ad t) (hw_T t) X yX1_add wsX1_add (hw_rm 1) [.ref (ad 3), .int x, .ref (ad (100 + o))] g a c (fun g' a' c' => g' = upd g 14 (nI (n + 1)) ∧ a' = pl_add a n x o ∧ c' = c) := by
  refine hw_Cv.mk (lv0 := [(0, _), (1, _), (2, _)]) (by decide) rfl (Nat.le_of_ble_eq_true rfl) rfl (WH_ads ad t) hok (fun K F ret => ?_)
  have F : hw_F K l D (WH ad t) (hw_T t) X cX1_add RX1 wsX1_add (hw_rm 1) 3 := F
  refine hj_aload_n F 0 dX1_add_0 rfl rfl ?_
  refine hg_P_numbers F hi_X1_add_P lk_X1_add_9 dX1_add_1 ?_
  refine hj_aload_n F 0 dX1_add_4 rfl rfl ?_
  refine hg_P_size F hi_X1_add_P lk_X1_add_48 dX1_add_5 ?_
  refine hj_iload_n F 1 dX1_add_8 rfl rfl ?_
  refine hs_P_numbers F (by rw [h14]; exact vp_in_nI hn (by decide)) dX1_add_9 ?_
  refine hj_aload_n F 0 dX1_add_10 rfl rfl ?_
  refine hg_P_onBlock F hi_X1_add_P lk_X1_add_15 dX1_add_11 ?_
  refine hj_aload_n F 0 dX1_add_14 rfl rfl ?_
  refine hg_P_size F hi_X1_add_P lk_X1_add_48 dX1_add_15 ?_
  refine hj_aload_n F 2 dX1_add_18 rfl rfl ?_
  refine hj_iconst F (v := 0) dX1_add_19 (by decide) ?_
  refine hl_X_order F ho (by first | assumption | exact hw_inc (by decide)) dX1_add_20 ?_
  refine hs_P_onBlock F (by rw [h14]; exact vp_in_nI hn (by decide)) dX1_add_21 ?_
  refine hj_aload_n F 0 dX1_add_22 rfl rfl ?_
  refine hg_P_steams F hi_X1_add_P lk_X1_add_18 dX1_add_23 ?_
  refine hj_aload_n F 0 dX1_add_26 rfl rfl ?_
  refine hg_P_size F hi_X1_add_P lk_X1_add_48 dX1_add_27 ?_
  refine hj_aload_n F 2 dX1_add_30 rfl rfl ?_
  refine hj_iconst F (v := 4) dX1_add_31 (by decide) ?_
  refine hl_X_order F ho (by first | assumption | exact hw_inc (by decide)) dX1_add_32 ?_
  refine hs_P_steams F (by rw [h14]; exact vp_in_nI hn (by decide)) dX1_add_33 ?_
  refine hj_aload_n F 0 dX1_add_34 rfl rfl ?_
  refine hg_P_ons F hi_X1_add_P lk_X1_add_21 dX1_add_35 ?_
  refine hj_aload_n F 0 dX1_add_38 rfl rfl ?_
  refine hg_P_size F hi_X1_add_P lk_X1_add_48 dX1_add_39 ?_
  refine hj_aload_n F 2 dX1_add_42 rfl rfl ?_
  refine hj_iconst F (v := 5) dX1_add_43 (by decide) ?_
  refine hl_X_order F ho (by first | assumption | exact hw_inc (by decide)) dX1_add_44 ?_
  refine hs_P_ons F (by rw [h14]; exact vp_in_nI hn (by decide)) dX1_add_45 ?_
  refine hj_aload_n F 0 dX1_add_46 rfl rfl ?_
  refine hg_P_weights F hi_X1_add_P lk_X1_add_24 dX1_add_47 ?_
  refine hj_aload_n F 0 dX1_add_50 rfl rfl ?_
  refine hg_P_size F hi_X1_add_P lk_X1_add_48 dX1_add_51 ?_
  refine hj_aload_n F 2 dX1_add_54 rfl rfl ?_
  refine hj_bipush F (v := 7) dX1_add_55 (by decide) ?_
  refine hl_X_order F ho (by first | assumption | exact hw_inc (by decide)) dX1_add_57 ?_
  refine hs_P_weights F (by rw [h14]; exact vp_in_nI hn (by decide)) dX1_add_58 ?_
  refine hj_aload_n F 0 dX1_add_59 rfl rfl ?_
  refine hg_P_gone F hi_X1_add_P lk_X1_add_27 dX1_add_60 ?_
  refine hj_aload_n F 0 dX1_add_63 rfl rfl ?_
  refine hg_P_size F hi_X1_add_P lk_X1_add_48 dX1_add_64 ?_
  refine hj_iconst F (v := 0) dX1_add_67 (by decide) ?_
  refine hs_P_gone F (by rw [h14]; exact vp_in_nI hn (by decide)) dX1_add_68 ?_
  refine hj_aload_n F 0 dX1_add_69 rfl rfl ?_
  refine hj_dup F dX1_add_70 rfl ?_
  refine hg_P_size F hi_X1_add_P lk_X1_add_48 dX1_add_71 ?_
  refine hj_iconst F (v := 1) dX1_add_74 (by decide) ?_
  refine hj_iadd F dX1_add_75 ?_
  refine hp_P_size F hi_X1_add_P lk_X1_add_48 dX1_add_76 ?_
  rw [h14, nI_1, nI_clamp (by omega)]
  refine ret dX1_add_79 ⟨rfl, ?_, rfl⟩
  simp (disch := omega) only [va_up_ne]
  rfl
set_option maxHeartbeats 4000000 in
set_option maxRecDepth 100000 in
theorem k_P_bestCost (hok : hw_XOK X)  : hw_Cl l D (WH ad t) (hw_T t) X yX1_bestCost wsX1_bestCost (hw_rm 1) [.ref (ad 3)] g a c (fun r g' a' c' => r = (if g 14 = 0 then 0 else c) ∧ g' = g ∧ a' = a ∧ c' = c) := by
  refine hw_Cl.mk (lv0 := [(0, _)]) (by decide) rfl (Nat.le_of_ble_eq_true rfl) rfl (WH_ads ad t) hok (fun K F ret => ?_)
  have F : hw_F K l D (WH ad t) (hw_T t) X cX1_bestCost RX1 wsX1_bestCost (hw_rm 1) 1 := F
  refine hj_aload_n F 0 dX1_bestCost_0 rfl rfl ?_
  refine hg_P_size F hi_X1_bestCost_P lk_X1_bestCost_48 dX1_bestCost_1 ?_
  refine hj_if_ne F 11 dX1_bestCost_4 (by decide) (fun q4 => ?_) (fun q4 => ?_)
  · refine hj_aload_n F 0 dX1_bestCost_11 rfl rfl ?_
    refine hg_P_leastCost F hi_X1_bestCost_P lk_X1_bestCost_44 dX1_bestCost_12 ?_
    exact ret dX1_bestCost_15 ⟨(if_neg q4).symm, rfl, rfl, rfl⟩
  · refine hj_lconst F (v := 0) dX1_bestCost_7 (by decide) ?_
    refine hj_goto F 15 dX1_bestCost_8 (by decide) ?_
    exact ret dX1_bestCost_15 ⟨(if_pos q4).symm, rfl, rfl, rfl⟩
set_option maxHeartbeats 4000000 in
set_option maxRecDepth 100000 in
theorem k_P_bestAt (hok : hw_XOK X) {k : Int32} {N : Nat} (h14 : g 14 = nI N) (hN : N ≤ 7) (hb : ∀ i, i < N → vp_in (a 12 i) 7) : hw_Ci l D (WH ad t) (hw_T t) X yX1_bestAt wsX1_bestAt (hw_rm 1) [.ref (ad 3), .int k] g a c (fun r g' a' c' => r = (if k < 0 ∨ nI N ≤ k then -1 else a 5 (a 12 k.toNatClampNeg).toNatClampNeg) ∧ g' = g ∧ a' = a ∧ c' = c) := by
  refine hw_Ci.mk (lv0 := [(0, _), (1, _)]) (by decide) rfl (Nat.le_of_ble_eq_true rfl) rfl (WH_ads ad t) hok (fun K F ret => ?_)
  have F : hw_F K l D (WH ad t) (hw_T t) X cX1_bestAt RX1 wsX1_bestAt (hw_rm 1) 2 := F
  refine hj_iload_n F 1 dX1_bestAt_0 rfl rfl ?_
  refine hj_if_lt F 12 dX1_bestAt_1 (by decide) (fun q1 => ?_) (fun q1 => ?_)
  · refine hj_iconst F (v := -1) dX1_bestAt_12 (by decide) ?_
    refine hj_goto F 27 dX1_bestAt_13 (by decide) ?_
    exact ret dX1_bestAt_27 rfl ⟨by rw [if_pos (Or.inl q1)], rfl, rfl, rfl⟩
  · refine hj_iload_n F 1 dX1_bestAt_4 rfl rfl ?_
    refine hj_aload_n F 0 dX1_bestAt_5 rfl rfl ?_
    refine hg_P_size F hi_X1_bestAt_P lk_X1_bestAt_48 dX1_bestAt_6 ?_
    refine hj_icmp_lt F 16 dX1_bestAt_9 (by decide) (fun q9 => ?_) (fun q9 => ?_)
    · rw [h14] at q9
      obtain ⟨j, hj, rfl⟩ : ∃ j, j < N ∧ k = nI j := by
        rcases pk_ix k (n := N) (by omega) with z | z | z
        · exact absurd z q1
        · exact absurd z (Int32.not_le.mpr q9)
        · exact z
      refine hj_aload_n F 0 dX1_bestAt_16 rfl rfl ?_
      refine hg_P_numbers F hi_X1_bestAt_P lk_X1_bestAt_9 dX1_bestAt_17 ?_
      refine hj_aload_n F 0 dX1_bestAt_20 rfl rfl ?_
      refine hg_P_best F hi_X1_bestAt_P lk_X1_bestAt_34 dX1_bestAt_21 ?_
      refine hj_iload_n F 1 dX1_bestAt_24 rfl rfl ?_
      refine hl_P_best F (vp_in_nI (show j < 7 by omega) (by decide)) dX1_bestAt_25 ?_
      refine hl_P_numbers F (by rw [nI_clamp (by omega)]; exact hb j hj) dX1_bestAt_26 ?_
      exact ret dX1_bestAt_27 rfl ⟨by rw [if_neg (fun z => z.elim q1 (fun z => absurd q9 (Int32.not_lt.mpr z)))], rfl, rfl, rfl⟩
    · rw [h14] at q9
      refine hj_iconst F (v := -1) dX1_bestAt_12 (by decide) ?_
      refine hj_goto F 27 dX1_bestAt_13 (by decide) ?_
      exact ret dX1_bestAt_27 rfl ⟨by rw [if_pos (Or.inr (Int32.not_lt.mp q9))], rfl, rfl, rfl⟩
set_option maxHeartbeats 4000000 in
set_option maxRecDepth 100000 in
theorem lp_P_keepTried (F : hw_F K l D (WH ad t) (hw_T t) X cX1_keepTried RX1 wsX1_keepTried rm 4) {x : Int64} {N : Nat} (h14 : g 14 = nI N) (hN : N ≤ 7) (hx : hw_J K (WH ad t) 0 0 g (va_up a 12 (cp_n (a 12) (a 11) N)) c [(3, .int (nI N)), (0, .ref (ad 3)), (1, .long x)] 33 []) : ∀ m i : Nat, N - i < m → i ≤ N → hw_J K (WH ad t) 0 0 g (va_up a 12 (cp_n (a 12) (a 11) i)) c [(3, .int (nI i)), (0, .ref (ad 3)), (1, .long x)] 7 [] := by
  intro m
  induction m with
  | zero => intro i hm; exact absurd hm (Nat.not_lt_zero _)
  | succ m ih =>
    intro i hm hi
    refine hj_iload_n F 0 dX1_keepTried_7 rfl rfl ?_
    refine hj_aload_n F 1 dX1_keepTried_8 rfl rfl ?_
    refine hg_P_size F hi_X1_keepTried_P lk_X1_keepTried_48 dX1_keepTried_9 ?_
    rw [h14]
    refine hj_icmp_ge F 33 dX1_keepTried_12 (by decide) (fun q12 => ?_) (fun q12 => ?_)
    · rw [nI_leI (by omega) (by omega)] at q12
      obtain rfl : i = N := by omega
      exact hx
    · rw [nI_leI (by omega) (by omega)] at q12
      refine hj_aload_n F 1 dX1_keepTried_15 rfl rfl ?_
      refine hg_P_best F hi_X1_keepTried_P lk_X1_keepTried_34 dX1_keepTried_16 ?_
      refine hj_iload_n F 0 dX1_keepTried_19 rfl rfl ?_
      refine hj_aload_n F 1 dX1_keepTried_20 rfl rfl ?_
      refine hg_P_tried F hi_X1_keepTried_P lk_X1_keepTried_31 dX1_keepTried_21 ?_
      refine hj_iload_n F 0 dX1_keepTried_24 rfl rfl ?_
      refine hl_P_tried F (vp_in_nI (show i < 7 by omega) (by decide)) dX1_keepTried_25 ?_
      refine hs_P_best F (vp_in_nI (show i < 7 by omega) (by decide)) dX1_keepTried_26 ?_
      refine hj_iinc F 0 (v := _ + 1) (lv' := [(3, _), (0, _), (1, _)]) dX1_keepTried_27 rfl rfl (by decide) rfl ?_
      refine hj_goto F 7 dX1_keepTried_30 (by decide) ?_
      refine hj_lv [0, 1, 2] rfl ?_
      rw [nI_1, nI_clamp (show i < 2 ^ 31 by omega), vau_s, bx_uu, va_up_ne _ _ (show (11 : Nat) ≠ 12 by decide)]
      exact ih (i + 1) (by omega) (by omega)
set_option maxHeartbeats 4000000 in
set_option maxRecDepth 100000 in
theorem k_P_keepTried (hok : hw_XOK X) {x : Int64} {N : Nat} (h14 : g 14 = nI N) (hN : N ≤ 7) : hw_Cv l D (WH ad t) (hw_T t) X yX1_keepTried wsX1_keepTried (hw_rm 1) [.ref (ad 3), .long x] g a c (fun g' a' c' => g' = g ∧ a' = (va_up a 12 (cp_n (a 12) (a 11) N)) ∧ c' = x) := by
  refine hw_Cv.mk (lv0 := [(0, _), (1, _)]) (by decide) rfl (Nat.le_of_ble_eq_true rfl) rfl (WH_ads ad t) hok (fun K F ret => ?_)
  have F : hw_F K l D (WH ad t) (hw_T t) X cX1_keepTried RX1 wsX1_keepTried (hw_rm 1) 4 := F
  refine hj_aload_n F 0 dX1_keepTried_0 rfl rfl ?_
  refine hj_lload_n F 1 dX1_keepTried_1 rfl rfl ?_
  refine hp_P_leastCost F hi_X1_keepTried_P lk_X1_keepTried_44 dX1_keepTried_2 ?_
  refine hj_iconst F (v := 0) dX1_keepTried_5 (by decide) ?_
  refine hj_istore_n F (lv' := [(3, _), (0, _), (1, _)]) dX1_keepTried_6 rfl (by decide) rfl ?_
  have h := lp_P_keepTried F (a := a) (x := x) h14 hN (ret dX1_keepTried_33 ⟨rfl, rfl, rfl⟩) (N + 1) 0 (by omega) (Nat.zero_le _)
  rw [show cp_n (a 12) (a 11) 0 = a 12 from rfl, vau_self a 12 rfl] at h
  exact h
end SPLAN1
end
section
/-! THE PLAN, purely: orders in which v = 0 .. N-1 may go, one behind another, by their numbers; the first of the cheapest -/
def pl_st (nw sf f s : Nat) : Nat := max (max nw sf) (f - s)
def pl_done (nw : Nat) (ob st on : Nat → Nat) (v : Nat) (S : Nat × (Nat → Nat) × Nat) : Nat := pl_st nw S.1 (S.2.1 (ob v)) (st v) + st v + on v
def pl_step (nw : Nat) (ob st on wt : Nat → Nat) (v : Nat) (S : Nat × (Nat → Nat) × Nat) : Nat × (Nat → Nat) × Nat := (pl_st nw S.1 (S.2.1 (ob v)) (st v) + st v, va_up S.2.1 (ob v) (pl_done nw ob st on v S), S.2.2 + wt v * pl_done nw ob st on v S)
def pl_acc (acc : Option (Nat × List Nat)) (c : Nat) (p : List Nat) : Option (Nat × List Nat) := match acc with
  | none => some (c, p)
  | some q => if c < q.1 then some (c, p) else some q
def pl_F (N nw : Nat) (ob st on wt : Nat → Nat) : Nat → List Nat → Nat × (Nat → Nat) × Nat → Option (Nat × List Nat) → Option (Nat × List Nat)
  | 0, p, S, acc => pl_acc acc S.2.2 p
  | k + 1, p, S, acc => (List.range N).foldl (fun acc v => if v ∈ p then acc else pl_F N nw ob st on wt k (p ++ [v]) (pl_step nw ob st on wt v S) acc) acc
/-- the loop of one depth: what the first j tries give -/
def pl_L (N nw : Nat) (ob st on wt : Nat → Nat) (k : Nat) (p : List Nat) (S : Nat × (Nat → Nat) × Nat) (acc : Option (Nat × List Nat)) (j : Nat) : Option (Nat × List Nat) := (List.range j).foldl (fun acc v => if v ∈ p then acc else pl_F N nw ob st on wt k (p ++ [v]) (pl_step nw ob st on wt v S) acc) acc
theorem pl_L0 {N nw : Nat} {ob st on wt : Nat → Nat} {k : Nat} {p : List Nat} {S : Nat × (Nat → Nat) × Nat} {acc : Option (Nat × List Nat)} : pl_L N nw ob st on wt k p S acc 0 = acc := rfl
theorem pl_Ls {N nw : Nat} {ob st on wt : Nat → Nat} {k : Nat} {p : List Nat} {S : Nat × (Nat → Nat) × Nat} {acc : Option (Nat × List Nat)} {j : Nat} : pl_L N nw ob st on wt k p S acc (j + 1) = if j ∈ p then pl_L N nw ob st on wt k p S acc j else pl_F N nw ob st on wt k (p ++ [j]) (pl_step nw ob st on wt j S) (pl_L N nw ob st on wt k p S acc j) := by
  unfold pl_L
  rw [List.range_succ, List.foldl_append]
  rfl
theorem pl_LN {N nw : Nat} {ob st on wt : Nat → Nat} {k : Nat} {p : List Nat} {S : Nat × (Nat → Nat) × Nat} {acc : Option (Nat × List Nat)} : pl_F N nw ob st on wt (k + 1) p S acc = pl_L N nw ob st on wt k p S acc N := rfl
/-- what is dear already gets no cheaper -/
theorem pl_prune {N nw : Nat} {ob st on wt : Nat → Nat} : ∀ (k : Nat) (p : List Nat) (S : Nat × (Nat → Nat) × Nat) (q : Nat × List Nat), q.1 ≤ S.2.2 → pl_F N nw ob st on wt k p S (some q) = some q
  | 0, p, S, q, h => by
    show (if S.2.2 < q.1 then _ else _) = _
    rw [if_neg (Nat.not_lt.mpr h)]
  | k + 1, p, S, q, h => by
    rw [pl_LN]
    have : ∀ j, pl_L N nw ob st on wt k p S (some q) j = some q := by
      intro j
      induction j with
      | zero => rfl
      | succ j ih =>
        rw [pl_Ls, ih]
        by_cases e : j ∈ p
        · rw [if_pos e]
        · rw [if_neg e]
          exact pl_prune k _ _ q (Nat.le_trans h (Nat.le_add_right _ _))
    exact this N
theorem lgc_lt {x y : Int64} : lg_cmp x y < 0 ↔ x < y := by
  unfold lg_cmp
  by_cases h1 : y < x
  · simp only [h1, if_true]
    exact ⟨fun h => absurd h (by decide), fun h => absurd (Int64.lt_iff_toInt_lt.mp h) (by have := Int64.lt_iff_toInt_lt.mp h1; omega)⟩
  · by_cases h2 : x = y
    · subst h2
      simp
    · simp only [h1, h2, if_false]
      refine ⟨fun _ => ?_, fun _ => by decide⟩
      have a1 : ¬ y.toInt < x.toInt := fun z => h1 (Int64.lt_iff_toInt_lt.mpr z)
      have a2 : ¬ x.toInt = y.toInt := fun z => h2 (Int64.toInt_inj.mp z)
      exact Int64.lt_iff_toInt_lt.mpr (by omega)
theorem mxi_n {a b : Nat} (ha : a < 2 ^ 31) (hb : b < 2 ^ 31) : mxi (nI a) (nI b) = nI (max a b) := by
  unfold mxi
  by_cases h : a < b
  · rw [if_pos ((nI_ltI ha hb).mpr h), Nat.max_eq_right (by omega)]
  · rw [if_neg (fun z => h ((nI_ltI ha hb).mp z)), Nat.max_eq_left (by omega)]
theorem mxi_st {nw sf f s : Nat} (h1 : nw < 2 ^ 30) (h2 : sf < 2 ^ 30) (h3 : f < 2 ^ 30) (h4 : s < 2 ^ 30) : mxi (mxi (nI nw) (nI sf)) (nI f - nI s) = nI (pl_st nw sf f s) := by
  rw [mxi_n (by omega) (by omega)]
  by_cases h : s ≤ f
  · rw [pk_sub h, mxi_n (by omega) (by omega)]
    rfl
  · have hn := pk_sneg (a := f) (b := s) h4 (by omega)
    unfold mxi pl_st
    rw [if_neg (fun z => ?_), show f - s = 0 by omega, Nat.max_zero]
    have z1 := Int32.lt_iff_toInt_lt.mp z
    have z2 := Int32.lt_iff_toInt_lt.mp hn
    rw [nI_toInt (by omega)] at z1
    have z3 : (0 : Int32).toInt = 0 := by decide
    omega
def pl_ok (d : Nat) (S : Nat × (Nat → Nat) × Nat) : Prop := S.1 ≤ 2000000 + 200 * d ∧ (∀ b, S.2.1 b ≤ 2000000 + 200 * d) ∧ S.2.2 ≤ 40000000 * d
theorem pl_st_le {nw sf f s M : Nat} (h1 : nw ≤ M) (h2 : sf ≤ M) (h3 : f ≤ M) : pl_st nw sf f s ≤ M := by
  unfold pl_st
  omega
theorem pl_ok_s {nw : Nat} {ob st on wt : Nat → Nat} {v d : Nat} {S : Nat × (Nat → Nat) × Nat} (hnw : nw ≤ 2000000) (hd : d ≤ 7) (h : pl_ok d S) (h1 : st v ≤ 50) (h2 : on v ≤ 140) (h3 : wt v ≤ 9) : pl_ok (d + 1) (pl_step nw ob st on wt v S) ∧ pl_done nw ob st on v S ≤ 2000000 + 200 * (d + 1) := by
  obtain ⟨a1, a2, a3⟩ := h
  have b1 := pl_st_le (s := st v) (show nw ≤ 2000000 + 200 * d by omega) a1 (a2 (ob v))
  have b2 : pl_done nw ob st on v S ≤ 2000000 + 200 * (d + 1) := by unfold pl_done; omega
  refine ⟨⟨?_, ?_, ?_⟩, b2⟩
  · show _ + st v ≤ _
    omega
  · intro b
    show va_up S.2.1 (ob v) _ b ≤ _
    by_cases e : b = ob v
    · rw [e, vau_s]; exact b2
    · rw [va_up_ne _ _ e]; have := a2 b; omega
  · show S.2.2 + wt v * pl_done nw ob st on v S ≤ _
    have b3 : wt v * pl_done nw ob st on v S ≤ 9 * (2000000 + 200 * (d + 1)) := Nat.mul_le_mul h3 b2
    omega
/-- the class's long and row hold the best so far -/
def pl_R (N : Nat) (c : Int64) (f : Nat → Int32) (acc : Option (Nat × List Nat)) : Prop := match acc with
  | none => c = 9223372036854775807
  | some q => c = lN q.1 ∧ q.1 < 2 ^ 62 ∧ q.2.length = N ∧ ∀ i, i < N → f i = nI (q.2.getD i 0) ∧ q.2.getD i 0 < N
def pl_P (N nw : Nat) (ob st on wt : Nat → Nat) (g : hw_G) (a : hw_A) (c : Int64) (p : List Nat) (S : Nat × (Nat → Nat) × Nat) (acc : Option (Nat × List Nat)) (d : Nat) : Prop :=
  g 14 = nI N ∧ N ≤ 7 ∧ g 13 = nI nw ∧ nw ≤ 2000000 ∧ (∀ v, v < N → ob v < 10 ∧ st v ≤ 50 ∧ on v ≤ 140 ∧ wt v ≤ 9 ∧ a 6 v = nI (ob v) ∧ a 7 v = nI (st v) ∧ a 8 v = nI (on v) ∧ a 9 v = nI (wt v)) ∧ p.length = d ∧ d ≤ N ∧ (∀ v ∈ p, v < N) ∧ (∀ i, i < d → a 11 i = nI (p.getD i 0)) ∧ (∀ v, v < N → a 10 v = if v ∈ p then 1 else 0) ∧ (∀ b, b < 10 → a 13 b = nI (S.2.1 b)) ∧ pl_ok d S ∧ pl_R N c (a 12) acc
def pl_Q (N : Nat) (g : hw_G) (a : hw_A) (d : Nat) (acc : Option (Nat × List Nat)) (g' : hw_G) (a' : hw_A) (c' : Int64) : Prop := g' = g ∧ ∃ x y : Nat → Int32, a' = va_up (va_up a 11 x) 12 y ∧ (∀ i, i < d → x i = a 11 i) ∧ pl_R N c' y acc
theorem cp_at (f h : Nat → Int32) : ∀ (n i : Nat), cp_n f h n i = if i < n then h i else f i
  | 0, i => by simp [cp_n]
  | n + 1, i => by
    show upd (cp_n f h n) n (h n) i = _
    by_cases e : i = n
    · rw [e, pk_us, if_pos (by omega)]
    · rw [pk_un e, cp_at f h n i]
      by_cases e2 : i < n
      · rw [if_pos e2, if_pos (by omega)]
      · rw [if_neg e2, if_neg (by omega)]
end
