section
-- ===== PART A: goes FIRST, ahead of the names: the tables' words, and 'selects' of the private methods out of them =====
/-- a private method of a class that the tables say can be made, by its rows of tables_1 -/
def lw_okq (q : MethodName × Nat) : Prop := (q.1.cls ≠ "java/lang/invoke/MethodHandle" ∧ q.1.cls ≠ "java/lang/invoke/VarHandle") ∧ Cond.instantiable q.1.cls q.2 ∈ tables_1 ∧ Cond.privateMethod q.1 ∈ tables_1 ∧ Cond.instanceMethod q.1 ∈ tables_1
theorem lw_p0 : lw_okq (⟨"WicketBoard$RuleBook", "begin", "()V"⟩, 7) := ⟨⟨by decide +kernel, by decide +kernel⟩, List.mem_of_getElem? (i := 42) (by decide +kernel), List.mem_of_getElem? (i := 205) (by decide +kernel), List.mem_of_getElem? (i := 206) (by decide +kernel)⟩
theorem lw_p1 : lw_okq (⟨"WicketBoard$RuleBook", "take", "(LWicketBoard$Tape;II)V"⟩, 7) := ⟨⟨by decide +kernel, by decide +kernel⟩, List.mem_of_getElem? (i := 42) (by decide +kernel), List.mem_of_getElem? (i := 238) (by decide +kernel), List.mem_of_getElem? (i := 239) (by decide +kernel)⟩
theorem lw_p2 : lw_okq (⟨"WicketBoard$RuleBook", "takeWord", "(LWicketBoard$Tape;II)V"⟩, 7) := ⟨⟨by decide +kernel, by decide +kernel⟩, List.mem_of_getElem? (i := 42) (by decide +kernel), List.mem_of_getElem? (i := 242) (by decide +kernel), List.mem_of_getElem? (i := 243) (by decide +kernel)⟩
theorem lw_p3 : lw_okq (⟨"WicketBoard$RuleBook", "fail", "(II)V"⟩, 7) := ⟨⟨by decide +kernel, by decide +kernel⟩, List.mem_of_getElem? (i := 42) (by decide +kernel), List.mem_of_getElem? (i := 313) (by decide +kernel), List.mem_of_getElem? (i := 314) (by decide +kernel)⟩
theorem lw_p4 : lw_okq (⟨"WicketBoard$RuleBook", "takeNumber", "(LWicketBoard$Tape;II)V"⟩, 7) := ⟨⟨by decide +kernel, by decide +kernel⟩, List.mem_of_getElem? (i := 42) (by decide +kernel), List.mem_of_getElem? (i := 317) (by decide +kernel), List.mem_of_getElem? (i := 318) (by decide +kernel)⟩
theorem lw_p5 : lw_okq (⟨"WicketBoard", "umpireAt", "(I)LWicketBoard$Umpire;"⟩, 10) := ⟨⟨by decide +kernel, by decide +kernel⟩, List.mem_of_getElem? (i := 20) (by decide +kernel), List.mem_of_getElem? (i := 412) (by decide +kernel), List.mem_of_getElem? (i := 413) (by decide +kernel)⟩
theorem lw_p6 : lw_okq (⟨"WicketBoard", "fits", "(LWicketBoard$Umpire;I)Z"⟩, 10) := ⟨⟨by decide +kernel, by decide +kernel⟩, List.mem_of_getElem? (i := 20) (by decide +kernel), List.mem_of_getElem? (i := 435) (by decide +kernel), List.mem_of_getElem? (i := 436) (by decide +kernel)⟩
theorem lw_p7 : lw_okq (⟨"WicketBoard", "gameOf", "(I)LWicketBoard$Game;"⟩, 10) := ⟨⟨by decide +kernel, by decide +kernel⟩, List.mem_of_getElem? (i := 20) (by decide +kernel), List.mem_of_getElem? (i := 439) (by decide +kernel), List.mem_of_getElem? (i := 440) (by decide +kernel)⟩
theorem lw_p8 : lw_okq (⟨"WicketBoard", "isSeat", "(I)Z"⟩, 10) := ⟨⟨by decide +kernel, by decide +kernel⟩, List.mem_of_getElem? (i := 20) (by decide +kernel), List.mem_of_getElem? (i := 443) (by decide +kernel), List.mem_of_getElem? (i := 444) (by decide +kernel)⟩
theorem lw_p9 : lw_okq (⟨"WicketBoard", "price", "(LWicketBoard$Umpire;I)I"⟩, 10) := ⟨⟨by decide +kernel, by decide +kernel⟩, List.mem_of_getElem? (i := 20) (by decide +kernel), List.mem_of_getElem? (i := 474) (by decide +kernel), List.mem_of_getElem? (i := 475) (by decide +kernel)⟩
theorem lw_p10 : lw_okq (⟨"WicketBoard$Sender", "pair", "(II)V"⟩, 12) := ⟨⟨by decide +kernel, by decide +kernel⟩, List.mem_of_getElem? (i := 97) (by decide +kernel), List.mem_of_getElem? (i := 489) (by decide +kernel), List.mem_of_getElem? (i := 490) (by decide +kernel)⟩
theorem lw_p11 : lw_okq (⟨"WicketBoard", "clearSeat", "(I)V"⟩, 10) := ⟨⟨by decide +kernel, by decide +kernel⟩, List.mem_of_getElem? (i := 20) (by decide +kernel), List.mem_of_getElem? (i := 493) (by decide +kernel), List.mem_of_getElem? (i := 494) (by decide +kernel)⟩
theorem lw_p12 : lw_okq (⟨"WicketBoard", "holderOf", "(I)LWicketBoard$Umpire;"⟩, 10) := ⟨⟨by decide +kernel, by decide +kernel⟩, List.mem_of_getElem? (i := 20) (by decide +kernel), List.mem_of_getElem? (i := 497) (by decide +kernel), List.mem_of_getElem? (i := 498) (by decide +kernel)⟩
theorem lw_p13 : lw_okq (⟨"WicketBoard$Sender", "addSeat", "(I)V"⟩, 12) := ⟨⟨by decide +kernel, by decide +kernel⟩, List.mem_of_getElem? (i := 97) (by decide +kernel), List.mem_of_getElem? (i := 509) (by decide +kernel), List.mem_of_getElem? (i := 510) (by decide +kernel)⟩
theorem lw_p14 : lw_okq (⟨"WicketBoard$Sender", "forgetColumns", "()V"⟩, 12) := ⟨⟨by decide +kernel, by decide +kernel⟩, List.mem_of_getElem? (i := 97) (by decide +kernel), List.mem_of_getElem? (i := 513) (by decide +kernel), List.mem_of_getElem? (i := 514) (by decide +kernel)⟩
theorem lw_p15 : lw_okq (⟨"WicketBoard$Sender", "reach", "(II)V"⟩, 12) := ⟨⟨by decide +kernel, by decide +kernel⟩, List.mem_of_getElem? (i := 97) (by decide +kernel), List.mem_of_getElem? (i := 518) (by decide +kernel), List.mem_of_getElem? (i := 519) (by decide +kernel)⟩
def lw_privs_1 : List (MethodName × Nat) := [(⟨"WicketBoard$RuleBook", "begin", "()V"⟩, 7), (⟨"WicketBoard$RuleBook", "take", "(LWicketBoard$Tape;II)V"⟩, 7), (⟨"WicketBoard$RuleBook", "takeWord", "(LWicketBoard$Tape;II)V"⟩, 7), (⟨"WicketBoard$RuleBook", "fail", "(II)V"⟩, 7), (⟨"WicketBoard$RuleBook", "takeNumber", "(LWicketBoard$Tape;II)V"⟩, 7), (⟨"WicketBoard", "umpireAt", "(I)LWicketBoard$Umpire;"⟩, 10), (⟨"WicketBoard", "fits", "(LWicketBoard$Umpire;I)Z"⟩, 10), (⟨"WicketBoard", "gameOf", "(I)LWicketBoard$Game;"⟩, 10), (⟨"WicketBoard", "isSeat", "(I)Z"⟩, 10), (⟨"WicketBoard", "price", "(LWicketBoard$Umpire;I)I"⟩, 10), (⟨"WicketBoard$Sender", "pair", "(II)V"⟩, 12), (⟨"WicketBoard", "clearSeat", "(I)V"⟩, 10), (⟨"WicketBoard", "holderOf", "(I)LWicketBoard$Umpire;"⟩, 10), (⟨"WicketBoard$Sender", "addSeat", "(I)V"⟩, 12), (⟨"WicketBoard$Sender", "forgetColumns", "()V"⟩, 12), (⟨"WicketBoard$Sender", "reach", "(II)V"⟩, 12)]
theorem lw_r1 : ∀ q ∈ lw_privs_1, lw_okq q := List.forall_mem_cons.mpr ⟨lw_p0, List.forall_mem_cons.mpr ⟨lw_p1, List.forall_mem_cons.mpr ⟨lw_p2, List.forall_mem_cons.mpr ⟨lw_p3, List.forall_mem_cons.mpr ⟨lw_p4, List.forall_mem_cons.mpr ⟨lw_p5, List.forall_mem_cons.mpr ⟨lw_p6, List.forall_mem_cons.mpr ⟨lw_p7, List.forall_mem_cons.mpr ⟨lw_p8, List.forall_mem_cons.mpr ⟨lw_p9, List.forall_mem_cons.mpr ⟨lw_p10, List.forall_mem_cons.mpr ⟨lw_p11, List.forall_mem_cons.mpr ⟨lw_p12, List.forall_mem_cons.mpr ⟨lw_p13, List.forall_mem_cons.mpr ⟨lw_p14, List.forall_mem_cons.mpr ⟨lw_p15, fun _ h => absurd h List.not_mem_nil⟩⟩⟩⟩⟩⟩⟩⟩⟩⟩⟩⟩⟩⟩⟩⟩
theorem lw_p16 : lw_okq (⟨"WicketBoard$Sender", "gap", "(II)I"⟩, 12) := ⟨⟨by decide +kernel, by decide +kernel⟩, List.mem_of_getElem? (i := 97) (by decide +kernel), List.mem_of_getElem? (i := 522) (by decide +kernel), List.mem_of_getElem? (i := 523) (by decide +kernel)⟩
theorem lw_p17 : lw_okq (⟨"WicketBoard$Sender", "nearest", "()I"⟩, 12) := ⟨⟨by decide +kernel, by decide +kernel⟩, List.mem_of_getElem? (i := 97) (by decide +kernel), List.mem_of_getElem? (i := 527) (by decide +kernel), List.mem_of_getElem? (i := 528) (by decide +kernel)⟩
theorem lw_p18 : lw_okq (⟨"WicketBoard$Sender", "shiftParts", "(II)V"⟩, 12) := ⟨⟨by decide +kernel, by decide +kernel⟩, List.mem_of_getElem? (i := 97) (by decide +kernel), List.mem_of_getElem? (i := 531) (by decide +kernel), List.mem_of_getElem? (i := 532) (by decide +kernel)⟩
theorem lw_p19 : lw_okq (⟨"WicketBoard$Sender", "moveAlong", "(II)V"⟩, 12) := ⟨⟨by decide +kernel, by decide +kernel⟩, List.mem_of_getElem? (i := 97) (by decide +kernel), List.mem_of_getElem? (i := 535) (by decide +kernel), List.mem_of_getElem? (i := 536) (by decide +kernel)⟩
theorem lw_p20 : lw_okq (⟨"WicketBoard$Sender", "takeFirst", "(I)V"⟩, 12) := ⟨⟨by decide +kernel, by decide +kernel⟩, List.mem_of_getElem? (i := 97) (by decide +kernel), List.mem_of_getElem? (i := 539) (by decide +kernel), List.mem_of_getElem? (i := 540) (by decide +kernel)⟩
theorem lw_p21 : lw_okq (⟨"WicketBoard$Sender", "firstTight", "(IIZ)I"⟩, 12) := ⟨⟨by decide +kernel, by decide +kernel⟩, List.mem_of_getElem? (i := 97) (by decide +kernel), List.mem_of_getElem? (i := 543) (by decide +kernel), List.mem_of_getElem? (i := 544) (by decide +kernel)⟩
theorem lw_p22 : lw_okq (⟨"WicketBoard$Sender", "findMovable", "(II)V"⟩, 12) := ⟨⟨by decide +kernel, by decide +kernel⟩, List.mem_of_getElem? (i := 97) (by decide +kernel), List.mem_of_getElem? (i := 547) (by decide +kernel), List.mem_of_getElem? (i := 548) (by decide +kernel)⟩
theorem lw_p23 : lw_okq (⟨"WicketBoard", "fillSeat", "(II)V"⟩, 10) := ⟨⟨by decide +kernel, by decide +kernel⟩, List.mem_of_getElem? (i := 20) (by decide +kernel), List.mem_of_getElem? (i := 555) (by decide +kernel), List.mem_of_getElem? (i := 556) (by decide +kernel)⟩
theorem lw_p24 : lw_okq (⟨"WicketBoard", "filledSeats", "()I"⟩, 10) := ⟨⟨by decide +kernel, by decide +kernel⟩, List.mem_of_getElem? (i := 20) (by decide +kernel), List.mem_of_getElem? (i := 559) (by decide +kernel), List.mem_of_getElem? (i := 560) (by decide +kernel)⟩
theorem lw_p25 : lw_okq (⟨"WicketBoard", "cheapestFree", "(I)I"⟩, 10) := ⟨⟨by decide +kernel, by decide +kernel⟩, List.mem_of_getElem? (i := 20) (by decide +kernel), List.mem_of_getElem? (i := 567) (by decide +kernel), List.mem_of_getElem? (i := 568) (by decide +kernel)⟩
theorem lw_p26 : lw_okq (⟨"WicketBoard", "fillByMove", "(I)Z"⟩, 10) := ⟨⟨by decide +kernel, by decide +kernel⟩, List.mem_of_getElem? (i := 20) (by decide +kernel), List.mem_of_getElem? (i := 571) (by decide +kernel), List.mem_of_getElem? (i := 572) (by decide +kernel)⟩
theorem lw_p27 : lw_okq (⟨"WicketBoard", "endSeat", "(I)V"⟩, 10) := ⟨⟨by decide +kernel, by decide +kernel⟩, List.mem_of_getElem? (i := 20) (by decide +kernel), List.mem_of_getElem? (i := 591) (by decide +kernel), List.mem_of_getElem? (i := 592) (by decide +kernel)⟩
theorem lw_p28 : lw_okq (⟨"WicketBoard", "regrade", "(LWicketBoard$Umpire;)V"⟩, 10) := ⟨⟨by decide +kernel, by decide +kernel⟩, List.mem_of_getElem? (i := 20) (by decide +kernel), List.mem_of_getElem? (i := 599) (by decide +kernel), List.mem_of_getElem? (i := 600) (by decide +kernel)⟩
theorem lw_p29 : lw_okq (⟨"java/lang/Throwable", "fillInStackTrace", "(I)Ljava/lang/Throwable;"⟩, 6) := ⟨⟨by decide +kernel, by decide +kernel⟩, List.mem_of_getElem? (i := 665) (by decide +kernel), List.mem_of_getElem? (i := 663) (by decide +kernel), List.mem_of_getElem? (i := 664) (by decide +kernel)⟩
theorem lw_p30 : lw_okq (⟨"WicketBoardModel", "come", "(I)V"⟩, 46) := ⟨⟨by decide +kernel, by decide +kernel⟩, List.mem_of_getElem? (i := 695) (by decide +kernel), List.mem_of_getElem? (i := 848) (by decide +kernel), List.mem_of_getElem? (i := 849) (by decide +kernel)⟩
theorem lw_p31 : lw_okq (⟨"WicketBoardModel", "go", "()V"⟩, 46) := ⟨⟨by decide +kernel, by decide +kernel⟩, List.mem_of_getElem? (i := 695) (by decide +kernel), List.mem_of_getElem? (i := 860) (by decide +kernel), List.mem_of_getElem? (i := 861) (by decide +kernel)⟩
def lw_privs_2 : List (MethodName × Nat) := [(⟨"WicketBoard$Sender", "gap", "(II)I"⟩, 12), (⟨"WicketBoard$Sender", "nearest", "()I"⟩, 12), (⟨"WicketBoard$Sender", "shiftParts", "(II)V"⟩, 12), (⟨"WicketBoard$Sender", "moveAlong", "(II)V"⟩, 12), (⟨"WicketBoard$Sender", "takeFirst", "(I)V"⟩, 12), (⟨"WicketBoard$Sender", "firstTight", "(IIZ)I"⟩, 12), (⟨"WicketBoard$Sender", "findMovable", "(II)V"⟩, 12), (⟨"WicketBoard", "fillSeat", "(II)V"⟩, 10), (⟨"WicketBoard", "filledSeats", "()I"⟩, 10), (⟨"WicketBoard", "cheapestFree", "(I)I"⟩, 10), (⟨"WicketBoard", "fillByMove", "(I)Z"⟩, 10), (⟨"WicketBoard", "endSeat", "(I)V"⟩, 10), (⟨"WicketBoard", "regrade", "(LWicketBoard$Umpire;)V"⟩, 10), (⟨"java/lang/Throwable", "fillInStackTrace", "(I)Ljava/lang/Throwable;"⟩, 6), (⟨"WicketBoardModel", "come", "(I)V"⟩, 46), (⟨"WicketBoardModel", "go", "()V"⟩, 46)]
theorem lw_r2 : ∀ q ∈ lw_privs_2, lw_okq q := List.forall_mem_cons.mpr ⟨lw_p16, List.forall_mem_cons.mpr ⟨lw_p17, List.forall_mem_cons.mpr ⟨lw_p18, List.forall_mem_cons.mpr ⟨lw_p19, List.forall_mem_cons.mpr ⟨lw_p20, List.forall_mem_cons.mpr ⟨lw_p21, List.forall_mem_cons.mpr ⟨lw_p22, List.forall_mem_cons.mpr ⟨lw_p23, List.forall_mem_cons.mpr ⟨lw_p24, List.forall_mem_cons.mpr ⟨lw_p25, List.forall_mem_cons.mpr ⟨lw_p26, List.forall_mem_cons.mpr ⟨lw_p27, List.forall_mem_cons.mpr ⟨lw_p28, List.forall_mem_cons.mpr ⟨lw_p29, List.forall_mem_cons.mpr ⟨lw_p30, List.forall_mem_cons.mpr ⟨lw_p31, fun _ h => absurd h List.not_mem_nil⟩⟩⟩⟩⟩⟩⟩⟩⟩⟩⟩⟩⟩⟩⟩⟩
theorem lw_p32 : lw_okq (⟨"WicketBoardModel", "byteAt", "(I)I"⟩, 46) := ⟨⟨by decide +kernel, by decide +kernel⟩, List.mem_of_getElem? (i := 695) (by decide +kernel), List.mem_of_getElem? (i := 870) (by decide +kernel), List.mem_of_getElem? (i := 871) (by decide +kernel)⟩
theorem lw_p33 : lw_okq (⟨"WicketBoardModel", "readRule", "()Z"⟩, 46) := ⟨⟨by decide +kernel, by decide +kernel⟩, List.mem_of_getElem? (i := 695) (by decide +kernel), List.mem_of_getElem? (i := 877) (by decide +kernel), List.mem_of_getElem? (i := 878) (by decide +kernel)⟩
theorem lw_p34 : lw_okq (⟨"WicketBoardModel", "ruleAtHand", "()I"⟩, 46) := ⟨⟨by decide +kernel, by decide +kernel⟩, List.mem_of_getElem? (i := 695) (by decide +kernel), List.mem_of_getElem? (i := 881) (by decide +kernel), List.mem_of_getElem? (i := 882) (by decide +kernel)⟩
theorem lw_p35 : lw_okq (⟨"WicketBoardModel", "isKey", "(J)Z"⟩, 46) := ⟨⟨by decide +kernel, by decide +kernel⟩, List.mem_of_getElem? (i := 695) (by decide +kernel), List.mem_of_getElem? (i := 888) (by decide +kernel), List.mem_of_getElem? (i := 889) (by decide +kernel)⟩
theorem lw_p36 : lw_okq (⟨"WicketBoardModel", "bad", "(I)Z"⟩, 46) := ⟨⟨by decide +kernel, by decide +kernel⟩, List.mem_of_getElem? (i := 695) (by decide +kernel), List.mem_of_getElem? (i := 893) (by decide +kernel), List.mem_of_getElem? (i := 894) (by decide +kernel)⟩
theorem lw_p37 : lw_okq (⟨"WicketBoardModel", "isUmpire", "(I)Z"⟩, 46) := ⟨⟨by decide +kernel, by decide +kernel⟩, List.mem_of_getElem? (i := 695) (by decide +kernel), List.mem_of_getElem? (i := 916) (by decide +kernel), List.mem_of_getElem? (i := 917) (by decide +kernel)⟩
theorem lw_p38 : lw_okq (⟨"WicketBoardModel", "seatOf", "(I)I"⟩, 46) := ⟨⟨by decide +kernel, by decide +kernel⟩, List.mem_of_getElem? (i := 695) (by decide +kernel), List.mem_of_getElem? (i := 920) (by decide +kernel), List.mem_of_getElem? (i := 921) (by decide +kernel)⟩
theorem lw_p39 : lw_okq (⟨"WicketBoardModel", "isSeat", "(I)Z"⟩, 46) := ⟨⟨by decide +kernel, by decide +kernel⟩, List.mem_of_getElem? (i := 695) (by decide +kernel), List.mem_of_getElem? (i := 932) (by decide +kernel), List.mem_of_getElem? (i := 933) (by decide +kernel)⟩
theorem lw_p40 : lw_okq (⟨"WicketBoardModel", "mayHave", "(II)Z"⟩, 46) := ⟨⟨by decide +kernel, by decide +kernel⟩, List.mem_of_getElem? (i := 695) (by decide +kernel), List.mem_of_getElem? (i := 936) (by decide +kernel), List.mem_of_getElem? (i := 937) (by decide +kernel)⟩
theorem lw_p41 : lw_okq (⟨"WicketBoardModel", "miles", "(II)I"⟩, 46) := ⟨⟨by decide +kernel, by decide +kernel⟩, List.mem_of_getElem? (i := 695) (by decide +kernel), List.mem_of_getElem? (i := 940) (by decide +kernel), List.mem_of_getElem? (i := 941) (by decide +kernel)⟩
theorem lw_p42 : lw_okq (⟨"WicketBoardModel", "costOf", "(II)I"⟩, 46) := ⟨⟨by decide +kernel, by decide +kernel⟩, List.mem_of_getElem? (i := 695) (by decide +kernel), List.mem_of_getElem? (i := 951) (by decide +kernel), List.mem_of_getElem? (i := 952) (by decide +kernel)⟩
theorem lw_p43 : lw_okq (⟨"WicketBoardModel", "settle", "()V"⟩, 46) := ⟨⟨by decide +kernel, by decide +kernel⟩, List.mem_of_getElem? (i := 695) (by decide +kernel), List.mem_of_getElem? (i := 959) (by decide +kernel), List.mem_of_getElem? (i := 960) (by decide +kernel)⟩
theorem lw_p44 : lw_okq (⟨"WicketBoardModel", "seek", "(I)V"⟩, 46) := ⟨⟨by decide +kernel, by decide +kernel⟩, List.mem_of_getElem? (i := 695) (by decide +kernel), List.mem_of_getElem? (i := 964) (by decide +kernel), List.mem_of_getElem? (i := 965) (by decide +kernel)⟩
theorem lw_p45 : lw_okq (⟨"WicketBoardModel", "pays", "(I)I"⟩, 46) := ⟨⟨by decide +kernel, by decide +kernel⟩, List.mem_of_getElem? (i := 695) (by decide +kernel), List.mem_of_getElem? (i := 969) (by decide +kernel), List.mem_of_getElem? (i := 970) (by decide +kernel)⟩
theorem lw_p46 : lw_okq (⟨"WicketBoardModel", "change", "(I)V"⟩, 46) := ⟨⟨by decide +kernel, by decide +kernel⟩, List.mem_of_getElem? (i := 695) (by decide +kernel), List.mem_of_getElem? (i := 973) (by decide +kernel), List.mem_of_getElem? (i := 974) (by decide +kernel)⟩
theorem lw_p47 : lw_okq (⟨"WicketBoardModel", "lessen", "(II)V"⟩, 46) := ⟨⟨by decide +kernel, by decide +kernel⟩, List.mem_of_getElem? (i := 695) (by decide +kernel), List.mem_of_getElem? (i := 977) (by decide +kernel), List.mem_of_getElem? (i := 978) (by decide +kernel)⟩
def lw_privs_3 : List (MethodName × Nat) := [(⟨"WicketBoardModel", "byteAt", "(I)I"⟩, 46), (⟨"WicketBoardModel", "readRule", "()Z"⟩, 46), (⟨"WicketBoardModel", "ruleAtHand", "()I"⟩, 46), (⟨"WicketBoardModel", "isKey", "(J)Z"⟩, 46), (⟨"WicketBoardModel", "bad", "(I)Z"⟩, 46), (⟨"WicketBoardModel", "isUmpire", "(I)Z"⟩, 46), (⟨"WicketBoardModel", "seatOf", "(I)I"⟩, 46), (⟨"WicketBoardModel", "isSeat", "(I)Z"⟩, 46), (⟨"WicketBoardModel", "mayHave", "(II)Z"⟩, 46), (⟨"WicketBoardModel", "miles", "(II)I"⟩, 46), (⟨"WicketBoardModel", "costOf", "(II)I"⟩, 46), (⟨"WicketBoardModel", "settle", "()V"⟩, 46), (⟨"WicketBoardModel", "seek", "(I)V"⟩, 46), (⟨"WicketBoardModel", "pays", "(I)I"⟩, 46), (⟨"WicketBoardModel", "change", "(I)V"⟩, 46), (⟨"WicketBoardModel", "lessen", "(II)V"⟩, 46)]
theorem lw_r3 : ∀ q ∈ lw_privs_3, lw_okq q := List.forall_mem_cons.mpr ⟨lw_p32, List.forall_mem_cons.mpr ⟨lw_p33, List.forall_mem_cons.mpr ⟨lw_p34, List.forall_mem_cons.mpr ⟨lw_p35, List.forall_mem_cons.mpr ⟨lw_p36, List.forall_mem_cons.mpr ⟨lw_p37, List.forall_mem_cons.mpr ⟨lw_p38, List.forall_mem_cons.mpr ⟨lw_p39, List.forall_mem_cons.mpr ⟨lw_p40, List.forall_mem_cons.mpr ⟨lw_p41, List.forall_mem_cons.mpr ⟨lw_p42, List.forall_mem_cons.mpr ⟨lw_p43, List.forall_mem_cons.mpr ⟨lw_p44, List.forall_mem_cons.mpr ⟨lw_p45, List.forall_mem_cons.mpr ⟨lw_p46, List.forall_mem_cons.mpr ⟨lw_p47, fun _ h => absurd h List.not_mem_nil⟩⟩⟩⟩⟩⟩⟩⟩⟩⟩⟩⟩⟩⟩⟩⟩
theorem lw_p48 : lw_okq (⟨"WicketBoardModel", "placeOf", "(I)I"⟩, 46) := ⟨⟨by decide +kernel, by decide +kernel⟩, List.mem_of_getElem? (i := 695) (by decide +kernel), List.mem_of_getElem? (i := 981) (by decide +kernel), List.mem_of_getElem? (i := 982) (by decide +kernel)⟩
theorem lw_p49 : lw_okq (⟨"WicketBoardModel", "ways", "(III)V"⟩, 46) := ⟨⟨by decide +kernel, by decide +kernel⟩, List.mem_of_getElem? (i := 695) (by decide +kernel), List.mem_of_getElem? (i := 985) (by decide +kernel), List.mem_of_getElem? (i := 986) (by decide +kernel)⟩
theorem lw_p50 : lw_okq (⟨"WicketBoardModel", "moves", "(I)V"⟩, 46) := ⟨⟨by decide +kernel, by decide +kernel⟩, List.mem_of_getElem? (i := 695) (by decide +kernel), List.mem_of_getElem? (i := 989) (by decide +kernel), List.mem_of_getElem? (i := 990) (by decide +kernel)⟩
theorem lw_p51 : lw_okq (⟨"WicketBoardModel", "offer", "(IIII)V"⟩, 46) := ⟨⟨by decide +kernel, by decide +kernel⟩, List.mem_of_getElem? (i := 695) (by decide +kernel), List.mem_of_getElem? (i := 993) (by decide +kernel), List.mem_of_getElem? (i := 994) (by decide +kernel)⟩
theorem lw_p52 : lw_okq (⟨"WicketBoardModel", "filled", "()I"⟩, 46) := ⟨⟨by decide +kernel, by decide +kernel⟩, List.mem_of_getElem? (i := 695) (by decide +kernel), List.mem_of_getElem? (i := 997) (by decide +kernel), List.mem_of_getElem? (i := 998) (by decide +kernel)⟩
theorem lw_p53 : lw_okq (⟨"WicketBoardModel", "spare", "(I)I"⟩, 46) := ⟨⟨by decide +kernel, by decide +kernel⟩, List.mem_of_getElem? (i := 695) (by decide +kernel), List.mem_of_getElem? (i := 1005) (by decide +kernel), List.mem_of_getElem? (i := 1006) (by decide +kernel)⟩
theorem lw_p54 : lw_okq (⟨"WicketBoardModel", "refuse", "()I"⟩, 46) := ⟨⟨by decide +kernel, by decide +kernel⟩, List.mem_of_getElem? (i := 695) (by decide +kernel), List.mem_of_getElem? (i := 1025) (by decide +kernel), List.mem_of_getElem? (i := 1026) (by decide +kernel)⟩
def lw_privs_4 : List (MethodName × Nat) := [(⟨"WicketBoardModel", "placeOf", "(I)I"⟩, 46), (⟨"WicketBoardModel", "ways", "(III)V"⟩, 46), (⟨"WicketBoardModel", "moves", "(I)V"⟩, 46), (⟨"WicketBoardModel", "offer", "(IIII)V"⟩, 46), (⟨"WicketBoardModel", "filled", "()I"⟩, 46), (⟨"WicketBoardModel", "spare", "(I)I"⟩, 46), (⟨"WicketBoardModel", "refuse", "()I"⟩, 46)]
theorem lw_r4 : ∀ q ∈ lw_privs_4, lw_okq q := List.forall_mem_cons.mpr ⟨lw_p48, List.forall_mem_cons.mpr ⟨lw_p49, List.forall_mem_cons.mpr ⟨lw_p50, List.forall_mem_cons.mpr ⟨lw_p51, List.forall_mem_cons.mpr ⟨lw_p52, List.forall_mem_cons.mpr ⟨lw_p53, List.forall_mem_cons.mpr ⟨lw_p54, fun _ h => absurd h List.not_mem_nil⟩⟩⟩⟩⟩⟩⟩
def lw_privs : List (MethodName × Nat) := lw_privs_1 ++ (lw_privs_2 ++ (lw_privs_3 ++ (lw_privs_4)))
def lw_tbl : List Cond := k2_sels lw_privs ++ tables_1
theorem lw_privs_ok : ∀ q ∈ lw_privs, lw_okq q := by
  show ∀ q ∈ lw_privs_1 ++ (lw_privs_2 ++ (lw_privs_3 ++ (lw_privs_4))), lw_okq q
  exact List.forall_mem_append.mpr ⟨lw_r1, List.forall_mem_append.mpr ⟨lw_r2, List.forall_mem_append.mpr ⟨lw_r3, lw_r4⟩⟩⟩
end
section
def RX0 : String := "WicketBoard$Game"
def TX0 : u_T := fun k => match k with
  | 0 => ("WicketBoard$Game", "x", "I", false)
  | 1 => ("WicketBoard$Game", "y", "I", false)
  | 2 => ("WicketBoard$Game", "clubs", "I", false)
  | _ => ("WicketBoard$Game", "level", "I", false)
def tyX0 : Nat → FieldType := fun k => match k with
  | 0 => .int
  | 1 => .int
  | 2 => .int
  | _ => .int
theorem nmX0 : ∀ a, a < 4 → ∀ b, b < 4 → a ≠ b → (TX0 a).2.1 ≠ (TX0 b).2.1 := by decide +kernel
theorem tyX0_ok : ∀ k, k < 4 → parseFieldDescriptor (TX0 k).2.2.1 = some (tyX0 k) := by decide +kernel
abbrev cX0_init : ByteArray := prog_2_method_1_code
def yX0_init : MethodName := ⟨RX0, "<init>", "()V"⟩
abbrev cX0_set : ByteArray := prog_2_method_2_code
def yX0_set : MethodName := ⟨RX0, "set", "(IIII)V"⟩
abbrev cX0_milesTo : ByteArray := prog_2_method_3_code
def yX0_milesTo : MethodName := ⟨RX0, "milesTo", "(LWicketBoard$Umpire;)I"⟩
def RX1 : String := "WicketBoard$RuleBook"
def TX1 : u_T := fun k => match k with
  | 0 => ("WicketBoard$RuleBook", "values", "[I", true)
  | 1 => ("WicketBoard$RuleBook", "draft", "[I", true)
  | 2 => ("WicketBoard$RuleBook", "awaited", "I", false)
  | 3 => ("WicketBoard$RuleBook", "current", "I", false)
  | 4 => ("WicketBoard$RuleBook", "told", "I", false)
  | 5 => ("WicketBoard$RuleBook", "kind", "I", false)
  | _ => ("WicketBoard$RuleBook", "place", "I", false)
def tyX1 : Nat → FieldType := fun k => match k with
  | 0 => .array .int
  | 1 => .array .int
  | 2 => .int
  | 3 => .int
  | 4 => .int
  | 5 => .int
  | _ => .int
theorem nmX1 : ∀ a, a < 7 → ∀ b, b < 7 → a ≠ b → (TX1 a).2.1 ≠ (TX1 b).2.1 := by decide +kernel
theorem tyX1_ok : ∀ k, k < 7 → parseFieldDescriptor (TX1 k).2.2.1 = some (tyX1 k) := by decide +kernel
abbrev cX1_init : ByteArray := prog_3_method_1_code
def yX1_init : MethodName := ⟨RX1, "<init>", "()V"⟩
abbrev cX1_value : ByteArray := prog_3_method_2_code
def yX1_value : MethodName := ⟨RX1, "value", "(I)I"⟩
abbrev cX1_faultKind : ByteArray := prog_3_method_3_code
def yX1_faultKind : MethodName := ⟨RX1, "faultKind", "()I"⟩
abbrev cX1_read : ByteArray := prog_3_method_4_code
def yX1_read : MethodName := ⟨RX1, "read", "(LWicketBoard$Tape;)I"⟩
abbrev cX1_begin : ByteArray := prog_3_method_5_code
def yX1_begin : MethodName := ⟨RX1, "begin", "()V"⟩
abbrev cX1_fail : ByteArray := prog_3_method_6_code
def yX1_fail : MethodName := ⟨RX1, "fail", "(II)V"⟩
abbrev cX1_endOfToken : ByteArray := prog_3_method_7_code
def yX1_endOfToken : MethodName := ⟨RX1, "endOfToken", "(LWicketBoard$Tape;I)I"⟩
abbrev cX1_take : ByteArray := prog_3_method_8_code
def yX1_take : MethodName := ⟨RX1, "take", "(LWicketBoard$Tape;II)V"⟩
abbrev cX1_takeWord : ByteArray := prog_3_method_9_code
def yX1_takeWord : MethodName := ⟨RX1, "takeWord", "(LWicketBoard$Tape;II)V"⟩
abbrev cX1_takeNumber : ByteArray := prog_3_method_10_code
def yX1_takeNumber : MethodName := ⟨RX1, "takeNumber", "(LWicketBoard$Tape;II)V"⟩
abbrev cX1_kindOfWord : ByteArray := prog_3_method_11_code
def yX1_kindOfWord : MethodName := ⟨RX1, "kindOfWord", "(LWicketBoard$Tape;II)I"⟩
abbrev cX1_isWord : ByteArray := prog_3_method_12_code
def yX1_isWord : MethodName := ⟨RX1, "isWord", "(LWicketBoard$Tape;IILjava/lang/String;)Z"⟩
abbrev cX1_wordOf : ByteArray := prog_3_method_13_code
def yX1_wordOf : MethodName := ⟨RX1, "wordOf", "(I)Ljava/lang/String;"⟩
abbrev cX1_numberOf : ByteArray := prog_3_method_14_code
def yX1_numberOf : MethodName := ⟨RX1, "numberOf", "(LWicketBoard$Tape;II)I"⟩
def RX2 : String := "WicketBoard$Sender"
def TX2 : u_T := fun k => match k with
  | 0 => ("WicketBoard$Sender", "prices", "[I", true)
  | 1 => ("WicketBoard$Sender", "columnOf", "[I", true)
  | 2 => ("WicketBoard$Sender", "rowOf", "[I", true)
  | 3 => ("WicketBoard$Sender", "rowPart", "[I", true)
  | 4 => ("WicketBoard$Sender", "columnPart", "[I", true)
  | 5 => ("WicketBoard$Sender", "slack", "[I", true)
  | 6 => ("WicketBoard$Sender", "link", "[I", true)
  | 7 => ("WicketBoard$Sender", "queue", "[I", true)
  | 8 => ("WicketBoard$Sender", "seen", "[Z", true)
  | 9 => ("WicketBoard$Sender", "seats", "I", false)
  | 10 => ("WicketBoard$Sender", "people", "I", false)
  | _ => ("WicketBoard$Sender", "size", "I", false)
def tyX2 : Nat → FieldType := fun k => match k with
  | 0 => .array .int
  | 1 => .array .int
  | 2 => .array .int
  | 3 => .array .int
  | 4 => .array .int
  | 5 => .array .int
  | 6 => .array .int
  | 7 => .array .int
  | 8 => .array .boolean
  | 9 => .int
  | 10 => .int
  | _ => .int
theorem nmX2 : ∀ a, a < 12 → ∀ b, b < 12 → a ≠ b → (TX2 a).2.1 ≠ (TX2 b).2.1 := by decide +kernel
theorem tyX2_ok : ∀ k, k < 12 → parseFieldDescriptor (TX2 k).2.2.1 = some (tyX2 k) := by decide +kernel
abbrev cX2_init : ByteArray := prog_4_method_1_code
def yX2_init : MethodName := ⟨RX2, "<init>", "()V"⟩
abbrev cX2_begin : ByteArray := prog_4_method_2_code
def yX2_begin : MethodName := ⟨RX2, "begin", "(II)V"⟩
abbrev cX2_allow : ByteArray := prog_4_method_3_code
def yX2_allow : MethodName := ⟨RX2, "allow", "(III)V"⟩
abbrev cX2_settle : ByteArray := prog_4_method_4_code
def yX2_settle : MethodName := ⟨RX2, "settle", "()V"⟩
abbrev cX2_umpireFor : ByteArray := prog_4_method_5_code
def yX2_umpireFor : MethodName := ⟨RX2, "umpireFor", "(I)I"⟩
abbrev cX2_pair : ByteArray := prog_4_method_6_code
def yX2_pair : MethodName := ⟨RX2, "pair", "(II)V"⟩
abbrev cX2_gap : ByteArray := prog_4_method_7_code
def yX2_gap : MethodName := ⟨RX2, "gap", "(II)I"⟩
abbrev cX2_forgetColumns : ByteArray := prog_4_method_8_code
def yX2_forgetColumns : MethodName := ⟨RX2, "forgetColumns", "()V"⟩
abbrev cX2_addSeat : ByteArray := prog_4_method_9_code
def yX2_addSeat : MethodName := ⟨RX2, "addSeat", "(I)V"⟩
abbrev cX2_reach : ByteArray := prog_4_method_10_code
def yX2_reach : MethodName := ⟨RX2, "reach", "(II)V"⟩
abbrev cX2_nearest : ByteArray := prog_4_method_11_code
def yX2_nearest : MethodName := ⟨RX2, "nearest", "()I"⟩
abbrev cX2_shiftParts : ByteArray := prog_4_method_12_code
def yX2_shiftParts : MethodName := ⟨RX2, "shiftParts", "(II)V"⟩
abbrev cX2_moveAlong : ByteArray := prog_4_method_13_code
def yX2_moveAlong : MethodName := ⟨RX2, "moveAlong", "(II)V"⟩
abbrev cX2_takeFirst : ByteArray := prog_4_method_14_code
def yX2_takeFirst : MethodName := ⟨RX2, "takeFirst", "(I)V"⟩
abbrev cX2_firstTight : ByteArray := prog_4_method_15_code
def yX2_firstTight : MethodName := ⟨RX2, "firstTight", "(IIZ)I"⟩
abbrev cX2_findMovable : ByteArray := prog_4_method_16_code
def yX2_findMovable : MethodName := ⟨RX2, "findMovable", "(II)V"⟩
def RX3 : String := "WicketBoard$Tape"
def TX3 : u_T := fun k => match k with
  | 0 => ("WicketBoard$Tape", "bytes", "[B", true)
  | _ => ("WicketBoard$Tape", "length", "I", false)
def tyX3 : Nat → FieldType := fun k => match k with
  | 0 => .array .byte
  | _ => .int
theorem nmX3 : ∀ a, a < 2 → ∀ b, b < 2 → a ≠ b → (TX3 a).2.1 ≠ (TX3 b).2.1 := by decide +kernel
theorem tyX3_ok : ∀ k, k < 2 → parseFieldDescriptor (TX3 k).2.2.1 = some (tyX3 k) := by decide +kernel
abbrev cX3_init : ByteArray := prog_5_method_1_code
def yX3_init : MethodName := ⟨RX3, "<init>", "()V"⟩
abbrev cX3_length : ByteArray := prog_5_method_2_code
def yX3_length : MethodName := ⟨RX3, "length", "()I"⟩
abbrev cX3_hasRoom : ByteArray := prog_5_method_3_code
def yX3_hasRoom : MethodName := ⟨RX3, "hasRoom", "(I)Z"⟩
abbrev cX3_append : ByteArray := prog_5_method_4_code
def yX3_append : MethodName := ⟨RX3, "append", "(I)V"⟩
abbrev cX3_cut : ByteArray := prog_5_method_5_code
def yX3_cut : MethodName := ⟨RX3, "cut", "(I)Z"⟩
abbrev cX3_byteAt : ByteArray := prog_5_method_6_code
def yX3_byteAt : MethodName := ⟨RX3, "byteAt", "(I)I"⟩
abbrev cX3_isBlank : ByteArray := prog_5_method_7_code
def yX3_isBlank : MethodName := ⟨RX3, "isBlank", "(I)Z"⟩
abbrev cX3_isLetter : ByteArray := prog_5_method_8_code
def yX3_isLetter : MethodName := ⟨RX3, "isLetter", "(I)Z"⟩
abbrev cX3_isDigit : ByteArray := prog_5_method_9_code
def yX3_isDigit : MethodName := ⟨RX3, "isDigit", "(I)Z"⟩
def RX4 : String := "WicketBoard$Umpire"
def TX4 : u_T := fun k => match k with
  | 0 => ("WicketBoard$Umpire", "x", "I", true)
  | 1 => ("WicketBoard$Umpire", "y", "I", true)
  | 2 => ("WicketBoard$Umpire", "barred", "I", true)
  | 3 => ("WicketBoard$Umpire", "grade", "I", false)
  | 4 => ("WicketBoard$Umpire", "place", "I", false)
  | 5 => ("WicketBoard$Umpire", "weeksStood", "I", false)
  | 6 => ("WicketBoard$Umpire", "marksGiven", "I", false)
  | 7 => ("WicketBoard$Umpire", "marksTimes", "I", false)
  | 8 => ("WicketBoard$Umpire", "marksSum", "I", false)
  | 9 => ("WicketBoard$Umpire", "awayWeeks", "[Z", true)
  | _ => ("WicketBoard$Umpire", "clubsByWeek", "[I", true)
def tyX4 : Nat → FieldType := fun k => match k with
  | 0 => .int
  | 1 => .int
  | 2 => .int
  | 3 => .int
  | 4 => .int
  | 5 => .int
  | 6 => .int
  | 7 => .int
  | 8 => .int
  | 9 => .array .boolean
  | _ => .array .int
theorem nmX4 : ∀ a, a < 11 → ∀ b, b < 11 → a ≠ b → (TX4 a).2.1 ≠ (TX4 b).2.1 := by decide +kernel
theorem tyX4_ok : ∀ k, k < 11 → parseFieldDescriptor (TX4 k).2.2.1 = some (tyX4 k) := by decide +kernel
abbrev cX4_init : ByteArray := prog_6_method_1_code
def yX4_init : MethodName := ⟨RX4, "<init>", "(IIII)V"⟩
abbrev cX4_isAway : ByteArray := prog_6_method_2_code
def yX4_isAway : MethodName := ⟨RX4, "isAway", "(I)Z"⟩
abbrev cX4_setAway : ByteArray := prog_6_method_3_code
def yX4_setAway : MethodName := ⟨RX4, "setAway", "(IZ)Z"⟩
abbrev cX4_clubsIn : ByteArray := prog_6_method_4_code
def yX4_clubsIn : MethodName := ⟨RX4, "clubsIn", "(I)I"⟩
abbrev cX4_stand : ByteArray := prog_6_method_5_code
def yX4_stand : MethodName := ⟨RX4, "stand", "(II)V"⟩
abbrev cX4_stoodInAll : ByteArray := prog_6_method_6_code
def yX4_stoodInAll : MethodName := ⟨RX4, "stoodInAll", "(II)Z"⟩
abbrev cX4_stoodWith : ByteArray := prog_6_method_7_code
def yX4_stoodWith : MethodName := ⟨RX4, "stoodWith", "(III)Z"⟩
abbrev cX4_addMarks : ByteArray := prog_6_method_8_code
def yX4_addMarks : MethodName := ⟨RX4, "addMarks", "(II)V"⟩
abbrev cX4_giveGrade : ByteArray := prog_6_method_9_code
def yX4_giveGrade : MethodName := ⟨RX4, "giveGrade", "(I)V"⟩
def RX5 : String := "WicketBoard"
def TX5 : u_T := fun k => match k with
  | 0 => ("WicketBoard", "tape", "LWicketBoard$Tape;", true)
  | 1 => ("WicketBoard", "book", "LWicketBoard$RuleBook;", true)
  | 2 => ("WicketBoard", "umpires", "[LWicketBoard$Umpire;", true)
  | 3 => ("WicketBoard", "games", "[LWicketBoard$Game;", true)
  | 4 => ("WicketBoard", "holders", "[I", true)
  | 5 => ("WicketBoard", "sender", "LWicketBoard$Sender;", true)
  | 6 => ("WicketBoard", "umpireCount", "I", false)
  | 7 => ("WicketBoard", "gameCount", "I", false)
  | 8 => ("WicketBoard", "week", "I", false)
  | _ => ("WicketBoard", "given", "I", false)
def tyX5 : Nat → FieldType := fun k => match k with
  | 0 => .object "WicketBoard$Tape"
  | 1 => .object "WicketBoard$RuleBook"
  | 2 => .array (.object "WicketBoard$Umpire")
  | 3 => .array (.object "WicketBoard$Game")
  | 4 => .array .int
  | 5 => .object "WicketBoard$Sender"
  | 6 => .int
  | 7 => .int
  | 8 => .int
  | _ => .int
theorem nmX5 : ∀ a, a < 10 → ∀ b, b < 10 → a ≠ b → (TX5 a).2.1 ≠ (TX5 b).2.1 := by decide +kernel
theorem tyX5_ok : ∀ k, k < 10 → parseFieldDescriptor (TX5 k).2.2.1 = some (tyX5 k) := by decide +kernel
abbrev cX5_init : ByteArray := prog_1_method_1_code
def yX5_init : MethodName := ⟨RX5, "<init>", "()V"⟩
abbrev cX5_feed : ByteArray := prog_1_method_2_code
def yX5_feed : MethodName := ⟨RX5, "feed", "(IIIII)I"⟩
abbrev cX5_end : ByteArray := prog_1_method_3_code
def yX5_end : MethodName := ⟨RX5, "end", "(I)Z"⟩
abbrev cX5_rules : ByteArray := prog_1_method_4_code
def yX5_rules : MethodName := ⟨RX5, "rules", "()I"⟩
abbrev cX5_fault : ByteArray := prog_1_method_5_code
def yX5_fault : MethodName := ⟨RX5, "fault", "()I"⟩
abbrev cX5_rule : ByteArray := prog_1_method_6_code
def yX5_rule : MethodName := ⟨RX5, "rule", "(I)I"⟩
abbrev cX5_umpire : ByteArray := prog_1_method_7_code
def yX5_umpire : MethodName := ⟨RX5, "umpire", "(IIII)I"⟩
abbrev cX5_away : ByteArray := prog_1_method_8_code
def yX5_away : MethodName := ⟨RX5, "away", "(IIZ)Z"⟩
abbrev cX5_game : ByteArray := prog_1_method_9_code
def yX5_game : MethodName := ⟨RX5, "game", "(IIIII)I"⟩
abbrev cX5_may : ByteArray := prog_1_method_10_code
def yX5_may : MethodName := ⟨RX5, "may", "(II)Z"⟩
abbrev cX5_cost : ByteArray := prog_1_method_11_code
def yX5_cost : MethodName := ⟨RX5, "cost", "(II)I"⟩
abbrev cX5_send : ByteArray := prog_1_method_12_code
def yX5_send : MethodName := ⟨RX5, "send", "()I"⟩
abbrev cX5_off : ByteArray := prog_1_method_13_code
def yX5_off : MethodName := ⟨RX5, "off", "(I)I"⟩
abbrev cX5_seat : ByteArray := prog_1_method_14_code
def yX5_seat : MethodName := ⟨RX5, "seat", "(I)I"⟩
abbrev cX5_mark : ByteArray := prog_1_method_15_code
def yX5_mark : MethodName := ⟨RX5, "mark", "(IIIZ)Z"⟩
abbrev cX5_next : ByteArray := prog_1_method_16_code
def yX5_next : MethodName := ⟨RX5, "next", "()I"⟩
abbrev cX5_about : ByteArray := prog_1_method_17_code
def yX5_about : MethodName := ⟨RX5, "about", "(II)I"⟩
abbrev cX5_stood : ByteArray := prog_1_method_18_code
def yX5_stood : MethodName := ⟨RX5, "stood", "(II)I"⟩
abbrev cX5_together : ByteArray := prog_1_method_19_code
def yX5_together : MethodName := ⟨RX5, "together", "()I"⟩
abbrev cX5_count : ByteArray := prog_1_method_20_code
def yX5_count : MethodName := ⟨RX5, "count", "(I)I"⟩
abbrev cX5_isPlace : ByteArray := prog_1_method_21_code
def yX5_isPlace : MethodName := ⟨RX5, "isPlace", "(II)Z"⟩
abbrev cX5_isGrade : ByteArray := prog_1_method_22_code
def yX5_isGrade : MethodName := ⟨RX5, "isGrade", "(I)Z"⟩
abbrev cX5_isClub : ByteArray := prog_1_method_23_code
def yX5_isClub : MethodName := ⟨RX5, "isClub", "(I)Z"⟩
abbrev cX5_isSeat : ByteArray := prog_1_method_24_code
def yX5_isSeat : MethodName := ⟨RX5, "isSeat", "(I)Z"⟩
abbrev cX5_umpireAt : ByteArray := prog_1_method_25_code
def yX5_umpireAt : MethodName := ⟨RX5, "umpireAt", "(I)LWicketBoard$Umpire;"⟩
abbrev cX5_holderOf : ByteArray := prog_1_method_26_code
def yX5_holderOf : MethodName := ⟨RX5, "holderOf", "(I)LWicketBoard$Umpire;"⟩
abbrev cX5_gameOf : ByteArray := prog_1_method_27_code
def yX5_gameOf : MethodName := ⟨RX5, "gameOf", "(I)LWicketBoard$Game;"⟩
abbrev cX5_fits : ByteArray := prog_1_method_28_code
def yX5_fits : MethodName := ⟨RX5, "fits", "(LWicketBoard$Umpire;I)Z"⟩
abbrev cX5_price : ByteArray := prog_1_method_29_code
def yX5_price : MethodName := ⟨RX5, "price", "(LWicketBoard$Umpire;I)I"⟩
abbrev cX5_filledSeats : ByteArray := prog_1_method_30_code
def yX5_filledSeats : MethodName := ⟨RX5, "filledSeats", "()I"⟩
abbrev cX5_clearSeat : ByteArray := prog_1_method_31_code
def yX5_clearSeat : MethodName := ⟨RX5, "clearSeat", "(I)V"⟩
abbrev cX5_fillSeat : ByteArray := prog_1_method_32_code
def yX5_fillSeat : MethodName := ⟨RX5, "fillSeat", "(II)V"⟩
abbrev cX5_cheapestFree : ByteArray := prog_1_method_33_code
def yX5_cheapestFree : MethodName := ⟨RX5, "cheapestFree", "(I)I"⟩
abbrev cX5_fillByMove : ByteArray := prog_1_method_34_code
def yX5_fillByMove : MethodName := ⟨RX5, "fillByMove", "(I)Z"⟩
abbrev cX5_endSeat : ByteArray := prog_1_method_35_code
def yX5_endSeat : MethodName := ⟨RX5, "endSeat", "(I)V"⟩
abbrev cX5_regrade : ByteArray := prog_1_method_36_code
def yX5_regrade : MethodName := ⟨RX5, "regrade", "(LWicketBoard$Umpire;)V"⟩
def RX6 : String := "WicketBoardModel"
def TX6 : u_T := fun k => match k with
  | 0 => ("WicketBoardModel", "thrown", "I", false)
  | 1 => ("WicketBoardModel", "tape", "[I", true)
  | 2 => ("WicketBoardModel", "taped", "I", false)
  | 3 => ("WicketBoardModel", "rule", "[I", true)
  | 4 => ("WicketBoardModel", "usual", "[I", true)
  | 5 => ("WicketBoardModel", "low", "[I", true)
  | 6 => ("WicketBoardModel", "high", "[I", true)
  | 7 => ("WicketBoardModel", "fresh", "[I", true)
  | 8 => ("WicketBoardModel", "size", "I", false)
  | 9 => ("WicketBoardModel", "to", "I", false)
  | 10 => ("WicketBoardModel", "from", "I", false)
  | 11 => ("WicketBoardModel", "kind", "I", false)
  | 12 => ("WicketBoardModel", "number", "I", false)
  | 13 => ("WicketBoardModel", "fault", "I", false)
  | 14 => ("WicketBoardModel", "place", "I", false)
  | 15 => ("WicketBoardModel", "told", "I", false)
  | 16 => ("WicketBoardModel", "word", "J", false)
  | 17 => ("WicketBoardModel", "homeX", "[I", true)
  | 18 => ("WicketBoardModel", "homeY", "[I", true)
  | 19 => ("WicketBoardModel", "grade", "[I", true)
  | 20 => ("WicketBoardModel", "barred", "[I", true)
  | 21 => ("WicketBoardModel", "marks", "[I", true)
  | 22 => ("WicketBoardModel", "times", "[I", true)
  | 23 => ("WicketBoardModel", "points", "[I", true)
  | 24 => ("WicketBoardModel", "weeksStood", "[I", true)
  | 25 => ("WicketBoardModel", "stood", "[I", true)
  | 26 => ("WicketBoardModel", "gone", "[Z", true)
  | 27 => ("WicketBoardModel", "gameX", "[I", true)
  | 28 => ("WicketBoardModel", "gameY", "[I", true)
  | 29 => ("WicketBoardModel", "clubs", "[I", true)
  | 30 => ("WicketBoardModel", "level", "[I", true)
  | 31 => ("WicketBoardModel", "who", "[I", true)
  | 32 => ("WicketBoardModel", "marked", "[I", true)
  | 33 => ("WicketBoardModel", "umpires", "I", false)
  | 34 => ("WicketBoardModel", "games", "I", false)
  | 35 => ("WicketBoardModel", "week", "I", false)
  | 36 => ("WicketBoardModel", "marksNow", "I", false)
  | 37 => ("WicketBoardModel", "comes", "[I", true)
  | 38 => ("WicketBoardModel", "takes", "[I", true)
  | 39 => ("WicketBoardModel", "cell", "[I", true)
  | 40 => ("WicketBoardModel", "holder", "[I", true)
  | 41 => ("WicketBoardModel", "fixed", "[Z", true)
  | 42 => ("WicketBoardModel", "way", "[I", true)
  | 43 => ("WicketBoardModel", "whence", "[I", true)
  | 44 => ("WicketBoardModel", "mover", "[I", true)
  | _ => ("WicketBoardModel", "changed", "Z", false)
def tyX6 : Nat → FieldType := fun k => match k with
  | 0 => .int
  | 1 => .array .int
  | 2 => .int
  | 3 => .array .int
  | 4 => .array .int
  | 5 => .array .int
  | 6 => .array .int
  | 7 => .array .int
  | 8 => .int
  | 9 => .int
  | 10 => .int
  | 11 => .int
  | 12 => .int
  | 13 => .int
  | 14 => .int
  | 15 => .int
  | 16 => .long
  | 17 => .array .int
  | 18 => .array .int
  | 19 => .array .int
  | 20 => .array .int
  | 21 => .array .int
  | 22 => .array .int
  | 23 => .array .int
  | 24 => .array .int
  | 25 => .array .int
  | 26 => .array .boolean
  | 27 => .array .int
  | 28 => .array .int
  | 29 => .array .int
  | 30 => .array .int
  | 31 => .array .int
  | 32 => .array .int
  | 33 => .int
  | 34 => .int
  | 35 => .int
  | 36 => .int
  | 37 => .array .int
  | 38 => .array .int
  | 39 => .array .int
  | 40 => .array .int
  | 41 => .array .boolean
  | 42 => .array .int
  | 43 => .array .int
  | 44 => .array .int
  | _ => .boolean
theorem nmX6 : ∀ a, a < 46 → ∀ b, b < 46 → a ≠ b → (TX6 a).2.1 ≠ (TX6 b).2.1 := by decide +kernel
theorem tyX6_ok : ∀ k, k < 46 → parseFieldDescriptor (TX6 k).2.2.1 = some (tyX6 k) := by decide +kernel
abbrev cX6_init : ByteArray := prog_8_method_1_code
def yX6_init : MethodName := ⟨RX6, "<init>", "()V"⟩
abbrev cX6_thrown : ByteArray := prog_8_method_2_code
def yX6_thrown : MethodName := ⟨RX6, "thrown", "()I"⟩
abbrev cX6_refuse : ByteArray := prog_8_method_3_code
def yX6_refuse : MethodName := ⟨RX6, "refuse", "()I"⟩
abbrev cX6_come : ByteArray := prog_8_method_4_code
def yX6_come : MethodName := ⟨RX6, "come", "(I)V"⟩
abbrev cX6_feed : ByteArray := prog_8_method_5_code
def yX6_feed : MethodName := ⟨RX6, "feed", "(IIIII)I"⟩
abbrev cX6_end : ByteArray := prog_8_method_6_code
def yX6_end : MethodName := ⟨RX6, "end", "(I)Z"⟩
abbrev cX6_byteAt : ByteArray := prog_8_method_7_code
def yX6_byteAt : MethodName := ⟨RX6, "byteAt", "(I)I"⟩
abbrev cX6_isDigit : ByteArray := prog_8_method_8_code
def yX6_isDigit : MethodName := ⟨RX6, "isDigit", "(I)Z"⟩
abbrev cX6_isLetter : ByteArray := prog_8_method_9_code
def yX6_isLetter : MethodName := ⟨RX6, "isLetter", "(I)Z"⟩
abbrev cX6_go : ByteArray := prog_8_method_10_code
def yX6_go : MethodName := ⟨RX6, "go", "()V"⟩
abbrev cX6_spelt : ByteArray := prog_8_method_11_code
def yX6_spelt : MethodName := ⟨RX6, "spelt", "(IIII)J"⟩
abbrev cX6_isKey : ByteArray := prog_8_method_12_code
def yX6_isKey : MethodName := ⟨RX6, "isKey", "(J)Z"⟩
abbrev cX6_ruleAtHand : ByteArray := prog_8_method_13_code
def yX6_ruleAtHand : MethodName := ⟨RX6, "ruleAtHand", "()I"⟩
abbrev cX6_bad : ByteArray := prog_8_method_14_code
def yX6_bad : MethodName := ⟨RX6, "bad", "(I)Z"⟩
abbrev cX6_readRule : ByteArray := prog_8_method_15_code
def yX6_readRule : MethodName := ⟨RX6, "readRule", "()Z"⟩
abbrev cX6_rules : ByteArray := prog_8_method_16_code
def yX6_rules : MethodName := ⟨RX6, "rules", "()I"⟩
abbrev cX6_fault : ByteArray := prog_8_method_17_code
def yX6_fault : MethodName := ⟨RX6, "fault", "()I"⟩
abbrev cX6_rule : ByteArray := prog_8_method_18_code
def yX6_rule : MethodName := ⟨RX6, "rule", "(I)I"⟩
abbrev cX6_isIn : ByteArray := prog_8_method_19_code
def yX6_isIn : MethodName := ⟨RX6, "isIn", "(III)Z"⟩
abbrev cX6_isUmpire : ByteArray := prog_8_method_20_code
def yX6_isUmpire : MethodName := ⟨RX6, "isUmpire", "(I)Z"⟩
abbrev cX6_isSeat : ByteArray := prog_8_method_21_code
def yX6_isSeat : MethodName := ⟨RX6, "isSeat", "(I)Z"⟩
abbrev cX6_umpire : ByteArray := prog_8_method_22_code
def yX6_umpire : MethodName := ⟨RX6, "umpire", "(IIII)I"⟩
abbrev cX6_seatOf : ByteArray := prog_8_method_23_code
def yX6_seatOf : MethodName := ⟨RX6, "seatOf", "(I)I"⟩
abbrev cX6_away : ByteArray := prog_8_method_24_code
def yX6_away : MethodName := ⟨RX6, "away", "(IIZ)Z"⟩
abbrev cX6_game : ByteArray := prog_8_method_25_code
def yX6_game : MethodName := ⟨RX6, "game", "(IIIII)I"⟩
abbrev cX6_less : ByteArray := prog_8_method_26_code
def yX6_less : MethodName := ⟨RX6, "less", "(II)I"⟩
abbrev cX6_miles : ByteArray := prog_8_method_27_code
def yX6_miles : MethodName := ⟨RX6, "miles", "(II)I"⟩
abbrev cX6_mayHave : ByteArray := prog_8_method_28_code
def yX6_mayHave : MethodName := ⟨RX6, "mayHave", "(II)Z"⟩
abbrev cX6_costOf : ByteArray := prog_8_method_29_code
def yX6_costOf : MethodName := ⟨RX6, "costOf", "(II)I"⟩
abbrev cX6_may : ByteArray := prog_8_method_30_code
def yX6_may : MethodName := ⟨RX6, "may", "(II)Z"⟩
abbrev cX6_cost : ByteArray := prog_8_method_31_code
def yX6_cost : MethodName := ⟨RX6, "cost", "(II)I"⟩
abbrev cX6_pays : ByteArray := prog_8_method_32_code
def yX6_pays : MethodName := ⟨RX6, "pays", "(I)I"⟩
abbrev cX6_seek : ByteArray := prog_8_method_33_code
def yX6_seek : MethodName := ⟨RX6, "seek", "(I)V"⟩
abbrev cX6_change : ByteArray := prog_8_method_34_code
def yX6_change : MethodName := ⟨RX6, "change", "(I)V"⟩
abbrev cX6_settle : ByteArray := prog_8_method_35_code
def yX6_settle : MethodName := ⟨RX6, "settle", "()V"⟩
abbrev cX6_offer : ByteArray := prog_8_method_36_code
def yX6_offer : MethodName := ⟨RX6, "offer", "(IIII)V"⟩
abbrev cX6_placeOf : ByteArray := prog_8_method_37_code
def yX6_placeOf : MethodName := ⟨RX6, "placeOf", "(I)I"⟩
abbrev cX6_ways : ByteArray := prog_8_method_38_code
def yX6_ways : MethodName := ⟨RX6, "ways", "(III)V"⟩
abbrev cX6_moves : ByteArray := prog_8_method_39_code
def yX6_moves : MethodName := ⟨RX6, "moves", "(I)V"⟩
abbrev cX6_lessen : ByteArray := prog_8_method_40_code
def yX6_lessen : MethodName := ⟨RX6, "lessen", "(II)V"⟩
abbrev cX6_send : ByteArray := prog_8_method_41_code
def yX6_send : MethodName := ⟨RX6, "send", "()I"⟩
abbrev cX6_filled : ByteArray := prog_8_method_42_code
def yX6_filled : MethodName := ⟨RX6, "filled", "()I"⟩
abbrev cX6_off : ByteArray := prog_8_method_43_code
def yX6_off : MethodName := ⟨RX6, "off", "(I)I"⟩
abbrev cX6_spare : ByteArray := prog_8_method_44_code
def yX6_spare : MethodName := ⟨RX6, "spare", "(I)I"⟩
abbrev cX6_seat : ByteArray := prog_8_method_45_code
def yX6_seat : MethodName := ⟨RX6, "seat", "(I)I"⟩
abbrev cX6_mark : ByteArray := prog_8_method_46_code
def yX6_mark : MethodName := ⟨RX6, "mark", "(IIIZ)Z"⟩
abbrev cX6_next : ByteArray := prog_8_method_47_code
def yX6_next : MethodName := ⟨RX6, "next", "()I"⟩
abbrev cX6_about : ByteArray := prog_8_method_48_code
def yX6_about : MethodName := ⟨RX6, "about", "(II)I"⟩
abbrev cX6_stood : ByteArray := prog_8_method_49_code
def yX6_stood : MethodName := ⟨RX6, "stood", "(II)I"⟩
abbrev cX6_together : ByteArray := prog_8_method_50_code
def yX6_together : MethodName := ⟨RX6, "together", "()I"⟩
abbrev cX6_count : ByteArray := prog_8_method_51_code
def yX6_count : MethodName := ⟨RX6, "count", "(I)I"⟩
def RJ6 : String := "java/lang/Integer"
def TJ6 : u_T := fun k => match k with
  | _ => ("", "", "", false)
def tyJ6 : Nat → FieldType := fun k => match k with
  | _ => .int
theorem nmJ6 : ∀ a, a < 0 → ∀ b, b < 0 → a ≠ b → (TJ6 a).2.1 ≠ (TJ6 b).2.1 := by decide +kernel
theorem tyJ6_ok : ∀ k, k < 0 → parseFieldDescriptor (TJ6 k).2.2.1 = some (tyJ6 k) := by decide +kernel
abbrev cJ6_bitCount_0f7a4 : ByteArray := prog_10_method_49_code
def yJ6_bitCount_0f7a4 : MethodName := ⟨RJ6, "bitCount", "(I)I"⟩
def RJ9 : String := "java/lang/Math"
def TJ9 : u_T := fun k => match k with
  | _ => ("", "", "", false)
def tyJ9 : Nat → FieldType := fun k => match k with
  | _ => .int
theorem nmJ9 : ∀ a, a < 0 → ∀ b, b < 0 → a ≠ b → (TJ9 a).2.1 ≠ (TJ9 b).2.1 := by decide +kernel
theorem tyJ9_ok : ∀ k, k < 0 → parseFieldDescriptor (TJ9 k).2.2.1 = some (tyJ9 k) := by decide +kernel
abbrev cJ9_abs_0f7a4 : ByteArray := prog_11_method_59_code
def yJ9_abs_0f7a4 : MethodName := ⟨RJ9, "abs", "(I)I"⟩
abbrev cJ9_max_7cf53 : ByteArray := prog_11_method_65_code
def yJ9_max_7cf53 : MethodName := ⟨RJ9, "max", "(II)I"⟩
abbrev cJ9_min_7cf53 : ByteArray := prog_11_method_69_code
def yJ9_min_7cf53 : MethodName := ⟨RJ9, "min", "(II)I"⟩
def RJ0 : String := "java/lang/String"
def TJ0 : u_T := fun k => match k with
  | _ => ("", "", "", false)
def tyJ0 : Nat → FieldType := fun k => match k with
  | _ => .int
theorem nmJ0 : ∀ a, a < 0 → ∀ b, b < 0 → a ≠ b → (TJ0 a).2.1 ≠ (TJ0 b).2.1 := by decide +kernel
theorem tyJ0_ok : ∀ k, k < 0 → parseFieldDescriptor (TJ0 k).2.2.1 = some (tyJ0 k) := by decide +kernel
abbrev cJ0_length_8abf5 : ByteArray := prog_13_method_54_code
def yJ0_length_8abf5 : MethodName := ⟨RJ0, "length", "()I"⟩
abbrev cJ0_charAt_5068e : ByteArray := prog_13_method_56_code
def yJ0_charAt_5068e : MethodName := ⟨RJ0, "charAt", "(I)C"⟩
abbrev cJ0_coder_7d493 : ByteArray := prog_13_method_152_code
def yJ0_coder_7d493 : MethodName := ⟨RJ0, "coder", "()B"⟩
abbrev cJ0_isLatin1_aae02 : ByteArray := prog_13_method_154_code
def yJ0_isLatin1_aae02 : MethodName := ⟨RJ0, "isLatin1", "()Z"⟩
abbrev cJ0_checkIndex_df160 : ByteArray := prog_13_method_155_code
def yJ0_checkIndex_df160 : MethodName := ⟨RJ0, "checkIndex", "(II)V"⟩
def RJ1 : String := "java/lang/StringLatin1"
def TJ1 : u_T := fun k => match k with
  | _ => ("", "", "", false)
def tyJ1 : Nat → FieldType := fun k => match k with
  | _ => .int
theorem nmJ1 : ∀ a, a < 0 → ∀ b, b < 0 → a ≠ b → (TJ1 a).2.1 ≠ (TJ1 b).2.1 := by decide +kernel
theorem tyJ1_ok : ∀ k, k < 0 → parseFieldDescriptor (TJ1 k).2.2.1 = some (tyJ1 k) := by decide +kernel
abbrev cJ1_charAt_3b067 : ByteArray := prog_14_method_2_code
def yJ1_charAt_3b067 : MethodName := ⟨RJ1, "charAt", "([BI)C"⟩
def RJ2 : String := "java/lang/StringUTF16"
def TJ2 : u_T := fun k => match k with
  | _ => ("", "", "", false)
def tyJ2 : Nat → FieldType := fun k => match k with
  | _ => .int
theorem nmJ2 : ∀ a, a < 0 → ∀ b, b < 0 → a ≠ b → (TJ2 a).2.1 ≠ (TJ2 b).2.1 := by decide +kernel
theorem tyJ2_ok : ∀ k, k < 0 → parseFieldDescriptor (TJ2 k).2.2.1 = some (tyJ2 k) := by decide +kernel
abbrev cJ2_getChar_3b067 : ByteArray := prog_15_method_5_code
def yJ2_getChar_3b067 : MethodName := ⟨RJ2, "getChar", "([BI)C"⟩
abbrev cJ2_length_9d52b : ByteArray := prog_15_method_6_code
def yJ2_length_9d52b : MethodName := ⟨RJ2, "length", "([B)I"⟩
abbrev cJ2_charAt_3b067 : ByteArray := prog_15_method_83_code
def yJ2_charAt_3b067 : MethodName := ⟨RJ2, "charAt", "([BI)C"⟩
abbrev cJ2_checkIndex_2214a : ByteArray := prog_15_method_91_code
def yJ2_checkIndex_2214a : MethodName := ⟨RJ2, "checkIndex", "(I[B)V"⟩
def RJ10 : String := "java/lang/System"
def TJ10 : u_T := fun k => match k with
  | _ => ("", "", "", false)
def tyJ10 : Nat → FieldType := fun k => match k with
  | _ => .int
theorem nmJ10 : ∀ a, a < 0 → ∀ b, b < 0 → a ≠ b → (TJ10 a).2.1 ≠ (TJ10 b).2.1 := by decide +kernel
theorem tyJ10_ok : ∀ k, k < 0 → parseFieldDescriptor (TJ10 k).2.2.1 = some (tyJ10 k) := by decide +kernel
def RJ3 : String := "jdk/internal/util/Preconditions"
def TJ3 : u_T := fun k => match k with
  | _ => ("", "", "", false)
def tyJ3 : Nat → FieldType := fun k => match k with
  | _ => .int
theorem nmJ3 : ∀ a, a < 0 → ∀ b, b < 0 → a ≠ b → (TJ3 a).2.1 ≠ (TJ3 b).2.1 := by decide +kernel
theorem tyJ3_ok : ∀ k, k < 0 → parseFieldDescriptor (TJ3 k).2.2.1 = some (tyJ3 k) := by decide +kernel
abbrev cJ3_checkIndex_8e157 : ByteArray := prog_19_method_11_code
def yJ3_checkIndex_8e157 : MethodName := ⟨RJ3, "checkIndex", "(IILjava/util/function/BiFunction;)I"⟩
def RL : String := "WicketBoardLaw"
abbrev cL_about : ByteArray := method_3_code
def yL_about : MethodName := ⟨RL, "about", "(LWicketBoard;II[J)I"⟩
abbrev cL_law : ByteArray := code
def yL_law : MethodName := ⟨RL, "law", "([I)Z"⟩
end
section
def lw_good : List Cond := lw_tbl.filter goodWord
theorem lw_good_in : GoodIn lw_good lw_good := fun w h => ⟨h, good_of_word (List.mem_filter.mp h).2⟩
/-! THE A-LOGIC: cells are named by their place in the world; numbers are Int -/
abbrev classes : List vw_C := [(RX0, TX0, 4), (RX1, TX1, 7), (RX2, TX2, 12), (RX3, TX3, 2), (RX4, TX4, 11), (RX5, TX5, 10), (RX6, TX6, 46)]
abbrev AV : Type := (Option Nat) ⊕ (Int ⊕ (Int ⊕ Nat))
abbrev ar (r : Option Nat) : AV := .inl r
abbrev ai (x : Int) : AV := .inr (.inl x)
abbrev al (x : Int) : AV := .inr (.inr (.inl x))
abbrev ax (e : Nat) : AV := .inr (.inr (.inr e))
def tr (ad ea : Nat → Nat) : AV → Value
  | .inl none => .null
  | .inl (some k) => .ref (ad k)
  | .inr (.inl x) => .int (Int32.ofInt x)
  | .inr (.inr (.inl y)) => .long (Int64.ofInt y)
  | .inr (.inr (.inr e)) => .ref (ea e)
abbrev VV : Type := Nat → Int → Int
abbrev AS : Type := Nat × (Nat → Nat × Nat) × (Nat → Int → Option Nat)
def kd : FieldType → Nat
  | .int => 0
  | .byte => 1
  | .boolean => 2
  | .long => 5
  | _ => 3
def tyof (ci : Nat) : Nat → FieldType := match ci with
  | 0 => tyX0
  | 1 => tyX1
  | 2 => tyX2
  | 3 => tyX3
  | 4 => tyX4
  | 5 => tyX5
  | _ => tyX6
def fk (ci j : Nat) : Nat := kd (tyof ci j)
def nf (ci : Nat) : Nat := match ci with
  | 0 => 4
  | 1 => 7
  | 2 => 12
  | 3 => 2
  | 4 => 11
  | 5 => 10
  | _ => 46
def ek (t : Nat) : Nat := match t with
  | 0 => 0
  | 1 => 1
  | 2 => 2
  | 5 => 5
  | _ => 3
abbrev tyl (T : Nat → ClassId) : List (ClassId × FieldType) := [(T 0, .int), (T 1, .byte), (T 2, .boolean), (T 3, .object "WicketBoard$Umpire"), (T 4, .object "WicketBoard$Game"), (T 5, .long)]
def vlk (kind : Nat) (ad : Nat → Nat) (r : Option Nat) (x : Int) : Value := match kind with
  | 3 => va_rf (r.map ad)
  | 5 => .long (Int64.ofInt x)
  | _ => .int (Int32.ofInt x)
def flds (ad : Nat → Nat) (ci : Nat) (rk : Int → Option Nat) (vk : Int → Int) : List Value := (List.range (nf ci)).map fun (j : Nat) => vlk (fk ci j) ad (rk (j : Int)) (vk (j : Int))
def arrc (ad : Nat → Nat) (t len : Nat) (rk : Int → Option Nat) (vk : Int → Int) : vp_A := match ek t with
  | 3 => (len, .inr (.inr (.inr (.inr fun (j : Nat) => (rk (j : Int)).map ad))))
  | 5 => (len, .inr (.inl fun (j : Nat) => Int64.ofInt (vk (j : Int))))
  | _ => (len, .inl fun (j : Nat) => Int32.ofInt (vk (j : Int)))
def cellE (T : Nat → ClassId) (ad : Nat → Nat) (sh : Nat × Nat) (rk : Int → Option Nat) (vk : Int → Int) : va_E :=
  if sh.1 < 16 then .inl (T sh.1, arrc ad sh.1 sh.2 rk vk) else .inr (sh.1 - 16, flds ad (sh.1 - 16) rk vk)
def wl (T : Nat → ClassId) (ad : Nat → Nat) (S : AS) (v : VV) : va_W := (List.range S.1).map fun k => (ad k, cellE T ad (S.2.1 k) (S.2.2 k) (v k))
def iR (x : Int) : Prop := -2147483648 ≤ x ∧ x < 2147483648
def lR (x : Int) : Prop := -9223372036854775808 ≤ x ∧ x < 9223372036854775808
def kr (kind : Nat) (x : Int) : Prop := match kind with
  | 0 => iR x
  | 1 => -128 ≤ x ∧ x < 128
  | 2 => x = 0 ∨ x = 1
  | 5 => lR x
  | _ => True
def skd (sh : Nat × Nat) (j : Int) : Nat := if sh.1 < 16 then ek sh.1 else fk (sh.1 - 16) j.toNat
def RV (S : AS) (v : VV) : Prop := ∀ k, k < S.1 → ∀ j : Int, kr (skd (S.2.1 k) j) (v k j)
def WR (S : AS) : Prop := ∀ k, k < S.1 → ∀ (j : Int) (r : Nat), S.2.2 k j = some r → r < S.1
def RA (n : Nat) : AV → Prop
  | .inl none => True
  | .inl (some k) => k < n
  | .inr (.inl x) => iR x
  | .inr (.inr (.inl y)) => lR y
  | .inr (.inr (.inr _)) => True
abbrev LL : Type := List (Option AV)
def RAs (n : Nat) (st : List AV) : Prop := ∀ a ∈ st, RA n a
def RAl (n : Nat) (ls : LL) : Prop := ∀ (i : Nat) (a : AV), ls[i]? = some (some a) → RA n a
def LR (ad ea : Nat → Nat) (nL : Nat) (lsC : Array Slot) (ls : LL) : Prop := lsC.size = nL ∧ lv_wf lsC ∧ ∀ (i : Nat) (a : AV), ls[i]? = some (some a) → lsC[i]? = some (.val (tr ad ea a))
abbrev MU : Type := MethodName × ByteArray × Option FieldType × Nat × Nat × Nat × Nat × Option (Nat × (Nat → Int32))
def rmd (d mc ms : Nat) : Room := { frames := d, cells := mc, slots := ms, locals := 37 * d + 11 }
-- what lies outside the world and is only read: 0 the script; 1, 2, 3 RuleBook's tables
def xUs : List Int := [3, 1, 60, 5, 2, 1, 80, 30, 4]
def xLe : List Int := [1, 0, 0, 0, 0, 0, 1, 0, 1]
def xMo : List Int := [9, 9, 200, 50, 9, 9, 101, 100, 20]
def EXS (sc : Option (Nat × (Nat → Int32))) (ea : Nat → Nat) (A : Nat → Prop) (U : State) : Prop := match sc with
  | none => True
  | some q => va_X (ea 0) q.1 q.2 U U.heap ∧ ¬ A (ea 0)
def EXt (n : String) (t : Nat) (xs : List Int) (A : Nat → Prop) (U : State) : Prop := va_Z RX1 n "[I" (.ref t) A U U.heap ∧ va_T .int t 9 (fun j => .int (Int32.ofInt (xs.getD j 0))) A U U.heap
def EXA (ea : Nat → Nat) (A : Nat → Prop) (U : State) : Prop := EXt "USUAL" (ea 1) xUs A U ∧ EXt "LEAST" (ea 2) xLe A U ∧ EXt "MOST" (ea 3) xMo A U
def EXT (sc : Option (Nat × (Nat → Int32))) (ea : Nat → Nat) (A : Nat → Prop) (U : State) : Prop := EXA ea A U ∧ EXS sc ea A U
theorem EXt.to {n : String} {t : Nat} {xs : List Int} {A A2 : Nat → Prop} {s U : State} (h : EXt n t xs A s) (hvm : s.vm.Alike U.vm) (hq : ∀ q : Nat, q < s.heap.size → ¬ A q → U.heap[q]? = s.heap[q]?) (hAA : ∀ q, A2 q → A q) : EXt n t xs A2 U :=
  ⟨((h.1.kept hq).moved hvm).narrow hAA, ((h.2.kept hq).moved hvm).narrow hAA⟩
theorem EXA.to {ea : Nat → Nat} {A A2 : Nat → Prop} {s U : State} (h : EXA ea A s) (hvm : s.vm.Alike U.vm) (hq : ∀ q : Nat, q < s.heap.size → ¬ A q → U.heap[q]? = s.heap[q]?) (hAA : ∀ q, A2 q → A q) : EXA ea A2 U :=
  ⟨h.1.to hvm hq hAA, h.2.1.to hvm hq hAA, h.2.2.to hvm hq hAA⟩
/-- the end of a method -/
def QQ (D : va_G) (T : Nat → ClassId) (ea : Nat → Nat) (A : Nat → Prop) (ad0 : Nat → Nat) (n0 : Nat) (Φ : Option AV → AS → VV → Prop) : Array Value → State → Outcome → State → Prop := fun _ st oc t =>
  (∃ (r : Option AV) (S : AS) (v : VV) (ad : Nat → Nat), oc = .returned (r.map (tr ad ea)) ∧ Φ r S v ∧ n0 ≤ S.1 ∧ (∀ k, k < n0 → ad k = ad0 k) ∧ (∀ a, r = some a → RA S.1 a) ∧ WR S ∧ RV S v ∧ va_P D classes (wl T ad S v) t.heap ∧ va_K D classes (tyl T) t ∧ va_D A (wl T ad S v)) ∧ va_F A st t
/-- a contract -/
def Ct (l : Launch) (y : MethodName) (cc : ByteArray) (ret : Option FieldType) (maxL d mc ms : Nat) (as : List AV) (S : AS) (v : VV) (Φ : Option AV → AS → VV → Prop) : Prop :=
  RAs S.1 as → WR S → RV S v → ∀ (D : va_G) (T : Nat → ClassId) (ea ad : Nat → Nat) (sz : Nat),
    Met l y (Cond.code y cc maxL ret :: lw_good) (rmd d mc ms) (va_Pc (as.map (tr ad ea)) (fun U => U.heap.size = sz ∧ va_P D classes (wl T ad S v) U.heap ∧ va_K D classes (tyl T) U ∧ va_D (fun _ => True) (wl T ad S v) ∧ EXA ea (va_A (wl T ad S v) sz) U)) (QQ D T ea (va_A (wl T ad S v) sz) ad S.1 Φ) mc ms (va_A (wl T ad S v) sz)
/-- the machine's side of a method at work -/
def Cx (l : Launch) (μ : MU) (p : Program) (s : State) (m : MethodId) (args : Array Value) (meth : Method) (c : Code) (D : va_G) (T : Nat → ClassId) (ea : Nat → Nat) (A : Nat → Prop) : Prop :=
  p.tables.exec = Jvm.exec ∧ c.code = μ.2.1 ∧ c.maxLocals = μ.2.2.2.1 ∧ meth.sig.returnType = μ.2.2.1 ∧ meth.locks = false ∧ meth.name = μ.1.name ∧ s.vm.findClass μ.1.cls = some m.cls ∧ (∀ w ∈ lw_good, w.before args s = true) ∧ va_K D classes (tyl T) s ∧ EXT μ.2.2.2.2.2.2.2 ea A s ∧ ∀ q : Nat, s.heap.size ≤ q → A q
def Sx (μ : MU) (s : State) (D : va_G) (T : Nat → ClassId) (ea : Nat → Nat) (A : Nat → Prop) (ad0 : Nat → Nat) (n0 : Nat) (S : AS) (ls : LL) (st : List AV) (v : VV) (H : Heap) (locs : List Loc) (ad : Nat → Nat) (lsC : Array Slot) : Prop :=
  (n0 ≤ S.1 ∧ ∀ k, k < n0 → ad k = ad0 k) ∧ WR S ∧ RV S v ∧ RAs S.1 st ∧ RAl S.1 ls ∧ va_P D classes (wl T ad S v) H ∧ va_D A (wl T ad S v) ∧ va_S A s.heap H locs ∧ LR ad ea μ.2.2.2.1 lsC ls
/-- a method at work: from here it comes to its end, with Φ -/
def G (l : Launch) (μ : MU) (Φ : Option AV → AS → VV → Prop) (c0 s0 : Nat) (S : AS) (pc : Nat) (ls : LL) (st : List AV) (v : VV) : Prop :=
  ∀ (p : Program) (e : Env) (s : State) (m : MethodId) (args : Array Value) (below : List Frame) (meth : Method) (c : Code) (H : Heap) (locs : List Loc) (D : va_G) (T : Nat → ClassId) (ea : Nat → Nat) (A : Nat → Prop) (ad ad0 : Nat → Nat) (n0 : Nat) (lsC : Array Slot),
    Cx l μ p s m args meth c D T ea A → Sx μ s D T ea A ad0 n0 S ls st v H locs ad lsC →
    W p l e (rmd μ.2.2.2.2.1 μ.2.2.2.2.2.1 μ.2.2.2.2.2.2.1) s m args below meth c H locs c0 s0 (MQ below (QQ D T ea A ad0 n0 Φ) args s μ.2.2.2.2.2.1 μ.2.2.2.2.2.2.1 A) (F0 m pc lsC (st.map (tr ad ea)))
/-! numbers -/
theorem iR_toInt {x : Int} (h : iR x) : (Int32.ofInt x).toInt = x := by
  rw [Int32.toInt_ofInt]
  exact Int.bmod_eq_of_le (by have := h.1; simp; omega) (by have := h.2; simp; omega)
theorem iR_lt {x y : Int} (hx : iR x) (hy : iR y) : Int32.ofInt x < Int32.ofInt y ↔ x < y := by
  rw [Int32.lt_iff_toInt_lt, iR_toInt hx, iR_toInt hy]
theorem iR_le {x y : Int} (hx : iR x) (hy : iR y) : Int32.ofInt x ≤ Int32.ofInt y ↔ x ≤ y := by
  rw [Int32.le_iff_toInt_le, iR_toInt hx, iR_toInt hy]
theorem iR_eq {x y : Int} (hx : iR x) (hy : iR y) : Int32.ofInt x = Int32.ofInt y ↔ x = y := by
  rw [← Int32.toInt_inj, iR_toInt hx, iR_toInt hy]
theorem iR_0 : iR 0 := by unfold iR; omega
theorem iR_of (x : Int32) : iR x.toInt := ⟨Int32.le_toInt x, Int32.toInt_lt x⟩
theorem lR_toInt {x : Int} (h : lR x) : (Int64.ofInt x).toInt = x := by
  rw [Int64.toInt_ofInt]
  exact Int.bmod_eq_of_le (by have := h.1; simp; omega) (by have := h.2; simp; omega)
theorem lR_eq {x y : Int} (hx : lR x) (hy : lR y) : Int64.ofInt x = Int64.ofInt y ↔ x = y := by
  rw [← Int64.toInt_inj, lR_toInt hx, lR_toInt hy]
theorem lR_lt {x y : Int} (hx : lR x) (hy : lR y) : Int64.ofInt x < Int64.ofInt y ↔ x < y := by
  rw [Int64.lt_iff_toInt_lt, lR_toInt hx, lR_toInt hy]
theorem RAs_cons {n : Nat} {a : AV} {st : List AV} : RAs n (a :: st) ↔ RA n a ∧ RAs n st := List.forall_mem_cons
end
section
section GR
variable {l : Launch} {μ : MU} {Φ : Option AV → AS → VV → Prop} {c0 s0 : Nat} {S : AS} {pc : Nat} {ls : LL} {st : List AV} {v : VV}
theorem Sx.stk {s : State} {D : va_G} {T : Nat → ClassId} {ea : Nat → Nat} {A : Nat → Prop} {ad0 : Nat → Nat} {n0 : Nat} {H : Heap} {locs : List Loc} {ad : Nat → Nat} {lsC : Array Slot} {st2 : List AV} (h : Sx μ s D T ea A ad0 n0 S ls st v H locs ad lsC) (h2 : RAs S.1 st → RAs S.1 st2) : Sx μ s D T ea A ad0 n0 S ls st2 v H locs ad lsC := ⟨h.1, h.2.1, h.2.2.1, h2 h.2.2.2.1, h.2.2.2.2⟩
theorem Sx.top {s : State} {D : va_G} {T : Nat → ClassId} {ea : Nat → Nat} {A : Nat → Prop} {ad0 : Nat → Nat} {n0 : Nat} {H : Heap} {locs : List Loc} {ad : Nat → Nat} {lsC : Array Slot} {a : AV} (h : Sx μ s D T ea A ad0 n0 S ls (a :: st) v H locs ad lsC) : RA S.1 a := (RAs_cons.mp h.2.2.2.1).1
theorem Sx.two {s : State} {D : va_G} {T : Nat → ClassId} {ea : Nat → Nat} {A : Nat → Prop} {ad0 : Nat → Nat} {n0 : Nat} {H : Heap} {locs : List Loc} {ad : Nat → Nat} {lsC : Array Slot} {a b : AV} (h : Sx μ s D T ea A ad0 n0 S ls (a :: b :: st) v H locs ad lsC) : RA S.1 b := (RAs_cons.mp (RAs_cons.mp h.2.2.2.1).2).1
theorem Sx.three {s : State} {D : va_G} {T : Nat → ClassId} {ea : Nat → Nat} {A : Nat → Prop} {ad0 : Nat → Nat} {n0 : Nat} {H : Heap} {locs : List Loc} {ad : Nat → Nat} {lsC : Array Slot} {a b c : AV} (h : Sx μ s D T ea A ad0 n0 S ls (a :: b :: c :: st) v H locs ad lsC) : RA S.1 c := (RAs_cons.mp (RAs_cons.mp (RAs_cons.mp h.2.2.2.1).2).2).1
theorem Sx.lr {s : State} {D : va_G} {T : Nat → ClassId} {ea : Nat → Nat} {A : Nat → Prop} {ad0 : Nat → Nat} {n0 : Nat} {H : Heap} {locs : List Loc} {ad : Nat → Nat} {lsC : Array Slot} (h : Sx μ s D T ea A ad0 n0 S ls st v H locs ad lsC) : LR ad ea μ.2.2.2.1 lsC ls := h.2.2.2.2.2.2.2.2
theorem Sx.vr {s : State} {D : va_G} {T : Nat → ClassId} {ea : Nat → Nat} {A : Nat → Prop} {ad0 : Nat → Nat} {n0 : Nat} {H : Heap} {locs : List Loc} {ad : Nat → Nat} {lsC : Array Slot} (h : Sx μ s D T ea A ad0 n0 S ls st v H locs ad lsC) : RV S v := h.2.2.1
/-- facts that any state of the method has -/
theorem G_fact (k : WR S → RV S v → RAs S.1 st → RAl S.1 ls → G l μ Φ c0 s0 S pc ls st v) : G l μ Φ c0 s0 S pc ls st v := by
  intro p en s m args below meth c H locs D T ea A ad ad0 n0 lsC hC hS
  exact k hS.2.1 hS.2.2.1 hS.2.2.2.1 hS.2.2.2.2.1 p en s m args below meth c H locs D T ea A ad ad0 n0 lsC hC hS
theorem G_iconst {n : Int} (hd : decode μ.2.1 pc = .ok (.iconst n, 1)) (hr : iR n) (k : G l μ Φ c0 s0 S (pc+1) ls (ai n :: st) v) : G l μ Φ c0 s0 S (pc) ls (st) v := by
  intro p en s m args below meth c H locs D T ea A ad ad0 n0 lsC hC hS
  exact lv_iconst hC.1 hC.2.1 hd rfl (k p en s m args below meth c _ _ D T ea A _ ad0 n0 _ hC (hS.stk fun h => RAs_cons.mpr ⟨hr, h⟩))
theorem G_bipush {n : Int} (hd : decode μ.2.1 pc = .ok (.bipush n, 2)) (hv : (Int8.ofInt n).toInt32 = Int32.ofInt n) (hr : iR n) (k : G l μ Φ c0 s0 S (pc+2) ls (ai n :: st) v) : G l μ Φ c0 s0 S (pc) ls (st) v := by
  intro p en s m args below meth c H locs D T ea A ad ad0 n0 lsC hC hS
  exact lv_bipush hC.1 hC.2.1 hd hv (k p en s m args below meth c _ _ D T ea A _ ad0 n0 _ hC (hS.stk fun h => RAs_cons.mpr ⟨hr, h⟩))
theorem G_sipush {n : Int} (hd : decode μ.2.1 pc = .ok (.sipush n, 3)) (hv : (Int16.ofInt n).toInt32 = Int32.ofInt n) (hr : iR n) (k : G l μ Φ c0 s0 S (pc+3) ls (ai n :: st) v) : G l μ Φ c0 s0 S (pc) ls (st) v := by
  intro p en s m args below meth c H locs D T ea A ad ad0 n0 lsC hC hS
  exact lv_sipush hC.1 hC.2.1 hd hv (k p en s m args below meth c _ _ D T ea A _ ad0 n0 _ hC (hS.stk fun h => RAs_cons.mpr ⟨hr, h⟩))
theorem G_ldc {i : Nat} {n : Int} (hd : decode μ.2.1 pc = .ok (.ldc i, 2)) (hw : Cond.constant μ.1.cls i (Int32.ofInt n) ∈ lw_good) (hr : iR n) (k : G l μ Φ c0 s0 S (pc+2) ls (ai n :: st) v) : G l μ Φ c0 s0 S (pc) ls (st) v := by
  intro p en s m args below meth c H locs D T ea A ad ad0 n0 lsC hC hS
  exact lv_ldc hC.1 hC.2.1 hC.2.2.2.2.2.2.1 (hC.2.2.2.2.2.2.2.1 _ hw) hd (k p en s m args below meth c _ _ D T ea A _ ad0 n0 _ hC (hS.stk fun h => RAs_cons.mpr ⟨hr, h⟩))
theorem G_ldcw {i : Nat} {n : Int} (hd : decode μ.2.1 pc = .ok (.ldc_w i, 3)) (hw : Cond.constant μ.1.cls i (Int32.ofInt n) ∈ lw_good) (hr : iR n) (k : G l μ Φ c0 s0 S (pc+3) ls (ai n :: st) v) : G l μ Φ c0 s0 S (pc) ls (st) v := by
  intro p en s m args below meth c H locs D T ea A ad ad0 n0 lsC hC hS
  exact lv_ldcw hC.1 hC.2.1 hC.2.2.2.2.2.2.1 (hC.2.2.2.2.2.2.2.1 _ hw) hd (k p en s m args below meth c _ _ D T ea A _ ad0 n0 _ hC (hS.stk fun h => RAs_cons.mpr ⟨hr, h⟩))
theorem G_ldc2 {i : Nat} {n : Int} (hd : decode μ.2.1 pc = .ok (.ldc2_w i, 3)) (hw : Cond.constantLong μ.1.cls i (Int64.ofInt n) ∈ lw_good) (hr : lR n) (k : G l μ Φ c0 s0 S (pc+3) ls (al n :: st) v) : G l μ Φ c0 s0 S (pc) ls (st) v := by
  intro p en s m args below meth c H locs D T ea A ad ad0 n0 lsC hC hS
  exact lv_ldc2 hC.1 hC.2.1 hC.2.2.2.2.2.2.1 (hC.2.2.2.2.2.2.2.1 _ hw) hd (k p en s m args below meth c _ _ D T ea A _ ad0 n0 _ hC (hS.stk fun h => RAs_cons.mpr ⟨hr, h⟩))
theorem G_lconst0 (hd : decode μ.2.1 pc = .ok (.lconst 0, 1)) (k : G l μ Φ c0 s0 S (pc+1) ls (al 0 :: st) v) : G l μ Φ c0 s0 S (pc) ls (st) v := by
  intro p en s m args below meth c H locs D T ea A ad ad0 n0 lsC hC hS
  exact lv_lconst hC.1 hC.2.1 hd (by rfl) (k p en s m args below meth c _ _ D T ea A _ ad0 n0 _ hC (hS.stk fun h => RAs_cons.mpr ⟨⟨by decide, by decide⟩, h⟩))
theorem G_null (hd : decode μ.2.1 pc = .ok (.aconst_null, 1)) (k : G l μ Φ c0 s0 S (pc+1) ls (ar none :: st) v) : G l μ Φ c0 s0 S (pc) ls (st) v := by
  intro p en s m args below meth c H locs D T ea A ad ad0 n0 lsC hC hS
  exact lv_null hC.1 hC.2.1 hd (k p en s m args below meth c _ _ D T ea A _ ad0 n0 _ hC (hS.stk fun h => RAs_cons.mpr ⟨trivial, h⟩))
theorem G_iload_n {i : Fin 4} {x : Int} (hd : decode μ.2.1 pc = .ok (.iload_n i, 1)) (hl : ls[i.1]? = some (some (ai x))) (k : G l μ Φ c0 s0 S (pc+1) ls (ai x :: st) v) : G l μ Φ c0 s0 S (pc) ls (st) v := by
  intro p en s m args below meth c H locs D T ea A ad ad0 n0 lsC hC hS
  exact lv_iload_n hC.1 hC.2.1 hd rfl (hS.lr.2.2 _ _ hl) (k p en s m args below meth c _ _ D T ea A _ ad0 n0 _ hC (hS.stk fun h => RAs_cons.mpr ⟨hS.2.2.2.2.1 _ _ hl, h⟩))
theorem G_iload {i : Nat} {x : Int} (hd : decode μ.2.1 pc = .ok (.iload i, 2)) (hl : ls[i]? = some (some (ai x))) (k : G l μ Φ c0 s0 S (pc+2) ls (ai x :: st) v) : G l μ Φ c0 s0 S (pc) ls (st) v := by
  intro p en s m args below meth c H locs D T ea A ad ad0 n0 lsC hC hS
  exact lv_iload hC.1 hC.2.1 hd (hS.lr.2.2 _ _ hl) (k p en s m args below meth c _ _ D T ea A _ ad0 n0 _ hC (hS.stk fun h => RAs_cons.mpr ⟨hS.2.2.2.2.1 _ _ hl, h⟩))
theorem G_lload_n {i : Fin 4} {x : Int} (hd : decode μ.2.1 pc = .ok (.lload_n i, 1)) (hl : ls[i.1]? = some (some (al x))) (k : G l μ Φ c0 s0 S (pc+1) ls (al x :: st) v) : G l μ Φ c0 s0 S (pc) ls (st) v := by
  intro p en s m args below meth c H locs D T ea A ad ad0 n0 lsC hC hS
  exact lv_lload_n hC.1 hC.2.1 hd rfl (hS.lr.2.2 _ _ hl) (k p en s m args below meth c _ _ D T ea A _ ad0 n0 _ hC (hS.stk fun h => RAs_cons.mpr ⟨hS.2.2.2.2.1 _ _ hl, h⟩))
theorem G_lload {i : Nat} {x : Int} (hd : decode μ.2.1 pc = .ok (.lload i, 2)) (hl : ls[i]? = some (some (al x))) (k : G l μ Φ c0 s0 S (pc+2) ls (al x :: st) v) : G l μ Φ c0 s0 S (pc) ls (st) v := by
  intro p en s m args below meth c H locs D T ea A ad ad0 n0 lsC hC hS
  exact lv_lload hC.1 hC.2.1 hd (hS.lr.2.2 _ _ hl) (k p en s m args below meth c _ _ D T ea A _ ad0 n0 _ hC (hS.stk fun h => RAs_cons.mpr ⟨hS.2.2.2.2.1 _ _ hl, h⟩))
theorem G_aload_n {i : Fin 4} {r : Option Nat} (hd : decode μ.2.1 pc = .ok (.aload_n i, 1)) (hl : ls[i.1]? = some (some (ar r))) (k : G l μ Φ c0 s0 S (pc+1) ls (ar r :: st) v) : G l μ Φ c0 s0 S (pc) ls (st) v := by
  intro p en s m args below meth c H locs D T ea A ad ad0 n0 lsC hC hS
  have k2 := k p en s m args below meth c _ _ D T ea A _ ad0 n0 _ hC (hS.stk fun h => RAs_cons.mpr ⟨hS.2.2.2.2.1 _ _ hl, h⟩)
  cases r with
  | none => exact lv_aload_nN hC.1 hC.2.1 hd rfl (hS.lr.2.2 _ _ hl) k2
  | some x => exact lv_aload_n hC.1 hC.2.1 hd rfl (hS.lr.2.2 _ _ hl) k2
theorem G_aload {i : Nat} {r : Option Nat} (hd : decode μ.2.1 pc = .ok (.aload i, 2)) (hl : ls[i]? = some (some (ar r))) (k : G l μ Φ c0 s0 S (pc+2) ls (ar r :: st) v) : G l μ Φ c0 s0 S (pc) ls (st) v := by
  intro p en s m args below meth c H locs D T ea A ad ad0 n0 lsC hC hS
  have k2 := k p en s m args below meth c _ _ D T ea A _ ad0 n0 _ hC (hS.stk fun h => RAs_cons.mpr ⟨hS.2.2.2.2.1 _ _ hl, h⟩)
  cases r with
  | none => exact lv_aloadN hC.1 hC.2.1 hd (hS.lr.2.2 _ _ hl) k2
  | some x => exact lv_aload hC.1 hC.2.1 hd (hS.lr.2.2 _ _ hl) k2
theorem G_aload_nX {i : Fin 4} {x : Nat} (hd : decode μ.2.1 pc = .ok (.aload_n i, 1)) (hl : ls[i.1]? = some (some (ax x))) (k : G l μ Φ c0 s0 S (pc+1) ls (ax x :: st) v) : G l μ Φ c0 s0 S (pc) ls (st) v := by
  intro p en s m args below meth c H locs D T ea A ad ad0 n0 lsC hC hS
  exact lv_aload_n hC.1 hC.2.1 hd rfl (hS.lr.2.2 _ _ hl) (k p en s m args below meth c _ _ D T ea A _ ad0 n0 _ hC (hS.stk fun h => RAs_cons.mpr ⟨hS.2.2.2.2.1 _ _ hl, h⟩))
theorem G_aloadX {i : Nat} {x : Nat} (hd : decode μ.2.1 pc = .ok (.aload i, 2)) (hl : ls[i]? = some (some (ax x))) (k : G l μ Φ c0 s0 S (pc+2) ls (ax x :: st) v) : G l μ Φ c0 s0 S (pc) ls (st) v := by
  intro p en s m args below meth c H locs D T ea A ad ad0 n0 lsC hC hS
  exact lv_aload hC.1 hC.2.1 hd (hS.lr.2.2 _ _ hl) (k p en s m args below meth c _ _ D T ea A _ ad0 n0 _ hC (hS.stk fun h => RAs_cons.mpr ⟨hS.2.2.2.2.1 _ _ hl, h⟩))
theorem G_iadd {x y : Int} (hd : decode μ.2.1 pc = .ok (.iadd, 1)) (hr : iR (x + y)) (k : G l μ Φ c0 s0 S (pc+1) ls (ai (x + y) :: st) v) : G l μ Φ c0 s0 S (pc) ls (ai y :: ai x :: st) v := by
  intro p en s m args below meth c H locs D T ea A ad ad0 n0 lsC hC hS
  refine lv_iadd hC.1 hC.2.1 hd ?_
  rw [← Int32.ofInt_add]
  exact k p en s m args below meth c _ _ D T ea A _ ad0 n0 _ hC (hS.stk fun h => RAs_cons.mpr ⟨hr, (RAs_cons.mp (RAs_cons.mp h).2).2⟩)
theorem G_isub {x y : Int} (hd : decode μ.2.1 pc = .ok (.isub, 1)) (hr : iR (x - y)) (k : G l μ Φ c0 s0 S (pc+1) ls (ai (x - y) :: st) v) : G l μ Φ c0 s0 S (pc) ls (ai y :: ai x :: st) v := by
  intro p en s m args below meth c H locs D T ea A ad ad0 n0 lsC hC hS
  refine lv_isub hC.1 hC.2.1 hd ?_
  rw [← Int32.ofInt_sub]
  exact k p en s m args below meth c _ _ D T ea A _ ad0 n0 _ hC (hS.stk fun h => RAs_cons.mpr ⟨hr, (RAs_cons.mp (RAs_cons.mp h).2).2⟩)
theorem G_imul {x y : Int} (hd : decode μ.2.1 pc = .ok (.imul, 1)) (hr : iR (x * y)) (k : G l μ Φ c0 s0 S (pc+1) ls (ai (x * y) :: st) v) : G l μ Φ c0 s0 S (pc) ls (ai y :: ai x :: st) v := by
  intro p en s m args below meth c H locs D T ea A ad ad0 n0 lsC hC hS
  refine lv_imul hC.1 hC.2.1 hd ?_
  rw [← Int32.ofInt_mul]
  exact k p en s m args below meth c _ _ D T ea A _ ad0 n0 _ hC (hS.stk fun h => RAs_cons.mpr ⟨hr, (RAs_cons.mp (RAs_cons.mp h).2).2⟩)
theorem G_ladd {x y : Int} (hd : decode μ.2.1 pc = .ok (.ladd, 1)) (hr : lR (x + y)) (k : G l μ Φ c0 s0 S (pc+1) ls (al (x + y) :: st) v) : G l μ Φ c0 s0 S (pc) ls (al y :: al x :: st) v := by
  intro p en s m args below meth c H locs D T ea A ad ad0 n0 lsC hC hS
  refine lv_ladd hC.1 hC.2.1 hd ?_
  rw [← Int64.ofInt_add]
  exact k p en s m args below meth c _ _ D T ea A _ ad0 n0 _ hC (hS.stk fun h => RAs_cons.mpr ⟨hr, (RAs_cons.mp (RAs_cons.mp h).2).2⟩)
theorem G_lsub {x y : Int} (hd : decode μ.2.1 pc = .ok (.lsub, 1)) (hr : lR (x - y)) (k : G l μ Φ c0 s0 S (pc+1) ls (al (x - y) :: st) v) : G l μ Φ c0 s0 S (pc) ls (al y :: al x :: st) v := by
  intro p en s m args below meth c H locs D T ea A ad ad0 n0 lsC hC hS
  refine lv_lsub hC.1 hC.2.1 hd ?_
  rw [← Int64.ofInt_sub]
  exact k p en s m args below meth c _ _ D T ea A _ ad0 n0 _ hC (hS.stk fun h => RAs_cons.mpr ⟨hr, (RAs_cons.mp (RAs_cons.mp h).2).2⟩)
theorem G_lmul {x y : Int} (hd : decode μ.2.1 pc = .ok (.lmul, 1)) (hr : lR (x * y)) (k : G l μ Φ c0 s0 S (pc+1) ls (al (x * y) :: st) v) : G l μ Φ c0 s0 S (pc) ls (al y :: al x :: st) v := by
  intro p en s m args below meth c H locs D T ea A ad ad0 n0 lsC hC hS
  refine lv_lmul hC.1 hC.2.1 hd ?_
  rw [← Int64.ofInt_mul]
  exact k p en s m args below meth c _ _ D T ea A _ ad0 n0 _ hC (hS.stk fun h => RAs_cons.mpr ⟨hr, (RAs_cons.mp (RAs_cons.mp h).2).2⟩)
theorem G_iand {x y : Int} (z : Int) (hd : decode μ.2.1 pc = .ok (.iand, 1)) (hz : (Int32.ofInt x &&& Int32.ofInt y).toInt = z) (k : G l μ Φ c0 s0 S (pc+1) ls (ai z :: st) v) : G l μ Φ c0 s0 S (pc) ls (ai y :: ai x :: st) v := by
  intro p en s m args below meth c H locs D T ea A ad ad0 n0 lsC hC hS
  subst hz
  refine lv_iand hC.1 hC.2.1 hd ?_
  have k2 := k p en s m args below meth c _ _ D T ea A _ ad0 n0 _ hC (hS.stk fun h => RAs_cons.mpr ⟨iR_of _, (RAs_cons.mp (RAs_cons.mp h).2).2⟩)
  rwa [List.map_cons, show tr ad ea (ai (Int32.ofInt x &&& Int32.ofInt y).toInt) = .int (Int32.ofInt x &&& Int32.ofInt y) from congrArg Value.int (Int32.ofInt_toInt _)] at k2
theorem G_ior {x y : Int} (z : Int) (hd : decode μ.2.1 pc = .ok (.ior, 1)) (hz : (Int32.ofInt x ||| Int32.ofInt y).toInt = z) (k : G l μ Φ c0 s0 S (pc+1) ls (ai z :: st) v) : G l μ Φ c0 s0 S (pc) ls (ai y :: ai x :: st) v := by
  intro p en s m args below meth c H locs D T ea A ad ad0 n0 lsC hC hS
  subst hz
  refine lv_ior hC.1 hC.2.1 hd ?_
  have k2 := k p en s m args below meth c _ _ D T ea A _ ad0 n0 _ hC (hS.stk fun h => RAs_cons.mpr ⟨iR_of _, (RAs_cons.mp (RAs_cons.mp h).2).2⟩)
  rwa [List.map_cons, show tr ad ea (ai (Int32.ofInt x ||| Int32.ofInt y).toInt) = .int (Int32.ofInt x ||| Int32.ofInt y) from congrArg Value.int (Int32.ofInt_toInt _)] at k2
theorem G_ishl {x y : Int} (z : Int) (hd : decode μ.2.1 pc = .ok (.ishl, 1)) (hz : (Int32.ofInt x <<< (Int32.ofInt y &&& 31)).toInt = z) (k : G l μ Φ c0 s0 S (pc+1) ls (ai z :: st) v) : G l μ Φ c0 s0 S (pc) ls (ai y :: ai x :: st) v := by
  intro p en s m args below meth c H locs D T ea A ad ad0 n0 lsC hC hS
  subst hz
  refine lv_ishl hC.1 hC.2.1 hd ?_
  have k2 := k p en s m args below meth c _ _ D T ea A _ ad0 n0 _ hC (hS.stk fun h => RAs_cons.mpr ⟨iR_of _, (RAs_cons.mp (RAs_cons.mp h).2).2⟩)
  rwa [List.map_cons, show tr ad ea (ai (Int32.ofInt x <<< (Int32.ofInt y &&& 31)).toInt) = .int (Int32.ofInt x <<< (Int32.ofInt y &&& 31)) from congrArg Value.int (Int32.ofInt_toInt _)] at k2
theorem G_ishr {x y : Int} (z : Int) (hd : decode μ.2.1 pc = .ok (.ishr, 1)) (hz : (Int32.ofInt x >>> (Int32.ofInt y &&& 31)).toInt = z) (k : G l μ Φ c0 s0 S (pc+1) ls (ai z :: st) v) : G l μ Φ c0 s0 S (pc) ls (ai y :: ai x :: st) v := by
  intro p en s m args below meth c H locs D T ea A ad ad0 n0 lsC hC hS
  subst hz
  refine lv_ishr hC.1 hC.2.1 hd ?_
  have k2 := k p en s m args below meth c _ _ D T ea A _ ad0 n0 _ hC (hS.stk fun h => RAs_cons.mpr ⟨iR_of _, (RAs_cons.mp (RAs_cons.mp h).2).2⟩)
  rwa [List.map_cons, show tr ad ea (ai (Int32.ofInt x >>> (Int32.ofInt y &&& 31)).toInt) = .int (Int32.ofInt x >>> (Int32.ofInt y &&& 31)) from congrArg Value.int (Int32.ofInt_toInt _)] at k2
theorem G_iushr {x y : Int} (z : Int) (hd : decode μ.2.1 pc = .ok (.iushr, 1)) (hz : ((Int32.ofInt x).toUInt32 >>> ((Int32.ofInt y).toUInt32 &&& Int32.toUInt32 31)).toInt32.toInt = z) (k : G l μ Φ c0 s0 S (pc+1) ls (ai z :: st) v) : G l μ Φ c0 s0 S (pc) ls (ai y :: ai x :: st) v := by
  intro p en s m args below meth c H locs D T ea A ad ad0 n0 lsC hC hS
  subst hz
  refine lv_iushr hC.1 hC.2.1 hd rfl ?_
  have k2 := k p en s m args below meth c _ _ D T ea A _ ad0 n0 _ hC (hS.stk fun h => RAs_cons.mpr ⟨iR_of _, (RAs_cons.mp (RAs_cons.mp h).2).2⟩)
  rwa [List.map_cons, show tr ad ea (ai ((Int32.ofInt x).toUInt32 >>> ((Int32.ofInt y).toUInt32 &&& Int32.toUInt32 31)).toInt32.toInt) = .int ((Int32.ofInt x).toUInt32 >>> ((Int32.ofInt y).toUInt32 &&& Int32.toUInt32 31)).toInt32 from congrArg Value.int (Int32.ofInt_toInt _)] at k2
theorem G_i2b {x : Int} (z : Int) (hd : decode μ.2.1 pc = .ok (.i2b, 1)) (hz : (Int32.ofInt x).toInt8.toInt32.toInt = z) (k : G l μ Φ c0 s0 S (pc+1) ls (ai z :: st) v) : G l μ Φ c0 s0 S (pc) ls (ai x :: st) v := by
  intro p en s m args below meth c H locs D T ea A ad ad0 n0 lsC hC hS
  subst hz
  refine lv_i2b hC.1 hC.2.1 hd rfl ?_
  have k2 := k p en s m args below meth c _ _ D T ea A _ ad0 n0 _ hC (hS.stk fun h => RAs_cons.mpr ⟨iR_of _, (RAs_cons.mp h).2⟩)
  rwa [List.map_cons, show tr ad ea (ai (Int32.ofInt x).toInt8.toInt32.toInt) = .int (Int32.ofInt x).toInt8.toInt32 from congrArg Value.int (Int32.ofInt_toInt _)] at k2
theorem G_i2l {x : Int} (hd : decode μ.2.1 pc = .ok (.i2l, 1)) (k : G l μ Φ c0 s0 S (pc+1) ls (al x :: st) v) : G l μ Φ c0 s0 S (pc) ls (ai x :: st) v := by
  intro p en s m args below meth c H locs D T ea A ad ad0 n0 lsC hC hS
  have hx : iR x := hS.top
  have hx2 : lR x := ⟨by have := hx.1; omega, by have := hx.2; omega⟩
  refine lv_i2l hC.1 hC.2.1 hd (v := Int64.ofInt x) ?_ (k p en s m args below meth c _ _ D T ea A _ ad0 n0 _ hC (hS.stk fun h => RAs_cons.mpr ⟨hx2, (RAs_cons.mp h).2⟩))
  rw [← Int64.toInt_inj, lR_toInt hx2, Int32.toInt_toInt64, iR_toInt hx]
theorem G_lcmp {x y : Int} (hd : decode μ.2.1 pc = .ok (.lcmp, 1)) (k : G l μ Φ c0 s0 S (pc+1) ls (ai (if x < y then -1 else if x = y then 0 else 1) :: st) v) : G l μ Φ c0 s0 S (pc) ls (al y :: al x :: st) v := by
  intro p en s m args below meth c H locs D T ea A ad ad0 n0 lsC hC hS
  have hy : lR y := hS.top
  have hx : lR x := hS.two
  have hc : iR (if x < y then -1 else if x = y then 0 else 1) := by unfold iR; split <;> (try split) <;> omega
  refine W.lcmp hC.1 hC.2.1 hd ?_
  have k2 := k p en s m args below meth c _ _ D T ea A _ ad0 n0 _ hC (hS.stk fun h => RAs_cons.mpr ⟨hc, (RAs_cons.mp (RAs_cons.mp h).2).2⟩)
  have e : lg_cmp (Int64.ofInt x) (Int64.ofInt y) = Int32.ofInt (if x < y then -1 else if x = y then 0 else 1) := by
    unfold lg_cmp
    have a := lR_lt hy hx
    have b := lR_eq hx hy
    rcases Int.lt_trichotomy x y with h1 | h1 | h1
    · have n1 : ¬ y < x := by omega
      have n2 : ¬ x = y := by omega
      simp [a, b, h1, n1, n2]
    · subst h1
      simp [a]
    · have n1 : ¬ x < y := by omega
      have n2 : ¬ x = y := by omega
      simp [a, h1, n1, n2]
  rw [e]
  exact k2
theorem G_idiv {x y : Int} (hd : decode μ.2.1 pc = .ok (.idiv, 1)) (hx : 0 ≤ x) (hy : 0 < y) (k : G l μ Φ c0 s0 S (pc+1) ls (ai (x / y) :: st) v) : G l μ Φ c0 s0 S (pc) ls (ai y :: ai x :: st) v := by
  intro p en s m args below meth c H locs D T ea A ad ad0 n0 lsC hC hS
  have hyR : iR y := hS.top
  have hxR : iR x := hS.two
  have hq : 0 ≤ x / y := Int.ediv_nonneg hx (by omega)
  have hq2 : x / y ≤ x := Int.ediv_le_self y hx
  have hqR : iR (x / y) := ⟨by omega, by have := hxR.2; omega⟩
  refine lv_idiv hC.1 hC.2.1 hd (fun h => ?_) ?_
  · have := (iR_eq hyR iR_0).mp h
    omega
  have e : Int32.ofInt x / Int32.ofInt y = Int32.ofInt (x / y) := by
    rw [← Int32.toInt_inj, iR_toInt hqR, Int32.toInt_div_of_ne_right _ _ (fun h => by have := (iR_eq hyR (y := -1) ⟨by decide, by decide⟩).mp (h.trans (by decide)); omega), iR_toInt hxR, iR_toInt hyR, Int.tdiv_eq_ediv_of_nonneg hx]
  rw [e]
  exact k p en s m args below meth c _ _ D T ea A _ ad0 n0 _ hC (hS.stk fun h => RAs_cons.mpr ⟨hqR, (RAs_cons.mp (RAs_cons.mp h).2).2⟩)
theorem G_irem {x y : Int} (hd : decode μ.2.1 pc = .ok (.irem, 1)) (hx : 0 ≤ x) (hy : 0 < y) (k : G l μ Φ c0 s0 S (pc+1) ls (ai (x % y) :: st) v) : G l μ Φ c0 s0 S (pc) ls (ai y :: ai x :: st) v := by
  intro p en s m args below meth c H locs D T ea A ad ad0 n0 lsC hC hS
  have hyR : iR y := hS.top
  have hxR : iR x := hS.two
  have hq : 0 ≤ x % y := Int.emod_nonneg x (by omega)
  have hq2 : x % y < y := Int.emod_lt_of_pos x hy
  have hqR : iR (x % y) := ⟨by omega, by have := hyR.2; omega⟩
  refine lv_irem hC.1 hC.2.1 hd (fun h => ?_) ?_
  · have := (iR_eq hyR iR_0).mp h
    omega
  have e : Int32.ofInt x - Int32.ofInt x / Int32.ofInt y * Int32.ofInt y = Int32.ofInt (x % y) := by
    rw [← Int32.toInt_inj, iR_toInt hqR, rem_toInt, iR_toInt hxR, iR_toInt hyR, Int.tmod_eq_emod_of_nonneg hx]
  rw [e]
  exact k p en s m args below meth c _ _ D T ea A _ ad0 n0 _ hC (hS.stk fun h => RAs_cons.mpr ⟨hqR, (RAs_cons.mp (RAs_cons.mp h).2).2⟩)
theorem G_dup_i {x : Int} (hd : decode μ.2.1 pc = .ok (.dup, 1)) (k : G l μ Φ c0 s0 S (pc+1) ls (ai x :: ai x :: st) v) : G l μ Φ c0 s0 S (pc) ls (ai x :: st) v := by
  intro p en s m args below meth c H locs D T ea A ad ad0 n0 lsC hC hS
  exact lv_dup hC.1 hC.2.1 hd rfl (k p en s m args below meth c _ _ D T ea A _ ad0 n0 _ hC (hS.stk fun h => RAs_cons.mpr ⟨hS.top, h⟩))
theorem G_dup_a {r : Option Nat} (hd : decode μ.2.1 pc = .ok (.dup, 1)) (k : G l μ Φ c0 s0 S (pc+1) ls (ar r :: ar r :: st) v) : G l μ Φ c0 s0 S (pc) ls (ar r :: st) v := by
  intro p en s m args below meth c H locs D T ea A ad ad0 n0 lsC hC hS
  exact lv_dup hC.1 hC.2.1 hd (by cases r <;> rfl) (k p en s m args below meth c _ _ D T ea A _ ad0 n0 _ hC (hS.stk fun h => RAs_cons.mpr ⟨hS.top, h⟩))
theorem G_dup2 {x : Int} {r : Option Nat} (hd : decode μ.2.1 pc = .ok (.dup2, 1)) (k : G l μ Φ c0 s0 S (pc+1) ls (ai x :: ar r :: ai x :: ar r :: st) v) : G l μ Φ c0 s0 S (pc) ls (ai x :: ar r :: st) v := by
  intro p en s m args below meth c H locs D T ea A ad ad0 n0 lsC hC hS
  exact lv_dup2_11 hC.1 hC.2.1 hd rfl (by cases r <;> rfl) (k p en s m args below meth c _ _ D T ea A _ ad0 n0 _ hC (hS.stk fun h => RAs_cons.mpr ⟨hS.top, RAs_cons.mpr ⟨hS.two, h⟩⟩))
theorem G_pop_i {x : Int} (hd : decode μ.2.1 pc = .ok (.pop, 1)) (k : G l μ Φ c0 s0 S (pc+1) ls (st) v) : G l μ Φ c0 s0 S (pc) ls (ai x :: st) v := by
  intro p en s m args below meth c H locs D T ea A ad ad0 n0 lsC hC hS
  exact lv_pop hC.1 hC.2.1 hd rfl (k p en s m args below meth c _ _ D T ea A _ ad0 n0 _ hC (hS.stk fun h => (RAs_cons.mp h).2))
theorem G_goto {off : Int} (tgt : Nat) (hd : decode μ.2.1 pc = .ok (.goto off, 3)) (ht : (pc : Int) + off = (tgt : Int)) (k : G l μ Φ c0 s0 S (tgt) ls (st) v) : G l μ Φ c0 s0 S (pc) ls (st) v := by
  intro p en s m args below meth c H locs D T ea A ad ad0 n0 lsC hC hS
  exact lv_goto hC.1 hC.2.1 hd ht (k p en s m args below meth c _ _ D T ea A _ ad0 n0 _ hC hS)
theorem G_icmp_eq {x y off : Int} (tgt : Nat) (hd : decode μ.2.1 pc = .ok (.if_icmp .eq off, 3)) (ht : (pc : Int) + off = (tgt : Int)) (kt : x = y → G l μ Φ c0 s0 S (tgt) ls (st) v) (kf : ¬ (x = y) → G l μ Φ c0 s0 S (pc+3) ls (st) v) : G l μ Φ c0 s0 S (pc) ls (ai y :: ai x :: st) v := by
  intro p en s m args below meth c H locs D T ea A ad ad0 n0 lsC hC hS
  have hy : iR y := hS.top
  have hx : iR x := hS.two
  have e := iR_eq hx hy
  have hS2 := hS.stk fun h => (RAs_cons.mp (RAs_cons.mp h).2).2
  exact lv_icmp_eq hC.1 hC.2.1 hd ht (fun h => kt (e.mp h) p en s m args below meth c _ _ D T ea A _ ad0 n0 _ hC hS2) (fun h => kf (fun z => h (e.mpr z)) p en s m args below meth c _ _ D T ea A _ ad0 n0 _ hC hS2)
theorem G_if_eq {x off : Int} (tgt : Nat) (hd : decode μ.2.1 pc = .ok (.ifCond .eq off, 3)) (ht : (pc : Int) + off = (tgt : Int)) (kt : x = 0 → G l μ Φ c0 s0 S (tgt) ls (st) v) (kf : ¬ (x = 0) → G l μ Φ c0 s0 S (pc+3) ls (st) v) : G l μ Φ c0 s0 S (pc) ls (ai x :: st) v := by
  intro p en s m args below meth c H locs D T ea A ad ad0 n0 lsC hC hS
  have hx : iR x := hS.top
  have e := iR_eq hx iR_0
  have hS2 := hS.stk fun h => (RAs_cons.mp h).2
  exact lv_if_eq hC.1 hC.2.1 hd ht (fun h => kt (e.mp h) p en s m args below meth c _ _ D T ea A _ ad0 n0 _ hC hS2) (fun h => kf (fun z => h (e.mpr z)) p en s m args below meth c _ _ D T ea A _ ad0 n0 _ hC hS2)
theorem G_icmp_ne {x y off : Int} (tgt : Nat) (hd : decode μ.2.1 pc = .ok (.if_icmp .ne off, 3)) (ht : (pc : Int) + off = (tgt : Int)) (kt : ¬ x = y → G l μ Φ c0 s0 S (tgt) ls (st) v) (kf : x = y → G l μ Φ c0 s0 S (pc+3) ls (st) v) : G l μ Φ c0 s0 S (pc) ls (ai y :: ai x :: st) v := by
  intro p en s m args below meth c H locs D T ea A ad ad0 n0 lsC hC hS
  have hy : iR y := hS.top
  have hx : iR x := hS.two
  have e := not_congr (iR_eq hx hy)
  have hS2 := hS.stk fun h => (RAs_cons.mp (RAs_cons.mp h).2).2
  exact lv_icmp_ne hC.1 hC.2.1 hd ht (fun h => kt (e.mp h) p en s m args below meth c _ _ D T ea A _ ad0 n0 _ hC hS2) (fun h => kf ((iR_eq hx hy).mp h) p en s m args below meth c _ _ D T ea A _ ad0 n0 _ hC hS2)
theorem G_if_ne {x off : Int} (tgt : Nat) (hd : decode μ.2.1 pc = .ok (.ifCond .ne off, 3)) (ht : (pc : Int) + off = (tgt : Int)) (kt : ¬ x = 0 → G l μ Φ c0 s0 S (tgt) ls (st) v) (kf : x = 0 → G l μ Φ c0 s0 S (pc+3) ls (st) v) : G l μ Φ c0 s0 S (pc) ls (ai x :: st) v := by
  intro p en s m args below meth c H locs D T ea A ad ad0 n0 lsC hC hS
  have hx : iR x := hS.top
  have e := not_congr (iR_eq hx iR_0)
  have hS2 := hS.stk fun h => (RAs_cons.mp h).2
  exact lv_if_ne hC.1 hC.2.1 hd ht (fun h => kt (e.mp h) p en s m args below meth c _ _ D T ea A _ ad0 n0 _ hC hS2) (fun h => kf ((iR_eq hx iR_0).mp h) p en s m args below meth c _ _ D T ea A _ ad0 n0 _ hC hS2)
theorem G_icmp_lt {x y off : Int} (tgt : Nat) (hd : decode μ.2.1 pc = .ok (.if_icmp .lt off, 3)) (ht : (pc : Int) + off = (tgt : Int)) (kt : x < y → G l μ Φ c0 s0 S (tgt) ls (st) v) (kf : ¬ (x < y) → G l μ Φ c0 s0 S (pc+3) ls (st) v) : G l μ Φ c0 s0 S (pc) ls (ai y :: ai x :: st) v := by
  intro p en s m args below meth c H locs D T ea A ad ad0 n0 lsC hC hS
  have hy : iR y := hS.top
  have hx : iR x := hS.two
  have e := iR_lt hx hy
  have hS2 := hS.stk fun h => (RAs_cons.mp (RAs_cons.mp h).2).2
  exact lv_icmp_lt hC.1 hC.2.1 hd ht (fun h => kt (e.mp h) p en s m args below meth c _ _ D T ea A _ ad0 n0 _ hC hS2) (fun h => kf (fun z => h (e.mpr z)) p en s m args below meth c _ _ D T ea A _ ad0 n0 _ hC hS2)
theorem G_if_lt {x off : Int} (tgt : Nat) (hd : decode μ.2.1 pc = .ok (.ifCond .lt off, 3)) (ht : (pc : Int) + off = (tgt : Int)) (kt : x < 0 → G l μ Φ c0 s0 S (tgt) ls (st) v) (kf : ¬ (x < 0) → G l μ Φ c0 s0 S (pc+3) ls (st) v) : G l μ Φ c0 s0 S (pc) ls (ai x :: st) v := by
  intro p en s m args below meth c H locs D T ea A ad ad0 n0 lsC hC hS
  have hx : iR x := hS.top
  have e := iR_lt hx iR_0
  have hS2 := hS.stk fun h => (RAs_cons.mp h).2
  exact lv_if_lt hC.1 hC.2.1 hd ht (fun h => kt (e.mp h) p en s m args below meth c _ _ D T ea A _ ad0 n0 _ hC hS2) (fun h => kf (fun z => h (e.mpr z)) p en s m args below meth c _ _ D T ea A _ ad0 n0 _ hC hS2)
theorem G_icmp_ge {x y off : Int} (tgt : Nat) (hd : decode μ.2.1 pc = .ok (.if_icmp .ge off, 3)) (ht : (pc : Int) + off = (tgt : Int)) (kt : y ≤ x → G l μ Φ c0 s0 S (tgt) ls (st) v) (kf : ¬ (y ≤ x) → G l μ Φ c0 s0 S (pc+3) ls (st) v) : G l μ Φ c0 s0 S (pc) ls (ai y :: ai x :: st) v := by
  intro p en s m args below meth c H locs D T ea A ad ad0 n0 lsC hC hS
  have hy : iR y := hS.top
  have hx : iR x := hS.two
  have e := iR_le hy hx
  have hS2 := hS.stk fun h => (RAs_cons.mp (RAs_cons.mp h).2).2
  exact lv_icmp_ge hC.1 hC.2.1 hd ht (fun h => kt (e.mp h) p en s m args below meth c _ _ D T ea A _ ad0 n0 _ hC hS2) (fun h => kf (fun z => h (e.mpr z)) p en s m args below meth c _ _ D T ea A _ ad0 n0 _ hC hS2)
theorem G_if_ge {x off : Int} (tgt : Nat) (hd : decode μ.2.1 pc = .ok (.ifCond .ge off, 3)) (ht : (pc : Int) + off = (tgt : Int)) (kt : 0 ≤ x → G l μ Φ c0 s0 S (tgt) ls (st) v) (kf : ¬ (0 ≤ x) → G l μ Φ c0 s0 S (pc+3) ls (st) v) : G l μ Φ c0 s0 S (pc) ls (ai x :: st) v := by
  intro p en s m args below meth c H locs D T ea A ad ad0 n0 lsC hC hS
  have hx : iR x := hS.top
  have e := iR_le iR_0 hx
  have hS2 := hS.stk fun h => (RAs_cons.mp h).2
  exact lv_if_ge hC.1 hC.2.1 hd ht (fun h => kt (e.mp h) p en s m args below meth c _ _ D T ea A _ ad0 n0 _ hC hS2) (fun h => kf (fun z => h (e.mpr z)) p en s m args below meth c _ _ D T ea A _ ad0 n0 _ hC hS2)
theorem G_icmp_gt {x y off : Int} (tgt : Nat) (hd : decode μ.2.1 pc = .ok (.if_icmp .gt off, 3)) (ht : (pc : Int) + off = (tgt : Int)) (kt : y < x → G l μ Φ c0 s0 S (tgt) ls (st) v) (kf : ¬ (y < x) → G l μ Φ c0 s0 S (pc+3) ls (st) v) : G l μ Φ c0 s0 S (pc) ls (ai y :: ai x :: st) v := by
  intro p en s m args below meth c H locs D T ea A ad ad0 n0 lsC hC hS
  have hy : iR y := hS.top
  have hx : iR x := hS.two
  have e := iR_lt hy hx
  have hS2 := hS.stk fun h => (RAs_cons.mp (RAs_cons.mp h).2).2
  exact lv_icmp_gt hC.1 hC.2.1 hd ht (fun h => kt (e.mp h) p en s m args below meth c _ _ D T ea A _ ad0 n0 _ hC hS2) (fun h => kf (fun z => h (e.mpr z)) p en s m args below meth c _ _ D T ea A _ ad0 n0 _ hC hS2)
theorem G_if_gt {x off : Int} (tgt : Nat) (hd : decode μ.2.1 pc = .ok (.ifCond .gt off, 3)) (ht : (pc : Int) + off = (tgt : Int)) (kt : 0 < x → G l μ Φ c0 s0 S (tgt) ls (st) v) (kf : ¬ (0 < x) → G l μ Φ c0 s0 S (pc+3) ls (st) v) : G l μ Φ c0 s0 S (pc) ls (ai x :: st) v := by
  intro p en s m args below meth c H locs D T ea A ad ad0 n0 lsC hC hS
  have hx : iR x := hS.top
  have e := iR_lt iR_0 hx
  have hS2 := hS.stk fun h => (RAs_cons.mp h).2
  exact lv_if_gt hC.1 hC.2.1 hd ht (fun h => kt (e.mp h) p en s m args below meth c _ _ D T ea A _ ad0 n0 _ hC hS2) (fun h => kf (fun z => h (e.mpr z)) p en s m args below meth c _ _ D T ea A _ ad0 n0 _ hC hS2)
theorem G_icmp_le {x y off : Int} (tgt : Nat) (hd : decode μ.2.1 pc = .ok (.if_icmp .le off, 3)) (ht : (pc : Int) + off = (tgt : Int)) (kt : x ≤ y → G l μ Φ c0 s0 S (tgt) ls (st) v) (kf : ¬ (x ≤ y) → G l μ Φ c0 s0 S (pc+3) ls (st) v) : G l μ Φ c0 s0 S (pc) ls (ai y :: ai x :: st) v := by
  intro p en s m args below meth c H locs D T ea A ad ad0 n0 lsC hC hS
  have hy : iR y := hS.top
  have hx : iR x := hS.two
  have e := iR_le hx hy
  have hS2 := hS.stk fun h => (RAs_cons.mp (RAs_cons.mp h).2).2
  exact lv_icmp_le hC.1 hC.2.1 hd ht (fun h => kt (e.mp h) p en s m args below meth c _ _ D T ea A _ ad0 n0 _ hC hS2) (fun h => kf (fun z => h (e.mpr z)) p en s m args below meth c _ _ D T ea A _ ad0 n0 _ hC hS2)
theorem G_if_le {x off : Int} (tgt : Nat) (hd : decode μ.2.1 pc = .ok (.ifCond .le off, 3)) (ht : (pc : Int) + off = (tgt : Int)) (kt : x ≤ 0 → G l μ Φ c0 s0 S (tgt) ls (st) v) (kf : ¬ (x ≤ 0) → G l μ Φ c0 s0 S (pc+3) ls (st) v) : G l μ Φ c0 s0 S (pc) ls (ai x :: st) v := by
  intro p en s m args below meth c H locs D T ea A ad ad0 n0 lsC hC hS
  have hx : iR x := hS.top
  have e := iR_le hx iR_0
  have hS2 := hS.stk fun h => (RAs_cons.mp h).2
  exact lv_if_le hC.1 hC.2.1 hd ht (fun h => kt (e.mp h) p en s m args below meth c _ _ D T ea A _ ad0 n0 _ hC hS2) (fun h => kf (fun z => h (e.mpr z)) p en s m args below meth c _ _ D T ea A _ ad0 n0 _ hC hS2)
theorem G_ifnullS {k : Nat} {off : Int} (hd : decode μ.2.1 pc = .ok (.ifnull off, 3)) (kk : G l μ Φ c0 s0 S (pc+3) ls (st) v) : G l μ Φ c0 s0 S (pc) ls (ar (some k) :: st) v := by
  intro p en s m args below meth c H locs D T ea A ad ad0 n0 lsC hC hS
  exact lv_ifnull hC.1 hC.2.1 hd (kk p en s m args below meth c _ _ D T ea A _ ad0 n0 _ hC (hS.stk fun h => (RAs_cons.mp h).2))
theorem G_ifnullN {off : Int} (tgt : Nat) (hd : decode μ.2.1 pc = .ok (.ifnull off, 3)) (ht : (pc : Int) + off = (tgt : Int)) (kk : G l μ Φ c0 s0 S (tgt) ls (st) v) : G l μ Φ c0 s0 S (pc) ls (ar none :: st) v := by
  intro p en s m args below meth c H locs D T ea A ad ad0 n0 lsC hC hS
  exact lv_ifnullN hC.1 hC.2.1 hd ht (kk p en s m args below meth c _ _ D T ea A _ ad0 n0 _ hC (hS.stk fun h => (RAs_cons.mp h).2))
theorem G_ifnonnullS {k : Nat} {off : Int} (tgt : Nat) (hd : decode μ.2.1 pc = .ok (.ifnonnull off, 3)) (ht : (pc : Int) + off = (tgt : Int)) (kk : G l μ Φ c0 s0 S (tgt) ls (st) v) : G l μ Φ c0 s0 S (pc) ls (ar (some k) :: st) v := by
  intro p en s m args below meth c H locs D T ea A ad ad0 n0 lsC hC hS
  exact lv_ifnonnull hC.1 hC.2.1 hd ht (kk p en s m args below meth c _ _ D T ea A _ ad0 n0 _ hC (hS.stk fun h => (RAs_cons.mp h).2))
theorem G_ifnonnullN {off : Int} (hd : decode μ.2.1 pc = .ok (.ifnonnull off, 3)) (kk : G l μ Φ c0 s0 S (pc+3) ls (st) v) : G l μ Φ c0 s0 S (pc) ls (ar none :: st) v := by
  intro p en s m args below meth c H locs D T ea A ad ad0 n0 lsC hC hS
  exact lv_ifnonnullN hC.1 hC.2.1 hd (kk p en s m args below meth c _ _ D T ea A _ ad0 n0 _ hC (hS.stk fun h => (RAs_cons.mp h).2))
theorem G_tableIn {dflt lo hi : Int} {offs : Array Int} {len : Nat} {x off : Int} (tgt : Nat) (hd : decode μ.2.1 pc = .ok (.tableswitch dflt lo hi offs, len)) (h1 : lo ≤ x) (h2 : x ≤ hi) (ho : offs[(x - lo).toNat]? = some off) (ht : (pc : Int) + off = (tgt : Int)) (kk : G l μ Φ c0 s0 S (tgt) ls (st) v) : G l μ Φ c0 s0 S (pc) ls (ai x :: st) v := by
  intro p en s m args below meth c H locs D T ea A ad ad0 n0 lsC hC hS
  have hx : iR x := hS.top
  have e := iR_toInt hx
  exact lv_tableIn hC.1 hC.2.1 hd (by rw [e]; omega) (by rw [e]; omega) (by rw [e]; exact ho) ht (kk p en s m args below meth c _ _ D T ea A _ ad0 n0 _ hC (hS.stk fun h => (RAs_cons.mp h).2))
theorem G_tableOut {dflt lo hi : Int} {offs : Array Int} {len : Nat} {x : Int} (tgt : Nat) (hd : decode μ.2.1 pc = .ok (.tableswitch dflt lo hi offs, len)) (h1 : x < lo ∨ hi < x) (ht : (pc : Int) + dflt = (tgt : Int)) (kk : G l μ Φ c0 s0 S (tgt) ls (st) v) : G l μ Φ c0 s0 S (pc) ls (ai x :: st) v := by
  intro p en s m args below meth c H locs D T ea A ad ad0 n0 lsC hC hS
  have hx : iR x := hS.top
  have e := iR_toInt hx
  exact lv_tableOut hC.1 hC.2.1 hd (by rw [e]; omega) ht (kk p en s m args below meth c _ _ D T ea A _ ad0 n0 _ hC (hS.stk fun h => (RAs_cons.mp h).2))
def lg1 (ls : LL) (i : Nat) : Bool := match i with
  | 0 => true
  | i + 1 => match ls[i]? with
    | some (some (.inr (.inr (.inl _)))) => false
    | _ => true
def lpair (ad ea : Nat → Nat) (ls : LL) : List (Nat × Value) := (List.range ls.length).filterMap fun j => match ls[j]? with
  | some (some a) => some (j, tr ad ea a)
  | _ => none
theorem lpair_mem {ad ea : Nat → Nat} {ls : LL} {j : Nat} {a : AV} (h : ls[j]? = some (some a)) : (j, tr ad ea a) ∈ lpair ad ea ls := by
  refine List.mem_filterMap.mpr ⟨j, List.mem_range.mpr (List.getElem?_eq_some_iff.mp h).1, ?_⟩
  rw [h]
theorem lpair_has {ad ea : Nat → Nat} {nL : Nat} {lsC : Array Slot} {ls : LL} (h : LR ad ea nL lsC ls) : lv_has lsC nL (lpair ad ea ls) := by
  refine ⟨h.1, h.2.1, fun q hq => ?_⟩
  obtain ⟨j, -, hj⟩ := List.mem_filterMap.mp hq
  split at hj
  · rename_i a ha
    cases hj
    exact h.2.2 _ _ ha
  · cases hj
theorem lpair_cat {a : AV} {ad ea : Nat → Nat} (h : (tr ad ea a).category = 2) : ∃ y, a = al y := by
  match a with
  | .inl none => cases h
  | .inl (some k) => cases h
  | .inr (.inl x) => cases h
  | .inr (.inr (.inl y)) => exact ⟨y, rfl⟩
  | .inr (.inr (.inr e)) => cases h
theorem lset_LR {ad ea : Nat → Nat} {nL i : Nat} {lsC lsD : Array Slot} {ls : LL} {a : AV} (hg : lg1 ls i = true) (h2 : lv_has lsD nL ((i, tr ad ea a) :: (lpair ad ea ls).filter (fun q => !(q.1 == i) && !(q.1 + 1 == i && q.2.category == 2)))) : LR ad ea nL lsD (ls.set i (some a)) := by
  refine ⟨h2.1, h2.2.1, fun j b hj => ?_⟩
  rw [List.getElem?_set] at hj
  split at hj
  · rename_i hij
    subst hij
    split at hj
    · cases hj
      exact h2.2.2 _ List.mem_cons_self
    · cases hj
  · rename_i hij
    refine h2.2.2 (j, tr ad ea b) (List.mem_cons_of_mem _ (List.mem_filter.mpr ⟨lpair_mem hj, ?_⟩))
    simp only [Bool.and_eq_true, Bool.not_eq_true', Bool.and_eq_false_iff, beq_eq_false_iff_ne, ne_eq]
    refine ⟨fun h => hij h.symm, ?_⟩
    by_cases h1 : j + 1 = i
    · right
      intro hc
      obtain ⟨y, rfl⟩ := lpair_cat (a := b) (ad := ad) (ea := ea) (by simpa using hc)
      subst h1
      simp [lg1, hj] at hg
    · exact Or.inl h1
theorem RAl_set {n i : Nat} {ls : LL} {a : AV} (h : RAl n ls) (ha : RA n a) : RAl n (ls.set i (some a)) := by
  intro j b hj
  rw [List.getElem?_set] at hj
  split at hj
  · split at hj
    · cases hj; exact ha
    · cases hj
  · exact h j b hj
theorem Sx.loc {s : State} {D : va_G} {T : Nat → ClassId} {ea : Nat → Nat} {A : Nat → Prop} {ad0 : Nat → Nat} {n0 : Nat} {H : Heap} {locs : List Loc} {ad : Nat → Nat} {lsC lsD : Array Slot} {ls2 : LL} (h : Sx μ s D T ea A ad0 n0 S ls st v H locs ad lsC) (h1 : RAl S.1 ls2) (h2 : LR ad ea μ.2.2.2.1 lsD ls2) : Sx μ s D T ea A ad0 n0 S ls2 st v H locs ad lsD := ⟨h.1, h.2.1, h.2.2.1, h.2.2.2.1, h1, h.2.2.2.2.2.1, h.2.2.2.2.2.2.1, h.2.2.2.2.2.2.2.1, h2⟩
theorem G_istore_n {i : Fin 4} {x : Int} (hd : decode μ.2.1 pc = .ok (.istore_n i, 1)) (hn : Nat.blt i.1 μ.2.2.2.1 = true) (hg : lg1 ls i.1 = true) (k : G l μ Φ c0 s0 S (pc+1) (ls.set i.1 (some (ai x))) (st) v) : G l μ Φ c0 s0 S (pc) ls (ai x :: st) v := by
  intro p en s m args below meth c H locs D T ea A ad ad0 n0 lsC hC hS
  exact lv_istore_n hC.1 hC.2.1 hd rfl (lpair_has hS.lr) (by simpa using hn) rfl (fun lsD hl => k p en s m args below meth c _ _ D T ea A _ ad0 n0 _ hC ((hS.stk fun h => (RAs_cons.mp h).2).loc (RAl_set hS.2.2.2.2.1 hS.top) (lset_LR (lsC := lsC) (a := ai x) hg hl)))
theorem G_istore {i : Nat} {x : Int} (hd : decode μ.2.1 pc = .ok (.istore i, 2)) (hn : Nat.blt i μ.2.2.2.1 = true) (hg : lg1 ls i = true) (k : G l μ Φ c0 s0 S (pc+2) (ls.set i (some (ai x))) (st) v) : G l μ Φ c0 s0 S (pc) ls (ai x :: st) v := by
  intro p en s m args below meth c H locs D T ea A ad ad0 n0 lsC hC hS
  exact lv_istore hC.1 hC.2.1 hd (lpair_has hS.lr) (by simpa using hn) rfl (fun lsD hl => k p en s m args below meth c _ _ D T ea A _ ad0 n0 _ hC ((hS.stk fun h => (RAs_cons.mp h).2).loc (RAl_set hS.2.2.2.2.1 hS.top) (lset_LR (lsC := lsC) (a := ai x) hg hl)))
theorem G_astore_n {i : Fin 4} {r : Option Nat} (hd : decode μ.2.1 pc = .ok (.astore_n i, 1)) (hn : Nat.blt i.1 μ.2.2.2.1 = true) (hg : lg1 ls i.1 = true) (k : G l μ Φ c0 s0 S (pc+1) (ls.set i.1 (some (ar r))) (st) v) : G l μ Φ c0 s0 S (pc) ls (ar r :: st) v := by
  intro p en s m args below meth c H locs D T ea A ad ad0 n0 lsC hC hS
  cases r with
  | none => exact lv_astore_nN hC.1 hC.2.1 hd rfl (lpair_has hS.lr) (by simpa using hn) rfl (fun lsD hl => k p en s m args below meth c _ _ D T ea A _ ad0 n0 _ hC ((hS.stk fun h => (RAs_cons.mp h).2).loc (RAl_set hS.2.2.2.2.1 hS.top) (lset_LR (lsC := lsC) (a := ar none) hg hl)))
  | some x => exact lv_astore_n hC.1 hC.2.1 hd rfl (lpair_has hS.lr) (by simpa using hn) rfl (fun lsD hl => k p en s m args below meth c _ _ D T ea A _ ad0 n0 _ hC ((hS.stk fun h => (RAs_cons.mp h).2).loc (RAl_set hS.2.2.2.2.1 hS.top) (lset_LR (lsC := lsC) (a := ar (some x)) hg hl)))
theorem G_astore {i : Nat} {r : Option Nat} (hd : decode μ.2.1 pc = .ok (.astore i, 2)) (hn : Nat.blt i μ.2.2.2.1 = true) (hg : lg1 ls i = true) (k : G l μ Φ c0 s0 S (pc+2) (ls.set i (some (ar r))) (st) v) : G l μ Φ c0 s0 S (pc) ls (ar r :: st) v := by
  intro p en s m args below meth c H locs D T ea A ad ad0 n0 lsC hC hS
  cases r with
  | none => exact lv_astoreN hC.1 hC.2.1 hd (lpair_has hS.lr) (by simpa using hn) rfl (fun lsD hl => k p en s m args below meth c _ _ D T ea A _ ad0 n0 _ hC ((hS.stk fun h => (RAs_cons.mp h).2).loc (RAl_set hS.2.2.2.2.1 hS.top) (lset_LR (lsC := lsC) (a := ar none) hg hl)))
  | some x => exact lv_astore hC.1 hC.2.1 hd (lpair_has hS.lr) (by simpa using hn) rfl (fun lsD hl => k p en s m args below meth c _ _ D T ea A _ ad0 n0 _ hC ((hS.stk fun h => (RAs_cons.mp h).2).loc (RAl_set hS.2.2.2.2.1 hS.top) (lset_LR (lsC := lsC) (a := ar (some x)) hg hl)))
theorem G_iinc {i : Nat} {n x : Int} (hd : decode μ.2.1 pc = .ok (.iinc i n, 3)) (hl : ls[i]? = some (some (ai x))) (hr : iR (x + n)) (hn : Nat.blt i μ.2.2.2.1 = true) (hg : lg1 ls i = true) (k : G l μ Φ c0 s0 S (pc+3) (ls.set i (some (ai (x + n)))) (st) v) : G l μ Φ c0 s0 S (pc) ls (st) v := by
  intro p en s m args below meth c H locs D T ea A ad ad0 n0 lsC hC hS
  obtain ⟨q, hq⟩ := List.getElem?_of_mem (lpair_mem (ad := ad) (ea := ea) hl)
  exact lv_iinc (v := Int32.ofInt (x + n)) hC.1 hC.2.1 hd (lpair_has hS.lr) hq (Int32.ofInt_add x n).symm (by simpa using hn) rfl (fun lsD h2 => k p en s m args below meth c _ _ D T ea A _ ad0 n0 _ hC (hS.loc (RAl_set hS.2.2.2.2.1 hr) (lset_LR (lsC := lsC) (a := ai (x + n)) hg h2)))
end GR
end
