section
-- ===== PART A: goes FIRST, ahead of the names: the tables' words, and 'selects' of the private methods out of them =====
/-- a private method of a class that the tables say can be made, by its rows of tables_1 -/
def lw_okq (q : MethodName × Nat) : Prop := (q.1.cls ≠ "java/lang/invoke/MethodHandle" ∧ q.1.cls ≠ "java/lang/invoke/VarHandle") ∧ Cond.instantiable q.1.cls q.2 ∈ tables_1 ∧ Cond.privateMethod q.1 ∈ tables_1 ∧ Cond.instanceMethod q.1 ∈ tables_1
theorem lw_p0 : lw_okq (⟨"WicketBoard$RuleBook", "begin", "()V"⟩, 7) := ⟨⟨by decide +kernel, by decide +kernel⟩, List.mem_of_getElem? (i := 42) (by decide +kernel), List.mem_of_getElem? (i := 205) (by decide +kernel), List.mem_of_getElem? (i := 206) (by decide +kernel)⟩
theorem lw_p1 : lw_okq (⟨"WicketBoard$RuleBook", "take", "(LWicketBoard$Tape;II)V"⟩, 7) := ⟨⟨by decide +kernel, by decide +kernel⟩, List.mem_of_getElem? (i := 42) (by decide +kernel), List.mem_of_getElem? (i := 238) (by decide +kernel), List.mem_of_getElem? (i := 239) (by decide +kernel)⟩
theorem lw_p2 : lw_okq (⟨"WicketBoard$RuleBook", "takeWord", "(LWicketBoard$Tape;II)V"⟩, 7) := ⟨⟨by decide +kernel, by decide +kernel⟩, List.mem_of_getElem? (i := 42) (by decide +kernel), List.mem_of_getElem? (i := 242) (by decide +kernel), List.mem_of_getElem? (i := 243) (by decide +kernel)⟩
theorem lw_p3 : lw_okq (⟨"WicketBoard$RuleBook", "fail", "(II)V"⟩, 7) := ⟨⟨by decide +kernel, by decide +kernel⟩, List.mem_of_getElem? (i := 42) (by decide +kernel), List.mem_of_getElem? (i := 313) (by decide +kernel), List.mem_of_getElem? (i := 314) (by decide +kernel)⟩
theorem lw_p4 : lw_okq (⟨"WicketBoard$RuleBook", "takeNumber", "(LWicketBoard$Tape;II)V"⟩, 7) := ⟨⟨by decide +kernel, by decide +kernel⟩, List.mem_of_getElem? (i := 42) (by decide +kernel), List.mem_of_getElem? (i := 317) (by decide +kernel), List.mem_of_getElem? (i := 318) (by decide +kernel)⟩
theorem lw_p5 : lw_okq (⟨"WicketBoard", "umpireAt", "(I)LWicketBoard$Umpire;"⟩, 10) := ⟨⟨by decide +kernel, by decide +kernel⟩, List.mem_of_getElem? (i := 20) (by decide +kernel), List.mem_of_getElem? (i := 412) (by decide +kernel), List.mem_of_getElem? (i := 413) (by decide +kernel)⟩
theorem lw_p6 : lw_okq (⟨"WicketBoard", "fits", "(LWicketBoard$Umpire;I)Z"⟩, 10) := ⟨⟨by decide +kernel, by decide +kernel⟩, List.mem_of_getElem? (i := 20) (by decide +kernel), List.mem_of_getElem? (i := 435) (by decide +kernel), List.mem_of_getElem? (i := 436) (by decide +kernel)⟩
theorem lw_p7 : lw_okq (⟨"WicketBoard", "gameOf", "(I)LWicketBoard$Game;"⟩, 10) := ⟨⟨by decide +kernel, by decide +kernel⟩, List.mem_of_getElem? (i := 20) (by decide +kernel), List.mem_of_getElem? (i := 439) (by decide +kernel), List.mem_of_getElem? (i := 440) (by decide +kernel)⟩
theorem lw_p8 : lw_okq (⟨"WicketBoard", "isSeat", "(I)Z"⟩, 10) := ⟨⟨by decide +kernel, by decide +kernel⟩, List.mem_of_getElem? (i := 20) (by decide +kernel), List.mem_of_getElem? (i := 443) (by decide +kernel), List.mem_of_getElem? (i := 444) (by decide +kernel)⟩
theorem lw_p9 : lw_okq (⟨"WicketBoard", "price", "(LWicketBoard$Umpire;I)I"⟩, 10) := ⟨⟨by decide +kernel, by decide +kernel⟩, List.mem_of_getElem? (i := 20) (by decide +kernel), List.mem_of_getElem? (i := 474) (by decide +kernel), List.mem_of_getElem? (i := 475) (by decide +kernel)⟩
theorem lw_p10 : lw_okq (⟨"WicketBoard$Sender", "pair", "(II)V"⟩, 12) := ⟨⟨by decide +kernel, by decide +kernel⟩, List.mem_of_getElem? (i := 97) (by decide +kernel), List.mem_of_getElem? (i := 489) (by decide +kernel), List.mem_of_getElem? (i := 490) (by decide +kernel)⟩
theorem lw_p11 : lw_okq (⟨"WicketBoard", "clearSeat", "(I)V"⟩, 10) := ⟨⟨by decide +kernel, by decide +kernel⟩, List.mem_of_getElem? (i := 20) (by decide +kernel), List.mem_of_getElem? (i := 493) (by decide +kernel), List.mem_of_getElem? (i := 494) (by decide +kernel)⟩
theorem lw_p12 : lw_okq (⟨"WicketBoard", "holderOf", "(I)LWicketBoard$Umpire;"⟩, 10) := ⟨⟨by decide +kernel, by decide +kernel⟩, List.mem_of_getElem? (i := 20) (by decide +kernel), List.mem_of_getElem? (i := 497) (by decide +kernel), List.mem_of_getElem? (i := 498) (by decide +kernel)⟩
theorem lw_p13 : lw_okq (⟨"WicketBoard$Sender", "addSeat", "(I)V"⟩, 12) := ⟨⟨by decide +kernel, by decide +kernel⟩, List.mem_of_getElem? (i := 97) (by decide +kernel), List.mem_of_getElem? (i := 509) (by decide +kernel), List.mem_of_getElem? (i := 510) (by decide +kernel)⟩
theorem lw_p14 : lw_okq (⟨"WicketBoard$Sender", "forgetColumns", "()V"⟩, 12) := ⟨⟨by decide +kernel, by decide +kernel⟩, List.mem_of_getElem? (i := 97) (by decide +kernel), List.mem_of_getElem? (i := 513) (by decide +kernel), List.mem_of_getElem? (i := 514) (by decide +kernel)⟩
theorem lw_p15 : lw_okq (⟨"WicketBoard$Sender", "reach", "(II)V"⟩, 12) := ⟨⟨by decide +kernel, by decide +kernel⟩, List.mem_of_getElem? (i := 97) (by decide +kernel), List.mem_of_getElem? (i := 518) (by decide +kernel), List.mem_of_getElem? (i := 519) (by decide +kernel)⟩
def lw_privs_1 : List (MethodName × Nat) := [(⟨"WicketBoard$RuleBook", "begin", "()V"⟩, 7), (⟨"WicketBoard$RuleBook", "take", "(LWicketBoard$Tape;II)V"⟩, 7), (⟨"WicketBoard$RuleBook", "takeWord", "(LWicketBoard$Tape;II)V"⟩, 7), (⟨"WicketBoard$RuleBook", "fail", "(II)V"⟩, 7), (⟨"WicketBoard$RuleBook", "takeNumber", "(LWicketBoard$Tape;II)V"⟩, 7), (⟨"WicketBoard", "umpireAt", "(I)LWicketBoard$Umpire;"⟩, 10), (⟨"WicketBoard", "fits", "(LWicketBoard$Umpire;I)Z"⟩, 10), (⟨"WicketBoard", "gameOf", "(I)LWicketBoard$Game;"⟩, 10), (⟨"WicketBoard", "isSeat", "(I)Z"⟩, 10), (⟨"WicketBoard", "price", "(LWicketBoard$Umpire;I)I"⟩, 10), (⟨"WicketBoard$Sender", "pair", "(II)V"⟩, 12), (⟨"WicketBoard", "clearSeat", "(I)V"⟩, 10), (⟨"WicketBoard", "holderOf", "(I)LWicketBoard$Umpire;"⟩, 10), (⟨"WicketBoard$Sender", "addSeat", "(I)V"⟩, 12), (⟨"WicketBoard$Sender", "forgetColumns", "()V"⟩, 12), (⟨"WicketBoard$Sender", "reach", "(II)V"⟩, 12)]
theorem lw_r1 : ∀ q ∈ lw_privs_1, lw_okq q := List.forall_mem_cons.mpr ⟨lw_p0, List.forall_mem_cons.mpr ⟨lw_p1, List.forall_mem_cons.mpr ⟨lw_p2, List.forall_mem_cons.mpr ⟨lw_p3, List.forall_mem_cons.mpr ⟨lw_p4, List.forall_mem_cons.mpr ⟨lw_p5, List.forall_mem_cons.mpr ⟨lw_p6, List.forall_mem_cons.mpr ⟨lw_p7, List.forall_mem_cons.mpr ⟨lw_p8, List.forall_mem_cons.mpr ⟨lw_p9, List.forall_mem_cons.mpr ⟨lw_p10, List.forall_mem_cons.mpr ⟨lw_p11, List.forall_mem_cons.mpr ⟨lw_p12, List.forall_mem_cons.mpr ⟨lw_p13, List.forall_mem_cons.mpr ⟨lw_p14, List.forall_mem_cons.mpr ⟨lw_p15, fun _ h => absurd h List.not_mem_nil⟩⟩⟩⟩⟩⟩⟩⟩⟩⟩⟩⟩⟩⟩⟩⟩
theorem lw_p16 : lw_okq (⟨"WicketBoard$Sender", "gap", "(II)I"⟩, 12) := ⟨⟨by decide +kernel, by decide +kernel⟩, List.mem_of_getElem? (i := 97) (by decide +kernel), List.mem_of_getElem? (i := 522) (by decide +kernel), List.mem_of_getElem? (i := 523) (by decide +kernel)⟩
theorem lw_p17 : lw_okq (⟨"WicketBoard$Sender", "nearest", "()I"⟩, 12) := ⟨⟨by decide +kernel, by decide +kernel⟩, List.mem_of_getElem? (i := 97) (by decide +kernel), List.mem_of_getElem? (i := 527) (by decide +kernel), List.mem_of_getElem? (i := 528) (by decide +kernel)⟩
theorem lw_p18 : lw_okq (⟨"WicketBoard$Sender", "shiftParts", "(II)V"⟩, 12) := ⟨⟨by decide +kernel, by decide +kernel⟩, List.mem_of_getElem? (i := 97) (by decide +kernel), List.mem_of_getElem? (i := 531) (by decide +kernel), List.mem_of_getElem? (i := 532) (by decide +kernel)⟩
theorem lw_p19 : lw_okq (⟨"WicketBoard$Sender", "moveAlong", "(II)V"⟩, 12) := ⟨⟨by decide +kernel, by decide +kernel⟩, List.mem_of_getElem? (i := 97) (by decide +kernel), List.mem_of_getElem? (i := 535) (by decide +kernel), List.mem_of_getElem? (i := 536) (by decide +kernel)⟩
theorem lw_p20 : lw_okq (⟨"WicketBoard$Sender", "takeFirst", "(I)V"⟩, 12) := ⟨⟨by decide +kernel, by decide +kernel⟩, List.mem_of_getElem? (i := 97) (by decide +kernel), List.mem_of_getElem? (i := 539) (by decide +kernel), List.mem_of_getElem? (i := 540) (by decide +kernel)⟩
theorem lw_p21 : lw_okq (⟨"WicketBoard$Sender", "firstTight", "(IIZ)I"⟩, 12) := ⟨⟨by decide +kernel, by decide +kernel⟩, List.mem_of_getElem? (i := 97) (by decide +kernel), List.mem_of_getElem? (i := 543) (by decide +kernel), List.mem_of_getElem? (i := 544) (by decide +kernel)⟩
theorem lw_p22 : lw_okq (⟨"WicketBoard$Sender", "findMovable", "(II)V"⟩, 12) := ⟨⟨by decide +kernel, by decide +kernel⟩, List.mem_of_getElem? (i := 97) (by decide +kernel), List.mem_of_getElem? (i := 547) (by decide +kernel), List.mem_of_getElem? (i := 548) (by decide +kernel)⟩
theorem lw_p23 : lw_okq (⟨"WicketBoard", "fillSeat", "(II)V"⟩, 10) := ⟨⟨by decide +kernel, by decide +kernel⟩, List.mem_of_getElem? (i := 20) (by decide +kernel), List.mem_of_getElem? (i := 555) (by decide +kernel), List.mem_of_getElem? (i := 556) (by decide +kernel)⟩
theorem lw_p24 : lw_okq (⟨"WicketBoard", "filledSeats", "()I"⟩, 10) := ⟨⟨by decide +kernel, by decide +kernel⟩, List.mem_of_getElem? (i := 20) (by decide +kernel), List.mem_of_getElem? (i := 559) (by decide +kernel), List.mem_of_getElem? (i := 560) (by decide +kernel)⟩
theorem lw_p25 : lw_okq (⟨"WicketBoard", "cheapestFree", "(I)I"⟩, 10) := ⟨⟨by decide +kernel, by decide +kernel⟩, List.mem_of_getElem? (i := 20) (by decide +kernel), List.mem_of_getElem? (i := 567) (by decide +kernel), List.mem_of_getElem? (i := 568) (by decide +kernel)⟩
theorem lw_p26 : lw_okq (⟨"WicketBoard", "fillByMove", "(I)Z"⟩, 10) := ⟨⟨by decide +kernel, by decide +kernel⟩, List.mem_of_getElem? (i := 20) (by decide +kernel), List.mem_of_getElem? (i := 571) (by decide +kernel), List.mem_of_getElem? (i := 572) (by decide +kernel)⟩
theorem lw_p27 : lw_okq (⟨"WicketBoard", "endSeat", "(I)V"⟩, 10) := ⟨⟨by decide +kernel, by decide +kernel⟩, List.mem_of_getElem? (i := 20) (by decide +kernel), List.mem_of_getElem? (i := 591) (by decide +kernel), List.mem_of_getElem? (i := 592) (by decide +kernel)⟩
theorem lw_p28 : lw_okq (⟨"WicketBoard", "regrade", "(LWicketBoard$Umpire;)V"⟩, 10) := ⟨⟨by decide +kernel, by decide +kernel⟩, List.mem_of_getElem? (i := 20) (by decide +kernel), List.mem_of_getElem? (i := 599) (by decide +kernel), List.mem_of_getElem? (i := 600) (by decide +kernel)⟩
theorem lw_p29 : lw_okq (⟨"java/lang/Throwable", "fillInStackTrace", "(I)Ljava/lang/Throwable;"⟩, 6) := ⟨⟨by decide +kernel, by decide +kernel⟩, List.mem_of_getElem? (i := 665) (by decide +kernel), List.mem_of_getElem? (i := 663) (by decide +kernel), List.mem_of_getElem? (i := 664) (by decide +kernel)⟩
theorem lw_p30 : lw_okq (⟨"WicketBoardModel", "come", "(I)V"⟩, 46) := ⟨⟨by decide +kernel, by decide +kernel⟩, List.mem_of_getElem? (i := 695) (by decide +kernel), List.mem_of_getElem? (i := 848) (by decide +kernel), List.mem_of_getElem? (i := 849) (by decide +kernel)⟩
theorem lw_p31 : lw_okq (⟨"WicketBoardModel", "go", "()V"⟩, 46) := ⟨⟨by decide +kernel, by decide +kernel⟩, List.mem_of_getElem? (i := 695) (by decide +kernel), List.mem_of_getElem? (i := 860) (by decide +kernel), List.mem_of_getElem? (i := 861) (by decide +kernel)⟩
def lw_privs_2 : List (MethodName × Nat) := [(⟨"WicketBoard$Sender", "gap", "(II)I"⟩, 12), (⟨"WicketBoard$Sender", "nearest", "()I"⟩, 12), (⟨"WicketBoard$Sender", "shiftParts", "(II)V"⟩, 12), (⟨"WicketBoard$Sender", "moveAlong", "(II)V"⟩, 12), (⟨"WicketBoard$Sender", "takeFirst", "(I)V"⟩, 12), (⟨"WicketBoard$Sender", "firstTight", "(IIZ)I"⟩, 12), (⟨"WicketBoard$Sender", "findMovable", "(II)V"⟩, 12), (⟨"WicketBoard", "fillSeat", "(II)V"⟩, 10), (⟨"WicketBoard", "filledSeats", "()I"⟩, 10), (⟨"WicketBoard", "cheapestFree", "(I)I"⟩, 10), (⟨"WicketBoard", "fillByMove", "(I)Z"⟩, 10), (⟨"WicketBoard", "endSeat", "(I)V"⟩, 10), (⟨"WicketBoard", "regrade", "(LWicketBoard$Umpire;)V"⟩, 10), (⟨"java/lang/Throwable", "fillInStackTrace", "(I)Ljava/lang/Throwable;"⟩, 6), (⟨"WicketBoardModel", "come", "(I)V"⟩, 46), (⟨"WicketBoardModel", "go", "()V"⟩, 46)]
theorem lw_r2 : ∀ q ∈ lw_privs_2, lw_okq q := List.forall_mem_cons.mpr ⟨lw_p16, List.forall_mem_cons.mpr ⟨lw_p17, List.forall_mem_cons.mpr ⟨lw_p18, List.forall_mem_cons.mpr ⟨lw_p19, List.forall_mem_cons.mpr ⟨lw_p20, List.forall_mem_cons.mpr ⟨lw_p21, List.forall_mem_cons.mpr ⟨lw_p22, List.forall_mem_cons.mpr ⟨lw_p23, List.forall_mem_cons.mpr ⟨lw_p24, List.forall_mem_cons.mpr ⟨lw_p25, List.forall_mem_cons.mpr ⟨lw_p26, List.forall_mem_cons.mpr ⟨lw_p27, List.forall_mem_cons.mpr ⟨lw_p28, List.forall_mem_cons.mpr ⟨lw_p29, List.forall_mem_cons.mpr ⟨lw_p30, List.forall_mem_cons.mpr ⟨lw_p31, fun _ h => absurd h List.not_mem_nil⟩⟩⟩⟩⟩⟩⟩⟩⟩⟩⟩⟩⟩⟩⟩⟩
theorem lw_p32 : lw_okq (⟨"WicketBoardModel", "byteAt", "(I)I"⟩, 46) := ⟨⟨by decide +kernel, by decide +kernel⟩, List.mem_of_getElem? (i := 695) (by decide +kernel), List.mem_of_getElem? (i := 870) (by decide +kernel), List.mem_of_getElem? (i := 871) (by decide +kernel)⟩
theorem lw_p33 : lw_okq (⟨"WicketBoardModel", "readRule", "()Z"⟩, 46) := ⟨⟨by decide +kernel, by decide +kernel⟩, List.mem_of_getElem? (i := 695) (by decide +kernel), List.mem_of_getElem? (i := 877) (by decide +kernel), List.mem_of_getElem? (i := 878) (by decide +kernel)⟩
theorem lw_p34 : lw_okq (⟨"WicketBoardModel", "ruleAtHand", "()I"⟩, 46) := ⟨⟨by decide +kernel, by decide +kernel⟩, List.mem_of_getElem? (i := 695) (by decide +kernel), List.mem_of_getElem? (i := 881) (by decide +kernel), List.mem_of_getElem? (i := 882) (by decide +kernel)⟩
theorem lw_p35 : lw_okq (⟨"WicketBoardModel", "isKey", "(J)Z"⟩, 46) := ⟨⟨by decide +kernel, by decide +kernel⟩, List.mem_of_getElem? (i := 695) (by decide +kernel), List.mem_of_getElem? (i := 888) (by decide +kernel), List.mem_of_getElem? (i := 889) (by decide +kernel)⟩
theorem lw_p36 : lw_okq (⟨"WicketBoardModel", "bad", "(I)Z"⟩, 46) := ⟨⟨by decide +kernel, by decide +kernel⟩, List.mem_of_getElem? (i := 695) (by decide +kernel), List.mem_of_getElem? (i := 893) (by decide +kernel), List.mem_of_getElem? (i := 894) (by decide +kernel)⟩
theorem lw_p37 : lw_okq (⟨"WicketBoardModel", "isUmpire", "(I)Z"⟩, 46) := ⟨⟨by decide +kernel, by decide +kernel⟩, List.mem_of_getElem? (i := 695) (by decide +kernel), List.mem_of_getElem? (i := 916) (by decide +kernel), List.mem_of_getElem? (i := 917) (by decide +kernel)⟩
theorem lw_p38 : lw_okq (⟨"WicketBoardModel", "seatOf", "(I)I"⟩, 46) := ⟨⟨by decide +kernel, by decide +kernel⟩, List.mem_of_getElem? (i := 695) (by decide +kernel), List.mem_of_getElem? (i := 920) (by decide +kernel), List.mem_of_getElem? (i := 921) (by decide +kernel)⟩
theorem lw_p39 : lw_okq (⟨"WicketBoardModel", "isSeat", "(I)Z"⟩, 46) := ⟨⟨by decide +kernel, by decide +kernel⟩, List.mem_of_getElem? (i := 695) (by decide +kernel), List.mem_of_getElem? (i := 932) (by decide +kernel), List.mem_of_getElem? (i := 933) (by decide +kernel)⟩
theorem lw_p40 : lw_okq (⟨"WicketBoardModel", "mayHave", "(II)Z"⟩, 46) := ⟨⟨by decide +kernel, by decide +kernel⟩, List.mem_of_getElem? (i := 695) (by decide +kernel), List.mem_of_getElem? (i := 936) (by decide +kernel), List.mem_of_getElem? (i := 937) (by decide +kernel)⟩
theorem lw_p41 : lw_okq (⟨"WicketBoardModel", "miles", "(II)I"⟩, 46) := ⟨⟨by decide +kernel, by decide +kernel⟩, List.mem_of_getElem? (i := 695) (by decide +kernel), List.mem_of_getElem? (i := 940) (by decide +kernel), List.mem_of_getElem? (i := 941) (by decide +kernel)⟩
theorem lw_p42 : lw_okq (⟨"WicketBoardModel", "costOf", "(II)I"⟩, 46) := ⟨⟨by decide +kernel, by decide +kernel⟩, List.mem_of_getElem? (i := 695) (by decide +kernel), List.mem_of_getElem? (i := 951) (by decide +kernel), List.mem_of_getElem? (i := 952) (by decide +kernel)⟩
theorem lw_p43 : lw_okq (⟨"WicketBoardModel", "settle", "()V"⟩, 46) := ⟨⟨by decide +kernel, by decide +kernel⟩, List.mem_of_getElem? (i := 695) (by decide +kernel), List.mem_of_getElem? (i := 959) (by decide +kernel), List.mem_of_getElem? (i := 960) (by decide +kernel)⟩
theorem lw_p44 : lw_okq (⟨"WicketBoardModel", "seek", "(I)V"⟩, 46) := ⟨⟨by decide +kernel, by decide +kernel⟩, List.mem_of_getElem? (i := 695) (by decide +kernel), List.mem_of_getElem? (i := 964) (by decide +kernel), List.mem_of_getElem? (i := 965) (by decide +kernel)⟩
theorem lw_p45 : lw_okq (⟨"WicketBoardModel", "pays", "(I)I"⟩, 46) := ⟨⟨by decide +kernel, by decide +kernel⟩, List.mem_of_getElem? (i := 695) (by decide +kernel), List.mem_of_getElem? (i := 969) (by decide +kernel), List.mem_of_getElem? (i := 970) (by decide +kernel)⟩
theorem lw_p46 : lw_okq (⟨"WicketBoardModel", "change", "(I)V"⟩, 46) := ⟨⟨by decide +kernel, by decide +kernel⟩, List.mem_of_getElem? (i := 695) (by decide +kernel), List.mem_of_getElem? (i := 973) (by decide +kernel), List.mem_of_getElem? (i := 974) (by decide +kernel)⟩
theorem lw_p47 : lw_okq (⟨"WicketBoardModel", "lessen", "(II)V"⟩, 46) := ⟨⟨by decide +kernel, by decide +kernel⟩, List.mem_of_getElem? (i := 695) (by decide +kernel), List.mem_of_getElem? (i := 977) (by decide +kernel), List.mem_of_getElem? (i := 978) (by decide +kernel)⟩
def lw_privs_3 : List (MethodName × Nat) := [(⟨"WicketBoardModel", "byteAt", "(I)I"⟩, 46), (⟨"WicketBoardModel", "readRule", "()Z"⟩, 46), (⟨"WicketBoardModel", "ruleAtHand", "()I"⟩, 46), (⟨"WicketBoardModel", "isKey", "(J)Z"⟩, 46), (⟨"WicketBoardModel", "bad", "(I)Z"⟩, 46), (⟨"WicketBoardModel", "isUmpire", "(I)Z"⟩, 46), (⟨"WicketBoardModel", "seatOf", "(I)I"⟩, 46), (⟨"WicketBoardModel", "isSeat", "(I)Z"⟩, 46), (⟨"WicketBoardModel", "mayHave", "(II)Z"⟩, 46), (⟨"WicketBoardModel", "miles", "(II)I"⟩, 46), (⟨"WicketBoardModel", "costOf", "(II)I"⟩, 46), (⟨"WicketBoardModel", "settle", "()V"⟩, 46), (⟨"WicketBoardModel", "seek", "(I)V"⟩, 46), (⟨"WicketBoardModel", "pays", "(I)I"⟩, 46), (⟨"WicketBoardModel", "change", "(I)V"⟩, 46), (⟨"WicketBoardModel", "lessen", "(II)V"⟩, 46)]
theorem lw_r3 : ∀ q ∈ lw_privs_3, lw_okq q := List.forall_mem_cons.mpr ⟨lw_p32, List.forall_mem_cons.mpr ⟨lw_p33, List.forall_mem_cons.mpr ⟨lw_p34, List.forall_mem_cons.mpr ⟨lw_p35, List.forall_mem_cons.mpr ⟨lw_p36, List.forall_mem_cons.mpr ⟨lw_p37, List.forall_mem_cons.mpr ⟨lw_p38, List.forall_mem_cons.mpr ⟨lw_p39, List.forall_mem_cons.mpr ⟨lw_p40, List.forall_mem_cons.mpr ⟨lw_p41, List.forall_mem_cons.mpr ⟨lw_p42, List.forall_mem_cons.mpr ⟨lw_p43, List.forall_mem_cons.mpr ⟨lw_p44, List.forall_mem_cons.mpr ⟨lw_p45, List.forall_mem_cons.mpr ⟨lw_p46, List.forall_mem_cons.mpr ⟨lw_p47, fun _ h => absurd h List.not_mem_nil⟩⟩⟩⟩⟩⟩⟩⟩⟩⟩⟩⟩⟩⟩⟩⟩
theorem lw_p48 : lw_okq (⟨"WicketBoardModel", "placeOf", "(I)I"⟩, 46) := ⟨⟨by decide +kernel, by decide +kernel⟩, List.mem_of_getElem? (i := 695) (by decide +kernel), List.mem_of_getElem? (i := 981) (by decide +kernel), List.mem_of_getElem? (i := 982) (by decide +kernel)⟩
theorem lw_p49 : lw_okq (⟨"WicketBoardModel", "ways", "(III)V"⟩, 46) := ⟨⟨by decide +kernel, by decide +kernel⟩, List.mem_of_getElem? (i := 695) (by decide +kernel), List.mem_of_getElem? (i := 985) (by decide +kernel), List.mem_of_getElem? (i := 986) (by decide +kernel)⟩
theorem lw_p50 : lw_okq (⟨"WicketBoardModel", "moves", "(I)V"⟩, 46) := ⟨⟨by decide +kernel, by decide +kernel⟩, List.mem_of_getElem? (i := 695) (by decide +kernel), List.mem_of_getElem? (i := 989) (by decide +kernel), List.mem_of_getElem? (i := 990) (by decide +kernel)⟩
theorem lw_p51 : lw_okq (⟨"WicketBoardModel", "offer", "(IIII)V"⟩, 46) := ⟨⟨by decide +kernel, by decide +kernel⟩, List.mem_of_getElem? (i := 695) (by decide +kernel), List.mem_of_getElem? (i := 993) (by decide +kernel), List.mem_of_getElem? (i := 994) (by decide +kernel)⟩
theorem lw_p52 : lw_okq (⟨"WicketBoardModel", "filled", "()I"⟩, 46) := ⟨⟨by decide +kernel, by decide +kernel⟩, List.mem_of_getElem? (i := 695) (by decide +kernel), List.mem_of_getElem? (i := 997) (by decide +kernel), List.mem_of_getElem? (i := 998) (by decide +kernel)⟩
theorem lw_p53 : lw_okq (⟨"WicketBoardModel", "spare", "(I)I"⟩, 46) := ⟨⟨by decide +kernel, by decide +kernel⟩, List.mem_of_getElem? (i := 695) (by decide +kernel), List.mem_of_getElem? (i := 1005) (by decide +kernel), List.mem_of_getElem? (i := 1006) (by decide +kernel)⟩
theorem lw_p54 : lw_okq (⟨"WicketBoardModel", "refuse", "()I"⟩, 46) := ⟨⟨by decide +kernel, by decide +kernel⟩, List.mem_of_getElem? (i := 695) (by decide +kernel), List.mem_of_getElem? (i := 1025) (by decide +kernel), List.mem_of_getElem? (i := 1026) (by decide +kernel)⟩
def lw_privs_4 : List (MethodName × Nat) := [(⟨"WicketBoardModel", "placeOf", "(I)I"⟩, 46), (⟨"WicketBoardModel", "ways", "(III)V"⟩, 46), (⟨"WicketBoardModel", "moves", "(I)V"⟩, 46), (⟨"WicketBoardModel", "offer", "(IIII)V"⟩, 46), (⟨"WicketBoardModel", "filled", "()I"⟩, 46), (⟨"WicketBoardModel", "spare", "(I)I"⟩, 46), (⟨"WicketBoardModel", "refuse", "()I"⟩, 46)]
theorem lw_r4 : ∀ q ∈ lw_privs_4, lw_okq q := List.forall_mem_cons.mpr ⟨lw_p48, List.forall_mem_cons.mpr ⟨lw_p49, List.forall_mem_cons.mpr ⟨lw_p50, List.forall_mem_cons.mpr ⟨lw_p51, List.forall_mem_cons.mpr ⟨lw_p52, List.forall_mem_cons.mpr ⟨lw_p53, List.forall_mem_cons.mpr ⟨lw_p54, fun _ h => absurd h List.not_mem_nil⟩⟩⟩⟩⟩⟩⟩
def lw_privs : List (MethodName × Nat) := lw_privs_1 ++ (lw_privs_2 ++ (lw_privs_3 ++ (lw_privs_4)))
def lw_tbl : List Cond := k2_sels lw_privs ++ tables_1
theorem lw_privs_ok : ∀ q ∈ lw_privs, lw_okq q := by
  show ∀ q ∈ lw_privs_1 ++ (lw_privs_2 ++ (lw_privs_3 ++ (lw_privs_4))), lw_okq q
  exact List.forall_mem_append.mpr ⟨lw_r1, List.forall_mem_append.mpr ⟨lw_r2, List.forall_mem_append.mpr ⟨lw_r3, lw_r4⟩⟩⟩
end
section
def RX0 : String := "WicketBoard$Game"
def TX0 : u_T := fun k => match k with
  | 0 => ("WicketBoard$Game", "x", "I", false)
  | 1 => ("WicketBoard$Game", "y", "I", false)
  | 2 => ("WicketBoard$Game", "clubs", "I", false)
  | _ => ("WicketBoard$Game", "level", "I", false)
def tyX0 : Nat → FieldType := fun k => match k with
  | 0 => .int
  | 1 => .int
  | 2 => .int
  | _ => .int
theorem nmX0 : ∀ a, a < 4 → ∀ b, b < 4 → a ≠ b → (TX0 a).2.1 ≠ (TX0 b).2.1 := by decide +kernel
theorem tyX0_ok : ∀ k, k < 4 → parseFieldDescriptor (TX0 k).2.2.1 = some (tyX0 k) := by decide +kernel
abbrev cX0_init : ByteArray := prog_2_method_1_code
def yX0_init : MethodName := ⟨RX0, "<init>", "()V"⟩
abbrev cX0_set : ByteArray := prog_2_method_2_code
def yX0_set : MethodName := ⟨RX0, "set", "(IIII)V"⟩
abbrev cX0_milesTo : ByteArray := prog_2_method_3_code
def yX0_milesTo : MethodName := ⟨RX0, "milesTo", "(LWicketBoard$Umpire;)I"⟩
def RX1 : String := "WicketBoard$RuleBook"
def TX1 : u_T := fun k => match k with
  | 0 => ("WicketBoard$RuleBook", "values", "[I", true)
  | 1 => ("WicketBoard$RuleBook", "draft", "[I", true)
  | 2 => ("WicketBoard$RuleBook", "awaited", "I", false)
  | 3 => ("WicketBoard$RuleBook", "current", "I", false)
  | 4 => ("WicketBoard$RuleBook", "told", "I", false)
  | 5 => ("WicketBoard$RuleBook", "kind", "I", false)
  | _ => ("WicketBoard$RuleBook", "place", "I", false)
def tyX1 : Nat → FieldType := fun k => match k with
  | 0 => .array .int
  | 1 => .array .int
  | 2 => .int
  | 3 => .int
  | 4 => .int
  | 5 => .int
  | _ => .int
theorem nmX1 : ∀ a, a < 7 → ∀ b, b < 7 → a ≠ b → (TX1 a).2.1 ≠ (TX1 b).2.1 := by decide +kernel
theorem tyX1_ok : ∀ k, k < 7 → parseFieldDescriptor (TX1 k).2.2.1 = some (tyX1 k) := by decide +kernel
abbrev cX1_init : ByteArray := prog_3_method_1_code
def yX1_init : MethodName := ⟨RX1, "<init>", "()V"⟩
abbrev cX1_value : ByteArray := prog_3_method_2_code
def yX1_value : MethodName := ⟨RX1, "value", "(I)I"⟩
abbrev cX1_faultKind : ByteArray := prog_3_method_3_code
def yX1_faultKind : MethodName := ⟨RX1, "faultKind", "()I"⟩
abbrev cX1_read : ByteArray := prog_3_method_4_code
def yX1_read : MethodName := ⟨RX1, "read", "(LWicketBoard$Tape;)I"⟩
abbrev cX1_begin : ByteArray := prog_3_method_5_code
def yX1_begin : MethodName := ⟨RX1, "begin", "()V"⟩
abbrev cX1_fail : ByteArray := prog_3_method_6_code
def yX1_fail : MethodName := ⟨RX1, "fail", "(II)V"⟩
abbrev cX1_endOfToken : ByteArray := prog_3_method_7_code
def yX1_endOfToken : MethodName := ⟨RX1, "endOfToken", "(LWicketBoard$Tape;I)I"⟩
abbrev cX1_take : ByteArray := prog_3_method_8_code
def yX1_take : MethodName := ⟨RX1, "take", "(LWicketBoard$Tape;II)V"⟩
abbrev cX1_takeWord : ByteArray := prog_3_method_9_code
def yX1_takeWord : MethodName := ⟨RX1, "takeWord", "(LWicketBoard$Tape;II)V"⟩
abbrev cX1_takeNumber : ByteArray := prog_3_method_10_code
def yX1_takeNumber : MethodName := ⟨RX1, "takeNumber", "(LWicketBoard$Tape;II)V"⟩
abbrev cX1_kindOfWord : ByteArray := prog_3_method_11_code
def yX1_kindOfWord : MethodName := ⟨RX1, "kindOfWord", "(LWicketBoard$Tape;II)I"⟩
abbrev cX1_isWord : ByteArray := prog_3_method_12_code
def yX1_isWord : MethodName := ⟨RX1, "isWord", "(LWicketBoard$Tape;IILjava/lang/String;)Z"⟩
abbrev cX1_wordOf : ByteArray := prog_3_method_13_code
def yX1_wordOf : MethodName := ⟨RX1, "wordOf", "(I)Ljava/lang/String;"⟩
abbrev cX1_numberOf : ByteArray := prog_3_method_14_code
def yX1_numberOf : MethodName := ⟨RX1, "numberOf", "(LWicketBoard$Tape;II)I"⟩
def RX2 : String := "WicketBoard$Sender"
def TX2 : u_T := fun k => match k with
  | 0 => ("WicketBoard$Sender", "prices", "[I", true)
  | 1 => ("WicketBoard$Sender", "columnOf", "[I", true)
  | 2 => ("WicketBoard$Sender", "rowOf", "[I", true)
  | 3 => ("WicketBoard$Sender", "rowPart", "[I", true)
  | 4 => ("WicketBoard$Sender", "columnPart", "[I", true)
  | 5 => ("WicketBoard$Sender", "slack", "[I", true)
  | 6 => ("WicketBoard$Sender", "link", "[I", true)
  | 7 => ("WicketBoard$Sender", "queue", "[I", true)
  | 8 => ("WicketBoard$Sender", "seen", "[Z", true)
  | 9 => ("WicketBoard$Sender", "seats", "I", false)
  | 10 => ("WicketBoard$Sender", "people", "I", false)
  | _ => ("WicketBoard$Sender", "size", "I", false)
def tyX2 : Nat → FieldType := fun k => match k with
  | 0 => .array .int
  | 1 => .array .int
  | 2 => .array .int
  | 3 => .array .int
  | 4 => .array .int
  | 5 => .array .int
  | 6 => .array .int
  | 7 => .array .int
  | 8 => .array .boolean
  | 9 => .int
  | 10 => .int
  | _ => .int
theorem nmX2 : ∀ a, a < 12 → ∀ b, b < 12 → a ≠ b → (TX2 a).2.1 ≠ (TX2 b).2.1 := by decide +kernel
theorem tyX2_ok : ∀ k, k < 12 → parseFieldDescriptor (TX2 k).2.2.1 = some (tyX2 k) := by decide +kernel
abbrev cX2_init : ByteArray := prog_4_method_1_code
def yX2_init : MethodName := ⟨RX2, "<init>", "()V"⟩
abbrev cX2_begin : ByteArray := prog_4_method_2_code
def yX2_begin : MethodName := ⟨RX2, "begin", "(II)V"⟩
abbrev cX2_allow : ByteArray := prog_4_method_3_code
def yX2_allow : MethodName := ⟨RX2, "allow", "(III)V"⟩
abbrev cX2_settle : ByteArray := prog_4_method_4_code
def yX2_settle : MethodName := ⟨RX2, "settle", "()V"⟩
abbrev cX2_umpireFor : ByteArray := prog_4_method_5_code
def yX2_umpireFor : MethodName := ⟨RX2, "umpireFor", "(I)I"⟩
abbrev cX2_pair : ByteArray := prog_4_method_6_code
def yX2_pair : MethodName := ⟨RX2, "pair", "(II)V"⟩
abbrev cX2_gap : ByteArray := prog_4_method_7_code
def yX2_gap : MethodName := ⟨RX2, "gap", "(II)I"⟩
abbrev cX2_forgetColumns : ByteArray := prog_4_method_8_code
def yX2_forgetColumns : MethodName := ⟨RX2, "forgetColumns", "()V"⟩
abbrev cX2_addSeat : ByteArray := prog_4_method_9_code
def yX2_addSeat : MethodName := ⟨RX2, "addSeat", "(I)V"⟩
abbrev cX2_reach : ByteArray := prog_4_method_10_code
def yX2_reach : MethodName := ⟨RX2, "reach", "(II)V"⟩
abbrev cX2_nearest : ByteArray := prog_4_method_11_code
def yX2_nearest : MethodName := ⟨RX2, "nearest", "()I"⟩
abbrev cX2_shiftParts : ByteArray := prog_4_method_12_code
def yX2_shiftParts : MethodName := ⟨RX2, "shiftParts", "(II)V"⟩
abbrev cX2_moveAlong : ByteArray := prog_4_method_13_code
def yX2_moveAlong : MethodName := ⟨RX2, "moveAlong", "(II)V"⟩
abbrev cX2_takeFirst : ByteArray := prog_4_method_14_code
def yX2_takeFirst : MethodName := ⟨RX2, "takeFirst", "(I)V"⟩
abbrev cX2_firstTight : ByteArray := prog_4_method_15_code
def yX2_firstTight : MethodName := ⟨RX2, "firstTight", "(IIZ)I"⟩
abbrev cX2_findMovable : ByteArray := prog_4_method_16_code
def yX2_findMovable : MethodName := ⟨RX2, "findMovable", "(II)V"⟩
def RX3 : String := "WicketBoard$Tape"
def TX3 : u_T := fun k => match k with
  | 0 => ("WicketBoard$Tape", "bytes", "[B", true)
  | _ => ("WicketBoard$Tape", "length", "I", false)
def tyX3 : Nat → FieldType := fun k => match k with
  | 0 => .array .byte
  | _ => .int
theorem nmX3 : ∀ a, a < 2 → ∀ b, b < 2 → a ≠ b → (TX3 a).2.1 ≠ (TX3 b).2.1 := by decide +kernel
theorem tyX3_ok : ∀ k, k < 2 → parseFieldDescriptor (TX3 k).2.2.1 = some (tyX3 k) := by decide +kernel
abbrev cX3_init : ByteArray := prog_5_method_1_code
def yX3_init : MethodName := ⟨RX3, "<init>", "()V"⟩
abbrev cX3_length : ByteArray := prog_5_method_2_code
def yX3_length : MethodName := ⟨RX3, "length", "()I"⟩
abbrev cX3_hasRoom : ByteArray := prog_5_method_3_code
def yX3_hasRoom : MethodName := ⟨RX3, "hasRoom", "(I)Z"⟩
abbrev cX3_append : ByteArray := prog_5_method_4_code
def yX3_append : MethodName := ⟨RX3, "append", "(I)V"⟩
abbrev cX3_cut : ByteArray := prog_5_method_5_code
def yX3_cut : MethodName := ⟨RX3, "cut", "(I)Z"⟩
abbrev cX3_byteAt : ByteArray := prog_5_method_6_code
def yX3_byteAt : MethodName := ⟨RX3, "byteAt", "(I)I"⟩
abbrev cX3_isBlank : ByteArray := prog_5_method_7_code
def yX3_isBlank : MethodName := ⟨RX3, "isBlank", "(I)Z"⟩
abbrev cX3_isLetter : ByteArray := prog_5_method_8_code
def yX3_isLetter : MethodName := ⟨RX3, "isLetter", "(I)Z"⟩
abbrev cX3_isDigit : ByteArray := prog_5_method_9_code
def yX3_isDigit : MethodName := ⟨RX3, "isDigit", "(I)Z"⟩
def RX4 : String := "WicketBoard$Umpire"
def TX4 : u_T := fun k => match k with
  | 0 => ("WicketBoard$Umpire", "x", "I", true)
  | 1 => ("WicketBoard$Umpire", "y", "I", true)
  | 2 => ("WicketBoard$Umpire", "barred", "I", true)
  | 3 => ("WicketBoard$Umpire", "grade", "I", false)
  | 4 => ("WicketBoard$Umpire", "place", "I", false)
  | 5 => ("WicketBoard$Umpire", "weeksStood", "I", false)
  | 6 => ("WicketBoard$Umpire", "marksGiven", "I", false)
  | 7 => ("WicketBoard$Umpire", "marksTimes", "I", false)
  | 8 => ("WicketBoard$Umpire", "marksSum", "I", false)
  | 9 => ("WicketBoard$Umpire", "awayWeeks", "[Z", true)
  | _ => ("WicketBoard$Umpire", "clubsByWeek", "[I", true)
def tyX4 : Nat → FieldType := fun k => match k with
  | 0 => .int
  | 1 => .int
  | 2 => .int
  | 3 => .int
  | 4 => .int
  | 5 => .int
  | 6 => .int
  | 7 => .int
  | 8 => .int
  | 9 => .array .boolean
  | _ => .array .int
theorem nmX4 : ∀ a, a < 11 → ∀ b, b < 11 → a ≠ b → (TX4 a).2.1 ≠ (TX4 b).2.1 := by decide +kernel
theorem tyX4_ok : ∀ k, k < 11 → parseFieldDescriptor (TX4 k).2.2.1 = some (tyX4 k) := by decide +kernel
abbrev cX4_init : ByteArray := prog_6_method_1_code
def yX4_init : MethodName := ⟨RX4, "<init>", "(IIII)V"⟩
abbrev cX4_isAway : ByteArray := prog_6_method_2_code
def yX4_isAway : MethodName := ⟨RX4, "isAway", "(I)Z"⟩
abbrev cX4_setAway : ByteArray := prog_6_method_3_code
def yX4_setAway : MethodName := ⟨RX4, "setAway", "(IZ)Z"⟩
abbrev cX4_clubsIn : ByteArray := prog_6_method_4_code
def yX4_clubsIn : MethodName := ⟨RX4, "clubsIn", "(I)I"⟩
abbrev cX4_stand : ByteArray := prog_6_method_5_code
def yX4_stand : MethodName := ⟨RX4, "stand", "(II)V"⟩
abbrev cX4_stoodInAll : ByteArray := prog_6_method_6_code
def yX4_stoodInAll : MethodName := ⟨RX4, "stoodInAll", "(II)Z"⟩
abbrev cX4_stoodWith : ByteArray := prog_6_method_7_code
def yX4_stoodWith : MethodName := ⟨RX4, "stoodWith", "(III)Z"⟩
abbrev cX4_addMarks : ByteArray := prog_6_method_8_code
def yX4_addMarks : MethodName := ⟨RX4, "addMarks", "(II)V"⟩
abbrev cX4_giveGrade : ByteArray := prog_6_method_9_code
def yX4_giveGrade : MethodName := ⟨RX4, "giveGrade", "(I)V"⟩
def RX5 : String := "WicketBoard"
def TX5 : u_T := fun k => match k with
  | 0 => ("WicketBoard", "tape", "LWicketBoard$Tape;", true)
  | 1 => ("WicketBoard", "book", "LWicketBoard$RuleBook;", true)
  | 2 => ("WicketBoard", "umpires", "[LWicketBoard$Umpire;", true)
  | 3 => ("WicketBoard", "games", "[LWicketBoard$Game;", true)
  | 4 => ("WicketBoard", "holders", "[I", true)
  | 5 => ("WicketBoard", "sender", "LWicketBoard$Sender;", true)
  | 6 => ("WicketBoard", "umpireCount", "I", false)
  | 7 => ("WicketBoard", "gameCount", "I", false)
  | 8 => ("WicketBoard", "week", "I", false)
  | _ => ("WicketBoard", "given", "I", false)
def tyX5 : Nat → FieldType := fun k => match k with
  | 0 => .object "WicketBoard$Tape"
  | 1 => .object "WicketBoard$RuleBook"
  | 2 => .array (.object "WicketBoard$Umpire")
  | 3 => .array (.object "WicketBoard$Game")
  | 4 => .array .int
  | 5 => .object "WicketBoard$Sender"
  | 6 => .int
  | 7 => .int
  | 8 => .int
  | _ => .int
theorem nmX5 : ∀ a, a < 10 → ∀ b, b < 10 → a ≠ b → (TX5 a).2.1 ≠ (TX5 b).2.1 := by decide +kernel
theorem tyX5_ok : ∀ k, k < 10 → parseFieldDescriptor (TX5 k).2.2.1 = some (tyX5 k) := by decide +kernel
abbrev cX5_init : ByteArray := prog_1_method_1_code
def yX5_init : MethodName := ⟨RX5, "<init>", "()V"⟩
abbrev cX5_feed : ByteArray := prog_1_method_2_code
def yX5_feed : MethodName := ⟨RX5, "feed", "(IIIII)I"⟩
abbrev cX5_end : ByteArray := prog_1_method_3_code
def yX5_end : MethodName := ⟨RX5, "end", "(I)Z"⟩
abbrev cX5_rules : ByteArray := prog_1_method_4_code
def yX5_rules : MethodName := ⟨RX5, "rules", "()I"⟩
abbrev cX5_fault : ByteArray := prog_1_method_5_code
def yX5_fault : MethodName := ⟨RX5, "fault", "()I"⟩
abbrev cX5_rule : ByteArray := prog_1_method_6_code
def yX5_rule : MethodName := ⟨RX5, "rule", "(I)I"⟩
abbrev cX5_umpire : ByteArray := prog_1_method_7_code
def yX5_umpire : MethodName := ⟨RX5, "umpire", "(IIII)I"⟩
abbrev cX5_away : ByteArray := prog_1_method_8_code
def yX5_away : MethodName := ⟨RX5, "away", "(IIZ)Z"⟩
abbrev cX5_game : ByteArray := prog_1_method_9_code
def yX5_game : MethodName := ⟨RX5, "game", "(IIIII)I"⟩
abbrev cX5_may : ByteArray := prog_1_method_10_code
def yX5_may : MethodName := ⟨RX5, "may", "(II)Z"⟩
abbrev cX5_cost : ByteArray := prog_1_method_11_code
def yX5_cost : MethodName := ⟨RX5, "cost", "(II)I"⟩
abbrev cX5_send : ByteArray := prog_1_method_12_code
def yX5_send : MethodName := ⟨RX5, "send", "()I"⟩
abbrev cX5_off : ByteArray := prog_1_method_13_code
def yX5_off : MethodName := ⟨RX5, "off", "(I)I"⟩
abbrev cX5_seat : ByteArray := prog_1_method_14_code
def yX5_seat : MethodName := ⟨RX5, "seat", "(I)I"⟩
abbrev cX5_mark : ByteArray := prog_1_method_15_code
def yX5_mark : MethodName := ⟨RX5, "mark", "(IIIZ)Z"⟩
abbrev cX5_next : ByteArray := prog_1_method_16_code
def yX5_next : MethodName := ⟨RX5, "next", "()I"⟩
abbrev cX5_about : ByteArray := prog_1_method_17_code
def yX5_about : MethodName := ⟨RX5, "about", "(II)I"⟩
abbrev cX5_stood : ByteArray := prog_1_method_18_code
def yX5_stood : MethodName := ⟨RX5, "stood", "(II)I"⟩
abbrev cX5_together : ByteArray := prog_1_method_19_code
def yX5_together : MethodName := ⟨RX5, "together", "()I"⟩
abbrev cX5_count : ByteArray := prog_1_method_20_code
def yX5_count : MethodName := ⟨RX5, "count", "(I)I"⟩
abbrev cX5_isPlace : ByteArray := prog_1_method_21_code
def yX5_isPlace : MethodName := ⟨RX5, "isPlace", "(II)Z"⟩
abbrev cX5_isGrade : ByteArray := prog_1_method_22_code
def yX5_isGrade : MethodName := ⟨RX5, "isGrade", "(I)Z"⟩
abbrev cX5_isClub : ByteArray := prog_1_method_23_code
def yX5_isClub : MethodName := ⟨RX5, "isClub", "(I)Z"⟩
abbrev cX5_isSeat : ByteArray := prog_1_method_24_code
def yX5_isSeat : MethodName := ⟨RX5, "isSeat", "(I)Z"⟩
abbrev cX5_umpireAt : ByteArray := prog_1_method_25_code
def yX5_umpireAt : MethodName := ⟨RX5, "umpireAt", "(I)LWicketBoard$Umpire;"⟩
abbrev cX5_holderOf : ByteArray := prog_1_method_26_code
def yX5_holderOf : MethodName := ⟨RX5, "holderOf", "(I)LWicketBoard$Umpire;"⟩
abbrev cX5_gameOf : ByteArray := prog_1_method_27_code
def yX5_gameOf : MethodName := ⟨RX5, "gameOf", "(I)LWicketBoard$Game;"⟩
abbrev cX5_fits : ByteArray := prog_1_method_28_code
def yX5_fits : MethodName := ⟨RX5, "fits", "(LWicketBoard$Umpire;I)Z"⟩
abbrev cX5_price : ByteArray := prog_1_method_29_code
def yX5_price : MethodName := ⟨RX5, "price", "(LWicketBoard$Umpire;I)I"⟩
abbrev cX5_filledSeats : ByteArray := prog_1_method_30_code
def yX5_filledSeats : MethodName := ⟨RX5, "filledSeats", "()I"⟩
abbrev cX5_clearSeat : ByteArray := prog_1_method_31_code
def yX5_clearSeat : MethodName := ⟨RX5, "clearSeat", "(I)V"⟩
abbrev cX5_fillSeat : ByteArray := prog_1_method_32_code
def yX5_fillSeat : MethodName := ⟨RX5, "fillSeat", "(II)V"⟩
abbrev cX5_cheapestFree : ByteArray := prog_1_method_33_code
def yX5_cheapestFree : MethodName := ⟨RX5, "cheapestFree", "(I)I"⟩
abbrev cX5_fillByMove : ByteArray := prog_1_method_34_code
def yX5_fillByMove : MethodName := ⟨RX5, "fillByMove", "(I)Z"⟩
abbrev cX5_endSeat : ByteArray := prog_1_method_35_code
def yX5_endSeat : MethodName := ⟨RX5, "endSeat", "(I)V"⟩
abbrev cX5_regrade : ByteArray := prog_1_method_36_code
def yX5_regrade : MethodName := ⟨RX5, "regrade", "(LWicketBoard$Umpire;)V"⟩
def RX6 : String := "WicketBoardModel"
def TX6 : u_T := fun k => match k with
  | 0 => ("WicketBoardModel", "thrown", "I", false)
  | 1 => ("WicketBoardModel", "tape", "[I", true)
  | 2 => ("WicketBoardModel", "taped", "I", false)
  | 3 => ("WicketBoardModel", "rule", "[I", true)
  | 4 => ("WicketBoardModel", "usual", "[I", true)
  | 5 => ("WicketBoardModel", "low", "[I", true)
  | 6 => ("WicketBoardModel", "high", "[I", true)
  | 7 => ("WicketBoardModel", "fresh", "[I", true)
  | 8 => ("WicketBoardModel", "size", "I", false)
  | 9 => ("WicketBoardModel", "to", "I", false)
  | 10 => ("WicketBoardModel", "from", "I", false)
  | 11 => ("WicketBoardModel", "kind", "I", false)
  | 12 => ("WicketBoardModel", "number", "I", false)
  | 13 => ("WicketBoardModel", "fault", "I", false)
  | 14 => ("WicketBoardModel", "place", "I", false)
  | 15 => ("WicketBoardModel", "told", "I", false)
  | 16 => ("WicketBoardModel", "word", "J", false)
  | 17 => ("WicketBoardModel", "homeX", "[I", true)
  | 18 => ("WicketBoardModel", "homeY", "[I", true)
  | 19 => ("WicketBoardModel", "grade", "[I", true)
  | 20 => ("WicketBoardModel", "barred", "[I", true)
  | 21 => ("WicketBoardModel", "marks", "[I", true)
  | 22 => ("WicketBoardModel", "times", "[I", true)
  | 23 => ("WicketBoardModel", "points", "[I", true)
  | 24 => ("WicketBoardModel", "weeksStood", "[I", true)
  | 25 => ("WicketBoardModel", "stood", "[I", true)
  | 26 => ("WicketBoardModel", "gone", "[Z", true)
  | 27 => ("WicketBoardModel", "gameX", "[I", true)
  | 28 => ("WicketBoardModel", "gameY", "[I", true)
  | 29 => ("WicketBoardModel", "clubs", "[I", true)
  | 30 => ("WicketBoardModel", "level", "[I", true)
  | 31 => ("WicketBoardModel", "who", "[I", true)
  | 32 => ("WicketBoardModel", "marked", "[I", true)
  | 33 => ("WicketBoardModel", "umpires", "I", false)
  | 34 => ("WicketBoardModel", "games", "I", false)
  | 35 => ("WicketBoardModel", "week", "I", false)
  | 36 => ("WicketBoardModel", "marksNow", "I", false)
  | 37 => ("WicketBoardModel", "comes", "[I", true)
  | 38 => ("WicketBoardModel", "takes", "[I", true)
  | 39 => ("WicketBoardModel", "cell", "[I", true)
  | 40 => ("WicketBoardModel", "holder", "[I", true)
  | 41 => ("WicketBoardModel", "fixed", "[Z", true)
  | 42 => ("WicketBoardModel", "way", "[I", true)
  | 43 => ("WicketBoardModel", "whence", "[I", true)
  | 44 => ("WicketBoardModel", "mover", "[I", true)
  | _ => ("WicketBoardModel", "changed", "Z", false)
def tyX6 : Nat → FieldType := fun k => match k with
  | 0 => .int
  | 1 => .array .int
  | 2 => .int
  | 3 => .array .int
  | 4 => .array .int
  | 5 => .array .int
  | 6 => .array .int
  | 7 => .array .int
  | 8 => .int
  | 9 => .int
  | 10 => .int
  | 11 => .int
  | 12 => .int
  | 13 => .int
  | 14 => .int
  | 15 => .int
  | 16 => .long
  | 17 => .array .int
  | 18 => .array .int
  | 19 => .array .int
  | 20 => .array .int
  | 21 => .array .int
  | 22 => .array .int
  | 23 => .array .int
  | 24 => .array .int
  | 25 => .array .int
  | 26 => .array .boolean
  | 27 => .array .int
  | 28 => .array .int
  | 29 => .array .int
  | 30 => .array .int
  | 31 => .array .int
  | 32 => .array .int
  | 33 => .int
  | 34 => .int
  | 35 => .int
  | 36 => .int
  | 37 => .array .int
  | 38 => .array .int
  | 39 => .array .int
  | 40 => .array .int
  | 41 => .array .boolean
  | 42 => .array .int
  | 43 => .array .int
  | 44 => .array .int
  | _ => .boolean
theorem nmX6 : ∀ a, a < 46 → ∀ b, b < 46 → a ≠ b → (TX6 a).2.1 ≠ (TX6 b).2.1 := by decide +kernel
theorem tyX6_ok : ∀ k, k < 46 → parseFieldDescriptor (TX6 k).2.2.1 = some (tyX6 k) := by decide +kernel
abbrev cX6_init : ByteArray := prog_8_method_1_code
def yX6_init : MethodName := ⟨RX6, "<init>", "()V"⟩
abbrev cX6_thrown : ByteArray := prog_8_method_2_code
def yX6_thrown : MethodName := ⟨RX6, "thrown", "()I"⟩
abbrev cX6_refuse : ByteArray := prog_8_method_3_code
def yX6_refuse : MethodName := ⟨RX6, "refuse", "()I"⟩
abbrev cX6_come : ByteArray := prog_8_method_4_code
def yX6_come : MethodName := ⟨RX6, "come", "(I)V"⟩
abbrev cX6_feed : ByteArray := prog_8_method_5_code
def yX6_feed : MethodName := ⟨RX6, "feed", "(IIIII)I"⟩
abbrev cX6_end : ByteArray := prog_8_method_6_code
def yX6_end : MethodName := ⟨RX6, "end", "(I)Z"⟩
abbrev cX6_byteAt : ByteArray := prog_8_method_7_code
def yX6_byteAt : MethodName := ⟨RX6, "byteAt", "(I)I"⟩
abbrev cX6_isDigit : ByteArray := prog_8_method_8_code
def yX6_isDigit : MethodName := ⟨RX6, "isDigit", "(I)Z"⟩
abbrev cX6_isLetter : ByteArray := prog_8_method_9_code
def yX6_isLetter : MethodName := ⟨RX6, "isLetter", "(I)Z"⟩
abbrev cX6_go : ByteArray := prog_8_method_10_code
def yX6_go : MethodName := ⟨RX6, "go", "()V"⟩
abbrev cX6_spelt : ByteArray := prog_8_method_11_code
def yX6_spelt : MethodName := ⟨RX6, "spelt", "(IIII)J"⟩
abbrev cX6_isKey : ByteArray := prog_8_method_12_code
def yX6_isKey : MethodName := ⟨RX6, "isKey", "(J)Z"⟩
abbrev cX6_ruleAtHand : ByteArray := prog_8_method_13_code
def yX6_ruleAtHand : MethodName := ⟨RX6, "ruleAtHand", "()I"⟩
abbrev cX6_bad : ByteArray := prog_8_method_14_code
def yX6_bad : MethodName := ⟨RX6, "bad", "(I)Z"⟩
abbrev cX6_readRule : ByteArray := prog_8_method_15_code
def yX6_readRule : MethodName := ⟨RX6, "readRule", "()Z"⟩
abbrev cX6_rules : ByteArray := prog_8_method_16_code
def yX6_rules : MethodName := ⟨RX6, "rules", "()I"⟩
abbrev cX6_fault : ByteArray := prog_8_method_17_code
def yX6_fault : MethodName := ⟨RX6, "fault", "()I"⟩
abbrev cX6_rule : ByteArray := prog_8_method_18_code
def yX6_rule : MethodName := ⟨RX6, "rule", "(I)I"⟩
abbrev cX6_isIn : ByteArray := prog_8_method_19_code
def yX6_isIn : MethodName := ⟨RX6, "isIn", "(III)Z"⟩
abbrev cX6_isUmpire : ByteArray := prog_8_method_20_code
def yX6_isUmpire : MethodName := ⟨RX6, "isUmpire", "(I)Z"⟩
abbrev cX6_isSeat : ByteArray := prog_8_method_21_code
def yX6_isSeat : MethodName := ⟨RX6, "isSeat", "(I)Z"⟩
abbrev cX6_umpire : ByteArray := prog_8_method_22_code
def yX6_umpire : MethodName := ⟨RX6, "umpire", "(IIII)I"⟩
abbrev cX6_seatOf : ByteArray := prog_8_method_23_code
def yX6_seatOf : MethodName := ⟨RX6, "seatOf", "(I)I"⟩
abbrev cX6_away : ByteArray := prog_8_method_24_code
def yX6_away : MethodName := ⟨RX6, "away", "(IIZ)Z"⟩
abbrev cX6_game : ByteArray := prog_8_method_25_code
def yX6_game : MethodName := ⟨RX6, "game", "(IIIII)I"⟩
abbrev cX6_less : ByteArray := prog_8_method_26_code
def yX6_less : MethodName := ⟨RX6, "less", "(II)I"⟩
abbrev cX6_miles : ByteArray := prog_8_method_27_code
def yX6_miles : MethodName := ⟨RX6, "miles", "(II)I"⟩
abbrev cX6_mayHave : ByteArray := prog_8_method_28_code
def yX6_mayHave : MethodName := ⟨RX6, "mayHave", "(II)Z"⟩
abbrev cX6_costOf : ByteArray := prog_8_method_29_code
def yX6_costOf : MethodName := ⟨RX6, "costOf", "(II)I"⟩
abbrev cX6_may : ByteArray := prog_8_method_30_code
def yX6_may : MethodName := ⟨RX6, "may", "(II)Z"⟩
abbrev cX6_cost : ByteArray := prog_8_method_31_code
def yX6_cost : MethodName := ⟨RX6, "cost", "(II)I"⟩
abbrev cX6_pays : ByteArray := prog_8_method_32_code
def yX6_pays : MethodName := ⟨RX6, "pays", "(I)I"⟩
abbrev cX6_seek : ByteArray := prog_8_method_33_code
def yX6_seek : MethodName := ⟨RX6, "seek", "(I)V"⟩
abbrev cX6_change : ByteArray := prog_8_method_34_code
def yX6_change : MethodName := ⟨RX6, "change", "(I)V"⟩
abbrev cX6_settle : ByteArray := prog_8_method_35_code
def yX6_settle : MethodName := ⟨RX6, "settle", "()V"⟩
abbrev cX6_offer : ByteArray := prog_8_method_36_code
def yX6_offer : MethodName := ⟨RX6, "offer", "(IIII)V"⟩
abbrev cX6_placeOf : ByteArray := prog_8_method_37_code
def yX6_placeOf : MethodName := ⟨RX6, "placeOf", "(I)I"⟩
abbrev cX6_ways : ByteArray := prog_8_method_38_code
def yX6_ways : MethodName := ⟨RX6, "ways", "(III)V"⟩
abbrev cX6_moves : ByteArray := prog_8_method_39_code
def yX6_moves : MethodName := ⟨RX6, "moves", "(I)V"⟩
abbrev cX6_lessen : ByteArray := prog_8_method_40_code
def yX6_lessen : MethodName := ⟨RX6, "lessen", "(II)V"⟩
abbrev cX6_send : ByteArray := prog_8_method_41_code
def yX6_send : MethodName := ⟨RX6, "send", "()I"⟩
abbrev cX6_filled : ByteArray := prog_8_method_42_code
def yX6_filled : MethodName := ⟨RX6, "filled", "()I"⟩
abbrev cX6_off : ByteArray := prog_8_method_43_code
def yX6_off : MethodName := ⟨RX6, "off", "(I)I"⟩
abbrev cX6_spare : ByteArray := prog_8_method_44_code
def yX6_spare : MethodName := ⟨RX6, "spare", "(I)I"⟩
abbrev cX6_seat : ByteArray := prog_8_method_45_code
def yX6_seat : MethodName := ⟨RX6, "seat", "(I)I"⟩
abbrev cX6_mark : ByteArray := prog_8_method_46_code
def yX6_mark : MethodName := ⟨RX6, "mark", "(IIIZ)Z"⟩
abbrev cX6_next : ByteArray := prog_8_method_47_code
def yX6_next : MethodName := ⟨RX6, "next", "()I"⟩
abbrev cX6_about : ByteArray := prog_8_method_48_code
def yX6_about : MethodName := ⟨RX6, "about", "(II)I"⟩
abbrev cX6_stood : ByteArray := prog_8_method_49_code
def yX6_stood : MethodName := ⟨RX6, "stood", "(II)I"⟩
abbrev cX6_together : ByteArray := prog_8_method_50_code
def yX6_together : MethodName := ⟨RX6, "together", "()I"⟩
abbrev cX6_count : ByteArray := prog_8_method_51_code
def yX6_count : MethodName := ⟨RX6, "count", "(I)I"⟩
def RJ6 : String := "java/lang/Integer"
def TJ6 : u_T := fun k => match k with
  | _ => ("", "", "", false)
def tyJ6 : Nat → FieldType := fun k => match k with
  | _ => .int
theorem nmJ6 : ∀ a, a < 0 → ∀ b, b < 0 → a ≠ b → (TJ6 a).2.1 ≠ (TJ6 b).2.1 := by decide +kernel
theorem tyJ6_ok : ∀ k, k < 0 → parseFieldDescriptor (TJ6 k).2.2.1 = some (tyJ6 k) := by decide +kernel
abbrev cJ6_bitCount_0f7a4 : ByteArray := prog_10_method_49_code
def yJ6_bitCount_0f7a4 : MethodName := ⟨RJ6, "bitCount", "(I)I"⟩
def RJ9 : String := "java/lang/Math"
def TJ9 : u_T := fun k => match k with
  | _ => ("", "", "", false)
def tyJ9 : Nat → FieldType := fun k => match k with
  | _ => .int
theorem nmJ9 : ∀ a, a < 0 → ∀ b, b < 0 → a ≠ b → (TJ9 a).2.1 ≠ (TJ9 b).2.1 := by decide +kernel
theorem tyJ9_ok : ∀ k, k < 0 → parseFieldDescriptor (TJ9 k).2.2.1 = some (tyJ9 k) := by decide +kernel
abbrev cJ9_abs_0f7a4 : ByteArray := prog_11_method_59_code
def yJ9_abs_0f7a4 : MethodName := ⟨RJ9, "abs", "(I)I"⟩
abbrev cJ9_max_7cf53 : ByteArray := prog_11_method_65_code
def yJ9_max_7cf53 : MethodName := ⟨RJ9, "max", "(II)I"⟩
abbrev cJ9_min_7cf53 : ByteArray := prog_11_method_69_code
def yJ9_min_7cf53 : MethodName := ⟨RJ9, "min", "(II)I"⟩
def RJ0 : String := "java/lang/String"
def TJ0 : u_T := fun k => match k with
  | _ => ("", "", "", false)
def tyJ0 : Nat → FieldType := fun k => match k with
  | _ => .int
theorem nmJ0 : ∀ a, a < 0 → ∀ b, b < 0 → a ≠ b → (TJ0 a).2.1 ≠ (TJ0 b).2.1 := by decide +kernel
theorem tyJ0_ok : ∀ k, k < 0 → parseFieldDescriptor (TJ0 k).2.2.1 = some (tyJ0 k) := by decide +kernel
abbrev cJ0_length_8abf5 : ByteArray := prog_13_method_54_code
def yJ0_length_8abf5 : MethodName := ⟨RJ0, "length", "()I"⟩
abbrev cJ0_charAt_5068e : ByteArray := prog_13_method_56_code
def yJ0_charAt_5068e : MethodName := ⟨RJ0, "charAt", "(I)C"⟩
abbrev cJ0_coder_7d493 : ByteArray := prog_13_method_152_code
def yJ0_coder_7d493 : MethodName := ⟨RJ0, "coder", "()B"⟩
abbrev cJ0_isLatin1_aae02 : ByteArray := prog_13_method_154_code
def yJ0_isLatin1_aae02 : MethodName := ⟨RJ0, "isLatin1", "()Z"⟩
abbrev cJ0_checkIndex_df160 : ByteArray := prog_13_method_155_code
def yJ0_checkIndex_df160 : MethodName := ⟨RJ0, "checkIndex", "(II)V"⟩
def RJ1 : String := "java/lang/StringLatin1"
def TJ1 : u_T := fun k => match k with
  | _ => ("", "", "", false)
def tyJ1 : Nat → FieldType := fun k => match k with
  | _ => .int
theorem nmJ1 : ∀ a, a < 0 → ∀ b, b < 0 → a ≠ b → (TJ1 a).2.1 ≠ (TJ1 b).2.1 := by decide +kernel
theorem tyJ1_ok : ∀ k, k < 0 → parseFieldDescriptor (TJ1 k).2.2.1 = some (tyJ1 k) := by decide +kernel
abbrev cJ1_charAt_3b067 : ByteArray := prog_14_method_2_code
def yJ1_charAt_3b067 : MethodName := ⟨RJ1, "charAt", "([BI)C"⟩
def RJ2 : String := "java/lang/StringUTF16"
def TJ2 : u_T := fun k => match k with
  | _ => ("", "", "", false)
def tyJ2 : Nat → FieldType := fun k => match k with
  | _ => .int
theorem nmJ2 : ∀ a, a < 0 → ∀ b, b < 0 → a ≠ b → (TJ2 a).2.1 ≠ (TJ2 b).2.1 := by decide +kernel
theorem tyJ2_ok : ∀ k, k < 0 → parseFieldDescriptor (TJ2 k).2.2.1 = some (tyJ2 k) := by decide +kernel
abbrev cJ2_getChar_3b067 : ByteArray := prog_15_method_5_code
def yJ2_getChar_3b067 : MethodName := ⟨RJ2, "getChar", "([BI)C"⟩
abbrev cJ2_length_9d52b : ByteArray := prog_15_method_6_code
def yJ2_length_9d52b : MethodName := ⟨RJ2, "length", "([B)I"⟩
abbrev cJ2_charAt_3b067 : ByteArray := prog_15_method_83_code
def yJ2_charAt_3b067 : MethodName := ⟨RJ2, "charAt", "([BI)C"⟩
abbrev cJ2_checkIndex_2214a : ByteArray := prog_15_method_91_code
def yJ2_checkIndex_2214a : MethodName := ⟨RJ2, "checkIndex", "(I[B)V"⟩
def RJ10 : String := "java/lang/System"
def TJ10 : u_T := fun k => match k with
  | _ => ("", "", "", false)
def tyJ10 : Nat → FieldType := fun k => match k with
  | _ => .int
theorem nmJ10 : ∀ a, a < 0 → ∀ b, b < 0 → a ≠ b → (TJ10 a).2.1 ≠ (TJ10 b).2.1 := by decide +kernel
theorem tyJ10_ok : ∀ k, k < 0 → parseFieldDescriptor (TJ10 k).2.2.1 = some (tyJ10 k) := by decide +kernel
def RJ3 : String := "jdk/internal/util/Preconditions"
def TJ3 : u_T := fun k => match k with
  | _ => ("", "", "", false)
def tyJ3 : Nat → FieldType := fun k => match k with
  | _ => .int
theorem nmJ3 : ∀ a, a < 0 → ∀ b, b < 0 → a ≠ b → (TJ3 a).2.1 ≠ (TJ3 b).2.1 := by decide +kernel
theorem tyJ3_ok : ∀ k, k < 0 → parseFieldDescriptor (TJ3 k).2.2.1 = some (tyJ3 k) := by decide +kernel
abbrev cJ3_checkIndex_8e157 : ByteArray := prog_19_method_11_code
def yJ3_checkIndex_8e157 : MethodName := ⟨RJ3, "checkIndex", "(IILjava/util/function/BiFunction;)I"⟩
def RL : String := "WicketBoardLaw"
abbrev cL_about : ByteArray := method_3_code
def yL_about : MethodName := ⟨RL, "about", "(LWicketBoard;II[J)I"⟩
abbrev cL_law : ByteArray := code
def yL_law : MethodName := ⟨RL, "law", "([I)Z"⟩
end
section
def lw_good : List Cond := lw_tbl.filter goodWord
theorem lg_mem {w : Cond} (i : Nat) (h : lw_tbl[i]? = some w) (hg : goodWord w = true) : w ∈ lw_good := List.mem_filter.mpr ⟨List.mem_of_getElem? h, hg⟩
theorem lw_good_in : GoodIn lw_good lw_good := fun w h => ⟨h, good_of_word (List.mem_filter.mp h).2⟩
/-! THE A-LOGIC: cells are named by their place in the world; numbers are Int -/
abbrev classes : List vw_C := [(RX0, TX0, 4), (RX1, TX1, 7), (RX2, TX2, 12), (RX3, TX3, 2), (RX4, TX4, 11), (RX5, TX5, 10), (RX6, TX6, 46)]
abbrev AV : Type := (Option Nat) ⊕ (Int ⊕ (Int ⊕ Nat))
abbrev ar (r : Option Nat) : AV := .inl r
abbrev ai (x : Int) : AV := .inr (.inl x)
abbrev al (x : Int) : AV := .inr (.inr (.inl x))
abbrev ax (e : Nat) : AV := .inr (.inr (.inr e))
def tr (ad ea : Nat → Nat) : AV → Value
  | .inl none => .null
  | .inl (some k) => .ref (ad k)
  | .inr (.inl x) => .int (Int32.ofInt x)
  | .inr (.inr (.inl y)) => .long (Int64.ofInt y)
  | .inr (.inr (.inr e)) => .ref (ea e)
abbrev VV : Type := Nat → Int → Int
abbrev AS : Type := Nat × (Nat → Nat × Nat) × (Nat → Int → Option Nat)
def kd : FieldType → Nat
  | .int => 0
  | .byte => 1
  | .boolean => 2
  | .long => 5
  | _ => 3
def tyof (ci : Nat) : Nat → FieldType := match ci with
  | 0 => tyX0
  | 1 => tyX1
  | 2 => tyX2
  | 3 => tyX3
  | 4 => tyX4
  | 5 => tyX5
  | _ => tyX6
def fk (ci j : Nat) : Nat := kd (tyof ci j)
def nf (ci : Nat) : Nat := match ci with
  | 0 => 4
  | 1 => 7
  | 2 => 12
  | 3 => 2
  | 4 => 11
  | 5 => 10
  | _ => 46
def ek (t : Nat) : Nat := match t with
  | 0 => 0
  | 1 => 1
  | 2 => 2
  | 5 => 5
  | _ => 3
abbrev tyl (T : Nat → ClassId) : List (ClassId × FieldType) := [(T 0, .int), (T 1, .byte), (T 2, .boolean), (T 3, .object "WicketBoard$Umpire"), (T 4, .object "WicketBoard$Game"), (T 5, .long)]
def vlk (kind : Nat) (ad : Nat → Nat) (r : Option Nat) (x : Int) : Value := match kind with
  | 3 => va_rf (r.map ad)
  | 5 => .long (Int64.ofInt x)
  | _ => .int (Int32.ofInt x)
def flds (ad : Nat → Nat) (ci : Nat) (rk : Int → Option Nat) (vk : Int → Int) : List Value := (List.range (nf ci)).map fun (j : Nat) => vlk (fk ci j) ad (rk (j : Int)) (vk (j : Int))
def arrc (ad : Nat → Nat) (t len : Nat) (rk : Int → Option Nat) (vk : Int → Int) : vp_A := match ek t with
  | 3 => (len, .inr (.inr (.inr (.inr fun (j : Nat) => (rk (j : Int)).map ad))))
  | 5 => (len, .inr (.inl fun (j : Nat) => Int64.ofInt (vk (j : Int))))
  | _ => (len, .inl fun (j : Nat) => Int32.ofInt (vk (j : Int)))
def cellE (T : Nat → ClassId) (ad : Nat → Nat) (sh : Nat × Nat) (rk : Int → Option Nat) (vk : Int → Int) : va_E :=
  if sh.1 < 16 then .inl (T sh.1, arrc ad sh.1 sh.2 rk vk) else .inr (sh.1 - 16, flds ad (sh.1 - 16) rk vk)
def wl (T : Nat → ClassId) (ad : Nat → Nat) (S : AS) (v : VV) : va_W := (List.range S.1).map fun k => (ad k, cellE T ad (S.2.1 k) (S.2.2 k) (v k))
def iR (x : Int) : Prop := -2147483648 ≤ x ∧ x < 2147483648
def lR (x : Int) : Prop := -9223372036854775808 ≤ x ∧ x < 9223372036854775808
def kr (kind : Nat) (x : Int) : Prop := match kind with
  | 0 => iR x
  | 1 => -128 ≤ x ∧ x < 128
  | 2 => x = 0 ∨ x = 1
  | 5 => lR x
  | _ => True
def skd (sh : Nat × Nat) (j : Int) : Nat := if sh.1 < 16 then ek sh.1 else fk (sh.1 - 16) j.toNat
def RV (S : AS) (v : VV) : Prop := ∀ k, k < S.1 → ∀ j : Int, kr (skd (S.2.1 k) j) (v k j)
def WR (S : AS) : Prop := ∀ k, k < S.1 → ∀ (j : Int) (r : Nat), S.2.2 k j = some r → r < S.1
def RA (n : Nat) : AV → Prop
  | .inl none => True
  | .inl (some k) => k < n
  | .inr (.inl x) => iR x
  | .inr (.inr (.inl y)) => lR y
  | .inr (.inr (.inr _)) => True
abbrev LL : Type := List (Option AV)
def RAs (n : Nat) (st : List AV) : Prop := ∀ a ∈ st, RA n a
def RAl (n : Nat) (ls : LL) : Prop := ∀ (i : Nat) (a : AV), ls[i]? = some (some a) → RA n a
def LR (ad ea : Nat → Nat) (nL : Nat) (lsC : Array Slot) (ls : LL) : Prop := lsC.size = nL ∧ lv_wf lsC ∧ ∀ (i : Nat) (a : AV), ls[i]? = some (some a) → lsC[i]? = some (.val (tr ad ea a))
abbrev MU : Type := MethodName × ByteArray × Option FieldType × Nat × Nat × Nat × Nat × Option (Nat × (Nat → Int32))
def rmd (d mc ms : Nat) : Room := { frames := d, cells := mc, slots := ms, locals := 37 * d + 11 }
-- what lies outside the world and is only read: 0 the script; 1, 2, 3 RuleBook's tables
def xUs : List Int := [3, 1, 60, 5, 2, 1, 80, 30, 4]
def xLe : List Int := [1, 0, 0, 0, 0, 0, 1, 0, 1]
def xMo : List Int := [9, 9, 200, 50, 9, 9, 101, 100, 20]
def EXS (sc : Option (Nat × (Nat → Int32))) (ea : Nat → Nat) (A : Nat → Prop) (U : State) : Prop := match sc with
  | none => True
  | some q => va_X (ea 0) q.1 q.2 U U.heap ∧ ¬ A (ea 0)
def EXt (n : String) (t : Nat) (xs : List Int) (A : Nat → Prop) (U : State) : Prop := va_Z RX1 n "[I" (.ref t) A U U.heap ∧ va_T .int t 9 (fun j => .int (Int32.ofInt (xs.getD j 0))) A U U.heap
def nestw : List Cond := [.fieldLinkNest RX5 208 RX0 "clubs" "I" RX5, .fieldLinkNest RX5 211 RX0 "level" "I" RX5, .methodLinkNest RX5 9 yX3_init RX5, .methodLinkNest RX5 35 yX0_init RX5, .methodLinkNest RX5 42 yX2_init RX5]
def EXN (U : State) : Prop := ∀ w ∈ nestw, va_Nw w U
theorem EXN.to {s U : State} (h : EXN s) (hw : s.WarmedH U.vm) : EXN U := by
  intro w hm
  have h1 := h w hm
  unfold nestw at hm
  simp only [List.mem_cons, List.not_mem_nil, or_false] at hm
  rcases hm with rfl | rfl | rfl | rfl | rfl
  · exact va_Nw.warmF hw h1
  · exact va_Nw.warmF hw h1
  · exact va_Nw.warmM hw h1
  · exact va_Nw.warmM hw h1
  · exact va_Nw.warmM hw h1
def EXA (ea : Nat → Nat) (A : Nat → Prop) (U : State) : Prop := EXt "USUAL" (ea 1) xUs A U ∧ EXt "LEAST" (ea 2) xLe A U ∧ EXt "MOST" (ea 3) xMo A U ∧ EXN U
def EXT (sc : Option (Nat × (Nat → Int32))) (ea : Nat → Nat) (A : Nat → Prop) (U : State) : Prop := EXA ea A U ∧ EXS sc ea A U
theorem EXt.to {n : String} {t : Nat} {xs : List Int} {A A2 : Nat → Prop} {s U : State} (h : EXt n t xs A s) (hvm : s.vm.Alike U.vm) (hq : ∀ q : Nat, q < s.heap.size → ¬ A q → U.heap[q]? = s.heap[q]?) (hAA : ∀ q, A2 q → A q) : EXt n t xs A2 U :=
  ⟨((h.1.kept hq).moved hvm).narrow hAA, ((h.2.kept hq).moved hvm).narrow hAA⟩
theorem EXA.to {ea : Nat → Nat} {A A2 : Nat → Prop} {s U : State} (h : EXA ea A s) (hw : s.WarmedH U.vm) (hq : ∀ q : Nat, q < s.heap.size → ¬ A q → U.heap[q]? = s.heap[q]?) (hAA : ∀ q, A2 q → A q) : EXA ea A2 U :=
  ⟨h.1.to hw.alike hq hAA, h.2.1.to hw.alike hq hAA, h.2.2.1.to hw.alike hq hAA, h.2.2.2.to hw⟩
/-- the end of a method -/
def QQ (D : va_G) (T : Nat → ClassId) (ea : Nat → Nat) (A : Nat → Prop) (ad0 : Nat → Nat) (n0 : Nat) (Φ : Option AV → AS → VV → Prop) : Array Value → State → Outcome → State → Prop := fun _ st oc t =>
  (∃ (r : Option AV) (S : AS) (v : VV) (ad : Nat → Nat), oc = .returned (r.map (tr ad ea)) ∧ Φ r S v ∧ n0 ≤ S.1 ∧ (∀ k, k < n0 → ad k = ad0 k) ∧ (∀ a, r = some a → RA S.1 a) ∧ WR S ∧ RV S v ∧ va_P D classes (wl T ad S v) t.heap ∧ va_K D classes (tyl T) t ∧ va_D A (wl T ad S v)) ∧ va_F A st t
/-- a contract -/
def Ct (l : Launch) (y : MethodName) (cc : ByteArray) (ret : Option FieldType) (maxL d mc ms : Nat) (as : List AV) (S : AS) (v : VV) (Φ : Option AV → AS → VV → Prop) : Prop :=
  RAs S.1 as → WR S → RV S v → ∀ (D : va_G) (T : Nat → ClassId) (ea ad : Nat → Nat) (sz : Nat),
    Met l y (Cond.code y cc maxL ret :: lw_good) (rmd d mc ms) (va_Pc (as.map (tr ad ea)) (fun U => U.heap.size = sz ∧ va_P D classes (wl T ad S v) U.heap ∧ va_K D classes (tyl T) U ∧ va_D (fun _ => True) (wl T ad S v) ∧ EXA ea (va_A (wl T ad S v) sz) U)) (QQ D T ea (va_A (wl T ad S v) sz) ad S.1 Φ) mc ms (va_A (wl T ad S v) sz)
/-- the machine's side of a method at work -/
def Cx (l : Launch) (μ : MU) (p : Program) (s : State) (m : MethodId) (args : Array Value) (meth : Method) (c : Code) (D : va_G) (T : Nat → ClassId) (ea : Nat → Nat) (A : Nat → Prop) : Prop :=
  p.tables.exec = Jvm.exec ∧ c.code = μ.2.1 ∧ c.maxLocals = μ.2.2.2.1 ∧ meth.sig.returnType = μ.2.2.1 ∧ meth.locks = false ∧ meth.name = μ.1.name ∧ s.vm.findClass μ.1.cls = some m.cls ∧ (∀ w ∈ lw_good, w.before args s = true) ∧ va_K D classes (tyl T) s ∧ EXT μ.2.2.2.2.2.2.2 ea A s ∧ ∀ q : Nat, s.heap.size ≤ q → A q
def Sx (μ : MU) (s : State) (D : va_G) (T : Nat → ClassId) (ea : Nat → Nat) (A : Nat → Prop) (ad0 : Nat → Nat) (n0 : Nat) (S : AS) (ls : LL) (st : List AV) (v : VV) (H : Heap) (locs : List Loc) (ad : Nat → Nat) (lsC : Array Slot) : Prop :=
  (n0 ≤ S.1 ∧ ∀ k, k < n0 → ad k = ad0 k) ∧ WR S ∧ RV S v ∧ RAs S.1 st ∧ RAl S.1 ls ∧ va_P D classes (wl T ad S v) H ∧ va_D A (wl T ad S v) ∧ va_S A s.heap H locs ∧ LR ad ea μ.2.2.2.1 lsC ls
/-- a method at work: from here it comes to its end, with Φ -/
def G (l : Launch) (μ : MU) (Φ : Option AV → AS → VV → Prop) (c0 s0 : Nat) (S : AS) (pc : Nat) (ls : LL) (st : List AV) (v : VV) : Prop :=
  ∀ (p : Program) (e : Env) (s : State) (m : MethodId) (args : Array Value) (below : List Frame) (meth : Method) (c : Code) (H : Heap) (locs : List Loc) (D : va_G) (T : Nat → ClassId) (ea : Nat → Nat) (A : Nat → Prop) (ad ad0 : Nat → Nat) (n0 : Nat) (lsC : Array Slot),
    Cx l μ p s m args meth c D T ea A → Sx μ s D T ea A ad0 n0 S ls st v H locs ad lsC →
    W p l e (rmd μ.2.2.2.2.1 μ.2.2.2.2.2.1 μ.2.2.2.2.2.2.1) s m args below meth c H locs c0 s0 (MQ below (QQ D T ea A ad0 n0 Φ) args s μ.2.2.2.2.2.1 μ.2.2.2.2.2.2.1 A) (F0 m pc lsC (st.map (tr ad ea)))
/-! numbers -/
theorem iR_toInt {x : Int} (h : iR x) : (Int32.ofInt x).toInt = x := by
  rw [Int32.toInt_ofInt]
  exact Int.bmod_eq_of_le (by have := h.1; simp; omega) (by have := h.2; simp; omega)
theorem iR_lt {x y : Int} (hx : iR x) (hy : iR y) : Int32.ofInt x < Int32.ofInt y ↔ x < y := by
  rw [Int32.lt_iff_toInt_lt, iR_toInt hx, iR_toInt hy]
theorem iR_le {x y : Int} (hx : iR x) (hy : iR y) : Int32.ofInt x ≤ Int32.ofInt y ↔ x ≤ y := by
  rw [Int32.le_iff_toInt_le, iR_toInt hx, iR_toInt hy]
theorem iR_eq {x y : Int} (hx : iR x) (hy : iR y) : Int32.ofInt x = Int32.ofInt y ↔ x = y := by
  rw [← Int32.toInt_inj, iR_toInt hx, iR_toInt hy]
theorem iR_0 : iR 0 := by unfold iR; omega
theorem iR_of (x : Int32) : iR x.toInt := ⟨Int32.le_toInt x, Int32.toInt_lt x⟩
theorem lR_toInt {x : Int} (h : lR x) : (Int64.ofInt x).toInt = x := by
  rw [Int64.toInt_ofInt]
  exact Int.bmod_eq_of_le (by have := h.1; simp; omega) (by have := h.2; simp; omega)
theorem lR_eq {x y : Int} (hx : lR x) (hy : lR y) : Int64.ofInt x = Int64.ofInt y ↔ x = y := by
  rw [← Int64.toInt_inj, lR_toInt hx, lR_toInt hy]
theorem lR_lt {x y : Int} (hx : lR x) (hy : lR y) : Int64.ofInt x < Int64.ofInt y ↔ x < y := by
  rw [Int64.lt_iff_toInt_lt, lR_toInt hx, lR_toInt hy]
theorem RAs_cons {n : Nat} {a : AV} {st : List AV} : RAs n (a :: st) ↔ RA n a ∧ RAs n st := List.forall_mem_cons
end
section
section GR
variable {l : Launch} {μ : MU} {Φ : Option AV → AS → VV → Prop} {c0 s0 : Nat} {S : AS} {pc : Nat} {ls : LL} {st : List AV} {v : VV}
theorem Sx.stk {s : State} {D : va_G} {T : Nat → ClassId} {ea : Nat → Nat} {A : Nat → Prop} {ad0 : Nat → Nat} {n0 : Nat} {H : Heap} {locs : List Loc} {ad : Nat → Nat} {lsC : Array Slot} {st2 : List AV} (h : Sx μ s D T ea A ad0 n0 S ls st v H locs ad lsC) (h2 : RAs S.1 st → RAs S.1 st2) : Sx μ s D T ea A ad0 n0 S ls st2 v H locs ad lsC := ⟨h.1, h.2.1, h.2.2.1, h2 h.2.2.2.1, h.2.2.2.2⟩
theorem Sx.top {s : State} {D : va_G} {T : Nat → ClassId} {ea : Nat → Nat} {A : Nat → Prop} {ad0 : Nat → Nat} {n0 : Nat} {H : Heap} {locs : List Loc} {ad : Nat → Nat} {lsC : Array Slot} {a : AV} (h : Sx μ s D T ea A ad0 n0 S ls (a :: st) v H locs ad lsC) : RA S.1 a := (RAs_cons.mp h.2.2.2.1).1
theorem Sx.two {s : State} {D : va_G} {T : Nat → ClassId} {ea : Nat → Nat} {A : Nat → Prop} {ad0 : Nat → Nat} {n0 : Nat} {H : Heap} {locs : List Loc} {ad : Nat → Nat} {lsC : Array Slot} {a b : AV} (h : Sx μ s D T ea A ad0 n0 S ls (a :: b :: st) v H locs ad lsC) : RA S.1 b := (RAs_cons.mp (RAs_cons.mp h.2.2.2.1).2).1
theorem Sx.three {s : State} {D : va_G} {T : Nat → ClassId} {ea : Nat → Nat} {A : Nat → Prop} {ad0 : Nat → Nat} {n0 : Nat} {H : Heap} {locs : List Loc} {ad : Nat → Nat} {lsC : Array Slot} {a b c : AV} (h : Sx μ s D T ea A ad0 n0 S ls (a :: b :: c :: st) v H locs ad lsC) : RA S.1 c := (RAs_cons.mp (RAs_cons.mp (RAs_cons.mp h.2.2.2.1).2).2).1
theorem Sx.lr {s : State} {D : va_G} {T : Nat → ClassId} {ea : Nat → Nat} {A : Nat → Prop} {ad0 : Nat → Nat} {n0 : Nat} {H : Heap} {locs : List Loc} {ad : Nat → Nat} {lsC : Array Slot} (h : Sx μ s D T ea A ad0 n0 S ls st v H locs ad lsC) : LR ad ea μ.2.2.2.1 lsC ls := h.2.2.2.2.2.2.2.2
theorem Sx.vr {s : State} {D : va_G} {T : Nat → ClassId} {ea : Nat → Nat} {A : Nat → Prop} {ad0 : Nat → Nat} {n0 : Nat} {H : Heap} {locs : List Loc} {ad : Nat → Nat} {lsC : Array Slot} (h : Sx μ s D T ea A ad0 n0 S ls st v H locs ad lsC) : RV S v := h.2.2.1
/-- facts that any state of the method has -/
theorem G_fact (k : WR S → RV S v → RAs S.1 st → RAl S.1 ls → G l μ Φ c0 s0 S pc ls st v) : G l μ Φ c0 s0 S pc ls st v := by
  intro p en s m args below meth c H locs D T ea A ad ad0 n0 lsC hC hS
  exact k hS.2.1 hS.2.2.1 hS.2.2.2.1 hS.2.2.2.2.1 p en s m args below meth c H locs D T ea A ad ad0 n0 lsC hC hS
theorem G_iconst {n : Int} (hd : decode μ.2.1 pc = .ok (.iconst n, 1)) (hr : iR n) (k : G l μ Φ c0 s0 S (pc+1) ls (ai n :: st) v) : G l μ Φ c0 s0 S (pc) ls (st) v := by
  intro p en s m args below meth c H locs D T ea A ad ad0 n0 lsC hC hS
  exact lv_iconst hC.1 hC.2.1 hd rfl (k p en s m args below meth c _ _ D T ea A _ ad0 n0 _ hC (hS.stk fun h => RAs_cons.mpr ⟨hr, h⟩))
theorem G_bipush {n : Int} (hd : decode μ.2.1 pc = .ok (.bipush n, 2)) (hv : (Int8.ofInt n).toInt32 = Int32.ofInt n) (hr : iR n) (k : G l μ Φ c0 s0 S (pc+2) ls (ai n :: st) v) : G l μ Φ c0 s0 S (pc) ls (st) v := by
  intro p en s m args below meth c H locs D T ea A ad ad0 n0 lsC hC hS
  exact lv_bipush hC.1 hC.2.1 hd hv (k p en s m args below meth c _ _ D T ea A _ ad0 n0 _ hC (hS.stk fun h => RAs_cons.mpr ⟨hr, h⟩))
theorem G_sipush {n : Int} (hd : decode μ.2.1 pc = .ok (.sipush n, 3)) (hv : (Int16.ofInt n).toInt32 = Int32.ofInt n) (hr : iR n) (k : G l μ Φ c0 s0 S (pc+3) ls (ai n :: st) v) : G l μ Φ c0 s0 S (pc) ls (st) v := by
  intro p en s m args below meth c H locs D T ea A ad ad0 n0 lsC hC hS
  exact lv_sipush hC.1 hC.2.1 hd hv (k p en s m args below meth c _ _ D T ea A _ ad0 n0 _ hC (hS.stk fun h => RAs_cons.mpr ⟨hr, h⟩))
theorem G_ldc {i : Nat} {n : Int} (hd : decode μ.2.1 pc = .ok (.ldc i, 2)) (hw : Cond.constant μ.1.cls i (Int32.ofInt n) ∈ lw_good) (hr : iR n) (k : G l μ Φ c0 s0 S (pc+2) ls (ai n :: st) v) : G l μ Φ c0 s0 S (pc) ls (st) v := by
  intro p en s m args below meth c H locs D T ea A ad ad0 n0 lsC hC hS
  exact lv_ldc hC.1 hC.2.1 hC.2.2.2.2.2.2.1 (hC.2.2.2.2.2.2.2.1 _ hw) hd (k p en s m args below meth c _ _ D T ea A _ ad0 n0 _ hC (hS.stk fun h => RAs_cons.mpr ⟨hr, h⟩))
theorem G_ldcw {i : Nat} {n : Int} (hd : decode μ.2.1 pc = .ok (.ldc_w i, 3)) (hw : Cond.constant μ.1.cls i (Int32.ofInt n) ∈ lw_good) (hr : iR n) (k : G l μ Φ c0 s0 S (pc+3) ls (ai n :: st) v) : G l μ Φ c0 s0 S (pc) ls (st) v := by
  intro p en s m args below meth c H locs D T ea A ad ad0 n0 lsC hC hS
  exact lv_ldcw hC.1 hC.2.1 hC.2.2.2.2.2.2.1 (hC.2.2.2.2.2.2.2.1 _ hw) hd (k p en s m args below meth c _ _ D T ea A _ ad0 n0 _ hC (hS.stk fun h => RAs_cons.mpr ⟨hr, h⟩))
theorem G_ldc2 {i : Nat} {n : Int} (hd : decode μ.2.1 pc = .ok (.ldc2_w i, 3)) (hw : Cond.constantLong μ.1.cls i (Int64.ofInt n) ∈ lw_good) (hr : lR n) (k : G l μ Φ c0 s0 S (pc+3) ls (al n :: st) v) : G l μ Φ c0 s0 S (pc) ls (st) v := by
  intro p en s m args below meth c H locs D T ea A ad ad0 n0 lsC hC hS
  exact lv_ldc2 hC.1 hC.2.1 hC.2.2.2.2.2.2.1 (hC.2.2.2.2.2.2.2.1 _ hw) hd (k p en s m args below meth c _ _ D T ea A _ ad0 n0 _ hC (hS.stk fun h => RAs_cons.mpr ⟨hr, h⟩))
theorem G_lconst0 (hd : decode μ.2.1 pc = .ok (.lconst 0, 1)) (k : G l μ Φ c0 s0 S (pc+1) ls (al 0 :: st) v) : G l μ Φ c0 s0 S (pc) ls (st) v := by
  intro p en s m args below meth c H locs D T ea A ad ad0 n0 lsC hC hS
  exact lv_lconst hC.1 hC.2.1 hd (by rfl) (k p en s m args below meth c _ _ D T ea A _ ad0 n0 _ hC (hS.stk fun h => RAs_cons.mpr ⟨⟨by decide, by decide⟩, h⟩))
theorem G_null (hd : decode μ.2.1 pc = .ok (.aconst_null, 1)) (k : G l μ Φ c0 s0 S (pc+1) ls (ar none :: st) v) : G l μ Φ c0 s0 S (pc) ls (st) v := by
  intro p en s m args below meth c H locs D T ea A ad ad0 n0 lsC hC hS
  exact lv_null hC.1 hC.2.1 hd (k p en s m args below meth c _ _ D T ea A _ ad0 n0 _ hC (hS.stk fun h => RAs_cons.mpr ⟨trivial, h⟩))
theorem G_iload_n {i : Fin 4} {x : Int} (hd : decode μ.2.1 pc = .ok (.iload_n i, 1)) (hl : ls[i.1]? = some (some (ai x))) (k : G l μ Φ c0 s0 S (pc+1) ls (ai x :: st) v) : G l μ Φ c0 s0 S (pc) ls (st) v := by
  intro p en s m args below meth c H locs D T ea A ad ad0 n0 lsC hC hS
  exact lv_iload_n hC.1 hC.2.1 hd rfl (hS.lr.2.2 _ _ hl) (k p en s m args below meth c _ _ D T ea A _ ad0 n0 _ hC (hS.stk fun h => RAs_cons.mpr ⟨hS.2.2.2.2.1 _ _ hl, h⟩))
theorem G_iload {i : Nat} {x : Int} (hd : decode μ.2.1 pc = .ok (.iload i, 2)) (hl : ls[i]? = some (some (ai x))) (k : G l μ Φ c0 s0 S (pc+2) ls (ai x :: st) v) : G l μ Φ c0 s0 S (pc) ls (st) v := by
  intro p en s m args below meth c H locs D T ea A ad ad0 n0 lsC hC hS
  exact lv_iload hC.1 hC.2.1 hd (hS.lr.2.2 _ _ hl) (k p en s m args below meth c _ _ D T ea A _ ad0 n0 _ hC (hS.stk fun h => RAs_cons.mpr ⟨hS.2.2.2.2.1 _ _ hl, h⟩))
theorem G_lload_n {i : Fin 4} {x : Int} (hd : decode μ.2.1 pc = .ok (.lload_n i, 1)) (hl : ls[i.1]? = some (some (al x))) (k : G l μ Φ c0 s0 S (pc+1) ls (al x :: st) v) : G l μ Φ c0 s0 S (pc) ls (st) v := by
  intro p en s m args below meth c H locs D T ea A ad ad0 n0 lsC hC hS
  exact lv_lload_n hC.1 hC.2.1 hd rfl (hS.lr.2.2 _ _ hl) (k p en s m args below meth c _ _ D T ea A _ ad0 n0 _ hC (hS.stk fun h => RAs_cons.mpr ⟨hS.2.2.2.2.1 _ _ hl, h⟩))
theorem G_lload {i : Nat} {x : Int} (hd : decode μ.2.1 pc = .ok (.lload i, 2)) (hl : ls[i]? = some (some (al x))) (k : G l μ Φ c0 s0 S (pc+2) ls (al x :: st) v) : G l μ Φ c0 s0 S (pc) ls (st) v := by
  intro p en s m args below meth c H locs D T ea A ad ad0 n0 lsC hC hS
  exact lv_lload hC.1 hC.2.1 hd (hS.lr.2.2 _ _ hl) (k p en s m args below meth c _ _ D T ea A _ ad0 n0 _ hC (hS.stk fun h => RAs_cons.mpr ⟨hS.2.2.2.2.1 _ _ hl, h⟩))
theorem G_aload_n {i : Fin 4} {r : Option Nat} (hd : decode μ.2.1 pc = .ok (.aload_n i, 1)) (hl : ls[i.1]? = some (some (ar r))) (k : G l μ Φ c0 s0 S (pc+1) ls (ar r :: st) v) : G l μ Φ c0 s0 S (pc) ls (st) v := by
  intro p en s m args below meth c H locs D T ea A ad ad0 n0 lsC hC hS
  have k2 := k p en s m args below meth c _ _ D T ea A _ ad0 n0 _ hC (hS.stk fun h => RAs_cons.mpr ⟨hS.2.2.2.2.1 _ _ hl, h⟩)
  cases r with
  | none => exact lv_aload_nN hC.1 hC.2.1 hd rfl (hS.lr.2.2 _ _ hl) k2
  | some x => exact lv_aload_n hC.1 hC.2.1 hd rfl (hS.lr.2.2 _ _ hl) k2
theorem G_aload {i : Nat} {r : Option Nat} (hd : decode μ.2.1 pc = .ok (.aload i, 2)) (hl : ls[i]? = some (some (ar r))) (k : G l μ Φ c0 s0 S (pc+2) ls (ar r :: st) v) : G l μ Φ c0 s0 S (pc) ls (st) v := by
  intro p en s m args below meth c H locs D T ea A ad ad0 n0 lsC hC hS
  have k2 := k p en s m args below meth c _ _ D T ea A _ ad0 n0 _ hC (hS.stk fun h => RAs_cons.mpr ⟨hS.2.2.2.2.1 _ _ hl, h⟩)
  cases r with
  | none => exact lv_aloadN hC.1 hC.2.1 hd (hS.lr.2.2 _ _ hl) k2
  | some x => exact lv_aload hC.1 hC.2.1 hd (hS.lr.2.2 _ _ hl) k2
theorem G_aload_nX {i : Fin 4} {x : Nat} (hd : decode μ.2.1 pc = .ok (.aload_n i, 1)) (hl : ls[i.1]? = some (some (ax x))) (k : G l μ Φ c0 s0 S (pc+1) ls (ax x :: st) v) : G l μ Φ c0 s0 S (pc) ls (st) v := by
  intro p en s m args below meth c H locs D T ea A ad ad0 n0 lsC hC hS
  exact lv_aload_n hC.1 hC.2.1 hd rfl (hS.lr.2.2 _ _ hl) (k p en s m args below meth c _ _ D T ea A _ ad0 n0 _ hC (hS.stk fun h => RAs_cons.mpr ⟨hS.2.2.2.2.1 _ _ hl, h⟩))
theorem G_aloadX {i : Nat} {x : Nat} (hd : decode μ.2.1 pc = .ok (.aload i, 2)) (hl : ls[i]? = some (some (ax x))) (k : G l μ Φ c0 s0 S (pc+2) ls (ax x :: st) v) : G l μ Φ c0 s0 S (pc) ls (st) v := by
  intro p en s m args below meth c H locs D T ea A ad ad0 n0 lsC hC hS
  exact lv_aload hC.1 hC.2.1 hd (hS.lr.2.2 _ _ hl) (k p en s m args below meth c _ _ D T ea A _ ad0 n0 _ hC (hS.stk fun h => RAs_cons.mpr ⟨hS.2.2.2.2.1 _ _ hl, h⟩))
theorem G_iadd {x y : Int} (hd : decode μ.2.1 pc = .ok (.iadd, 1)) (hr : iR (x + y)) (k : G l μ Φ c0 s0 S (pc+1) ls (ai (x + y) :: st) v) : G l μ Φ c0 s0 S (pc) ls (ai y :: ai x :: st) v := by
  intro p en s m args below meth c H locs D T ea A ad ad0 n0 lsC hC hS
  refine lv_iadd hC.1 hC.2.1 hd ?_
  rw [← Int32.ofInt_add]
  exact k p en s m args below meth c _ _ D T ea A _ ad0 n0 _ hC (hS.stk fun h => RAs_cons.mpr ⟨hr, (RAs_cons.mp (RAs_cons.mp h).2).2⟩)
theorem G_isub {x y : Int} (hd : decode μ.2.1 pc = .ok (.isub, 1)) (hr : iR (x - y)) (k : G l μ Φ c0 s0 S (pc+1) ls (ai (x - y) :: st) v) : G l μ Φ c0 s0 S (pc) ls (ai y :: ai x :: st) v := by
  intro p en s m args below meth c H locs D T ea A ad ad0 n0 lsC hC hS
  refine lv_isub hC.1 hC.2.1 hd ?_
  rw [← Int32.ofInt_sub]
  exact k p en s m args below meth c _ _ D T ea A _ ad0 n0 _ hC (hS.stk fun h => RAs_cons.mpr ⟨hr, (RAs_cons.mp (RAs_cons.mp h).2).2⟩)
theorem G_imul {x y : Int} (hd : decode μ.2.1 pc = .ok (.imul, 1)) (hr : iR (x * y)) (k : G l μ Φ c0 s0 S (pc+1) ls (ai (x * y) :: st) v) : G l μ Φ c0 s0 S (pc) ls (ai y :: ai x :: st) v := by
  intro p en s m args below meth c H locs D T ea A ad ad0 n0 lsC hC hS
  refine lv_imul hC.1 hC.2.1 hd ?_
  rw [← Int32.ofInt_mul]
  exact k p en s m args below meth c _ _ D T ea A _ ad0 n0 _ hC (hS.stk fun h => RAs_cons.mpr ⟨hr, (RAs_cons.mp (RAs_cons.mp h).2).2⟩)
theorem G_ladd {x y : Int} (hd : decode μ.2.1 pc = .ok (.ladd, 1)) (hr : lR (x + y)) (k : G l μ Φ c0 s0 S (pc+1) ls (al (x + y) :: st) v) : G l μ Φ c0 s0 S (pc) ls (al y :: al x :: st) v := by
  intro p en s m args below meth c H locs D T ea A ad ad0 n0 lsC hC hS
  refine lv_ladd hC.1 hC.2.1 hd ?_
  rw [← Int64.ofInt_add]
  exact k p en s m args below meth c _ _ D T ea A _ ad0 n0 _ hC (hS.stk fun h => RAs_cons.mpr ⟨hr, (RAs_cons.mp (RAs_cons.mp h).2).2⟩)
theorem G_lsub {x y : Int} (hd : decode μ.2.1 pc = .ok (.lsub, 1)) (hr : lR (x - y)) (k : G l μ Φ c0 s0 S (pc+1) ls (al (x - y) :: st) v) : G l μ Φ c0 s0 S (pc) ls (al y :: al x :: st) v := by
  intro p en s m args below meth c H locs D T ea A ad ad0 n0 lsC hC hS
  refine lv_lsub hC.1 hC.2.1 hd ?_
  rw [← Int64.ofInt_sub]
  exact k p en s m args below meth c _ _ D T ea A _ ad0 n0 _ hC (hS.stk fun h => RAs_cons.mpr ⟨hr, (RAs_cons.mp (RAs_cons.mp h).2).2⟩)
theorem G_lmul {x y : Int} (hd : decode μ.2.1 pc = .ok (.lmul, 1)) (hr : lR (x * y)) (k : G l μ Φ c0 s0 S (pc+1) ls (al (x * y) :: st) v) : G l μ Φ c0 s0 S (pc) ls (al y :: al x :: st) v := by
  intro p en s m args below meth c H locs D T ea A ad ad0 n0 lsC hC hS
  refine lv_lmul hC.1 hC.2.1 hd ?_
  rw [← Int64.ofInt_mul]
  exact k p en s m args below meth c _ _ D T ea A _ ad0 n0 _ hC (hS.stk fun h => RAs_cons.mpr ⟨hr, (RAs_cons.mp (RAs_cons.mp h).2).2⟩)
theorem G_iand {x y : Int} (z : Int) (hd : decode μ.2.1 pc = .ok (.iand, 1)) (hz : (Int32.ofInt x &&& Int32.ofInt y).toInt = z) (k : G l μ Φ c0 s0 S (pc+1) ls (ai z :: st) v) : G l μ Φ c0 s0 S (pc) ls (ai y :: ai x :: st) v := by
  intro p en s m args below meth c H locs D T ea A ad ad0 n0 lsC hC hS
  subst hz
  refine lv_iand hC.1 hC.2.1 hd ?_
  have k2 := k p en s m args below meth c _ _ D T ea A _ ad0 n0 _ hC (hS.stk fun h => RAs_cons.mpr ⟨iR_of _, (RAs_cons.mp (RAs_cons.mp h).2).2⟩)
  rwa [List.map_cons, show tr ad ea (ai (Int32.ofInt x &&& Int32.ofInt y).toInt) = .int (Int32.ofInt x &&& Int32.ofInt y) from congrArg Value.int (Int32.ofInt_toInt _)] at k2
theorem G_ior {x y : Int} (z : Int) (hd : decode μ.2.1 pc = .ok (.ior, 1)) (hz : (Int32.ofInt x ||| Int32.ofInt y).toInt = z) (k : G l μ Φ c0 s0 S (pc+1) ls (ai z :: st) v) : G l μ Φ c0 s0 S (pc) ls (ai y :: ai x :: st) v := by
  intro p en s m args below meth c H locs D T ea A ad ad0 n0 lsC hC hS
  subst hz
  refine lv_ior hC.1 hC.2.1 hd ?_
  have k2 := k p en s m args below meth c _ _ D T ea A _ ad0 n0 _ hC (hS.stk fun h => RAs_cons.mpr ⟨iR_of _, (RAs_cons.mp (RAs_cons.mp h).2).2⟩)
  rwa [List.map_cons, show tr ad ea (ai (Int32.ofInt x ||| Int32.ofInt y).toInt) = .int (Int32.ofInt x ||| Int32.ofInt y) from congrArg Value.int (Int32.ofInt_toInt _)] at k2
theorem G_ishl {x y : Int} (z : Int) (hd : decode μ.2.1 pc = .ok (.ishl, 1)) (hz : (Int32.ofInt x <<< (Int32.ofInt y &&& 31)).toInt = z) (k : G l μ Φ c0 s0 S (pc+1) ls (ai z :: st) v) : G l μ Φ c0 s0 S (pc) ls (ai y :: ai x :: st) v := by
  intro p en s m args below meth c H locs D T ea A ad ad0 n0 lsC hC hS
  subst hz
  refine lv_ishl hC.1 hC.2.1 hd ?_
  have k2 := k p en s m args below meth c _ _ D T ea A _ ad0 n0 _ hC (hS.stk fun h => RAs_cons.mpr ⟨iR_of _, (RAs_cons.mp (RAs_cons.mp h).2).2⟩)
  rwa [List.map_cons, show tr ad ea (ai (Int32.ofInt x <<< (Int32.ofInt y &&& 31)).toInt) = .int (Int32.ofInt x <<< (Int32.ofInt y &&& 31)) from congrArg Value.int (Int32.ofInt_toInt _)] at k2
theorem G_ishr {x y : Int} (z : Int) (hd : decode μ.2.1 pc = .ok (.ishr, 1)) (hz : (Int32.ofInt x >>> (Int32.ofInt y &&& 31)).toInt = z) (k : G l μ Φ c0 s0 S (pc+1) ls (ai z :: st) v) : G l μ Φ c0 s0 S (pc) ls (ai y :: ai x :: st) v := by
  intro p en s m args below meth c H locs D T ea A ad ad0 n0 lsC hC hS
  subst hz
  refine lv_ishr hC.1 hC.2.1 hd ?_
  have k2 := k p en s m args below meth c _ _ D T ea A _ ad0 n0 _ hC (hS.stk fun h => RAs_cons.mpr ⟨iR_of _, (RAs_cons.mp (RAs_cons.mp h).2).2⟩)
  rwa [List.map_cons, show tr ad ea (ai (Int32.ofInt x >>> (Int32.ofInt y &&& 31)).toInt) = .int (Int32.ofInt x >>> (Int32.ofInt y &&& 31)) from congrArg Value.int (Int32.ofInt_toInt _)] at k2
theorem G_iushr {x y : Int} (z : Int) (hd : decode μ.2.1 pc = .ok (.iushr, 1)) (hz : ((Int32.ofInt x).toUInt32 >>> ((Int32.ofInt y).toUInt32 &&& Int32.toUInt32 31)).toInt32.toInt = z) (k : G l μ Φ c0 s0 S (pc+1) ls (ai z :: st) v) : G l μ Φ c0 s0 S (pc) ls (ai y :: ai x :: st) v := by
  intro p en s m args below meth c H locs D T ea A ad ad0 n0 lsC hC hS
  subst hz
  refine lv_iushr hC.1 hC.2.1 hd rfl ?_
  have k2 := k p en s m args below meth c _ _ D T ea A _ ad0 n0 _ hC (hS.stk fun h => RAs_cons.mpr ⟨iR_of _, (RAs_cons.mp (RAs_cons.mp h).2).2⟩)
  rwa [List.map_cons, show tr ad ea (ai ((Int32.ofInt x).toUInt32 >>> ((Int32.ofInt y).toUInt32 &&& Int32.toUInt32 31)).toInt32.toInt) = .int ((Int32.ofInt x).toUInt32 >>> ((Int32.ofInt y).toUInt32 &&& Int32.toUInt32 31)).toInt32 from congrArg Value.int (Int32.ofInt_toInt _)] at k2
theorem G_i2b {x : Int} (z : Int) (hd : decode μ.2.1 pc = .ok (.i2b, 1)) (hz : (Int32.ofInt x).toInt8.toInt32.toInt = z) (k : G l μ Φ c0 s0 S (pc+1) ls (ai z :: st) v) : G l μ Φ c0 s0 S (pc) ls (ai x :: st) v := by
  intro p en s m args below meth c H locs D T ea A ad ad0 n0 lsC hC hS
  subst hz
  refine lv_i2b hC.1 hC.2.1 hd rfl ?_
  have k2 := k p en s m args below meth c _ _ D T ea A _ ad0 n0 _ hC (hS.stk fun h => RAs_cons.mpr ⟨iR_of _, (RAs_cons.mp h).2⟩)
  rwa [List.map_cons, show tr ad ea (ai (Int32.ofInt x).toInt8.toInt32.toInt) = .int (Int32.ofInt x).toInt8.toInt32 from congrArg Value.int (Int32.ofInt_toInt _)] at k2
theorem G_i2l {x : Int} (hd : decode μ.2.1 pc = .ok (.i2l, 1)) (k : G l μ Φ c0 s0 S (pc+1) ls (al x :: st) v) : G l μ Φ c0 s0 S (pc) ls (ai x :: st) v := by
  intro p en s m args below meth c H locs D T ea A ad ad0 n0 lsC hC hS
  have hx : iR x := hS.top
  have hx2 : lR x := ⟨by have := hx.1; omega, by have := hx.2; omega⟩
  refine lv_i2l hC.1 hC.2.1 hd (v := Int64.ofInt x) ?_ (k p en s m args below meth c _ _ D T ea A _ ad0 n0 _ hC (hS.stk fun h => RAs_cons.mpr ⟨hx2, (RAs_cons.mp h).2⟩))
  rw [← Int64.toInt_inj, lR_toInt hx2, Int32.toInt_toInt64, iR_toInt hx]
theorem G_lcmp {x y : Int} (hd : decode μ.2.1 pc = .ok (.lcmp, 1)) (k : G l μ Φ c0 s0 S (pc+1) ls (ai (if x < y then -1 else if x = y then 0 else 1) :: st) v) : G l μ Φ c0 s0 S (pc) ls (al y :: al x :: st) v := by
  intro p en s m args below meth c H locs D T ea A ad ad0 n0 lsC hC hS
  have hy : lR y := hS.top
  have hx : lR x := hS.two
  have hc : iR (if x < y then -1 else if x = y then 0 else 1) := by unfold iR; split <;> (try split) <;> omega
  refine W.lcmp hC.1 hC.2.1 hd ?_
  have k2 := k p en s m args below meth c _ _ D T ea A _ ad0 n0 _ hC (hS.stk fun h => RAs_cons.mpr ⟨hc, (RAs_cons.mp (RAs_cons.mp h).2).2⟩)
  have e : lg_cmp (Int64.ofInt x) (Int64.ofInt y) = Int32.ofInt (if x < y then -1 else if x = y then 0 else 1) := by
    unfold lg_cmp
    have a := lR_lt hy hx
    have b := lR_eq hx hy
    rcases Int.lt_trichotomy x y with h1 | h1 | h1
    · have n1 : ¬ y < x := by omega
      have n2 : ¬ x = y := by omega
      simp [a, b, h1, n1, n2]
    · subst h1
      simp [a]
    · have n1 : ¬ x < y := by omega
      have n2 : ¬ x = y := by omega
      simp [a, h1, n1, n2]
  rw [e]
  exact k2
theorem G_idiv {x y : Int} (hd : decode μ.2.1 pc = .ok (.idiv, 1)) (hx : 0 ≤ x) (hy : 0 < y) (k : G l μ Φ c0 s0 S (pc+1) ls (ai (x / y) :: st) v) : G l μ Φ c0 s0 S (pc) ls (ai y :: ai x :: st) v := by
  intro p en s m args below meth c H locs D T ea A ad ad0 n0 lsC hC hS
  have hyR : iR y := hS.top
  have hxR : iR x := hS.two
  have hq : 0 ≤ x / y := Int.ediv_nonneg hx (by omega)
  have hq2 : x / y ≤ x := Int.ediv_le_self y hx
  have hqR : iR (x / y) := ⟨by omega, by have := hxR.2; omega⟩
  refine lv_idiv hC.1 hC.2.1 hd (fun h => ?_) ?_
  · have := (iR_eq hyR iR_0).mp h
    omega
  have e : Int32.ofInt x / Int32.ofInt y = Int32.ofInt (x / y) := by
    rw [← Int32.toInt_inj, iR_toInt hqR, Int32.toInt_div_of_ne_right _ _ (fun h => by have := (iR_eq hyR (y := -1) ⟨by decide, by decide⟩).mp (h.trans (by decide)); omega), iR_toInt hxR, iR_toInt hyR, Int.tdiv_eq_ediv_of_nonneg hx]
  rw [e]
  exact k p en s m args below meth c _ _ D T ea A _ ad0 n0 _ hC (hS.stk fun h => RAs_cons.mpr ⟨hqR, (RAs_cons.mp (RAs_cons.mp h).2).2⟩)
theorem G_irem {x y : Int} (hd : decode μ.2.1 pc = .ok (.irem, 1)) (hx : 0 ≤ x) (hy : 0 < y) (k : G l μ Φ c0 s0 S (pc+1) ls (ai (x % y) :: st) v) : G l μ Φ c0 s0 S (pc) ls (ai y :: ai x :: st) v := by
  intro p en s m args below meth c H locs D T ea A ad ad0 n0 lsC hC hS
  have hyR : iR y := hS.top
  have hxR : iR x := hS.two
  have hq : 0 ≤ x % y := Int.emod_nonneg x (by omega)
  have hq2 : x % y < y := Int.emod_lt_of_pos x hy
  have hqR : iR (x % y) := ⟨by omega, by have := hyR.2; omega⟩
  refine lv_irem hC.1 hC.2.1 hd (fun h => ?_) ?_
  · have := (iR_eq hyR iR_0).mp h
    omega
  have e : Int32.ofInt x - Int32.ofInt x / Int32.ofInt y * Int32.ofInt y = Int32.ofInt (x % y) := by
    rw [← Int32.toInt_inj, iR_toInt hqR, rem_toInt, iR_toInt hxR, iR_toInt hyR, Int.tmod_eq_emod_of_nonneg hx]
  rw [e]
  exact k p en s m args below meth c _ _ D T ea A _ ad0 n0 _ hC (hS.stk fun h => RAs_cons.mpr ⟨hqR, (RAs_cons.mp (RAs_cons.mp h).2).2⟩)
theorem G_dup_i {x : Int} (hd : decode μ.2.1 pc = .ok (.dup, 1)) (k : G l μ Φ c0 s0 S (pc+1) ls (ai x :: ai x :: st) v) : G l μ Φ c0 s0 S (pc) ls (ai x :: st) v := by
  intro p en s m args below meth c H locs D T ea A ad ad0 n0 lsC hC hS
  exact lv_dup hC.1 hC.2.1 hd rfl (k p en s m args below meth c _ _ D T ea A _ ad0 n0 _ hC (hS.stk fun h => RAs_cons.mpr ⟨hS.top, h⟩))
theorem G_dup_a {r : Option Nat} (hd : decode μ.2.1 pc = .ok (.dup, 1)) (k : G l μ Φ c0 s0 S (pc+1) ls (ar r :: ar r :: st) v) : G l μ Φ c0 s0 S (pc) ls (ar r :: st) v := by
  intro p en s m args below meth c H locs D T ea A ad ad0 n0 lsC hC hS
  exact lv_dup hC.1 hC.2.1 hd (by cases r <;> rfl) (k p en s m args below meth c _ _ D T ea A _ ad0 n0 _ hC (hS.stk fun h => RAs_cons.mpr ⟨hS.top, h⟩))
theorem G_dup2 {x : Int} {r : Option Nat} (hd : decode μ.2.1 pc = .ok (.dup2, 1)) (k : G l μ Φ c0 s0 S (pc+1) ls (ai x :: ar r :: ai x :: ar r :: st) v) : G l μ Φ c0 s0 S (pc) ls (ai x :: ar r :: st) v := by
  intro p en s m args below meth c H locs D T ea A ad ad0 n0 lsC hC hS
  exact lv_dup2_11 hC.1 hC.2.1 hd rfl (by cases r <;> rfl) (k p en s m args below meth c _ _ D T ea A _ ad0 n0 _ hC (hS.stk fun h => RAs_cons.mpr ⟨hS.top, RAs_cons.mpr ⟨hS.two, h⟩⟩))
theorem G_pop_i {x : Int} (hd : decode μ.2.1 pc = .ok (.pop, 1)) (k : G l μ Φ c0 s0 S (pc+1) ls (st) v) : G l μ Φ c0 s0 S (pc) ls (ai x :: st) v := by
  intro p en s m args below meth c H locs D T ea A ad ad0 n0 lsC hC hS
  exact lv_pop hC.1 hC.2.1 hd rfl (k p en s m args below meth c _ _ D T ea A _ ad0 n0 _ hC (hS.stk fun h => (RAs_cons.mp h).2))
theorem G_goto {off : Int} (tgt : Nat) (hd : decode μ.2.1 pc = .ok (.goto off, 3)) (ht : (pc : Int) + off = (tgt : Int)) (k : G l μ Φ c0 s0 S (tgt) ls (st) v) : G l μ Φ c0 s0 S (pc) ls (st) v := by
  intro p en s m args below meth c H locs D T ea A ad ad0 n0 lsC hC hS
  exact lv_goto hC.1 hC.2.1 hd ht (k p en s m args below meth c _ _ D T ea A _ ad0 n0 _ hC hS)
theorem G_icmp_eq {x y off : Int} (tgt : Nat) (hd : decode μ.2.1 pc = .ok (.if_icmp .eq off, 3)) (ht : (pc : Int) + off = (tgt : Int)) (kt : x = y → G l μ Φ c0 s0 S (tgt) ls (st) v) (kf : ¬ (x = y) → G l μ Φ c0 s0 S (pc+3) ls (st) v) : G l μ Φ c0 s0 S (pc) ls (ai y :: ai x :: st) v := by
  intro p en s m args below meth c H locs D T ea A ad ad0 n0 lsC hC hS
  have hy : iR y := hS.top
  have hx : iR x := hS.two
  have e := iR_eq hx hy
  have hS2 := hS.stk fun h => (RAs_cons.mp (RAs_cons.mp h).2).2
  exact lv_icmp_eq hC.1 hC.2.1 hd ht (fun h => kt (e.mp h) p en s m args below meth c _ _ D T ea A _ ad0 n0 _ hC hS2) (fun h => kf (fun z => h (e.mpr z)) p en s m args below meth c _ _ D T ea A _ ad0 n0 _ hC hS2)
theorem G_if_eq {x off : Int} (tgt : Nat) (hd : decode μ.2.1 pc = .ok (.ifCond .eq off, 3)) (ht : (pc : Int) + off = (tgt : Int)) (kt : x = 0 → G l μ Φ c0 s0 S (tgt) ls (st) v) (kf : ¬ (x = 0) → G l μ Φ c0 s0 S (pc+3) ls (st) v) : G l μ Φ c0 s0 S (pc) ls (ai x :: st) v := by
  intro p en s m args below meth c H locs D T ea A ad ad0 n0 lsC hC hS
  have hx : iR x := hS.top
  have e := iR_eq hx iR_0
  have hS2 := hS.stk fun h => (RAs_cons.mp h).2
  exact lv_if_eq hC.1 hC.2.1 hd ht (fun h => kt (e.mp h) p en s m args below meth c _ _ D T ea A _ ad0 n0 _ hC hS2) (fun h => kf (fun z => h (e.mpr z)) p en s m args below meth c _ _ D T ea A _ ad0 n0 _ hC hS2)
theorem G_icmp_ne {x y off : Int} (tgt : Nat) (hd : decode μ.2.1 pc = .ok (.if_icmp .ne off, 3)) (ht : (pc : Int) + off = (tgt : Int)) (kt : ¬ x = y → G l μ Φ c0 s0 S (tgt) ls (st) v) (kf : x = y → G l μ Φ c0 s0 S (pc+3) ls (st) v) : G l μ Φ c0 s0 S (pc) ls (ai y :: ai x :: st) v := by
  intro p en s m args below meth c H locs D T ea A ad ad0 n0 lsC hC hS
  have hy : iR y := hS.top
  have hx : iR x := hS.two
  have e := not_congr (iR_eq hx hy)
  have hS2 := hS.stk fun h => (RAs_cons.mp (RAs_cons.mp h).2).2
  exact lv_icmp_ne hC.1 hC.2.1 hd ht (fun h => kt (e.mp h) p en s m args below meth c _ _ D T ea A _ ad0 n0 _ hC hS2) (fun h => kf ((iR_eq hx hy).mp h) p en s m args below meth c _ _ D T ea A _ ad0 n0 _ hC hS2)
theorem G_if_ne {x off : Int} (tgt : Nat) (hd : decode μ.2.1 pc = .ok (.ifCond .ne off, 3)) (ht : (pc : Int) + off = (tgt : Int)) (kt : ¬ x = 0 → G l μ Φ c0 s0 S (tgt) ls (st) v) (kf : x = 0 → G l μ Φ c0 s0 S (pc+3) ls (st) v) : G l μ Φ c0 s0 S (pc) ls (ai x :: st) v := by
  intro p en s m args below meth c H locs D T ea A ad ad0 n0 lsC hC hS
  have hx : iR x := hS.top
  have e := not_congr (iR_eq hx iR_0)
  have hS2 := hS.stk fun h => (RAs_cons.mp h).2
  exact lv_if_ne hC.1 hC.2.1 hd ht (fun h => kt (e.mp h) p en s m args below meth c _ _ D T ea A _ ad0 n0 _ hC hS2) (fun h => kf ((iR_eq hx iR_0).mp h) p en s m args below meth c _ _ D T ea A _ ad0 n0 _ hC hS2)
theorem G_icmp_lt {x y off : Int} (tgt : Nat) (hd : decode μ.2.1 pc = .ok (.if_icmp .lt off, 3)) (ht : (pc : Int) + off = (tgt : Int)) (kt : x < y → G l μ Φ c0 s0 S (tgt) ls (st) v) (kf : ¬ (x < y) → G l μ Φ c0 s0 S (pc+3) ls (st) v) : G l μ Φ c0 s0 S (pc) ls (ai y :: ai x :: st) v := by
  intro p en s m args below meth c H locs D T ea A ad ad0 n0 lsC hC hS
  have hy : iR y := hS.top
  have hx : iR x := hS.two
  have e := iR_lt hx hy
  have hS2 := hS.stk fun h => (RAs_cons.mp (RAs_cons.mp h).2).2
  exact lv_icmp_lt hC.1 hC.2.1 hd ht (fun h => kt (e.mp h) p en s m args below meth c _ _ D T ea A _ ad0 n0 _ hC hS2) (fun h => kf (fun z => h (e.mpr z)) p en s m args below meth c _ _ D T ea A _ ad0 n0 _ hC hS2)
theorem G_if_lt {x off : Int} (tgt : Nat) (hd : decode μ.2.1 pc = .ok (.ifCond .lt off, 3)) (ht : (pc : Int) + off = (tgt : Int)) (kt : x < 0 → G l μ Φ c0 s0 S (tgt) ls (st) v) (kf : ¬ (x < 0) → G l μ Φ c0 s0 S (pc+3) ls (st) v) : G l μ Φ c0 s0 S (pc) ls (ai x :: st) v := by
  intro p en s m args below meth c H locs D T ea A ad ad0 n0 lsC hC hS
  have hx : iR x := hS.top
  have e := iR_lt hx iR_0
  have hS2 := hS.stk fun h => (RAs_cons.mp h).2
  exact lv_if_lt hC.1 hC.2.1 hd ht (fun h => kt (e.mp h) p en s m args below meth c _ _ D T ea A _ ad0 n0 _ hC hS2) (fun h => kf (fun z => h (e.mpr z)) p en s m args below meth c _ _ D T ea A _ ad0 n0 _ hC hS2)
theorem G_icmp_ge {x y off : Int} (tgt : Nat) (hd : decode μ.2.1 pc = .ok (.if_icmp .ge off, 3)) (ht : (pc : Int) + off = (tgt : Int)) (kt : y ≤ x → G l μ Φ c0 s0 S (tgt) ls (st) v) (kf : ¬ (y ≤ x) → G l μ Φ c0 s0 S (pc+3) ls (st) v) : G l μ Φ c0 s0 S (pc) ls (ai y :: ai x :: st) v := by
  intro p en s m args below meth c H locs D T ea A ad ad0 n0 lsC hC hS
  have hy : iR y := hS.top
  have hx : iR x := hS.two
  have e := iR_le hy hx
  have hS2 := hS.stk fun h => (RAs_cons.mp (RAs_cons.mp h).2).2
  exact lv_icmp_ge hC.1 hC.2.1 hd ht (fun h => kt (e.mp h) p en s m args below meth c _ _ D T ea A _ ad0 n0 _ hC hS2) (fun h => kf (fun z => h (e.mpr z)) p en s m args below meth c _ _ D T ea A _ ad0 n0 _ hC hS2)
theorem G_if_ge {x off : Int} (tgt : Nat) (hd : decode μ.2.1 pc = .ok (.ifCond .ge off, 3)) (ht : (pc : Int) + off = (tgt : Int)) (kt : 0 ≤ x → G l μ Φ c0 s0 S (tgt) ls (st) v) (kf : ¬ (0 ≤ x) → G l μ Φ c0 s0 S (pc+3) ls (st) v) : G l μ Φ c0 s0 S (pc) ls (ai x :: st) v := by
  intro p en s m args below meth c H locs D T ea A ad ad0 n0 lsC hC hS
  have hx : iR x := hS.top
  have e := iR_le iR_0 hx
  have hS2 := hS.stk fun h => (RAs_cons.mp h).2
  exact lv_if_ge hC.1 hC.2.1 hd ht (fun h => kt (e.mp h) p en s m args below meth c _ _ D T ea A _ ad0 n0 _ hC hS2) (fun h => kf (fun z => h (e.mpr z)) p en s m args below meth c _ _ D T ea A _ ad0 n0 _ hC hS2)
theorem G_icmp_gt {x y off : Int} (tgt : Nat) (hd : decode μ.2.1 pc = .ok (.if_icmp .gt off, 3)) (ht : (pc : Int) + off = (tgt : Int)) (kt : y < x → G l μ Φ c0 s0 S (tgt) ls (st) v) (kf : ¬ (y < x) → G l μ Φ c0 s0 S (pc+3) ls (st) v) : G l μ Φ c0 s0 S (pc) ls (ai y :: ai x :: st) v := by
  intro p en s m args below meth c H locs D T ea A ad ad0 n0 lsC hC hS
  have hy : iR y := hS.top
  have hx : iR x := hS.two
  have e := iR_lt hy hx
  have hS2 := hS.stk fun h => (RAs_cons.mp (RAs_cons.mp h).2).2
  exact lv_icmp_gt hC.1 hC.2.1 hd ht (fun h => kt (e.mp h) p en s m args below meth c _ _ D T ea A _ ad0 n0 _ hC hS2) (fun h => kf (fun z => h (e.mpr z)) p en s m args below meth c _ _ D T ea A _ ad0 n0 _ hC hS2)
theorem G_if_gt {x off : Int} (tgt : Nat) (hd : decode μ.2.1 pc = .ok (.ifCond .gt off, 3)) (ht : (pc : Int) + off = (tgt : Int)) (kt : 0 < x → G l μ Φ c0 s0 S (tgt) ls (st) v) (kf : ¬ (0 < x) → G l μ Φ c0 s0 S (pc+3) ls (st) v) : G l μ Φ c0 s0 S (pc) ls (ai x :: st) v := by
  intro p en s m args below meth c H locs D T ea A ad ad0 n0 lsC hC hS
  have hx : iR x := hS.top
  have e := iR_lt iR_0 hx
  have hS2 := hS.stk fun h => (RAs_cons.mp h).2
  exact lv_if_gt hC.1 hC.2.1 hd ht (fun h => kt (e.mp h) p en s m args below meth c _ _ D T ea A _ ad0 n0 _ hC hS2) (fun h => kf (fun z => h (e.mpr z)) p en s m args below meth c _ _ D T ea A _ ad0 n0 _ hC hS2)
theorem G_icmp_le {x y off : Int} (tgt : Nat) (hd : decode μ.2.1 pc = .ok (.if_icmp .le off, 3)) (ht : (pc : Int) + off = (tgt : Int)) (kt : x ≤ y → G l μ Φ c0 s0 S (tgt) ls (st) v) (kf : ¬ (x ≤ y) → G l μ Φ c0 s0 S (pc+3) ls (st) v) : G l μ Φ c0 s0 S (pc) ls (ai y :: ai x :: st) v := by
  intro p en s m args below meth c H locs D T ea A ad ad0 n0 lsC hC hS
  have hy : iR y := hS.top
  have hx : iR x := hS.two
  have e := iR_le hx hy
  have hS2 := hS.stk fun h => (RAs_cons.mp (RAs_cons.mp h).2).2
  exact lv_icmp_le hC.1 hC.2.1 hd ht (fun h => kt (e.mp h) p en s m args below meth c _ _ D T ea A _ ad0 n0 _ hC hS2) (fun h => kf (fun z => h (e.mpr z)) p en s m args below meth c _ _ D T ea A _ ad0 n0 _ hC hS2)
theorem G_if_le {x off : Int} (tgt : Nat) (hd : decode μ.2.1 pc = .ok (.ifCond .le off, 3)) (ht : (pc : Int) + off = (tgt : Int)) (kt : x ≤ 0 → G l μ Φ c0 s0 S (tgt) ls (st) v) (kf : ¬ (x ≤ 0) → G l μ Φ c0 s0 S (pc+3) ls (st) v) : G l μ Φ c0 s0 S (pc) ls (ai x :: st) v := by
  intro p en s m args below meth c H locs D T ea A ad ad0 n0 lsC hC hS
  have hx : iR x := hS.top
  have e := iR_le hx iR_0
  have hS2 := hS.stk fun h => (RAs_cons.mp h).2
  exact lv_if_le hC.1 hC.2.1 hd ht (fun h => kt (e.mp h) p en s m args below meth c _ _ D T ea A _ ad0 n0 _ hC hS2) (fun h => kf (fun z => h (e.mpr z)) p en s m args below meth c _ _ D T ea A _ ad0 n0 _ hC hS2)
theorem G_ifnullS {k : Nat} {off : Int} (hd : decode μ.2.1 pc = .ok (.ifnull off, 3)) (kk : G l μ Φ c0 s0 S (pc+3) ls (st) v) : G l μ Φ c0 s0 S (pc) ls (ar (some k) :: st) v := by
  intro p en s m args below meth c H locs D T ea A ad ad0 n0 lsC hC hS
  exact lv_ifnull hC.1 hC.2.1 hd (kk p en s m args below meth c _ _ D T ea A _ ad0 n0 _ hC (hS.stk fun h => (RAs_cons.mp h).2))
theorem G_ifnullN {off : Int} (tgt : Nat) (hd : decode μ.2.1 pc = .ok (.ifnull off, 3)) (ht : (pc : Int) + off = (tgt : Int)) (kk : G l μ Φ c0 s0 S (tgt) ls (st) v) : G l μ Φ c0 s0 S (pc) ls (ar none :: st) v := by
  intro p en s m args below meth c H locs D T ea A ad ad0 n0 lsC hC hS
  exact lv_ifnullN hC.1 hC.2.1 hd ht (kk p en s m args below meth c _ _ D T ea A _ ad0 n0 _ hC (hS.stk fun h => (RAs_cons.mp h).2))
theorem G_ifnonnullS {k : Nat} {off : Int} (tgt : Nat) (hd : decode μ.2.1 pc = .ok (.ifnonnull off, 3)) (ht : (pc : Int) + off = (tgt : Int)) (kk : G l μ Φ c0 s0 S (tgt) ls (st) v) : G l μ Φ c0 s0 S (pc) ls (ar (some k) :: st) v := by
  intro p en s m args below meth c H locs D T ea A ad ad0 n0 lsC hC hS
  exact lv_ifnonnull hC.1 hC.2.1 hd ht (kk p en s m args below meth c _ _ D T ea A _ ad0 n0 _ hC (hS.stk fun h => (RAs_cons.mp h).2))
theorem G_ifnonnullN {off : Int} (hd : decode μ.2.1 pc = .ok (.ifnonnull off, 3)) (kk : G l μ Φ c0 s0 S (pc+3) ls (st) v) : G l μ Φ c0 s0 S (pc) ls (ar none :: st) v := by
  intro p en s m args below meth c H locs D T ea A ad ad0 n0 lsC hC hS
  exact lv_ifnonnullN hC.1 hC.2.1 hd (kk p en s m args below meth c _ _ D T ea A _ ad0 n0 _ hC (hS.stk fun h => (RAs_cons.mp h).2))
theorem G_tableIn {dflt lo hi : Int} {offs : Array Int} {len : Nat} {x off : Int} (tgt : Nat) (hd : decode μ.2.1 pc = .ok (.tableswitch dflt lo hi offs, len)) (h1 : lo ≤ x) (h2 : x ≤ hi) (ho : offs[(x - lo).toNat]? = some off) (ht : (pc : Int) + off = (tgt : Int)) (kk : G l μ Φ c0 s0 S (tgt) ls (st) v) : G l μ Φ c0 s0 S (pc) ls (ai x :: st) v := by
  intro p en s m args below meth c H locs D T ea A ad ad0 n0 lsC hC hS
  have hx : iR x := hS.top
  have e := iR_toInt hx
  exact lv_tableIn hC.1 hC.2.1 hd (by rw [e]; omega) (by rw [e]; omega) (by rw [e]; exact ho) ht (kk p en s m args below meth c _ _ D T ea A _ ad0 n0 _ hC (hS.stk fun h => (RAs_cons.mp h).2))
theorem G_tableOut {dflt lo hi : Int} {offs : Array Int} {len : Nat} {x : Int} (tgt : Nat) (hd : decode μ.2.1 pc = .ok (.tableswitch dflt lo hi offs, len)) (h1 : x < lo ∨ hi < x) (ht : (pc : Int) + dflt = (tgt : Int)) (kk : G l μ Φ c0 s0 S (tgt) ls (st) v) : G l μ Φ c0 s0 S (pc) ls (ai x :: st) v := by
  intro p en s m args below meth c H locs D T ea A ad ad0 n0 lsC hC hS
  have hx : iR x := hS.top
  have e := iR_toInt hx
  exact lv_tableOut hC.1 hC.2.1 hd (by rw [e]; omega) ht (kk p en s m args below meth c _ _ D T ea A _ ad0 n0 _ hC (hS.stk fun h => (RAs_cons.mp h).2))
def lg1 (ls : LL) (i : Nat) : Bool := match i with
  | 0 => true
  | i + 1 => match ls[i]? with
    | some (some (.inr (.inr (.inl _)))) => false
    | _ => true
def lpair (ad ea : Nat → Nat) (ls : LL) : List (Nat × Value) := (List.range ls.length).filterMap fun j => match ls[j]? with
  | some (some a) => some (j, tr ad ea a)
  | _ => none
theorem lpair_mem {ad ea : Nat → Nat} {ls : LL} {j : Nat} {a : AV} (h : ls[j]? = some (some a)) : (j, tr ad ea a) ∈ lpair ad ea ls := by
  refine List.mem_filterMap.mpr ⟨j, List.mem_range.mpr (List.getElem?_eq_some_iff.mp h).1, ?_⟩
  rw [h]
theorem lpair_has {ad ea : Nat → Nat} {nL : Nat} {lsC : Array Slot} {ls : LL} (h : LR ad ea nL lsC ls) : lv_has lsC nL (lpair ad ea ls) := by
  refine ⟨h.1, h.2.1, fun q hq => ?_⟩
  obtain ⟨j, -, hj⟩ := List.mem_filterMap.mp hq
  split at hj
  · rename_i a ha
    cases hj
    exact h.2.2 _ _ ha
  · cases hj
theorem lpair_cat {a : AV} {ad ea : Nat → Nat} (h : (tr ad ea a).category = 2) : ∃ y, a = al y := by
  match a with
  | .inl none => cases h
  | .inl (some k) => cases h
  | .inr (.inl x) => cases h
  | .inr (.inr (.inl y)) => exact ⟨y, rfl⟩
  | .inr (.inr (.inr e)) => cases h
theorem lset_LR {ad ea : Nat → Nat} {nL i : Nat} {lsC lsD : Array Slot} {ls : LL} {a : AV} (hg : lg1 ls i = true) (h2 : lv_has lsD nL ((i, tr ad ea a) :: (lpair ad ea ls).filter (fun q => !(q.1 == i) && !(q.1 + 1 == i && q.2.category == 2)))) : LR ad ea nL lsD (ls.set i (some a)) := by
  refine ⟨h2.1, h2.2.1, fun j b hj => ?_⟩
  rw [List.getElem?_set] at hj
  split at hj
  · rename_i hij
    subst hij
    split at hj
    · cases hj
      exact h2.2.2 _ List.mem_cons_self
    · cases hj
  · rename_i hij
    refine h2.2.2 (j, tr ad ea b) (List.mem_cons_of_mem _ (List.mem_filter.mpr ⟨lpair_mem hj, ?_⟩))
    simp only [Bool.and_eq_true, Bool.not_eq_true', Bool.and_eq_false_iff, beq_eq_false_iff_ne, ne_eq]
    refine ⟨fun h => hij h.symm, ?_⟩
    by_cases h1 : j + 1 = i
    · right
      intro hc
      obtain ⟨y, rfl⟩ := lpair_cat (a := b) (ad := ad) (ea := ea) (by simpa using hc)
      subst h1
      simp [lg1, hj] at hg
    · exact Or.inl h1
theorem RAl_set {n i : Nat} {ls : LL} {a : AV} (h : RAl n ls) (ha : RA n a) : RAl n (ls.set i (some a)) := by
  intro j b hj
  rw [List.getElem?_set] at hj
  split at hj
  · split at hj
    · cases hj; exact ha
    · cases hj
  · exact h j b hj
theorem Sx.loc {s : State} {D : va_G} {T : Nat → ClassId} {ea : Nat → Nat} {A : Nat → Prop} {ad0 : Nat → Nat} {n0 : Nat} {H : Heap} {locs : List Loc} {ad : Nat → Nat} {lsC lsD : Array Slot} {ls2 : LL} (h : Sx μ s D T ea A ad0 n0 S ls st v H locs ad lsC) (h1 : RAl S.1 ls2) (h2 : LR ad ea μ.2.2.2.1 lsD ls2) : Sx μ s D T ea A ad0 n0 S ls2 st v H locs ad lsD := ⟨h.1, h.2.1, h.2.2.1, h.2.2.2.1, h1, h.2.2.2.2.2.1, h.2.2.2.2.2.2.1, h.2.2.2.2.2.2.2.1, h2⟩
theorem G_istore_n {i : Fin 4} {x : Int} (hd : decode μ.2.1 pc = .ok (.istore_n i, 1)) (hn : Nat.blt i.1 μ.2.2.2.1 = true) (hg : lg1 ls i.1 = true) (k : G l μ Φ c0 s0 S (pc+1) (ls.set i.1 (some (ai x))) (st) v) : G l μ Φ c0 s0 S (pc) ls (ai x :: st) v := by
  intro p en s m args below meth c H locs D T ea A ad ad0 n0 lsC hC hS
  exact lv_istore_n hC.1 hC.2.1 hd rfl (lpair_has hS.lr) (by simpa using hn) rfl (fun lsD hl => k p en s m args below meth c _ _ D T ea A _ ad0 n0 _ hC ((hS.stk fun h => (RAs_cons.mp h).2).loc (RAl_set hS.2.2.2.2.1 hS.top) (lset_LR (lsC := lsC) (a := ai x) hg hl)))
theorem G_istore {i : Nat} {x : Int} (hd : decode μ.2.1 pc = .ok (.istore i, 2)) (hn : Nat.blt i μ.2.2.2.1 = true) (hg : lg1 ls i = true) (k : G l μ Φ c0 s0 S (pc+2) (ls.set i (some (ai x))) (st) v) : G l μ Φ c0 s0 S (pc) ls (ai x :: st) v := by
  intro p en s m args below meth c H locs D T ea A ad ad0 n0 lsC hC hS
  exact lv_istore hC.1 hC.2.1 hd (lpair_has hS.lr) (by simpa using hn) rfl (fun lsD hl => k p en s m args below meth c _ _ D T ea A _ ad0 n0 _ hC ((hS.stk fun h => (RAs_cons.mp h).2).loc (RAl_set hS.2.2.2.2.1 hS.top) (lset_LR (lsC := lsC) (a := ai x) hg hl)))
theorem G_astore_n {i : Fin 4} {r : Option Nat} (hd : decode μ.2.1 pc = .ok (.astore_n i, 1)) (hn : Nat.blt i.1 μ.2.2.2.1 = true) (hg : lg1 ls i.1 = true) (k : G l μ Φ c0 s0 S (pc+1) (ls.set i.1 (some (ar r))) (st) v) : G l μ Φ c0 s0 S (pc) ls (ar r :: st) v := by
  intro p en s m args below meth c H locs D T ea A ad ad0 n0 lsC hC hS
  cases r with
  | none => exact lv_astore_nN hC.1 hC.2.1 hd rfl (lpair_has hS.lr) (by simpa using hn) rfl (fun lsD hl => k p en s m args below meth c _ _ D T ea A _ ad0 n0 _ hC ((hS.stk fun h => (RAs_cons.mp h).2).loc (RAl_set hS.2.2.2.2.1 hS.top) (lset_LR (lsC := lsC) (a := ar none) hg hl)))
  | some x => exact lv_astore_n hC.1 hC.2.1 hd rfl (lpair_has hS.lr) (by simpa using hn) rfl (fun lsD hl => k p en s m args below meth c _ _ D T ea A _ ad0 n0 _ hC ((hS.stk fun h => (RAs_cons.mp h).2).loc (RAl_set hS.2.2.2.2.1 hS.top) (lset_LR (lsC := lsC) (a := ar (some x)) hg hl)))
theorem G_astore {i : Nat} {r : Option Nat} (hd : decode μ.2.1 pc = .ok (.astore i, 2)) (hn : Nat.blt i μ.2.2.2.1 = true) (hg : lg1 ls i = true) (k : G l μ Φ c0 s0 S (pc+2) (ls.set i (some (ar r))) (st) v) : G l μ Φ c0 s0 S (pc) ls (ar r :: st) v := by
  intro p en s m args below meth c H locs D T ea A ad ad0 n0 lsC hC hS
  cases r with
  | none => exact lv_astoreN hC.1 hC.2.1 hd (lpair_has hS.lr) (by simpa using hn) rfl (fun lsD hl => k p en s m args below meth c _ _ D T ea A _ ad0 n0 _ hC ((hS.stk fun h => (RAs_cons.mp h).2).loc (RAl_set hS.2.2.2.2.1 hS.top) (lset_LR (lsC := lsC) (a := ar none) hg hl)))
  | some x => exact lv_astore hC.1 hC.2.1 hd (lpair_has hS.lr) (by simpa using hn) rfl (fun lsD hl => k p en s m args below meth c _ _ D T ea A _ ad0 n0 _ hC ((hS.stk fun h => (RAs_cons.mp h).2).loc (RAl_set hS.2.2.2.2.1 hS.top) (lset_LR (lsC := lsC) (a := ar (some x)) hg hl)))
theorem G_iinc {i : Nat} {n x : Int} (hd : decode μ.2.1 pc = .ok (.iinc i n, 3)) (hl : ls[i]? = some (some (ai x))) (hr : iR (x + n)) (hn : Nat.blt i μ.2.2.2.1 = true) (hg : lg1 ls i = true) (k : G l μ Φ c0 s0 S (pc+3) (ls.set i (some (ai (x + n)))) (st) v) : G l μ Φ c0 s0 S (pc) ls (st) v := by
  intro p en s m args below meth c H locs D T ea A ad ad0 n0 lsC hC hS
  obtain ⟨q, hq⟩ := List.getElem?_of_mem (lpair_mem (ad := ad) (ea := ea) hl)
  exact lv_iinc (v := Int32.ofInt (x + n)) hC.1 hC.2.1 hd (lpair_has hS.lr) hq (Int32.ofInt_add x n).symm (by simpa using hn) rfl (fun lsD h2 => k p en s m args below meth c _ _ D T ea A _ ad0 n0 _ hC (hS.loc (RAl_set hS.2.2.2.2.1 hr) (lset_LR (lsC := lsC) (a := ai (x + n)) hg h2)))
end GR
end
section
def Rof (ci : Nat) : String := match ci with
  | 0 => RX0
  | 1 => RX1
  | 2 => RX2
  | 3 => RX3
  | 4 => RX4
  | 5 => RX5
  | _ => RX6
def Tof (ci : Nat) : u_T := match ci with
  | 0 => TX0
  | 1 => TX1
  | 2 => TX2
  | 3 => TX3
  | 4 => TX4
  | 5 => TX5
  | _ => TX6
theorem cin_0 : ∀ w ∈ u_ws RX0 TX0 4, w ∈ lw_good := by decide +kernel
theorem cin_1 : ∀ w ∈ u_ws RX1 TX1 7, w ∈ lw_good := by decide +kernel
theorem cin_2 : ∀ w ∈ u_ws RX2 TX2 12, w ∈ lw_good := by decide +kernel
theorem cin_3 : ∀ w ∈ u_ws RX3 TX3 2, w ∈ lw_good := by decide +kernel
theorem cin_4 : ∀ w ∈ u_ws RX4 TX4 11, w ∈ lw_good := by decide +kernel
theorem cin_5 : ∀ w ∈ u_ws RX5 TX5 10, w ∈ lw_good := by decide +kernel
theorem cin_6 : ∀ w ∈ u_ws RX6 TX6 46, w ∈ lw_good := by decide +kernel
theorem cls_at {ci : Nat} (h : ci < 7) : classes[ci]? = some (Rof ci, Tof ci, nf ci) := by
  match ci, h with
  | 0, _ => exact rfl
  | 1, _ => exact rfl
  | 2, _ => exact rfl
  | 3, _ => exact rfl
  | 4, _ => exact rfl
  | 5, _ => exact rfl
  | 6, _ => exact rfl
theorem cls_in {ci : Nat} (h : ci < 7) : ∀ w ∈ u_ws (Rof ci) (Tof ci) (nf ci), w ∈ lw_good := by
  match ci, h with
  | 0, _ => exact cin_0
  | 1, _ => exact cin_1
  | 2, _ => exact cin_2
  | 3, _ => exact cin_3
  | 4, _ => exact cin_4
  | 5, _ => exact cin_5
  | 6, _ => exact cin_6
theorem cls_ty {ci : Nat} (h : ci < 7) : ∀ k, k < nf ci → parseFieldDescriptor (Tof ci k).2.2.1 = some (tyof ci k) := by
  match ci, h with
  | 0, _ => exact tyX0_ok
  | 1, _ => exact tyX1_ok
  | 2, _ => exact tyX2_ok
  | 3, _ => exact tyX3_ok
  | 4, _ => exact tyX4_ok
  | 5, _ => exact tyX5_ok
  | 6, _ => exact tyX6_ok
theorem cls_nm {ci : Nat} (h : ci < 7) : ∀ a, a < nf ci → ∀ b, b < nf ci → a ≠ b → (Tof ci a).2.1 ≠ (Tof ci b).2.1 := by
  match ci, h with
  | 0, _ => exact nmX0
  | 1, _ => exact nmX1
  | 2, _ => exact nmX2
  | 3, _ => exact nmX3
  | 4, _ => exact nmX4
  | 5, _ => exact nmX5
  | 6, _ => exact nmX6
def FL (own : String) (idx ci j : Nat) : Prop := ci < 7 ∧ j < nf ci ∧ Cond.fieldLink own idx (Tof ci j).1 (Tof ci j).2.1 (Tof ci j).2.2.1 ∈ lw_good
def FLN (own : String) (idx ci j : Nat) : Prop := ci < 7 ∧ j < nf ci ∧ Cond.fieldLinkNest own idx (Tof ci j).1 (Tof ci j).2.1 (Tof ci j).2.2.1 RX5 ∈ nestw
def up (v : VV) (k : Nat) (j x : Int) : VV := fun a b => if a = k ∧ b = j then x else v a b
theorem up_at (v : VV) (k : Nat) (j x : Int) : up v k j x k = fun b => if b = j then x else v k b := by funext b; simp [up]
theorem up_self (v : VV) (k : Nat) (j x : Int) : up v k j x k j = x := by simp [up]
theorem up_ne {v : VV} {k a : Nat} {j x : Int} (h : a ≠ k) : up v k j x a = v a := by funext b; simp [up, h]
theorem up_nj {v : VV} {k a : Nat} {j b x : Int} (h : b ≠ j) : up v k j x a b = v a b := by simp [up, h]
theorem kr_iR {kind : Nat} {x : Int} (h : Nat.blt kind 3 = true) (hk : kr kind x) : iR x := by
  have : kind < 3 := by simpa using h
  match kind, this, hk with
  | 0, _, hk => exact hk
  | 1, _, hk => exact ⟨by have := hk.1; omega, by have := hk.2; omega⟩
  | 2, _, hk => rcases hk with rfl | rfl <;> exact ⟨by decide, by decide⟩
theorem skd_obj {sh : Nat × Nat} {ci j : Nat} (h : sh.1 = 16 + ci) : skd sh (j : Int) = fk ci j := by
  unfold skd
  rw [h, if_neg (by omega), show 16 + ci - 16 = ci by omega, Int.toNat_natCast]
theorem cell_obj {T : Nat → ClassId} {ad : Nat → Nat} {sh : Nat × Nat} {rk : Int → Option Nat} {vk : Int → Int} {ci : Nat} (h : sh.1 = 16 + ci) : cellE T ad sh rk vk = .inr (ci, flds ad ci rk vk) := by
  unfold cellE
  rw [h, if_neg (by omega), show 16 + ci - 16 = ci by omega]
theorem cell_arr {T : Nat → ClassId} {ad : Nat → Nat} {sh : Nat × Nat} {rk : Int → Option Nat} {vk : Int → Int} {t len : Nat} (h : sh = (t, len)) (ht : Nat.blt t 16 = true) : cellE T ad sh rk vk = .inl (T t, arrc ad t len rk vk) := by
  have : t < 16 := by simpa using ht
  subst h
  unfold cellE
  rw [if_pos this]
theorem wl_get {T : Nat → ClassId} {ad : Nat → Nat} {S : AS} {v : VV} {k : Nat} (hk : k < S.1) : (wl T ad S v)[k]? = some (ad k, cellE T ad (S.2.1 k) (S.2.2 k) (v k)) := by
  simp [wl, List.getElem?_map, List.getElem?_range hk]
theorem wl_set {T : Nat → ClassId} {ad : Nat → Nat} {S S2 : AS} {v v2 : VV} {k : Nat} (hn : S2.1 = S.1) (hsh : S2.2.1 = S.2.1) (hr : ∀ a, a ≠ k → S2.2.2 a = S.2.2 a) (h : ∀ a, a ≠ k → v2 a = v a) : (wl T ad S v).set k (ad k, cellE T ad (S2.2.1 k) (S2.2.2 k) (v2 k)) = wl T ad S2 v2 := by
  apply List.ext_getElem?
  intro i
  rw [List.getElem?_set]
  by_cases hi : i < S.1
  · rw [wl_get (S := S2) (by rw [hn]; exact hi)]
    by_cases hk : k = i
    · subst hk
      rw [if_pos rfl, if_pos (by simpa [wl] using hi)]
    · rw [if_neg hk, wl_get hi, h i (fun z => hk z.symm), hr i (fun z => hk z.symm), hsh]
  · have e1 : (wl T ad S v)[i]? = none := by simp [wl]; omega
    have e2 : (wl T ad S2 v2)[i]? = none := by simp [wl, hn]; omega
    rw [e1, e2]
    by_cases hk : k = i
    · subst hk
      rw [if_pos rfl, if_neg (by simpa [wl] using hi)]
    · rw [if_neg hk]
theorem flds_get {ad : Nat → Nat} {ci j : Nat} {rk : Int → Option Nat} {vk : Int → Int} (h : j < nf ci) : (flds ad ci rk vk)[j]? = some (vlk (fk ci j) ad (rk j) (vk j)) := by
  simp [flds, List.getElem?_map, List.getElem?_range h]
theorem flds_len {ad : Nat → Nat} {ci : Nat} {rk : Int → Option Nat} {vk : Int → Int} : (flds ad ci rk vk).length = nf ci := by simp [flds]
theorem flds_set {ad : Nat → Nat} {ci j : Nat} {rk : Int → Option Nat} {vk : Int → Int} (r : Option Nat) (x : Int) (hj : j < nf ci) : (flds ad ci rk vk).set j (vlk (fk ci j) ad r x) = flds ad ci (fun b => if b = (j : Int) then r else rk b) (fun b => if b = (j : Int) then x else vk b) := by
  apply List.ext_getElem?
  intro i
  rw [List.getElem?_set]
  by_cases hi : i < nf ci
  · have e2 := flds_get (ad := ad) (rk := fun b => if b = (j : Int) then r else rk b) (vk := fun b => if b = (j : Int) then x else vk b) hi
    rw [e2]
    by_cases h : j = i
    · subst h
      rw [if_pos rfl, if_pos (by rw [flds_len]; exact hi), if_pos rfl, if_pos rfl]
    · have h' : ¬ ((i : Int) = (j : Int)) := fun z => h (by omega)
      rw [if_neg h, flds_get hi, if_neg h', if_neg h']
  · rw [List.getElem?_eq_none (l := flds ad ci (fun b => if b = (j : Int) then r else rk b) _) (by rw [flds_len]; omega), if_neg (by omega), List.getElem?_eq_none (by rw [flds_len]; omega)]
theorem RV_up {S : AS} {v : VV} {k : Nat} {j x : Int} (h : RV S v) (hx : kr (skd (S.2.1 k) j) x) : RV S (up v k j x) := by
  intro a ha b
  unfold up
  split
  · rename_i hh
    rw [hh.1, hh.2]
    exact hx
  · exact h a ha b
theorem kd_0 {t : FieldType} (h : kd t = 0) : t = .int := by cases t <;> first | rfl | cases h
theorem kd_2 {t : FieldType} (h : kd t = 2) : t = .boolean := by cases t <;> first | rfl | cases h
theorem kd_5 {t : FieldType} (h : kd t = 5) : t = .long := by cases t <;> first | rfl | cases h
theorem kd_3 {t : FieldType} (h : kd t = 3) (r : Option Nat) (ad : Nat → Nat) (hp : ∃ n, t = .object n ∨ ∃ u, t = .array u) : narrow t (va_rf (r.map ad)) = va_rf (r.map ad) ∧ fits t (va_rf (r.map ad)) = true := by
  obtain ⟨n, rfl | ⟨u, rfl⟩⟩ := hp <;> cases r <;> exact ⟨rfl, rfl⟩
theorem tr_rf {ad ea : Nat → Nat} (r : Option Nat) : tr ad ea (ar r) = va_rf (r.map ad) := by cases r <;> rfl
theorem RA_rf {S : AS} (h : WR S) {k : Nat} (hk : k < S.1) (j : Int) : RA S.1 (ar (S.2.2 k j)) := by
  cases hr : S.2.2 k j with
  | none => trivial
  | some r => exact h k hk j r hr
theorem vlk_i {kind : Nat} {ad : Nat → Nat} {r : Option Nat} {x : Int} (h : Nat.blt kind 3 = true) : vlk kind ad r x = .int (Int32.ofInt x) := by
  have : kind < 3 := by simpa using h
  match kind, this with
  | 0, _ => rfl
  | 1, _ => rfl
  | 2, _ => rfl
theorem clampI {i : Int} (hi : iR i) : (Int32.ofInt i).toNatClampNeg = i.toNat := by
  show (Int32.ofInt i).toInt.toNat = i.toNat
  rw [iR_toInt hi]
theorem in_I {i : Int} {n : Nat} (hi : iR i) (h0 : 0 ≤ i) (h1 : i < n) : vp_in (Int32.ofInt i) n := vp_in_iff.mpr (by rw [iR_toInt hi]; exact ⟨h0, h1⟩)
theorem upd_I {f : Int → Int} {i x : Int} (h0 : 0 ≤ i) : upd (fun (j : Nat) => Int32.ofInt (f j)) i.toNat (Int32.ofInt x) = fun (j : Nat) => Int32.ofInt ((fun b => if b = i then x else f b) (j : Int)) := by
  funext j
  unfold upd
  by_cases h : j = i.toNat
  · have h2 : (j : Int) = i := by omega
    rw [if_pos h]
    exact congrArg Int32.ofInt (if_pos h2).symm
  · have h2 : ¬ ((j : Int) = i) := by omega
    rw [if_neg h]
    exact congrArg Int32.ofInt (if_neg h2).symm
theorem narB {x : Int} (hz : -128 ≤ x ∧ x < 128) : vp_nar .byte (Int32.ofInt x) = Int32.ofInt x := by
  rw [vp_nar_byte, ← Int32.toInt_inj, Int8.toInt_toInt32, Int32.toInt_toInt8, iR_toInt ⟨by omega, by omega⟩]
  exact Int.bmod_eq_of_le (by omega) (by omega)
theorem narZ {x : Int} (hz : x = 0 ∨ x = 1) : vp_nar .boolean (Int32.ofInt x) = Int32.ofInt x := by rcases hz with rfl | rfl <;> rfl
section GH
variable {l : Launch} {μ : MU} {Φ : Option AV → AS → VV → Prop} {c0 s0 : Nat} {S : AS} {pc : Nat} {ls : LL} {st : List AV} {v : VV}
theorem Sx.hp {s : State} {D : va_G} {T : Nat → ClassId} {ea : Nat → Nat} {A : Nat → Prop} {ad0 : Nat → Nat} {n0 : Nat} {H H1 : Heap} {locs locs1 : List Loc} {ad : Nat → Nat} {lsC : Array Slot} {v2 : VV} {r2 : Nat → Int → Option Nat} (h : Sx μ s D T ea A ad0 n0 S ls st v H locs ad lsC) (hw : WR (S.1, S.2.1, r2)) (hv : RV S v2) (h1 : va_P D classes (wl T ad (S.1, S.2.1, r2) v2) H1) (h2 : va_D A (wl T ad (S.1, S.2.1, r2) v2)) (h3 : va_S A s.heap H1 locs1) : Sx μ s D T ea A ad0 n0 (S.1, S.2.1, r2) ls st v2 H1 locs1 ad lsC := ⟨h.1, hw, hv, h.2.2.2.1, h.2.2.2.2.1, h1, h2, h3, h.2.2.2.2.2.2.2.2⟩
theorem G_getI {idx ci j k : Nat} (hd : decode μ.2.1 pc = .ok (.getfield idx, 3)) (hf : FL μ.1.cls idx ci j) (hs : (S.2.1 k).1 = 16 + ci) (hi : Nat.blt (fk ci j) 3 = true) (kk : G l μ Φ c0 s0 S (pc+3) ls (ai (v k (j : Int)) :: st) v) : G l μ Φ c0 s0 S (pc) ls (ar (some k) :: st) v := by
  intro p en s m args below meth c H locs D T ea A ad ad0 n0 lsC hC hS
  have hk : k < S.1 := hS.top
  have he := wl_get (T := T) (ad := ad) (v := v) hk
  rw [cell_obj hs] at he
  refine va_get (own := μ.1.cls) (C := Rof ci) (T := Tof ci) (N := nf ci) (Ts := lw_good) hC.1 hC.2.1 hC.2.2.2.2.2.2.2.1 (cls_in hf.1) hC.2.2.2.2.2.2.1 hC.2.2.2.2.2.2.2.2.1 hS.2.2.2.2.2.1 k he (cls_at hf.1) j hf.2.1 (hC.2.2.2.2.2.2.2.1 _ hf.2.2) (fun _ h => h) (v := tr ad ea (ai (v k (j : Int)))) ?_ hd (kk p en s m args below meth c _ _ D T ea A _ ad0 n0 _ hC (hS.stk fun h => RAs_cons.mpr ⟨kr_iR hi (by have := hS.vr k hk (j : Int); rwa [skd_obj hs] at this), (RAs_cons.mp h).2⟩))
  rw [flds_get hf.2.1]
  exact congrArg some (vlk_i hi)
theorem G_getNI {idx ci j k : Nat} (hd : decode μ.2.1 pc = .ok (.getfield idx, 3)) (hf : FLN μ.1.cls idx ci j) (hs : (S.2.1 k).1 = 16 + ci) (hi : Nat.blt (fk ci j) 3 = true) (kk : G l μ Φ c0 s0 S (pc+3) ls (ai (v k (j : Int)) :: st) v) : G l μ Φ c0 s0 S (pc) ls (ar (some k) :: st) v := by
  intro p en s m args below meth c H locs D T ea A ad ad0 n0 lsC hC hS
  have hk : k < S.1 := hS.top
  have he := wl_get (T := T) (ad := ad) (v := v) hk
  rw [cell_obj hs] at he
  refine va_getN (own := μ.1.cls) (C := Rof ci) (T := Tof ci) (N := nf ci) (Ts := lw_good) hC.1 hC.2.1 hC.2.2.2.2.2.2.2.1 (cls_in hf.1) hC.2.2.2.2.2.2.1 hC.2.2.2.2.2.2.2.2.1 hS.2.2.2.2.2.1 k he (cls_at hf.1) j hf.2.1 (va_Nw.use rfl (hC.2.2.2.2.2.2.2.2.2.1.1.2.2.2 _ hf.2.2)) (fun _ h => h) (v := tr ad ea (ai (v k (j : Int)))) ?_ hd (kk p en s m args below meth c _ _ D T ea A _ ad0 n0 _ hC (hS.stk fun h => RAs_cons.mpr ⟨kr_iR hi (by have := hS.vr k hk (j : Int); rwa [skd_obj hs] at this), (RAs_cons.mp h).2⟩))
  rw [flds_get hf.2.1]
  exact congrArg some (vlk_i hi)
theorem G_getR {idx ci j k : Nat} (hd : decode μ.2.1 pc = .ok (.getfield idx, 3)) (hf : FL μ.1.cls idx ci j) (hs : (S.2.1 k).1 = 16 + ci) (hi : fk ci j = 3) (kk : G l μ Φ c0 s0 S (pc+3) ls (ar (S.2.2 k (j : Int)) :: st) v) : G l μ Φ c0 s0 S (pc) ls (ar (some k) :: st) v := by
  intro p en s m args below meth c H locs D T ea A ad ad0 n0 lsC hC hS
  have hk : k < S.1 := hS.top
  have he := wl_get (T := T) (ad := ad) (v := v) hk
  rw [cell_obj hs] at he
  refine va_get (own := μ.1.cls) (C := Rof ci) (T := Tof ci) (N := nf ci) (Ts := lw_good) hC.1 hC.2.1 hC.2.2.2.2.2.2.2.1 (cls_in hf.1) hC.2.2.2.2.2.2.1 hC.2.2.2.2.2.2.2.2.1 hS.2.2.2.2.2.1 k he (cls_at hf.1) j hf.2.1 (hC.2.2.2.2.2.2.2.1 _ hf.2.2) (fun _ h => h) (v := tr ad ea (ar (S.2.2 k (j : Int)))) ?_ hd (kk p en s m args below meth c _ _ D T ea A _ ad0 n0 _ hC (hS.stk fun h => RAs_cons.mpr ⟨RA_rf hS.2.1 hk _, (RAs_cons.mp h).2⟩))
  rw [flds_get hf.2.1]
  exact congrArg some (by rw [hi]; exact (tr_rf _).symm)
theorem G_getL {idx ci j k : Nat} (hd : decode μ.2.1 pc = .ok (.getfield idx, 3)) (hf : FL μ.1.cls idx ci j) (hs : (S.2.1 k).1 = 16 + ci) (hi : fk ci j = 5) (kk : G l μ Φ c0 s0 S (pc+3) ls (al (v k (j : Int)) :: st) v) : G l μ Φ c0 s0 S (pc) ls (ar (some k) :: st) v := by
  intro p en s m args below meth c H locs D T ea A ad ad0 n0 lsC hC hS
  have hk : k < S.1 := hS.top
  have he := wl_get (T := T) (ad := ad) (v := v) hk
  rw [cell_obj hs] at he
  refine va_get (own := μ.1.cls) (C := Rof ci) (T := Tof ci) (N := nf ci) (Ts := lw_good) hC.1 hC.2.1 hC.2.2.2.2.2.2.2.1 (cls_in hf.1) hC.2.2.2.2.2.2.1 hC.2.2.2.2.2.2.2.2.1 hS.2.2.2.2.2.1 k he (cls_at hf.1) j hf.2.1 (hC.2.2.2.2.2.2.2.1 _ hf.2.2) (fun _ h => h) (v := tr ad ea (al (v k (j : Int)))) ?_ hd (kk p en s m args below meth c _ _ D T ea A _ ad0 n0 _ hC (hS.stk fun h => RAs_cons.mpr ⟨by have := hS.vr k hk (j : Int); rw [skd_obj hs, hi] at this; exact this, (RAs_cons.mp h).2⟩))
  rw [flds_get hf.2.1]
  exact congrArg some (by rw [hi]; rfl)
theorem G_putI {idx ci j k : Nat} {x : Int} (hd : decode μ.2.1 pc = .ok (.putfield idx, 3)) (hf : FL μ.1.cls idx ci j) (hfin : (Tof ci j).2.2.2 = false) (hs : (S.2.1 k).1 = 16 + ci) (hi : fk ci j = 0) (kk : G l μ Φ c0 s0 S (pc+3) ls (st) (up v k (j : Int) x)) : G l μ Φ c0 s0 S (pc) ls (ai x :: ar (some k) :: st) v := by
  intro p en s m args below meth c H locs D T ea A ad ad0 n0 lsC hC hS
  have hk : k < S.1 := hS.two
  have hx : kr (fk ci j) x := by rw [hi]; exact hS.top
  have he := wl_get (T := T) (ad := ad) (v := v) hk
  rw [cell_obj hs] at he
  refine va_put (own := μ.1.cls) (C := Rof ci) (T := Tof ci) (N := nf ci) (Ts := lw_good) hC.1 hC.2.1 hC.2.2.2.2.2.2.2.1 (cls_in hf.1) (tyof ci) (cls_ty hf.1) (cls_nm hf.1) hC.2.2.2.2.2.2.1 hC.2.2.2.2.2.2.2.2.1 hS.2.2.2.2.2.1 hS.2.2.2.2.2.2.1 hS.2.2.2.2.2.2.2.1 k he (cls_at hf.1) j hf.2.1 (hC.2.2.2.2.2.2.2.1 _ hf.2.2) (fun _ h => h) hfin (ty := tyof ci j) (v := Value.int (Int32.ofInt x)) (cls_ty hf.1 j hf.2.1) (by rw [kd_0 hi]; rfl) (by rw [kd_0 hi]; rfl) (by rw [flds_len]; exact hf.2.1) hd (fun H1 locs1 h1 h2 h3 => ?_)
  have e : (wl T ad S v).set k (ad k, .inr (ci, (flds ad ci (S.2.2 k) (v k)).set j (Value.int (Int32.ofInt x)))) = wl T ad S (up v k j x) := by
    rw [show Value.int (Int32.ofInt x) = vlk (fk ci j) ad (S.2.2 k j) x from (vlk_i (by rw [hi]; rfl)).symm, flds_set (S.2.2 k j) x hf.2.1]
    have h9 := wl_set (T := T) (ad := ad) (S := S) (S2 := S) (v := v) (v2 := up v k j x) (k := k) rfl rfl (fun _ _ => rfl) (fun a ha => up_ne ha)
    rw [cell_obj (sh := (S).2.1 k) hs, up_at] at h9
    rw [← h9]
    have e3 : (fun b => if b = (j : Int) then S.2.2 k j else S.2.2 k b) = S.2.2 k := by
      funext b
      by_cases hb : b = (j : Int)
      · simp [hb]
      · simp [hb]
    rw [e3]
  rw [e] at h1 h2
  exact kk p en s m args below meth c _ _ D T ea A _ ad0 n0 _ hC ((hS.stk fun h => (RAs_cons.mp (RAs_cons.mp h).2).2).hp hS.2.1 (RV_up hS.vr (by rw [skd_obj hs]; exact hx)) h1 h2 h3)
theorem G_putZ {idx ci j k : Nat} {x : Int} (hd : decode μ.2.1 pc = .ok (.putfield idx, 3)) (hf : FL μ.1.cls idx ci j) (hfin : (Tof ci j).2.2.2 = false) (hs : (S.2.1 k).1 = 16 + ci) (hi : fk ci j = 2) (hz : x = 0 ∨ x = 1) (kk : G l μ Φ c0 s0 S (pc+3) ls (st) (up v k (j : Int) x)) : G l μ Φ c0 s0 S (pc) ls (ai x :: ar (some k) :: st) v := by
  intro p en s m args below meth c H locs D T ea A ad ad0 n0 lsC hC hS
  have hk : k < S.1 := hS.two
  have hx : kr (fk ci j) x := by rw [hi]; exact hz
  have he := wl_get (T := T) (ad := ad) (v := v) hk
  rw [cell_obj hs] at he
  refine va_put (own := μ.1.cls) (C := Rof ci) (T := Tof ci) (N := nf ci) (Ts := lw_good) hC.1 hC.2.1 hC.2.2.2.2.2.2.2.1 (cls_in hf.1) (tyof ci) (cls_ty hf.1) (cls_nm hf.1) hC.2.2.2.2.2.2.1 hC.2.2.2.2.2.2.2.2.1 hS.2.2.2.2.2.1 hS.2.2.2.2.2.2.1 hS.2.2.2.2.2.2.2.1 k he (cls_at hf.1) j hf.2.1 (hC.2.2.2.2.2.2.2.1 _ hf.2.2) (fun _ h => h) hfin (ty := tyof ci j) (v := Value.int (Int32.ofInt x)) (cls_ty hf.1 j hf.2.1) (by rw [kd_2 hi]; rcases hz with rfl | rfl <;> rfl) (by rw [kd_2 hi]; rcases hz with rfl | rfl <;> rfl) (by rw [flds_len]; exact hf.2.1) hd (fun H1 locs1 h1 h2 h3 => ?_)
  have e : (wl T ad S v).set k (ad k, .inr (ci, (flds ad ci (S.2.2 k) (v k)).set j (Value.int (Int32.ofInt x)))) = wl T ad S (up v k j x) := by
    rw [show Value.int (Int32.ofInt x) = vlk (fk ci j) ad (S.2.2 k j) x from (vlk_i (by rw [hi]; rfl)).symm, flds_set (S.2.2 k j) x hf.2.1]
    have h9 := wl_set (T := T) (ad := ad) (S := S) (S2 := S) (v := v) (v2 := up v k j x) (k := k) rfl rfl (fun _ _ => rfl) (fun a ha => up_ne ha)
    rw [cell_obj (sh := (S).2.1 k) hs, up_at] at h9
    rw [← h9]
    have e3 : (fun b => if b = (j : Int) then S.2.2 k j else S.2.2 k b) = S.2.2 k := by
      funext b
      by_cases hb : b = (j : Int)
      · simp [hb]
      · simp [hb]
    rw [e3]
  rw [e] at h1 h2
  exact kk p en s m args below meth c _ _ D T ea A _ ad0 n0 _ hC ((hS.stk fun h => (RAs_cons.mp (RAs_cons.mp h).2).2).hp hS.2.1 (RV_up hS.vr (by rw [skd_obj hs]; exact hx)) h1 h2 h3)
theorem G_putIF {idx ci j k : Nat} {x : Int} (hd : decode μ.2.1 pc = .ok (.putfield idx, 3)) (hf : FL μ.1.cls idx ci j) (hfin : (Tof ci j).2.2.2 = true) (hs : (S.2.1 k).1 = 16 + ci) (hi : fk ci j = 0) (hnm : μ.1.name = "<init>") (hdc : (Tof ci j).1 = μ.1.cls) (kk : G l μ Φ c0 s0 S (pc+3) ls (st) (up v k (j : Int) x)) : G l μ Φ c0 s0 S (pc) ls (ai x :: ar (some k) :: st) v := by
  intro p en s m args below meth c H locs D T ea A ad ad0 n0 lsC hC hS
  have hk : k < S.1 := hS.two
  have hx : kr (fk ci j) x := by rw [hi]; exact hS.top
  have he := wl_get (T := T) (ad := ad) (v := v) hk
  rw [cell_obj hs] at he
  refine va_putF (own := μ.1.cls) (C := Rof ci) (T := Tof ci) (N := nf ci) (Ts := lw_good) hC.1 hC.2.1 hC.2.2.2.2.2.2.2.1 (cls_in hf.1) (tyof ci) (cls_ty hf.1) (cls_nm hf.1) hC.2.2.2.2.2.2.1 hC.2.2.2.2.2.2.2.2.1 hS.2.2.2.2.2.1 hS.2.2.2.2.2.2.1 hS.2.2.2.2.2.2.2.1 k he (cls_at hf.1) j hf.2.1 (hC.2.2.2.2.2.2.2.1 _ hf.2.2) (fun _ h => h) hfin (hC.2.2.2.2.2.1.trans hnm) hdc (ty := tyof ci j) (v := Value.int (Int32.ofInt x)) (cls_ty hf.1 j hf.2.1) (by rw [kd_0 hi]; rfl) (by rw [kd_0 hi]; rfl) (by rw [flds_len]; exact hf.2.1) hd (fun H1 locs1 h1 h2 h3 => ?_)
  have e : (wl T ad S v).set k (ad k, .inr (ci, (flds ad ci (S.2.2 k) (v k)).set j (Value.int (Int32.ofInt x)))) = wl T ad S (up v k j x) := by
    rw [show Value.int (Int32.ofInt x) = vlk (fk ci j) ad (S.2.2 k j) x from (vlk_i (by rw [hi]; rfl)).symm, flds_set (S.2.2 k j) x hf.2.1]
    have h9 := wl_set (T := T) (ad := ad) (S := S) (S2 := S) (v := v) (v2 := up v k j x) (k := k) rfl rfl (fun _ _ => rfl) (fun a ha => up_ne ha)
    rw [cell_obj (sh := (S).2.1 k) hs, up_at] at h9
    rw [← h9]
    have e3 : (fun b => if b = (j : Int) then S.2.2 k j else S.2.2 k b) = S.2.2 k := by
      funext b
      by_cases hb : b = (j : Int)
      · simp [hb]
      · simp [hb]
    rw [e3]
  rw [e] at h1 h2
  exact kk p en s m args below meth c _ _ D T ea A _ ad0 n0 _ hC ((hS.stk fun h => (RAs_cons.mp (RAs_cons.mp h).2).2).hp hS.2.1 (RV_up hS.vr (by rw [skd_obj hs]; exact hx)) h1 h2 h3)
theorem G_putL {idx ci j k : Nat} {x : Int} (hd : decode μ.2.1 pc = .ok (.putfield idx, 3)) (hf : FL μ.1.cls idx ci j) (hfin : (Tof ci j).2.2.2 = false) (hs : (S.2.1 k).1 = 16 + ci) (hi : fk ci j = 5) (kk : G l μ Φ c0 s0 S (pc+3) ls (st) (up v k (j : Int) x)) : G l μ Φ c0 s0 S (pc) ls (al x :: ar (some k) :: st) v := by
  intro p en s m args below meth c H locs D T ea A ad ad0 n0 lsC hC hS
  have hk : k < S.1 := hS.two
  have hx : kr (fk ci j) x := by rw [hi]; exact hS.top
  have he := wl_get (T := T) (ad := ad) (v := v) hk
  rw [cell_obj hs] at he
  refine va_put (own := μ.1.cls) (C := Rof ci) (T := Tof ci) (N := nf ci) (Ts := lw_good) hC.1 hC.2.1 hC.2.2.2.2.2.2.2.1 (cls_in hf.1) (tyof ci) (cls_ty hf.1) (cls_nm hf.1) hC.2.2.2.2.2.2.1 hC.2.2.2.2.2.2.2.2.1 hS.2.2.2.2.2.1 hS.2.2.2.2.2.2.1 hS.2.2.2.2.2.2.2.1 k he (cls_at hf.1) j hf.2.1 (hC.2.2.2.2.2.2.2.1 _ hf.2.2) (fun _ h => h) hfin (ty := tyof ci j) (v := Value.long (Int64.ofInt x)) (cls_ty hf.1 j hf.2.1) (by rw [kd_5 hi]; rfl) (by rw [kd_5 hi]; rfl) (by rw [flds_len]; exact hf.2.1) hd (fun H1 locs1 h1 h2 h3 => ?_)
  have e : (wl T ad S v).set k (ad k, .inr (ci, (flds ad ci (S.2.2 k) (v k)).set j (Value.long (Int64.ofInt x)))) = wl T ad S (up v k j x) := by
    rw [show Value.long (Int64.ofInt x) = vlk (fk ci j) ad (S.2.2 k j) x from (by rw [hi]; rfl), flds_set (S.2.2 k j) x hf.2.1]
    have h9 := wl_set (T := T) (ad := ad) (S := S) (S2 := S) (v := v) (v2 := up v k j x) (k := k) rfl rfl (fun _ _ => rfl) (fun a ha => up_ne ha)
    rw [cell_obj (sh := (S).2.1 k) hs, up_at] at h9
    rw [← h9]
    have e3 : (fun b => if b = (j : Int) then S.2.2 k j else S.2.2 k b) = S.2.2 k := by
      funext b
      by_cases hb : b = (j : Int)
      · simp [hb]
      · simp [hb]
    rw [e3]
  rw [e] at h1 h2
  exact kk p en s m args below meth c _ _ D T ea A _ ad0 n0 _ hC ((hS.stk fun h => (RAs_cons.mp (RAs_cons.mp h).2).2).hp hS.2.1 (RV_up hS.vr (by rw [skd_obj hs]; exact hx)) h1 h2 h3)
theorem G_iald {k len : Nat} {i : Int} (hd : decode μ.2.1 pc = .ok (.iaload, 1)) (hs : S.2.1 k = (0, len)) (h0 : 0 ≤ i) (h1 : i < (len : Int)) (kk : G l μ Φ c0 s0 S (pc+1) ls (ai (v k i) :: st) v) : G l μ Φ c0 s0 S (pc) ls (ai i :: ar (some k) :: st) v := by
  intro p en s m args below meth c H locs D T ea A ad ad0 n0 lsC hC hS
  have hk : k < S.1 := hS.two
  have hi : iR i := hS.top
  have he := wl_get (T := T) (ad := ad) (v := v) hk
  rw [cell_arr hs rfl] at he
  refine va_iald hC.1 hC.2.1 hC.2.2.2.2.2.2.2.2.1 hS.2.2.2.2.2.1 k 0 he rfl (in_I hi h0 h1) hd ?_
  have hr : iR (v k i) := kr_iR (kind := 0) rfl (by have := hS.vr k hk i; unfold skd at this; rw [hs] at this; exact this)
  have k2 := kk p en s m args below meth c _ _ D T ea A _ ad0 n0 _ hC (hS.stk fun h => RAs_cons.mpr ⟨hr, (RAs_cons.mp (RAs_cons.mp h).2).2⟩)
  have e : Int32.ofInt (v k ((Int32.ofInt i).toNatClampNeg : Nat)) = Int32.ofInt (v k i) := by rw [clampI hi, Int.toNat_of_nonneg h0]
  show W p l en _ s m args below meth c H locs c0 s0 _ (F0 m (pc + 1) lsC (Value.int (Int32.ofInt (v k ((Int32.ofInt i).toNatClampNeg : Nat))) :: st.map (tr ad ea)))
  rw [e]
  exact k2
theorem G_bald {k len : Nat} {i : Int} (hd : decode μ.2.1 pc = .ok (.baload, 1)) (hs : S.2.1 k = (1, len)) (h0 : 0 ≤ i) (h1 : i < (len : Int)) (kk : G l μ Φ c0 s0 S (pc+1) ls (ai (v k i) :: st) v) : G l μ Φ c0 s0 S (pc) ls (ai i :: ar (some k) :: st) v := by
  intro p en s m args below meth c H locs D T ea A ad ad0 n0 lsC hC hS
  have hk : k < S.1 := hS.two
  have hi : iR i := hS.top
  have he := wl_get (T := T) (ad := ad) (v := v) hk
  rw [cell_arr hs rfl] at he
  refine va_bald hC.1 hC.2.1 hC.2.2.2.2.2.2.2.2.1 hS.2.2.2.2.2.1 k 1 he rfl (in_I hi h0 h1) hd ?_
  have hr : iR (v k i) := kr_iR (kind := 1) rfl (by have := hS.vr k hk i; unfold skd at this; rw [hs] at this; exact this)
  have k2 := kk p en s m args below meth c _ _ D T ea A _ ad0 n0 _ hC (hS.stk fun h => RAs_cons.mpr ⟨hr, (RAs_cons.mp (RAs_cons.mp h).2).2⟩)
  have e : Int32.ofInt (v k ((Int32.ofInt i).toNatClampNeg : Nat)) = Int32.ofInt (v k i) := by rw [clampI hi, Int.toNat_of_nonneg h0]
  show W p l en _ s m args below meth c H locs c0 s0 _ (F0 m (pc + 1) lsC (Value.int (Int32.ofInt (v k ((Int32.ofInt i).toNatClampNeg : Nat))) :: st.map (tr ad ea)))
  rw [e]
  exact k2
theorem G_zald {k len : Nat} {i : Int} (hd : decode μ.2.1 pc = .ok (.baload, 1)) (hs : S.2.1 k = (2, len)) (h0 : 0 ≤ i) (h1 : i < (len : Int)) (kk : G l μ Φ c0 s0 S (pc+1) ls (ai (v k i) :: st) v) : G l μ Φ c0 s0 S (pc) ls (ai i :: ar (some k) :: st) v := by
  intro p en s m args below meth c H locs D T ea A ad ad0 n0 lsC hC hS
  have hk : k < S.1 := hS.two
  have hi : iR i := hS.top
  have he := wl_get (T := T) (ad := ad) (v := v) hk
  rw [cell_arr hs rfl] at he
  refine va_zald hC.1 hC.2.1 hC.2.2.2.2.2.2.2.2.1 hS.2.2.2.2.2.1 k 2 he rfl (in_I hi h0 h1) hd ?_
  have hr : iR (v k i) := kr_iR (kind := 2) rfl (by have := hS.vr k hk i; unfold skd at this; rw [hs] at this; exact this)
  have k2 := kk p en s m args below meth c _ _ D T ea A _ ad0 n0 _ hC (hS.stk fun h => RAs_cons.mpr ⟨hr, (RAs_cons.mp (RAs_cons.mp h).2).2⟩)
  have e : Int32.ofInt (v k ((Int32.ofInt i).toNatClampNeg : Nat)) = Int32.ofInt (v k i) := by rw [clampI hi, Int.toNat_of_nonneg h0]
  show W p l en _ s m args below meth c H locs c0 s0 _ (F0 m (pc + 1) lsC (Value.int (Int32.ofInt (v k ((Int32.ofInt i).toNatClampNeg : Nat))) :: st.map (tr ad ea)))
  rw [e]
  exact k2
theorem G_iast {k len : Nat} {i x : Int} (hd : decode μ.2.1 pc = .ok (.iastore, 1)) (hs : S.2.1 k = (0, len)) (h0 : 0 ≤ i) (h1 : i < (len : Int)) (kk : G l μ Φ c0 s0 S (pc+1) ls (st) (up v k i x)) : G l μ Φ c0 s0 S (pc) ls (ai x :: ai i :: ar (some k) :: st) v := by
  intro p en s m args below meth c H locs D T ea A ad ad0 n0 lsC hC hS
  have hk : k < S.1 := hS.three
  have hi : iR i := hS.two
  have he := wl_get (T := T) (ad := ad) (v := v) hk
  rw [cell_arr hs rfl] at he
  refine va_iast hC.1 hC.2.1 hC.2.2.2.2.2.2.2.2.1 hS.2.2.2.2.2.1 hS.2.2.2.2.2.2.1 hS.2.2.2.2.2.2.2.1 k 0 he rfl (in_I hi h0 h1) hd (fun H1 locs1 g1 g2 g3 => ?_)
  have e : (wl T ad S v).set k (ad k, .inl (T 0, len, .inl (upd (fun (j : Nat) => Int32.ofInt (v k (j : Int))) (Int32.ofInt i).toNatClampNeg (Int32.ofInt x)))) = wl T ad S (up v k i x) := by
    have h9 := wl_set (T := T) (ad := ad) (S := S) (S2 := S) (v := v) (v2 := up v k i x) (k := k) rfl rfl (fun _ _ => rfl) (fun a ha => up_ne ha)
    rw [cell_arr hs rfl, up_at] at h9
    rw [← h9, clampI hi]
    rw [upd_I h0]
    rfl
  rw [e] at g1 g2
  exact kk p en s m args below meth c _ _ D T ea A _ ad0 n0 _ hC ((hS.stk fun h => (RAs_cons.mp (RAs_cons.mp (RAs_cons.mp h).2).2).2).hp hS.2.1 (RV_up hS.vr (by unfold skd; rw [hs]; exact hS.top)) g1 g2 g3)
theorem G_bast {k len : Nat} {i x : Int} (hd : decode μ.2.1 pc = .ok (.bastore, 1)) (hs : S.2.1 k = (1, len)) (h0 : 0 ≤ i) (h1 : i < (len : Int)) (hz : -128 ≤ x ∧ x < 128) (kk : G l μ Φ c0 s0 S (pc+1) ls (st) (up v k i x)) : G l μ Φ c0 s0 S (pc) ls (ai x :: ai i :: ar (some k) :: st) v := by
  intro p en s m args below meth c H locs D T ea A ad ad0 n0 lsC hC hS
  have hk : k < S.1 := hS.three
  have hi : iR i := hS.two
  have he := wl_get (T := T) (ad := ad) (v := v) hk
  rw [cell_arr hs rfl] at he
  refine va_bast hC.1 hC.2.1 hC.2.2.2.2.2.2.2.2.1 hS.2.2.2.2.2.1 hS.2.2.2.2.2.2.1 hS.2.2.2.2.2.2.2.1 k 1 he rfl (in_I hi h0 h1) hd (fun H1 locs1 g1 g2 g3 => ?_)
  have e : (wl T ad S v).set k (ad k, .inl (T 1, len, .inl (upd (fun (j : Nat) => Int32.ofInt (v k (j : Int))) (Int32.ofInt i).toNatClampNeg (vp_nar .byte (Int32.ofInt x))))) = wl T ad S (up v k i x) := by
    have h9 := wl_set (T := T) (ad := ad) (S := S) (S2 := S) (v := v) (v2 := up v k i x) (k := k) rfl rfl (fun _ _ => rfl) (fun a ha => up_ne ha)
    rw [cell_arr hs rfl, up_at] at h9
    rw [← h9, clampI hi]
    rw [narB hz]
    rw [upd_I h0]
    rfl
  rw [e] at g1 g2
  exact kk p en s m args below meth c _ _ D T ea A _ ad0 n0 _ hC ((hS.stk fun h => (RAs_cons.mp (RAs_cons.mp (RAs_cons.mp h).2).2).2).hp hS.2.1 (RV_up hS.vr (by unfold skd; rw [hs]; exact hz)) g1 g2 g3)
theorem G_zast {k len : Nat} {i x : Int} (hd : decode μ.2.1 pc = .ok (.bastore, 1)) (hs : S.2.1 k = (2, len)) (h0 : 0 ≤ i) (h1 : i < (len : Int)) (hz : x = 0 ∨ x = 1) (kk : G l μ Φ c0 s0 S (pc+1) ls (st) (up v k i x)) : G l μ Φ c0 s0 S (pc) ls (ai x :: ai i :: ar (some k) :: st) v := by
  intro p en s m args below meth c H locs D T ea A ad ad0 n0 lsC hC hS
  have hk : k < S.1 := hS.three
  have hi : iR i := hS.two
  have he := wl_get (T := T) (ad := ad) (v := v) hk
  rw [cell_arr hs rfl] at he
  refine va_zast hC.1 hC.2.1 hC.2.2.2.2.2.2.2.2.1 hS.2.2.2.2.2.1 hS.2.2.2.2.2.2.1 hS.2.2.2.2.2.2.2.1 k 2 he rfl (in_I hi h0 h1) hd (fun H1 locs1 g1 g2 g3 => ?_)
  have e : (wl T ad S v).set k (ad k, .inl (T 2, len, .inl (upd (fun (j : Nat) => Int32.ofInt (v k (j : Int))) (Int32.ofInt i).toNatClampNeg (vp_nar .boolean (Int32.ofInt x))))) = wl T ad S (up v k i x) := by
    have h9 := wl_set (T := T) (ad := ad) (S := S) (S2 := S) (v := v) (v2 := up v k i x) (k := k) rfl rfl (fun _ _ => rfl) (fun a ha => up_ne ha)
    rw [cell_arr hs rfl, up_at] at h9
    rw [← h9, clampI hi]
    rw [narZ hz]
    rw [upd_I h0]
    rfl
  rw [e] at g1 g2
  exact kk p en s m args below meth c _ _ D T ea A _ ad0 n0 _ hC ((hS.stk fun h => (RAs_cons.mp (RAs_cons.mp (RAs_cons.mp h).2).2).2).hp hS.2.1 (RV_up hS.vr (by unfold skd; rw [hs]; exact hz)) g1 g2 g3)
theorem G_aald {k len t : Nat} {C : String} {i : Int} (hd : decode μ.2.1 pc = .ok (.aaload, 1)) (hs : S.2.1 k = (t, len)) (h0 : 0 ≤ i) (h1 : i < (len : Int)) (ht : (t = 3 ∧ C = "WicketBoard$Umpire") ∨ (t = 4 ∧ C = "WicketBoard$Game")) (kk : G l μ Φ c0 s0 S (pc+1) ls (ar (S.2.2 k i) :: st) v) : G l μ Φ c0 s0 S (pc) ls (ai i :: ar (some k) :: st) v := by
  intro p en s m args below meth c H locs D T ea A ad ad0 n0 lsC hC hS
  have hk : k < S.1 := hS.two
  have hi : iR i := hS.top
  have he := wl_get (T := T) (ad := ad) (v := v) hk
  have k2 := kk p en s m args below meth c _ _ D T ea A _ ad0 n0 _ hC (hS.stk fun h => RAs_cons.mpr ⟨RA_rf hS.2.1 hk i, (RAs_cons.mp (RAs_cons.mp h).2).2⟩)
  have e : va_rf ((S.2.2 k ((Int32.ofInt i).toNatClampNeg : Nat)).map ad) = tr ad ea (ar (S.2.2 k i)) := by rw [clampI hi, Int.toNat_of_nonneg h0, tr_rf]
  rcases ht with ⟨rfl, rfl⟩ | ⟨rfl, rfl⟩
  · rw [cell_arr hs rfl] at he
    refine va_aldq hC.1 hC.2.1 hC.2.2.2.2.2.2.2.2.1 hS.2.2.2.2.2.1 k 3 he rfl (in_I hi h0 h1) hd ?_
    show W p l en _ s m args below meth c H locs c0 s0 _ (F0 m (pc + 1) lsC (va_rf ((S.2.2 k ((Int32.ofInt i).toNatClampNeg : Nat)).map ad) :: st.map (tr ad ea)))
    rw [e]
    exact k2
  · rw [cell_arr hs rfl] at he
    refine va_aldq hC.1 hC.2.1 hC.2.2.2.2.2.2.2.2.1 hS.2.2.2.2.2.1 k 4 he rfl (in_I hi h0 h1) hd ?_
    show W p l en _ s m args below meth c H locs c0 s0 _ (F0 m (pc + 1) lsC (va_rf ((S.2.2 k ((Int32.ofInt i).toNatClampNeg : Nat)).map ad) :: st.map (tr ad ea)))
    rw [e]
    exact k2
theorem G_alen {k len : Nat} (hd : decode μ.2.1 pc = .ok (.arraylength, 1)) (hs : S.2.1 k = (0, len)) (hl : iR (len : Int)) (kk : G l μ Φ c0 s0 S (pc+1) ls (ai (len : Int) :: st) v) : G l μ Φ c0 s0 S (pc) ls (ar (some k) :: st) v := by
  intro p en s m args below meth c H locs D T ea A ad ad0 n0 lsC hC hS
  have hk : k < S.1 := hS.top
  have he := wl_get (T := T) (ad := ad) (v := v) hk
  rw [cell_arr hs rfl] at he
  exact va_alen hC.1 hC.2.1 hC.2.2.2.2.2.2.2.2.1 hS.2.2.2.2.2.1 k 0 he (ty := .int) rfl (v := Int32.ofInt (len : Int)) (Int32.ofInt_eq_ofNat).symm hd (kk p en s m args below meth c _ _ D T ea A _ ad0 n0 _ hC (hS.stk fun h => RAs_cons.mpr ⟨hl, (RAs_cons.mp h).2⟩))
end GH
end
section
def acat (a : AV) : Nat := match a with
  | .inr (.inr (.inl _)) => 2
  | _ => 1
theorem acat_tr {ad ea : Nat → Nat} (a : AV) : (tr ad ea a).category = acat a := by
  match a with
  | .inl none => rfl
  | .inl (some _) => rfl
  | .inr (.inl _) => rfl
  | .inr (.inr (.inl _)) => rfl
  | .inr (.inr (.inr _)) => rfl
theorem acat_sum {ad ea : Nat → Nat} (st : List AV) : ((st.map (tr ad ea)).map fun v => v.category).sum = (st.map acat).sum := by
  rw [List.map_map]
  congr 1
  exact List.map_congr_left fun a _ => acat_tr a
theorem RA_mono {n n2 : Nat} (h : n ≤ n2) {a : AV} (ha : RA n a) : RA n2 a := by
  match a, ha with
  | .inl none, _ => trivial
  | .inl (some _), ha => exact Nat.lt_of_lt_of_le ha h
  | .inr (.inl _), ha => exact ha
  | .inr (.inr (.inl _)), ha => exact ha
  | .inr (.inr (.inr _)), _ => trivial
theorem tr_agree {n : Nat} {ad ad2 ea : Nat → Nat} (h : ∀ k, k < n → ad2 k = ad k) {a : AV} (ha : RA n a) : tr ad2 ea a = tr ad ea a := by
  match a, ha with
  | .inl none, _ => rfl
  | .inl (some k), ha => exact congrArg Value.ref (h k ha)
  | .inr (.inl _), _ => rfl
  | .inr (.inr (.inl _)), _ => rfl
  | .inr (.inr (.inr _)), _ => rfl
def largs (as : List AV) : LL := as.flatMap fun a => match a with
  | .inr (.inr (.inl _)) => [some a, none]
  | _ => [some a]
def slo (ad ea : Nat → Nat) (o : Option AV) : Slot := match o with
  | some a => .val (tr ad ea a)
  | none => .second
theorem largs_sl {ad ea : Nat → Nat} (as : List AV) : lg_sl (as.map (tr ad ea)) = (largs as).map (slo ad ea) := by
  induction as with
  | nil => rfl
  | cons a as ih =>
    have e1 : lg_sl ((a :: as).map (tr ad ea)) = lg_sl [tr ad ea a] ++ lg_sl (as.map (tr ad ea)) := by simp [lg_sl]
    have e2 : largs (a :: as) = largs [a] ++ largs as := by simp [largs]
    rw [e1, e2, List.map_append, ih]
    congr 1
    match a with
    | .inl none => rfl
    | .inl (some _) => rfl
    | .inr (.inl _) => rfl
    | .inr (.inr (.inl _)) => rfl
    | .inr (.inr (.inr _)) => rfl
theorem LR_entry {ad ea : Nat → Nat} {as : List AV} {maxL : Nat} {ls : LL} (hL : (largs as).length ≤ maxL) (hls : largs as ++ List.replicate (maxL - (largs as).length) none = ls) : LR ad ea maxL ((lg_sl (as.map (tr ad ea)) ++ List.replicate (maxL - (lg_sl (as.map (tr ad ea))).length) Slot.unset).toArray) ls := by
  subst hls
  have hlen : (lg_sl (as.map (tr ad ea))).length = (largs as).length := by rw [largs_sl, List.length_map]
  have h0 := lv_entry (as.map (tr ad ea)) (n := maxL) (by rw [hlen]; exact hL)
  refine ⟨h0.1, h0.2.1, fun i a hi => ?_⟩
  rw [List.getElem?_append] at hi
  split at hi
  · rename_i h1
    rw [List.getElem?_toArray, List.getElem?_append_left (by rw [hlen]; exact h1), largs_sl, List.getElem?_map, hi]
    rfl
  · rw [List.getElem?_replicate] at hi
    split at hi <;> cases hi
theorem RAl_args {n : Nat} {as : List AV} {k : Nat} (h : RAs n as) : RAl n (largs as ++ List.replicate k none) := by
  intro i a hi
  have hm : some a ∈ largs as ++ List.replicate k none := List.mem_of_getElem? hi
  rcases List.mem_append.mp hm with h1 | h1
  · obtain ⟨b, hb, hc⟩ := List.mem_flatMap.mp h1
    have : a = b := by
      match b, hc with
      | .inl none, hc => simpa using hc
      | .inl (some _), hc => simpa using hc
      | .inr (.inl _), hc => simpa using hc
      | .inr (.inr (.inl _)), hc => simpa using hc
      | .inr (.inr (.inr _)), hc => simpa using hc
    rw [this]
    exact h b hb
  · have := List.eq_of_mem_replicate h1
    cases this
section GC
variable {l : Launch} {μ : MU} {Φ : Option AV → AS → VV → Prop} {c0 s0 : Nat} {S : AS} {pc : Nat} {ls : LL} {st : List AV} {v : VV}
theorem Ct_of_G {y : MethodName} {cc : ByteArray} {ret : Option FieldType} {maxL d mc ms : Nat} {as : List AV} (ls : LL) (hp : plainName y.cls = true) (hL : Nat.ble (largs as).length maxL = true) (hls : largs as ++ List.replicate (maxL - (largs as).length) none = ls) (k : G l (y, cc, ret, maxL, d, mc, ms, none) Φ 0 0 S 0 ls [] v) : Ct l y cc ret maxL d mc ms as S v Φ := by
  intro hA hW hV D T ea ad sz
  have hL : (largs as).length ≤ maxL := Nat.le_of_ble_eq_true hL
  refine Met.ofW (cc := cc) (maxL := maxL) (ret := ret) hp rfl ?_
  intro p en s m args below meth c s1 B hml hv
  obtain ⟨rfl, hsz, hP, hK, hD0, hE⟩ := hv
  subst hsz
  have hts := atoms_spec (ws := Cond.code y cc maxL ret :: lw_good) B.pre
  rw [lg_entry_eq]
  exact k p en s m _ below meth c s.heap [] D T ea (va_A (wl T ad S v) s.heap.size) ad ad S.1 _ ⟨B.exec, B.bytes, hml, B.returns, B.notSynchronized, (name_of_methodNamed B.named B.method).1, findClass_of_methodNamed B.named, fun w h => hts w (List.mem_cons_of_mem _ h), hK, ⟨hE, trivial⟩, fun q h => Or.inr h⟩ ⟨⟨Nat.le_refl _, fun _ _ => rfl⟩, hW, hV, (fun _ h => by cases h), hls ▸ RAl_args hA, hP, hD0.self, va_S.rf, LR_entry hL hls⟩
theorem G_iret {x : Int} (hd : decode μ.2.1 pc = .ok (.ireturn, 1)) (hr : μ.2.2.1 = some .int) (h1 : Nat.ble c0 μ.2.2.2.2.2.1 = true) (h2 : Nat.ble s0 μ.2.2.2.2.2.2.1 = true) (hq : Φ (some (ai x)) S v) : G l μ Φ c0 s0 S pc ls [ai x] v := by
  intro p en s m args below meth c H locs D T ea A ad ad0 n0 lsC hC hS
  refine W.widen (k := μ.2.2.2.2.2.1) (n := μ.2.2.2.2.2.2.1) (Nat.le_of_ble_eq_true h1) (Nat.le_of_ble_eq_true h2) ?_
  exact W.iret hC.1 hC.2.1 (hC.2.2.2.1.trans hr) (fun t ht hW => ⟨⟨some (ai x), S, v, ad, rfl, hq, hS.1.1, hS.1.2, (fun a ha => by cases ha; exact hS.top), hS.2.1, hS.vr, by rw [ht]; exact hS.2.2.2.2.2.1, va_K.moved hW.alike hC.2.2.2.2.2.2.2.2.1, hS.2.2.2.2.2.2.1⟩, hS.2.2.2.2.2.2.2.1.F ht⟩) hS.2.2.2.2.2.2.2.1.2.2 hd hC.2.2.2.2.1
theorem G_zret {x : Int} (hd : decode μ.2.1 pc = .ok (.ireturn, 1)) (hr : μ.2.2.1 = some .boolean) (hz : x = 0 ∨ x = 1) (h1 : Nat.ble c0 μ.2.2.2.2.2.1 = true) (h2 : Nat.ble s0 μ.2.2.2.2.2.2.1 = true) (hq : Φ (some (ai x)) S v) : G l μ Φ c0 s0 S pc ls [ai x] v := by
  intro p en s m args below meth c H locs D T ea A ad ad0 n0 lsC hC hS
  refine W.widen (k := μ.2.2.2.2.2.1) (n := μ.2.2.2.2.2.2.1) (Nat.le_of_ble_eq_true h1) (Nat.le_of_ble_eq_true h2) ?_
  exact W.zret hC.1 hC.2.1 (hC.2.2.2.1.trans hr) (by rcases hz with rfl | rfl <;> rfl) (fun t ht hW => ⟨⟨some (ai x), S, v, ad, rfl, hq, hS.1.1, hS.1.2, (fun a ha => by cases ha; exact hS.top), hS.2.1, hS.vr, by rw [ht]; exact hS.2.2.2.2.2.1, va_K.moved hW.alike hC.2.2.2.2.2.2.2.2.1, hS.2.2.2.2.2.2.1⟩, hS.2.2.2.2.2.2.2.1.F ht⟩) hS.2.2.2.2.2.2.2.1.2.2 hd hC.2.2.2.2.1
theorem G_vret  (hd : decode μ.2.1 pc = .ok (.return_, 1)) (hr : μ.2.2.1 = none) (h1 : Nat.ble c0 μ.2.2.2.2.2.1 = true) (h2 : Nat.ble s0 μ.2.2.2.2.2.2.1 = true) (hq : Φ (none) S v) : G l μ Φ c0 s0 S pc ls [] v := by
  intro p en s m args below meth c H locs D T ea A ad ad0 n0 lsC hC hS
  refine W.widen (k := μ.2.2.2.2.2.1) (n := μ.2.2.2.2.2.2.1) (Nat.le_of_ble_eq_true h1) (Nat.le_of_ble_eq_true h2) ?_
  exact W.vret hC.1 hC.2.1 (hC.2.2.2.1.trans hr) (fun t ht hW => ⟨⟨none, S, v, ad, rfl, hq, hS.1.1, hS.1.2, (fun a ha => by cases ha), hS.2.1, hS.vr, by rw [ht]; exact hS.2.2.2.2.2.1, va_K.moved hW.alike hC.2.2.2.2.2.2.2.2.1, hS.2.2.2.2.2.2.1⟩, hS.2.2.2.2.2.2.2.1.F ht⟩) hS.2.2.2.2.2.2.2.1.2.2 hd hC.2.2.2.2.1
theorem G_lret {x : Int} (hd : decode μ.2.1 pc = .ok (.lreturn, 1)) (hr : μ.2.2.1 = some .long) (h1 : Nat.ble c0 μ.2.2.2.2.2.1 = true) (h2 : Nat.ble s0 μ.2.2.2.2.2.2.1 = true) (hq : Φ (some (al x)) S v) : G l μ Φ c0 s0 S pc ls [al x] v := by
  intro p en s m args below meth c H locs D T ea A ad ad0 n0 lsC hC hS
  refine W.widen (k := μ.2.2.2.2.2.1) (n := μ.2.2.2.2.2.2.1) (Nat.le_of_ble_eq_true h1) (Nat.le_of_ble_eq_true h2) ?_
  exact W.lret hC.1 hC.2.1 (hC.2.2.2.1.trans hr) (fun t ht hW => ⟨⟨some (al x), S, v, ad, rfl, hq, hS.1.1, hS.1.2, (fun a ha => by cases ha; exact hS.top), hS.2.1, hS.vr, by rw [ht]; exact hS.2.2.2.2.2.1, va_K.moved hW.alike hC.2.2.2.2.2.2.2.2.1, hS.2.2.2.2.2.2.1⟩, hS.2.2.2.2.2.2.2.1.F ht⟩) hS.2.2.2.2.2.2.2.1.2.2 hd hC.2.2.2.2.1
theorem G_aret {x : Option Nat} {rt : FieldType} (hd : decode μ.2.1 pc = .ok (.areturn, 1)) (hr : μ.2.2.1 = some rt) (hrt : (∃ n, rt = .object n) ∨ ∃ t, rt = .array t) (h1 : Nat.ble c0 μ.2.2.2.2.2.1 = true) (h2 : Nat.ble s0 μ.2.2.2.2.2.2.1 = true) (hq : Φ (some (ar x)) S v) : G l μ Φ c0 s0 S pc ls [ar x] v := by
  intro p en s m args below meth c H locs D T ea A ad ad0 n0 lsC hC hS
  refine W.widen (k := μ.2.2.2.2.2.1) (n := μ.2.2.2.2.2.2.1) (Nat.le_of_ble_eq_true h1) (Nat.le_of_ble_eq_true h2) ?_
  exact W.aret hC.1 hC.2.1 (hC.2.2.2.1.trans hr) hrt (by cases x; exact Or.inl rfl; exact Or.inr ⟨_, rfl⟩) (fun t ht hW => ⟨⟨some (ar x), S, v, ad, rfl, hq, hS.1.1, hS.1.2, (fun a ha => by cases ha; exact hS.top), hS.2.1, hS.vr, by rw [ht]; exact hS.2.2.2.2.2.1, va_K.moved hW.alike hC.2.2.2.2.2.2.2.2.1, hS.2.2.2.2.2.2.1⟩, hS.2.2.2.2.2.2.2.1.F ht⟩) hS.2.2.2.2.2.2.2.1.2.2 hd hC.2.2.2.2.1
/-- behind a call -/
theorem call_QQ {p : Program} {en : Env} {s : State} {m : MethodId} {args : Array Value} {below : List Frame} {meth : Method} {c : Code} {H : Heap} {locs : List Loc} {D : va_G} {T : Nat → ClassId} {ea : Nat → Nat} {A : Nat → Prop} {ad ad0 : Nat → Nat} {n0 : Nat} {lsC : Array Slot} {stk : List AV} {Φ2 : Option AV → AS → VV → Prop} {mc2 ms2 : Nat} {a : Array Value} (hC : Cx l μ p s m args meth c D T ea A) (hS : Sx μ s D T ea A ad0 n0 S ls stk v H locs ad lsC) (hst : RAs S.1 st)
    (hr : va_Run p l en (rmd μ.2.2.2.2.1 μ.2.2.2.2.2.1 μ.2.2.2.2.2.2.1) s m args below meth c H locs c0 s0 mc2 ms2 (F0 m pc lsC (stk.map (tr ad ea))) (st.map (tr ad ea)) (QQ D T ea (va_A (wl T ad S v) H.size) ad S.1 Φ2 a) (va_A (wl T ad S v) H.size))
    (kk : ∀ (r : Option AV) (S2 : AS) (v2 : VV), Φ2 r S2 v2 → G l μ Φ (c0 + mc2) (s0 + ms2) S2 (pc + 3) ls (r.toList ++ st) v2) :
    W p l en (rmd μ.2.2.2.2.1 μ.2.2.2.2.2.1 μ.2.2.2.2.2.2.1) s m args below meth c H locs c0 s0 (MQ below (QQ D T ea A ad0 n0 Φ) args s μ.2.2.2.2.2.1 μ.2.2.2.2.2.2.1 A) (F0 m pc lsC (stk.map (tr ad ea))) := by
  intro Tt hT X
  obtain ⟨vv, st0, t, T', L, h0, X', hL, e1, e2, ⟨⟨r, S2, v2, ad2, hv, hq, hn, had, hra, hwr, hrv, hP2, hK2, hD2⟩, hz, hk⟩, stp⟩ := hr Tt hT X
  have hA := hC.2.2.2.2.2.2.2.2.2.2
  have hD := hS.2.2.2.2.2.2.1
  have hVS := hS.2.2.2.2.2.2.2.1
  have hF : ∀ q, va_A (wl T ad S v) H.size q → A q := by
    intro q h
    rcases h with ⟨k, e, h⟩ | h
    · exact hD.2 k _ h
    · exact hA q (Nat.le_trans hVS.1 h)
  have hvv : vv = r.map (tr ad2 ea) := by cases hv; rfl
  subst hvv
  rw [h0] at hz hk
  have hst2 : st.map (tr ad2 ea) = st.map (tr ad ea) := List.map_congr_left fun b hb => tr_agree had (hst b hb)
  have hlr := hS.lr
  have k2 := kk r S2 v2 hq p en s m args below meth c T'.heap (locs ++ L) D T ea A ad2 ad0 n0 lsC hC ⟨⟨Nat.le_trans hS.1.1 hn, fun k h => (had k (Nat.lt_of_lt_of_le h hS.1.1)).trans (hS.1.2 k h)⟩, hwr, hrv, ?_, fun i b hb => RA_mono hn (hS.2.2.2.2.1 i b hb), by rw [e1]; exact hP2, ⟨hD2.1, fun k q h => hF _ (hD2.2 k q h)⟩, ?_, ⟨hlr.1, hlr.2.1, fun i b hb => by rw [tr_agree had (hS.2.2.2.2.1 i b hb)]; exact hlr.2.2 i b hb⟩⟩
  · obtain ⟨t2, a1, b1⟩ := k2 T' rfl X'
    refine ⟨t2, stp t2 ?_, b1⟩
    have e : (r.toList ++ st).map (tr ad2 ea) = (r.map (tr ad2 ea)).toList ++ st.map (tr ad ea) := by
      rw [List.map_append, hst2]
      cases r <;> rfl
    rw [e] at a1
    exact a1
  · intro b hb
    rcases List.mem_append.mp hb with h | h
    · cases r with
      | none => cases h
      | some w =>
        have : b = w := by simpa using h
        rw [this]
        exact hra w rfl
    · exact RA_mono hn (hst b h)
  · exact ⟨Nat.le_trans hVS.1 (by rw [e1]; exact hz), fun q h1 h2 => by rw [e1, hk q (Nat.lt_of_lt_of_le h1 hVS.1) (fun z => h2 (hF q z))]; exact hVS.2.1 q h1 h2, fun q hq => by
      rcases List.mem_append.mp hq with h | h
      · exact hVS.2.2 q h
      · exact hF _ (hL q h)⟩
theorem pre_Pc {D : va_G} {T : Nat → ClassId} {ea ad : Nat → Nat} {vs : List Value} {sz : Nat} : FrameBlind (va_Pc vs (fun U => U.heap.size = sz ∧ va_P D classes (wl T ad S v) U.heap ∧ va_K D classes (tyl T) U ∧ va_D (fun _ => True) (wl T ad S v) ∧ EXA ea (va_A (wl T ad S v) sz) U)) := by
  intro a U f mk q
  obtain ⟨q0, q1, q2, q3, q4, q5⟩ := q
  exact ⟨q0, q1, q2, va_K.moved (u := U) (U := U.calling f mk a) (Vm.Alike.refl U.vm) q3, q4, q5.to (U := U.calling f mk a) (State.WarmedH.refl U) (fun _ _ _ => rfl) (fun _ h => h)⟩
theorem pre_in {p : Program} {s : State} {m : MethodId} {args : Array Value} {meth : Method} {c : Code} {H : Heap} {locs : List Loc} {D : va_G} {T : Nat → ClassId} {ea : Nat → Nat} {A : Nat → Prop} {ad ad0 : Nat → Nat} {n0 : Nat} {lsC : Array Slot} {stk : List AV} {vs : List Value} (hC : Cx l μ p s m args meth c D T ea A) (hS : Sx μ s D T ea A ad0 n0 S ls stk v H locs ad lsC) : ∀ U : State, U.heap = H → s.WarmedH U.vm → va_Pc vs (fun U => U.heap.size = H.size ∧ va_P D classes (wl T ad S v) U.heap ∧ va_K D classes (tyl T) U ∧ va_D (fun _ => True) (wl T ad S v) ∧ EXA ea (va_A (wl T ad S v) H.size) U) vs.toArray U := by
  intro U hU hW
  have hA := hC.2.2.2.2.2.2.2.2.2.2
  have hD := hS.2.2.2.2.2.2.1
  have hVS := hS.2.2.2.2.2.2.2.1
  refine ⟨rfl, by rw [hU], by rw [hU]; exact hS.2.2.2.2.2.1, va_K.moved hW.alike hC.2.2.2.2.2.2.2.2.1, hD.weaken (fun _ _ _ _ => trivial), (hC.2.2.2.2.2.2.2.2.2.1.1).to hW (fun q h1 h2 => by rw [hU]; exact hVS.2.1 q h1 h2) ?_⟩
  intro q h
  rcases h with ⟨k, e, h⟩ | h
  · exact hD.2 k _ h
  · exact hA q (Nat.le_trans hVS.1 h)
def MV (own : String) (idx : Nat) (y : MethodName) (cc : ByteArray) (ret : Option FieldType) (maxL n : Nat) : Prop := (Cond.methodLink own idx y ∈ lw_good ∧ Cond.instanceMethod y ∈ lw_good ∧ Cond.selects y.cls y y ∈ lw_good ∧ Cond.initialized y.cls ∈ lw_good ∧ Cond.code y cc maxL ret ∈ lw_good) ∧ (y.cls ≠ "java/lang/invoke/MethodHandle" ∧ y.cls ≠ "java/lang/invoke/VarHandle" ∧ (parseMethodDescriptor y.desc).map (fun d => d.parameters.length) = some n)
def MS (own : String) (idx : Nat) (y : MethodName) (cc : ByteArray) (ret : Option FieldType) (maxL n : Nat) : Prop := (Cond.methodLink own idx y ∈ lw_good ∧ Cond.static y ∈ lw_good ∧ Cond.initialized y.cls ∈ lw_good ∧ Cond.code y cc maxL ret ∈ lw_good) ∧ (y.cls ≠ "java/lang/invoke/MethodHandle" ∧ y.cls ≠ "java/lang/invoke/VarHandle" ∧ (parseMethodDescriptor y.desc).map (fun d => d.parameters.length) = some n)
def MI (own : String) (idx : Nat) (y : MethodName) (cc : ByteArray) (maxL n : Nat) : Prop := (Cond.methodLink own idx y ∈ lw_good ∧ Cond.instanceMethod y ∈ lw_good ∧ Cond.initialized y.cls ∈ lw_good ∧ Cond.code y cc maxL none ∈ lw_good) ∧ y.name = "<init>" ∧ (y.cls ≠ "java/lang/invoke/MethodHandle" ∧ y.cls ≠ "java/lang/invoke/VarHandle" ∧ (parseMethodDescriptor y.desc).map (fun d => d.parameters.length) = some n)
def MIN (own : String) (idx : Nat) (y : MethodName) (cc : ByteArray) (maxL n : Nat) : Prop := (Cond.methodLinkNest own idx y RX5 ∈ nestw ∧ Cond.instanceMethod y ∈ lw_good ∧ Cond.initialized y.cls ∈ lw_good ∧ Cond.code y cc maxL none ∈ lw_good) ∧ y.name = "<init>" ∧ (y.cls ≠ "java/lang/invoke/MethodHandle" ∧ y.cls ≠ "java/lang/invoke/VarHandle" ∧ (parseMethodDescriptor y.desc).map (fun d => d.parameters.length) = some n)
theorem good_cons {w : Cond} {ws : List Cond} (h : w ∈ lw_good) (hs : GoodIn lw_good ws) : GoodIn lw_good (w :: ws) := fun x hx => (List.mem_cons.mp hx).elim (fun e => by rw [e]; exact lw_good_in w h) (hs x)
theorem G_callV {idx : Nat} {y : MethodName} {cc : ByteArray} {ret : Option FieldType} {maxL d2 mc2 ms2 k ci : Nat} {as stk : List AV} {Φ2 : Option AV → AS → VV → Prop} (hd : decode μ.2.1 pc = .ok (.invokevirtual idx, 3)) (hm : MV μ.1.cls idx y cc ret maxL as.length) (hs : (S.2.1 k).1 = 16 + ci) (hci : ci < 7) (hR : Rof ci = y.cls) (h2 : Ct l y cc ret maxL d2 mc2 ms2 (ar (some k) :: as) S v Φ2) (hst : stk = as.reverse ++ ar (some k) :: st) (hdp : d2 + 1 ≤ μ.2.2.2.2.1) (hmx : Nat.ble maxL 18 = true) (hrm : Nat.ble (st.map acat).sum 8 = true) (hcl : c0 + mc2 ≤ μ.2.2.2.2.2.1) (hsl : s0 + ms2 ≤ μ.2.2.2.2.2.2.1) (kk : ∀ (r : Option AV) (S2 : AS) (v2 : VV), Φ2 r S2 v2 → G l μ Φ (c0 + mc2) (s0 + ms2) S2 (pc + 3) ls (r.toList ++ st) v2) : G l μ Φ c0 s0 S pc ls stk v := by
  intro p en s m args below meth c H locs D T ea A ad ad0 n0 lsC hC hS
  subst hst
  have hmx := Nat.le_of_ble_eq_true hmx
  have hrm := Nat.le_of_ble_eq_true hrm
  have hall : RAs S.1 (as.reverse ++ ar (some k) :: st) := hS.2.2.2.1
  have hst9 : RAs S.1 st := fun b hb => hall b (List.mem_append_right _ (List.mem_cons_of_mem _ hb))
  have has : RAs S.1 (ar (some k) :: as) := RAs_cons.mpr ⟨hall _ (List.mem_append_right _ List.mem_cons_self), fun b hb => hall b (List.mem_append_left _ (List.mem_reverse.mpr hb))⟩
  have hts := hC.2.2.2.2.2.2.2.1
  refine call_QQ hC hS hst9 (va_runV (As := as.map (tr ad ea)) (nL := μ.2.2.2.1) (Ts := lw_good) (own := μ.1.cls) ⟨hC.1, hC.2.1, hC.2.2.1, hC.2.2.2.2.2.2.1, hts⟩ (h2 has hS.2.1 hS.vr D T ea ad H.size) (cwV as.length hts (good_cons hm.1.1 (good_cons hm.1.2.1 (good_cons hm.1.2.2.1 (good_cons hm.1.2.2.2.1 (good_cons hm.1.2.2.2.2 lw_good_in))))) rfl rfl rfl ⟨rfl, hm.2⟩ ⟨hdp, by show 8 + (maxL + 11) + (37 * d2 + 11) ≤ 37 * _ + 11; have := Nat.mul_le_mul_left 37 hdp; omega⟩) ⟨pre_Pc, by have hk : k < S.1 := (RAs_cons.mp has).1; have he := wl_get (T := T) (ad := ad) (v := v) hk; rw [cell_obj hs] at he; rw [← hR]; exact va_recv hC.2.2.2.2.2.2.2.2.1 hS.2.2.2.2.2.1 (cls_at hci) he, pre_in (vs := (ar (some k) :: as).map (tr ad ea)) hC hS⟩ rfl (by rw [List.length_map]) hS.lr.1 ?_ (by rw [acat_sum]; show 2 * 0 + _ ≤ _; omega) hd ⟨hcl, hsl⟩) kk
  show (as.reverse ++ ar (some k) :: st).map (tr ad ea) = _
  rw [List.map_append, List.map_reverse]
  rfl
theorem G_callS {idx : Nat} {y : MethodName} {cc : ByteArray} {ret : Option FieldType} {maxL d2 mc2 ms2 : Nat} {as stk : List AV} {Φ2 : Option AV → AS → VV → Prop} (hd : decode μ.2.1 pc = .ok (.invokestatic idx, 3)) (hm : MS μ.1.cls idx y cc ret maxL as.length) (h2 : Ct l y cc ret maxL d2 mc2 ms2 (as) S v Φ2) (hst : stk = as.reverse ++ st) (hdp : d2 + 1 ≤ μ.2.2.2.2.1) (hmx : Nat.ble maxL 18 = true) (hrm : Nat.ble (st.map acat).sum 8 = true) (hcl : c0 + mc2 ≤ μ.2.2.2.2.2.1) (hsl : s0 + ms2 ≤ μ.2.2.2.2.2.2.1) (kk : ∀ (r : Option AV) (S2 : AS) (v2 : VV), Φ2 r S2 v2 → G l μ Φ (c0 + mc2) (s0 + ms2) S2 (pc + 3) ls (r.toList ++ st) v2) : G l μ Φ c0 s0 S pc ls stk v := by
  intro p en s m args below meth c H locs D T ea A ad ad0 n0 lsC hC hS
  subst hst
  have hmx := Nat.le_of_ble_eq_true hmx
  have hrm := Nat.le_of_ble_eq_true hrm
  have hall : RAs S.1 (as.reverse ++ st) := hS.2.2.2.1
  have hst9 : RAs S.1 st := fun b hb => hall b (List.mem_append_right _ (hb))
  have has : RAs S.1 (as) := fun b hb => hall b (List.mem_append_left _ (List.mem_reverse.mpr hb))
  have hts := hC.2.2.2.2.2.2.2.1
  refine call_QQ hC hS hst9 (va_runS (As := as.map (tr ad ea)) (nL := μ.2.2.2.1) (Ts := lw_good) (own := μ.1.cls) ⟨hC.1, hC.2.1, hC.2.2.1, hC.2.2.2.2.2.2.1, hts⟩ (h2 has hS.2.1 hS.vr D T ea ad H.size) (va_cwS as.length hts (good_cons hm.1.1 (good_cons hm.1.2.1 (good_cons hm.1.2.2.1 (good_cons hm.1.2.2.2 lw_good_in)))) rfl rfl rfl hm.2 ⟨hdp, by show 8 + (maxL + 11) + (37 * d2 + 11) ≤ 37 * _ + 11; have := Nat.mul_le_mul_left 37 hdp; omega⟩) ⟨pre_Pc, pre_in (vs := as.map (tr ad ea)) hC hS⟩ rfl (by rw [List.length_map]) hS.lr.1 ?_ (by rw [acat_sum]; show 2 * 0 + _ ≤ _; omega) hd ⟨hcl, hsl⟩) kk
  show (as.reverse ++ st).map (tr ad ea) = _
  rw [List.map_append, List.map_reverse]
theorem G_callI {idx : Nat} {y : MethodName} {cc : ByteArray} {maxL d2 mc2 ms2 k : Nat} {as stk : List AV} {Φ2 : Option AV → AS → VV → Prop} (hd : decode μ.2.1 pc = .ok (.invokespecial idx, 3)) (hm : MI μ.1.cls idx y cc maxL as.length) (h2 : Ct l y cc none maxL d2 mc2 ms2 (ar (some k) :: as) S v Φ2) (hst : stk = as.reverse ++ ar (some k) :: st) (hdp : d2 + 1 ≤ μ.2.2.2.2.1) (hmx : Nat.ble maxL 18 = true) (hrm : Nat.ble (st.map acat).sum 8 = true) (hcl : c0 + mc2 ≤ μ.2.2.2.2.2.1) (hsl : s0 + ms2 ≤ μ.2.2.2.2.2.2.1) (kk : ∀ (r : Option AV) (S2 : AS) (v2 : VV), Φ2 r S2 v2 → G l μ Φ (c0 + mc2) (s0 + ms2) S2 (pc + 3) ls (r.toList ++ st) v2) : G l μ Φ c0 s0 S pc ls stk v := by
  intro p en s m args below meth c H locs D T ea A ad ad0 n0 lsC hC hS
  subst hst
  have hmx := Nat.le_of_ble_eq_true hmx
  have hrm := Nat.le_of_ble_eq_true hrm
  have hall : RAs S.1 (as.reverse ++ ar (some k) :: st) := hS.2.2.2.1
  have hst9 : RAs S.1 st := fun b hb => hall b (List.mem_append_right _ (List.mem_cons_of_mem _ hb))
  have has : RAs S.1 (ar (some k) :: as) := RAs_cons.mpr ⟨hall _ (List.mem_append_right _ List.mem_cons_self), fun b hb => hall b (List.mem_append_left _ (List.mem_reverse.mpr hb))⟩
  have hts := hC.2.2.2.2.2.2.2.1
  refine call_QQ hC hS hst9 (va_runI (As := as.map (tr ad ea)) (nL := μ.2.2.2.1) (Ts := lw_good) (own := μ.1.cls) ⟨hC.1, hC.2.1, hC.2.2.1, hC.2.2.2.2.2.2.1, hts⟩ (h2 has hS.2.1 hS.vr D T ea ad H.size) (cwI as.length hts (good_cons hm.1.2.2.2 lw_good_in) rfl rfl rfl (hts _ hm.1.2.2.1) (hts _ hm.1.1) (hts _ hm.1.2.1) hm.2.1 hm.2.2 ⟨hdp, by show 8 + (maxL + 11) + (37 * d2 + 11) ≤ 37 * _ + 11; have := Nat.mul_le_mul_left 37 hdp; omega⟩) ⟨pre_Pc, pre_in (vs := (ar (some k) :: as).map (tr ad ea)) hC hS⟩ rfl (by rw [List.length_map]) hS.lr.1 ?_ (by rw [acat_sum]; show 2 * 0 + _ ≤ _; omega) hd ⟨hcl, hsl⟩) kk
  show (as.reverse ++ ar (some k) :: st).map (tr ad ea) = _
  rw [List.map_append, List.map_reverse]
  rfl
theorem G_callIN {idx : Nat} {y : MethodName} {cc : ByteArray} {maxL d2 mc2 ms2 k : Nat} {as stk : List AV} {Φ2 : Option AV → AS → VV → Prop} (hd : decode μ.2.1 pc = .ok (.invokespecial idx, 3)) (hm : MIN μ.1.cls idx y cc maxL as.length) (h2 : Ct l y cc none maxL d2 mc2 ms2 (ar (some k) :: as) S v Φ2) (hst : stk = as.reverse ++ ar (some k) :: st) (hdp : d2 + 1 ≤ μ.2.2.2.2.1) (hmx : Nat.ble maxL 18 = true) (hrm : Nat.ble (st.map acat).sum 8 = true) (hcl : c0 + mc2 ≤ μ.2.2.2.2.2.1) (hsl : s0 + ms2 ≤ μ.2.2.2.2.2.2.1) (kk : ∀ (r : Option AV) (S2 : AS) (v2 : VV), Φ2 r S2 v2 → G l μ Φ (c0 + mc2) (s0 + ms2) S2 (pc + 3) ls (r.toList ++ st) v2) : G l μ Φ c0 s0 S pc ls stk v := by
  intro p en s m args below meth c H locs D T ea A ad ad0 n0 lsC hC hS
  subst hst
  have hmx := Nat.le_of_ble_eq_true hmx
  have hrm := Nat.le_of_ble_eq_true hrm
  have hall : RAs S.1 (as.reverse ++ ar (some k) :: st) := hS.2.2.2.1
  have hst9 : RAs S.1 st := fun b hb => hall b (List.mem_append_right _ (List.mem_cons_of_mem _ hb))
  have has : RAs S.1 (ar (some k) :: as) := RAs_cons.mpr ⟨hall _ (List.mem_append_right _ List.mem_cons_self), fun b hb => hall b (List.mem_append_left _ (List.mem_reverse.mpr hb))⟩
  have hts := hC.2.2.2.2.2.2.2.1
  refine call_QQ hC hS hst9 (va_runIN (As := as.map (tr ad ea)) (nL := μ.2.2.2.1) (Ts := lw_good) (own := μ.1.cls) ⟨hC.1, hC.2.1, hC.2.2.1, hC.2.2.2.2.2.2.1, hts⟩ (h2 has hS.2.1 hS.vr D T ea ad H.size) ⟨va_cnB as.length hts (good_cons hm.1.2.2.2 lw_good_in) rfl rfl rfl (hC.2.2.2.2.2.2.2.2.2.1.1.2.2.2 _ hm.1.1) (hts _ hm.1.2.2.1) hm.2.2 ⟨hdp, by show 8 + (maxL + 11) + (37 * d2 + 11) ≤ 37 * _ + 11; have := Nat.mul_le_mul_left 37 hdp; omega⟩, hm.2.1, hts _ hm.1.2.1⟩ ⟨pre_Pc, pre_in (vs := (ar (some k) :: as).map (tr ad ea)) hC hS⟩ rfl (by rw [List.length_map]) hS.lr.1 ?_ (by rw [acat_sum]; show 2 * 0 + _ ≤ _; omega) hd ⟨hcl, hsl⟩) kk
  show (as.reverse ++ ar (some k) :: st).map (tr ad ea) = _
  rw [List.map_append, List.map_reverse]
  rfl
end GC
end
section
theorem flX3_9 : FL RX3 9 3 0 := ⟨by decide, by decide, lg_mem 88 (by decide +kernel) rfl⟩
theorem flX3_13 : FL RX3 13 3 1 := ⟨by decide, by decide, lg_mem 89 (by decide +kernel) rfl⟩
theorem flX1_11 : FL RX1 11 1 0 := ⟨by decide, by decide, lg_mem 104 (by decide +kernel) rfl⟩
theorem flX1_15 : FL RX1 15 1 1 := ⟨by decide, by decide, lg_mem 105 (by decide +kernel) rfl⟩
theorem flX1_52 : FL RX1 52 1 2 := ⟨by decide, by decide, lg_mem 106 (by decide +kernel) rfl⟩
theorem flX1_77 : FL RX1 77 1 3 := ⟨by decide, by decide, lg_mem 107 (by decide +kernel) rfl⟩
theorem flX1_68 : FL RX1 68 1 4 := ⟨by decide, by decide, lg_mem 108 (by decide +kernel) rfl⟩
theorem flX1_21 : FL RX1 21 1 5 := ⟨by decide, by decide, lg_mem 109 (by decide +kernel) rfl⟩
theorem flX1_59 : FL RX1 59 1 6 := ⟨by decide, by decide, lg_mem 110 (by decide +kernel) rfl⟩
theorem flX0_7 : FL RX0 7 0 0 := ⟨by decide, by decide, lg_mem 136 (by decide +kernel) rfl⟩
theorem flX0_13 : FL RX0 13 0 1 := ⟨by decide, by decide, lg_mem 137 (by decide +kernel) rfl⟩
theorem flX0_16 : FL RX0 16 0 2 := ⟨by decide, by decide, lg_mem 138 (by decide +kernel) rfl⟩
theorem flX5_208 : FLN RX5 208 0 2 := ⟨by decide, by decide, by decide +kernel⟩
theorem flX0_19 : FL RX0 19 0 3 := ⟨by decide, by decide, lg_mem 140 (by decide +kernel) rfl⟩
theorem flX5_211 : FLN RX5 211 0 3 := ⟨by decide, by decide, by decide +kernel⟩
theorem flX2_9 : FL RX2 9 2 0 := ⟨by decide, by decide, lg_mem 157 (by decide +kernel) rfl⟩
theorem flX2_15 : FL RX2 15 2 1 := ⟨by decide, by decide, lg_mem 158 (by decide +kernel) rfl⟩
theorem flX2_18 : FL RX2 18 2 2 := ⟨by decide, by decide, lg_mem 159 (by decide +kernel) rfl⟩
theorem flX2_21 : FL RX2 21 2 3 := ⟨by decide, by decide, lg_mem 160 (by decide +kernel) rfl⟩
theorem flX2_24 : FL RX2 24 2 4 := ⟨by decide, by decide, lg_mem 161 (by decide +kernel) rfl⟩
theorem flX2_27 : FL RX2 27 2 5 := ⟨by decide, by decide, lg_mem 162 (by decide +kernel) rfl⟩
theorem flX2_30 : FL RX2 30 2 6 := ⟨by decide, by decide, lg_mem 163 (by decide +kernel) rfl⟩
theorem flX2_33 : FL RX2 33 2 7 := ⟨by decide, by decide, lg_mem 164 (by decide +kernel) rfl⟩
theorem flX2_36 : FL RX2 36 2 8 := ⟨by decide, by decide, lg_mem 165 (by decide +kernel) rfl⟩
theorem flX2_49 : FL RX2 49 2 9 := ⟨by decide, by decide, lg_mem 166 (by decide +kernel) rfl⟩
theorem flX2_53 : FL RX2 53 2 10 := ⟨by decide, by decide, lg_mem 167 (by decide +kernel) rfl⟩
theorem flX2_56 : FL RX2 56 2 11 := ⟨by decide, by decide, lg_mem 168 (by decide +kernel) rfl⟩
theorem flX5_10 : FL RX5 10 5 0 := ⟨by decide, by decide, lg_mem 195 (by decide +kernel) rfl⟩
theorem flX5_19 : FL RX5 19 5 1 := ⟨by decide, by decide, lg_mem 196 (by decide +kernel) rfl⟩
theorem flX5_25 : FL RX5 25 5 2 := ⟨by decide, by decide, lg_mem 197 (by decide +kernel) rfl⟩
theorem flX5_31 : FL RX5 31 5 3 := ⟨by decide, by decide, lg_mem 198 (by decide +kernel) rfl⟩
theorem flX5_36 : FL RX5 36 5 4 := ⟨by decide, by decide, lg_mem 199 (by decide +kernel) rfl⟩
theorem flX5_43 : FL RX5 43 5 5 := ⟨by decide, by decide, lg_mem 200 (by decide +kernel) rfl⟩
theorem flX5_73 : FL RX5 73 5 6 := ⟨by decide, by decide, lg_mem 201 (by decide +kernel) rfl⟩
theorem flX5_101 : FL RX5 101 5 7 := ⟨by decide, by decide, lg_mem 202 (by decide +kernel) rfl⟩
theorem flX5_91 : FL RX5 91 5 8 := ⟨by decide, by decide, lg_mem 203 (by decide +kernel) rfl⟩
theorem flX5_118 : FL RX5 118 5 9 := ⟨by decide, by decide, lg_mem 204 (by decide +kernel) rfl⟩
theorem flX4_23 : FL RX4 23 4 0 := ⟨by decide, by decide, lg_mem 419 (by decide +kernel) rfl⟩
theorem flX0_22 : FL RX0 22 4 0 := ⟨by decide, by decide, lg_mem 420 (by decide +kernel) rfl⟩
theorem flX4_26 : FL RX4 26 4 1 := ⟨by decide, by decide, lg_mem 421 (by decide +kernel) rfl⟩
theorem flX0_31 : FL RX0 31 4 1 := ⟨by decide, by decide, lg_mem 422 (by decide +kernel) rfl⟩
theorem flX4_32 : FL RX4 32 4 2 := ⟨by decide, by decide, lg_mem 423 (by decide +kernel) rfl⟩
theorem flX5_205 : FL RX5 205 4 2 := ⟨by decide, by decide, lg_mem 424 (by decide +kernel) rfl⟩
theorem flX4_29 : FL RX4 29 4 3 := ⟨by decide, by decide, lg_mem 425 (by decide +kernel) rfl⟩
theorem flX5_173 : FL RX5 173 4 3 := ⟨by decide, by decide, lg_mem 426 (by decide +kernel) rfl⟩
theorem flX4_9 : FL RX4 9 4 4 := ⟨by decide, by decide, lg_mem 427 (by decide +kernel) rfl⟩
theorem flX5_94 : FL RX5 94 4 4 := ⟨by decide, by decide, lg_mem 428 (by decide +kernel) rfl⟩
theorem flX4_35 : FL RX4 35 4 5 := ⟨by decide, by decide, lg_mem 429 (by decide +kernel) rfl⟩
theorem flX5_176 : FL RX5 176 4 5 := ⟨by decide, by decide, lg_mem 430 (by decide +kernel) rfl⟩
theorem flX4_42 : FL RX4 42 4 6 := ⟨by decide, by decide, lg_mem 431 (by decide +kernel) rfl⟩
theorem flX5_179 : FL RX5 179 4 6 := ⟨by decide, by decide, lg_mem 432 (by decide +kernel) rfl⟩
theorem flX4_45 : FL RX4 45 4 7 := ⟨by decide, by decide, lg_mem 433 (by decide +kernel) rfl⟩
theorem flX5_182 : FL RX5 182 4 7 := ⟨by decide, by decide, lg_mem 434 (by decide +kernel) rfl⟩
theorem flX4_48 : FL RX4 48 4 8 := ⟨by decide, by decide, lg_mem 435 (by decide +kernel) rfl⟩
theorem flX5_185 : FL RX5 185 4 8 := ⟨by decide, by decide, lg_mem 436 (by decide +kernel) rfl⟩
theorem flX4_15 : FL RX4 15 4 9 := ⟨by decide, by decide, lg_mem 437 (by decide +kernel) rfl⟩
theorem flX4_19 : FL RX4 19 4 10 := ⟨by decide, by decide, lg_mem 438 (by decide +kernel) rfl⟩
theorem flX6_101 : FL RX6 101 6 0 := ⟨by decide, by decide, lg_mem 755 (by decide +kernel) rfl⟩
theorem flX6_7 : FL RX6 7 6 1 := ⟨by decide, by decide, lg_mem 756 (by decide +kernel) rfl⟩
theorem flX6_105 : FL RX6 105 6 2 := ⟨by decide, by decide, lg_mem 757 (by decide +kernel) rfl⟩
theorem flX6_13 : FL RX6 13 6 3 := ⟨by decide, by decide, lg_mem 758 (by decide +kernel) rfl⟩
theorem flX6_16 : FL RX6 16 6 4 := ⟨by decide, by decide, lg_mem 759 (by decide +kernel) rfl⟩
theorem flX6_19 : FL RX6 19 6 5 := ⟨by decide, by decide, lg_mem 760 (by decide +kernel) rfl⟩
theorem flX6_22 : FL RX6 22 6 6 := ⟨by decide, by decide, lg_mem 761 (by decide +kernel) rfl⟩
theorem flX6_25 : FL RX6 25 6 7 := ⟨by decide, by decide, lg_mem 762 (by decide +kernel) rfl⟩
theorem flX6_112 : FL RX6 112 6 8 := ⟨by decide, by decide, lg_mem 763 (by decide +kernel) rfl⟩
theorem flX6_115 : FL RX6 115 6 9 := ⟨by decide, by decide, lg_mem 764 (by decide +kernel) rfl⟩
theorem flX6_118 : FL RX6 118 6 10 := ⟨by decide, by decide, lg_mem 765 (by decide +kernel) rfl⟩
theorem flX6_121 : FL RX6 121 6 11 := ⟨by decide, by decide, lg_mem 766 (by decide +kernel) rfl⟩
theorem flX6_135 : FL RX6 135 6 12 := ⟨by decide, by decide, lg_mem 767 (by decide +kernel) rfl⟩
theorem flX6_158 : FL RX6 158 6 13 := ⟨by decide, by decide, lg_mem 768 (by decide +kernel) rfl⟩
theorem flX6_161 : FL RX6 161 6 14 := ⟨by decide, by decide, lg_mem 769 (by decide +kernel) rfl⟩
theorem flX6_171 : FL RX6 171 6 15 := ⟨by decide, by decide, lg_mem 770 (by decide +kernel) rfl⟩
theorem flX6_131 : FL RX6 131 6 16 := ⟨by decide, by decide, lg_mem 771 (by decide +kernel) rfl⟩
theorem flX6_28 : FL RX6 28 6 17 := ⟨by decide, by decide, lg_mem 772 (by decide +kernel) rfl⟩
theorem flX6_31 : FL RX6 31 6 18 := ⟨by decide, by decide, lg_mem 773 (by decide +kernel) rfl⟩
theorem flX6_34 : FL RX6 34 6 19 := ⟨by decide, by decide, lg_mem 774 (by decide +kernel) rfl⟩
theorem flX6_37 : FL RX6 37 6 20 := ⟨by decide, by decide, lg_mem 775 (by decide +kernel) rfl⟩
theorem flX6_40 : FL RX6 40 6 21 := ⟨by decide, by decide, lg_mem 776 (by decide +kernel) rfl⟩
theorem flX6_43 : FL RX6 43 6 22 := ⟨by decide, by decide, lg_mem 777 (by decide +kernel) rfl⟩
theorem flX6_46 : FL RX6 46 6 23 := ⟨by decide, by decide, lg_mem 778 (by decide +kernel) rfl⟩
theorem flX6_49 : FL RX6 49 6 24 := ⟨by decide, by decide, lg_mem 779 (by decide +kernel) rfl⟩
theorem flX6_52 : FL RX6 52 6 25 := ⟨by decide, by decide, lg_mem 780 (by decide +kernel) rfl⟩
theorem flX6_55 : FL RX6 55 6 26 := ⟨by decide, by decide, lg_mem 781 (by decide +kernel) rfl⟩
theorem flX6_59 : FL RX6 59 6 27 := ⟨by decide, by decide, lg_mem 782 (by decide +kernel) rfl⟩
theorem flX6_62 : FL RX6 62 6 28 := ⟨by decide, by decide, lg_mem 783 (by decide +kernel) rfl⟩
theorem flX6_65 : FL RX6 65 6 29 := ⟨by decide, by decide, lg_mem 784 (by decide +kernel) rfl⟩
theorem flX6_68 : FL RX6 68 6 30 := ⟨by decide, by decide, lg_mem 785 (by decide +kernel) rfl⟩
theorem flX6_71 : FL RX6 71 6 31 := ⟨by decide, by decide, lg_mem 786 (by decide +kernel) rfl⟩
theorem flX6_74 : FL RX6 74 6 32 := ⟨by decide, by decide, lg_mem 787 (by decide +kernel) rfl⟩
theorem flX6_181 : FL RX6 181 6 33 := ⟨by decide, by decide, lg_mem 788 (by decide +kernel) rfl⟩
theorem flX6_184 : FL RX6 184 6 34 := ⟨by decide, by decide, lg_mem 789 (by decide +kernel) rfl⟩
theorem flX6_194 : FL RX6 194 6 35 := ⟨by decide, by decide, lg_mem 790 (by decide +kernel) rfl⟩
theorem flX6_250 : FL RX6 250 6 36 := ⟨by decide, by decide, lg_mem 791 (by decide +kernel) rfl⟩
theorem flX6_77 : FL RX6 77 6 37 := ⟨by decide, by decide, lg_mem 792 (by decide +kernel) rfl⟩
theorem flX6_80 : FL RX6 80 6 38 := ⟨by decide, by decide, lg_mem 793 (by decide +kernel) rfl⟩
theorem flX6_83 : FL RX6 83 6 39 := ⟨by decide, by decide, lg_mem 794 (by decide +kernel) rfl⟩
theorem flX6_86 : FL RX6 86 6 40 := ⟨by decide, by decide, lg_mem 795 (by decide +kernel) rfl⟩
theorem flX6_89 : FL RX6 89 6 41 := ⟨by decide, by decide, lg_mem 796 (by decide +kernel) rfl⟩
theorem flX6_92 : FL RX6 92 6 42 := ⟨by decide, by decide, lg_mem 797 (by decide +kernel) rfl⟩
theorem flX6_95 : FL RX6 95 6 43 := ⟨by decide, by decide, lg_mem 798 (by decide +kernel) rfl⟩
theorem flX6_98 : FL RX6 98 6 44 := ⟨by decide, by decide, lg_mem 799 (by decide +kernel) rfl⟩
theorem flX6_232 : FL RX6 232 6 45 := ⟨by decide, by decide, lg_mem 800 (by decide +kernel) rfl⟩
theorem mcL_15 : MI RL 15 yX5_init cX5_init 2 0 := ⟨⟨lg_mem 76 (by decide +kernel) rfl, lg_mem 77 (by decide +kernel) rfl, lg_mem 56 (by decide +kernel) rfl, lg_mem 78 (by decide +kernel) rfl⟩, by decide, by decide, by decide, by decide +kernel⟩
theorem mcX5_9 : MIN RX5 9 yX3_init cX3_init 1 0 := ⟨⟨by decide +kernel, lg_mem 85 (by decide +kernel) rfl, lg_mem 57 (by decide +kernel) rfl, lg_mem 86 (by decide +kernel) rfl⟩, by decide, by decide, by decide, by decide +kernel⟩
theorem mcX5_18 : MI RX5 18 yX1_init cX1_init 2 0 := ⟨⟨lg_mem 98 (by decide +kernel) rfl, lg_mem 99 (by decide +kernel) rfl, lg_mem 58 (by decide +kernel) rfl, lg_mem 100 (by decide +kernel) rfl⟩, by decide, by decide, by decide, by decide +kernel⟩
theorem mcX5_35 : MIN RX5 35 yX0_init cX0_init 1 0 := ⟨⟨by decide +kernel, lg_mem 133 (by decide +kernel) rfl, lg_mem 59 (by decide +kernel) rfl, lg_mem 134 (by decide +kernel) rfl⟩, by decide, by decide, by decide, by decide +kernel⟩
theorem mcX5_42 : MIN RX5 42 yX2_init cX2_init 1 0 := ⟨⟨by decide +kernel, lg_mem 154 (by decide +kernel) rfl, lg_mem 60 (by decide +kernel) rfl, lg_mem 155 (by decide +kernel) rfl⟩, by decide, by decide, by decide, by decide +kernel⟩
theorem mcL_19 : MV RL 19 yX5_feed cX5_feed (some .int) 6 5 := ⟨⟨lg_mem 226 (by decide +kernel) rfl, lg_mem 227 (by decide +kernel) rfl, lg_mem 228 (by decide +kernel) rfl, lg_mem 56 (by decide +kernel) rfl, lg_mem 229 (by decide +kernel) rfl⟩, by decide, by decide, by decide +kernel⟩
theorem mcX5_47 : MV RX5 47 yX3_hasRoom cX3_hasRoom (some .boolean) 2 1 := ⟨⟨lg_mem 230 (by decide +kernel) rfl, lg_mem 231 (by decide +kernel) rfl, lg_mem 232 (by decide +kernel) rfl, lg_mem 57 (by decide +kernel) rfl, lg_mem 233 (by decide +kernel) rfl⟩, by decide, by decide, by decide +kernel⟩
theorem mcX5_51 : MV RX5 51 yX3_append cX3_append none 3 1 := ⟨⟨lg_mem 234 (by decide +kernel) rfl, lg_mem 235 (by decide +kernel) rfl, lg_mem 236 (by decide +kernel) rfl, lg_mem 57 (by decide +kernel) rfl, lg_mem 237 (by decide +kernel) rfl⟩, by decide, by decide, by decide +kernel⟩
theorem mcX3_17 : MV RX3 17 yX3_hasRoom cX3_hasRoom (some .boolean) 2 1 := ⟨⟨lg_mem 238 (by decide +kernel) rfl, lg_mem 231 (by decide +kernel) rfl, lg_mem 232 (by decide +kernel) rfl, lg_mem 57 (by decide +kernel) rfl, lg_mem 233 (by decide +kernel) rfl⟩, by decide, by decide, by decide +kernel⟩
theorem mcX5_55 : MV RX5 55 yX3_length cX3_length (some .int) 1 0 := ⟨⟨lg_mem 239 (by decide +kernel) rfl, lg_mem 240 (by decide +kernel) rfl, lg_mem 241 (by decide +kernel) rfl, lg_mem 57 (by decide +kernel) rfl, lg_mem 242 (by decide +kernel) rfl⟩, by decide, by decide, by decide +kernel⟩
theorem mcL_24 : MV RL 24 yX5_end cX5_end (some .boolean) 2 1 := ⟨⟨lg_mem 243 (by decide +kernel) rfl, lg_mem 244 (by decide +kernel) rfl, lg_mem 245 (by decide +kernel) rfl, lg_mem 56 (by decide +kernel) rfl, lg_mem 246 (by decide +kernel) rfl⟩, by decide, by decide, by decide +kernel⟩
theorem mcX5_59 : MV RX5 59 yX3_cut cX3_cut (some .boolean) 2 1 := ⟨⟨lg_mem 247 (by decide +kernel) rfl, lg_mem 248 (by decide +kernel) rfl, lg_mem 249 (by decide +kernel) rfl, lg_mem 57 (by decide +kernel) rfl, lg_mem 250 (by decide +kernel) rfl⟩, by decide, by decide, by decide +kernel⟩
theorem mcL_29 : MV RL 29 yX5_rules cX5_rules (some .int) 2 0 := ⟨⟨lg_mem 251 (by decide +kernel) rfl, lg_mem 252 (by decide +kernel) rfl, lg_mem 253 (by decide +kernel) rfl, lg_mem 56 (by decide +kernel) rfl, lg_mem 254 (by decide +kernel) rfl⟩, by decide, by decide, by decide +kernel⟩
theorem mcX5_62 : MV RX5 62 yX1_read cX1_read (some .int) 5 1 := ⟨⟨lg_mem 255 (by decide +kernel) rfl, lg_mem 256 (by decide +kernel) rfl, lg_mem 257 (by decide +kernel) rfl, lg_mem 58 (by decide +kernel) rfl, lg_mem 258 (by decide +kernel) rfl⟩, by decide, by decide, by decide +kernel⟩
theorem mcX1_25 : MV RX1 25 yX1_begin cX1_begin none 1 0 := ⟨⟨lg_mem 259 (by decide +kernel) rfl, lg_mem 261 (by decide +kernel) rfl, lg_mem 0 (by decide +kernel) rfl, lg_mem 58 (by decide +kernel) rfl, lg_mem 262 (by decide +kernel) rfl⟩, by decide, by decide, by decide +kernel⟩
theorem mcX1_28 : MV RX1 28 yX3_length cX3_length (some .int) 1 0 := ⟨⟨lg_mem 266 (by decide +kernel) rfl, lg_mem 240 (by decide +kernel) rfl, lg_mem 241 (by decide +kernel) rfl, lg_mem 57 (by decide +kernel) rfl, lg_mem 242 (by decide +kernel) rfl⟩, by decide, by decide, by decide +kernel⟩
theorem mcX1_34 : MS RX1 34 yJ9_min_7cf53 cJ9_min_7cf53 (some .int) 2 2 := ⟨⟨lg_mem 267 (by decide +kernel) rfl, lg_mem 268 (by decide +kernel) rfl, lg_mem 63 (by decide +kernel) rfl, lg_mem 269 (by decide +kernel) rfl⟩, by decide, by decide, by decide +kernel⟩
theorem mcX1_40 : MV RX1 40 yX3_isBlank cX3_isBlank (some .boolean) 3 1 := ⟨⟨lg_mem 270 (by decide +kernel) rfl, lg_mem 271 (by decide +kernel) rfl, lg_mem 272 (by decide +kernel) rfl, lg_mem 57 (by decide +kernel) rfl, lg_mem 273 (by decide +kernel) rfl⟩, by decide, by decide, by decide +kernel⟩
theorem mcX3_21 : MV RX3 21 yX3_byteAt cX3_byteAt (some .int) 2 1 := ⟨⟨lg_mem 274 (by decide +kernel) rfl, lg_mem 275 (by decide +kernel) rfl, lg_mem 276 (by decide +kernel) rfl, lg_mem 57 (by decide +kernel) rfl, lg_mem 277 (by decide +kernel) rfl⟩, by decide, by decide, by decide +kernel⟩
theorem mcX1_44 : MS RX1 44 yX1_endOfToken cX1_endOfToken (some .int) 4 2 := ⟨⟨lg_mem 278 (by decide +kernel) rfl, lg_mem 279 (by decide +kernel) rfl, lg_mem 58 (by decide +kernel) rfl, lg_mem 280 (by decide +kernel) rfl⟩, by decide, by decide, by decide +kernel⟩
theorem mcX1_80 : MV RX1 80 yX3_isLetter cX3_isLetter (some .boolean) 3 1 := ⟨⟨lg_mem 281 (by decide +kernel) rfl, lg_mem 282 (by decide +kernel) rfl, lg_mem 283 (by decide +kernel) rfl, lg_mem 57 (by decide +kernel) rfl, lg_mem 284 (by decide +kernel) rfl⟩, by decide, by decide, by decide +kernel⟩
theorem mcX1_83 : MV RX1 83 yX3_isDigit cX3_isDigit (some .boolean) 3 1 := ⟨⟨lg_mem 285 (by decide +kernel) rfl, lg_mem 286 (by decide +kernel) rfl, lg_mem 287 (by decide +kernel) rfl, lg_mem 57 (by decide +kernel) rfl, lg_mem 288 (by decide +kernel) rfl⟩, by decide, by decide, by decide +kernel⟩
theorem mcX1_86 : MS RX1 86 yJ9_max_7cf53 cJ9_max_7cf53 (some .int) 2 2 := ⟨⟨lg_mem 289 (by decide +kernel) rfl, lg_mem 290 (by decide +kernel) rfl, lg_mem 63 (by decide +kernel) rfl, lg_mem 291 (by decide +kernel) rfl⟩, by decide, by decide, by decide +kernel⟩
theorem mcX1_48 : MV RX1 48 yX1_take cX1_take none 4 3 := ⟨⟨lg_mem 292 (by decide +kernel) rfl, lg_mem 294 (by decide +kernel) rfl, lg_mem 1 (by decide +kernel) rfl, lg_mem 58 (by decide +kernel) rfl, lg_mem 295 (by decide +kernel) rfl⟩, by decide, by decide, by decide +kernel⟩
theorem mcX1_89 : MV RX1 89 yX1_takeWord cX1_takeWord none 5 3 := ⟨⟨lg_mem 296 (by decide +kernel) rfl, lg_mem 298 (by decide +kernel) rfl, lg_mem 2 (by decide +kernel) rfl, lg_mem 58 (by decide +kernel) rfl, lg_mem 299 (by decide +kernel) rfl⟩, by decide, by decide, by decide +kernel⟩
theorem mcX1_98 : MS RX1 98 yX1_kindOfWord cX1_kindOfWord (some .int) 4 3 := ⟨⟨lg_mem 300 (by decide +kernel) rfl, lg_mem 301 (by decide +kernel) rfl, lg_mem 58 (by decide +kernel) rfl, lg_mem 302 (by decide +kernel) rfl⟩, by decide, by decide, by decide +kernel⟩
theorem mcX1_111 : MS RX1 111 yX1_wordOf cX1_wordOf (some (.object "java/lang/String")) 1 1 := ⟨⟨lg_mem 303 (by decide +kernel) rfl, lg_mem 304 (by decide +kernel) rfl, lg_mem 58 (by decide +kernel) rfl, lg_mem 305 (by decide +kernel) rfl⟩, by decide, by decide, by decide +kernel⟩
theorem mcX1_115 : MS RX1 115 yX1_isWord cX1_isWord (some .boolean) 5 4 := ⟨⟨lg_mem 315 (by decide +kernel) rfl, lg_mem 316 (by decide +kernel) rfl, lg_mem 58 (by decide +kernel) rfl, lg_mem 317 (by decide +kernel) rfl⟩, by decide, by decide, by decide +kernel⟩
theorem mcX1_119 : MV RX1 119 yJ0_length_8abf5 cJ0_length_8abf5 (some .int) 1 0 := ⟨⟨lg_mem 318 (by decide +kernel) rfl, lg_mem 319 (by decide +kernel) rfl, lg_mem 320 (by decide +kernel) rfl, lg_mem 64 (by decide +kernel) rfl, lg_mem 321 (by decide +kernel) rfl⟩, by decide, by decide, by decide +kernel⟩
theorem mcJ0_335 : MV RJ0 335 yJ0_coder_7d493 cJ0_coder_7d493 (some .byte) 1 0 := ⟨⟨lg_mem 322 (by decide +kernel) rfl, lg_mem 323 (by decide +kernel) rfl, lg_mem 324 (by decide +kernel) rfl, lg_mem 64 (by decide +kernel) rfl, lg_mem 325 (by decide +kernel) rfl⟩, by decide, by decide, by decide +kernel⟩
theorem mcX1_95 : MV RX1 95 yX3_byteAt cX3_byteAt (some .int) 2 1 := ⟨⟨lg_mem 328 (by decide +kernel) rfl, lg_mem 275 (by decide +kernel) rfl, lg_mem 276 (by decide +kernel) rfl, lg_mem 57 (by decide +kernel) rfl, lg_mem 277 (by decide +kernel) rfl⟩, by decide, by decide, by decide +kernel⟩
theorem mcX1_122 : MV RX1 122 yJ0_charAt_5068e cJ0_charAt_5068e (some .char) 2 1 := ⟨⟨lg_mem 329 (by decide +kernel) rfl, lg_mem 330 (by decide +kernel) rfl, lg_mem 331 (by decide +kernel) rfl, lg_mem 64 (by decide +kernel) rfl, lg_mem 332 (by decide +kernel) rfl⟩, by decide, by decide, by decide +kernel⟩
theorem mcJ0_492 : MV RJ0 492 yJ0_isLatin1_aae02 cJ0_isLatin1_aae02 (some .boolean) 1 0 := ⟨⟨lg_mem 333 (by decide +kernel) rfl, lg_mem 334 (by decide +kernel) rfl, lg_mem 335 (by decide +kernel) rfl, lg_mem 64 (by decide +kernel) rfl, lg_mem 336 (by decide +kernel) rfl⟩, by decide, by decide, by decide +kernel⟩
theorem mcJ0_495 : MS RJ0 495 yJ1_charAt_3b067 cJ1_charAt_3b067 (some .char) 2 2 := ⟨⟨lg_mem 337 (by decide +kernel) rfl, lg_mem 338 (by decide +kernel) rfl, lg_mem 65 (by decide +kernel) rfl, lg_mem 339 (by decide +kernel) rfl⟩, by decide, by decide, by decide +kernel⟩
theorem mcJ1_9 : MS RJ1 9 yJ0_checkIndex_df160 cJ0_checkIndex_df160 none 2 2 := ⟨⟨lg_mem 340 (by decide +kernel) rfl, lg_mem 341 (by decide +kernel) rfl, lg_mem 64 (by decide +kernel) rfl, lg_mem 342 (by decide +kernel) rfl⟩, by decide, by decide, by decide +kernel⟩
theorem mcJ0_1059 : MS RJ0 1059 yJ3_checkIndex_8e157 cJ3_checkIndex_8e157 (some .int) 3 3 := ⟨⟨lg_mem 345 (by decide +kernel) rfl, lg_mem 346 (by decide +kernel) rfl, lg_mem 66 (by decide +kernel) rfl, lg_mem 347 (by decide +kernel) rfl⟩, by decide, by decide, by decide +kernel⟩
theorem mcJ0_498 : MS RJ0 498 yJ2_charAt_3b067 cJ2_charAt_3b067 (some .char) 2 2 := ⟨⟨lg_mem 348 (by decide +kernel) rfl, lg_mem 349 (by decide +kernel) rfl, lg_mem 67 (by decide +kernel) rfl, lg_mem 350 (by decide +kernel) rfl⟩, by decide, by decide, by decide +kernel⟩
theorem mcJ2_67 : MS RJ2 67 yJ2_checkIndex_2214a cJ2_checkIndex_2214a none 2 2 := ⟨⟨lg_mem 351 (by decide +kernel) rfl, lg_mem 352 (by decide +kernel) rfl, lg_mem 67 (by decide +kernel) rfl, lg_mem 353 (by decide +kernel) rfl⟩, by decide, by decide, by decide +kernel⟩
theorem mcJ2_48 : MS RJ2 48 yJ2_length_9d52b cJ2_length_9d52b (some .int) 1 1 := ⟨⟨lg_mem 354 (by decide +kernel) rfl, lg_mem 355 (by decide +kernel) rfl, lg_mem 67 (by decide +kernel) rfl, lg_mem 356 (by decide +kernel) rfl⟩, by decide, by decide, by decide +kernel⟩
theorem mcJ2_414 : MS RJ2 414 yJ0_checkIndex_df160 cJ0_checkIndex_df160 none 2 2 := ⟨⟨lg_mem 357 (by decide +kernel) rfl, lg_mem 341 (by decide +kernel) rfl, lg_mem 64 (by decide +kernel) rfl, lg_mem 342 (by decide +kernel) rfl⟩, by decide, by decide, by decide +kernel⟩
theorem mcJ2_71 : MS RJ2 71 yJ2_getChar_3b067 cJ2_getChar_3b067 (some .char) 2 2 := ⟨⟨lg_mem 358 (by decide +kernel) rfl, lg_mem 359 (by decide +kernel) rfl, lg_mem 67 (by decide +kernel) rfl, lg_mem 360 (by decide +kernel) rfl⟩, by decide, by decide, by decide +kernel⟩
theorem mcX1_55 : MV RX1 55 yX1_fail cX1_fail none 3 2 := ⟨⟨lg_mem 367 (by decide +kernel) rfl, lg_mem 369 (by decide +kernel) rfl, lg_mem 3 (by decide +kernel) rfl, lg_mem 58 (by decide +kernel) rfl, lg_mem 370 (by decide +kernel) rfl⟩, by decide, by decide, by decide +kernel⟩
theorem mcX1_92 : MV RX1 92 yX1_takeNumber cX1_takeNumber none 5 3 := ⟨⟨lg_mem 371 (by decide +kernel) rfl, lg_mem 373 (by decide +kernel) rfl, lg_mem 4 (by decide +kernel) rfl, lg_mem 58 (by decide +kernel) rfl, lg_mem 374 (by decide +kernel) rfl⟩, by decide, by decide, by decide +kernel⟩
theorem mcX1_102 : MS RX1 102 yX1_numberOf cX1_numberOf (some .int) 5 3 := ⟨⟨lg_mem 375 (by decide +kernel) rfl, lg_mem 376 (by decide +kernel) rfl, lg_mem 58 (by decide +kernel) rfl, lg_mem 377 (by decide +kernel) rfl⟩, by decide, by decide, by decide +kernel⟩
theorem mcX1_71 : MS RX1 71 yJ6_bitCount_0f7a4 cJ6_bitCount_0f7a4 (some .int) 1 1 := ⟨⟨lg_mem 382 (by decide +kernel) rfl, lg_mem 383 (by decide +kernel) rfl, lg_mem 68 (by decide +kernel) rfl, lg_mem 384 (by decide +kernel) rfl⟩, by decide, by decide, by decide +kernel⟩
theorem mcL_34 : MV RL 34 yX5_fault cX5_fault (some .int) 1 0 := ⟨⟨lg_mem 388 (by decide +kernel) rfl, lg_mem 389 (by decide +kernel) rfl, lg_mem 390 (by decide +kernel) rfl, lg_mem 56 (by decide +kernel) rfl, lg_mem 391 (by decide +kernel) rfl⟩, by decide, by decide, by decide +kernel⟩
theorem mcX5_66 : MV RX5 66 yX1_faultKind cX1_faultKind (some .int) 1 0 := ⟨⟨lg_mem 392 (by decide +kernel) rfl, lg_mem 393 (by decide +kernel) rfl, lg_mem 394 (by decide +kernel) rfl, lg_mem 58 (by decide +kernel) rfl, lg_mem 395 (by decide +kernel) rfl⟩, by decide, by decide, by decide +kernel⟩
theorem mcL_38 : MV RL 38 yX5_rule cX5_rule (some .int) 2 1 := ⟨⟨lg_mem 396 (by decide +kernel) rfl, lg_mem 397 (by decide +kernel) rfl, lg_mem 398 (by decide +kernel) rfl, lg_mem 56 (by decide +kernel) rfl, lg_mem 399 (by decide +kernel) rfl⟩, by decide, by decide, by decide +kernel⟩
theorem mcX5_69 : MV RX5 69 yX1_value cX1_value (some .int) 2 1 := ⟨⟨lg_mem 400 (by decide +kernel) rfl, lg_mem 401 (by decide +kernel) rfl, lg_mem 402 (by decide +kernel) rfl, lg_mem 58 (by decide +kernel) rfl, lg_mem 403 (by decide +kernel) rfl⟩, by decide, by decide, by decide +kernel⟩
theorem mcL_43 : MV RL 43 yX5_umpire cX5_umpire (some .int) 6 4 := ⟨⟨lg_mem 404 (by decide +kernel) rfl, lg_mem 405 (by decide +kernel) rfl, lg_mem 406 (by decide +kernel) rfl, lg_mem 56 (by decide +kernel) rfl, lg_mem 407 (by decide +kernel) rfl⟩, by decide, by decide, by decide +kernel⟩
theorem mcX5_77 : MS RX5 77 yX5_isPlace cX5_isPlace (some .boolean) 2 2 := ⟨⟨lg_mem 408 (by decide +kernel) rfl, lg_mem 409 (by decide +kernel) rfl, lg_mem 56 (by decide +kernel) rfl, lg_mem 410 (by decide +kernel) rfl⟩, by decide, by decide, by decide +kernel⟩
theorem mcX5_81 : MS RX5 81 yX5_isGrade cX5_isGrade (some .boolean) 1 1 := ⟨⟨lg_mem 411 (by decide +kernel) rfl, lg_mem 412 (by decide +kernel) rfl, lg_mem 56 (by decide +kernel) rfl, lg_mem 413 (by decide +kernel) rfl⟩, by decide, by decide, by decide +kernel⟩
theorem mcX5_84 : MI RX5 84 yX4_init cX4_init 5 4 := ⟨⟨lg_mem 415 (by decide +kernel) rfl, lg_mem 416 (by decide +kernel) rfl, lg_mem 69 (by decide +kernel) rfl, lg_mem 417 (by decide +kernel) rfl⟩, by decide, by decide, by decide, by decide +kernel⟩
theorem mcL_48 : MV RL 48 yX5_away cX5_away (some .boolean) 5 3 := ⟨⟨lg_mem 462 (by decide +kernel) rfl, lg_mem 463 (by decide +kernel) rfl, lg_mem 464 (by decide +kernel) rfl, lg_mem 56 (by decide +kernel) rfl, lg_mem 465 (by decide +kernel) rfl⟩, by decide, by decide, by decide +kernel⟩
theorem mcX5_87 : MV RX5 87 yX5_umpireAt cX5_umpireAt (some (.object "WicketBoard$Umpire")) 2 1 := ⟨⟨lg_mem 466 (by decide +kernel) rfl, lg_mem 468 (by decide +kernel) rfl, lg_mem 5 (by decide +kernel) rfl, lg_mem 56 (by decide +kernel) rfl, lg_mem 469 (by decide +kernel) rfl⟩, by decide, by decide, by decide +kernel⟩
theorem mcX5_97 : MV RX5 97 yX4_setAway cX4_setAway (some .boolean) 3 2 := ⟨⟨lg_mem 470 (by decide +kernel) rfl, lg_mem 471 (by decide +kernel) rfl, lg_mem 472 (by decide +kernel) rfl, lg_mem 69 (by decide +kernel) rfl, lg_mem 473 (by decide +kernel) rfl⟩, by decide, by decide, by decide +kernel⟩
theorem mcL_53 : MV RL 53 yX5_game cX5_game (some .int) 7 5 := ⟨⟨lg_mem 474 (by decide +kernel) rfl, lg_mem 475 (by decide +kernel) rfl, lg_mem 476 (by decide +kernel) rfl, lg_mem 56 (by decide +kernel) rfl, lg_mem 477 (by decide +kernel) rfl⟩, by decide, by decide, by decide +kernel⟩
theorem mcX5_104 : MS RX5 104 yX5_isClub cX5_isClub (some .boolean) 1 1 := ⟨⟨lg_mem 478 (by decide +kernel) rfl, lg_mem 479 (by decide +kernel) rfl, lg_mem 56 (by decide +kernel) rfl, lg_mem 480 (by decide +kernel) rfl⟩, by decide, by decide, by decide +kernel⟩
theorem mcX5_107 : MV RX5 107 yX0_set cX0_set none 5 4 := ⟨⟨lg_mem 481 (by decide +kernel) rfl, lg_mem 482 (by decide +kernel) rfl, lg_mem 483 (by decide +kernel) rfl, lg_mem 59 (by decide +kernel) rfl, lg_mem 484 (by decide +kernel) rfl⟩, by decide, by decide, by decide +kernel⟩
theorem mcL_57 : MV RL 57 yX5_may cX5_may (some .boolean) 3 2 := ⟨⟨lg_mem 485 (by decide +kernel) rfl, lg_mem 486 (by decide +kernel) rfl, lg_mem 487 (by decide +kernel) rfl, lg_mem 56 (by decide +kernel) rfl, lg_mem 488 (by decide +kernel) rfl⟩, by decide, by decide, by decide +kernel⟩
theorem mcX5_110 : MV RX5 110 yX5_fits cX5_fits (some .boolean) 4 2 := ⟨⟨lg_mem 489 (by decide +kernel) rfl, lg_mem 491 (by decide +kernel) rfl, lg_mem 6 (by decide +kernel) rfl, lg_mem 56 (by decide +kernel) rfl, lg_mem 492 (by decide +kernel) rfl⟩, by decide, by decide, by decide +kernel⟩
theorem mcX5_198 : MV RX5 198 yX5_gameOf cX5_gameOf (some (.object "WicketBoard$Game")) 2 1 := ⟨⟨lg_mem 493 (by decide +kernel) rfl, lg_mem 495 (by decide +kernel) rfl, lg_mem 7 (by decide +kernel) rfl, lg_mem 56 (by decide +kernel) rfl, lg_mem 496 (by decide +kernel) rfl⟩, by decide, by decide, by decide +kernel⟩
theorem mcX5_150 : MV RX5 150 yX5_isSeat cX5_isSeat (some .boolean) 2 1 := ⟨⟨lg_mem 497 (by decide +kernel) rfl, lg_mem 499 (by decide +kernel) rfl, lg_mem 8 (by decide +kernel) rfl, lg_mem 56 (by decide +kernel) rfl, lg_mem 500 (by decide +kernel) rfl⟩, by decide, by decide, by decide +kernel⟩
theorem mcX5_202 : MV RX5 202 yX4_isAway cX4_isAway (some .boolean) 2 1 := ⟨⟨lg_mem 501 (by decide +kernel) rfl, lg_mem 502 (by decide +kernel) rfl, lg_mem 503 (by decide +kernel) rfl, lg_mem 69 (by decide +kernel) rfl, lg_mem 504 (by decide +kernel) rfl⟩, by decide, by decide, by decide +kernel⟩
theorem mcX5_214 : MV RX5 214 yX0_milesTo cX0_milesTo (some .int) 2 1 := ⟨⟨lg_mem 505 (by decide +kernel) rfl, lg_mem 506 (by decide +kernel) rfl, lg_mem 507 (by decide +kernel) rfl, lg_mem 59 (by decide +kernel) rfl, lg_mem 508 (by decide +kernel) rfl⟩, by decide, by decide, by decide +kernel⟩
theorem mcX0_25 : MS RX0 25 yJ9_abs_0f7a4 cJ9_abs_0f7a4 (some .int) 1 1 := ⟨⟨lg_mem 509 (by decide +kernel) rfl, lg_mem 510 (by decide +kernel) rfl, lg_mem 63 (by decide +kernel) rfl, lg_mem 511 (by decide +kernel) rfl⟩, by decide, by decide, by decide +kernel⟩
theorem mcX5_218 : MV RX5 218 yX4_stoodInAll cX4_stoodInAll (some .boolean) 4 2 := ⟨⟨lg_mem 512 (by decide +kernel) rfl, lg_mem 513 (by decide +kernel) rfl, lg_mem 514 (by decide +kernel) rfl, lg_mem 69 (by decide +kernel) rfl, lg_mem 515 (by decide +kernel) rfl⟩, by decide, by decide, by decide +kernel⟩
theorem mcX4_38 : MV RX4 38 yX4_clubsIn cX4_clubsIn (some .int) 2 1 := ⟨⟨lg_mem 516 (by decide +kernel) rfl, lg_mem 517 (by decide +kernel) rfl, lg_mem 518 (by decide +kernel) rfl, lg_mem 69 (by decide +kernel) rfl, lg_mem 519 (by decide +kernel) rfl⟩, by decide, by decide, by decide +kernel⟩
theorem mcX5_221 : MV RX5 221 yX4_stoodWith cX4_stoodWith (some .boolean) 5 3 := ⟨⟨lg_mem 520 (by decide +kernel) rfl, lg_mem 521 (by decide +kernel) rfl, lg_mem 522 (by decide +kernel) rfl, lg_mem 69 (by decide +kernel) rfl, lg_mem 523 (by decide +kernel) rfl⟩, by decide, by decide, by decide +kernel⟩
theorem mcL_62 : MV RL 62 yX5_cost cX5_cost (some .int) 3 2 := ⟨⟨lg_mem 524 (by decide +kernel) rfl, lg_mem 525 (by decide +kernel) rfl, lg_mem 526 (by decide +kernel) rfl, lg_mem 56 (by decide +kernel) rfl, lg_mem 527 (by decide +kernel) rfl⟩, by decide, by decide, by decide +kernel⟩
theorem mcX5_114 : MV RX5 114 yX5_price cX5_price (some .int) 4 2 := ⟨⟨lg_mem 528 (by decide +kernel) rfl, lg_mem 530 (by decide +kernel) rfl, lg_mem 9 (by decide +kernel) rfl, lg_mem 56 (by decide +kernel) rfl, lg_mem 531 (by decide +kernel) rfl⟩, by decide, by decide, by decide +kernel⟩
theorem mcL_66 : MV RL 66 yX5_send cX5_send (some .int) 4 0 := ⟨⟨lg_mem 532 (by decide +kernel) rfl, lg_mem 533 (by decide +kernel) rfl, lg_mem 534 (by decide +kernel) rfl, lg_mem 56 (by decide +kernel) rfl, lg_mem 535 (by decide +kernel) rfl⟩, by decide, by decide, by decide +kernel⟩
theorem mcX5_121 : MV RX5 121 yX2_begin cX2_begin none 4 2 := ⟨⟨lg_mem 536 (by decide +kernel) rfl, lg_mem 537 (by decide +kernel) rfl, lg_mem 538 (by decide +kernel) rfl, lg_mem 60 (by decide +kernel) rfl, lg_mem 539 (by decide +kernel) rfl⟩, by decide, by decide, by decide +kernel⟩
theorem mcX2_40 : MS RX2 40 yJ9_min_7cf53 cJ9_min_7cf53 (some .int) 2 2 := ⟨⟨lg_mem 540 (by decide +kernel) rfl, lg_mem 268 (by decide +kernel) rfl, lg_mem 63 (by decide +kernel) rfl, lg_mem 269 (by decide +kernel) rfl⟩, by decide, by decide, by decide +kernel⟩
theorem mcX2_46 : MS RX2 46 yJ9_max_7cf53 cJ9_max_7cf53 (some .int) 2 2 := ⟨⟨lg_mem 541 (by decide +kernel) rfl, lg_mem 290 (by decide +kernel) rfl, lg_mem 63 (by decide +kernel) rfl, lg_mem 291 (by decide +kernel) rfl⟩, by decide, by decide, by decide +kernel⟩
theorem mcX2_60 : MV RX2 60 yX2_pair cX2_pair none 3 2 := ⟨⟨lg_mem 543 (by decide +kernel) rfl, lg_mem 545 (by decide +kernel) rfl, lg_mem 10 (by decide +kernel) rfl, lg_mem 60 (by decide +kernel) rfl, lg_mem 546 (by decide +kernel) rfl⟩, by decide, by decide, by decide +kernel⟩
theorem mcX5_125 : MV RX5 125 yX5_clearSeat cX5_clearSeat none 3 1 := ⟨⟨lg_mem 547 (by decide +kernel) rfl, lg_mem 549 (by decide +kernel) rfl, lg_mem 11 (by decide +kernel) rfl, lg_mem 56 (by decide +kernel) rfl, lg_mem 550 (by decide +kernel) rfl⟩, by decide, by decide, by decide +kernel⟩
theorem mcX5_153 : MV RX5 153 yX5_holderOf cX5_holderOf (some (.object "WicketBoard$Umpire")) 2 1 := ⟨⟨lg_mem 551 (by decide +kernel) rfl, lg_mem 553 (by decide +kernel) rfl, lg_mem 12 (by decide +kernel) rfl, lg_mem 56 (by decide +kernel) rfl, lg_mem 554 (by decide +kernel) rfl⟩, by decide, by decide, by decide +kernel⟩
theorem mcX5_128 : MV RX5 128 yX2_allow cX2_allow none 4 3 := ⟨⟨lg_mem 555 (by decide +kernel) rfl, lg_mem 556 (by decide +kernel) rfl, lg_mem 557 (by decide +kernel) rfl, lg_mem 60 (by decide +kernel) rfl, lg_mem 558 (by decide +kernel) rfl⟩, by decide, by decide, by decide +kernel⟩
theorem mcX5_132 : MV RX5 132 yX2_settle cX2_settle none 2 0 := ⟨⟨lg_mem 559 (by decide +kernel) rfl, lg_mem 560 (by decide +kernel) rfl, lg_mem 561 (by decide +kernel) rfl, lg_mem 60 (by decide +kernel) rfl, lg_mem 562 (by decide +kernel) rfl⟩, by decide, by decide, by decide +kernel⟩
theorem mcX2_64 : MV RX2 64 yX2_addSeat cX2_addSeat none 5 1 := ⟨⟨lg_mem 563 (by decide +kernel) rfl, lg_mem 565 (by decide +kernel) rfl, lg_mem 13 (by decide +kernel) rfl, lg_mem 60 (by decide +kernel) rfl, lg_mem 566 (by decide +kernel) rfl⟩, by decide, by decide, by decide +kernel⟩
theorem mcX2_75 : MV RX2 75 yX2_forgetColumns cX2_forgetColumns none 2 0 := ⟨⟨lg_mem 567 (by decide +kernel) rfl, lg_mem 569 (by decide +kernel) rfl, lg_mem 14 (by decide +kernel) rfl, lg_mem 60 (by decide +kernel) rfl, lg_mem 570 (by decide +kernel) rfl⟩, by decide, by decide, by decide +kernel⟩
theorem mcX2_78 : MV RX2 78 yX2_reach cX2_reach none 5 2 := ⟨⟨lg_mem 572 (by decide +kernel) rfl, lg_mem 574 (by decide +kernel) rfl, lg_mem 15 (by decide +kernel) rfl, lg_mem 60 (by decide +kernel) rfl, lg_mem 575 (by decide +kernel) rfl⟩, by decide, by decide, by decide +kernel⟩
theorem mcX2_91 : MV RX2 91 yX2_gap cX2_gap (some .int) 4 2 := ⟨⟨lg_mem 576 (by decide +kernel) rfl, lg_mem 578 (by decide +kernel) rfl, lg_mem 16 (by decide +kernel) rfl, lg_mem 60 (by decide +kernel) rfl, lg_mem 579 (by decide +kernel) rfl⟩, by decide, by decide, by decide +kernel⟩
theorem mcX2_81 : MV RX2 81 yX2_nearest cX2_nearest (some .int) 3 0 := ⟨⟨lg_mem 581 (by decide +kernel) rfl, lg_mem 583 (by decide +kernel) rfl, lg_mem 17 (by decide +kernel) rfl, lg_mem 60 (by decide +kernel) rfl, lg_mem 584 (by decide +kernel) rfl⟩, by decide, by decide, by decide +kernel⟩
theorem mcX2_85 : MV RX2 85 yX2_shiftParts cX2_shiftParts none 4 2 := ⟨⟨lg_mem 585 (by decide +kernel) rfl, lg_mem 587 (by decide +kernel) rfl, lg_mem 18 (by decide +kernel) rfl, lg_mem 60 (by decide +kernel) rfl, lg_mem 588 (by decide +kernel) rfl⟩, by decide, by decide, by decide +kernel⟩
theorem mcX2_88 : MV RX2 88 yX2_moveAlong cX2_moveAlong none 6 2 := ⟨⟨lg_mem 589 (by decide +kernel) rfl, lg_mem 591 (by decide +kernel) rfl, lg_mem 19 (by decide +kernel) rfl, lg_mem 60 (by decide +kernel) rfl, lg_mem 592 (by decide +kernel) rfl⟩, by decide, by decide, by decide +kernel⟩
theorem mcX2_68 : MV RX2 68 yX2_takeFirst cX2_takeFirst none 8 1 := ⟨⟨lg_mem 593 (by decide +kernel) rfl, lg_mem 595 (by decide +kernel) rfl, lg_mem 20 (by decide +kernel) rfl, lg_mem 60 (by decide +kernel) rfl, lg_mem 596 (by decide +kernel) rfl⟩, by decide, by decide, by decide +kernel⟩
theorem mcX2_94 : MV RX2 94 yX2_firstTight cX2_firstTight (some .int) 5 3 := ⟨⟨lg_mem 597 (by decide +kernel) rfl, lg_mem 599 (by decide +kernel) rfl, lg_mem 21 (by decide +kernel) rfl, lg_mem 60 (by decide +kernel) rfl, lg_mem 600 (by decide +kernel) rfl⟩, by decide, by decide, by decide +kernel⟩
theorem mcX2_98 : MV RX2 98 yX2_findMovable cX2_findMovable none 7 2 := ⟨⟨lg_mem 601 (by decide +kernel) rfl, lg_mem 603 (by decide +kernel) rfl, lg_mem 22 (by decide +kernel) rfl, lg_mem 60 (by decide +kernel) rfl, lg_mem 604 (by decide +kernel) rfl⟩, by decide, by decide, by decide +kernel⟩
theorem mcX5_135 : MV RX5 135 yX2_umpireFor cX2_umpireFor (some .int) 3 1 := ⟨⟨lg_mem 605 (by decide +kernel) rfl, lg_mem 606 (by decide +kernel) rfl, lg_mem 607 (by decide +kernel) rfl, lg_mem 60 (by decide +kernel) rfl, lg_mem 608 (by decide +kernel) rfl⟩, by decide, by decide, by decide +kernel⟩
theorem mcX5_138 : MV RX5 138 yX5_fillSeat cX5_fillSeat none 4 2 := ⟨⟨lg_mem 609 (by decide +kernel) rfl, lg_mem 611 (by decide +kernel) rfl, lg_mem 23 (by decide +kernel) rfl, lg_mem 56 (by decide +kernel) rfl, lg_mem 612 (by decide +kernel) rfl⟩, by decide, by decide, by decide +kernel⟩
theorem mcX5_141 : MV RX5 141 yX5_filledSeats cX5_filledSeats (some .int) 3 0 := ⟨⟨lg_mem 613 (by decide +kernel) rfl, lg_mem 615 (by decide +kernel) rfl, lg_mem 24 (by decide +kernel) rfl, lg_mem 56 (by decide +kernel) rfl, lg_mem 616 (by decide +kernel) rfl⟩, by decide, by decide, by decide +kernel⟩
theorem mcL_70 : MV RL 70 yX5_off cX5_off (some .int) 5 1 := ⟨⟨lg_mem 617 (by decide +kernel) rfl, lg_mem 618 (by decide +kernel) rfl, lg_mem 619 (by decide +kernel) rfl, lg_mem 56 (by decide +kernel) rfl, lg_mem 620 (by decide +kernel) rfl⟩, by decide, by decide, by decide +kernel⟩
theorem mcX5_144 : MV RX5 144 yX5_cheapestFree cX5_cheapestFree (some .int) 7 1 := ⟨⟨lg_mem 621 (by decide +kernel) rfl, lg_mem 623 (by decide +kernel) rfl, lg_mem 25 (by decide +kernel) rfl, lg_mem 56 (by decide +kernel) rfl, lg_mem 624 (by decide +kernel) rfl⟩, by decide, by decide, by decide +kernel⟩
theorem mcX5_147 : MV RX5 147 yX5_fillByMove cX5_fillByMove (some .boolean) 9 1 := ⟨⟨lg_mem 625 (by decide +kernel) rfl, lg_mem 627 (by decide +kernel) rfl, lg_mem 26 (by decide +kernel) rfl, lg_mem 56 (by decide +kernel) rfl, lg_mem 628 (by decide +kernel) rfl⟩, by decide, by decide, by decide +kernel⟩
theorem mcL_74 : MV RL 74 yX5_seat cX5_seat (some .int) 2 1 := ⟨⟨lg_mem 629 (by decide +kernel) rfl, lg_mem 630 (by decide +kernel) rfl, lg_mem 631 (by decide +kernel) rfl, lg_mem 56 (by decide +kernel) rfl, lg_mem 632 (by decide +kernel) rfl⟩, by decide, by decide, by decide +kernel⟩
theorem mcL_78 : MV RL 78 yX5_mark cX5_mark (some .boolean) 7 4 := ⟨⟨lg_mem 633 (by decide +kernel) rfl, lg_mem 634 (by decide +kernel) rfl, lg_mem 635 (by decide +kernel) rfl, lg_mem 56 (by decide +kernel) rfl, lg_mem 636 (by decide +kernel) rfl⟩, by decide, by decide, by decide +kernel⟩
theorem mcX5_156 : MV RX5 156 yX4_addMarks cX4_addMarks none 3 2 := ⟨⟨lg_mem 637 (by decide +kernel) rfl, lg_mem 638 (by decide +kernel) rfl, lg_mem 639 (by decide +kernel) rfl, lg_mem 69 (by decide +kernel) rfl, lg_mem 640 (by decide +kernel) rfl⟩, by decide, by decide, by decide +kernel⟩
theorem mcL_83 : MV RL 83 yX5_next cX5_next (some .int) 2 0 := ⟨⟨lg_mem 641 (by decide +kernel) rfl, lg_mem 642 (by decide +kernel) rfl, lg_mem 643 (by decide +kernel) rfl, lg_mem 56 (by decide +kernel) rfl, lg_mem 644 (by decide +kernel) rfl⟩, by decide, by decide, by decide +kernel⟩
theorem mcX5_159 : MV RX5 159 yX5_endSeat cX5_endSeat none 4 1 := ⟨⟨lg_mem 645 (by decide +kernel) rfl, lg_mem 647 (by decide +kernel) rfl, lg_mem 27 (by decide +kernel) rfl, lg_mem 56 (by decide +kernel) rfl, lg_mem 648 (by decide +kernel) rfl⟩, by decide, by decide, by decide +kernel⟩
theorem mcX5_225 : MV RX5 225 yX4_stand cX4_stand none 3 2 := ⟨⟨lg_mem 649 (by decide +kernel) rfl, lg_mem 650 (by decide +kernel) rfl, lg_mem 651 (by decide +kernel) rfl, lg_mem 69 (by decide +kernel) rfl, lg_mem 652 (by decide +kernel) rfl⟩, by decide, by decide, by decide +kernel⟩
theorem mcX5_162 : MV RX5 162 yX5_regrade cX5_regrade none 4 1 := ⟨⟨lg_mem 653 (by decide +kernel) rfl, lg_mem 655 (by decide +kernel) rfl, lg_mem 28 (by decide +kernel) rfl, lg_mem 56 (by decide +kernel) rfl, lg_mem 656 (by decide +kernel) rfl⟩, by decide, by decide, by decide +kernel⟩
theorem mcX5_228 : MV RX5 228 yX4_giveGrade cX4_giveGrade none 2 1 := ⟨⟨lg_mem 657 (by decide +kernel) rfl, lg_mem 658 (by decide +kernel) rfl, lg_mem 659 (by decide +kernel) rfl, lg_mem 69 (by decide +kernel) rfl, lg_mem 660 (by decide +kernel) rfl⟩, by decide, by decide, by decide +kernel⟩
theorem mcL_96 : MV RL 96 yX5_stood cX5_stood (some .int) 4 2 := ⟨⟨lg_mem 661 (by decide +kernel) rfl, lg_mem 662 (by decide +kernel) rfl, lg_mem 663 (by decide +kernel) rfl, lg_mem 56 (by decide +kernel) rfl, lg_mem 664 (by decide +kernel) rfl⟩, by decide, by decide, by decide +kernel⟩
theorem mcX5_190 : MV RX5 190 yX4_clubsIn cX4_clubsIn (some .int) 2 1 := ⟨⟨lg_mem 665 (by decide +kernel) rfl, lg_mem 517 (by decide +kernel) rfl, lg_mem 518 (by decide +kernel) rfl, lg_mem 69 (by decide +kernel) rfl, lg_mem 519 (by decide +kernel) rfl⟩, by decide, by decide, by decide +kernel⟩
theorem mcL_100 : MV RL 100 yX5_together cX5_together (some .int) 4 0 := ⟨⟨lg_mem 666 (by decide +kernel) rfl, lg_mem 667 (by decide +kernel) rfl, lg_mem 668 (by decide +kernel) rfl, lg_mem 56 (by decide +kernel) rfl, lg_mem 669 (by decide +kernel) rfl⟩, by decide, by decide, by decide +kernel⟩
theorem mcL_104 : MV RL 104 yX5_count cX5_count (some .int) 2 1 := ⟨⟨lg_mem 670 (by decide +kernel) rfl, lg_mem 671 (by decide +kernel) rfl, lg_mem 672 (by decide +kernel) rfl, lg_mem 56 (by decide +kernel) rfl, lg_mem 673 (by decide +kernel) rfl⟩, by decide, by decide, by decide +kernel⟩
theorem mcX5_193 : MS RX5 193 yJ6_bitCount_0f7a4 cJ6_bitCount_0f7a4 (some .int) 1 1 := ⟨⟨lg_mem 674 (by decide +kernel) rfl, lg_mem 383 (by decide +kernel) rfl, lg_mem 68 (by decide +kernel) rfl, lg_mem 384 (by decide +kernel) rfl⟩, by decide, by decide, by decide +kernel⟩
theorem mcL_7 : MV RL 7 yX5_about cX5_about (some .int) 4 2 := ⟨⟨lg_mem 679 (by decide +kernel) rfl, lg_mem 680 (by decide +kernel) rfl, lg_mem 681 (by decide +kernel) rfl, lg_mem 56 (by decide +kernel) rfl, lg_mem 682 (by decide +kernel) rfl⟩, by decide, by decide, by decide +kernel⟩
theorem mcL_18 : MI RL 18 yX6_init cX6_init 1 0 := ⟨⟨lg_mem 751 (by decide +kernel) rfl, lg_mem 752 (by decide +kernel) rfl, lg_mem 61 (by decide +kernel) rfl, lg_mem 753 (by decide +kernel) rfl⟩, by decide, by decide, by decide, by decide +kernel⟩
theorem mcL_93 : MV RL 93 yX6_thrown cX6_thrown (some .int) 1 0 := ⟨⟨lg_mem 894 (by decide +kernel) rfl, lg_mem 895 (by decide +kernel) rfl, lg_mem 896 (by decide +kernel) rfl, lg_mem 61 (by decide +kernel) rfl, lg_mem 897 (by decide +kernel) rfl⟩, by decide, by decide, by decide +kernel⟩
theorem mcL_23 : MV RL 23 yX6_feed cX6_feed (some .int) 6 5 := ⟨⟨lg_mem 898 (by decide +kernel) rfl, lg_mem 899 (by decide +kernel) rfl, lg_mem 900 (by decide +kernel) rfl, lg_mem 61 (by decide +kernel) rfl, lg_mem 901 (by decide +kernel) rfl⟩, by decide, by decide, by decide +kernel⟩
theorem mcX6_108 : MV RX6 108 yX6_come cX6_come none 3 1 := ⟨⟨lg_mem 902 (by decide +kernel) rfl, lg_mem 904 (by decide +kernel) rfl, lg_mem 30 (by decide +kernel) rfl, lg_mem 61 (by decide +kernel) rfl, lg_mem 905 (by decide +kernel) rfl⟩, by decide, by decide, by decide +kernel⟩
theorem mcL_28 : MV RL 28 yX6_end cX6_end (some .boolean) 2 1 := ⟨⟨lg_mem 906 (by decide +kernel) rfl, lg_mem 907 (by decide +kernel) rfl, lg_mem 908 (by decide +kernel) rfl, lg_mem 61 (by decide +kernel) rfl, lg_mem 909 (by decide +kernel) rfl⟩, by decide, by decide, by decide +kernel⟩
theorem mcL_33 : MV RL 33 yX6_rules cX6_rules (some .int) 3 0 := ⟨⟨lg_mem 910 (by decide +kernel) rfl, lg_mem 911 (by decide +kernel) rfl, lg_mem 912 (by decide +kernel) rfl, lg_mem 61 (by decide +kernel) rfl, lg_mem 913 (by decide +kernel) rfl⟩, by decide, by decide, by decide +kernel⟩
theorem mcX6_174 : MV RX6 174 yX6_go cX6_go none 5 0 := ⟨⟨lg_mem 914 (by decide +kernel) rfl, lg_mem 916 (by decide +kernel) rfl, lg_mem 31 (by decide +kernel) rfl, lg_mem 61 (by decide +kernel) rfl, lg_mem 917 (by decide +kernel) rfl⟩, by decide, by decide, by decide +kernel⟩
theorem mcX6_124 : MS RX6 124 yX6_isLetter cX6_isLetter (some .boolean) 1 1 := ⟨⟨lg_mem 918 (by decide +kernel) rfl, lg_mem 919 (by decide +kernel) rfl, lg_mem 61 (by decide +kernel) rfl, lg_mem 920 (by decide +kernel) rfl⟩, by decide, by decide, by decide +kernel⟩
theorem mcX6_128 : MS RX6 128 yX6_isDigit cX6_isDigit (some .boolean) 1 1 := ⟨⟨lg_mem 921 (by decide +kernel) rfl, lg_mem 922 (by decide +kernel) rfl, lg_mem 61 (by decide +kernel) rfl, lg_mem 923 (by decide +kernel) rfl⟩, by decide, by decide, by decide +kernel⟩
theorem mcX6_138 : MV RX6 138 yX6_byteAt cX6_byteAt (some .int) 2 1 := ⟨⟨lg_mem 924 (by decide +kernel) rfl, lg_mem 926 (by decide +kernel) rfl, lg_mem 32 (by decide +kernel) rfl, lg_mem 61 (by decide +kernel) rfl, lg_mem 927 (by decide +kernel) rfl⟩, by decide, by decide, by decide +kernel⟩
theorem mcX6_177 : MV RX6 177 yX6_readRule cX6_readRule (some .boolean) 2 0 := ⟨⟨lg_mem 931 (by decide +kernel) rfl, lg_mem 933 (by decide +kernel) rfl, lg_mem 33 (by decide +kernel) rfl, lg_mem 61 (by decide +kernel) rfl, lg_mem 934 (by decide +kernel) rfl⟩, by decide, by decide, by decide +kernel⟩
theorem mcX6_164 : MV RX6 164 yX6_ruleAtHand cX6_ruleAtHand (some .int) 1 0 := ⟨⟨lg_mem 935 (by decide +kernel) rfl, lg_mem 937 (by decide +kernel) rfl, lg_mem 34 (by decide +kernel) rfl, lg_mem 61 (by decide +kernel) rfl, lg_mem 938 (by decide +kernel) rfl⟩, by decide, by decide, by decide +kernel⟩
theorem mcX6_148 : MS RX6 148 yX6_spelt cX6_spelt (some .long) 6 4 := ⟨⟨lg_mem 939 (by decide +kernel) rfl, lg_mem 940 (by decide +kernel) rfl, lg_mem 61 (by decide +kernel) rfl, lg_mem 941 (by decide +kernel) rfl⟩, by decide, by decide, by decide +kernel⟩
theorem mcX6_152 : MV RX6 152 yX6_isKey cX6_isKey (some .boolean) 3 1 := ⟨⟨lg_mem 942 (by decide +kernel) rfl, lg_mem 944 (by decide +kernel) rfl, lg_mem 35 (by decide +kernel) rfl, lg_mem 61 (by decide +kernel) rfl, lg_mem 945 (by decide +kernel) rfl⟩, by decide, by decide, by decide +kernel⟩
theorem mcX6_168 : MV RX6 168 yX6_bad cX6_bad (some .boolean) 2 1 := ⟨⟨lg_mem 947 (by decide +kernel) rfl, lg_mem 949 (by decide +kernel) rfl, lg_mem 36 (by decide +kernel) rfl, lg_mem 61 (by decide +kernel) rfl, lg_mem 950 (by decide +kernel) rfl⟩, by decide, by decide, by decide +kernel⟩
theorem mcL_37 : MV RL 37 yX6_fault cX6_fault (some .int) 1 0 := ⟨⟨lg_mem 951 (by decide +kernel) rfl, lg_mem 952 (by decide +kernel) rfl, lg_mem 953 (by decide +kernel) rfl, lg_mem 61 (by decide +kernel) rfl, lg_mem 954 (by decide +kernel) rfl⟩, by decide, by decide, by decide +kernel⟩
theorem mcL_42 : MV RL 42 yX6_rule cX6_rule (some .int) 2 1 := ⟨⟨lg_mem 955 (by decide +kernel) rfl, lg_mem 956 (by decide +kernel) rfl, lg_mem 957 (by decide +kernel) rfl, lg_mem 61 (by decide +kernel) rfl, lg_mem 958 (by decide +kernel) rfl⟩, by decide, by decide, by decide +kernel⟩
theorem mcL_47 : MV RL 47 yX6_umpire cX6_umpire (some .int) 5 4 := ⟨⟨lg_mem 959 (by decide +kernel) rfl, lg_mem 960 (by decide +kernel) rfl, lg_mem 961 (by decide +kernel) rfl, lg_mem 61 (by decide +kernel) rfl, lg_mem 962 (by decide +kernel) rfl⟩, by decide, by decide, by decide +kernel⟩
theorem mcX6_187 : MS RX6 187 yX6_isIn cX6_isIn (some .boolean) 3 3 := ⟨⟨lg_mem 963 (by decide +kernel) rfl, lg_mem 964 (by decide +kernel) rfl, lg_mem 61 (by decide +kernel) rfl, lg_mem 965 (by decide +kernel) rfl⟩, by decide, by decide, by decide +kernel⟩
theorem mcL_52 : MV RL 52 yX6_away cX6_away (some .boolean) 4 3 := ⟨⟨lg_mem 966 (by decide +kernel) rfl, lg_mem 967 (by decide +kernel) rfl, lg_mem 968 (by decide +kernel) rfl, lg_mem 61 (by decide +kernel) rfl, lg_mem 969 (by decide +kernel) rfl⟩, by decide, by decide, by decide +kernel⟩
theorem mcX6_191 : MV RX6 191 yX6_isUmpire cX6_isUmpire (some .boolean) 2 1 := ⟨⟨lg_mem 970 (by decide +kernel) rfl, lg_mem 972 (by decide +kernel) rfl, lg_mem 37 (by decide +kernel) rfl, lg_mem 61 (by decide +kernel) rfl, lg_mem 973 (by decide +kernel) rfl⟩, by decide, by decide, by decide +kernel⟩
theorem mcX6_197 : MV RX6 197 yX6_seatOf cX6_seatOf (some .int) 3 1 := ⟨⟨lg_mem 974 (by decide +kernel) rfl, lg_mem 976 (by decide +kernel) rfl, lg_mem 38 (by decide +kernel) rfl, lg_mem 61 (by decide +kernel) rfl, lg_mem 977 (by decide +kernel) rfl⟩, by decide, by decide, by decide +kernel⟩
theorem mcL_56 : MV RL 56 yX6_game cX6_game (some .int) 7 5 := ⟨⟨lg_mem 978 (by decide +kernel) rfl, lg_mem 979 (by decide +kernel) rfl, lg_mem 980 (by decide +kernel) rfl, lg_mem 61 (by decide +kernel) rfl, lg_mem 981 (by decide +kernel) rfl⟩, by decide, by decide, by decide +kernel⟩
theorem mcL_61 : MV RL 61 yX6_may cX6_may (some .boolean) 3 2 := ⟨⟨lg_mem 982 (by decide +kernel) rfl, lg_mem 983 (by decide +kernel) rfl, lg_mem 984 (by decide +kernel) rfl, lg_mem 61 (by decide +kernel) rfl, lg_mem 985 (by decide +kernel) rfl⟩, by decide, by decide, by decide +kernel⟩
theorem mcX6_207 : MV RX6 207 yX6_isSeat cX6_isSeat (some .boolean) 2 1 := ⟨⟨lg_mem 986 (by decide +kernel) rfl, lg_mem 988 (by decide +kernel) rfl, lg_mem 39 (by decide +kernel) rfl, lg_mem 61 (by decide +kernel) rfl, lg_mem 989 (by decide +kernel) rfl⟩, by decide, by decide, by decide +kernel⟩
theorem mcX6_210 : MV RX6 210 yX6_mayHave cX6_mayHave (some .boolean) 6 2 := ⟨⟨lg_mem 990 (by decide +kernel) rfl, lg_mem 992 (by decide +kernel) rfl, lg_mem 40 (by decide +kernel) rfl, lg_mem 61 (by decide +kernel) rfl, lg_mem 993 (by decide +kernel) rfl⟩, by decide, by decide, by decide +kernel⟩
theorem mcX6_204 : MV RX6 204 yX6_miles cX6_miles (some .int) 3 2 := ⟨⟨lg_mem 994 (by decide +kernel) rfl, lg_mem 996 (by decide +kernel) rfl, lg_mem 41 (by decide +kernel) rfl, lg_mem 61 (by decide +kernel) rfl, lg_mem 997 (by decide +kernel) rfl⟩, by decide, by decide, by decide +kernel⟩
theorem mcX6_200 : MS RX6 200 yX6_less cX6_less (some .int) 2 2 := ⟨⟨lg_mem 998 (by decide +kernel) rfl, lg_mem 999 (by decide +kernel) rfl, lg_mem 61 (by decide +kernel) rfl, lg_mem 1000 (by decide +kernel) rfl⟩, by decide, by decide, by decide +kernel⟩
theorem mcL_65 : MV RL 65 yX6_cost cX6_cost (some .int) 3 2 := ⟨⟨lg_mem 1001 (by decide +kernel) rfl, lg_mem 1002 (by decide +kernel) rfl, lg_mem 1003 (by decide +kernel) rfl, lg_mem 61 (by decide +kernel) rfl, lg_mem 1004 (by decide +kernel) rfl⟩, by decide, by decide, by decide +kernel⟩
theorem mcX6_214 : MV RX6 214 yX6_costOf cX6_costOf (some .int) 3 2 := ⟨⟨lg_mem 1005 (by decide +kernel) rfl, lg_mem 1007 (by decide +kernel) rfl, lg_mem 42 (by decide +kernel) rfl, lg_mem 61 (by decide +kernel) rfl, lg_mem 1008 (by decide +kernel) rfl⟩, by decide, by decide, by decide +kernel⟩
theorem mcL_69 : MV RL 69 yX6_send cX6_send (some .int) 1 0 := ⟨⟨lg_mem 1009 (by decide +kernel) rfl, lg_mem 1010 (by decide +kernel) rfl, lg_mem 1011 (by decide +kernel) rfl, lg_mem 61 (by decide +kernel) rfl, lg_mem 1012 (by decide +kernel) rfl⟩, by decide, by decide, by decide +kernel⟩
theorem mcX6_253 : MV RX6 253 yX6_settle cX6_settle none 4 0 := ⟨⟨lg_mem 1013 (by decide +kernel) rfl, lg_mem 1015 (by decide +kernel) rfl, lg_mem 43 (by decide +kernel) rfl, lg_mem 61 (by decide +kernel) rfl, lg_mem 1016 (by decide +kernel) rfl⟩, by decide, by decide, by decide +kernel⟩
theorem mcX6_222 : MV RX6 222 yX6_seek cX6_seek none 7 1 := ⟨⟨lg_mem 1018 (by decide +kernel) rfl, lg_mem 1020 (by decide +kernel) rfl, lg_mem 44 (by decide +kernel) rfl, lg_mem 61 (by decide +kernel) rfl, lg_mem 1021 (by decide +kernel) rfl⟩, by decide, by decide, by decide +kernel⟩
theorem mcX6_219 : MV RX6 219 yX6_pays cX6_pays (some .int) 2 1 := ⟨⟨lg_mem 1023 (by decide +kernel) rfl, lg_mem 1025 (by decide +kernel) rfl, lg_mem 45 (by decide +kernel) rfl, lg_mem 61 (by decide +kernel) rfl, lg_mem 1026 (by decide +kernel) rfl⟩, by decide, by decide, by decide +kernel⟩
theorem mcX6_225 : MV RX6 225 yX6_change cX6_change none 5 1 := ⟨⟨lg_mem 1027 (by decide +kernel) rfl, lg_mem 1029 (by decide +kernel) rfl, lg_mem 46 (by decide +kernel) rfl, lg_mem 61 (by decide +kernel) rfl, lg_mem 1030 (by decide +kernel) rfl⟩, by decide, by decide, by decide +kernel⟩
theorem mcX6_228 : MV RX6 228 yX6_lessen cX6_lessen none 7 2 := ⟨⟨lg_mem 1031 (by decide +kernel) rfl, lg_mem 1033 (by decide +kernel) rfl, lg_mem 47 (by decide +kernel) rfl, lg_mem 61 (by decide +kernel) rfl, lg_mem 1034 (by decide +kernel) rfl⟩, by decide, by decide, by decide +kernel⟩
theorem mcX6_236 : MV RX6 236 yX6_placeOf cX6_placeOf (some .int) 2 1 := ⟨⟨lg_mem 1035 (by decide +kernel) rfl, lg_mem 1037 (by decide +kernel) rfl, lg_mem 48 (by decide +kernel) rfl, lg_mem 61 (by decide +kernel) rfl, lg_mem 1038 (by decide +kernel) rfl⟩, by decide, by decide, by decide +kernel⟩
theorem mcX6_246 : MV RX6 246 yX6_ways cX6_ways none 5 3 := ⟨⟨lg_mem 1039 (by decide +kernel) rfl, lg_mem 1041 (by decide +kernel) rfl, lg_mem 49 (by decide +kernel) rfl, lg_mem 61 (by decide +kernel) rfl, lg_mem 1042 (by decide +kernel) rfl⟩, by decide, by decide, by decide +kernel⟩
theorem mcX6_239 : MV RX6 239 yX6_moves cX6_moves none 5 1 := ⟨⟨lg_mem 1043 (by decide +kernel) rfl, lg_mem 1045 (by decide +kernel) rfl, lg_mem 50 (by decide +kernel) rfl, lg_mem 61 (by decide +kernel) rfl, lg_mem 1046 (by decide +kernel) rfl⟩, by decide, by decide, by decide +kernel⟩
theorem mcX6_242 : MV RX6 242 yX6_offer cX6_offer none 5 4 := ⟨⟨lg_mem 1047 (by decide +kernel) rfl, lg_mem 1049 (by decide +kernel) rfl, lg_mem 51 (by decide +kernel) rfl, lg_mem 61 (by decide +kernel) rfl, lg_mem 1050 (by decide +kernel) rfl⟩, by decide, by decide, by decide +kernel⟩
theorem mcX6_256 : MV RX6 256 yX6_filled cX6_filled (some .int) 3 0 := ⟨⟨lg_mem 1051 (by decide +kernel) rfl, lg_mem 1053 (by decide +kernel) rfl, lg_mem 52 (by decide +kernel) rfl, lg_mem 61 (by decide +kernel) rfl, lg_mem 1054 (by decide +kernel) rfl⟩, by decide, by decide, by decide +kernel⟩
theorem mcL_73 : MV RL 73 yX6_off cX6_off (some .int) 10 1 := ⟨⟨lg_mem 1055 (by decide +kernel) rfl, lg_mem 1056 (by decide +kernel) rfl, lg_mem 1057 (by decide +kernel) rfl, lg_mem 61 (by decide +kernel) rfl, lg_mem 1058 (by decide +kernel) rfl⟩, by decide, by decide, by decide +kernel⟩
theorem mcX6_259 : MV RX6 259 yX6_spare cX6_spare (some .int) 4 1 := ⟨⟨lg_mem 1059 (by decide +kernel) rfl, lg_mem 1061 (by decide +kernel) rfl, lg_mem 53 (by decide +kernel) rfl, lg_mem 61 (by decide +kernel) rfl, lg_mem 1062 (by decide +kernel) rfl⟩, by decide, by decide, by decide +kernel⟩
theorem mcL_77 : MV RL 77 yX6_seat cX6_seat (some .int) 2 1 := ⟨⟨lg_mem 1063 (by decide +kernel) rfl, lg_mem 1064 (by decide +kernel) rfl, lg_mem 1065 (by decide +kernel) rfl, lg_mem 61 (by decide +kernel) rfl, lg_mem 1066 (by decide +kernel) rfl⟩, by decide, by decide, by decide +kernel⟩
theorem mcL_82 : MV RL 82 yX6_mark cX6_mark (some .boolean) 7 4 := ⟨⟨lg_mem 1067 (by decide +kernel) rfl, lg_mem 1068 (by decide +kernel) rfl, lg_mem 1069 (by decide +kernel) rfl, lg_mem 61 (by decide +kernel) rfl, lg_mem 1070 (by decide +kernel) rfl⟩, by decide, by decide, by decide +kernel⟩
theorem mcL_86 : MV RL 86 yX6_next cX6_next (some .int) 3 0 := ⟨⟨lg_mem 1071 (by decide +kernel) rfl, lg_mem 1072 (by decide +kernel) rfl, lg_mem 1073 (by decide +kernel) rfl, lg_mem 61 (by decide +kernel) rfl, lg_mem 1074 (by decide +kernel) rfl⟩, by decide, by decide, by decide +kernel⟩
theorem mcL_92 : MV RL 92 yX6_about cX6_about (some .int) 3 2 := ⟨⟨lg_mem 1075 (by decide +kernel) rfl, lg_mem 1076 (by decide +kernel) rfl, lg_mem 1077 (by decide +kernel) rfl, lg_mem 61 (by decide +kernel) rfl, lg_mem 1078 (by decide +kernel) rfl⟩, by decide, by decide, by decide +kernel⟩
theorem mcX6_262 : MV RX6 262 yX6_refuse cX6_refuse (some .int) 1 0 := ⟨⟨lg_mem 1079 (by decide +kernel) rfl, lg_mem 1081 (by decide +kernel) rfl, lg_mem 54 (by decide +kernel) rfl, lg_mem 61 (by decide +kernel) rfl, lg_mem 1082 (by decide +kernel) rfl⟩, by decide, by decide, by decide +kernel⟩
theorem mcL_99 : MV RL 99 yX6_stood cX6_stood (some .int) 3 2 := ⟨⟨lg_mem 1083 (by decide +kernel) rfl, lg_mem 1084 (by decide +kernel) rfl, lg_mem 1085 (by decide +kernel) rfl, lg_mem 61 (by decide +kernel) rfl, lg_mem 1086 (by decide +kernel) rfl⟩, by decide, by decide, by decide +kernel⟩
theorem mcL_103 : MV RL 103 yX6_together cX6_together (some .int) 3 0 := ⟨⟨lg_mem 1087 (by decide +kernel) rfl, lg_mem 1088 (by decide +kernel) rfl, lg_mem 1089 (by decide +kernel) rfl, lg_mem 61 (by decide +kernel) rfl, lg_mem 1090 (by decide +kernel) rfl⟩, by decide, by decide, by decide +kernel⟩
theorem mcL_107 : MV RL 107 yX6_count cX6_count (some .int) 2 1 := ⟨⟨lg_mem 1091 (by decide +kernel) rfl, lg_mem 1092 (by decide +kernel) rfl, lg_mem 1093 (by decide +kernel) rfl, lg_mem 61 (by decide +kernel) rfl, lg_mem 1094 (by decide +kernel) rfl⟩, by decide, by decide, by decide +kernel⟩
end
