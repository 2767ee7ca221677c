section
-- ===== PART A: goes FIRST, ahead of the names: the tables' words, and 'selects' of the private methods out of them =====
/-- a private method of a class that the tables say can be made, by its rows of tables_1 -/
def lw_okq (q : MethodName × Nat) : Prop := (q.1.cls ≠ "java/lang/invoke/MethodHandle" ∧ q.1.cls ≠ "java/lang/invoke/VarHandle") ∧ Cond.instantiable q.1.cls q.2 ∈ tables_1 ∧ Cond.privateMethod q.1 ∈ tables_1 ∧ Cond.instanceMethod q.1 ∈ tables_1
theorem lw_p0 : lw_okq (⟨"WicketBoard$RuleBook", "begin", "()V"⟩, 7) := ⟨⟨by decide +kernel, by decide +kernel⟩, List.mem_of_getElem? (i := 42) (by decide +kernel), List.mem_of_getElem? (i := 205) (by decide +kernel), List.mem_of_getElem? (i := 206) (by decide +kernel)⟩
theorem lw_p1 : lw_okq (⟨"WicketBoard$RuleBook", "take", "(LWicketBoard$Tape;II)V"⟩, 7) := ⟨⟨by decide +kernel, by decide +kernel⟩, List.mem_of_getElem? (i := 42) (by decide +kernel), List.mem_of_getElem? (i := 238) (by decide +kernel), List.mem_of_getElem? (i := 239) (by decide +kernel)⟩
theorem lw_p2 : lw_okq (⟨"WicketBoard$RuleBook", "takeWord", "(LWicketBoard$Tape;II)V"⟩, 7) := ⟨⟨by decide +kernel, by decide +kernel⟩, List.mem_of_getElem? (i := 42) (by decide +kernel), List.mem_of_getElem? (i := 242) (by decide +kernel), List.mem_of_getElem? (i := 243) (by decide +kernel)⟩
theorem lw_p3 : lw_okq (⟨"WicketBoard$RuleBook", "fail", "(II)V"⟩, 7) := ⟨⟨by decide +kernel, by decide +kernel⟩, List.mem_of_getElem? (i := 42) (by decide +kernel), List.mem_of_getElem? (i := 313) (by decide +kernel), List.mem_of_getElem? (i := 314) (by decide +kernel)⟩
theorem lw_p4 : lw_okq (⟨"WicketBoard$RuleBook", "takeNumber", "(LWicketBoard$Tape;II)V"⟩, 7) := ⟨⟨by decide +kernel, by decide +kernel⟩, List.mem_of_getElem? (i := 42) (by decide +kernel), List.mem_of_getElem? (i := 317) (by decide +kernel), List.mem_of_getElem? (i := 318) (by decide +kernel)⟩
theorem lw_p5 : lw_okq (⟨"WicketBoard", "umpireAt", "(I)LWicketBoard$Umpire;"⟩, 10) := ⟨⟨by decide +kernel, by decide +kernel⟩, List.mem_of_getElem? (i := 20) (by decide +kernel), List.mem_of_getElem? (i := 412) (by decide +kernel), List.mem_of_getElem? (i := 413) (by decide +kernel)⟩
theorem lw_p6 : lw_okq (⟨"WicketBoard", "fits", "(LWicketBoard$Umpire;I)Z"⟩, 10) := ⟨⟨by decide +kernel, by decide +kernel⟩, List.mem_of_getElem? (i := 20) (by decide +kernel), List.mem_of_getElem? (i := 435) (by decide +kernel), List.mem_of_getElem? (i := 436) (by decide +kernel)⟩
theorem lw_p7 : lw_okq (⟨"WicketBoard", "gameOf", "(I)LWicketBoard$Game;"⟩, 10) := ⟨⟨by decide +kernel, by decide +kernel⟩, List.mem_of_getElem? (i := 20) (by decide +kernel), List.mem_of_getElem? (i := 439) (by decide +kernel), List.mem_of_getElem? (i := 440) (by decide +kernel)⟩
theorem lw_p8 : lw_okq (⟨"WicketBoard", "isSeat", "(I)Z"⟩, 10) := ⟨⟨by decide +kernel, by decide +kernel⟩, List.mem_of_getElem? (i := 20) (by decide +kernel), List.mem_of_getElem? (i := 443) (by decide +kernel), List.mem_of_getElem? (i := 444) (by decide +kernel)⟩
theorem lw_p9 : lw_okq (⟨"WicketBoard", "price", "(LWicketBoard$Umpire;I)I"⟩, 10) := ⟨⟨by decide +kernel, by decide +kernel⟩, List.mem_of_getElem? (i := 20) (by decide +kernel), List.mem_of_getElem? (i := 474) (by decide +kernel), List.mem_of_getElem? (i := 475) (by decide +kernel)⟩
theorem lw_p10 : lw_okq (⟨"WicketBoard$Sender", "pair", "(II)V"⟩, 12) := ⟨⟨by decide +kernel, by decide +kernel⟩, List.mem_of_getElem? (i := 97) (by decide +kernel), List.mem_of_getElem? (i := 489) (by decide +kernel), List.mem_of_getElem? (i := 490) (by decide +kernel)⟩
theorem lw_p11 : lw_okq (⟨"WicketBoard", "clearSeat", "(I)V"⟩, 10) := ⟨⟨by decide +kernel, by decide +kernel⟩, List.mem_of_getElem? (i := 20) (by decide +kernel), List.mem_of_getElem? (i := 493) (by decide +kernel), List.mem_of_getElem? (i := 494) (by decide +kernel)⟩
theorem lw_p12 : lw_okq (⟨"WicketBoard", "holderOf", "(I)LWicketBoard$Umpire;"⟩, 10) := ⟨⟨by decide +kernel, by decide +kernel⟩, List.mem_of_getElem? (i := 20) (by decide +kernel), List.mem_of_getElem? (i := 497) (by decide +kernel), List.mem_of_getElem? (i := 498) (by decide +kernel)⟩
theorem lw_p13 : lw_okq (⟨"WicketBoard$Sender", "addSeat", "(I)V"⟩, 12) := ⟨⟨by decide +kernel, by decide +kernel⟩, List.mem_of_getElem? (i := 97) (by decide +kernel), List.mem_of_getElem? (i := 509) (by decide +kernel), List.mem_of_getElem? (i := 510) (by decide +kernel)⟩
theorem lw_p14 : lw_okq (⟨"WicketBoard$Sender", "forgetColumns", "()V"⟩, 12) := ⟨⟨by decide +kernel, by decide +kernel⟩, List.mem_of_getElem? (i := 97) (by decide +kernel), List.mem_of_getElem? (i := 513) (by decide +kernel), List.mem_of_getElem? (i := 514) (by decide +kernel)⟩
theorem lw_p15 : lw_okq (⟨"WicketBoard$Sender", "reach", "(II)V"⟩, 12) := ⟨⟨by decide +kernel, by decide +kernel⟩, List.mem_of_getElem? (i := 97) (by decide +kernel), List.mem_of_getElem? (i := 518) (by decide +kernel), List.mem_of_getElem? (i := 519) (by decide +kernel)⟩
def lw_privs_1 : List (MethodName × Nat) := [(⟨"WicketBoard$RuleBook", "begin", "()V"⟩, 7), (⟨"WicketBoard$RuleBook", "take", "(LWicketBoard$Tape;II)V"⟩, 7), (⟨"WicketBoard$RuleBook", "takeWord", "(LWicketBoard$Tape;II)V"⟩, 7), (⟨"WicketBoard$RuleBook", "fail", "(II)V"⟩, 7), (⟨"WicketBoard$RuleBook", "takeNumber", "(LWicketBoard$Tape;II)V"⟩, 7), (⟨"WicketBoard", "umpireAt", "(I)LWicketBoard$Umpire;"⟩, 10), (⟨"WicketBoard", "fits", "(LWicketBoard$Umpire;I)Z"⟩, 10), (⟨"WicketBoard", "gameOf", "(I)LWicketBoard$Game;"⟩, 10), (⟨"WicketBoard", "isSeat", "(I)Z"⟩, 10), (⟨"WicketBoard", "price", "(LWicketBoard$Umpire;I)I"⟩, 10), (⟨"WicketBoard$Sender", "pair", "(II)V"⟩, 12), (⟨"WicketBoard", "clearSeat", "(I)V"⟩, 10), (⟨"WicketBoard", "holderOf", "(I)LWicketBoard$Umpire;"⟩, 10), (⟨"WicketBoard$Sender", "addSeat", "(I)V"⟩, 12), (⟨"WicketBoard$Sender", "forgetColumns", "()V"⟩, 12), (⟨"WicketBoard$Sender", "reach", "(II)V"⟩, 12)]
theorem lw_r1 : ∀ q ∈ lw_privs_1, lw_okq q := List.forall_mem_cons.mpr ⟨lw_p0, List.forall_mem_cons.mpr ⟨lw_p1, List.forall_mem_cons.mpr ⟨lw_p2, List.forall_mem_cons.mpr ⟨lw_p3, List.forall_mem_cons.mpr ⟨lw_p4, List.forall_mem_cons.mpr ⟨lw_p5, List.forall_mem_cons.mpr ⟨lw_p6, List.forall_mem_cons.mpr ⟨lw_p7, List.forall_mem_cons.mpr ⟨lw_p8, List.forall_mem_cons.mpr ⟨lw_p9, List.forall_mem_cons.mpr ⟨lw_p10, List.forall_mem_cons.mpr ⟨lw_p11, List.forall_mem_cons.mpr ⟨lw_p12, List.forall_mem_cons.mpr ⟨lw_p13, List.forall_mem_cons.mpr ⟨lw_p14, List.forall_mem_cons.mpr ⟨lw_p15, fun _ h => absurd h List.not_mem_nil⟩⟩⟩⟩⟩⟩⟩⟩⟩⟩⟩⟩⟩⟩⟩⟩
theorem lw_p16 : lw_okq (⟨"WicketBoard$Sender", "gap", "(II)I"⟩, 12) := ⟨⟨by decide +kernel, by decide +kernel⟩, List.mem_of_getElem? (i := 97) (by decide +kernel), List.mem_of_getElem? (i := 522) (by decide +kernel), List.mem_of_getElem? (i := 523) (by decide +kernel)⟩
theorem lw_p17 : lw_okq (⟨"WicketBoard$Sender", "nearest", "()I"⟩, 12) := ⟨⟨by decide +kernel, by decide +kernel⟩, List.mem_of_getElem? (i := 97) (by decide +kernel), List.mem_of_getElem? (i := 527) (by decide +kernel), List.mem_of_getElem? (i := 528) (by decide +kernel)⟩
theorem lw_p18 : lw_okq (⟨"WicketBoard$Sender", "shiftParts", "(II)V"⟩, 12) := ⟨⟨by decide +kernel, by decide +kernel⟩, List.mem_of_getElem? (i := 97) (by decide +kernel), List.mem_of_getElem? (i := 531) (by decide +kernel), List.mem_of_getElem? (i := 532) (by decide +kernel)⟩
theorem lw_p19 : lw_okq (⟨"WicketBoard$Sender", "moveAlong", "(II)V"⟩, 12) := ⟨⟨by decide +kernel, by decide +kernel⟩, List.mem_of_getElem? (i := 97) (by decide +kernel), List.mem_of_getElem? (i := 535) (by decide +kernel), List.mem_of_getElem? (i := 536) (by decide +kernel)⟩
theorem lw_p20 : lw_okq (⟨"WicketBoard$Sender", "takeFirst", "(I)V"⟩, 12) := ⟨⟨by decide +kernel, by decide +kernel⟩, List.mem_of_getElem? (i := 97) (by decide +kernel), List.mem_of_getElem? (i := 539) (by decide +kernel), List.mem_of_getElem? (i := 540) (by decide +kernel)⟩
theorem lw_p21 : lw_okq (⟨"WicketBoard$Sender", "firstTight", "(IIZ)I"⟩, 12) := ⟨⟨by decide +kernel, by decide +kernel⟩, List.mem_of_getElem? (i := 97) (by decide +kernel), List.mem_of_getElem? (i := 543) (by decide +kernel), List.mem_of_getElem? (i := 544) (by decide +kernel)⟩
theorem lw_p22 : lw_okq (⟨"WicketBoard$Sender", "findMovable", "(II)V"⟩, 12) := ⟨⟨by decide +kernel, by decide +kernel⟩, List.mem_of_getElem? (i := 97) (by decide +kernel), List.mem_of_getElem? (i := 547) (by decide +kernel), List.mem_of_getElem? (i := 548) (by decide +kernel)⟩
theorem lw_p23 : lw_okq (⟨"WicketBoard", "fillSeat", "(II)V"⟩, 10) := ⟨⟨by decide +kernel, by decide +kernel⟩, List.mem_of_getElem? (i := 20) (by decide +kernel), List.mem_of_getElem? (i := 555) (by decide +kernel), List.mem_of_getElem? (i := 556) (by decide +kernel)⟩
theorem lw_p24 : lw_okq (⟨"WicketBoard", "filledSeats", "()I"⟩, 10) := ⟨⟨by decide +kernel, by decide +kernel⟩, List.mem_of_getElem? (i := 20) (by decide +kernel), List.mem_of_getElem? (i := 559) (by decide +kernel), List.mem_of_getElem? (i := 560) (by decide +kernel)⟩
theorem lw_p25 : lw_okq (⟨"WicketBoard", "cheapestFree", "(I)I"⟩, 10) := ⟨⟨by decide +kernel, by decide +kernel⟩, List.mem_of_getElem? (i := 20) (by decide +kernel), List.mem_of_getElem? (i := 567) (by decide +kernel), List.mem_of_getElem? (i := 568) (by decide +kernel)⟩
theorem lw_p26 : lw_okq (⟨"WicketBoard", "fillByMove", "(I)Z"⟩, 10) := ⟨⟨by decide +kernel, by decide +kernel⟩, List.mem_of_getElem? (i := 20) (by decide +kernel), List.mem_of_getElem? (i := 571) (by decide +kernel), List.mem_of_getElem? (i := 572) (by decide +kernel)⟩
theorem lw_p27 : lw_okq (⟨"WicketBoard", "endSeat", "(I)V"⟩, 10) := ⟨⟨by decide +kernel, by decide +kernel⟩, List.mem_of_getElem? (i := 20) (by decide +kernel), List.mem_of_getElem? (i := 591) (by decide +kernel), List.mem_of_getElem? (i := 592) (by decide +kernel)⟩
theorem lw_p28 : lw_okq (⟨"WicketBoard", "regrade", "(LWicketBoard$Umpire;)V"⟩, 10) := ⟨⟨by decide +kernel, by decide +kernel⟩, List.mem_of_getElem? (i := 20) (by decide +kernel), List.mem_of_getElem? (i := 599) (by decide +kernel), List.mem_of_getElem? (i := 600) (by decide +kernel)⟩
theorem lw_p29 : lw_okq (⟨"java/lang/Throwable", "fillInStackTrace", "(I)Ljava/lang/Throwable;"⟩, 6) := ⟨⟨by decide +kernel, by decide +kernel⟩, List.mem_of_getElem? (i := 665) (by decide +kernel), List.mem_of_getElem? (i := 663) (by decide +kernel), List.mem_of_getElem? (i := 664) (by decide +kernel)⟩
theorem lw_p30 : lw_okq (⟨"WicketBoardModel", "come", "(I)V"⟩, 46) := ⟨⟨by decide +kernel, by decide +kernel⟩, List.mem_of_getElem? (i := 695) (by decide +kernel), List.mem_of_getElem? (i := 848) (by decide +kernel), List.mem_of_getElem? (i := 849) (by decide +kernel)⟩
theorem lw_p31 : lw_okq (⟨"WicketBoardModel", "go", "()V"⟩, 46) := ⟨⟨by decide +kernel, by decide +kernel⟩, List.mem_of_getElem? (i := 695) (by decide +kernel), List.mem_of_getElem? (i := 860) (by decide +kernel), List.mem_of_getElem? (i := 861) (by decide +kernel)⟩
def lw_privs_2 : List (MethodName × Nat) := [(⟨"WicketBoard$Sender", "gap", "(II)I"⟩, 12), (⟨"WicketBoard$Sender", "nearest", "()I"⟩, 12), (⟨"WicketBoard$Sender", "shiftParts", "(II)V"⟩, 12), (⟨"WicketBoard$Sender", "moveAlong", "(II)V"⟩, 12), (⟨"WicketBoard$Sender", "takeFirst", "(I)V"⟩, 12), (⟨"WicketBoard$Sender", "firstTight", "(IIZ)I"⟩, 12), (⟨"WicketBoard$Sender", "findMovable", "(II)V"⟩, 12), (⟨"WicketBoard", "fillSeat", "(II)V"⟩, 10), (⟨"WicketBoard", "filledSeats", "()I"⟩, 10), (⟨"WicketBoard", "cheapestFree", "(I)I"⟩, 10), (⟨"WicketBoard", "fillByMove", "(I)Z"⟩, 10), (⟨"WicketBoard", "endSeat", "(I)V"⟩, 10), (⟨"WicketBoard", "regrade", "(LWicketBoard$Umpire;)V"⟩, 10), (⟨"java/lang/Throwable", "fillInStackTrace", "(I)Ljava/lang/Throwable;"⟩, 6), (⟨"WicketBoardModel", "come", "(I)V"⟩, 46), (⟨"WicketBoardModel", "go", "()V"⟩, 46)]
theorem lw_r2 : ∀ q ∈ lw_privs_2, lw_okq q := List.forall_mem_cons.mpr ⟨lw_p16, List.forall_mem_cons.mpr ⟨lw_p17, List.forall_mem_cons.mpr ⟨lw_p18, List.forall_mem_cons.mpr ⟨lw_p19, List.forall_mem_cons.mpr ⟨lw_p20, List.forall_mem_cons.mpr ⟨lw_p21, List.forall_mem_cons.mpr ⟨lw_p22, List.forall_mem_cons.mpr ⟨lw_p23, List.forall_mem_cons.mpr ⟨lw_p24, List.forall_mem_cons.mpr ⟨lw_p25, List.forall_mem_cons.mpr ⟨lw_p26, List.forall_mem_cons.mpr ⟨lw_p27, List.forall_mem_cons.mpr ⟨lw_p28, List.forall_mem_cons.mpr ⟨lw_p29, List.forall_mem_cons.mpr ⟨lw_p30, List.forall_mem_cons.mpr ⟨lw_p31, fun _ h => absurd h List.not_mem_nil⟩⟩⟩⟩⟩⟩⟩⟩⟩⟩⟩⟩⟩⟩⟩⟩
theorem lw_p32 : lw_okq (⟨"WicketBoardModel", "byteAt", "(I)I"⟩, 46) := ⟨⟨by decide +kernel, by decide +kernel⟩, List.mem_of_getElem? (i := 695) (by decide +kernel), List.mem_of_getElem? (i := 870) (by decide +kernel), List.mem_of_getElem? (i := 871) (by decide +kernel)⟩
theorem lw_p33 : lw_okq (⟨"WicketBoardModel", "readRule", "()Z"⟩, 46) := ⟨⟨by decide +kernel, by decide +kernel⟩, List.mem_of_getElem? (i := 695) (by decide +kernel), List.mem_of_getElem? (i := 877) (by decide +kernel), List.mem_of_getElem? (i := 878) (by decide +kernel)⟩
theorem lw_p34 : lw_okq (⟨"WicketBoardModel", "ruleAtHand", "()I"⟩, 46) := ⟨⟨by decide +kernel, by decide +kernel⟩, List.mem_of_getElem? (i := 695) (by decide +kernel), List.mem_of_getElem? (i := 881) (by decide +kernel), List.mem_of_getElem? (i := 882) (by decide +kernel)⟩
theorem lw_p35 : lw_okq (⟨"WicketBoardModel", "isKey", "(J)Z"⟩, 46) := ⟨⟨by decide +kernel, by decide +kernel⟩, List.mem_of_getElem? (i := 695) (by decide +kernel), List.mem_of_getElem? (i := 888) (by decide +kernel), List.mem_of_getElem? (i := 889) (by decide +kernel)⟩
theorem lw_p36 : lw_okq (⟨"WicketBoardModel", "bad", "(I)Z"⟩, 46) := ⟨⟨by decide +kernel, by decide +kernel⟩, List.mem_of_getElem? (i := 695) (by decide +kernel), List.mem_of_getElem? (i := 893) (by decide +kernel), List.mem_of_getElem? (i := 894) (by decide +kernel)⟩
theorem lw_p37 : lw_okq (⟨"WicketBoardModel", "isUmpire", "(I)Z"⟩, 46) := ⟨⟨by decide +kernel, by decide +kernel⟩, List.mem_of_getElem? (i := 695) (by decide +kernel), List.mem_of_getElem? (i := 916) (by decide +kernel), List.mem_of_getElem? (i := 917) (by decide +kernel)⟩
theorem lw_p38 : lw_okq (⟨"WicketBoardModel", "seatOf", "(I)I"⟩, 46) := ⟨⟨by decide +kernel, by decide +kernel⟩, List.mem_of_getElem? (i := 695) (by decide +kernel), List.mem_of_getElem? (i := 920) (by decide +kernel), List.mem_of_getElem? (i := 921) (by decide +kernel)⟩
theorem lw_p39 : lw_okq (⟨"WicketBoardModel", "isSeat", "(I)Z"⟩, 46) := ⟨⟨by decide +kernel, by decide +kernel⟩, List.mem_of_getElem? (i := 695) (by decide +kernel), List.mem_of_getElem? (i := 932) (by decide +kernel), List.mem_of_getElem? (i := 933) (by decide +kernel)⟩
theorem lw_p40 : lw_okq (⟨"WicketBoardModel", "mayHave", "(II)Z"⟩, 46) := ⟨⟨by decide +kernel, by decide +kernel⟩, List.mem_of_getElem? (i := 695) (by decide +kernel), List.mem_of_getElem? (i := 936) (by decide +kernel), List.mem_of_getElem? (i := 937) (by decide +kernel)⟩
theorem lw_p41 : lw_okq (⟨"WicketBoardModel", "miles", "(II)I"⟩, 46) := ⟨⟨by decide +kernel, by decide +kernel⟩, List.mem_of_getElem? (i := 695) (by decide +kernel), List.mem_of_getElem? (i := 940) (by decide +kernel), List.mem_of_getElem? (i := 941) (by decide +kernel)⟩
theorem lw_p42 : lw_okq (⟨"WicketBoardModel", "costOf", "(II)I"⟩, 46) := ⟨⟨by decide +kernel, by decide +kernel⟩, List.mem_of_getElem? (i := 695) (by decide +kernel), List.mem_of_getElem? (i := 951) (by decide +kernel), List.mem_of_getElem? (i := 952) (by decide +kernel)⟩
theorem lw_p43 : lw_okq (⟨"WicketBoardModel", "settle", "()V"⟩, 46) := ⟨⟨by decide +kernel, by decide +kernel⟩, List.mem_of_getElem? (i := 695) (by decide +kernel), List.mem_of_getElem? (i := 959) (by decide +kernel), List.mem_of_getElem? (i := 960) (by decide +kernel)⟩
theorem lw_p44 : lw_okq (⟨"WicketBoardModel", "seek", "(I)V"⟩, 46) := ⟨⟨by decide +kernel, by decide +kernel⟩, List.mem_of_getElem? (i := 695) (by decide +kernel), List.mem_of_getElem? (i := 964) (by decide +kernel), List.mem_of_getElem? (i := 965) (by decide +kernel)⟩
theorem lw_p45 : lw_okq (⟨"WicketBoardModel", "pays", "(I)I"⟩, 46) := ⟨⟨by decide +kernel, by decide +kernel⟩, List.mem_of_getElem? (i := 695) (by decide +kernel), List.mem_of_getElem? (i := 969) (by decide +kernel), List.mem_of_getElem? (i := 970) (by decide +kernel)⟩
theorem lw_p46 : lw_okq (⟨"WicketBoardModel", "change", "(I)V"⟩, 46) := ⟨⟨by decide +kernel, by decide +kernel⟩, List.mem_of_getElem? (i := 695) (by decide +kernel), List.mem_of_getElem? (i := 973) (by decide +kernel), List.mem_of_getElem? (i := 974) (by decide +kernel)⟩
theorem lw_p47 : lw_okq (⟨"WicketBoardModel", "lessen", "(II)V"⟩, 46) := ⟨⟨by decide +kernel, by decide +kernel⟩, List.mem_of_getElem? (i := 695) (by decide +kernel), List.mem_of_getElem? (i := 977) (by decide +kernel), List.mem_of_getElem? (i := 978) (by decide +kernel)⟩
def lw_privs_3 : List (MethodName × Nat) := [(⟨"WicketBoardModel", "byteAt", "(I)I"⟩, 46), (⟨"WicketBoardModel", "readRule", "()Z"⟩, 46), (⟨"WicketBoardModel", "ruleAtHand", "()I"⟩, 46), (⟨"WicketBoardModel", "isKey", "(J)Z"⟩, 46), (⟨"WicketBoardModel", "bad", "(I)Z"⟩, 46), (⟨"WicketBoardModel", "isUmpire", "(I)Z"⟩, 46), (⟨"WicketBoardModel", "seatOf", "(I)I"⟩, 46), (⟨"WicketBoardModel", "isSeat", "(I)Z"⟩, 46), (⟨"WicketBoardModel", "mayHave", "(II)Z"⟩, 46), (⟨"WicketBoardModel", "miles", "(II)I"⟩, 46), (⟨"WicketBoardModel", "costOf", "(II)I"⟩, 46), (⟨"WicketBoardModel", "settle", "()V"⟩, 46), (⟨"WicketBoardModel", "seek", "(I)V"⟩, 46), (⟨"WicketBoardModel", "pays", "(I)I"⟩, 46), (⟨"WicketBoardModel", "change", "(I)V"⟩, 46), (⟨"WicketBoardModel", "lessen", "(II)V"⟩, 46)]
theorem lw_r3 : ∀ q ∈ lw_privs_3, lw_okq q := List.forall_mem_cons.mpr ⟨lw_p32, List.forall_mem_cons.mpr ⟨lw_p33, List.forall_mem_cons.mpr ⟨lw_p34, List.forall_mem_cons.mpr ⟨lw_p35, List.forall_mem_cons.mpr ⟨lw_p36, List.forall_mem_cons.mpr ⟨lw_p37, List.forall_mem_cons.mpr ⟨lw_p38, List.forall_mem_cons.mpr ⟨lw_p39, List.forall_mem_cons.mpr ⟨lw_p40, List.forall_mem_cons.mpr ⟨lw_p41, List.forall_mem_cons.mpr ⟨lw_p42, List.forall_mem_cons.mpr ⟨lw_p43, List.forall_mem_cons.mpr ⟨lw_p44, List.forall_mem_cons.mpr ⟨lw_p45, List.forall_mem_cons.mpr ⟨lw_p46, List.forall_mem_cons.mpr ⟨lw_p47, fun _ h => absurd h List.not_mem_nil⟩⟩⟩⟩⟩⟩⟩⟩⟩⟩⟩⟩⟩⟩⟩⟩
theorem lw_p48 : lw_okq (⟨"WicketBoardModel", "placeOf", "(I)I"⟩, 46) := ⟨⟨by decide +kernel, by decide +kernel⟩, List.mem_of_getElem? (i := 695) (by decide +kernel), List.mem_of_getElem? (i := 981) (by decide +kernel), List.mem_of_getElem? (i := 982) (by decide +kernel)⟩
theorem lw_p49 : lw_okq (⟨"WicketBoardModel", "ways", "(III)V"⟩, 46) := ⟨⟨by decide +kernel, by decide +kernel⟩, List.mem_of_getElem? (i := 695) (by decide +kernel), List.mem_of_getElem? (i := 985) (by decide +kernel), List.mem_of_getElem? (i := 986) (by decide +kernel)⟩
theorem lw_p50 : lw_okq (⟨"WicketBoardModel", "moves", "(I)V"⟩, 46) := ⟨⟨by decide +kernel, by decide +kernel⟩, List.mem_of_getElem? (i := 695) (by decide +kernel), List.mem_of_getElem? (i := 989) (by decide +kernel), List.mem_of_getElem? (i := 990) (by decide +kernel)⟩
theorem lw_p51 : lw_okq (⟨"WicketBoardModel", "offer", "(IIII)V"⟩, 46) := ⟨⟨by decide +kernel, by decide +kernel⟩, List.mem_of_getElem? (i := 695) (by decide +kernel), List.mem_of_getElem? (i := 993) (by decide +kernel), List.mem_of_getElem? (i := 994) (by decide +kernel)⟩
theorem lw_p52 : lw_okq (⟨"WicketBoardModel", "filled", "()I"⟩, 46) := ⟨⟨by decide +kernel, by decide +kernel⟩, List.mem_of_getElem? (i := 695) (by decide +kernel), List.mem_of_getElem? (i := 997) (by decide +kernel), List.mem_of_getElem? (i := 998) (by decide +kernel)⟩
theorem lw_p53 : lw_okq (⟨"WicketBoardModel", "spare", "(I)I"⟩, 46) := ⟨⟨by decide +kernel, by decide +kernel⟩, List.mem_of_getElem? (i := 695) (by decide +kernel), List.mem_of_getElem? (i := 1005) (by decide +kernel), List.mem_of_getElem? (i := 1006) (by decide +kernel)⟩
theorem lw_p54 : lw_okq (⟨"WicketBoardModel", "refuse", "()I"⟩, 46) := ⟨⟨by decide +kernel, by decide +kernel⟩, List.mem_of_getElem? (i := 695) (by decide +kernel), List.mem_of_getElem? (i := 1025) (by decide +kernel), List.mem_of_getElem? (i := 1026) (by decide +kernel)⟩
def lw_privs_4 : List (MethodName × Nat) := [(⟨"WicketBoardModel", "placeOf", "(I)I"⟩, 46), (⟨"WicketBoardModel", "ways", "(III)V"⟩, 46), (⟨"WicketBoardModel", "moves", "(I)V"⟩, 46), (⟨"WicketBoardModel", "offer", "(IIII)V"⟩, 46), (⟨"WicketBoardModel", "filled", "()I"⟩, 46), (⟨"WicketBoardModel", "spare", "(I)I"⟩, 46), (⟨"WicketBoardModel", "refuse", "()I"⟩, 46)]
theorem lw_r4 : ∀ q ∈ lw_privs_4, lw_okq q := List.forall_mem_cons.mpr ⟨lw_p48, List.forall_mem_cons.mpr ⟨lw_p49, List.forall_mem_cons.mpr ⟨lw_p50, List.forall_mem_cons.mpr ⟨lw_p51, List.forall_mem_cons.mpr ⟨lw_p52, List.forall_mem_cons.mpr ⟨lw_p53, List.forall_mem_cons.mpr ⟨lw_p54, fun _ h => absurd h List.not_mem_nil⟩⟩⟩⟩⟩⟩⟩
def lw_privs : List (MethodName × Nat) := lw_privs_1 ++ (lw_privs_2 ++ (lw_privs_3 ++ (lw_privs_4)))
def lw_tbl : List Cond := k2_sels lw_privs ++ tables_1
theorem lw_privs_ok : ∀ q ∈ lw_privs, lw_okq q := by
  show ∀ q ∈ lw_privs_1 ++ (lw_privs_2 ++ (lw_privs_3 ++ (lw_privs_4))), lw_okq q
  exact List.forall_mem_append.mpr ⟨lw_r1, List.forall_mem_append.mpr ⟨lw_r2, List.forall_mem_append.mpr ⟨lw_r3, lw_r4⟩⟩⟩
end
section
def RX0 : String := "WicketBoard$Game"
def TX0 : u_T := fun k => match k with
  | 0 => ("WicketBoard$Game", "x", "I", false)
  | 1 => ("WicketBoard$Game", "y", "I", false)
  | 2 => ("WicketBoard$Game", "clubs", "I", false)
  | _ => ("WicketBoard$Game", "level", "I", false)
def tyX0 : Nat → FieldType := fun k => match k with
  | 0 => .int
  | 1 => .int
  | 2 => .int
  | _ => .int
theorem nmX0 : ∀ a, a < 4 → ∀ b, b < 4 → a ≠ b → (TX0 a).2.1 ≠ (TX0 b).2.1 := by decide +kernel
theorem tyX0_ok : ∀ k, k < 4 → parseFieldDescriptor (TX0 k).2.2.1 = some (tyX0 k) := by decide +kernel
abbrev cX0_init : ByteArray := prog_2_method_1_code
def yX0_init : MethodName := ⟨RX0, "<init>", "()V"⟩
abbrev cX0_set : ByteArray := prog_2_method_2_code
def yX0_set : MethodName := ⟨RX0, "set", "(IIII)V"⟩
abbrev cX0_milesTo : ByteArray := prog_2_method_3_code
def yX0_milesTo : MethodName := ⟨RX0, "milesTo", "(LWicketBoard$Umpire;)I"⟩
def RX1 : String := "WicketBoard$RuleBook"
def TX1 : u_T := fun k => match k with
  | 0 => ("WicketBoard$RuleBook", "values", "[I", true)
  | 1 => ("WicketBoard$RuleBook", "draft", "[I", true)
  | 2 => ("WicketBoard$RuleBook", "awaited", "I", false)
  | 3 => ("WicketBoard$RuleBook", "current", "I", false)
  | 4 => ("WicketBoard$RuleBook", "told", "I", false)
  | 5 => ("WicketBoard$RuleBook", "kind", "I", false)
  | _ => ("WicketBoard$RuleBook", "place", "I", false)
def tyX1 : Nat → FieldType := fun k => match k with
  | 0 => .array .int
  | 1 => .array .int
  | 2 => .int
  | 3 => .int
  | 4 => .int
  | 5 => .int
  | _ => .int
theorem nmX1 : ∀ a, a < 7 → ∀ b, b < 7 → a ≠ b → (TX1 a).2.1 ≠ (TX1 b).2.1 := by decide +kernel
theorem tyX1_ok : ∀ k, k < 7 → parseFieldDescriptor (TX1 k).2.2.1 = some (tyX1 k) := by decide +kernel
abbrev cX1_init : ByteArray := prog_3_method_1_code
def yX1_init : MethodName := ⟨RX1, "<init>", "()V"⟩
abbrev cX1_value : ByteArray := prog_3_method_2_code
def yX1_value : MethodName := ⟨RX1, "value", "(I)I"⟩
abbrev cX1_faultKind : ByteArray := prog_3_method_3_code
def yX1_faultKind : MethodName := ⟨RX1, "faultKind", "()I"⟩
abbrev cX1_read : ByteArray := prog_3_method_4_code
def yX1_read : MethodName := ⟨RX1, "read", "(LWicketBoard$Tape;)I"⟩
abbrev cX1_begin : ByteArray := prog_3_method_5_code
def yX1_begin : MethodName := ⟨RX1, "begin", "()V"⟩
abbrev cX1_fail : ByteArray := prog_3_method_6_code
def yX1_fail : MethodName := ⟨RX1, "fail", "(II)V"⟩
abbrev cX1_endOfToken : ByteArray := prog_3_method_7_code
def yX1_endOfToken : MethodName := ⟨RX1, "endOfToken", "(LWicketBoard$Tape;I)I"⟩
abbrev cX1_take : ByteArray := prog_3_method_8_code
def yX1_take : MethodName := ⟨RX1, "take", "(LWicketBoard$Tape;II)V"⟩
abbrev cX1_takeWord : ByteArray := prog_3_method_9_code
def yX1_takeWord : MethodName := ⟨RX1, "takeWord", "(LWicketBoard$Tape;II)V"⟩
abbrev cX1_takeNumber : ByteArray := prog_3_method_10_code
def yX1_takeNumber : MethodName := ⟨RX1, "takeNumber", "(LWicketBoard$Tape;II)V"⟩
abbrev cX1_kindOfWord : ByteArray := prog_3_method_11_code
def yX1_kindOfWord : MethodName := ⟨RX1, "kindOfWord", "(LWicketBoard$Tape;II)I"⟩
abbrev cX1_isWord : ByteArray := prog_3_method_12_code
def yX1_isWord : MethodName := ⟨RX1, "isWord", "(LWicketBoard$Tape;IILjava/lang/String;)Z"⟩
abbrev cX1_wordOf : ByteArray := prog_3_method_13_code
def yX1_wordOf : MethodName := ⟨RX1, "wordOf", "(I)Ljava/lang/String;"⟩
abbrev cX1_numberOf : ByteArray := prog_3_method_14_code
def yX1_numberOf : MethodName := ⟨RX1, "numberOf", "(LWicketBoard$Tape;II)I"⟩
def RX2 : String := "WicketBoard$Sender"
def TX2 : u_T := fun k => match k with
  | 0 => ("WicketBoard$Sender", "prices", "[I", true)
  | 1 => ("WicketBoard$Sender", "columnOf", "[I", true)
  | 2 => ("WicketBoard$Sender", "rowOf", "[I", true)
  | 3 => ("WicketBoard$Sender", "rowPart", "[I", true)
  | 4 => ("WicketBoard$Sender", "columnPart", "[I", true)
  | 5 => ("WicketBoard$Sender", "slack", "[I", true)
  | 6 => ("WicketBoard$Sender", "link", "[I", true)
  | 7 => ("WicketBoard$Sender", "queue", "[I", true)
  | 8 => ("WicketBoard$Sender", "seen", "[Z", true)
  | 9 => ("WicketBoard$Sender", "seats", "I", false)
  | 10 => ("WicketBoard$Sender", "people", "I", false)
  | _ => ("WicketBoard$Sender", "size", "I", false)
def tyX2 : Nat → FieldType := fun k => match k with
  | 0 => .array .int
  | 1 => .array .int
  | 2 => .array .int
  | 3 => .array .int
  | 4 => .array .int
  | 5 => .array .int
  | 6 => .array .int
  | 7 => .array .int
  | 8 => .array .boolean
  | 9 => .int
  | 10 => .int
  | _ => .int
theorem nmX2 : ∀ a, a < 12 → ∀ b, b < 12 → a ≠ b → (TX2 a).2.1 ≠ (TX2 b).2.1 := by decide +kernel
theorem tyX2_ok : ∀ k, k < 12 → parseFieldDescriptor (TX2 k).2.2.1 = some (tyX2 k) := by decide +kernel
abbrev cX2_init : ByteArray := prog_4_method_1_code
def yX2_init : MethodName := ⟨RX2, "<init>", "()V"⟩
abbrev cX2_begin : ByteArray := prog_4_method_2_code
def yX2_begin : MethodName := ⟨RX2, "begin", "(II)V"⟩
abbrev cX2_allow : ByteArray := prog_4_method_3_code
def yX2_allow : MethodName := ⟨RX2, "allow", "(III)V"⟩
abbrev cX2_settle : ByteArray := prog_4_method_4_code
def yX2_settle : MethodName := ⟨RX2, "settle", "()V"⟩
abbrev cX2_umpireFor : ByteArray := prog_4_method_5_code
def yX2_umpireFor : MethodName := ⟨RX2, "umpireFor", "(I)I"⟩
abbrev cX2_pair : ByteArray := prog_4_method_6_code
def yX2_pair : MethodName := ⟨RX2, "pair", "(II)V"⟩
abbrev cX2_gap : ByteArray := prog_4_method_7_code
def yX2_gap : MethodName := ⟨RX2, "gap", "(II)I"⟩
abbrev cX2_forgetColumns : ByteArray := prog_4_method_8_code
def yX2_forgetColumns : MethodName := ⟨RX2, "forgetColumns", "()V"⟩
abbrev cX2_addSeat : ByteArray := prog_4_method_9_code
def yX2_addSeat : MethodName := ⟨RX2, "addSeat", "(I)V"⟩
abbrev cX2_reach : ByteArray := prog_4_method_10_code
def yX2_reach : MethodName := ⟨RX2, "reach", "(II)V"⟩
abbrev cX2_nearest : ByteArray := prog_4_method_11_code
def yX2_nearest : MethodName := ⟨RX2, "nearest", "()I"⟩
abbrev cX2_shiftParts : ByteArray := prog_4_method_12_code
def yX2_shiftParts : MethodName := ⟨RX2, "shiftParts", "(II)V"⟩
abbrev cX2_moveAlong : ByteArray := prog_4_method_13_code
def yX2_moveAlong : MethodName := ⟨RX2, "moveAlong", "(II)V"⟩
abbrev cX2_takeFirst : ByteArray := prog_4_method_14_code
def yX2_takeFirst : MethodName := ⟨RX2, "takeFirst", "(I)V"⟩
abbrev cX2_firstTight : ByteArray := prog_4_method_15_code
def yX2_firstTight : MethodName := ⟨RX2, "firstTight", "(IIZ)I"⟩
abbrev cX2_findMovable : ByteArray := prog_4_method_16_code
def yX2_findMovable : MethodName := ⟨RX2, "findMovable", "(II)V"⟩
def RX3 : String := "WicketBoard$Tape"
def TX3 : u_T := fun k => match k with
  | 0 => ("WicketBoard$Tape", "bytes", "[B", true)
  | _ => ("WicketBoard$Tape", "length", "I", false)
def tyX3 : Nat → FieldType := fun k => match k with
  | 0 => .array .byte
  | _ => .int
theorem nmX3 : ∀ a, a < 2 → ∀ b, b < 2 → a ≠ b → (TX3 a).2.1 ≠ (TX3 b).2.1 := by decide +kernel
theorem tyX3_ok : ∀ k, k < 2 → parseFieldDescriptor (TX3 k).2.2.1 = some (tyX3 k) := by decide +kernel
abbrev cX3_init : ByteArray := prog_5_method_1_code
def yX3_init : MethodName := ⟨RX3, "<init>", "()V"⟩
abbrev cX3_length : ByteArray := prog_5_method_2_code
def yX3_length : MethodName := ⟨RX3, "length", "()I"⟩
abbrev cX3_hasRoom : ByteArray := prog_5_method_3_code
def yX3_hasRoom : MethodName := ⟨RX3, "hasRoom", "(I)Z"⟩
abbrev cX3_append : ByteArray := prog_5_method_4_code
def yX3_append : MethodName := ⟨RX3, "append", "(I)V"⟩
abbrev cX3_cut : ByteArray := prog_5_method_5_code
def yX3_cut : MethodName := ⟨RX3, "cut", "(I)Z"⟩
abbrev cX3_byteAt : ByteArray := prog_5_method_6_code
def yX3_byteAt : MethodName := ⟨RX3, "byteAt", "(I)I"⟩
abbrev cX3_isBlank : ByteArray := prog_5_method_7_code
def yX3_isBlank : MethodName := ⟨RX3, "isBlank", "(I)Z"⟩
abbrev cX3_isLetter : ByteArray := prog_5_method_8_code
def yX3_isLetter : MethodName := ⟨RX3, "isLetter", "(I)Z"⟩
abbrev cX3_isDigit : ByteArray := prog_5_method_9_code
def yX3_isDigit : MethodName := ⟨RX3, "isDigit", "(I)Z"⟩
def RX4 : String := "WicketBoard$Umpire"
def TX4 : u_T := fun k => match k with
  | 0 => ("WicketBoard$Umpire", "x", "I", true)
  | 1 => ("WicketBoard$Umpire", "y", "I", true)
  | 2 => ("WicketBoard$Umpire", "barred", "I", true)
  | 3 => ("WicketBoard$Umpire", "grade", "I", false)
  | 4 => ("WicketBoard$Umpire", "place", "I", false)
  | 5 => ("WicketBoard$Umpire", "weeksStood", "I", false)
  | 6 => ("WicketBoard$Umpire", "marksGiven", "I", false)
  | 7 => ("WicketBoard$Umpire", "marksTimes", "I", false)
  | 8 => ("WicketBoard$Umpire", "marksSum", "I", false)
  | 9 => ("WicketBoard$Umpire", "awayWeeks", "[Z", true)
  | _ => ("WicketBoard$Umpire", "clubsByWeek", "[I", true)
def tyX4 : Nat → FieldType := fun k => match k with
  | 0 => .int
  | 1 => .int
  | 2 => .int
  | 3 => .int
  | 4 => .int
  | 5 => .int
  | 6 => .int
  | 7 => .int
  | 8 => .int
  | 9 => .array .boolean
  | _ => .array .int
theorem nmX4 : ∀ a, a < 11 → ∀ b, b < 11 → a ≠ b → (TX4 a).2.1 ≠ (TX4 b).2.1 := by decide +kernel
theorem tyX4_ok : ∀ k, k < 11 → parseFieldDescriptor (TX4 k).2.2.1 = some (tyX4 k) := by decide +kernel
abbrev cX4_init : ByteArray := prog_6_method_1_code
def yX4_init : MethodName := ⟨RX4, "<init>", "(IIII)V"⟩
abbrev cX4_isAway : ByteArray := prog_6_method_2_code
def yX4_isAway : MethodName := ⟨RX4, "isAway", "(I)Z"⟩
abbrev cX4_setAway : ByteArray := prog_6_method_3_code
def yX4_setAway : MethodName := ⟨RX4, "setAway", "(IZ)Z"⟩
abbrev cX4_clubsIn : ByteArray := prog_6_method_4_code
def yX4_clubsIn : MethodName := ⟨RX4, "clubsIn", "(I)I"⟩
abbrev cX4_stand : ByteArray := prog_6_method_5_code
def yX4_stand : MethodName := ⟨RX4, "stand", "(II)V"⟩
abbrev cX4_stoodInAll : ByteArray := prog_6_method_6_code
def yX4_stoodInAll : MethodName := ⟨RX4, "stoodInAll", "(II)Z"⟩
abbrev cX4_stoodWith : ByteArray := prog_6_method_7_code
def yX4_stoodWith : MethodName := ⟨RX4, "stoodWith", "(III)Z"⟩
abbrev cX4_addMarks : ByteArray := prog_6_method_8_code
def yX4_addMarks : MethodName := ⟨RX4, "addMarks", "(II)V"⟩
abbrev cX4_giveGrade : ByteArray := prog_6_method_9_code
def yX4_giveGrade : MethodName := ⟨RX4, "giveGrade", "(I)V"⟩
def RX5 : String := "WicketBoard"
def TX5 : u_T := fun k => match k with
  | 0 => ("WicketBoard", "tape", "LWicketBoard$Tape;", true)
  | 1 => ("WicketBoard", "book", "LWicketBoard$RuleBook;", true)
  | 2 => ("WicketBoard", "umpires", "[LWicketBoard$Umpire;", true)
  | 3 => ("WicketBoard", "games", "[LWicketBoard$Game;", true)
  | 4 => ("WicketBoard", "holders", "[I", true)
  | 5 => ("WicketBoard", "sender", "LWicketBoard$Sender;", true)
  | 6 => ("WicketBoard", "umpireCount", "I", false)
  | 7 => ("WicketBoard", "gameCount", "I", false)
  | 8 => ("WicketBoard", "week", "I", false)
  | _ => ("WicketBoard", "given", "I", false)
def tyX5 : Nat → FieldType := fun k => match k with
  | 0 => .object "WicketBoard$Tape"
  | 1 => .object "WicketBoard$RuleBook"
  | 2 => .array (.object "WicketBoard$Umpire")
  | 3 => .array (.object "WicketBoard$Game")
  | 4 => .array .int
  | 5 => .object "WicketBoard$Sender"
  | 6 => .int
  | 7 => .int
  | 8 => .int
  | _ => .int
theorem nmX5 : ∀ a, a < 10 → ∀ b, b < 10 → a ≠ b → (TX5 a).2.1 ≠ (TX5 b).2.1 := by decide +kernel
theorem tyX5_ok : ∀ k, k < 10 → parseFieldDescriptor (TX5 k).2.2.1 = some (tyX5 k) := by decide +kernel
abbrev cX5_init : ByteArray := prog_1_method_1_code
def yX5_init : MethodName := ⟨RX5, "<init>", "()V"⟩
abbrev cX5_feed : ByteArray := prog_1_method_2_code
def yX5_feed : MethodName := ⟨RX5, "feed", "(IIIII)I"⟩
abbrev cX5_end : ByteArray := prog_1_method_3_code
def yX5_end : MethodName := ⟨RX5, "end", "(I)Z"⟩
abbrev cX5_rules : ByteArray := prog_1_method_4_code
def yX5_rules : MethodName := ⟨RX5, "rules", "()I"⟩
abbrev cX5_fault : ByteArray := prog_1_method_5_code
def yX5_fault : MethodName := ⟨RX5, "fault", "()I"⟩
abbrev cX5_rule : ByteArray := prog_1_method_6_code
def yX5_rule : MethodName := ⟨RX5, "rule", "(I)I"⟩
abbrev cX5_umpire : ByteArray := prog_1_method_7_code
def yX5_umpire : MethodName := ⟨RX5, "umpire", "(IIII)I"⟩
abbrev cX5_away : ByteArray := prog_1_method_8_code
def yX5_away : MethodName := ⟨RX5, "away", "(IIZ)Z"⟩
abbrev cX5_game : ByteArray := prog_1_method_9_code
def yX5_game : MethodName := ⟨RX5, "game", "(IIIII)I"⟩
abbrev cX5_may : ByteArray := prog_1_method_10_code
def yX5_may : MethodName := ⟨RX5, "may", "(II)Z"⟩
abbrev cX5_cost : ByteArray := prog_1_method_11_code
def yX5_cost : MethodName := ⟨RX5, "cost", "(II)I"⟩
abbrev cX5_send : ByteArray := prog_1_method_12_code
def yX5_send : MethodName := ⟨RX5, "send", "()I"⟩
abbrev cX5_off : ByteArray := prog_1_method_13_code
def yX5_off : MethodName := ⟨RX5, "off", "(I)I"⟩
abbrev cX5_seat : ByteArray := prog_1_method_14_code
def yX5_seat : MethodName := ⟨RX5, "seat", "(I)I"⟩
abbrev cX5_mark : ByteArray := prog_1_method_15_code
def yX5_mark : MethodName := ⟨RX5, "mark", "(IIIZ)Z"⟩
abbrev cX5_next : ByteArray := prog_1_method_16_code
def yX5_next : MethodName := ⟨RX5, "next", "()I"⟩
abbrev cX5_about : ByteArray := prog_1_method_17_code
def yX5_about : MethodName := ⟨RX5, "about", "(II)I"⟩
abbrev cX5_stood : ByteArray := prog_1_method_18_code
def yX5_stood : MethodName := ⟨RX5, "stood", "(II)I"⟩
abbrev cX5_together : ByteArray := prog_1_method_19_code
def yX5_together : MethodName := ⟨RX5, "together", "()I"⟩
abbrev cX5_count : ByteArray := prog_1_method_20_code
def yX5_count : MethodName := ⟨RX5, "count", "(I)I"⟩
abbrev cX5_isPlace : ByteArray := prog_1_method_21_code
def yX5_isPlace : MethodName := ⟨RX5, "isPlace", "(II)Z"⟩
abbrev cX5_isGrade : ByteArray := prog_1_method_22_code
def yX5_isGrade : MethodName := ⟨RX5, "isGrade", "(I)Z"⟩
abbrev cX5_isClub : ByteArray := prog_1_method_23_code
def yX5_isClub : MethodName := ⟨RX5, "isClub", "(I)Z"⟩
abbrev cX5_isSeat : ByteArray := prog_1_method_24_code
def yX5_isSeat : MethodName := ⟨RX5, "isSeat", "(I)Z"⟩
abbrev cX5_umpireAt : ByteArray := prog_1_method_25_code
def yX5_umpireAt : MethodName := ⟨RX5, "umpireAt", "(I)LWicketBoard$Umpire;"⟩
abbrev cX5_holderOf : ByteArray := prog_1_method_26_code
def yX5_holderOf : MethodName := ⟨RX5, "holderOf", "(I)LWicketBoard$Umpire;"⟩
abbrev cX5_gameOf : ByteArray := prog_1_method_27_code
def yX5_gameOf : MethodName := ⟨RX5, "gameOf", "(I)LWicketBoard$Game;"⟩
abbrev cX5_fits : ByteArray := prog_1_method_28_code
def yX5_fits : MethodName := ⟨RX5, "fits", "(LWicketBoard$Umpire;I)Z"⟩
abbrev cX5_price : ByteArray := prog_1_method_29_code
def yX5_price : MethodName := ⟨RX5, "price", "(LWicketBoard$Umpire;I)I"⟩
abbrev cX5_filledSeats : ByteArray := prog_1_method_30_code
def yX5_filledSeats : MethodName := ⟨RX5, "filledSeats", "()I"⟩
abbrev cX5_clearSeat : ByteArray := prog_1_method_31_code
def yX5_clearSeat : MethodName := ⟨RX5, "clearSeat", "(I)V"⟩
abbrev cX5_fillSeat : ByteArray := prog_1_method_32_code
def yX5_fillSeat : MethodName := ⟨RX5, "fillSeat", "(II)V"⟩
abbrev cX5_cheapestFree : ByteArray := prog_1_method_33_code
def yX5_cheapestFree : MethodName := ⟨RX5, "cheapestFree", "(I)I"⟩
abbrev cX5_fillByMove : ByteArray := prog_1_method_34_code
def yX5_fillByMove : MethodName := ⟨RX5, "fillByMove", "(I)Z"⟩
abbrev cX5_endSeat : ByteArray := prog_1_method_35_code
def yX5_endSeat : MethodName := ⟨RX5, "endSeat", "(I)V"⟩
abbrev cX5_regrade : ByteArray := prog_1_method_36_code
def yX5_regrade : MethodName := ⟨RX5, "regrade", "(LWicketBoard$Umpire;)V"⟩
def RX6 : String := "WicketBoardModel"
def TX6 : u_T := fun k => match k with
  | 0 => ("WicketBoardModel", "thrown", "I", false)
  | 1 => ("WicketBoardModel", "tape", "[I", true)
  | 2 => ("WicketBoardModel", "taped", "I", false)
  | 3 => ("WicketBoardModel", "rule", "[I", true)
  | 4 => ("WicketBoardModel", "usual", "[I", true)
  | 5 => ("WicketBoardModel", "low", "[I", true)
  | 6 => ("WicketBoardModel", "high", "[I", true)
  | 7 => ("WicketBoardModel", "fresh", "[I", true)
  | 8 => ("WicketBoardModel", "size", "I", false)
  | 9 => ("WicketBoardModel", "to", "I", false)
  | 10 => ("WicketBoardModel", "from", "I", false)
  | 11 => ("WicketBoardModel", "kind", "I", false)
  | 12 => ("WicketBoardModel", "number", "I", false)
  | 13 => ("WicketBoardModel", "fault", "I", false)
  | 14 => ("WicketBoardModel", "place", "I", false)
  | 15 => ("WicketBoardModel", "told", "I", false)
  | 16 => ("WicketBoardModel", "word", "J", false)
  | 17 => ("WicketBoardModel", "homeX", "[I", true)
  | 18 => ("WicketBoardModel", "homeY", "[I", true)
  | 19 => ("WicketBoardModel", "grade", "[I", true)
  | 20 => ("WicketBoardModel", "barred", "[I", true)
  | 21 => ("WicketBoardModel", "marks", "[I", true)
  | 22 => ("WicketBoardModel", "times", "[I", true)
  | 23 => ("WicketBoardModel", "points", "[I", true)
  | 24 => ("WicketBoardModel", "weeksStood", "[I", true)
  | 25 => ("WicketBoardModel", "stood", "[I", true)
  | 26 => ("WicketBoardModel", "gone", "[Z", true)
  | 27 => ("WicketBoardModel", "gameX", "[I", true)
  | 28 => ("WicketBoardModel", "gameY", "[I", true)
  | 29 => ("WicketBoardModel", "clubs", "[I", true)
  | 30 => ("WicketBoardModel", "level", "[I", true)
  | 31 => ("WicketBoardModel", "who", "[I", true)
  | 32 => ("WicketBoardModel", "marked", "[I", true)
  | 33 => ("WicketBoardModel", "umpires", "I", false)
  | 34 => ("WicketBoardModel", "games", "I", false)
  | 35 => ("WicketBoardModel", "week", "I", false)
  | 36 => ("WicketBoardModel", "marksNow", "I", false)
  | 37 => ("WicketBoardModel", "comes", "[I", true)
  | 38 => ("WicketBoardModel", "takes", "[I", true)
  | 39 => ("WicketBoardModel", "cell", "[I", true)
  | 40 => ("WicketBoardModel", "holder", "[I", true)
  | 41 => ("WicketBoardModel", "fixed", "[Z", true)
  | 42 => ("WicketBoardModel", "way", "[I", true)
  | 43 => ("WicketBoardModel", "whence", "[I", true)
  | 44 => ("WicketBoardModel", "mover", "[I", true)
  | _ => ("WicketBoardModel", "changed", "Z", false)
def tyX6 : Nat → FieldType := fun k => match k with
  | 0 => .int
  | 1 => .array .int
  | 2 => .int
  | 3 => .array .int
  | 4 => .array .int
  | 5 => .array .int
  | 6 => .array .int
  | 7 => .array .int
  | 8 => .int
  | 9 => .int
  | 10 => .int
  | 11 => .int
  | 12 => .int
  | 13 => .int
  | 14 => .int
  | 15 => .int
  | 16 => .long
  | 17 => .array .int
  | 18 => .array .int
  | 19 => .array .int
  | 20 => .array .int
  | 21 => .array .int
  | 22 => .array .int
  | 23 => .array .int
  | 24 => .array .int
  | 25 => .array .int
  | 26 => .array .boolean
  | 27 => .array .int
  | 28 => .array .int
  | 29 => .array .int
  | 30 => .array .int
  | 31 => .array .int
  | 32 => .array .int
  | 33 => .int
  | 34 => .int
  | 35 => .int
  | 36 => .int
  | 37 => .array .int
  | 38 => .array .int
  | 39 => .array .int
  | 40 => .array .int
  | 41 => .array .boolean
  | 42 => .array .int
  | 43 => .array .int
  | 44 => .array .int
  | _ => .boolean
theorem nmX6 : ∀ a, a < 46 → ∀ b, b < 46 → a ≠ b → (TX6 a).2.1 ≠ (TX6 b).2.1 := by decide +kernel
theorem tyX6_ok : ∀ k, k < 46 → parseFieldDescriptor (TX6 k).2.2.1 = some (tyX6 k) := by decide +kernel
abbrev cX6_init : ByteArray := prog_8_method_1_code
def yX6_init : MethodName := ⟨RX6, "<init>", "()V"⟩
abbrev cX6_thrown : ByteArray := prog_8_method_2_code
def yX6_thrown : MethodName := ⟨RX6, "thrown", "()I"⟩
abbrev cX6_refuse : ByteArray := prog_8_method_3_code
def yX6_refuse : MethodName := ⟨RX6, "refuse", "()I"⟩
abbrev cX6_come : ByteArray := prog_8_method_4_code
def yX6_come : MethodName := ⟨RX6, "come", "(I)V"⟩
abbrev cX6_feed : ByteArray := prog_8_method_5_code
def yX6_feed : MethodName := ⟨RX6, "feed", "(IIIII)I"⟩
abbrev cX6_end : ByteArray := prog_8_method_6_code
def yX6_end : MethodName := ⟨RX6, "end", "(I)Z"⟩
abbrev cX6_byteAt : ByteArray := prog_8_method_7_code
def yX6_byteAt : MethodName := ⟨RX6, "byteAt", "(I)I"⟩
abbrev cX6_isDigit : ByteArray := prog_8_method_8_code
def yX6_isDigit : MethodName := ⟨RX6, "isDigit", "(I)Z"⟩
abbrev cX6_isLetter : ByteArray := prog_8_method_9_code
def yX6_isLetter : MethodName := ⟨RX6, "isLetter", "(I)Z"⟩
abbrev cX6_go : ByteArray := prog_8_method_10_code
def yX6_go : MethodName := ⟨RX6, "go", "()V"⟩
abbrev cX6_spelt : ByteArray := prog_8_method_11_code
def yX6_spelt : MethodName := ⟨RX6, "spelt", "(IIII)J"⟩
abbrev cX6_isKey : ByteArray := prog_8_method_12_code
def yX6_isKey : MethodName := ⟨RX6, "isKey", "(J)Z"⟩
abbrev cX6_ruleAtHand : ByteArray := prog_8_method_13_code
def yX6_ruleAtHand : MethodName := ⟨RX6, "ruleAtHand", "()I"⟩
abbrev cX6_bad : ByteArray := prog_8_method_14_code
def yX6_bad : MethodName := ⟨RX6, "bad", "(I)Z"⟩
abbrev cX6_readRule : ByteArray := prog_8_method_15_code
def yX6_readRule : MethodName := ⟨RX6, "readRule", "()Z"⟩
abbrev cX6_rules : ByteArray := prog_8_method_16_code
def yX6_rules : MethodName := ⟨RX6, "rules", "()I"⟩
abbrev cX6_fault : ByteArray := prog_8_method_17_code
def yX6_fault : MethodName := ⟨RX6, "fault", "()I"⟩
abbrev cX6_rule : ByteArray := prog_8_method_18_code
def yX6_rule : MethodName := ⟨RX6, "rule", "(I)I"⟩
abbrev cX6_isIn : ByteArray := prog_8_method_19_code
def yX6_isIn : MethodName := ⟨RX6, "isIn", "(III)Z"⟩
abbrev cX6_isUmpire : ByteArray := prog_8_method_20_code
def yX6_isUmpire : MethodName := ⟨RX6, "isUmpire", "(I)Z"⟩
abbrev cX6_isSeat : ByteArray := prog_8_method_21_code
def yX6_isSeat : MethodName := ⟨RX6, "isSeat", "(I)Z"⟩
abbrev cX6_umpire : ByteArray := prog_8_method_22_code
def yX6_umpire : MethodName := ⟨RX6, "umpire", "(IIII)I"⟩
abbrev cX6_seatOf : ByteArray := prog_8_method_23_code
def yX6_seatOf : MethodName := ⟨RX6, "seatOf", "(I)I"⟩
abbrev cX6_away : ByteArray := prog_8_method_24_code
def yX6_away : MethodName := ⟨RX6, "away", "(IIZ)Z"⟩
abbrev cX6_game : ByteArray := prog_8_method_25_code
def yX6_game : MethodName := ⟨RX6, "game", "(IIIII)I"⟩
abbrev cX6_less : ByteArray := prog_8_method_26_code
def yX6_less : MethodName := ⟨RX6, "less", "(II)I"⟩
abbrev cX6_miles : ByteArray := prog_8_method_27_code
def yX6_miles : MethodName := ⟨RX6, "miles", "(II)I"⟩
abbrev cX6_mayHave : ByteArray := prog_8_method_28_code
def yX6_mayHave : MethodName := ⟨RX6, "mayHave", "(II)Z"⟩
abbrev cX6_costOf : ByteArray := prog_8_method_29_code
def yX6_costOf : MethodName := ⟨RX6, "costOf", "(II)I"⟩
abbrev cX6_may : ByteArray := prog_8_method_30_code
def yX6_may : MethodName := ⟨RX6, "may", "(II)Z"⟩
abbrev cX6_cost : ByteArray := prog_8_method_31_code
def yX6_cost : MethodName := ⟨RX6, "cost", "(II)I"⟩
abbrev cX6_pays : ByteArray := prog_8_method_32_code
def yX6_pays : MethodName := ⟨RX6, "pays", "(I)I"⟩
abbrev cX6_seek : ByteArray := prog_8_method_33_code
def yX6_seek : MethodName := ⟨RX6, "seek", "(I)V"⟩
abbrev cX6_change : ByteArray := prog_8_method_34_code
def yX6_change : MethodName := ⟨RX6, "change", "(I)V"⟩
abbrev cX6_settle : ByteArray := prog_8_method_35_code
def yX6_settle : MethodName := ⟨RX6, "settle", "()V"⟩
abbrev cX6_offer : ByteArray := prog_8_method_36_code
def yX6_offer : MethodName := ⟨RX6, "offer", "(IIII)V"⟩
abbrev cX6_placeOf : ByteArray := prog_8_method_37_code
def yX6_placeOf : MethodName := ⟨RX6, "placeOf", "(I)I"⟩
abbrev cX6_ways : ByteArray := prog_8_method_38_code
def yX6_ways : MethodName := ⟨RX6, "ways", "(III)V"⟩
abbrev cX6_moves : ByteArray := prog_8_method_39_code
def yX6_moves : MethodName := ⟨RX6, "moves", "(I)V"⟩
abbrev cX6_lessen : ByteArray := prog_8_method_40_code
def yX6_lessen : MethodName := ⟨RX6, "lessen", "(II)V"⟩
abbrev cX6_send : ByteArray := prog_8_method_41_code
def yX6_send : MethodName := ⟨RX6, "send", "()I"⟩
abbrev cX6_filled : ByteArray := prog_8_method_42_code
def yX6_filled : MethodName := ⟨RX6, "filled", "()I"⟩
abbrev cX6_off : ByteArray := prog_8_method_43_code
def yX6_off : MethodName := ⟨RX6, "off", "(I)I"⟩
abbrev cX6_spare : ByteArray := prog_8_method_44_code
def yX6_spare : MethodName := ⟨RX6, "spare", "(I)I"⟩
abbrev cX6_seat : ByteArray := prog_8_method_45_code
def yX6_seat : MethodName := ⟨RX6, "seat", "(I)I"⟩
abbrev cX6_mark : ByteArray := prog_8_method_46_code
def yX6_mark : MethodName := ⟨RX6, "mark", "(IIIZ)Z"⟩
abbrev cX6_next : ByteArray := prog_8_method_47_code
def yX6_next : MethodName := ⟨RX6, "next", "()I"⟩
abbrev cX6_about : ByteArray := prog_8_method_48_code
def yX6_about : MethodName := ⟨RX6, "about", "(II)I"⟩
abbrev cX6_stood : ByteArray := prog_8_method_49_code
def yX6_stood : MethodName := ⟨RX6, "stood", "(II)I"⟩
abbrev cX6_together : ByteArray := prog_8_method_50_code
def yX6_together : MethodName := ⟨RX6, "together", "()I"⟩
abbrev cX6_count : ByteArray := prog_8_method_51_code
def yX6_count : MethodName := ⟨RX6, "count", "(I)I"⟩
def RJ6 : String := "java/lang/Integer"
def TJ6 : u_T := fun k => match k with
  | _ => ("", "", "", false)
def tyJ6 : Nat → FieldType := fun k => match k with
  | _ => .int
theorem nmJ6 : ∀ a, a < 0 → ∀ b, b < 0 → a ≠ b → (TJ6 a).2.1 ≠ (TJ6 b).2.1 := by decide +kernel
theorem tyJ6_ok : ∀ k, k < 0 → parseFieldDescriptor (TJ6 k).2.2.1 = some (tyJ6 k) := by decide +kernel
abbrev cJ6_bitCount_0f7a4 : ByteArray := prog_10_method_49_code
def yJ6_bitCount_0f7a4 : MethodName := ⟨RJ6, "bitCount", "(I)I"⟩
def RJ9 : String := "java/lang/Math"
def TJ9 : u_T := fun k => match k with
  | _ => ("", "", "", false)
def tyJ9 : Nat → FieldType := fun k => match k with
  | _ => .int
theorem nmJ9 : ∀ a, a < 0 → ∀ b, b < 0 → a ≠ b → (TJ9 a).2.1 ≠ (TJ9 b).2.1 := by decide +kernel
theorem tyJ9_ok : ∀ k, k < 0 → parseFieldDescriptor (TJ9 k).2.2.1 = some (tyJ9 k) := by decide +kernel
abbrev cJ9_abs_0f7a4 : ByteArray := prog_11_method_59_code
def yJ9_abs_0f7a4 : MethodName := ⟨RJ9, "abs", "(I)I"⟩
abbrev cJ9_max_7cf53 : ByteArray := prog_11_method_65_code
def yJ9_max_7cf53 : MethodName := ⟨RJ9, "max", "(II)I"⟩
abbrev cJ9_min_7cf53 : ByteArray := prog_11_method_69_code
def yJ9_min_7cf53 : MethodName := ⟨RJ9, "min", "(II)I"⟩
def RJ0 : String := "java/lang/String"
def TJ0 : u_T := fun k => match k with
  | _ => ("", "", "", false)
def tyJ0 : Nat → FieldType := fun k => match k with
  | _ => .int
theorem nmJ0 : ∀ a, a < 0 → ∀ b, b < 0 → a ≠ b → (TJ0 a).2.1 ≠ (TJ0 b).2.1 := by decide +kernel
theorem tyJ0_ok : ∀ k, k < 0 → parseFieldDescriptor (TJ0 k).2.2.1 = some (tyJ0 k) := by decide +kernel
abbrev cJ0_length_8abf5 : ByteArray := prog_13_method_54_code
def yJ0_length_8abf5 : MethodName := ⟨RJ0, "length", "()I"⟩
abbrev cJ0_charAt_5068e : ByteArray := prog_13_method_56_code
def yJ0_charAt_5068e : MethodName := ⟨RJ0, "charAt", "(I)C"⟩
abbrev cJ0_coder_7d493 : ByteArray := prog_13_method_152_code
def yJ0_coder_7d493 : MethodName := ⟨RJ0, "coder", "()B"⟩
abbrev cJ0_isLatin1_aae02 : ByteArray := prog_13_method_154_code
def yJ0_isLatin1_aae02 : MethodName := ⟨RJ0, "isLatin1", "()Z"⟩
abbrev cJ0_checkIndex_df160 : ByteArray := prog_13_method_155_code
def yJ0_checkIndex_df160 : MethodName := ⟨RJ0, "checkIndex", "(II)V"⟩
def RJ1 : String := "java/lang/StringLatin1"
def TJ1 : u_T := fun k => match k with
  | _ => ("", "", "", false)
def tyJ1 : Nat → FieldType := fun k => match k with
  | _ => .int
theorem nmJ1 : ∀ a, a < 0 → ∀ b, b < 0 → a ≠ b → (TJ1 a).2.1 ≠ (TJ1 b).2.1 := by decide +kernel
theorem tyJ1_ok : ∀ k, k < 0 → parseFieldDescriptor (TJ1 k).2.2.1 = some (tyJ1 k) := by decide +kernel
abbrev cJ1_charAt_3b067 : ByteArray := prog_14_method_2_code
def yJ1_charAt_3b067 : MethodName := ⟨RJ1, "charAt", "([BI)C"⟩
def RJ2 : String := "java/lang/StringUTF16"
def TJ2 : u_T := fun k => match k with
  | _ => ("", "", "", false)
def tyJ2 : Nat → FieldType := fun k => match k with
  | _ => .int
theorem nmJ2 : ∀ a, a < 0 → ∀ b, b < 0 → a ≠ b → (TJ2 a).2.1 ≠ (TJ2 b).2.1 := by decide +kernel
theorem tyJ2_ok : ∀ k, k < 0 → parseFieldDescriptor (TJ2 k).2.2.1 = some (tyJ2 k) := by decide +kernel
abbrev cJ2_getChar_3b067 : ByteArray := prog_15_method_5_code
def yJ2_getChar_3b067 : MethodName := ⟨RJ2, "getChar", "([BI)C"⟩
abbrev cJ2_length_9d52b : ByteArray := prog_15_method_6_code
def yJ2_length_9d52b : MethodName := ⟨RJ2, "length", "([B)I"⟩
abbrev cJ2_charAt_3b067 : ByteArray := prog_15_method_83_code
def yJ2_charAt_3b067 : MethodName := ⟨RJ2, "charAt", "([BI)C"⟩
abbrev cJ2_checkIndex_2214a : ByteArray := prog_15_method_91_code
def yJ2_checkIndex_2214a : MethodName := ⟨RJ2, "checkIndex", "(I[B)V"⟩
def RJ10 : String := "java/lang/System"
def TJ10 : u_T := fun k => match k with
  | _ => ("", "", "", false)
def tyJ10 : Nat → FieldType := fun k => match k with
  | _ => .int
theorem nmJ10 : ∀ a, a < 0 → ∀ b, b < 0 → a ≠ b → (TJ10 a).2.1 ≠ (TJ10 b).2.1 := by decide +kernel
theorem tyJ10_ok : ∀ k, k < 0 → parseFieldDescriptor (TJ10 k).2.2.1 = some (tyJ10 k) := by decide +kernel
def RJ3 : String := "jdk/internal/util/Preconditions"
def TJ3 : u_T := fun k => match k with
  | _ => ("", "", "", false)
def tyJ3 : Nat → FieldType := fun k => match k with
  | _ => .int
theorem nmJ3 : ∀ a, a < 0 → ∀ b, b < 0 → a ≠ b → (TJ3 a).2.1 ≠ (TJ3 b).2.1 := by decide +kernel
theorem tyJ3_ok : ∀ k, k < 0 → parseFieldDescriptor (TJ3 k).2.2.1 = some (tyJ3 k) := by decide +kernel
abbrev cJ3_checkIndex_8e157 : ByteArray := prog_19_method_11_code
def yJ3_checkIndex_8e157 : MethodName := ⟨RJ3, "checkIndex", "(IILjava/util/function/BiFunction;)I"⟩
def RL : String := "WicketBoardLaw"
abbrev cL_about : ByteArray := method_3_code
def yL_about : MethodName := ⟨RL, "about", "(LWicketBoard;II[J)I"⟩
abbrev cL_law : ByteArray := code
def yL_law : MethodName := ⟨RL, "law", "([I)Z"⟩
end
section
theorem dX0_init_0 : decode cX0_init 0 = .ok (.aload_n 0, 1) := by decide +kernel
theorem dX0_init_1 : decode cX0_init 1 = .ok (.invokespecial 1, 3) := by decide +kernel
theorem dX0_init_4 : decode cX0_init 4 = .ok (.return_, 1) := by decide +kernel
theorem dX0_set_0 : decode cX0_set 0 = .ok (.aload_n 0, 1) := by decide +kernel
theorem dX0_set_1 : decode cX0_set 1 = .ok (.iload_n 1, 1) := by decide +kernel
theorem dX0_set_2 : decode cX0_set 2 = .ok (.putfield 7, 3) := by decide +kernel
theorem dX0_set_5 : decode cX0_set 5 = .ok (.aload_n 0, 1) := by decide +kernel
theorem dX0_set_6 : decode cX0_set 6 = .ok (.iload_n 2, 1) := by decide +kernel
theorem dX0_set_7 : decode cX0_set 7 = .ok (.putfield 13, 3) := by decide +kernel
theorem dX0_set_10 : decode cX0_set 10 = .ok (.aload_n 0, 1) := by decide +kernel
theorem dX0_set_11 : decode cX0_set 11 = .ok (.iload_n 3, 1) := by decide +kernel
theorem dX0_set_12 : decode cX0_set 12 = .ok (.putfield 16, 3) := by decide +kernel
theorem dX0_set_15 : decode cX0_set 15 = .ok (.aload_n 0, 1) := by decide +kernel
theorem dX0_set_16 : decode cX0_set 16 = .ok (.iload 4, 2) := by decide +kernel
theorem dX0_set_18 : decode cX0_set 18 = .ok (.putfield 19, 3) := by decide +kernel
theorem dX0_set_21 : decode cX0_set 21 = .ok (.return_, 1) := by decide +kernel
theorem dX0_milesTo_0 : decode cX0_milesTo 0 = .ok (.aload_n 0, 1) := by decide +kernel
theorem dX0_milesTo_1 : decode cX0_milesTo 1 = .ok (.getfield 7, 3) := by decide +kernel
theorem dX0_milesTo_4 : decode cX0_milesTo 4 = .ok (.aload_n 1, 1) := by decide +kernel
theorem dX0_milesTo_5 : decode cX0_milesTo 5 = .ok (.getfield 22, 3) := by decide +kernel
theorem dX0_milesTo_8 : decode cX0_milesTo 8 = .ok (.isub, 1) := by decide +kernel
theorem dX0_milesTo_9 : decode cX0_milesTo 9 = .ok (.invokestatic 25, 3) := by decide +kernel
theorem dX0_milesTo_12 : decode cX0_milesTo 12 = .ok (.aload_n 0, 1) := by decide +kernel
theorem dX0_milesTo_13 : decode cX0_milesTo 13 = .ok (.getfield 13, 3) := by decide +kernel
theorem dX0_milesTo_16 : decode cX0_milesTo 16 = .ok (.aload_n 1, 1) := by decide +kernel
theorem dX0_milesTo_17 : decode cX0_milesTo 17 = .ok (.getfield 31, 3) := by decide +kernel
theorem dX0_milesTo_20 : decode cX0_milesTo 20 = .ok (.isub, 1) := by decide +kernel
theorem dX0_milesTo_21 : decode cX0_milesTo 21 = .ok (.invokestatic 25, 3) := by decide +kernel
theorem dX0_milesTo_24 : decode cX0_milesTo 24 = .ok (.iadd, 1) := by decide +kernel
theorem dX0_milesTo_25 : decode cX0_milesTo 25 = .ok (.ireturn, 1) := by decide +kernel
theorem dX1_init_0 : decode cX1_init 0 = .ok (.aload_n 0, 1) := by decide +kernel
theorem dX1_init_1 : decode cX1_init 1 = .ok (.invokespecial 3, 3) := by decide +kernel
theorem dX1_init_4 : decode cX1_init 4 = .ok (.aload_n 0, 1) := by decide +kernel
theorem dX1_init_5 : decode cX1_init 5 = .ok (.bipush 9, 2) := by decide +kernel
theorem dX1_init_7 : decode cX1_init 7 = .ok (.newarray .int, 2) := by decide +kernel
theorem dX1_init_9 : decode cX1_init 9 = .ok (.putfield 11, 3) := by decide +kernel
theorem dX1_init_12 : decode cX1_init 12 = .ok (.aload_n 0, 1) := by decide +kernel
theorem dX1_init_13 : decode cX1_init 13 = .ok (.bipush 9, 2) := by decide +kernel
theorem dX1_init_15 : decode cX1_init 15 = .ok (.newarray .int, 2) := by decide +kernel
theorem dX1_init_17 : decode cX1_init 17 = .ok (.putfield 15, 3) := by decide +kernel
theorem dX1_init_20 : decode cX1_init 20 = .ok (.iconst 0, 1) := by decide +kernel
theorem dX1_init_21 : decode cX1_init 21 = .ok (.istore_n 1, 1) := by decide +kernel
theorem dX1_init_22 : decode cX1_init 22 = .ok (.iload_n 1, 1) := by decide +kernel
theorem dX1_init_23 : decode cX1_init 23 = .ok (.bipush 9, 2) := by decide +kernel
theorem dX1_init_25 : decode cX1_init 25 = .ok (.if_icmp .ge 20, 3) := by decide +kernel
theorem dX1_init_28 : decode cX1_init 28 = .ok (.aload_n 0, 1) := by decide +kernel
theorem dX1_init_29 : decode cX1_init 29 = .ok (.getfield 11, 3) := by decide +kernel
theorem dX1_init_32 : decode cX1_init 32 = .ok (.iload_n 1, 1) := by decide +kernel
theorem dX1_init_33 : decode cX1_init 33 = .ok (.getstatic 18, 3) := by decide +kernel
theorem dX1_init_36 : decode cX1_init 36 = .ok (.iload_n 1, 1) := by decide +kernel
theorem dX1_init_37 : decode cX1_init 37 = .ok (.iaload, 1) := by decide +kernel
theorem dX1_init_38 : decode cX1_init 38 = .ok (.iastore, 1) := by decide +kernel
theorem dX1_init_39 : decode cX1_init 39 = .ok (.iinc 1 1, 3) := by decide +kernel
theorem dX1_init_42 : decode cX1_init 42 = .ok (.goto (-20), 3) := by decide +kernel
theorem dX1_init_45 : decode cX1_init 45 = .ok (.return_, 1) := by decide +kernel
theorem dX1_value_0 : decode cX1_value 0 = .ok (.iload_n 1, 1) := by decide +kernel
theorem dX1_value_1 : decode cX1_value 1 = .ok (.ifCond .lt 18, 3) := by decide +kernel
theorem dX1_value_4 : decode cX1_value 4 = .ok (.iload_n 1, 1) := by decide +kernel
theorem dX1_value_5 : decode cX1_value 5 = .ok (.bipush 9, 2) := by decide +kernel
theorem dX1_value_7 : decode cX1_value 7 = .ok (.if_icmp .ge 12, 3) := by decide +kernel
theorem dX1_value_10 : decode cX1_value 10 = .ok (.aload_n 0, 1) := by decide +kernel
theorem dX1_value_11 : decode cX1_value 11 = .ok (.getfield 11, 3) := by decide +kernel
theorem dX1_value_14 : decode cX1_value 14 = .ok (.iload_n 1, 1) := by decide +kernel
theorem dX1_value_15 : decode cX1_value 15 = .ok (.iaload, 1) := by decide +kernel
theorem dX1_value_16 : decode cX1_value 16 = .ok (.goto 4, 3) := by decide +kernel
theorem dX1_value_19 : decode cX1_value 19 = .ok (.iconst (-1), 1) := by decide +kernel
theorem dX1_value_20 : decode cX1_value 20 = .ok (.ireturn, 1) := by decide +kernel
theorem dX1_faultKind_0 : decode cX1_faultKind 0 = .ok (.aload_n 0, 1) := by decide +kernel
theorem dX1_faultKind_1 : decode cX1_faultKind 1 = .ok (.getfield 21, 3) := by decide +kernel
theorem dX1_faultKind_4 : decode cX1_faultKind 4 = .ok (.ireturn, 1) := by decide +kernel
theorem dX1_read_0 : decode cX1_read 0 = .ok (.aload_n 0, 1) := by decide +kernel
theorem dX1_read_1 : decode cX1_read 1 = .ok (.invokevirtual 25, 3) := by decide +kernel
theorem dX1_read_4 : decode cX1_read 4 = .ok (.aload_n 1, 1) := by decide +kernel
theorem dX1_read_5 : decode cX1_read 5 = .ok (.invokevirtual 28, 3) := by decide +kernel
theorem dX1_read_8 : decode cX1_read 8 = .ok (.sipush 160, 3) := by decide +kernel
theorem dX1_read_11 : decode cX1_read 11 = .ok (.invokestatic 34, 3) := by decide +kernel
theorem dX1_read_14 : decode cX1_read 14 = .ok (.istore_n 2, 1) := by decide +kernel
theorem dX1_read_15 : decode cX1_read 15 = .ok (.iconst 0, 1) := by decide +kernel
theorem dX1_read_16 : decode cX1_read 16 = .ok (.istore_n 3, 1) := by decide +kernel
theorem dX1_read_17 : decode cX1_read 17 = .ok (.iconst 0, 1) := by decide +kernel
theorem dX1_read_18 : decode cX1_read 18 = .ok (.istore 4, 2) := by decide +kernel
theorem dX1_read_20 : decode cX1_read 20 = .ok (.iload 4, 2) := by decide +kernel
theorem dX1_read_22 : decode cX1_read 22 = .ok (.iload_n 2, 1) := by decide +kernel
theorem dX1_read_23 : decode cX1_read 23 = .ok (.if_icmp .ge 46, 3) := by decide +kernel
theorem dX1_read_26 : decode cX1_read 26 = .ok (.aload_n 0, 1) := by decide +kernel
theorem dX1_read_27 : decode cX1_read 27 = .ok (.getfield 21, 3) := by decide +kernel
theorem dX1_read_30 : decode cX1_read 30 = .ok (.ifCond .ne 39, 3) := by decide +kernel
theorem dX1_read_33 : decode cX1_read 33 = .ok (.iload 4, 2) := by decide +kernel
theorem dX1_read_35 : decode cX1_read 35 = .ok (.iload_n 3, 1) := by decide +kernel
theorem dX1_read_36 : decode cX1_read 36 = .ok (.if_icmp .lt 27, 3) := by decide +kernel
theorem dX1_read_39 : decode cX1_read 39 = .ok (.aload_n 1, 1) := by decide +kernel
theorem dX1_read_40 : decode cX1_read 40 = .ok (.iload 4, 2) := by decide +kernel
theorem dX1_read_42 : decode cX1_read 42 = .ok (.invokevirtual 40, 3) := by decide +kernel
theorem dX1_read_45 : decode cX1_read 45 = .ok (.ifCond .ne 18, 3) := by decide +kernel
theorem dX1_read_48 : decode cX1_read 48 = .ok (.aload_n 1, 1) := by decide +kernel
theorem dX1_read_49 : decode cX1_read 49 = .ok (.iload 4, 2) := by decide +kernel
theorem dX1_read_51 : decode cX1_read 51 = .ok (.invokestatic 44, 3) := by decide +kernel
theorem dX1_read_54 : decode cX1_read 54 = .ok (.istore_n 3, 1) := by decide +kernel
theorem dX1_read_55 : decode cX1_read 55 = .ok (.aload_n 0, 1) := by decide +kernel
theorem dX1_read_56 : decode cX1_read 56 = .ok (.aload_n 1, 1) := by decide +kernel
theorem dX1_read_57 : decode cX1_read 57 = .ok (.iload 4, 2) := by decide +kernel
theorem dX1_read_59 : decode cX1_read 59 = .ok (.iload_n 3, 1) := by decide +kernel
theorem dX1_read_60 : decode cX1_read 60 = .ok (.invokevirtual 48, 3) := by decide +kernel
theorem dX1_read_63 : decode cX1_read 63 = .ok (.iinc 4 1, 3) := by decide +kernel
theorem dX1_read_66 : decode cX1_read 66 = .ok (.goto (-46), 3) := by decide +kernel
theorem dX1_read_69 : decode cX1_read 69 = .ok (.aload_n 0, 1) := by decide +kernel
theorem dX1_read_70 : decode cX1_read 70 = .ok (.getfield 21, 3) := by decide +kernel
theorem dX1_read_73 : decode cX1_read 73 = .ok (.ifCond .ne 26, 3) := by decide +kernel
theorem dX1_read_76 : decode cX1_read 76 = .ok (.aload_n 1, 1) := by decide +kernel
theorem dX1_read_77 : decode cX1_read 77 = .ok (.invokevirtual 28, 3) := by decide +kernel
theorem dX1_read_80 : decode cX1_read 80 = .ok (.sipush 160, 3) := by decide +kernel
theorem dX1_read_83 : decode cX1_read 83 = .ok (.if_icmp .gt 10, 3) := by decide +kernel
theorem dX1_read_86 : decode cX1_read 86 = .ok (.aload_n 0, 1) := by decide +kernel
theorem dX1_read_87 : decode cX1_read 87 = .ok (.getfield 52, 3) := by decide +kernel
theorem dX1_read_90 : decode cX1_read 90 = .ok (.ifCond .eq 9, 3) := by decide +kernel
theorem dX1_read_93 : decode cX1_read 93 = .ok (.aload_n 0, 1) := by decide +kernel
theorem dX1_read_94 : decode cX1_read 94 = .ok (.iconst 1, 1) := by decide +kernel
theorem dX1_read_95 : decode cX1_read 95 = .ok (.iload_n 2, 1) := by decide +kernel
theorem dX1_read_96 : decode cX1_read 96 = .ok (.invokevirtual 55, 3) := by decide +kernel
theorem dX1_read_99 : decode cX1_read 99 = .ok (.aload_n 0, 1) := by decide +kernel
theorem dX1_read_100 : decode cX1_read 100 = .ok (.getfield 21, 3) := by decide +kernel
theorem dX1_read_103 : decode cX1_read 103 = .ok (.ifCond .eq 10, 3) := by decide +kernel
theorem dX1_read_106 : decode cX1_read 106 = .ok (.iconst (-1), 1) := by decide +kernel
theorem dX1_read_107 : decode cX1_read 107 = .ok (.aload_n 0, 1) := by decide +kernel
theorem dX1_read_108 : decode cX1_read 108 = .ok (.getfield 59, 3) := by decide +kernel
theorem dX1_read_111 : decode cX1_read 111 = .ok (.isub, 1) := by decide +kernel
theorem dX1_read_112 : decode cX1_read 112 = .ok (.ireturn, 1) := by decide +kernel
theorem dX1_read_113 : decode cX1_read 113 = .ok (.aload_n 0, 1) := by decide +kernel
theorem dX1_read_114 : decode cX1_read 114 = .ok (.getfield 15, 3) := by decide +kernel
theorem dX1_read_117 : decode cX1_read 117 = .ok (.iconst 0, 1) := by decide +kernel
theorem dX1_read_118 : decode cX1_read 118 = .ok (.aload_n 0, 1) := by decide +kernel
theorem dX1_read_119 : decode cX1_read 119 = .ok (.getfield 11, 3) := by decide +kernel
theorem dX1_read_122 : decode cX1_read 122 = .ok (.iconst 0, 1) := by decide +kernel
theorem dX1_read_123 : decode cX1_read 123 = .ok (.bipush 9, 2) := by decide +kernel
theorem dX1_read_125 : decode cX1_read 125 = .ok (.invokestatic 62, 3) := by decide +kernel
theorem dX1_read_128 : decode cX1_read 128 = .ok (.aload_n 0, 1) := by decide +kernel
theorem dX1_read_129 : decode cX1_read 129 = .ok (.getfield 68, 3) := by decide +kernel
theorem dX1_read_132 : decode cX1_read 132 = .ok (.invokestatic 71, 3) := by decide +kernel
theorem dX1_read_135 : decode cX1_read 135 = .ok (.ireturn, 1) := by decide +kernel
theorem dX1_begin_0 : decode cX1_begin 0 = .ok (.getstatic 18, 3) := by decide +kernel
theorem dX1_begin_3 : decode cX1_begin 3 = .ok (.iconst 0, 1) := by decide +kernel
theorem dX1_begin_4 : decode cX1_begin 4 = .ok (.aload_n 0, 1) := by decide +kernel
theorem dX1_begin_5 : decode cX1_begin 5 = .ok (.getfield 15, 3) := by decide +kernel
theorem dX1_begin_8 : decode cX1_begin 8 = .ok (.iconst 0, 1) := by decide +kernel
theorem dX1_begin_9 : decode cX1_begin 9 = .ok (.bipush 9, 2) := by decide +kernel
theorem dX1_begin_11 : decode cX1_begin 11 = .ok (.invokestatic 62, 3) := by decide +kernel
theorem dX1_begin_14 : decode cX1_begin 14 = .ok (.aload_n 0, 1) := by decide +kernel
theorem dX1_begin_15 : decode cX1_begin 15 = .ok (.iconst 0, 1) := by decide +kernel
theorem dX1_begin_16 : decode cX1_begin 16 = .ok (.putfield 52, 3) := by decide +kernel
theorem dX1_begin_19 : decode cX1_begin 19 = .ok (.aload_n 0, 1) := by decide +kernel
theorem dX1_begin_20 : decode cX1_begin 20 = .ok (.iconst 0, 1) := by decide +kernel
theorem dX1_begin_21 : decode cX1_begin 21 = .ok (.putfield 77, 3) := by decide +kernel
theorem dX1_begin_24 : decode cX1_begin 24 = .ok (.aload_n 0, 1) := by decide +kernel
theorem dX1_begin_25 : decode cX1_begin 25 = .ok (.iconst 0, 1) := by decide +kernel
theorem dX1_begin_26 : decode cX1_begin 26 = .ok (.putfield 68, 3) := by decide +kernel
theorem dX1_begin_29 : decode cX1_begin 29 = .ok (.aload_n 0, 1) := by decide +kernel
theorem dX1_begin_30 : decode cX1_begin 30 = .ok (.iconst 0, 1) := by decide +kernel
theorem dX1_begin_31 : decode cX1_begin 31 = .ok (.putfield 21, 3) := by decide +kernel
theorem dX1_begin_34 : decode cX1_begin 34 = .ok (.aload_n 0, 1) := by decide +kernel
theorem dX1_begin_35 : decode cX1_begin 35 = .ok (.iconst 0, 1) := by decide +kernel
theorem dX1_begin_36 : decode cX1_begin 36 = .ok (.putfield 59, 3) := by decide +kernel
theorem dX1_begin_39 : decode cX1_begin 39 = .ok (.return_, 1) := by decide +kernel
theorem dX1_fail_0 : decode cX1_fail 0 = .ok (.aload_n 0, 1) := by decide +kernel
theorem dX1_fail_1 : decode cX1_fail 1 = .ok (.iload_n 1, 1) := by decide +kernel
theorem dX1_fail_2 : decode cX1_fail 2 = .ok (.putfield 21, 3) := by decide +kernel
theorem dX1_fail_5 : decode cX1_fail 5 = .ok (.aload_n 0, 1) := by decide +kernel
theorem dX1_fail_6 : decode cX1_fail 6 = .ok (.iload_n 2, 1) := by decide +kernel
theorem dX1_fail_7 : decode cX1_fail 7 = .ok (.putfield 59, 3) := by decide +kernel
theorem dX1_fail_10 : decode cX1_fail 10 = .ok (.return_, 1) := by decide +kernel
theorem dX1_endOfToken_0 : decode cX1_endOfToken 0 = .ok (.iload_n 1, 1) := by decide +kernel
theorem dX1_endOfToken_1 : decode cX1_endOfToken 1 = .ok (.istore_n 2, 1) := by decide +kernel
theorem dX1_endOfToken_2 : decode cX1_endOfToken 2 = .ok (.iload_n 1, 1) := by decide +kernel
theorem dX1_endOfToken_3 : decode cX1_endOfToken 3 = .ok (.istore_n 3, 1) := by decide +kernel
theorem dX1_endOfToken_4 : decode cX1_endOfToken 4 = .ok (.iload_n 3, 1) := by decide +kernel
theorem dX1_endOfToken_5 : decode cX1_endOfToken 5 = .ok (.aload_n 0, 1) := by decide +kernel
theorem dX1_endOfToken_6 : decode cX1_endOfToken 6 = .ok (.invokevirtual 28, 3) := by decide +kernel
theorem dX1_endOfToken_9 : decode cX1_endOfToken 9 = .ok (.if_icmp .ge 34, 3) := by decide +kernel
theorem dX1_endOfToken_12 : decode cX1_endOfToken 12 = .ok (.iload_n 2, 1) := by decide +kernel
theorem dX1_endOfToken_13 : decode cX1_endOfToken 13 = .ok (.iload_n 3, 1) := by decide +kernel
theorem dX1_endOfToken_14 : decode cX1_endOfToken 14 = .ok (.if_icmp .ne 29, 3) := by decide +kernel
theorem dX1_endOfToken_17 : decode cX1_endOfToken 17 = .ok (.aload_n 0, 1) := by decide +kernel
theorem dX1_endOfToken_18 : decode cX1_endOfToken 18 = .ok (.iload_n 3, 1) := by decide +kernel
theorem dX1_endOfToken_19 : decode cX1_endOfToken 19 = .ok (.invokevirtual 80, 3) := by decide +kernel
theorem dX1_endOfToken_22 : decode cX1_endOfToken 22 = .ok (.ifCond .ne 11, 3) := by decide +kernel
theorem dX1_endOfToken_25 : decode cX1_endOfToken 25 = .ok (.aload_n 0, 1) := by decide +kernel
theorem dX1_endOfToken_26 : decode cX1_endOfToken 26 = .ok (.iload_n 3, 1) := by decide +kernel
theorem dX1_endOfToken_27 : decode cX1_endOfToken 27 = .ok (.invokevirtual 83, 3) := by decide +kernel
theorem dX1_endOfToken_30 : decode cX1_endOfToken 30 = .ok (.ifCond .eq 7, 3) := by decide +kernel
theorem dX1_endOfToken_33 : decode cX1_endOfToken 33 = .ok (.iload_n 3, 1) := by decide +kernel
theorem dX1_endOfToken_34 : decode cX1_endOfToken 34 = .ok (.iconst 1, 1) := by decide +kernel
theorem dX1_endOfToken_35 : decode cX1_endOfToken 35 = .ok (.iadd, 1) := by decide +kernel
theorem dX1_endOfToken_36 : decode cX1_endOfToken 36 = .ok (.istore_n 2, 1) := by decide +kernel
theorem dX1_endOfToken_37 : decode cX1_endOfToken 37 = .ok (.iinc 3 1, 3) := by decide +kernel
theorem dX1_endOfToken_40 : decode cX1_endOfToken 40 = .ok (.goto (-36), 3) := by decide +kernel
theorem dX1_endOfToken_43 : decode cX1_endOfToken 43 = .ok (.iload_n 2, 1) := by decide +kernel
theorem dX1_endOfToken_44 : decode cX1_endOfToken 44 = .ok (.iload_n 1, 1) := by decide +kernel
theorem dX1_endOfToken_45 : decode cX1_endOfToken 45 = .ok (.iconst 1, 1) := by decide +kernel
theorem dX1_endOfToken_46 : decode cX1_endOfToken 46 = .ok (.iadd, 1) := by decide +kernel
theorem dX1_endOfToken_47 : decode cX1_endOfToken 47 = .ok (.invokestatic 86, 3) := by decide +kernel
theorem dX1_endOfToken_50 : decode cX1_endOfToken 50 = .ok (.ireturn, 1) := by decide +kernel
theorem dX1_take_0 : decode cX1_take 0 = .ok (.aload_n 1, 1) := by decide +kernel
theorem dX1_take_1 : decode cX1_take 1 = .ok (.iload_n 2, 1) := by decide +kernel
theorem dX1_take_2 : decode cX1_take 2 = .ok (.invokevirtual 80, 3) := by decide +kernel
theorem dX1_take_5 : decode cX1_take 5 = .ok (.ifCond .eq 20, 3) := by decide +kernel
theorem dX1_take_8 : decode cX1_take 8 = .ok (.aload_n 0, 1) := by decide +kernel
theorem dX1_take_9 : decode cX1_take 9 = .ok (.getfield 52, 3) := by decide +kernel
theorem dX1_take_12 : decode cX1_take 12 = .ok (.ifCond .ne 13, 3) := by decide +kernel
theorem dX1_take_15 : decode cX1_take 15 = .ok (.aload_n 0, 1) := by decide +kernel
theorem dX1_take_16 : decode cX1_take 16 = .ok (.aload_n 1, 1) := by decide +kernel
theorem dX1_take_17 : decode cX1_take 17 = .ok (.iload_n 2, 1) := by decide +kernel
theorem dX1_take_18 : decode cX1_take 18 = .ok (.iload_n 3, 1) := by decide +kernel
theorem dX1_take_19 : decode cX1_take 19 = .ok (.invokevirtual 89, 3) := by decide +kernel
theorem dX1_take_22 : decode cX1_take 22 = .ok (.goto 61, 3) := by decide +kernel
theorem dX1_take_25 : decode cX1_take 25 = .ok (.aload_n 1, 1) := by decide +kernel
theorem dX1_take_26 : decode cX1_take 26 = .ok (.iload_n 2, 1) := by decide +kernel
theorem dX1_take_27 : decode cX1_take 27 = .ok (.invokevirtual 83, 3) := by decide +kernel
theorem dX1_take_30 : decode cX1_take 30 = .ok (.ifCond .eq 21, 3) := by decide +kernel
theorem dX1_take_33 : decode cX1_take 33 = .ok (.aload_n 0, 1) := by decide +kernel
theorem dX1_take_34 : decode cX1_take 34 = .ok (.getfield 52, 3) := by decide +kernel
theorem dX1_take_37 : decode cX1_take 37 = .ok (.iconst 1, 1) := by decide +kernel
theorem dX1_take_38 : decode cX1_take 38 = .ok (.if_icmp .ne 13, 3) := by decide +kernel
theorem dX1_take_41 : decode cX1_take 41 = .ok (.aload_n 0, 1) := by decide +kernel
theorem dX1_take_42 : decode cX1_take 42 = .ok (.aload_n 1, 1) := by decide +kernel
theorem dX1_take_43 : decode cX1_take 43 = .ok (.iload_n 2, 1) := by decide +kernel
theorem dX1_take_44 : decode cX1_take 44 = .ok (.iload_n 3, 1) := by decide +kernel
theorem dX1_take_45 : decode cX1_take 45 = .ok (.invokevirtual 92, 3) := by decide +kernel
theorem dX1_take_48 : decode cX1_take 48 = .ok (.goto 35, 3) := by decide +kernel
theorem dX1_take_51 : decode cX1_take 51 = .ok (.aload_n 1, 1) := by decide +kernel
theorem dX1_take_52 : decode cX1_take 52 = .ok (.iload_n 2, 1) := by decide +kernel
theorem dX1_take_53 : decode cX1_take 53 = .ok (.invokevirtual 95, 3) := by decide +kernel
theorem dX1_take_56 : decode cX1_take 56 = .ok (.bipush 59, 2) := by decide +kernel
theorem dX1_take_58 : decode cX1_take 58 = .ok (.if_icmp .ne 19, 3) := by decide +kernel
theorem dX1_take_61 : decode cX1_take 61 = .ok (.aload_n 0, 1) := by decide +kernel
theorem dX1_take_62 : decode cX1_take 62 = .ok (.getfield 52, 3) := by decide +kernel
theorem dX1_take_65 : decode cX1_take 65 = .ok (.iconst 2, 1) := by decide +kernel
theorem dX1_take_66 : decode cX1_take 66 = .ok (.if_icmp .ne 11, 3) := by decide +kernel
theorem dX1_take_69 : decode cX1_take 69 = .ok (.aload_n 0, 1) := by decide +kernel
theorem dX1_take_70 : decode cX1_take 70 = .ok (.iconst 0, 1) := by decide +kernel
theorem dX1_take_71 : decode cX1_take 71 = .ok (.putfield 52, 3) := by decide +kernel
theorem dX1_take_74 : decode cX1_take 74 = .ok (.goto 9, 3) := by decide +kernel
theorem dX1_take_77 : decode cX1_take 77 = .ok (.aload_n 0, 1) := by decide +kernel
theorem dX1_take_78 : decode cX1_take 78 = .ok (.iconst 1, 1) := by decide +kernel
theorem dX1_take_79 : decode cX1_take 79 = .ok (.iload_n 2, 1) := by decide +kernel
theorem dX1_take_80 : decode cX1_take 80 = .ok (.invokevirtual 55, 3) := by decide +kernel
theorem dX1_take_83 : decode cX1_take 83 = .ok (.return_, 1) := by decide +kernel
theorem dX1_takeWord_0 : decode cX1_takeWord 0 = .ok (.aload_n 1, 1) := by decide +kernel
theorem dX1_takeWord_1 : decode cX1_takeWord 1 = .ok (.iload_n 2, 1) := by decide +kernel
theorem dX1_takeWord_2 : decode cX1_takeWord 2 = .ok (.iload_n 3, 1) := by decide +kernel
theorem dX1_takeWord_3 : decode cX1_takeWord 3 = .ok (.invokestatic 98, 3) := by decide +kernel
theorem dX1_takeWord_6 : decode cX1_takeWord 6 = .ok (.istore 4, 2) := by decide +kernel
theorem dX1_takeWord_8 : decode cX1_takeWord 8 = .ok (.iload 4, 2) := by decide +kernel
theorem dX1_takeWord_10 : decode cX1_takeWord 10 = .ok (.iconst (-1), 1) := by decide +kernel
theorem dX1_takeWord_11 : decode cX1_takeWord 11 = .ok (.if_icmp .ne 12, 3) := by decide +kernel
theorem dX1_takeWord_14 : decode cX1_takeWord 14 = .ok (.aload_n 0, 1) := by decide +kernel
theorem dX1_takeWord_15 : decode cX1_takeWord 15 = .ok (.iconst 1, 1) := by decide +kernel
theorem dX1_takeWord_16 : decode cX1_takeWord 16 = .ok (.iload_n 2, 1) := by decide +kernel
theorem dX1_takeWord_17 : decode cX1_takeWord 17 = .ok (.invokevirtual 55, 3) := by decide +kernel
theorem dX1_takeWord_20 : decode cX1_takeWord 20 = .ok (.goto 48, 3) := by decide +kernel
theorem dX1_takeWord_23 : decode cX1_takeWord 23 = .ok (.aload_n 0, 1) := by decide +kernel
theorem dX1_takeWord_24 : decode cX1_takeWord 24 = .ok (.getfield 68, 3) := by decide +kernel
theorem dX1_takeWord_27 : decode cX1_takeWord 27 = .ok (.iconst 1, 1) := by decide +kernel
theorem dX1_takeWord_28 : decode cX1_takeWord 28 = .ok (.iload 4, 2) := by decide +kernel
theorem dX1_takeWord_30 : decode cX1_takeWord 30 = .ok (.ishl, 1) := by decide +kernel
theorem dX1_takeWord_31 : decode cX1_takeWord 31 = .ok (.iand, 1) := by decide +kernel
theorem dX1_takeWord_32 : decode cX1_takeWord 32 = .ok (.ifCond .eq 12, 3) := by decide +kernel
theorem dX1_takeWord_35 : decode cX1_takeWord 35 = .ok (.aload_n 0, 1) := by decide +kernel
theorem dX1_takeWord_36 : decode cX1_takeWord 36 = .ok (.iconst 3, 1) := by decide +kernel
theorem dX1_takeWord_37 : decode cX1_takeWord 37 = .ok (.iload_n 2, 1) := by decide +kernel
theorem dX1_takeWord_38 : decode cX1_takeWord 38 = .ok (.invokevirtual 55, 3) := by decide +kernel
theorem dX1_takeWord_41 : decode cX1_takeWord 41 = .ok (.goto 27, 3) := by decide +kernel
theorem dX1_takeWord_44 : decode cX1_takeWord 44 = .ok (.aload_n 0, 1) := by decide +kernel
theorem dX1_takeWord_45 : decode cX1_takeWord 45 = .ok (.dup, 1) := by decide +kernel
theorem dX1_takeWord_46 : decode cX1_takeWord 46 = .ok (.getfield 68, 3) := by decide +kernel
theorem dX1_takeWord_49 : decode cX1_takeWord 49 = .ok (.iconst 1, 1) := by decide +kernel
theorem dX1_takeWord_50 : decode cX1_takeWord 50 = .ok (.iload 4, 2) := by decide +kernel
theorem dX1_takeWord_52 : decode cX1_takeWord 52 = .ok (.ishl, 1) := by decide +kernel
theorem dX1_takeWord_53 : decode cX1_takeWord 53 = .ok (.ior, 1) := by decide +kernel
theorem dX1_takeWord_54 : decode cX1_takeWord 54 = .ok (.putfield 68, 3) := by decide +kernel
theorem dX1_takeWord_57 : decode cX1_takeWord 57 = .ok (.aload_n 0, 1) := by decide +kernel
theorem dX1_takeWord_58 : decode cX1_takeWord 58 = .ok (.iload 4, 2) := by decide +kernel
theorem dX1_takeWord_60 : decode cX1_takeWord 60 = .ok (.putfield 77, 3) := by decide +kernel
theorem dX1_takeWord_63 : decode cX1_takeWord 63 = .ok (.aload_n 0, 1) := by decide +kernel
theorem dX1_takeWord_64 : decode cX1_takeWord 64 = .ok (.iconst 1, 1) := by decide +kernel
theorem dX1_takeWord_65 : decode cX1_takeWord 65 = .ok (.putfield 52, 3) := by decide +kernel
theorem dX1_takeWord_68 : decode cX1_takeWord 68 = .ok (.return_, 1) := by decide +kernel
theorem dX1_takeNumber_0 : decode cX1_takeNumber 0 = .ok (.aload_n 1, 1) := by decide +kernel
theorem dX1_takeNumber_1 : decode cX1_takeNumber 1 = .ok (.iload_n 2, 1) := by decide +kernel
theorem dX1_takeNumber_2 : decode cX1_takeNumber 2 = .ok (.iload_n 3, 1) := by decide +kernel
theorem dX1_takeNumber_3 : decode cX1_takeNumber 3 = .ok (.invokestatic 102, 3) := by decide +kernel
theorem dX1_takeNumber_6 : decode cX1_takeNumber 6 = .ok (.istore 4, 2) := by decide +kernel
theorem dX1_takeNumber_8 : decode cX1_takeNumber 8 = .ok (.iload 4, 2) := by decide +kernel
theorem dX1_takeNumber_10 : decode cX1_takeNumber 10 = .ok (.iconst (-1), 1) := by decide +kernel
theorem dX1_takeNumber_11 : decode cX1_takeNumber 11 = .ok (.if_icmp .ne 12, 3) := by decide +kernel
theorem dX1_takeNumber_14 : decode cX1_takeNumber 14 = .ok (.aload_n 0, 1) := by decide +kernel
theorem dX1_takeNumber_15 : decode cX1_takeNumber 15 = .ok (.iconst 1, 1) := by decide +kernel
theorem dX1_takeNumber_16 : decode cX1_takeNumber 16 = .ok (.iload_n 2, 1) := by decide +kernel
theorem dX1_takeNumber_17 : decode cX1_takeNumber 17 = .ok (.invokevirtual 55, 3) := by decide +kernel
theorem dX1_takeNumber_20 : decode cX1_takeNumber 20 = .ok (.goto 54, 3) := by decide +kernel
theorem dX1_takeNumber_23 : decode cX1_takeNumber 23 = .ok (.iload 4, 2) := by decide +kernel
theorem dX1_takeNumber_25 : decode cX1_takeNumber 25 = .ok (.getstatic 105, 3) := by decide +kernel
theorem dX1_takeNumber_28 : decode cX1_takeNumber 28 = .ok (.aload_n 0, 1) := by decide +kernel
theorem dX1_takeNumber_29 : decode cX1_takeNumber 29 = .ok (.getfield 77, 3) := by decide +kernel
theorem dX1_takeNumber_32 : decode cX1_takeNumber 32 = .ok (.iaload, 1) := by decide +kernel
theorem dX1_takeNumber_33 : decode cX1_takeNumber 33 = .ok (.if_icmp .lt 16, 3) := by decide +kernel
theorem dX1_takeNumber_36 : decode cX1_takeNumber 36 = .ok (.iload 4, 2) := by decide +kernel
theorem dX1_takeNumber_38 : decode cX1_takeNumber 38 = .ok (.getstatic 108, 3) := by decide +kernel
theorem dX1_takeNumber_41 : decode cX1_takeNumber 41 = .ok (.aload_n 0, 1) := by decide +kernel
theorem dX1_takeNumber_42 : decode cX1_takeNumber 42 = .ok (.getfield 77, 3) := by decide +kernel
theorem dX1_takeNumber_45 : decode cX1_takeNumber 45 = .ok (.iaload, 1) := by decide +kernel
theorem dX1_takeNumber_46 : decode cX1_takeNumber 46 = .ok (.if_icmp .le 12, 3) := by decide +kernel
theorem dX1_takeNumber_49 : decode cX1_takeNumber 49 = .ok (.aload_n 0, 1) := by decide +kernel
theorem dX1_takeNumber_50 : decode cX1_takeNumber 50 = .ok (.iconst 2, 1) := by decide +kernel
theorem dX1_takeNumber_51 : decode cX1_takeNumber 51 = .ok (.iload_n 2, 1) := by decide +kernel
theorem dX1_takeNumber_52 : decode cX1_takeNumber 52 = .ok (.invokevirtual 55, 3) := by decide +kernel
theorem dX1_takeNumber_55 : decode cX1_takeNumber 55 = .ok (.goto 19, 3) := by decide +kernel
theorem dX1_takeNumber_58 : decode cX1_takeNumber 58 = .ok (.aload_n 0, 1) := by decide +kernel
theorem dX1_takeNumber_59 : decode cX1_takeNumber 59 = .ok (.getfield 15, 3) := by decide +kernel
theorem dX1_takeNumber_62 : decode cX1_takeNumber 62 = .ok (.aload_n 0, 1) := by decide +kernel
theorem dX1_takeNumber_63 : decode cX1_takeNumber 63 = .ok (.getfield 77, 3) := by decide +kernel
theorem dX1_takeNumber_66 : decode cX1_takeNumber 66 = .ok (.iload 4, 2) := by decide +kernel
theorem dX1_takeNumber_68 : decode cX1_takeNumber 68 = .ok (.iastore, 1) := by decide +kernel
theorem dX1_takeNumber_69 : decode cX1_takeNumber 69 = .ok (.aload_n 0, 1) := by decide +kernel
theorem dX1_takeNumber_70 : decode cX1_takeNumber 70 = .ok (.iconst 2, 1) := by decide +kernel
theorem dX1_takeNumber_71 : decode cX1_takeNumber 71 = .ok (.putfield 52, 3) := by decide +kernel
theorem dX1_takeNumber_74 : decode cX1_takeNumber 74 = .ok (.return_, 1) := by decide +kernel
theorem dX1_kindOfWord_0 : decode cX1_kindOfWord 0 = .ok (.iconst 0, 1) := by decide +kernel
theorem dX1_kindOfWord_1 : decode cX1_kindOfWord 1 = .ok (.istore_n 3, 1) := by decide +kernel
theorem dX1_kindOfWord_2 : decode cX1_kindOfWord 2 = .ok (.iload_n 3, 1) := by decide +kernel
theorem dX1_kindOfWord_3 : decode cX1_kindOfWord 3 = .ok (.bipush 9, 2) := by decide +kernel
theorem dX1_kindOfWord_5 : decode cX1_kindOfWord 5 = .ok (.if_icmp .ge 24, 3) := by decide +kernel
theorem dX1_kindOfWord_8 : decode cX1_kindOfWord 8 = .ok (.aload_n 0, 1) := by decide +kernel
theorem dX1_kindOfWord_9 : decode cX1_kindOfWord 9 = .ok (.iload_n 1, 1) := by decide +kernel
theorem dX1_kindOfWord_10 : decode cX1_kindOfWord 10 = .ok (.iload_n 2, 1) := by decide +kernel
theorem dX1_kindOfWord_11 : decode cX1_kindOfWord 11 = .ok (.iload_n 3, 1) := by decide +kernel
theorem dX1_kindOfWord_12 : decode cX1_kindOfWord 12 = .ok (.invokestatic 111, 3) := by decide +kernel
theorem dX1_kindOfWord_15 : decode cX1_kindOfWord 15 = .ok (.invokestatic 115, 3) := by decide +kernel
theorem dX1_kindOfWord_18 : decode cX1_kindOfWord 18 = .ok (.ifCond .eq 5, 3) := by decide +kernel
theorem dX1_kindOfWord_21 : decode cX1_kindOfWord 21 = .ok (.iload_n 3, 1) := by decide +kernel
theorem dX1_kindOfWord_22 : decode cX1_kindOfWord 22 = .ok (.ireturn, 1) := by decide +kernel
theorem dX1_kindOfWord_23 : decode cX1_kindOfWord 23 = .ok (.iinc 3 1, 3) := by decide +kernel
theorem dX1_kindOfWord_26 : decode cX1_kindOfWord 26 = .ok (.goto (-24), 3) := by decide +kernel
theorem dX1_kindOfWord_29 : decode cX1_kindOfWord 29 = .ok (.iconst (-1), 1) := by decide +kernel
theorem dX1_kindOfWord_30 : decode cX1_kindOfWord 30 = .ok (.ireturn, 1) := by decide +kernel
theorem dX1_isWord_0 : decode cX1_isWord 0 = .ok (.iload_n 2, 1) := by decide +kernel
theorem dX1_isWord_1 : decode cX1_isWord 1 = .ok (.iload_n 1, 1) := by decide +kernel
theorem dX1_isWord_2 : decode cX1_isWord 2 = .ok (.isub, 1) := by decide +kernel
theorem dX1_isWord_3 : decode cX1_isWord 3 = .ok (.aload_n 3, 1) := by decide +kernel
theorem dX1_isWord_4 : decode cX1_isWord 4 = .ok (.invokevirtual 119, 3) := by decide +kernel
theorem dX1_isWord_7 : decode cX1_isWord 7 = .ok (.if_icmp .eq 5, 3) := by decide +kernel
theorem dX1_isWord_10 : decode cX1_isWord 10 = .ok (.iconst 0, 1) := by decide +kernel
theorem dX1_isWord_11 : decode cX1_isWord 11 = .ok (.ireturn, 1) := by decide +kernel
theorem dX1_isWord_12 : decode cX1_isWord 12 = .ok (.iconst 0, 1) := by decide +kernel
theorem dX1_isWord_13 : decode cX1_isWord 13 = .ok (.istore 4, 2) := by decide +kernel
theorem dX1_isWord_15 : decode cX1_isWord 15 = .ok (.iload 4, 2) := by decide +kernel
theorem dX1_isWord_17 : decode cX1_isWord 17 = .ok (.aload_n 3, 1) := by decide +kernel
theorem dX1_isWord_18 : decode cX1_isWord 18 = .ok (.invokevirtual 119, 3) := by decide +kernel
theorem dX1_isWord_21 : decode cX1_isWord 21 = .ok (.if_icmp .ge 28, 3) := by decide +kernel
theorem dX1_isWord_24 : decode cX1_isWord 24 = .ok (.aload_n 0, 1) := by decide +kernel
theorem dX1_isWord_25 : decode cX1_isWord 25 = .ok (.iload_n 1, 1) := by decide +kernel
theorem dX1_isWord_26 : decode cX1_isWord 26 = .ok (.iload 4, 2) := by decide +kernel
theorem dX1_isWord_28 : decode cX1_isWord 28 = .ok (.iadd, 1) := by decide +kernel
theorem dX1_isWord_29 : decode cX1_isWord 29 = .ok (.invokevirtual 95, 3) := by decide +kernel
theorem dX1_isWord_32 : decode cX1_isWord 32 = .ok (.aload_n 3, 1) := by decide +kernel
theorem dX1_isWord_33 : decode cX1_isWord 33 = .ok (.iload 4, 2) := by decide +kernel
theorem dX1_isWord_35 : decode cX1_isWord 35 = .ok (.invokevirtual 122, 3) := by decide +kernel
theorem dX1_isWord_38 : decode cX1_isWord 38 = .ok (.if_icmp .eq 5, 3) := by decide +kernel
theorem dX1_isWord_41 : decode cX1_isWord 41 = .ok (.iconst 0, 1) := by decide +kernel
theorem dX1_isWord_42 : decode cX1_isWord 42 = .ok (.ireturn, 1) := by decide +kernel
theorem dX1_isWord_43 : decode cX1_isWord 43 = .ok (.iinc 4 1, 3) := by decide +kernel
theorem dX1_isWord_46 : decode cX1_isWord 46 = .ok (.goto (-31), 3) := by decide +kernel
theorem dX1_isWord_49 : decode cX1_isWord 49 = .ok (.iconst 1, 1) := by decide +kernel
theorem dX1_isWord_50 : decode cX1_isWord 50 = .ok (.ireturn, 1) := by decide +kernel
theorem dX1_wordOf_0 : decode cX1_wordOf 0 = .ok (.iload_n 0, 1) := by decide +kernel
theorem dX1_wordOf_1 : decode cX1_wordOf 1 = .ok (.tableswitch 71 0 7 #[47, 50, 53, 56, 59, 62, 65, 68], 47) := by decide +kernel
theorem dX1_wordOf_48 : decode cX1_wordOf 48 = .ok (.ldc 126, 2) := by decide +kernel
theorem dX1_wordOf_50 : decode cX1_wordOf 50 = .ok (.areturn, 1) := by decide +kernel
theorem dX1_wordOf_51 : decode cX1_wordOf 51 = .ok (.ldc 128, 2) := by decide +kernel
theorem dX1_wordOf_53 : decode cX1_wordOf 53 = .ok (.areturn, 1) := by decide +kernel
theorem dX1_wordOf_54 : decode cX1_wordOf 54 = .ok (.ldc 130, 2) := by decide +kernel
theorem dX1_wordOf_56 : decode cX1_wordOf 56 = .ok (.areturn, 1) := by decide +kernel
theorem dX1_wordOf_57 : decode cX1_wordOf 57 = .ok (.ldc 132, 2) := by decide +kernel
theorem dX1_wordOf_59 : decode cX1_wordOf 59 = .ok (.areturn, 1) := by decide +kernel
theorem dX1_wordOf_60 : decode cX1_wordOf 60 = .ok (.ldc 134, 2) := by decide +kernel
theorem dX1_wordOf_62 : decode cX1_wordOf 62 = .ok (.areturn, 1) := by decide +kernel
theorem dX1_wordOf_63 : decode cX1_wordOf 63 = .ok (.ldc 136, 2) := by decide +kernel
theorem dX1_wordOf_65 : decode cX1_wordOf 65 = .ok (.areturn, 1) := by decide +kernel
theorem dX1_wordOf_66 : decode cX1_wordOf 66 = .ok (.ldc 138, 2) := by decide +kernel
theorem dX1_wordOf_68 : decode cX1_wordOf 68 = .ok (.areturn, 1) := by decide +kernel
theorem dX1_wordOf_69 : decode cX1_wordOf 69 = .ok (.ldc 140, 2) := by decide +kernel
theorem dX1_wordOf_71 : decode cX1_wordOf 71 = .ok (.areturn, 1) := by decide +kernel
theorem dX1_wordOf_72 : decode cX1_wordOf 72 = .ok (.ldc 142, 2) := by decide +kernel
theorem dX1_wordOf_74 : decode cX1_wordOf 74 = .ok (.areturn, 1) := by decide +kernel
theorem dX1_numberOf_0 : decode cX1_numberOf 0 = .ok (.iload_n 2, 1) := by decide +kernel
theorem dX1_numberOf_1 : decode cX1_numberOf 1 = .ok (.iload_n 1, 1) := by decide +kernel
theorem dX1_numberOf_2 : decode cX1_numberOf 2 = .ok (.isub, 1) := by decide +kernel
theorem dX1_numberOf_3 : decode cX1_numberOf 3 = .ok (.iconst 3, 1) := by decide +kernel
theorem dX1_numberOf_4 : decode cX1_numberOf 4 = .ok (.if_icmp .le 5, 3) := by decide +kernel
theorem dX1_numberOf_7 : decode cX1_numberOf 7 = .ok (.iconst (-1), 1) := by decide +kernel
theorem dX1_numberOf_8 : decode cX1_numberOf 8 = .ok (.ireturn, 1) := by decide +kernel
theorem dX1_numberOf_9 : decode cX1_numberOf 9 = .ok (.iconst 0, 1) := by decide +kernel
theorem dX1_numberOf_10 : decode cX1_numberOf 10 = .ok (.istore_n 3, 1) := by decide +kernel
theorem dX1_numberOf_11 : decode cX1_numberOf 11 = .ok (.iload_n 1, 1) := by decide +kernel
theorem dX1_numberOf_12 : decode cX1_numberOf 12 = .ok (.istore 4, 2) := by decide +kernel
theorem dX1_numberOf_14 : decode cX1_numberOf 14 = .ok (.iload 4, 2) := by decide +kernel
theorem dX1_numberOf_16 : decode cX1_numberOf 16 = .ok (.iload_n 2, 1) := by decide +kernel
theorem dX1_numberOf_17 : decode cX1_numberOf 17 = .ok (.if_icmp .ge 35, 3) := by decide +kernel
theorem dX1_numberOf_20 : decode cX1_numberOf 20 = .ok (.aload_n 0, 1) := by decide +kernel
theorem dX1_numberOf_21 : decode cX1_numberOf 21 = .ok (.iload 4, 2) := by decide +kernel
theorem dX1_numberOf_23 : decode cX1_numberOf 23 = .ok (.invokevirtual 83, 3) := by decide +kernel
theorem dX1_numberOf_26 : decode cX1_numberOf 26 = .ok (.ifCond .ne 5, 3) := by decide +kernel
theorem dX1_numberOf_29 : decode cX1_numberOf 29 = .ok (.iconst (-1), 1) := by decide +kernel
theorem dX1_numberOf_30 : decode cX1_numberOf 30 = .ok (.ireturn, 1) := by decide +kernel
theorem dX1_numberOf_31 : decode cX1_numberOf 31 = .ok (.bipush 10, 2) := by decide +kernel
theorem dX1_numberOf_33 : decode cX1_numberOf 33 = .ok (.iload_n 3, 1) := by decide +kernel
theorem dX1_numberOf_34 : decode cX1_numberOf 34 = .ok (.imul, 1) := by decide +kernel
theorem dX1_numberOf_35 : decode cX1_numberOf 35 = .ok (.aload_n 0, 1) := by decide +kernel
theorem dX1_numberOf_36 : decode cX1_numberOf 36 = .ok (.iload 4, 2) := by decide +kernel
theorem dX1_numberOf_38 : decode cX1_numberOf 38 = .ok (.invokevirtual 95, 3) := by decide +kernel
theorem dX1_numberOf_41 : decode cX1_numberOf 41 = .ok (.iadd, 1) := by decide +kernel
theorem dX1_numberOf_42 : decode cX1_numberOf 42 = .ok (.bipush 48, 2) := by decide +kernel
theorem dX1_numberOf_44 : decode cX1_numberOf 44 = .ok (.isub, 1) := by decide +kernel
theorem dX1_numberOf_45 : decode cX1_numberOf 45 = .ok (.istore_n 3, 1) := by decide +kernel
theorem dX1_numberOf_46 : decode cX1_numberOf 46 = .ok (.iinc 4 1, 3) := by decide +kernel
theorem dX1_numberOf_49 : decode cX1_numberOf 49 = .ok (.goto (-35), 3) := by decide +kernel
theorem dX1_numberOf_52 : decode cX1_numberOf 52 = .ok (.iload_n 3, 1) := by decide +kernel
theorem dX1_numberOf_53 : decode cX1_numberOf 53 = .ok (.ireturn, 1) := by decide +kernel
theorem dX2_init_0 : decode cX2_init 0 = .ok (.aload_n 0, 1) := by decide +kernel
theorem dX2_init_1 : decode cX2_init 1 = .ok (.invokespecial 3, 3) := by decide +kernel
theorem dX2_init_4 : decode cX2_init 4 = .ok (.aload_n 0, 1) := by decide +kernel
theorem dX2_init_5 : decode cX2_init 5 = .ok (.sipush 320, 3) := by decide +kernel
theorem dX2_init_8 : decode cX2_init 8 = .ok (.newarray .int, 2) := by decide +kernel
theorem dX2_init_10 : decode cX2_init 10 = .ok (.putfield 9, 3) := by decide +kernel
theorem dX2_init_13 : decode cX2_init 13 = .ok (.aload_n 0, 1) := by decide +kernel
theorem dX2_init_14 : decode cX2_init 14 = .ok (.bipush 36, 2) := by decide +kernel
theorem dX2_init_16 : decode cX2_init 16 = .ok (.newarray .int, 2) := by decide +kernel
theorem dX2_init_18 : decode cX2_init 18 = .ok (.putfield 15, 3) := by decide +kernel
theorem dX2_init_21 : decode cX2_init 21 = .ok (.aload_n 0, 1) := by decide +kernel
theorem dX2_init_22 : decode cX2_init 22 = .ok (.bipush 36, 2) := by decide +kernel
theorem dX2_init_24 : decode cX2_init 24 = .ok (.newarray .int, 2) := by decide +kernel
theorem dX2_init_26 : decode cX2_init 26 = .ok (.putfield 18, 3) := by decide +kernel
theorem dX2_init_29 : decode cX2_init 29 = .ok (.aload_n 0, 1) := by decide +kernel
theorem dX2_init_30 : decode cX2_init 30 = .ok (.bipush 36, 2) := by decide +kernel
theorem dX2_init_32 : decode cX2_init 32 = .ok (.newarray .int, 2) := by decide +kernel
theorem dX2_init_34 : decode cX2_init 34 = .ok (.putfield 21, 3) := by decide +kernel
theorem dX2_init_37 : decode cX2_init 37 = .ok (.aload_n 0, 1) := by decide +kernel
theorem dX2_init_38 : decode cX2_init 38 = .ok (.bipush 36, 2) := by decide +kernel
theorem dX2_init_40 : decode cX2_init 40 = .ok (.newarray .int, 2) := by decide +kernel
theorem dX2_init_42 : decode cX2_init 42 = .ok (.putfield 24, 3) := by decide +kernel
theorem dX2_init_45 : decode cX2_init 45 = .ok (.aload_n 0, 1) := by decide +kernel
theorem dX2_init_46 : decode cX2_init 46 = .ok (.bipush 36, 2) := by decide +kernel
theorem dX2_init_48 : decode cX2_init 48 = .ok (.newarray .int, 2) := by decide +kernel
theorem dX2_init_50 : decode cX2_init 50 = .ok (.putfield 27, 3) := by decide +kernel
theorem dX2_init_53 : decode cX2_init 53 = .ok (.aload_n 0, 1) := by decide +kernel
theorem dX2_init_54 : decode cX2_init 54 = .ok (.bipush 36, 2) := by decide +kernel
theorem dX2_init_56 : decode cX2_init 56 = .ok (.newarray .int, 2) := by decide +kernel
theorem dX2_init_58 : decode cX2_init 58 = .ok (.putfield 30, 3) := by decide +kernel
theorem dX2_init_61 : decode cX2_init 61 = .ok (.aload_n 0, 1) := by decide +kernel
theorem dX2_init_62 : decode cX2_init 62 = .ok (.bipush 36, 2) := by decide +kernel
theorem dX2_init_64 : decode cX2_init 64 = .ok (.newarray .int, 2) := by decide +kernel
theorem dX2_init_66 : decode cX2_init 66 = .ok (.putfield 33, 3) := by decide +kernel
theorem dX2_init_69 : decode cX2_init 69 = .ok (.aload_n 0, 1) := by decide +kernel
theorem dX2_init_70 : decode cX2_init 70 = .ok (.bipush 36, 2) := by decide +kernel
theorem dX2_init_72 : decode cX2_init 72 = .ok (.newarray .boolean, 2) := by decide +kernel
theorem dX2_init_74 : decode cX2_init 74 = .ok (.putfield 36, 3) := by decide +kernel
theorem dX2_init_77 : decode cX2_init 77 = .ok (.return_, 1) := by decide +kernel
theorem dX2_begin_0 : decode cX2_begin 0 = .ok (.aload_n 0, 1) := by decide +kernel
theorem dX2_begin_1 : decode cX2_begin 1 = .ok (.iconst 0, 1) := by decide +kernel
theorem dX2_begin_2 : decode cX2_begin 2 = .ok (.iload_n 1, 1) := by decide +kernel
theorem dX2_begin_3 : decode cX2_begin 3 = .ok (.bipush 16, 2) := by decide +kernel
theorem dX2_begin_5 : decode cX2_begin 5 = .ok (.invokestatic 40, 3) := by decide +kernel
theorem dX2_begin_8 : decode cX2_begin 8 = .ok (.invokestatic 46, 3) := by decide +kernel
theorem dX2_begin_11 : decode cX2_begin 11 = .ok (.putfield 49, 3) := by decide +kernel
theorem dX2_begin_14 : decode cX2_begin 14 = .ok (.aload_n 0, 1) := by decide +kernel
theorem dX2_begin_15 : decode cX2_begin 15 = .ok (.iconst 0, 1) := by decide +kernel
theorem dX2_begin_16 : decode cX2_begin 16 = .ok (.iload_n 2, 1) := by decide +kernel
theorem dX2_begin_17 : decode cX2_begin 17 = .ok (.bipush 20, 2) := by decide +kernel
theorem dX2_begin_19 : decode cX2_begin 19 = .ok (.invokestatic 40, 3) := by decide +kernel
theorem dX2_begin_22 : decode cX2_begin 22 = .ok (.invokestatic 46, 3) := by decide +kernel
theorem dX2_begin_25 : decode cX2_begin 25 = .ok (.putfield 53, 3) := by decide +kernel
theorem dX2_begin_28 : decode cX2_begin 28 = .ok (.aload_n 0, 1) := by decide +kernel
theorem dX2_begin_29 : decode cX2_begin 29 = .ok (.aload_n 0, 1) := by decide +kernel
theorem dX2_begin_30 : decode cX2_begin 30 = .ok (.getfield 49, 3) := by decide +kernel
theorem dX2_begin_33 : decode cX2_begin 33 = .ok (.aload_n 0, 1) := by decide +kernel
theorem dX2_begin_34 : decode cX2_begin 34 = .ok (.getfield 53, 3) := by decide +kernel
theorem dX2_begin_37 : decode cX2_begin 37 = .ok (.iadd, 1) := by decide +kernel
theorem dX2_begin_38 : decode cX2_begin 38 = .ok (.putfield 56, 3) := by decide +kernel
theorem dX2_begin_41 : decode cX2_begin 41 = .ok (.iconst 0, 1) := by decide +kernel
theorem dX2_begin_42 : decode cX2_begin 42 = .ok (.istore_n 3, 1) := by decide +kernel
theorem dX2_begin_43 : decode cX2_begin 43 = .ok (.iload_n 3, 1) := by decide +kernel
theorem dX2_begin_44 : decode cX2_begin 44 = .ok (.aload_n 0, 1) := by decide +kernel
theorem dX2_begin_45 : decode cX2_begin 45 = .ok (.getfield 9, 3) := by decide +kernel
theorem dX2_begin_48 : decode cX2_begin 48 = .ok (.arraylength, 1) := by decide +kernel
theorem dX2_begin_49 : decode cX2_begin 49 = .ok (.if_icmp .ge 17, 3) := by decide +kernel
theorem dX2_begin_52 : decode cX2_begin 52 = .ok (.aload_n 0, 1) := by decide +kernel
theorem dX2_begin_53 : decode cX2_begin 53 = .ok (.getfield 9, 3) := by decide +kernel
theorem dX2_begin_56 : decode cX2_begin 56 = .ok (.iload_n 3, 1) := by decide +kernel
theorem dX2_begin_57 : decode cX2_begin 57 = .ok (.ldc 59, 2) := by decide +kernel
theorem dX2_begin_59 : decode cX2_begin 59 = .ok (.iastore, 1) := by decide +kernel
theorem dX2_begin_60 : decode cX2_begin 60 = .ok (.iinc 3 1, 3) := by decide +kernel
theorem dX2_begin_63 : decode cX2_begin 63 = .ok (.goto (-20), 3) := by decide +kernel
theorem dX2_begin_66 : decode cX2_begin 66 = .ok (.iconst 0, 1) := by decide +kernel
theorem dX2_begin_67 : decode cX2_begin 67 = .ok (.istore_n 3, 1) := by decide +kernel
theorem dX2_begin_68 : decode cX2_begin 68 = .ok (.iload_n 3, 1) := by decide +kernel
theorem dX2_begin_69 : decode cX2_begin 69 = .ok (.aload_n 0, 1) := by decide +kernel
theorem dX2_begin_70 : decode cX2_begin 70 = .ok (.getfield 56, 3) := by decide +kernel
theorem dX2_begin_73 : decode cX2_begin 73 = .ok (.if_icmp .ge 37, 3) := by decide +kernel
theorem dX2_begin_76 : decode cX2_begin 76 = .ok (.aload_n 0, 1) := by decide +kernel
theorem dX2_begin_77 : decode cX2_begin 77 = .ok (.getfield 15, 3) := by decide +kernel
theorem dX2_begin_80 : decode cX2_begin 80 = .ok (.iload_n 3, 1) := by decide +kernel
theorem dX2_begin_81 : decode cX2_begin 81 = .ok (.iconst (-1), 1) := by decide +kernel
theorem dX2_begin_82 : decode cX2_begin 82 = .ok (.iastore, 1) := by decide +kernel
theorem dX2_begin_83 : decode cX2_begin 83 = .ok (.aload_n 0, 1) := by decide +kernel
theorem dX2_begin_84 : decode cX2_begin 84 = .ok (.getfield 18, 3) := by decide +kernel
theorem dX2_begin_87 : decode cX2_begin 87 = .ok (.iload_n 3, 1) := by decide +kernel
theorem dX2_begin_88 : decode cX2_begin 88 = .ok (.iconst (-1), 1) := by decide +kernel
theorem dX2_begin_89 : decode cX2_begin 89 = .ok (.iastore, 1) := by decide +kernel
theorem dX2_begin_90 : decode cX2_begin 90 = .ok (.aload_n 0, 1) := by decide +kernel
theorem dX2_begin_91 : decode cX2_begin 91 = .ok (.getfield 21, 3) := by decide +kernel
theorem dX2_begin_94 : decode cX2_begin 94 = .ok (.iload_n 3, 1) := by decide +kernel
theorem dX2_begin_95 : decode cX2_begin 95 = .ok (.iconst 0, 1) := by decide +kernel
theorem dX2_begin_96 : decode cX2_begin 96 = .ok (.iastore, 1) := by decide +kernel
theorem dX2_begin_97 : decode cX2_begin 97 = .ok (.aload_n 0, 1) := by decide +kernel
theorem dX2_begin_98 : decode cX2_begin 98 = .ok (.getfield 24, 3) := by decide +kernel
theorem dX2_begin_101 : decode cX2_begin 101 = .ok (.iload_n 3, 1) := by decide +kernel
theorem dX2_begin_102 : decode cX2_begin 102 = .ok (.iconst 0, 1) := by decide +kernel
theorem dX2_begin_103 : decode cX2_begin 103 = .ok (.iastore, 1) := by decide +kernel
theorem dX2_begin_104 : decode cX2_begin 104 = .ok (.iinc 3 1, 3) := by decide +kernel
theorem dX2_begin_107 : decode cX2_begin 107 = .ok (.goto (-39), 3) := by decide +kernel
theorem dX2_begin_110 : decode cX2_begin 110 = .ok (.iconst 0, 1) := by decide +kernel
theorem dX2_begin_111 : decode cX2_begin 111 = .ok (.istore_n 3, 1) := by decide +kernel
theorem dX2_begin_112 : decode cX2_begin 112 = .ok (.iload_n 3, 1) := by decide +kernel
theorem dX2_begin_113 : decode cX2_begin 113 = .ok (.aload_n 0, 1) := by decide +kernel
theorem dX2_begin_114 : decode cX2_begin 114 = .ok (.getfield 53, 3) := by decide +kernel
theorem dX2_begin_117 : decode cX2_begin 117 = .ok (.if_icmp .ge 20, 3) := by decide +kernel
theorem dX2_begin_120 : decode cX2_begin 120 = .ok (.aload_n 0, 1) := by decide +kernel
theorem dX2_begin_121 : decode cX2_begin 121 = .ok (.aload_n 0, 1) := by decide +kernel
theorem dX2_begin_122 : decode cX2_begin 122 = .ok (.getfield 49, 3) := by decide +kernel
theorem dX2_begin_125 : decode cX2_begin 125 = .ok (.iload_n 3, 1) := by decide +kernel
theorem dX2_begin_126 : decode cX2_begin 126 = .ok (.iadd, 1) := by decide +kernel
theorem dX2_begin_127 : decode cX2_begin 127 = .ok (.iload_n 3, 1) := by decide +kernel
theorem dX2_begin_128 : decode cX2_begin 128 = .ok (.invokevirtual 60, 3) := by decide +kernel
theorem dX2_begin_131 : decode cX2_begin 131 = .ok (.iinc 3 1, 3) := by decide +kernel
theorem dX2_begin_134 : decode cX2_begin 134 = .ok (.goto (-22), 3) := by decide +kernel
theorem dX2_begin_137 : decode cX2_begin 137 = .ok (.return_, 1) := by decide +kernel
theorem dX2_allow_0 : decode cX2_allow 0 = .ok (.iload_n 1, 1) := by decide +kernel
theorem dX2_allow_1 : decode cX2_allow 1 = .ok (.ifCond .lt 35, 3) := by decide +kernel
theorem dX2_allow_4 : decode cX2_allow 4 = .ok (.iload_n 1, 1) := by decide +kernel
theorem dX2_allow_5 : decode cX2_allow 5 = .ok (.aload_n 0, 1) := by decide +kernel
theorem dX2_allow_6 : decode cX2_allow 6 = .ok (.getfield 49, 3) := by decide +kernel
theorem dX2_allow_9 : decode cX2_allow 9 = .ok (.if_icmp .ge 27, 3) := by decide +kernel
theorem dX2_allow_12 : decode cX2_allow 12 = .ok (.iload_n 2, 1) := by decide +kernel
theorem dX2_allow_13 : decode cX2_allow 13 = .ok (.ifCond .lt 23, 3) := by decide +kernel
theorem dX2_allow_16 : decode cX2_allow 16 = .ok (.iload_n 2, 1) := by decide +kernel
theorem dX2_allow_17 : decode cX2_allow 17 = .ok (.aload_n 0, 1) := by decide +kernel
theorem dX2_allow_18 : decode cX2_allow 18 = .ok (.getfield 53, 3) := by decide +kernel
theorem dX2_allow_21 : decode cX2_allow 21 = .ok (.if_icmp .ge 15, 3) := by decide +kernel
theorem dX2_allow_24 : decode cX2_allow 24 = .ok (.aload_n 0, 1) := by decide +kernel
theorem dX2_allow_25 : decode cX2_allow 25 = .ok (.getfield 9, 3) := by decide +kernel
theorem dX2_allow_28 : decode cX2_allow 28 = .ok (.iload_n 1, 1) := by decide +kernel
theorem dX2_allow_29 : decode cX2_allow 29 = .ok (.bipush 20, 2) := by decide +kernel
theorem dX2_allow_31 : decode cX2_allow 31 = .ok (.imul, 1) := by decide +kernel
theorem dX2_allow_32 : decode cX2_allow 32 = .ok (.iload_n 2, 1) := by decide +kernel
theorem dX2_allow_33 : decode cX2_allow 33 = .ok (.iadd, 1) := by decide +kernel
theorem dX2_allow_34 : decode cX2_allow 34 = .ok (.iload_n 3, 1) := by decide +kernel
theorem dX2_allow_35 : decode cX2_allow 35 = .ok (.iastore, 1) := by decide +kernel
theorem dX2_allow_36 : decode cX2_allow 36 = .ok (.return_, 1) := by decide +kernel
theorem dX2_settle_0 : decode cX2_settle 0 = .ok (.iconst 0, 1) := by decide +kernel
theorem dX2_settle_1 : decode cX2_settle 1 = .ok (.istore_n 1, 1) := by decide +kernel
theorem dX2_settle_2 : decode cX2_settle 2 = .ok (.iload_n 1, 1) := by decide +kernel
theorem dX2_settle_3 : decode cX2_settle 3 = .ok (.aload_n 0, 1) := by decide +kernel
theorem dX2_settle_4 : decode cX2_settle 4 = .ok (.getfield 49, 3) := by decide +kernel
theorem dX2_settle_7 : decode cX2_settle 7 = .ok (.if_icmp .ge 14, 3) := by decide +kernel
theorem dX2_settle_10 : decode cX2_settle 10 = .ok (.aload_n 0, 1) := by decide +kernel
theorem dX2_settle_11 : decode cX2_settle 11 = .ok (.iload_n 1, 1) := by decide +kernel
theorem dX2_settle_12 : decode cX2_settle 12 = .ok (.invokevirtual 64, 3) := by decide +kernel
theorem dX2_settle_15 : decode cX2_settle 15 = .ok (.iinc 1 1, 3) := by decide +kernel
theorem dX2_settle_18 : decode cX2_settle 18 = .ok (.goto (-16), 3) := by decide +kernel
theorem dX2_settle_21 : decode cX2_settle 21 = .ok (.iconst 0, 1) := by decide +kernel
theorem dX2_settle_22 : decode cX2_settle 22 = .ok (.istore_n 1, 1) := by decide +kernel
theorem dX2_settle_23 : decode cX2_settle 23 = .ok (.iload_n 1, 1) := by decide +kernel
theorem dX2_settle_24 : decode cX2_settle 24 = .ok (.aload_n 0, 1) := by decide +kernel
theorem dX2_settle_25 : decode cX2_settle 25 = .ok (.getfield 49, 3) := by decide +kernel
theorem dX2_settle_28 : decode cX2_settle 28 = .ok (.if_icmp .ge 14, 3) := by decide +kernel
theorem dX2_settle_31 : decode cX2_settle 31 = .ok (.aload_n 0, 1) := by decide +kernel
theorem dX2_settle_32 : decode cX2_settle 32 = .ok (.iload_n 1, 1) := by decide +kernel
theorem dX2_settle_33 : decode cX2_settle 33 = .ok (.invokevirtual 68, 3) := by decide +kernel
theorem dX2_settle_36 : decode cX2_settle 36 = .ok (.iinc 1 1, 3) := by decide +kernel
theorem dX2_settle_39 : decode cX2_settle 39 = .ok (.goto (-16), 3) := by decide +kernel
theorem dX2_settle_42 : decode cX2_settle 42 = .ok (.return_, 1) := by decide +kernel
theorem dX2_umpireFor_0 : decode cX2_umpireFor 0 = .ok (.iload_n 1, 1) := by decide +kernel
theorem dX2_umpireFor_1 : decode cX2_umpireFor 1 = .ok (.ifCond .lt 20, 3) := by decide +kernel
theorem dX2_umpireFor_4 : decode cX2_umpireFor 4 = .ok (.iload_n 1, 1) := by decide +kernel
theorem dX2_umpireFor_5 : decode cX2_umpireFor 5 = .ok (.aload_n 0, 1) := by decide +kernel
theorem dX2_umpireFor_6 : decode cX2_umpireFor 6 = .ok (.getfield 49, 3) := by decide +kernel
theorem dX2_umpireFor_9 : decode cX2_umpireFor 9 = .ok (.if_icmp .ge 12, 3) := by decide +kernel
theorem dX2_umpireFor_12 : decode cX2_umpireFor 12 = .ok (.aload_n 0, 1) := by decide +kernel
theorem dX2_umpireFor_13 : decode cX2_umpireFor 13 = .ok (.getfield 15, 3) := by decide +kernel
theorem dX2_umpireFor_16 : decode cX2_umpireFor 16 = .ok (.iload_n 1, 1) := by decide +kernel
theorem dX2_umpireFor_17 : decode cX2_umpireFor 17 = .ok (.iaload, 1) := by decide +kernel
theorem dX2_umpireFor_18 : decode cX2_umpireFor 18 = .ok (.goto 4, 3) := by decide +kernel
theorem dX2_umpireFor_21 : decode cX2_umpireFor 21 = .ok (.iconst (-1), 1) := by decide +kernel
theorem dX2_umpireFor_22 : decode cX2_umpireFor 22 = .ok (.istore_n 2, 1) := by decide +kernel
theorem dX2_umpireFor_23 : decode cX2_umpireFor 23 = .ok (.iload_n 2, 1) := by decide +kernel
theorem dX2_umpireFor_24 : decode cX2_umpireFor 24 = .ok (.aload_n 0, 1) := by decide +kernel
theorem dX2_umpireFor_25 : decode cX2_umpireFor 25 = .ok (.getfield 53, 3) := by decide +kernel
theorem dX2_umpireFor_28 : decode cX2_umpireFor 28 = .ok (.if_icmp .ge 7, 3) := by decide +kernel
theorem dX2_umpireFor_31 : decode cX2_umpireFor 31 = .ok (.iload_n 2, 1) := by decide +kernel
theorem dX2_umpireFor_32 : decode cX2_umpireFor 32 = .ok (.goto 4, 3) := by decide +kernel
theorem dX2_umpireFor_35 : decode cX2_umpireFor 35 = .ok (.iconst (-1), 1) := by decide +kernel
theorem dX2_umpireFor_36 : decode cX2_umpireFor 36 = .ok (.ireturn, 1) := by decide +kernel
theorem dX2_pair_0 : decode cX2_pair 0 = .ok (.iload_n 1, 1) := by decide +kernel
theorem dX2_pair_1 : decode cX2_pair 1 = .ok (.ifCond .lt 37, 3) := by decide +kernel
theorem dX2_pair_4 : decode cX2_pair 4 = .ok (.iload_n 1, 1) := by decide +kernel
theorem dX2_pair_5 : decode cX2_pair 5 = .ok (.aload_n 0, 1) := by decide +kernel
theorem dX2_pair_6 : decode cX2_pair 6 = .ok (.getfield 56, 3) := by decide +kernel
theorem dX2_pair_9 : decode cX2_pair 9 = .ok (.if_icmp .ge 29, 3) := by decide +kernel
theorem dX2_pair_12 : decode cX2_pair 12 = .ok (.iload_n 2, 1) := by decide +kernel
theorem dX2_pair_13 : decode cX2_pair 13 = .ok (.ifCond .lt 25, 3) := by decide +kernel
theorem dX2_pair_16 : decode cX2_pair 16 = .ok (.iload_n 2, 1) := by decide +kernel
theorem dX2_pair_17 : decode cX2_pair 17 = .ok (.aload_n 0, 1) := by decide +kernel
theorem dX2_pair_18 : decode cX2_pair 18 = .ok (.getfield 56, 3) := by decide +kernel
theorem dX2_pair_21 : decode cX2_pair 21 = .ok (.if_icmp .ge 17, 3) := by decide +kernel
theorem dX2_pair_24 : decode cX2_pair 24 = .ok (.aload_n 0, 1) := by decide +kernel
theorem dX2_pair_25 : decode cX2_pair 25 = .ok (.getfield 15, 3) := by decide +kernel
theorem dX2_pair_28 : decode cX2_pair 28 = .ok (.iload_n 1, 1) := by decide +kernel
theorem dX2_pair_29 : decode cX2_pair 29 = .ok (.iload_n 2, 1) := by decide +kernel
theorem dX2_pair_30 : decode cX2_pair 30 = .ok (.iastore, 1) := by decide +kernel
theorem dX2_pair_31 : decode cX2_pair 31 = .ok (.aload_n 0, 1) := by decide +kernel
theorem dX2_pair_32 : decode cX2_pair 32 = .ok (.getfield 18, 3) := by decide +kernel
theorem dX2_pair_35 : decode cX2_pair 35 = .ok (.iload_n 2, 1) := by decide +kernel
theorem dX2_pair_36 : decode cX2_pair 36 = .ok (.iload_n 1, 1) := by decide +kernel
theorem dX2_pair_37 : decode cX2_pair 37 = .ok (.iastore, 1) := by decide +kernel
theorem dX2_pair_38 : decode cX2_pair 38 = .ok (.return_, 1) := by decide +kernel
theorem dX2_gap_0 : decode cX2_gap 0 = .ok (.iconst 0, 1) := by decide +kernel
theorem dX2_gap_1 : decode cX2_gap 1 = .ok (.istore_n 3, 1) := by decide +kernel
theorem dX2_gap_2 : decode cX2_gap 2 = .ok (.iload_n 1, 1) := by decide +kernel
theorem dX2_gap_3 : decode cX2_gap 3 = .ok (.aload_n 0, 1) := by decide +kernel
theorem dX2_gap_4 : decode cX2_gap 4 = .ok (.getfield 49, 3) := by decide +kernel
theorem dX2_gap_7 : decode cX2_gap 7 = .ok (.if_icmp .ge 28, 3) := by decide +kernel
theorem dX2_gap_10 : decode cX2_gap 10 = .ok (.iload_n 2, 1) := by decide +kernel
theorem dX2_gap_11 : decode cX2_gap 11 = .ok (.aload_n 0, 1) := by decide +kernel
theorem dX2_gap_12 : decode cX2_gap 12 = .ok (.getfield 53, 3) := by decide +kernel
theorem dX2_gap_15 : decode cX2_gap 15 = .ok (.if_icmp .ge 17, 3) := by decide +kernel
theorem dX2_gap_18 : decode cX2_gap 18 = .ok (.aload_n 0, 1) := by decide +kernel
theorem dX2_gap_19 : decode cX2_gap 19 = .ok (.getfield 9, 3) := by decide +kernel
theorem dX2_gap_22 : decode cX2_gap 22 = .ok (.iload_n 1, 1) := by decide +kernel
theorem dX2_gap_23 : decode cX2_gap 23 = .ok (.bipush 20, 2) := by decide +kernel
theorem dX2_gap_25 : decode cX2_gap 25 = .ok (.imul, 1) := by decide +kernel
theorem dX2_gap_26 : decode cX2_gap 26 = .ok (.iload_n 2, 1) := by decide +kernel
theorem dX2_gap_27 : decode cX2_gap 27 = .ok (.iadd, 1) := by decide +kernel
theorem dX2_gap_28 : decode cX2_gap 28 = .ok (.iaload, 1) := by decide +kernel
theorem dX2_gap_29 : decode cX2_gap 29 = .ok (.goto 5, 3) := by decide +kernel
theorem dX2_gap_32 : decode cX2_gap 32 = .ok (.ldc 71, 2) := by decide +kernel
theorem dX2_gap_34 : decode cX2_gap 34 = .ok (.istore_n 3, 1) := by decide +kernel
theorem dX2_gap_35 : decode cX2_gap 35 = .ok (.iload_n 3, 1) := by decide +kernel
theorem dX2_gap_36 : decode cX2_gap 36 = .ok (.aload_n 0, 1) := by decide +kernel
theorem dX2_gap_37 : decode cX2_gap 37 = .ok (.getfield 21, 3) := by decide +kernel
theorem dX2_gap_40 : decode cX2_gap 40 = .ok (.iload_n 1, 1) := by decide +kernel
theorem dX2_gap_41 : decode cX2_gap 41 = .ok (.iaload, 1) := by decide +kernel
theorem dX2_gap_42 : decode cX2_gap 42 = .ok (.isub, 1) := by decide +kernel
theorem dX2_gap_43 : decode cX2_gap 43 = .ok (.aload_n 0, 1) := by decide +kernel
theorem dX2_gap_44 : decode cX2_gap 44 = .ok (.getfield 24, 3) := by decide +kernel
theorem dX2_gap_47 : decode cX2_gap 47 = .ok (.iload_n 2, 1) := by decide +kernel
theorem dX2_gap_48 : decode cX2_gap 48 = .ok (.iaload, 1) := by decide +kernel
theorem dX2_gap_49 : decode cX2_gap 49 = .ok (.isub, 1) := by decide +kernel
theorem dX2_gap_50 : decode cX2_gap 50 = .ok (.ireturn, 1) := by decide +kernel
theorem dX2_forgetColumns_0 : decode cX2_forgetColumns 0 = .ok (.iconst 0, 1) := by decide +kernel
theorem dX2_forgetColumns_1 : decode cX2_forgetColumns 1 = .ok (.istore_n 1, 1) := by decide +kernel
theorem dX2_forgetColumns_2 : decode cX2_forgetColumns 2 = .ok (.iload_n 1, 1) := by decide +kernel
theorem dX2_forgetColumns_3 : decode cX2_forgetColumns 3 = .ok (.aload_n 0, 1) := by decide +kernel
theorem dX2_forgetColumns_4 : decode cX2_forgetColumns 4 = .ok (.getfield 56, 3) := by decide +kernel
theorem dX2_forgetColumns_7 : decode cX2_forgetColumns 7 = .ok (.if_icmp .ge 31, 3) := by decide +kernel
theorem dX2_forgetColumns_10 : decode cX2_forgetColumns 10 = .ok (.aload_n 0, 1) := by decide +kernel
theorem dX2_forgetColumns_11 : decode cX2_forgetColumns 11 = .ok (.getfield 36, 3) := by decide +kernel
theorem dX2_forgetColumns_14 : decode cX2_forgetColumns 14 = .ok (.iload_n 1, 1) := by decide +kernel
theorem dX2_forgetColumns_15 : decode cX2_forgetColumns 15 = .ok (.iconst 0, 1) := by decide +kernel
theorem dX2_forgetColumns_16 : decode cX2_forgetColumns 16 = .ok (.bastore, 1) := by decide +kernel
theorem dX2_forgetColumns_17 : decode cX2_forgetColumns 17 = .ok (.aload_n 0, 1) := by decide +kernel
theorem dX2_forgetColumns_18 : decode cX2_forgetColumns 18 = .ok (.getfield 30, 3) := by decide +kernel
theorem dX2_forgetColumns_21 : decode cX2_forgetColumns 21 = .ok (.iload_n 1, 1) := by decide +kernel
theorem dX2_forgetColumns_22 : decode cX2_forgetColumns 22 = .ok (.iconst (-1), 1) := by decide +kernel
theorem dX2_forgetColumns_23 : decode cX2_forgetColumns 23 = .ok (.iastore, 1) := by decide +kernel
theorem dX2_forgetColumns_24 : decode cX2_forgetColumns 24 = .ok (.aload_n 0, 1) := by decide +kernel
theorem dX2_forgetColumns_25 : decode cX2_forgetColumns 25 = .ok (.getfield 27, 3) := by decide +kernel
theorem dX2_forgetColumns_28 : decode cX2_forgetColumns 28 = .ok (.iload_n 1, 1) := by decide +kernel
theorem dX2_forgetColumns_29 : decode cX2_forgetColumns 29 = .ok (.ldc 74, 2) := by decide +kernel
theorem dX2_forgetColumns_31 : decode cX2_forgetColumns 31 = .ok (.iastore, 1) := by decide +kernel
theorem dX2_forgetColumns_32 : decode cX2_forgetColumns 32 = .ok (.iinc 1 1, 3) := by decide +kernel
theorem dX2_forgetColumns_35 : decode cX2_forgetColumns 35 = .ok (.goto (-33), 3) := by decide +kernel
theorem dX2_forgetColumns_38 : decode cX2_forgetColumns 38 = .ok (.return_, 1) := by decide +kernel
theorem dX2_addSeat_0 : decode cX2_addSeat 0 = .ok (.aload_n 0, 1) := by decide +kernel
theorem dX2_addSeat_1 : decode cX2_addSeat 1 = .ok (.invokevirtual 75, 3) := by decide +kernel
theorem dX2_addSeat_4 : decode cX2_addSeat 4 = .ok (.iload_n 1, 1) := by decide +kernel
theorem dX2_addSeat_5 : decode cX2_addSeat 5 = .ok (.istore_n 2, 1) := by decide +kernel
theorem dX2_addSeat_6 : decode cX2_addSeat 6 = .ok (.iconst (-1), 1) := by decide +kernel
theorem dX2_addSeat_7 : decode cX2_addSeat 7 = .ok (.istore_n 3, 1) := by decide +kernel
theorem dX2_addSeat_8 : decode cX2_addSeat 8 = .ok (.iconst 0, 1) := by decide +kernel
theorem dX2_addSeat_9 : decode cX2_addSeat 9 = .ok (.istore 4, 2) := by decide +kernel
theorem dX2_addSeat_11 : decode cX2_addSeat 11 = .ok (.iload 4, 2) := by decide +kernel
theorem dX2_addSeat_13 : decode cX2_addSeat 13 = .ok (.aload_n 0, 1) := by decide +kernel
theorem dX2_addSeat_14 : decode cX2_addSeat 14 = .ok (.getfield 56, 3) := by decide +kernel
theorem dX2_addSeat_17 : decode cX2_addSeat 17 = .ok (.if_icmp .ge 56, 3) := by decide +kernel
theorem dX2_addSeat_20 : decode cX2_addSeat 20 = .ok (.iload_n 2, 1) := by decide +kernel
theorem dX2_addSeat_21 : decode cX2_addSeat 21 = .ok (.iconst (-1), 1) := by decide +kernel
theorem dX2_addSeat_22 : decode cX2_addSeat 22 = .ok (.if_icmp .eq 51, 3) := by decide +kernel
theorem dX2_addSeat_25 : decode cX2_addSeat 25 = .ok (.aload_n 0, 1) := by decide +kernel
theorem dX2_addSeat_26 : decode cX2_addSeat 26 = .ok (.iload_n 2, 1) := by decide +kernel
theorem dX2_addSeat_27 : decode cX2_addSeat 27 = .ok (.iload_n 3, 1) := by decide +kernel
theorem dX2_addSeat_28 : decode cX2_addSeat 28 = .ok (.invokevirtual 78, 3) := by decide +kernel
theorem dX2_addSeat_31 : decode cX2_addSeat 31 = .ok (.aload_n 0, 1) := by decide +kernel
theorem dX2_addSeat_32 : decode cX2_addSeat 32 = .ok (.invokevirtual 81, 3) := by decide +kernel
theorem dX2_addSeat_35 : decode cX2_addSeat 35 = .ok (.istore_n 3, 1) := by decide +kernel
theorem dX2_addSeat_36 : decode cX2_addSeat 36 = .ok (.iload_n 3, 1) := by decide +kernel
theorem dX2_addSeat_37 : decode cX2_addSeat 37 = .ok (.iconst (-1), 1) := by decide +kernel
theorem dX2_addSeat_38 : decode cX2_addSeat 38 = .ok (.if_icmp .ne 4, 3) := by decide +kernel
theorem dX2_addSeat_41 : decode cX2_addSeat 41 = .ok (.return_, 1) := by decide +kernel
theorem dX2_addSeat_42 : decode cX2_addSeat 42 = .ok (.aload_n 0, 1) := by decide +kernel
theorem dX2_addSeat_43 : decode cX2_addSeat 43 = .ok (.iload_n 1, 1) := by decide +kernel
theorem dX2_addSeat_44 : decode cX2_addSeat 44 = .ok (.aload_n 0, 1) := by decide +kernel
theorem dX2_addSeat_45 : decode cX2_addSeat 45 = .ok (.getfield 27, 3) := by decide +kernel
theorem dX2_addSeat_48 : decode cX2_addSeat 48 = .ok (.iload_n 3, 1) := by decide +kernel
theorem dX2_addSeat_49 : decode cX2_addSeat 49 = .ok (.iaload, 1) := by decide +kernel
theorem dX2_addSeat_50 : decode cX2_addSeat 50 = .ok (.invokevirtual 85, 3) := by decide +kernel
theorem dX2_addSeat_53 : decode cX2_addSeat 53 = .ok (.aload_n 0, 1) := by decide +kernel
theorem dX2_addSeat_54 : decode cX2_addSeat 54 = .ok (.getfield 36, 3) := by decide +kernel
theorem dX2_addSeat_57 : decode cX2_addSeat 57 = .ok (.iload_n 3, 1) := by decide +kernel
theorem dX2_addSeat_58 : decode cX2_addSeat 58 = .ok (.iconst 1, 1) := by decide +kernel
theorem dX2_addSeat_59 : decode cX2_addSeat 59 = .ok (.bastore, 1) := by decide +kernel
theorem dX2_addSeat_60 : decode cX2_addSeat 60 = .ok (.aload_n 0, 1) := by decide +kernel
theorem dX2_addSeat_61 : decode cX2_addSeat 61 = .ok (.getfield 18, 3) := by decide +kernel
theorem dX2_addSeat_64 : decode cX2_addSeat 64 = .ok (.iload_n 3, 1) := by decide +kernel
theorem dX2_addSeat_65 : decode cX2_addSeat 65 = .ok (.iaload, 1) := by decide +kernel
theorem dX2_addSeat_66 : decode cX2_addSeat 66 = .ok (.istore_n 2, 1) := by decide +kernel
theorem dX2_addSeat_67 : decode cX2_addSeat 67 = .ok (.iinc 4 1, 3) := by decide +kernel
theorem dX2_addSeat_70 : decode cX2_addSeat 70 = .ok (.goto (-59), 3) := by decide +kernel
theorem dX2_addSeat_73 : decode cX2_addSeat 73 = .ok (.aload_n 0, 1) := by decide +kernel
theorem dX2_addSeat_74 : decode cX2_addSeat 74 = .ok (.iload_n 1, 1) := by decide +kernel
theorem dX2_addSeat_75 : decode cX2_addSeat 75 = .ok (.iload_n 3, 1) := by decide +kernel
theorem dX2_addSeat_76 : decode cX2_addSeat 76 = .ok (.invokevirtual 88, 3) := by decide +kernel
theorem dX2_addSeat_79 : decode cX2_addSeat 79 = .ok (.return_, 1) := by decide +kernel
theorem dX2_reach_0 : decode cX2_reach 0 = .ok (.iconst 0, 1) := by decide +kernel
theorem dX2_reach_1 : decode cX2_reach 1 = .ok (.istore_n 3, 1) := by decide +kernel
theorem dX2_reach_2 : decode cX2_reach 2 = .ok (.iload_n 3, 1) := by decide +kernel
theorem dX2_reach_3 : decode cX2_reach 3 = .ok (.aload_n 0, 1) := by decide +kernel
theorem dX2_reach_4 : decode cX2_reach 4 = .ok (.getfield 56, 3) := by decide +kernel
theorem dX2_reach_7 : decode cX2_reach 7 = .ok (.if_icmp .ge 52, 3) := by decide +kernel
theorem dX2_reach_10 : decode cX2_reach 10 = .ok (.aload_n 0, 1) := by decide +kernel
theorem dX2_reach_11 : decode cX2_reach 11 = .ok (.getfield 36, 3) := by decide +kernel
theorem dX2_reach_14 : decode cX2_reach 14 = .ok (.iload_n 3, 1) := by decide +kernel
theorem dX2_reach_15 : decode cX2_reach 15 = .ok (.baload, 1) := by decide +kernel
theorem dX2_reach_16 : decode cX2_reach 16 = .ok (.ifCond .ne 37, 3) := by decide +kernel
theorem dX2_reach_19 : decode cX2_reach 19 = .ok (.aload_n 0, 1) := by decide +kernel
theorem dX2_reach_20 : decode cX2_reach 20 = .ok (.iload_n 1, 1) := by decide +kernel
theorem dX2_reach_21 : decode cX2_reach 21 = .ok (.iload_n 3, 1) := by decide +kernel
theorem dX2_reach_22 : decode cX2_reach 22 = .ok (.invokevirtual 91, 3) := by decide +kernel
theorem dX2_reach_25 : decode cX2_reach 25 = .ok (.istore 4, 2) := by decide +kernel
theorem dX2_reach_27 : decode cX2_reach 27 = .ok (.iload 4, 2) := by decide +kernel
theorem dX2_reach_29 : decode cX2_reach 29 = .ok (.aload_n 0, 1) := by decide +kernel
theorem dX2_reach_30 : decode cX2_reach 30 = .ok (.getfield 27, 3) := by decide +kernel
theorem dX2_reach_33 : decode cX2_reach 33 = .ok (.iload_n 3, 1) := by decide +kernel
theorem dX2_reach_34 : decode cX2_reach 34 = .ok (.iaload, 1) := by decide +kernel
theorem dX2_reach_35 : decode cX2_reach 35 = .ok (.if_icmp .ge 18, 3) := by decide +kernel
theorem dX2_reach_38 : decode cX2_reach 38 = .ok (.aload_n 0, 1) := by decide +kernel
theorem dX2_reach_39 : decode cX2_reach 39 = .ok (.getfield 27, 3) := by decide +kernel
theorem dX2_reach_42 : decode cX2_reach 42 = .ok (.iload_n 3, 1) := by decide +kernel
theorem dX2_reach_43 : decode cX2_reach 43 = .ok (.iload 4, 2) := by decide +kernel
theorem dX2_reach_45 : decode cX2_reach 45 = .ok (.iastore, 1) := by decide +kernel
theorem dX2_reach_46 : decode cX2_reach 46 = .ok (.aload_n 0, 1) := by decide +kernel
theorem dX2_reach_47 : decode cX2_reach 47 = .ok (.getfield 30, 3) := by decide +kernel
theorem dX2_reach_50 : decode cX2_reach 50 = .ok (.iload_n 3, 1) := by decide +kernel
theorem dX2_reach_51 : decode cX2_reach 51 = .ok (.iload_n 2, 1) := by decide +kernel
theorem dX2_reach_52 : decode cX2_reach 52 = .ok (.iastore, 1) := by decide +kernel
theorem dX2_reach_53 : decode cX2_reach 53 = .ok (.iinc 3 1, 3) := by decide +kernel
theorem dX2_reach_56 : decode cX2_reach 56 = .ok (.goto (-54), 3) := by decide +kernel
theorem dX2_reach_59 : decode cX2_reach 59 = .ok (.return_, 1) := by decide +kernel
theorem dX2_nearest_0 : decode cX2_nearest 0 = .ok (.iconst (-1), 1) := by decide +kernel
theorem dX2_nearest_1 : decode cX2_nearest 1 = .ok (.istore_n 1, 1) := by decide +kernel
theorem dX2_nearest_2 : decode cX2_nearest 2 = .ok (.iconst 0, 1) := by decide +kernel
theorem dX2_nearest_3 : decode cX2_nearest 3 = .ok (.istore_n 2, 1) := by decide +kernel
theorem dX2_nearest_4 : decode cX2_nearest 4 = .ok (.iload_n 2, 1) := by decide +kernel
theorem dX2_nearest_5 : decode cX2_nearest 5 = .ok (.aload_n 0, 1) := by decide +kernel
theorem dX2_nearest_6 : decode cX2_nearest 6 = .ok (.getfield 56, 3) := by decide +kernel
theorem dX2_nearest_9 : decode cX2_nearest 9 = .ok (.if_icmp .ge 40, 3) := by decide +kernel
theorem dX2_nearest_12 : decode cX2_nearest 12 = .ok (.aload_n 0, 1) := by decide +kernel
theorem dX2_nearest_13 : decode cX2_nearest 13 = .ok (.getfield 36, 3) := by decide +kernel
theorem dX2_nearest_16 : decode cX2_nearest 16 = .ok (.iload_n 2, 1) := by decide +kernel
theorem dX2_nearest_17 : decode cX2_nearest 17 = .ok (.baload, 1) := by decide +kernel
theorem dX2_nearest_18 : decode cX2_nearest 18 = .ok (.ifCond .ne 25, 3) := by decide +kernel
theorem dX2_nearest_21 : decode cX2_nearest 21 = .ok (.iload_n 1, 1) := by decide +kernel
theorem dX2_nearest_22 : decode cX2_nearest 22 = .ok (.iconst (-1), 1) := by decide +kernel
theorem dX2_nearest_23 : decode cX2_nearest 23 = .ok (.if_icmp .eq 18, 3) := by decide +kernel
theorem dX2_nearest_26 : decode cX2_nearest 26 = .ok (.aload_n 0, 1) := by decide +kernel
theorem dX2_nearest_27 : decode cX2_nearest 27 = .ok (.getfield 27, 3) := by decide +kernel
theorem dX2_nearest_30 : decode cX2_nearest 30 = .ok (.iload_n 2, 1) := by decide +kernel
theorem dX2_nearest_31 : decode cX2_nearest 31 = .ok (.iaload, 1) := by decide +kernel
theorem dX2_nearest_32 : decode cX2_nearest 32 = .ok (.aload_n 0, 1) := by decide +kernel
theorem dX2_nearest_33 : decode cX2_nearest 33 = .ok (.getfield 27, 3) := by decide +kernel
theorem dX2_nearest_36 : decode cX2_nearest 36 = .ok (.iload_n 1, 1) := by decide +kernel
theorem dX2_nearest_37 : decode cX2_nearest 37 = .ok (.iaload, 1) := by decide +kernel
theorem dX2_nearest_38 : decode cX2_nearest 38 = .ok (.if_icmp .ge 5, 3) := by decide +kernel
theorem dX2_nearest_41 : decode cX2_nearest 41 = .ok (.iload_n 2, 1) := by decide +kernel
theorem dX2_nearest_42 : decode cX2_nearest 42 = .ok (.istore_n 1, 1) := by decide +kernel
theorem dX2_nearest_43 : decode cX2_nearest 43 = .ok (.iinc 2 1, 3) := by decide +kernel
theorem dX2_nearest_46 : decode cX2_nearest 46 = .ok (.goto (-42), 3) := by decide +kernel
theorem dX2_nearest_49 : decode cX2_nearest 49 = .ok (.iload_n 1, 1) := by decide +kernel
theorem dX2_nearest_50 : decode cX2_nearest 50 = .ok (.ireturn, 1) := by decide +kernel
theorem dX2_shiftParts_0 : decode cX2_shiftParts 0 = .ok (.iload_n 2, 1) := by decide +kernel
theorem dX2_shiftParts_1 : decode cX2_shiftParts 1 = .ok (.ifCond .ne 4, 3) := by decide +kernel
theorem dX2_shiftParts_4 : decode cX2_shiftParts 4 = .ok (.return_, 1) := by decide +kernel
theorem dX2_shiftParts_5 : decode cX2_shiftParts 5 = .ok (.aload_n 0, 1) := by decide +kernel
theorem dX2_shiftParts_6 : decode cX2_shiftParts 6 = .ok (.getfield 21, 3) := by decide +kernel
theorem dX2_shiftParts_9 : decode cX2_shiftParts 9 = .ok (.iload_n 1, 1) := by decide +kernel
theorem dX2_shiftParts_10 : decode cX2_shiftParts 10 = .ok (.dup2, 1) := by decide +kernel
theorem dX2_shiftParts_11 : decode cX2_shiftParts 11 = .ok (.iaload, 1) := by decide +kernel
theorem dX2_shiftParts_12 : decode cX2_shiftParts 12 = .ok (.iload_n 2, 1) := by decide +kernel
theorem dX2_shiftParts_13 : decode cX2_shiftParts 13 = .ok (.iadd, 1) := by decide +kernel
theorem dX2_shiftParts_14 : decode cX2_shiftParts 14 = .ok (.iastore, 1) := by decide +kernel
theorem dX2_shiftParts_15 : decode cX2_shiftParts 15 = .ok (.iconst 0, 1) := by decide +kernel
theorem dX2_shiftParts_16 : decode cX2_shiftParts 16 = .ok (.istore_n 3, 1) := by decide +kernel
theorem dX2_shiftParts_17 : decode cX2_shiftParts 17 = .ok (.iload_n 3, 1) := by decide +kernel
theorem dX2_shiftParts_18 : decode cX2_shiftParts 18 = .ok (.aload_n 0, 1) := by decide +kernel
theorem dX2_shiftParts_19 : decode cX2_shiftParts 19 = .ok (.getfield 56, 3) := by decide +kernel
theorem dX2_shiftParts_22 : decode cX2_shiftParts 22 = .ok (.if_icmp .ge 66, 3) := by decide +kernel
theorem dX2_shiftParts_25 : decode cX2_shiftParts 25 = .ok (.aload_n 0, 1) := by decide +kernel
theorem dX2_shiftParts_26 : decode cX2_shiftParts 26 = .ok (.getfield 36, 3) := by decide +kernel
theorem dX2_shiftParts_29 : decode cX2_shiftParts 29 = .ok (.iload_n 3, 1) := by decide +kernel
theorem dX2_shiftParts_30 : decode cX2_shiftParts 30 = .ok (.baload, 1) := by decide +kernel
theorem dX2_shiftParts_31 : decode cX2_shiftParts 31 = .ok (.ifCond .ne 16, 3) := by decide +kernel
theorem dX2_shiftParts_34 : decode cX2_shiftParts 34 = .ok (.aload_n 0, 1) := by decide +kernel
theorem dX2_shiftParts_35 : decode cX2_shiftParts 35 = .ok (.getfield 27, 3) := by decide +kernel
theorem dX2_shiftParts_38 : decode cX2_shiftParts 38 = .ok (.iload_n 3, 1) := by decide +kernel
theorem dX2_shiftParts_39 : decode cX2_shiftParts 39 = .ok (.dup2, 1) := by decide +kernel
theorem dX2_shiftParts_40 : decode cX2_shiftParts 40 = .ok (.iaload, 1) := by decide +kernel
theorem dX2_shiftParts_41 : decode cX2_shiftParts 41 = .ok (.iload_n 2, 1) := by decide +kernel
theorem dX2_shiftParts_42 : decode cX2_shiftParts 42 = .ok (.isub, 1) := by decide +kernel
theorem dX2_shiftParts_43 : decode cX2_shiftParts 43 = .ok (.iastore, 1) := by decide +kernel
theorem dX2_shiftParts_44 : decode cX2_shiftParts 44 = .ok (.goto 38, 3) := by decide +kernel
theorem dX2_shiftParts_47 : decode cX2_shiftParts 47 = .ok (.aload_n 0, 1) := by decide +kernel
theorem dX2_shiftParts_48 : decode cX2_shiftParts 48 = .ok (.getfield 18, 3) := by decide +kernel
theorem dX2_shiftParts_51 : decode cX2_shiftParts 51 = .ok (.iload_n 3, 1) := by decide +kernel
theorem dX2_shiftParts_52 : decode cX2_shiftParts 52 = .ok (.iaload, 1) := by decide +kernel
theorem dX2_shiftParts_53 : decode cX2_shiftParts 53 = .ok (.iconst (-1), 1) := by decide +kernel
theorem dX2_shiftParts_54 : decode cX2_shiftParts 54 = .ok (.if_icmp .eq 28, 3) := by decide +kernel
theorem dX2_shiftParts_57 : decode cX2_shiftParts 57 = .ok (.aload_n 0, 1) := by decide +kernel
theorem dX2_shiftParts_58 : decode cX2_shiftParts 58 = .ok (.getfield 21, 3) := by decide +kernel
theorem dX2_shiftParts_61 : decode cX2_shiftParts 61 = .ok (.aload_n 0, 1) := by decide +kernel
theorem dX2_shiftParts_62 : decode cX2_shiftParts 62 = .ok (.getfield 18, 3) := by decide +kernel
theorem dX2_shiftParts_65 : decode cX2_shiftParts 65 = .ok (.iload_n 3, 1) := by decide +kernel
theorem dX2_shiftParts_66 : decode cX2_shiftParts 66 = .ok (.iaload, 1) := by decide +kernel
theorem dX2_shiftParts_67 : decode cX2_shiftParts 67 = .ok (.dup2, 1) := by decide +kernel
theorem dX2_shiftParts_68 : decode cX2_shiftParts 68 = .ok (.iaload, 1) := by decide +kernel
theorem dX2_shiftParts_69 : decode cX2_shiftParts 69 = .ok (.iload_n 2, 1) := by decide +kernel
theorem dX2_shiftParts_70 : decode cX2_shiftParts 70 = .ok (.iadd, 1) := by decide +kernel
theorem dX2_shiftParts_71 : decode cX2_shiftParts 71 = .ok (.iastore, 1) := by decide +kernel
theorem dX2_shiftParts_72 : decode cX2_shiftParts 72 = .ok (.aload_n 0, 1) := by decide +kernel
theorem dX2_shiftParts_73 : decode cX2_shiftParts 73 = .ok (.getfield 24, 3) := by decide +kernel
theorem dX2_shiftParts_76 : decode cX2_shiftParts 76 = .ok (.iload_n 3, 1) := by decide +kernel
theorem dX2_shiftParts_77 : decode cX2_shiftParts 77 = .ok (.dup2, 1) := by decide +kernel
theorem dX2_shiftParts_78 : decode cX2_shiftParts 78 = .ok (.iaload, 1) := by decide +kernel
theorem dX2_shiftParts_79 : decode cX2_shiftParts 79 = .ok (.iload_n 2, 1) := by decide +kernel
theorem dX2_shiftParts_80 : decode cX2_shiftParts 80 = .ok (.isub, 1) := by decide +kernel
theorem dX2_shiftParts_81 : decode cX2_shiftParts 81 = .ok (.iastore, 1) := by decide +kernel
theorem dX2_shiftParts_82 : decode cX2_shiftParts 82 = .ok (.iinc 3 1, 3) := by decide +kernel
theorem dX2_shiftParts_85 : decode cX2_shiftParts 85 = .ok (.goto (-68), 3) := by decide +kernel
theorem dX2_shiftParts_88 : decode cX2_shiftParts 88 = .ok (.return_, 1) := by decide +kernel
theorem dX2_moveAlong_0 : decode cX2_moveAlong 0 = .ok (.iload_n 2, 1) := by decide +kernel
theorem dX2_moveAlong_1 : decode cX2_moveAlong 1 = .ok (.istore_n 3, 1) := by decide +kernel
theorem dX2_moveAlong_2 : decode cX2_moveAlong 2 = .ok (.iconst 0, 1) := by decide +kernel
theorem dX2_moveAlong_3 : decode cX2_moveAlong 3 = .ok (.istore 4, 2) := by decide +kernel
theorem dX2_moveAlong_5 : decode cX2_moveAlong 5 = .ok (.iload 4, 2) := by decide +kernel
theorem dX2_moveAlong_7 : decode cX2_moveAlong 7 = .ok (.aload_n 0, 1) := by decide +kernel
theorem dX2_moveAlong_8 : decode cX2_moveAlong 8 = .ok (.getfield 56, 3) := by decide +kernel
theorem dX2_moveAlong_11 : decode cX2_moveAlong 11 = .ok (.if_icmp .ge 47, 3) := by decide +kernel
theorem dX2_moveAlong_14 : decode cX2_moveAlong 14 = .ok (.iload_n 3, 1) := by decide +kernel
theorem dX2_moveAlong_15 : decode cX2_moveAlong 15 = .ok (.iconst (-1), 1) := by decide +kernel
theorem dX2_moveAlong_16 : decode cX2_moveAlong 16 = .ok (.if_icmp .eq 42, 3) := by decide +kernel
theorem dX2_moveAlong_19 : decode cX2_moveAlong 19 = .ok (.aload_n 0, 1) := by decide +kernel
theorem dX2_moveAlong_20 : decode cX2_moveAlong 20 = .ok (.getfield 30, 3) := by decide +kernel
theorem dX2_moveAlong_23 : decode cX2_moveAlong 23 = .ok (.iload_n 3, 1) := by decide +kernel
theorem dX2_moveAlong_24 : decode cX2_moveAlong 24 = .ok (.iaload, 1) := by decide +kernel
theorem dX2_moveAlong_25 : decode cX2_moveAlong 25 = .ok (.istore 5, 2) := by decide +kernel
theorem dX2_moveAlong_27 : decode cX2_moveAlong 27 = .ok (.aload_n 0, 1) := by decide +kernel
theorem dX2_moveAlong_28 : decode cX2_moveAlong 28 = .ok (.iload 5, 2) := by decide +kernel
theorem dX2_moveAlong_30 : decode cX2_moveAlong 30 = .ok (.iconst (-1), 1) := by decide +kernel
theorem dX2_moveAlong_31 : decode cX2_moveAlong 31 = .ok (.if_icmp .ne 7, 3) := by decide +kernel
theorem dX2_moveAlong_34 : decode cX2_moveAlong 34 = .ok (.iload_n 1, 1) := by decide +kernel
theorem dX2_moveAlong_35 : decode cX2_moveAlong 35 = .ok (.goto 10, 3) := by decide +kernel
theorem dX2_moveAlong_38 : decode cX2_moveAlong 38 = .ok (.aload_n 0, 1) := by decide +kernel
theorem dX2_moveAlong_39 : decode cX2_moveAlong 39 = .ok (.getfield 18, 3) := by decide +kernel
theorem dX2_moveAlong_42 : decode cX2_moveAlong 42 = .ok (.iload 5, 2) := by decide +kernel
theorem dX2_moveAlong_44 : decode cX2_moveAlong 44 = .ok (.iaload, 1) := by decide +kernel
theorem dX2_moveAlong_45 : decode cX2_moveAlong 45 = .ok (.iload_n 3, 1) := by decide +kernel
theorem dX2_moveAlong_46 : decode cX2_moveAlong 46 = .ok (.invokevirtual 60, 3) := by decide +kernel
theorem dX2_moveAlong_49 : decode cX2_moveAlong 49 = .ok (.iload 5, 2) := by decide +kernel
theorem dX2_moveAlong_51 : decode cX2_moveAlong 51 = .ok (.istore_n 3, 1) := by decide +kernel
theorem dX2_moveAlong_52 : decode cX2_moveAlong 52 = .ok (.iinc 4 1, 3) := by decide +kernel
theorem dX2_moveAlong_55 : decode cX2_moveAlong 55 = .ok (.goto (-50), 3) := by decide +kernel
theorem dX2_moveAlong_58 : decode cX2_moveAlong 58 = .ok (.return_, 1) := by decide +kernel
theorem dX2_takeFirst_0 : decode cX2_takeFirst 0 = .ok (.aload_n 0, 1) := by decide +kernel
theorem dX2_takeFirst_1 : decode cX2_takeFirst 1 = .ok (.getfield 15, 3) := by decide +kernel
theorem dX2_takeFirst_4 : decode cX2_takeFirst 4 = .ok (.iload_n 1, 1) := by decide +kernel
theorem dX2_takeFirst_5 : decode cX2_takeFirst 5 = .ok (.iaload, 1) := by decide +kernel
theorem dX2_takeFirst_6 : decode cX2_takeFirst 6 = .ok (.istore_n 2, 1) := by decide +kernel
theorem dX2_takeFirst_7 : decode cX2_takeFirst 7 = .ok (.iload_n 2, 1) := by decide +kernel
theorem dX2_takeFirst_8 : decode cX2_takeFirst 8 = .ok (.iconst (-1), 1) := by decide +kernel
theorem dX2_takeFirst_9 : decode cX2_takeFirst 9 = .ok (.if_icmp .eq 14, 3) := by decide +kernel
theorem dX2_takeFirst_12 : decode cX2_takeFirst 12 = .ok (.aload_n 0, 1) := by decide +kernel
theorem dX2_takeFirst_13 : decode cX2_takeFirst 13 = .ok (.iload_n 1, 1) := by decide +kernel
theorem dX2_takeFirst_14 : decode cX2_takeFirst 14 = .ok (.iload_n 2, 1) := by decide +kernel
theorem dX2_takeFirst_15 : decode cX2_takeFirst 15 = .ok (.iconst 0, 1) := by decide +kernel
theorem dX2_takeFirst_16 : decode cX2_takeFirst 16 = .ok (.invokevirtual 94, 3) := by decide +kernel
theorem dX2_takeFirst_19 : decode cX2_takeFirst 19 = .ok (.iload_n 2, 1) := by decide +kernel
theorem dX2_takeFirst_20 : decode cX2_takeFirst 20 = .ok (.if_icmp .ne 4, 3) := by decide +kernel
theorem dX2_takeFirst_23 : decode cX2_takeFirst 23 = .ok (.return_, 1) := by decide +kernel
theorem dX2_takeFirst_24 : decode cX2_takeFirst 24 = .ok (.aload_n 0, 1) := by decide +kernel
theorem dX2_takeFirst_25 : decode cX2_takeFirst 25 = .ok (.iload_n 1, 1) := by decide +kernel
theorem dX2_takeFirst_26 : decode cX2_takeFirst 26 = .ok (.iload_n 2, 1) := by decide +kernel
theorem dX2_takeFirst_27 : decode cX2_takeFirst 27 = .ok (.invokevirtual 98, 3) := by decide +kernel
theorem dX2_takeFirst_30 : decode cX2_takeFirst 30 = .ok (.iload_n 1, 1) := by decide +kernel
theorem dX2_takeFirst_31 : decode cX2_takeFirst 31 = .ok (.istore_n 3, 1) := by decide +kernel
theorem dX2_takeFirst_32 : decode cX2_takeFirst 32 = .ok (.aload_n 0, 1) := by decide +kernel
theorem dX2_takeFirst_33 : decode cX2_takeFirst 33 = .ok (.iload_n 1, 1) := by decide +kernel
theorem dX2_takeFirst_34 : decode cX2_takeFirst 34 = .ok (.iload_n 2, 1) := by decide +kernel
theorem dX2_takeFirst_35 : decode cX2_takeFirst 35 = .ok (.iconst 1, 1) := by decide +kernel
theorem dX2_takeFirst_36 : decode cX2_takeFirst 36 = .ok (.invokevirtual 94, 3) := by decide +kernel
theorem dX2_takeFirst_39 : decode cX2_takeFirst 39 = .ok (.istore 4, 2) := by decide +kernel
theorem dX2_takeFirst_41 : decode cX2_takeFirst 41 = .ok (.iconst 0, 1) := by decide +kernel
theorem dX2_takeFirst_42 : decode cX2_takeFirst 42 = .ok (.istore 5, 2) := by decide +kernel
theorem dX2_takeFirst_44 : decode cX2_takeFirst 44 = .ok (.iload 5, 2) := by decide +kernel
theorem dX2_takeFirst_46 : decode cX2_takeFirst 46 = .ok (.aload_n 0, 1) := by decide +kernel
theorem dX2_takeFirst_47 : decode cX2_takeFirst 47 = .ok (.getfield 56, 3) := by decide +kernel
theorem dX2_takeFirst_50 : decode cX2_takeFirst 50 = .ok (.if_icmp .ge 52, 3) := by decide +kernel
theorem dX2_takeFirst_53 : decode cX2_takeFirst 53 = .ok (.iload 4, 2) := by decide +kernel
theorem dX2_takeFirst_55 : decode cX2_takeFirst 55 = .ok (.iconst (-1), 1) := by decide +kernel
theorem dX2_takeFirst_56 : decode cX2_takeFirst 56 = .ok (.if_icmp .eq 46, 3) := by decide +kernel
theorem dX2_takeFirst_59 : decode cX2_takeFirst 59 = .ok (.iload_n 3, 1) := by decide +kernel
theorem dX2_takeFirst_60 : decode cX2_takeFirst 60 = .ok (.iconst (-1), 1) := by decide +kernel
theorem dX2_takeFirst_61 : decode cX2_takeFirst 61 = .ok (.if_icmp .eq 41, 3) := by decide +kernel
theorem dX2_takeFirst_64 : decode cX2_takeFirst 64 = .ok (.aload_n 0, 1) := by decide +kernel
theorem dX2_takeFirst_65 : decode cX2_takeFirst 65 = .ok (.getfield 18, 3) := by decide +kernel
theorem dX2_takeFirst_68 : decode cX2_takeFirst 68 = .ok (.iload 4, 2) := by decide +kernel
theorem dX2_takeFirst_70 : decode cX2_takeFirst 70 = .ok (.iaload, 1) := by decide +kernel
theorem dX2_takeFirst_71 : decode cX2_takeFirst 71 = .ok (.istore 6, 2) := by decide +kernel
theorem dX2_takeFirst_73 : decode cX2_takeFirst 73 = .ok (.aload_n 0, 1) := by decide +kernel
theorem dX2_takeFirst_74 : decode cX2_takeFirst 74 = .ok (.getfield 30, 3) := by decide +kernel
theorem dX2_takeFirst_77 : decode cX2_takeFirst 77 = .ok (.iload 4, 2) := by decide +kernel
theorem dX2_takeFirst_79 : decode cX2_takeFirst 79 = .ok (.iaload, 1) := by decide +kernel
theorem dX2_takeFirst_80 : decode cX2_takeFirst 80 = .ok (.istore 7, 2) := by decide +kernel
theorem dX2_takeFirst_82 : decode cX2_takeFirst 82 = .ok (.aload_n 0, 1) := by decide +kernel
theorem dX2_takeFirst_83 : decode cX2_takeFirst 83 = .ok (.iload_n 3, 1) := by decide +kernel
theorem dX2_takeFirst_84 : decode cX2_takeFirst 84 = .ok (.iload 4, 2) := by decide +kernel
theorem dX2_takeFirst_86 : decode cX2_takeFirst 86 = .ok (.invokevirtual 60, 3) := by decide +kernel
theorem dX2_takeFirst_89 : decode cX2_takeFirst 89 = .ok (.iload 6, 2) := by decide +kernel
theorem dX2_takeFirst_91 : decode cX2_takeFirst 91 = .ok (.istore_n 3, 1) := by decide +kernel
theorem dX2_takeFirst_92 : decode cX2_takeFirst 92 = .ok (.iload 7, 2) := by decide +kernel
theorem dX2_takeFirst_94 : decode cX2_takeFirst 94 = .ok (.istore 4, 2) := by decide +kernel
theorem dX2_takeFirst_96 : decode cX2_takeFirst 96 = .ok (.iinc 5 1, 3) := by decide +kernel
theorem dX2_takeFirst_99 : decode cX2_takeFirst 99 = .ok (.goto (-55), 3) := by decide +kernel
theorem dX2_takeFirst_102 : decode cX2_takeFirst 102 = .ok (.return_, 1) := by decide +kernel
theorem dX2_firstTight_0 : decode cX2_firstTight 0 = .ok (.iconst 0, 1) := by decide +kernel
theorem dX2_firstTight_1 : decode cX2_firstTight 1 = .ok (.istore 4, 2) := by decide +kernel
theorem dX2_firstTight_3 : decode cX2_firstTight 3 = .ok (.iload 4, 2) := by decide +kernel
theorem dX2_firstTight_5 : decode cX2_firstTight 5 = .ok (.iload_n 2, 1) := by decide +kernel
theorem dX2_firstTight_6 : decode cX2_firstTight 6 = .ok (.if_icmp .ge 36, 3) := by decide +kernel
theorem dX2_firstTight_9 : decode cX2_firstTight 9 = .ok (.aload_n 0, 1) := by decide +kernel
theorem dX2_firstTight_10 : decode cX2_firstTight 10 = .ok (.getfield 36, 3) := by decide +kernel
theorem dX2_firstTight_13 : decode cX2_firstTight 13 = .ok (.iload 4, 2) := by decide +kernel
theorem dX2_firstTight_15 : decode cX2_firstTight 15 = .ok (.baload, 1) := by decide +kernel
theorem dX2_firstTight_16 : decode cX2_firstTight 16 = .ok (.ifCond .ne 7, 3) := by decide +kernel
theorem dX2_firstTight_19 : decode cX2_firstTight 19 = .ok (.iload_n 3, 1) := by decide +kernel
theorem dX2_firstTight_20 : decode cX2_firstTight 20 = .ok (.ifCond .ne 16, 3) := by decide +kernel
theorem dX2_firstTight_23 : decode cX2_firstTight 23 = .ok (.aload_n 0, 1) := by decide +kernel
theorem dX2_firstTight_24 : decode cX2_firstTight 24 = .ok (.iload_n 1, 1) := by decide +kernel
theorem dX2_firstTight_25 : decode cX2_firstTight 25 = .ok (.iload 4, 2) := by decide +kernel
theorem dX2_firstTight_27 : decode cX2_firstTight 27 = .ok (.invokevirtual 91, 3) := by decide +kernel
theorem dX2_firstTight_30 : decode cX2_firstTight 30 = .ok (.ifCond .ne 6, 3) := by decide +kernel
theorem dX2_firstTight_33 : decode cX2_firstTight 33 = .ok (.iload 4, 2) := by decide +kernel
theorem dX2_firstTight_35 : decode cX2_firstTight 35 = .ok (.ireturn, 1) := by decide +kernel
theorem dX2_firstTight_36 : decode cX2_firstTight 36 = .ok (.iinc 4 1, 3) := by decide +kernel
theorem dX2_firstTight_39 : decode cX2_firstTight 39 = .ok (.goto (-36), 3) := by decide +kernel
theorem dX2_firstTight_42 : decode cX2_firstTight 42 = .ok (.iload_n 2, 1) := by decide +kernel
theorem dX2_firstTight_43 : decode cX2_firstTight 43 = .ok (.ireturn, 1) := by decide +kernel
theorem dX2_findMovable_0 : decode cX2_findMovable 0 = .ok (.aload_n 0, 1) := by decide +kernel
theorem dX2_findMovable_1 : decode cX2_findMovable 1 = .ok (.invokevirtual 75, 3) := by decide +kernel
theorem dX2_findMovable_4 : decode cX2_findMovable 4 = .ok (.aload_n 0, 1) := by decide +kernel
theorem dX2_findMovable_5 : decode cX2_findMovable 5 = .ok (.getfield 36, 3) := by decide +kernel
theorem dX2_findMovable_8 : decode cX2_findMovable 8 = .ok (.iload_n 2, 1) := by decide +kernel
theorem dX2_findMovable_9 : decode cX2_findMovable 9 = .ok (.iconst 1, 1) := by decide +kernel
theorem dX2_findMovable_10 : decode cX2_findMovable 10 = .ok (.bastore, 1) := by decide +kernel
theorem dX2_findMovable_11 : decode cX2_findMovable 11 = .ok (.aload_n 0, 1) := by decide +kernel
theorem dX2_findMovable_12 : decode cX2_findMovable 12 = .ok (.getfield 33, 3) := by decide +kernel
theorem dX2_findMovable_15 : decode cX2_findMovable 15 = .ok (.iconst 0, 1) := by decide +kernel
theorem dX2_findMovable_16 : decode cX2_findMovable 16 = .ok (.iload_n 2, 1) := by decide +kernel
theorem dX2_findMovable_17 : decode cX2_findMovable 17 = .ok (.iastore, 1) := by decide +kernel
theorem dX2_findMovable_18 : decode cX2_findMovable 18 = .ok (.iconst 1, 1) := by decide +kernel
theorem dX2_findMovable_19 : decode cX2_findMovable 19 = .ok (.istore_n 3, 1) := by decide +kernel
theorem dX2_findMovable_20 : decode cX2_findMovable 20 = .ok (.iconst 0, 1) := by decide +kernel
theorem dX2_findMovable_21 : decode cX2_findMovable 21 = .ok (.istore 4, 2) := by decide +kernel
theorem dX2_findMovable_23 : decode cX2_findMovable 23 = .ok (.iload 4, 2) := by decide +kernel
theorem dX2_findMovable_25 : decode cX2_findMovable 25 = .ok (.iload_n 3, 1) := by decide +kernel
theorem dX2_findMovable_26 : decode cX2_findMovable 26 = .ok (.if_icmp .ge 120, 3) := by decide +kernel
theorem dX2_findMovable_29 : decode cX2_findMovable 29 = .ok (.iload 4, 2) := by decide +kernel
theorem dX2_findMovable_31 : decode cX2_findMovable 31 = .ok (.aload_n 0, 1) := by decide +kernel
theorem dX2_findMovable_32 : decode cX2_findMovable 32 = .ok (.getfield 56, 3) := by decide +kernel
theorem dX2_findMovable_35 : decode cX2_findMovable 35 = .ok (.if_icmp .ge 111, 3) := by decide +kernel
theorem dX2_findMovable_38 : decode cX2_findMovable 38 = .ok (.iload_n 1, 1) := by decide +kernel
theorem dX2_findMovable_39 : decode cX2_findMovable 39 = .ok (.iconst 1, 1) := by decide +kernel
theorem dX2_findMovable_40 : decode cX2_findMovable 40 = .ok (.iadd, 1) := by decide +kernel
theorem dX2_findMovable_41 : decode cX2_findMovable 41 = .ok (.istore 5, 2) := by decide +kernel
theorem dX2_findMovable_43 : decode cX2_findMovable 43 = .ok (.iload 5, 2) := by decide +kernel
theorem dX2_findMovable_45 : decode cX2_findMovable 45 = .ok (.aload_n 0, 1) := by decide +kernel
theorem dX2_findMovable_46 : decode cX2_findMovable 46 = .ok (.getfield 56, 3) := by decide +kernel
theorem dX2_findMovable_49 : decode cX2_findMovable 49 = .ok (.if_icmp .ge 91, 3) := by decide +kernel
theorem dX2_findMovable_52 : decode cX2_findMovable 52 = .ok (.iload_n 3, 1) := by decide +kernel
theorem dX2_findMovable_53 : decode cX2_findMovable 53 = .ok (.aload_n 0, 1) := by decide +kernel
theorem dX2_findMovable_54 : decode cX2_findMovable 54 = .ok (.getfield 56, 3) := by decide +kernel
theorem dX2_findMovable_57 : decode cX2_findMovable 57 = .ok (.if_icmp .ge 83, 3) := by decide +kernel
theorem dX2_findMovable_60 : decode cX2_findMovable 60 = .ok (.aload_n 0, 1) := by decide +kernel
theorem dX2_findMovable_61 : decode cX2_findMovable 61 = .ok (.getfield 15, 3) := by decide +kernel
theorem dX2_findMovable_64 : decode cX2_findMovable 64 = .ok (.iload 5, 2) := by decide +kernel
theorem dX2_findMovable_66 : decode cX2_findMovable 66 = .ok (.iaload, 1) := by decide +kernel
theorem dX2_findMovable_67 : decode cX2_findMovable 67 = .ok (.istore 6, 2) := by decide +kernel
theorem dX2_findMovable_69 : decode cX2_findMovable 69 = .ok (.iload 6, 2) := by decide +kernel
theorem dX2_findMovable_71 : decode cX2_findMovable 71 = .ok (.iconst (-1), 1) := by decide +kernel
theorem dX2_findMovable_72 : decode cX2_findMovable 72 = .ok (.if_icmp .eq 62, 3) := by decide +kernel
theorem dX2_findMovable_75 : decode cX2_findMovable 75 = .ok (.aload_n 0, 1) := by decide +kernel
theorem dX2_findMovable_76 : decode cX2_findMovable 76 = .ok (.getfield 36, 3) := by decide +kernel
theorem dX2_findMovable_79 : decode cX2_findMovable 79 = .ok (.iload 6, 2) := by decide +kernel
theorem dX2_findMovable_81 : decode cX2_findMovable 81 = .ok (.baload, 1) := by decide +kernel
theorem dX2_findMovable_82 : decode cX2_findMovable 82 = .ok (.ifCond .ne 52, 3) := by decide +kernel
theorem dX2_findMovable_85 : decode cX2_findMovable 85 = .ok (.aload_n 0, 1) := by decide +kernel
theorem dX2_findMovable_86 : decode cX2_findMovable 86 = .ok (.iload 5, 2) := by decide +kernel
theorem dX2_findMovable_88 : decode cX2_findMovable 88 = .ok (.aload_n 0, 1) := by decide +kernel
theorem dX2_findMovable_89 : decode cX2_findMovable 89 = .ok (.getfield 33, 3) := by decide +kernel
theorem dX2_findMovable_92 : decode cX2_findMovable 92 = .ok (.iload 4, 2) := by decide +kernel
theorem dX2_findMovable_94 : decode cX2_findMovable 94 = .ok (.iaload, 1) := by decide +kernel
theorem dX2_findMovable_95 : decode cX2_findMovable 95 = .ok (.invokevirtual 91, 3) := by decide +kernel
theorem dX2_findMovable_98 : decode cX2_findMovable 98 = .ok (.ifCond .ne 36, 3) := by decide +kernel
theorem dX2_findMovable_101 : decode cX2_findMovable 101 = .ok (.aload_n 0, 1) := by decide +kernel
theorem dX2_findMovable_102 : decode cX2_findMovable 102 = .ok (.getfield 36, 3) := by decide +kernel
theorem dX2_findMovable_105 : decode cX2_findMovable 105 = .ok (.iload 6, 2) := by decide +kernel
theorem dX2_findMovable_107 : decode cX2_findMovable 107 = .ok (.iconst 1, 1) := by decide +kernel
theorem dX2_findMovable_108 : decode cX2_findMovable 108 = .ok (.bastore, 1) := by decide +kernel
theorem dX2_findMovable_109 : decode cX2_findMovable 109 = .ok (.aload_n 0, 1) := by decide +kernel
theorem dX2_findMovable_110 : decode cX2_findMovable 110 = .ok (.getfield 30, 3) := by decide +kernel
theorem dX2_findMovable_113 : decode cX2_findMovable 113 = .ok (.iload 6, 2) := by decide +kernel
theorem dX2_findMovable_115 : decode cX2_findMovable 115 = .ok (.aload_n 0, 1) := by decide +kernel
theorem dX2_findMovable_116 : decode cX2_findMovable 116 = .ok (.getfield 33, 3) := by decide +kernel
theorem dX2_findMovable_119 : decode cX2_findMovable 119 = .ok (.iload 4, 2) := by decide +kernel
theorem dX2_findMovable_121 : decode cX2_findMovable 121 = .ok (.iaload, 1) := by decide +kernel
theorem dX2_findMovable_122 : decode cX2_findMovable 122 = .ok (.iastore, 1) := by decide +kernel
theorem dX2_findMovable_123 : decode cX2_findMovable 123 = .ok (.aload_n 0, 1) := by decide +kernel
theorem dX2_findMovable_124 : decode cX2_findMovable 124 = .ok (.getfield 33, 3) := by decide +kernel
theorem dX2_findMovable_127 : decode cX2_findMovable 127 = .ok (.iload_n 3, 1) := by decide +kernel
theorem dX2_findMovable_128 : decode cX2_findMovable 128 = .ok (.iload 6, 2) := by decide +kernel
theorem dX2_findMovable_130 : decode cX2_findMovable 130 = .ok (.iastore, 1) := by decide +kernel
theorem dX2_findMovable_131 : decode cX2_findMovable 131 = .ok (.iinc 3 1, 3) := by decide +kernel
theorem dX2_findMovable_134 : decode cX2_findMovable 134 = .ok (.iinc 5 1, 3) := by decide +kernel
theorem dX2_findMovable_137 : decode cX2_findMovable 137 = .ok (.goto (-94), 3) := by decide +kernel
theorem dX2_findMovable_140 : decode cX2_findMovable 140 = .ok (.iinc 4 1, 3) := by decide +kernel
theorem dX2_findMovable_143 : decode cX2_findMovable 143 = .ok (.goto (-120), 3) := by decide +kernel
theorem dX2_findMovable_146 : decode cX2_findMovable 146 = .ok (.return_, 1) := by decide +kernel
theorem dX3_init_0 : decode cX3_init 0 = .ok (.aload_n 0, 1) := by decide +kernel
theorem dX3_init_1 : decode cX3_init 1 = .ok (.invokespecial 1, 3) := by decide +kernel
theorem dX3_init_4 : decode cX3_init 4 = .ok (.aload_n 0, 1) := by decide +kernel
theorem dX3_init_5 : decode cX3_init 5 = .ok (.sipush 180, 3) := by decide +kernel
theorem dX3_init_8 : decode cX3_init 8 = .ok (.newarray .byte, 2) := by decide +kernel
theorem dX3_init_10 : decode cX3_init 10 = .ok (.putfield 9, 3) := by decide +kernel
theorem dX3_init_13 : decode cX3_init 13 = .ok (.return_, 1) := by decide +kernel
theorem dX3_length_0 : decode cX3_length 0 = .ok (.aload_n 0, 1) := by decide +kernel
theorem dX3_length_1 : decode cX3_length 1 = .ok (.getfield 13, 3) := by decide +kernel
theorem dX3_length_4 : decode cX3_length 4 = .ok (.ireturn, 1) := by decide +kernel
theorem dX3_hasRoom_0 : decode cX3_hasRoom 0 = .ok (.aload_n 0, 1) := by decide +kernel
theorem dX3_hasRoom_1 : decode cX3_hasRoom 1 = .ok (.getfield 13, 3) := by decide +kernel
theorem dX3_hasRoom_4 : decode cX3_hasRoom 4 = .ok (.iload_n 1, 1) := by decide +kernel
theorem dX3_hasRoom_5 : decode cX3_hasRoom 5 = .ok (.iadd, 1) := by decide +kernel
theorem dX3_hasRoom_6 : decode cX3_hasRoom 6 = .ok (.sipush 180, 3) := by decide +kernel
theorem dX3_hasRoom_9 : decode cX3_hasRoom 9 = .ok (.if_icmp .gt 7, 3) := by decide +kernel
theorem dX3_hasRoom_12 : decode cX3_hasRoom 12 = .ok (.iconst 1, 1) := by decide +kernel
theorem dX3_hasRoom_13 : decode cX3_hasRoom 13 = .ok (.goto 4, 3) := by decide +kernel
theorem dX3_hasRoom_16 : decode cX3_hasRoom 16 = .ok (.iconst 0, 1) := by decide +kernel
theorem dX3_hasRoom_17 : decode cX3_hasRoom 17 = .ok (.ireturn, 1) := by decide +kernel
theorem dX3_append_0 : decode cX3_append 0 = .ok (.aload_n 0, 1) := by decide +kernel
theorem dX3_append_1 : decode cX3_append 1 = .ok (.iconst 4, 1) := by decide +kernel
theorem dX3_append_2 : decode cX3_append 2 = .ok (.invokevirtual 17, 3) := by decide +kernel
theorem dX3_append_5 : decode cX3_append 5 = .ok (.ifCond .ne 4, 3) := by decide +kernel
theorem dX3_append_8 : decode cX3_append 8 = .ok (.return_, 1) := by decide +kernel
theorem dX3_append_9 : decode cX3_append 9 = .ok (.bipush 24, 2) := by decide +kernel
theorem dX3_append_11 : decode cX3_append 11 = .ok (.istore_n 2, 1) := by decide +kernel
theorem dX3_append_12 : decode cX3_append 12 = .ok (.iload_n 2, 1) := by decide +kernel
theorem dX3_append_13 : decode cX3_append 13 = .ok (.ifCond .lt 32, 3) := by decide +kernel
theorem dX3_append_16 : decode cX3_append 16 = .ok (.aload_n 0, 1) := by decide +kernel
theorem dX3_append_17 : decode cX3_append 17 = .ok (.getfield 9, 3) := by decide +kernel
theorem dX3_append_20 : decode cX3_append 20 = .ok (.aload_n 0, 1) := by decide +kernel
theorem dX3_append_21 : decode cX3_append 21 = .ok (.getfield 13, 3) := by decide +kernel
theorem dX3_append_24 : decode cX3_append 24 = .ok (.iload_n 1, 1) := by decide +kernel
theorem dX3_append_25 : decode cX3_append 25 = .ok (.iload_n 2, 1) := by decide +kernel
theorem dX3_append_26 : decode cX3_append 26 = .ok (.ishr, 1) := by decide +kernel
theorem dX3_append_27 : decode cX3_append 27 = .ok (.i2b, 1) := by decide +kernel
theorem dX3_append_28 : decode cX3_append 28 = .ok (.bastore, 1) := by decide +kernel
theorem dX3_append_29 : decode cX3_append 29 = .ok (.aload_n 0, 1) := by decide +kernel
theorem dX3_append_30 : decode cX3_append 30 = .ok (.dup, 1) := by decide +kernel
theorem dX3_append_31 : decode cX3_append 31 = .ok (.getfield 13, 3) := by decide +kernel
theorem dX3_append_34 : decode cX3_append 34 = .ok (.iconst 1, 1) := by decide +kernel
theorem dX3_append_35 : decode cX3_append 35 = .ok (.iadd, 1) := by decide +kernel
theorem dX3_append_36 : decode cX3_append 36 = .ok (.putfield 13, 3) := by decide +kernel
theorem dX3_append_39 : decode cX3_append 39 = .ok (.iinc 2 (-8), 3) := by decide +kernel
theorem dX3_append_42 : decode cX3_append 42 = .ok (.goto (-30), 3) := by decide +kernel
theorem dX3_append_45 : decode cX3_append 45 = .ok (.return_, 1) := by decide +kernel
theorem dX3_cut_0 : decode cX3_cut 0 = .ok (.iload_n 1, 1) := by decide +kernel
theorem dX3_cut_1 : decode cX3_cut 1 = .ok (.ifCond .lt 11, 3) := by decide +kernel
theorem dX3_cut_4 : decode cX3_cut 4 = .ok (.iload_n 1, 1) := by decide +kernel
theorem dX3_cut_5 : decode cX3_cut 5 = .ok (.aload_n 0, 1) := by decide +kernel
theorem dX3_cut_6 : decode cX3_cut 6 = .ok (.getfield 13, 3) := by decide +kernel
theorem dX3_cut_9 : decode cX3_cut 9 = .ok (.if_icmp .le 5, 3) := by decide +kernel
theorem dX3_cut_12 : decode cX3_cut 12 = .ok (.iconst 0, 1) := by decide +kernel
theorem dX3_cut_13 : decode cX3_cut 13 = .ok (.ireturn, 1) := by decide +kernel
theorem dX3_cut_14 : decode cX3_cut 14 = .ok (.aload_n 0, 1) := by decide +kernel
theorem dX3_cut_15 : decode cX3_cut 15 = .ok (.iload_n 1, 1) := by decide +kernel
theorem dX3_cut_16 : decode cX3_cut 16 = .ok (.putfield 13, 3) := by decide +kernel
theorem dX3_cut_19 : decode cX3_cut 19 = .ok (.iconst 1, 1) := by decide +kernel
theorem dX3_cut_20 : decode cX3_cut 20 = .ok (.ireturn, 1) := by decide +kernel
theorem dX3_byteAt_0 : decode cX3_byteAt 0 = .ok (.iload_n 1, 1) := by decide +kernel
theorem dX3_byteAt_1 : decode cX3_byteAt 1 = .ok (.ifCond .lt 20, 3) := by decide +kernel
theorem dX3_byteAt_4 : decode cX3_byteAt 4 = .ok (.iload_n 1, 1) := by decide +kernel
theorem dX3_byteAt_5 : decode cX3_byteAt 5 = .ok (.aload_n 0, 1) := by decide +kernel
theorem dX3_byteAt_6 : decode cX3_byteAt 6 = .ok (.getfield 13, 3) := by decide +kernel
theorem dX3_byteAt_9 : decode cX3_byteAt 9 = .ok (.if_icmp .ge 12, 3) := by decide +kernel
theorem dX3_byteAt_12 : decode cX3_byteAt 12 = .ok (.aload_n 0, 1) := by decide +kernel
theorem dX3_byteAt_13 : decode cX3_byteAt 13 = .ok (.getfield 9, 3) := by decide +kernel
theorem dX3_byteAt_16 : decode cX3_byteAt 16 = .ok (.iload_n 1, 1) := by decide +kernel
theorem dX3_byteAt_17 : decode cX3_byteAt 17 = .ok (.baload, 1) := by decide +kernel
theorem dX3_byteAt_18 : decode cX3_byteAt 18 = .ok (.goto 4, 3) := by decide +kernel
theorem dX3_byteAt_21 : decode cX3_byteAt 21 = .ok (.iconst 0, 1) := by decide +kernel
theorem dX3_byteAt_22 : decode cX3_byteAt 22 = .ok (.ireturn, 1) := by decide +kernel
theorem dX3_isBlank_0 : decode cX3_isBlank 0 = .ok (.aload_n 0, 1) := by decide +kernel
theorem dX3_isBlank_1 : decode cX3_isBlank 1 = .ok (.iload_n 1, 1) := by decide +kernel
theorem dX3_isBlank_2 : decode cX3_isBlank 2 = .ok (.invokevirtual 21, 3) := by decide +kernel
theorem dX3_isBlank_5 : decode cX3_isBlank 5 = .ok (.istore_n 2, 1) := by decide +kernel
theorem dX3_isBlank_6 : decode cX3_isBlank 6 = .ok (.iload_n 2, 1) := by decide +kernel
theorem dX3_isBlank_7 : decode cX3_isBlank 7 = .ok (.bipush 32, 2) := by decide +kernel
theorem dX3_isBlank_9 : decode cX3_isBlank 9 = .ok (.if_icmp .eq 9, 3) := by decide +kernel
theorem dX3_isBlank_12 : decode cX3_isBlank 12 = .ok (.iload_n 2, 1) := by decide +kernel
theorem dX3_isBlank_13 : decode cX3_isBlank 13 = .ok (.bipush 10, 2) := by decide +kernel
theorem dX3_isBlank_15 : decode cX3_isBlank 15 = .ok (.if_icmp .ne 7, 3) := by decide +kernel
theorem dX3_isBlank_18 : decode cX3_isBlank 18 = .ok (.iconst 1, 1) := by decide +kernel
theorem dX3_isBlank_19 : decode cX3_isBlank 19 = .ok (.goto 4, 3) := by decide +kernel
theorem dX3_isBlank_22 : decode cX3_isBlank 22 = .ok (.iconst 0, 1) := by decide +kernel
theorem dX3_isBlank_23 : decode cX3_isBlank 23 = .ok (.ireturn, 1) := by decide +kernel
theorem dX3_isLetter_0 : decode cX3_isLetter 0 = .ok (.aload_n 0, 1) := by decide +kernel
theorem dX3_isLetter_1 : decode cX3_isLetter 1 = .ok (.iload_n 1, 1) := by decide +kernel
theorem dX3_isLetter_2 : decode cX3_isLetter 2 = .ok (.invokevirtual 21, 3) := by decide +kernel
theorem dX3_isLetter_5 : decode cX3_isLetter 5 = .ok (.istore_n 2, 1) := by decide +kernel
theorem dX3_isLetter_6 : decode cX3_isLetter 6 = .ok (.iload_n 2, 1) := by decide +kernel
theorem dX3_isLetter_7 : decode cX3_isLetter 7 = .ok (.bipush 97, 2) := by decide +kernel
theorem dX3_isLetter_9 : decode cX3_isLetter 9 = .ok (.if_icmp .lt 13, 3) := by decide +kernel
theorem dX3_isLetter_12 : decode cX3_isLetter 12 = .ok (.iload_n 2, 1) := by decide +kernel
theorem dX3_isLetter_13 : decode cX3_isLetter 13 = .ok (.bipush 122, 2) := by decide +kernel
theorem dX3_isLetter_15 : decode cX3_isLetter 15 = .ok (.if_icmp .gt 7, 3) := by decide +kernel
theorem dX3_isLetter_18 : decode cX3_isLetter 18 = .ok (.iconst 1, 1) := by decide +kernel
theorem dX3_isLetter_19 : decode cX3_isLetter 19 = .ok (.goto 4, 3) := by decide +kernel
theorem dX3_isLetter_22 : decode cX3_isLetter 22 = .ok (.iconst 0, 1) := by decide +kernel
theorem dX3_isLetter_23 : decode cX3_isLetter 23 = .ok (.ireturn, 1) := by decide +kernel
theorem dX3_isDigit_0 : decode cX3_isDigit 0 = .ok (.aload_n 0, 1) := by decide +kernel
theorem dX3_isDigit_1 : decode cX3_isDigit 1 = .ok (.iload_n 1, 1) := by decide +kernel
theorem dX3_isDigit_2 : decode cX3_isDigit 2 = .ok (.invokevirtual 21, 3) := by decide +kernel
theorem dX3_isDigit_5 : decode cX3_isDigit 5 = .ok (.istore_n 2, 1) := by decide +kernel
theorem dX3_isDigit_6 : decode cX3_isDigit 6 = .ok (.iload_n 2, 1) := by decide +kernel
theorem dX3_isDigit_7 : decode cX3_isDigit 7 = .ok (.bipush 48, 2) := by decide +kernel
theorem dX3_isDigit_9 : decode cX3_isDigit 9 = .ok (.if_icmp .lt 13, 3) := by decide +kernel
theorem dX3_isDigit_12 : decode cX3_isDigit 12 = .ok (.iload_n 2, 1) := by decide +kernel
theorem dX3_isDigit_13 : decode cX3_isDigit 13 = .ok (.bipush 57, 2) := by decide +kernel
theorem dX3_isDigit_15 : decode cX3_isDigit 15 = .ok (.if_icmp .gt 7, 3) := by decide +kernel
theorem dX3_isDigit_18 : decode cX3_isDigit 18 = .ok (.iconst 1, 1) := by decide +kernel
theorem dX3_isDigit_19 : decode cX3_isDigit 19 = .ok (.goto 4, 3) := by decide +kernel
theorem dX3_isDigit_22 : decode cX3_isDigit 22 = .ok (.iconst 0, 1) := by decide +kernel
theorem dX3_isDigit_23 : decode cX3_isDigit 23 = .ok (.ireturn, 1) := by decide +kernel
theorem dX4_init_0 : decode cX4_init 0 = .ok (.aload_n 0, 1) := by decide +kernel
theorem dX4_init_1 : decode cX4_init 1 = .ok (.invokespecial 3, 3) := by decide +kernel
theorem dX4_init_4 : decode cX4_init 4 = .ok (.aload_n 0, 1) := by decide +kernel
theorem dX4_init_5 : decode cX4_init 5 = .ok (.iconst (-1), 1) := by decide +kernel
theorem dX4_init_6 : decode cX4_init 6 = .ok (.putfield 9, 3) := by decide +kernel
theorem dX4_init_9 : decode cX4_init 9 = .ok (.aload_n 0, 1) := by decide +kernel
theorem dX4_init_10 : decode cX4_init 10 = .ok (.bipush 100, 2) := by decide +kernel
theorem dX4_init_12 : decode cX4_init 12 = .ok (.newarray .boolean, 2) := by decide +kernel
theorem dX4_init_14 : decode cX4_init 14 = .ok (.putfield 15, 3) := by decide +kernel
theorem dX4_init_17 : decode cX4_init 17 = .ok (.aload_n 0, 1) := by decide +kernel
theorem dX4_init_18 : decode cX4_init 18 = .ok (.bipush 100, 2) := by decide +kernel
theorem dX4_init_20 : decode cX4_init 20 = .ok (.newarray .int, 2) := by decide +kernel
theorem dX4_init_22 : decode cX4_init 22 = .ok (.putfield 19, 3) := by decide +kernel
theorem dX4_init_25 : decode cX4_init 25 = .ok (.aload_n 0, 1) := by decide +kernel
theorem dX4_init_26 : decode cX4_init 26 = .ok (.iload_n 1, 1) := by decide +kernel
theorem dX4_init_27 : decode cX4_init 27 = .ok (.putfield 23, 3) := by decide +kernel
theorem dX4_init_30 : decode cX4_init 30 = .ok (.aload_n 0, 1) := by decide +kernel
theorem dX4_init_31 : decode cX4_init 31 = .ok (.iload_n 2, 1) := by decide +kernel
theorem dX4_init_32 : decode cX4_init 32 = .ok (.putfield 26, 3) := by decide +kernel
theorem dX4_init_35 : decode cX4_init 35 = .ok (.aload_n 0, 1) := by decide +kernel
theorem dX4_init_36 : decode cX4_init 36 = .ok (.iload_n 3, 1) := by decide +kernel
theorem dX4_init_37 : decode cX4_init 37 = .ok (.putfield 29, 3) := by decide +kernel
theorem dX4_init_40 : decode cX4_init 40 = .ok (.aload_n 0, 1) := by decide +kernel
theorem dX4_init_41 : decode cX4_init 41 = .ok (.iload 4, 2) := by decide +kernel
theorem dX4_init_43 : decode cX4_init 43 = .ok (.putfield 32, 3) := by decide +kernel
theorem dX4_init_46 : decode cX4_init 46 = .ok (.return_, 1) := by decide +kernel
theorem dX4_isAway_0 : decode cX4_isAway 0 = .ok (.iload_n 1, 1) := by decide +kernel
theorem dX4_isAway_1 : decode cX4_isAway 1 = .ok (.ifCond .lt 22, 3) := by decide +kernel
theorem dX4_isAway_4 : decode cX4_isAway 4 = .ok (.iload_n 1, 1) := by decide +kernel
theorem dX4_isAway_5 : decode cX4_isAway 5 = .ok (.bipush 99, 2) := by decide +kernel
theorem dX4_isAway_7 : decode cX4_isAway 7 = .ok (.if_icmp .gt 16, 3) := by decide +kernel
theorem dX4_isAway_10 : decode cX4_isAway 10 = .ok (.aload_n 0, 1) := by decide +kernel
theorem dX4_isAway_11 : decode cX4_isAway 11 = .ok (.getfield 15, 3) := by decide +kernel
theorem dX4_isAway_14 : decode cX4_isAway 14 = .ok (.iload_n 1, 1) := by decide +kernel
theorem dX4_isAway_15 : decode cX4_isAway 15 = .ok (.baload, 1) := by decide +kernel
theorem dX4_isAway_16 : decode cX4_isAway 16 = .ok (.ifCond .eq 7, 3) := by decide +kernel
theorem dX4_isAway_19 : decode cX4_isAway 19 = .ok (.iconst 1, 1) := by decide +kernel
theorem dX4_isAway_20 : decode cX4_isAway 20 = .ok (.goto 4, 3) := by decide +kernel
theorem dX4_isAway_23 : decode cX4_isAway 23 = .ok (.iconst 0, 1) := by decide +kernel
theorem dX4_isAway_24 : decode cX4_isAway 24 = .ok (.ireturn, 1) := by decide +kernel
theorem dX4_setAway_0 : decode cX4_setAway 0 = .ok (.iload_n 1, 1) := by decide +kernel
theorem dX4_setAway_1 : decode cX4_setAway 1 = .ok (.ifCond .lt 19, 3) := by decide +kernel
theorem dX4_setAway_4 : decode cX4_setAway 4 = .ok (.iload_n 1, 1) := by decide +kernel
theorem dX4_setAway_5 : decode cX4_setAway 5 = .ok (.bipush 99, 2) := by decide +kernel
theorem dX4_setAway_7 : decode cX4_setAway 7 = .ok (.if_icmp .gt 13, 3) := by decide +kernel
theorem dX4_setAway_10 : decode cX4_setAway 10 = .ok (.aload_n 0, 1) := by decide +kernel
theorem dX4_setAway_11 : decode cX4_setAway 11 = .ok (.getfield 15, 3) := by decide +kernel
theorem dX4_setAway_14 : decode cX4_setAway 14 = .ok (.iload_n 1, 1) := by decide +kernel
theorem dX4_setAway_15 : decode cX4_setAway 15 = .ok (.baload, 1) := by decide +kernel
theorem dX4_setAway_16 : decode cX4_setAway 16 = .ok (.iload_n 2, 1) := by decide +kernel
theorem dX4_setAway_17 : decode cX4_setAway 17 = .ok (.if_icmp .ne 5, 3) := by decide +kernel
theorem dX4_setAway_20 : decode cX4_setAway 20 = .ok (.iconst 0, 1) := by decide +kernel
theorem dX4_setAway_21 : decode cX4_setAway 21 = .ok (.ireturn, 1) := by decide +kernel
theorem dX4_setAway_22 : decode cX4_setAway 22 = .ok (.aload_n 0, 1) := by decide +kernel
theorem dX4_setAway_23 : decode cX4_setAway 23 = .ok (.getfield 15, 3) := by decide +kernel
theorem dX4_setAway_26 : decode cX4_setAway 26 = .ok (.iload_n 1, 1) := by decide +kernel
theorem dX4_setAway_27 : decode cX4_setAway 27 = .ok (.iload_n 2, 1) := by decide +kernel
theorem dX4_setAway_28 : decode cX4_setAway 28 = .ok (.bastore, 1) := by decide +kernel
theorem dX4_setAway_29 : decode cX4_setAway 29 = .ok (.iconst 1, 1) := by decide +kernel
theorem dX4_setAway_30 : decode cX4_setAway 30 = .ok (.ireturn, 1) := by decide +kernel
theorem dX4_clubsIn_0 : decode cX4_clubsIn 0 = .ok (.iload_n 1, 1) := by decide +kernel
theorem dX4_clubsIn_1 : decode cX4_clubsIn 1 = .ok (.ifCond .lt 18, 3) := by decide +kernel
theorem dX4_clubsIn_4 : decode cX4_clubsIn 4 = .ok (.iload_n 1, 1) := by decide +kernel
theorem dX4_clubsIn_5 : decode cX4_clubsIn 5 = .ok (.bipush 99, 2) := by decide +kernel
theorem dX4_clubsIn_7 : decode cX4_clubsIn 7 = .ok (.if_icmp .gt 12, 3) := by decide +kernel
theorem dX4_clubsIn_10 : decode cX4_clubsIn 10 = .ok (.aload_n 0, 1) := by decide +kernel
theorem dX4_clubsIn_11 : decode cX4_clubsIn 11 = .ok (.getfield 19, 3) := by decide +kernel
theorem dX4_clubsIn_14 : decode cX4_clubsIn 14 = .ok (.iload_n 1, 1) := by decide +kernel
theorem dX4_clubsIn_15 : decode cX4_clubsIn 15 = .ok (.iaload, 1) := by decide +kernel
theorem dX4_clubsIn_16 : decode cX4_clubsIn 16 = .ok (.goto 4, 3) := by decide +kernel
theorem dX4_clubsIn_19 : decode cX4_clubsIn 19 = .ok (.iconst 0, 1) := by decide +kernel
theorem dX4_clubsIn_20 : decode cX4_clubsIn 20 = .ok (.ireturn, 1) := by decide +kernel
theorem dX4_stand_0 : decode cX4_stand 0 = .ok (.iload_n 1, 1) := by decide +kernel
theorem dX4_stand_1 : decode cX4_stand 1 = .ok (.ifCond .lt 26, 3) := by decide +kernel
theorem dX4_stand_4 : decode cX4_stand 4 = .ok (.iload_n 1, 1) := by decide +kernel
theorem dX4_stand_5 : decode cX4_stand 5 = .ok (.bipush 99, 2) := by decide +kernel
theorem dX4_stand_7 : decode cX4_stand 7 = .ok (.if_icmp .gt 20, 3) := by decide +kernel
theorem dX4_stand_10 : decode cX4_stand 10 = .ok (.aload_n 0, 1) := by decide +kernel
theorem dX4_stand_11 : decode cX4_stand 11 = .ok (.getfield 19, 3) := by decide +kernel
theorem dX4_stand_14 : decode cX4_stand 14 = .ok (.iload_n 1, 1) := by decide +kernel
theorem dX4_stand_15 : decode cX4_stand 15 = .ok (.iload_n 2, 1) := by decide +kernel
theorem dX4_stand_16 : decode cX4_stand 16 = .ok (.iastore, 1) := by decide +kernel
theorem dX4_stand_17 : decode cX4_stand 17 = .ok (.aload_n 0, 1) := by decide +kernel
theorem dX4_stand_18 : decode cX4_stand 18 = .ok (.dup, 1) := by decide +kernel
theorem dX4_stand_19 : decode cX4_stand 19 = .ok (.getfield 35, 3) := by decide +kernel
theorem dX4_stand_22 : decode cX4_stand 22 = .ok (.iconst 1, 1) := by decide +kernel
theorem dX4_stand_23 : decode cX4_stand 23 = .ok (.iadd, 1) := by decide +kernel
theorem dX4_stand_24 : decode cX4_stand 24 = .ok (.putfield 35, 3) := by decide +kernel
theorem dX4_stand_27 : decode cX4_stand 27 = .ok (.return_, 1) := by decide +kernel
theorem dX4_stoodInAll_0 : decode cX4_stoodInAll 0 = .ok (.iload_n 1, 1) := by decide +kernel
theorem dX4_stoodInAll_1 : decode cX4_stoodInAll 1 = .ok (.iload_n 2, 1) := by decide +kernel
theorem dX4_stoodInAll_2 : decode cX4_stoodInAll 2 = .ok (.if_icmp .ge 5, 3) := by decide +kernel
theorem dX4_stoodInAll_5 : decode cX4_stoodInAll 5 = .ok (.iconst 0, 1) := by decide +kernel
theorem dX4_stoodInAll_6 : decode cX4_stoodInAll 6 = .ok (.ireturn, 1) := by decide +kernel
theorem dX4_stoodInAll_7 : decode cX4_stoodInAll 7 = .ok (.iload_n 1, 1) := by decide +kernel
theorem dX4_stoodInAll_8 : decode cX4_stoodInAll 8 = .ok (.iload_n 2, 1) := by decide +kernel
theorem dX4_stoodInAll_9 : decode cX4_stoodInAll 9 = .ok (.isub, 1) := by decide +kernel
theorem dX4_stoodInAll_10 : decode cX4_stoodInAll 10 = .ok (.istore_n 3, 1) := by decide +kernel
theorem dX4_stoodInAll_11 : decode cX4_stoodInAll 11 = .ok (.iload_n 3, 1) := by decide +kernel
theorem dX4_stoodInAll_12 : decode cX4_stoodInAll 12 = .ok (.iload_n 1, 1) := by decide +kernel
theorem dX4_stoodInAll_13 : decode cX4_stoodInAll 13 = .ok (.if_icmp .ge 19, 3) := by decide +kernel
theorem dX4_stoodInAll_16 : decode cX4_stoodInAll 16 = .ok (.aload_n 0, 1) := by decide +kernel
theorem dX4_stoodInAll_17 : decode cX4_stoodInAll 17 = .ok (.iload_n 3, 1) := by decide +kernel
theorem dX4_stoodInAll_18 : decode cX4_stoodInAll 18 = .ok (.invokevirtual 38, 3) := by decide +kernel
theorem dX4_stoodInAll_21 : decode cX4_stoodInAll 21 = .ok (.ifCond .ne 5, 3) := by decide +kernel
theorem dX4_stoodInAll_24 : decode cX4_stoodInAll 24 = .ok (.iconst 0, 1) := by decide +kernel
theorem dX4_stoodInAll_25 : decode cX4_stoodInAll 25 = .ok (.ireturn, 1) := by decide +kernel
theorem dX4_stoodInAll_26 : decode cX4_stoodInAll 26 = .ok (.iinc 3 1, 3) := by decide +kernel
theorem dX4_stoodInAll_29 : decode cX4_stoodInAll 29 = .ok (.goto (-18), 3) := by decide +kernel
theorem dX4_stoodInAll_32 : decode cX4_stoodInAll 32 = .ok (.iconst 1, 1) := by decide +kernel
theorem dX4_stoodInAll_33 : decode cX4_stoodInAll 33 = .ok (.ireturn, 1) := by decide +kernel
theorem dX4_stoodWith_0 : decode cX4_stoodWith 0 = .ok (.iload_n 2, 1) := by decide +kernel
theorem dX4_stoodWith_1 : decode cX4_stoodWith 1 = .ok (.iload_n 3, 1) := by decide +kernel
theorem dX4_stoodWith_2 : decode cX4_stoodWith 2 = .ok (.isub, 1) := by decide +kernel
theorem dX4_stoodWith_3 : decode cX4_stoodWith 3 = .ok (.istore 4, 2) := by decide +kernel
theorem dX4_stoodWith_5 : decode cX4_stoodWith 5 = .ok (.iload 4, 2) := by decide +kernel
theorem dX4_stoodWith_7 : decode cX4_stoodWith 7 = .ok (.iload_n 2, 1) := by decide +kernel
theorem dX4_stoodWith_8 : decode cX4_stoodWith 8 = .ok (.if_icmp .ge 22, 3) := by decide +kernel
theorem dX4_stoodWith_11 : decode cX4_stoodWith 11 = .ok (.aload_n 0, 1) := by decide +kernel
theorem dX4_stoodWith_12 : decode cX4_stoodWith 12 = .ok (.iload 4, 2) := by decide +kernel
theorem dX4_stoodWith_14 : decode cX4_stoodWith 14 = .ok (.invokevirtual 38, 3) := by decide +kernel
theorem dX4_stoodWith_17 : decode cX4_stoodWith 17 = .ok (.iload_n 1, 1) := by decide +kernel
theorem dX4_stoodWith_18 : decode cX4_stoodWith 18 = .ok (.iand, 1) := by decide +kernel
theorem dX4_stoodWith_19 : decode cX4_stoodWith 19 = .ok (.ifCond .eq 5, 3) := by decide +kernel
theorem dX4_stoodWith_22 : decode cX4_stoodWith 22 = .ok (.iconst 1, 1) := by decide +kernel
theorem dX4_stoodWith_23 : decode cX4_stoodWith 23 = .ok (.ireturn, 1) := by decide +kernel
theorem dX4_stoodWith_24 : decode cX4_stoodWith 24 = .ok (.iinc 4 1, 3) := by decide +kernel
theorem dX4_stoodWith_27 : decode cX4_stoodWith 27 = .ok (.goto (-22), 3) := by decide +kernel
theorem dX4_stoodWith_30 : decode cX4_stoodWith 30 = .ok (.iconst 0, 1) := by decide +kernel
theorem dX4_stoodWith_31 : decode cX4_stoodWith 31 = .ok (.ireturn, 1) := by decide +kernel
theorem dX4_addMarks_0 : decode cX4_addMarks 0 = .ok (.aload_n 0, 1) := by decide +kernel
theorem dX4_addMarks_1 : decode cX4_addMarks 1 = .ok (.dup, 1) := by decide +kernel
theorem dX4_addMarks_2 : decode cX4_addMarks 2 = .ok (.getfield 42, 3) := by decide +kernel
theorem dX4_addMarks_5 : decode cX4_addMarks 5 = .ok (.iconst 1, 1) := by decide +kernel
theorem dX4_addMarks_6 : decode cX4_addMarks 6 = .ok (.iadd, 1) := by decide +kernel
theorem dX4_addMarks_7 : decode cX4_addMarks 7 = .ok (.putfield 42, 3) := by decide +kernel
theorem dX4_addMarks_10 : decode cX4_addMarks 10 = .ok (.aload_n 0, 1) := by decide +kernel
theorem dX4_addMarks_11 : decode cX4_addMarks 11 = .ok (.dup, 1) := by decide +kernel
theorem dX4_addMarks_12 : decode cX4_addMarks 12 = .ok (.getfield 45, 3) := by decide +kernel
theorem dX4_addMarks_15 : decode cX4_addMarks 15 = .ok (.iload_n 2, 1) := by decide +kernel
theorem dX4_addMarks_16 : decode cX4_addMarks 16 = .ok (.iadd, 1) := by decide +kernel
theorem dX4_addMarks_17 : decode cX4_addMarks 17 = .ok (.putfield 45, 3) := by decide +kernel
theorem dX4_addMarks_20 : decode cX4_addMarks 20 = .ok (.aload_n 0, 1) := by decide +kernel
theorem dX4_addMarks_21 : decode cX4_addMarks 21 = .ok (.dup, 1) := by decide +kernel
theorem dX4_addMarks_22 : decode cX4_addMarks 22 = .ok (.getfield 48, 3) := by decide +kernel
theorem dX4_addMarks_25 : decode cX4_addMarks 25 = .ok (.iload_n 1, 1) := by decide +kernel
theorem dX4_addMarks_26 : decode cX4_addMarks 26 = .ok (.iload_n 2, 1) := by decide +kernel
theorem dX4_addMarks_27 : decode cX4_addMarks 27 = .ok (.imul, 1) := by decide +kernel
theorem dX4_addMarks_28 : decode cX4_addMarks 28 = .ok (.iadd, 1) := by decide +kernel
theorem dX4_addMarks_29 : decode cX4_addMarks 29 = .ok (.putfield 48, 3) := by decide +kernel
theorem dX4_addMarks_32 : decode cX4_addMarks 32 = .ok (.return_, 1) := by decide +kernel
theorem dX4_giveGrade_0 : decode cX4_giveGrade 0 = .ok (.aload_n 0, 1) := by decide +kernel
theorem dX4_giveGrade_1 : decode cX4_giveGrade 1 = .ok (.iload_n 1, 1) := by decide +kernel
theorem dX4_giveGrade_2 : decode cX4_giveGrade 2 = .ok (.putfield 29, 3) := by decide +kernel
theorem dX4_giveGrade_5 : decode cX4_giveGrade 5 = .ok (.aload_n 0, 1) := by decide +kernel
theorem dX4_giveGrade_6 : decode cX4_giveGrade 6 = .ok (.iconst 0, 1) := by decide +kernel
theorem dX4_giveGrade_7 : decode cX4_giveGrade 7 = .ok (.putfield 42, 3) := by decide +kernel
theorem dX4_giveGrade_10 : decode cX4_giveGrade 10 = .ok (.aload_n 0, 1) := by decide +kernel
theorem dX4_giveGrade_11 : decode cX4_giveGrade 11 = .ok (.iconst 0, 1) := by decide +kernel
theorem dX4_giveGrade_12 : decode cX4_giveGrade 12 = .ok (.putfield 45, 3) := by decide +kernel
theorem dX4_giveGrade_15 : decode cX4_giveGrade 15 = .ok (.aload_n 0, 1) := by decide +kernel
theorem dX4_giveGrade_16 : decode cX4_giveGrade 16 = .ok (.iconst 0, 1) := by decide +kernel
theorem dX4_giveGrade_17 : decode cX4_giveGrade 17 = .ok (.putfield 48, 3) := by decide +kernel
theorem dX4_giveGrade_20 : decode cX4_giveGrade 20 = .ok (.return_, 1) := by decide +kernel
end
section
theorem dX5_init_0 : decode cX5_init 0 = .ok (.aload_n 0, 1) := by decide +kernel
theorem dX5_init_1 : decode cX5_init 1 = .ok (.invokespecial 1, 3) := by decide +kernel
theorem dX5_init_4 : decode cX5_init 4 = .ok (.aload_n 0, 1) := by decide +kernel
theorem dX5_init_5 : decode cX5_init 5 = .ok (.new 7, 3) := by decide +kernel
theorem dX5_init_8 : decode cX5_init 8 = .ok (.dup, 1) := by decide +kernel
theorem dX5_init_9 : decode cX5_init 9 = .ok (.invokespecial 9, 3) := by decide +kernel
theorem dX5_init_12 : decode cX5_init 12 = .ok (.putfield 10, 3) := by decide +kernel
theorem dX5_init_15 : decode cX5_init 15 = .ok (.aload_n 0, 1) := by decide +kernel
theorem dX5_init_16 : decode cX5_init 16 = .ok (.new 16, 3) := by decide +kernel
theorem dX5_init_19 : decode cX5_init 19 = .ok (.dup, 1) := by decide +kernel
theorem dX5_init_20 : decode cX5_init 20 = .ok (.invokespecial 18, 3) := by decide +kernel
theorem dX5_init_23 : decode cX5_init 23 = .ok (.putfield 19, 3) := by decide +kernel
theorem dX5_init_26 : decode cX5_init 26 = .ok (.aload_n 0, 1) := by decide +kernel
theorem dX5_init_27 : decode cX5_init 27 = .ok (.bipush 20, 2) := by decide +kernel
theorem dX5_init_29 : decode cX5_init 29 = .ok (.anewarray 23, 3) := by decide +kernel
theorem dX5_init_32 : decode cX5_init 32 = .ok (.putfield 25, 3) := by decide +kernel
theorem dX5_init_35 : decode cX5_init 35 = .ok (.aload_n 0, 1) := by decide +kernel
theorem dX5_init_36 : decode cX5_init 36 = .ok (.bipush 8, 2) := by decide +kernel
theorem dX5_init_38 : decode cX5_init 38 = .ok (.anewarray 29, 3) := by decide +kernel
theorem dX5_init_41 : decode cX5_init 41 = .ok (.putfield 31, 3) := by decide +kernel
theorem dX5_init_44 : decode cX5_init 44 = .ok (.iconst 0, 1) := by decide +kernel
theorem dX5_init_45 : decode cX5_init 45 = .ok (.istore_n 1, 1) := by decide +kernel
theorem dX5_init_46 : decode cX5_init 46 = .ok (.iload_n 1, 1) := by decide +kernel
theorem dX5_init_47 : decode cX5_init 47 = .ok (.bipush 8, 2) := by decide +kernel
theorem dX5_init_49 : decode cX5_init 49 = .ok (.if_icmp .ge 22, 3) := by decide +kernel
theorem dX5_init_52 : decode cX5_init 52 = .ok (.aload_n 0, 1) := by decide +kernel
theorem dX5_init_53 : decode cX5_init 53 = .ok (.getfield 31, 3) := by decide +kernel
theorem dX5_init_56 : decode cX5_init 56 = .ok (.iload_n 1, 1) := by decide +kernel
theorem dX5_init_57 : decode cX5_init 57 = .ok (.new 29, 3) := by decide +kernel
theorem dX5_init_60 : decode cX5_init 60 = .ok (.dup, 1) := by decide +kernel
theorem dX5_init_61 : decode cX5_init 61 = .ok (.invokespecial 35, 3) := by decide +kernel
theorem dX5_init_64 : decode cX5_init 64 = .ok (.aastore, 1) := by decide +kernel
theorem dX5_init_65 : decode cX5_init 65 = .ok (.iinc 1 1, 3) := by decide +kernel
theorem dX5_init_68 : decode cX5_init 68 = .ok (.goto (-22), 3) := by decide +kernel
theorem dX5_init_71 : decode cX5_init 71 = .ok (.aload_n 0, 1) := by decide +kernel
theorem dX5_init_72 : decode cX5_init 72 = .ok (.bipush 16, 2) := by decide +kernel
theorem dX5_init_74 : decode cX5_init 74 = .ok (.newarray .int, 2) := by decide +kernel
theorem dX5_init_76 : decode cX5_init 76 = .ok (.putfield 36, 3) := by decide +kernel
theorem dX5_init_79 : decode cX5_init 79 = .ok (.iconst 0, 1) := by decide +kernel
theorem dX5_init_80 : decode cX5_init 80 = .ok (.istore_n 1, 1) := by decide +kernel
theorem dX5_init_81 : decode cX5_init 81 = .ok (.iload_n 1, 1) := by decide +kernel
theorem dX5_init_82 : decode cX5_init 82 = .ok (.bipush 16, 2) := by decide +kernel
theorem dX5_init_84 : decode cX5_init 84 = .ok (.if_icmp .ge 16, 3) := by decide +kernel
theorem dX5_init_87 : decode cX5_init 87 = .ok (.aload_n 0, 1) := by decide +kernel
theorem dX5_init_88 : decode cX5_init 88 = .ok (.getfield 36, 3) := by decide +kernel
theorem dX5_init_91 : decode cX5_init 91 = .ok (.iload_n 1, 1) := by decide +kernel
theorem dX5_init_92 : decode cX5_init 92 = .ok (.iconst (-1), 1) := by decide +kernel
theorem dX5_init_93 : decode cX5_init 93 = .ok (.iastore, 1) := by decide +kernel
theorem dX5_init_94 : decode cX5_init 94 = .ok (.iinc 1 1, 3) := by decide +kernel
theorem dX5_init_97 : decode cX5_init 97 = .ok (.goto (-16), 3) := by decide +kernel
theorem dX5_init_100 : decode cX5_init 100 = .ok (.aload_n 0, 1) := by decide +kernel
theorem dX5_init_101 : decode cX5_init 101 = .ok (.new 40, 3) := by decide +kernel
theorem dX5_init_104 : decode cX5_init 104 = .ok (.dup, 1) := by decide +kernel
theorem dX5_init_105 : decode cX5_init 105 = .ok (.invokespecial 42, 3) := by decide +kernel
theorem dX5_init_108 : decode cX5_init 108 = .ok (.putfield 43, 3) := by decide +kernel
theorem dX5_init_111 : decode cX5_init 111 = .ok (.return_, 1) := by decide +kernel
theorem dX5_feed_0 : decode cX5_feed 0 = .ok (.aload_n 0, 1) := by decide +kernel
theorem dX5_feed_1 : decode cX5_feed 1 = .ok (.getfield 10, 3) := by decide +kernel
theorem dX5_feed_4 : decode cX5_feed 4 = .ok (.bipush 20, 2) := by decide +kernel
theorem dX5_feed_6 : decode cX5_feed 6 = .ok (.invokevirtual 47, 3) := by decide +kernel
theorem dX5_feed_9 : decode cX5_feed 9 = .ok (.ifCond .ne 5, 3) := by decide +kernel
theorem dX5_feed_12 : decode cX5_feed 12 = .ok (.iconst (-1), 1) := by decide +kernel
theorem dX5_feed_13 : decode cX5_feed 13 = .ok (.ireturn, 1) := by decide +kernel
theorem dX5_feed_14 : decode cX5_feed 14 = .ok (.aload_n 0, 1) := by decide +kernel
theorem dX5_feed_15 : decode cX5_feed 15 = .ok (.getfield 10, 3) := by decide +kernel
theorem dX5_feed_18 : decode cX5_feed 18 = .ok (.iload_n 1, 1) := by decide +kernel
theorem dX5_feed_19 : decode cX5_feed 19 = .ok (.invokevirtual 51, 3) := by decide +kernel
theorem dX5_feed_22 : decode cX5_feed 22 = .ok (.aload_n 0, 1) := by decide +kernel
theorem dX5_feed_23 : decode cX5_feed 23 = .ok (.getfield 10, 3) := by decide +kernel
theorem dX5_feed_26 : decode cX5_feed 26 = .ok (.iload_n 2, 1) := by decide +kernel
theorem dX5_feed_27 : decode cX5_feed 27 = .ok (.invokevirtual 51, 3) := by decide +kernel
theorem dX5_feed_30 : decode cX5_feed 30 = .ok (.aload_n 0, 1) := by decide +kernel
theorem dX5_feed_31 : decode cX5_feed 31 = .ok (.getfield 10, 3) := by decide +kernel
theorem dX5_feed_34 : decode cX5_feed 34 = .ok (.iload_n 3, 1) := by decide +kernel
theorem dX5_feed_35 : decode cX5_feed 35 = .ok (.invokevirtual 51, 3) := by decide +kernel
theorem dX5_feed_38 : decode cX5_feed 38 = .ok (.aload_n 0, 1) := by decide +kernel
theorem dX5_feed_39 : decode cX5_feed 39 = .ok (.getfield 10, 3) := by decide +kernel
theorem dX5_feed_42 : decode cX5_feed 42 = .ok (.iload 4, 2) := by decide +kernel
theorem dX5_feed_44 : decode cX5_feed 44 = .ok (.invokevirtual 51, 3) := by decide +kernel
theorem dX5_feed_47 : decode cX5_feed 47 = .ok (.aload_n 0, 1) := by decide +kernel
theorem dX5_feed_48 : decode cX5_feed 48 = .ok (.getfield 10, 3) := by decide +kernel
theorem dX5_feed_51 : decode cX5_feed 51 = .ok (.iload 5, 2) := by decide +kernel
theorem dX5_feed_53 : decode cX5_feed 53 = .ok (.invokevirtual 51, 3) := by decide +kernel
theorem dX5_feed_56 : decode cX5_feed 56 = .ok (.aload_n 0, 1) := by decide +kernel
theorem dX5_feed_57 : decode cX5_feed 57 = .ok (.getfield 10, 3) := by decide +kernel
theorem dX5_feed_60 : decode cX5_feed 60 = .ok (.invokevirtual 55, 3) := by decide +kernel
theorem dX5_feed_63 : decode cX5_feed 63 = .ok (.ireturn, 1) := by decide +kernel
theorem dX5_end_0 : decode cX5_end 0 = .ok (.aload_n 0, 1) := by decide +kernel
theorem dX5_end_1 : decode cX5_end 1 = .ok (.getfield 10, 3) := by decide +kernel
theorem dX5_end_4 : decode cX5_end 4 = .ok (.iload_n 1, 1) := by decide +kernel
theorem dX5_end_5 : decode cX5_end 5 = .ok (.invokevirtual 59, 3) := by decide +kernel
theorem dX5_end_8 : decode cX5_end 8 = .ok (.ireturn, 1) := by decide +kernel
theorem dX5_rules_0 : decode cX5_rules 0 = .ok (.aload_n 0, 1) := by decide +kernel
theorem dX5_rules_1 : decode cX5_rules 1 = .ok (.getfield 19, 3) := by decide +kernel
theorem dX5_rules_4 : decode cX5_rules 4 = .ok (.aload_n 0, 1) := by decide +kernel
theorem dX5_rules_5 : decode cX5_rules 5 = .ok (.getfield 10, 3) := by decide +kernel
theorem dX5_rules_8 : decode cX5_rules 8 = .ok (.invokevirtual 62, 3) := by decide +kernel
theorem dX5_rules_11 : decode cX5_rules 11 = .ok (.istore_n 1, 1) := by decide +kernel
theorem dX5_rules_12 : decode cX5_rules 12 = .ok (.aload_n 0, 1) := by decide +kernel
theorem dX5_rules_13 : decode cX5_rules 13 = .ok (.getfield 10, 3) := by decide +kernel
theorem dX5_rules_16 : decode cX5_rules 16 = .ok (.iconst 0, 1) := by decide +kernel
theorem dX5_rules_17 : decode cX5_rules 17 = .ok (.invokevirtual 59, 3) := by decide +kernel
theorem dX5_rules_20 : decode cX5_rules 20 = .ok (.pop, 1) := by decide +kernel
theorem dX5_rules_21 : decode cX5_rules 21 = .ok (.iload_n 1, 1) := by decide +kernel
theorem dX5_rules_22 : decode cX5_rules 22 = .ok (.ireturn, 1) := by decide +kernel
theorem dX5_fault_0 : decode cX5_fault 0 = .ok (.aload_n 0, 1) := by decide +kernel
theorem dX5_fault_1 : decode cX5_fault 1 = .ok (.getfield 19, 3) := by decide +kernel
theorem dX5_fault_4 : decode cX5_fault 4 = .ok (.invokevirtual 66, 3) := by decide +kernel
theorem dX5_fault_7 : decode cX5_fault 7 = .ok (.ireturn, 1) := by decide +kernel
theorem dX5_rule_0 : decode cX5_rule 0 = .ok (.aload_n 0, 1) := by decide +kernel
theorem dX5_rule_1 : decode cX5_rule 1 = .ok (.getfield 19, 3) := by decide +kernel
theorem dX5_rule_4 : decode cX5_rule 4 = .ok (.iload_n 1, 1) := by decide +kernel
theorem dX5_rule_5 : decode cX5_rule 5 = .ok (.invokevirtual 69, 3) := by decide +kernel
theorem dX5_rule_8 : decode cX5_rule 8 = .ok (.ireturn, 1) := by decide +kernel
theorem dX5_umpire_0 : decode cX5_umpire 0 = .ok (.aload_n 0, 1) := by decide +kernel
theorem dX5_umpire_1 : decode cX5_umpire 1 = .ok (.getfield 73, 3) := by decide +kernel
theorem dX5_umpire_4 : decode cX5_umpire 4 = .ok (.bipush 20, 2) := by decide +kernel
theorem dX5_umpire_6 : decode cX5_umpire 6 = .ok (.if_icmp .ge 11, 3) := by decide +kernel
theorem dX5_umpire_9 : decode cX5_umpire 9 = .ok (.iload_n 1, 1) := by decide +kernel
theorem dX5_umpire_10 : decode cX5_umpire 10 = .ok (.iload_n 2, 1) := by decide +kernel
theorem dX5_umpire_11 : decode cX5_umpire 11 = .ok (.invokestatic 77, 3) := by decide +kernel
theorem dX5_umpire_14 : decode cX5_umpire 14 = .ok (.ifCond .ne 5, 3) := by decide +kernel
theorem dX5_umpire_17 : decode cX5_umpire 17 = .ok (.iconst (-1), 1) := by decide +kernel
theorem dX5_umpire_18 : decode cX5_umpire 18 = .ok (.ireturn, 1) := by decide +kernel
theorem dX5_umpire_19 : decode cX5_umpire 19 = .ok (.iload_n 3, 1) := by decide +kernel
theorem dX5_umpire_20 : decode cX5_umpire 20 = .ok (.invokestatic 81, 3) := by decide +kernel
theorem dX5_umpire_23 : decode cX5_umpire 23 = .ok (.ifCond .eq 16, 3) := by decide +kernel
theorem dX5_umpire_26 : decode cX5_umpire 26 = .ok (.iload 4, 2) := by decide +kernel
theorem dX5_umpire_28 : decode cX5_umpire 28 = .ok (.ifCond .lt 11, 3) := by decide +kernel
theorem dX5_umpire_31 : decode cX5_umpire 31 = .ok (.iload 4, 2) := by decide +kernel
theorem dX5_umpire_33 : decode cX5_umpire 33 = .ok (.sipush 4096, 3) := by decide +kernel
theorem dX5_umpire_36 : decode cX5_umpire 36 = .ok (.if_icmp .lt 5, 3) := by decide +kernel
theorem dX5_umpire_39 : decode cX5_umpire 39 = .ok (.iconst (-1), 1) := by decide +kernel
theorem dX5_umpire_40 : decode cX5_umpire 40 = .ok (.ireturn, 1) := by decide +kernel
theorem dX5_umpire_41 : decode cX5_umpire 41 = .ok (.aload_n 0, 1) := by decide +kernel
theorem dX5_umpire_42 : decode cX5_umpire 42 = .ok (.getfield 73, 3) := by decide +kernel
theorem dX5_umpire_45 : decode cX5_umpire 45 = .ok (.istore 5, 2) := by decide +kernel
theorem dX5_umpire_47 : decode cX5_umpire 47 = .ok (.aload_n 0, 1) := by decide +kernel
theorem dX5_umpire_48 : decode cX5_umpire 48 = .ok (.getfield 25, 3) := by decide +kernel
theorem dX5_umpire_51 : decode cX5_umpire 51 = .ok (.iload 5, 2) := by decide +kernel
theorem dX5_umpire_53 : decode cX5_umpire 53 = .ok (.new 23, 3) := by decide +kernel
theorem dX5_umpire_56 : decode cX5_umpire 56 = .ok (.dup, 1) := by decide +kernel
theorem dX5_umpire_57 : decode cX5_umpire 57 = .ok (.iload_n 1, 1) := by decide +kernel
theorem dX5_umpire_58 : decode cX5_umpire 58 = .ok (.iload_n 2, 1) := by decide +kernel
theorem dX5_umpire_59 : decode cX5_umpire 59 = .ok (.iload_n 3, 1) := by decide +kernel
theorem dX5_umpire_60 : decode cX5_umpire 60 = .ok (.iload 4, 2) := by decide +kernel
theorem dX5_umpire_62 : decode cX5_umpire 62 = .ok (.invokespecial 84, 3) := by decide +kernel
theorem dX5_umpire_65 : decode cX5_umpire 65 = .ok (.aastore, 1) := by decide +kernel
theorem dX5_umpire_66 : decode cX5_umpire 66 = .ok (.aload_n 0, 1) := by decide +kernel
theorem dX5_umpire_67 : decode cX5_umpire 67 = .ok (.iload 5, 2) := by decide +kernel
theorem dX5_umpire_69 : decode cX5_umpire 69 = .ok (.iconst 1, 1) := by decide +kernel
theorem dX5_umpire_70 : decode cX5_umpire 70 = .ok (.iadd, 1) := by decide +kernel
theorem dX5_umpire_71 : decode cX5_umpire 71 = .ok (.putfield 73, 3) := by decide +kernel
theorem dX5_umpire_74 : decode cX5_umpire 74 = .ok (.iload 5, 2) := by decide +kernel
theorem dX5_umpire_76 : decode cX5_umpire 76 = .ok (.ireturn, 1) := by decide +kernel
theorem dX5_away_0 : decode cX5_away 0 = .ok (.aload_n 0, 1) := by decide +kernel
theorem dX5_away_1 : decode cX5_away 1 = .ok (.iload_n 1, 1) := by decide +kernel
theorem dX5_away_2 : decode cX5_away 2 = .ok (.invokevirtual 87, 3) := by decide +kernel
theorem dX5_away_5 : decode cX5_away 5 = .ok (.astore 4, 2) := by decide +kernel
theorem dX5_away_7 : decode cX5_away 7 = .ok (.aload 4, 2) := by decide +kernel
theorem dX5_away_9 : decode cX5_away 9 = .ok (.ifnull 17, 3) := by decide +kernel
theorem dX5_away_12 : decode cX5_away 12 = .ok (.iload_n 2, 1) := by decide +kernel
theorem dX5_away_13 : decode cX5_away 13 = .ok (.aload_n 0, 1) := by decide +kernel
theorem dX5_away_14 : decode cX5_away 14 = .ok (.getfield 91, 3) := by decide +kernel
theorem dX5_away_17 : decode cX5_away 17 = .ok (.if_icmp .lt 9, 3) := by decide +kernel
theorem dX5_away_20 : decode cX5_away 20 = .ok (.iload_n 2, 1) := by decide +kernel
theorem dX5_away_21 : decode cX5_away 21 = .ok (.bipush 99, 2) := by decide +kernel
theorem dX5_away_23 : decode cX5_away 23 = .ok (.if_icmp .le 5, 3) := by decide +kernel
theorem dX5_away_26 : decode cX5_away 26 = .ok (.iconst 0, 1) := by decide +kernel
theorem dX5_away_27 : decode cX5_away 27 = .ok (.ireturn, 1) := by decide +kernel
theorem dX5_away_28 : decode cX5_away 28 = .ok (.iload_n 2, 1) := by decide +kernel
theorem dX5_away_29 : decode cX5_away 29 = .ok (.aload_n 0, 1) := by decide +kernel
theorem dX5_away_30 : decode cX5_away 30 = .ok (.getfield 91, 3) := by decide +kernel
theorem dX5_away_33 : decode cX5_away 33 = .ok (.if_icmp .ne 14, 3) := by decide +kernel
theorem dX5_away_36 : decode cX5_away 36 = .ok (.aload 4, 2) := by decide +kernel
theorem dX5_away_38 : decode cX5_away 38 = .ok (.getfield 94, 3) := by decide +kernel
theorem dX5_away_41 : decode cX5_away 41 = .ok (.iconst (-1), 1) := by decide +kernel
theorem dX5_away_42 : decode cX5_away 42 = .ok (.if_icmp .eq 5, 3) := by decide +kernel
theorem dX5_away_45 : decode cX5_away 45 = .ok (.iconst 0, 1) := by decide +kernel
theorem dX5_away_46 : decode cX5_away 46 = .ok (.ireturn, 1) := by decide +kernel
theorem dX5_away_47 : decode cX5_away 47 = .ok (.aload 4, 2) := by decide +kernel
theorem dX5_away_49 : decode cX5_away 49 = .ok (.iload_n 2, 1) := by decide +kernel
theorem dX5_away_50 : decode cX5_away 50 = .ok (.iload_n 3, 1) := by decide +kernel
theorem dX5_away_51 : decode cX5_away 51 = .ok (.invokevirtual 97, 3) := by decide +kernel
theorem dX5_away_54 : decode cX5_away 54 = .ok (.ireturn, 1) := by decide +kernel
theorem dX5_game_0 : decode cX5_game 0 = .ok (.aload_n 0, 1) := by decide +kernel
theorem dX5_game_1 : decode cX5_game 1 = .ok (.getfield 101, 3) := by decide +kernel
theorem dX5_game_4 : decode cX5_game 4 = .ok (.bipush 8, 2) := by decide +kernel
theorem dX5_game_6 : decode cX5_game 6 = .ok (.if_icmp .ge 19, 3) := by decide +kernel
theorem dX5_game_9 : decode cX5_game 9 = .ok (.iload_n 1, 1) := by decide +kernel
theorem dX5_game_10 : decode cX5_game 10 = .ok (.iload_n 2, 1) := by decide +kernel
theorem dX5_game_11 : decode cX5_game 11 = .ok (.invokestatic 77, 3) := by decide +kernel
theorem dX5_game_14 : decode cX5_game 14 = .ok (.ifCond .eq 11, 3) := by decide +kernel
theorem dX5_game_17 : decode cX5_game 17 = .ok (.iload 5, 2) := by decide +kernel
theorem dX5_game_19 : decode cX5_game 19 = .ok (.invokestatic 81, 3) := by decide +kernel
theorem dX5_game_22 : decode cX5_game 22 = .ok (.ifCond .ne 5, 3) := by decide +kernel
theorem dX5_game_25 : decode cX5_game 25 = .ok (.iconst (-1), 1) := by decide +kernel
theorem dX5_game_26 : decode cX5_game 26 = .ok (.ireturn, 1) := by decide +kernel
theorem dX5_game_27 : decode cX5_game 27 = .ok (.iload_n 3, 1) := by decide +kernel
theorem dX5_game_28 : decode cX5_game 28 = .ok (.invokestatic 104, 3) := by decide +kernel
theorem dX5_game_31 : decode cX5_game 31 = .ok (.ifCond .eq 17, 3) := by decide +kernel
theorem dX5_game_34 : decode cX5_game 34 = .ok (.iload 4, 2) := by decide +kernel
theorem dX5_game_36 : decode cX5_game 36 = .ok (.invokestatic 104, 3) := by decide +kernel
theorem dX5_game_39 : decode cX5_game 39 = .ok (.ifCond .eq 9, 3) := by decide +kernel
theorem dX5_game_42 : decode cX5_game 42 = .ok (.iload_n 3, 1) := by decide +kernel
theorem dX5_game_43 : decode cX5_game 43 = .ok (.iload 4, 2) := by decide +kernel
theorem dX5_game_45 : decode cX5_game 45 = .ok (.if_icmp .ne 5, 3) := by decide +kernel
theorem dX5_game_48 : decode cX5_game 48 = .ok (.iconst (-1), 1) := by decide +kernel
theorem dX5_game_49 : decode cX5_game 49 = .ok (.ireturn, 1) := by decide +kernel
theorem dX5_game_50 : decode cX5_game 50 = .ok (.aload_n 0, 1) := by decide +kernel
theorem dX5_game_51 : decode cX5_game 51 = .ok (.getfield 101, 3) := by decide +kernel
theorem dX5_game_54 : decode cX5_game 54 = .ok (.istore 6, 2) := by decide +kernel
theorem dX5_game_56 : decode cX5_game 56 = .ok (.aload_n 0, 1) := by decide +kernel
theorem dX5_game_57 : decode cX5_game 57 = .ok (.getfield 31, 3) := by decide +kernel
theorem dX5_game_60 : decode cX5_game 60 = .ok (.iload 6, 2) := by decide +kernel
theorem dX5_game_62 : decode cX5_game 62 = .ok (.aaload, 1) := by decide +kernel
theorem dX5_game_63 : decode cX5_game 63 = .ok (.iload_n 1, 1) := by decide +kernel
theorem dX5_game_64 : decode cX5_game 64 = .ok (.iload_n 2, 1) := by decide +kernel
theorem dX5_game_65 : decode cX5_game 65 = .ok (.iconst 1, 1) := by decide +kernel
theorem dX5_game_66 : decode cX5_game 66 = .ok (.iload_n 3, 1) := by decide +kernel
theorem dX5_game_67 : decode cX5_game 67 = .ok (.ishl, 1) := by decide +kernel
theorem dX5_game_68 : decode cX5_game 68 = .ok (.iconst 1, 1) := by decide +kernel
theorem dX5_game_69 : decode cX5_game 69 = .ok (.iload 4, 2) := by decide +kernel
theorem dX5_game_71 : decode cX5_game 71 = .ok (.ishl, 1) := by decide +kernel
theorem dX5_game_72 : decode cX5_game 72 = .ok (.ior, 1) := by decide +kernel
theorem dX5_game_73 : decode cX5_game 73 = .ok (.iload 5, 2) := by decide +kernel
theorem dX5_game_75 : decode cX5_game 75 = .ok (.invokevirtual 107, 3) := by decide +kernel
theorem dX5_game_78 : decode cX5_game 78 = .ok (.aload_n 0, 1) := by decide +kernel
theorem dX5_game_79 : decode cX5_game 79 = .ok (.iload 6, 2) := by decide +kernel
theorem dX5_game_81 : decode cX5_game 81 = .ok (.iconst 1, 1) := by decide +kernel
theorem dX5_game_82 : decode cX5_game 82 = .ok (.iadd, 1) := by decide +kernel
theorem dX5_game_83 : decode cX5_game 83 = .ok (.putfield 101, 3) := by decide +kernel
theorem dX5_game_86 : decode cX5_game 86 = .ok (.iload 6, 2) := by decide +kernel
theorem dX5_game_88 : decode cX5_game 88 = .ok (.ireturn, 1) := by decide +kernel
theorem dX5_may_0 : decode cX5_may 0 = .ok (.aload_n 0, 1) := by decide +kernel
theorem dX5_may_1 : decode cX5_may 1 = .ok (.aload_n 0, 1) := by decide +kernel
theorem dX5_may_2 : decode cX5_may 2 = .ok (.iload_n 1, 1) := by decide +kernel
theorem dX5_may_3 : decode cX5_may 3 = .ok (.invokevirtual 87, 3) := by decide +kernel
theorem dX5_may_6 : decode cX5_may 6 = .ok (.iload_n 2, 1) := by decide +kernel
theorem dX5_may_7 : decode cX5_may 7 = .ok (.invokevirtual 110, 3) := by decide +kernel
theorem dX5_may_10 : decode cX5_may 10 = .ok (.ireturn, 1) := by decide +kernel
theorem dX5_cost_0 : decode cX5_cost 0 = .ok (.aload_n 0, 1) := by decide +kernel
theorem dX5_cost_1 : decode cX5_cost 1 = .ok (.aload_n 0, 1) := by decide +kernel
theorem dX5_cost_2 : decode cX5_cost 2 = .ok (.iload_n 1, 1) := by decide +kernel
theorem dX5_cost_3 : decode cX5_cost 3 = .ok (.invokevirtual 87, 3) := by decide +kernel
theorem dX5_cost_6 : decode cX5_cost 6 = .ok (.iload_n 2, 1) := by decide +kernel
theorem dX5_cost_7 : decode cX5_cost 7 = .ok (.invokevirtual 114, 3) := by decide +kernel
theorem dX5_cost_10 : decode cX5_cost 10 = .ok (.ireturn, 1) := by decide +kernel
theorem dX5_send_0 : decode cX5_send 0 = .ok (.aload_n 0, 1) := by decide +kernel
theorem dX5_send_1 : decode cX5_send 1 = .ok (.getfield 118, 3) := by decide +kernel
theorem dX5_send_4 : decode cX5_send 4 = .ok (.ifCond .eq 5, 3) := by decide +kernel
theorem dX5_send_7 : decode cX5_send 7 = .ok (.iconst (-1), 1) := by decide +kernel
theorem dX5_send_8 : decode cX5_send 8 = .ok (.ireturn, 1) := by decide +kernel
theorem dX5_send_9 : decode cX5_send 9 = .ok (.iconst 2, 1) := by decide +kernel
theorem dX5_send_10 : decode cX5_send 10 = .ok (.aload_n 0, 1) := by decide +kernel
theorem dX5_send_11 : decode cX5_send 11 = .ok (.getfield 101, 3) := by decide +kernel
theorem dX5_send_14 : decode cX5_send 14 = .ok (.imul, 1) := by decide +kernel
theorem dX5_send_15 : decode cX5_send 15 = .ok (.istore_n 1, 1) := by decide +kernel
theorem dX5_send_16 : decode cX5_send 16 = .ok (.aload_n 0, 1) := by decide +kernel
theorem dX5_send_17 : decode cX5_send 17 = .ok (.getfield 43, 3) := by decide +kernel
theorem dX5_send_20 : decode cX5_send 20 = .ok (.iload_n 1, 1) := by decide +kernel
theorem dX5_send_21 : decode cX5_send 21 = .ok (.aload_n 0, 1) := by decide +kernel
theorem dX5_send_22 : decode cX5_send 22 = .ok (.getfield 73, 3) := by decide +kernel
theorem dX5_send_25 : decode cX5_send 25 = .ok (.invokevirtual 121, 3) := by decide +kernel
theorem dX5_send_28 : decode cX5_send 28 = .ok (.iconst 0, 1) := by decide +kernel
theorem dX5_send_29 : decode cX5_send 29 = .ok (.istore_n 2, 1) := by decide +kernel
theorem dX5_send_30 : decode cX5_send 30 = .ok (.iload_n 2, 1) := by decide +kernel
theorem dX5_send_31 : decode cX5_send 31 = .ok (.iload_n 1, 1) := by decide +kernel
theorem dX5_send_32 : decode cX5_send 32 = .ok (.if_icmp .ge 62, 3) := by decide +kernel
theorem dX5_send_35 : decode cX5_send 35 = .ok (.aload_n 0, 1) := by decide +kernel
theorem dX5_send_36 : decode cX5_send 36 = .ok (.iload_n 2, 1) := by decide +kernel
theorem dX5_send_37 : decode cX5_send 37 = .ok (.invokevirtual 125, 3) := by decide +kernel
theorem dX5_send_40 : decode cX5_send 40 = .ok (.iconst 0, 1) := by decide +kernel
theorem dX5_send_41 : decode cX5_send 41 = .ok (.istore_n 3, 1) := by decide +kernel
theorem dX5_send_42 : decode cX5_send 42 = .ok (.iload_n 3, 1) := by decide +kernel
theorem dX5_send_43 : decode cX5_send 43 = .ok (.aload_n 0, 1) := by decide +kernel
theorem dX5_send_44 : decode cX5_send 44 = .ok (.getfield 73, 3) := by decide +kernel
theorem dX5_send_47 : decode cX5_send 47 = .ok (.if_icmp .ge 41, 3) := by decide +kernel
theorem dX5_send_50 : decode cX5_send 50 = .ok (.aload_n 0, 1) := by decide +kernel
theorem dX5_send_51 : decode cX5_send 51 = .ok (.aload_n 0, 1) := by decide +kernel
theorem dX5_send_52 : decode cX5_send 52 = .ok (.iload_n 3, 1) := by decide +kernel
theorem dX5_send_53 : decode cX5_send 53 = .ok (.invokevirtual 87, 3) := by decide +kernel
theorem dX5_send_56 : decode cX5_send 56 = .ok (.iload_n 2, 1) := by decide +kernel
theorem dX5_send_57 : decode cX5_send 57 = .ok (.invokevirtual 110, 3) := by decide +kernel
theorem dX5_send_60 : decode cX5_send 60 = .ok (.ifCond .eq 22, 3) := by decide +kernel
theorem dX5_send_63 : decode cX5_send 63 = .ok (.aload_n 0, 1) := by decide +kernel
theorem dX5_send_64 : decode cX5_send 64 = .ok (.getfield 43, 3) := by decide +kernel
theorem dX5_send_67 : decode cX5_send 67 = .ok (.iload_n 2, 1) := by decide +kernel
theorem dX5_send_68 : decode cX5_send 68 = .ok (.iload_n 3, 1) := by decide +kernel
theorem dX5_send_69 : decode cX5_send 69 = .ok (.aload_n 0, 1) := by decide +kernel
theorem dX5_send_70 : decode cX5_send 70 = .ok (.aload_n 0, 1) := by decide +kernel
theorem dX5_send_71 : decode cX5_send 71 = .ok (.iload_n 3, 1) := by decide +kernel
theorem dX5_send_72 : decode cX5_send 72 = .ok (.invokevirtual 87, 3) := by decide +kernel
theorem dX5_send_75 : decode cX5_send 75 = .ok (.iload_n 2, 1) := by decide +kernel
theorem dX5_send_76 : decode cX5_send 76 = .ok (.invokevirtual 114, 3) := by decide +kernel
theorem dX5_send_79 : decode cX5_send 79 = .ok (.invokevirtual 128, 3) := by decide +kernel
theorem dX5_send_82 : decode cX5_send 82 = .ok (.iinc 3 1, 3) := by decide +kernel
theorem dX5_send_85 : decode cX5_send 85 = .ok (.goto (-43), 3) := by decide +kernel
theorem dX5_send_88 : decode cX5_send 88 = .ok (.iinc 2 1, 3) := by decide +kernel
theorem dX5_send_91 : decode cX5_send 91 = .ok (.goto (-61), 3) := by decide +kernel
theorem dX5_send_94 : decode cX5_send 94 = .ok (.aload_n 0, 1) := by decide +kernel
theorem dX5_send_95 : decode cX5_send 95 = .ok (.getfield 43, 3) := by decide +kernel
theorem dX5_send_98 : decode cX5_send 98 = .ok (.invokevirtual 132, 3) := by decide +kernel
theorem dX5_send_101 : decode cX5_send 101 = .ok (.iconst 0, 1) := by decide +kernel
theorem dX5_send_102 : decode cX5_send 102 = .ok (.istore_n 2, 1) := by decide +kernel
theorem dX5_send_103 : decode cX5_send 103 = .ok (.iload_n 2, 1) := by decide +kernel
theorem dX5_send_104 : decode cX5_send 104 = .ok (.iload_n 1, 1) := by decide +kernel
theorem dX5_send_105 : decode cX5_send 105 = .ok (.if_icmp .ge 22, 3) := by decide +kernel
theorem dX5_send_108 : decode cX5_send 108 = .ok (.aload_n 0, 1) := by decide +kernel
theorem dX5_send_109 : decode cX5_send 109 = .ok (.iload_n 2, 1) := by decide +kernel
theorem dX5_send_110 : decode cX5_send 110 = .ok (.aload_n 0, 1) := by decide +kernel
theorem dX5_send_111 : decode cX5_send 111 = .ok (.getfield 43, 3) := by decide +kernel
theorem dX5_send_114 : decode cX5_send 114 = .ok (.iload_n 2, 1) := by decide +kernel
theorem dX5_send_115 : decode cX5_send 115 = .ok (.invokevirtual 135, 3) := by decide +kernel
theorem dX5_send_118 : decode cX5_send 118 = .ok (.invokevirtual 138, 3) := by decide +kernel
theorem dX5_send_121 : decode cX5_send 121 = .ok (.iinc 2 1, 3) := by decide +kernel
theorem dX5_send_124 : decode cX5_send 124 = .ok (.goto (-21), 3) := by decide +kernel
theorem dX5_send_127 : decode cX5_send 127 = .ok (.aload_n 0, 1) := by decide +kernel
theorem dX5_send_128 : decode cX5_send 128 = .ok (.invokevirtual 141, 3) := by decide +kernel
theorem dX5_send_131 : decode cX5_send 131 = .ok (.ireturn, 1) := by decide +kernel
theorem dX5_off_0 : decode cX5_off 0 = .ok (.aload_n 0, 1) := by decide +kernel
theorem dX5_off_1 : decode cX5_off 1 = .ok (.iload_n 1, 1) := by decide +kernel
theorem dX5_off_2 : decode cX5_off 2 = .ok (.invokevirtual 87, 3) := by decide +kernel
theorem dX5_off_5 : decode cX5_off 5 = .ok (.astore_n 2, 1) := by decide +kernel
theorem dX5_off_6 : decode cX5_off 6 = .ok (.aload_n 2, 1) := by decide +kernel
theorem dX5_off_7 : decode cX5_off 7 = .ok (.ifnull 18, 3) := by decide +kernel
theorem dX5_off_10 : decode cX5_off 10 = .ok (.aload_n 2, 1) := by decide +kernel
theorem dX5_off_11 : decode cX5_off 11 = .ok (.getfield 94, 3) := by decide +kernel
theorem dX5_off_14 : decode cX5_off 14 = .ok (.iconst (-1), 1) := by decide +kernel
theorem dX5_off_15 : decode cX5_off 15 = .ok (.if_icmp .eq 10, 3) := by decide +kernel
theorem dX5_off_18 : decode cX5_off 18 = .ok (.aload_n 0, 1) := by decide +kernel
theorem dX5_off_19 : decode cX5_off 19 = .ok (.getfield 118, 3) := by decide +kernel
theorem dX5_off_22 : decode cX5_off 22 = .ok (.ifCond .eq 5, 3) := by decide +kernel
theorem dX5_off_25 : decode cX5_off 25 = .ok (.iconst (-1), 1) := by decide +kernel
theorem dX5_off_26 : decode cX5_off 26 = .ok (.ireturn, 1) := by decide +kernel
theorem dX5_off_27 : decode cX5_off 27 = .ok (.aload_n 2, 1) := by decide +kernel
theorem dX5_off_28 : decode cX5_off 28 = .ok (.getfield 94, 3) := by decide +kernel
theorem dX5_off_31 : decode cX5_off 31 = .ok (.istore_n 3, 1) := by decide +kernel
theorem dX5_off_32 : decode cX5_off 32 = .ok (.aload_n 0, 1) := by decide +kernel
theorem dX5_off_33 : decode cX5_off 33 = .ok (.iload_n 3, 1) := by decide +kernel
theorem dX5_off_34 : decode cX5_off 34 = .ok (.invokevirtual 125, 3) := by decide +kernel
theorem dX5_off_37 : decode cX5_off 37 = .ok (.aload_n 2, 1) := by decide +kernel
theorem dX5_off_38 : decode cX5_off 38 = .ok (.aload_n 0, 1) := by decide +kernel
theorem dX5_off_39 : decode cX5_off 39 = .ok (.getfield 91, 3) := by decide +kernel
theorem dX5_off_42 : decode cX5_off 42 = .ok (.iconst 1, 1) := by decide +kernel
theorem dX5_off_43 : decode cX5_off 43 = .ok (.invokevirtual 97, 3) := by decide +kernel
theorem dX5_off_46 : decode cX5_off 46 = .ok (.pop, 1) := by decide +kernel
theorem dX5_off_47 : decode cX5_off 47 = .ok (.aload_n 0, 1) := by decide +kernel
theorem dX5_off_48 : decode cX5_off 48 = .ok (.iload_n 3, 1) := by decide +kernel
theorem dX5_off_49 : decode cX5_off 49 = .ok (.invokevirtual 144, 3) := by decide +kernel
theorem dX5_off_52 : decode cX5_off 52 = .ok (.istore 4, 2) := by decide +kernel
theorem dX5_off_54 : decode cX5_off 54 = .ok (.iload 4, 2) := by decide +kernel
theorem dX5_off_56 : decode cX5_off 56 = .ok (.iconst (-1), 1) := by decide +kernel
theorem dX5_off_57 : decode cX5_off 57 = .ok (.if_icmp .eq 12, 3) := by decide +kernel
theorem dX5_off_60 : decode cX5_off 60 = .ok (.aload_n 0, 1) := by decide +kernel
theorem dX5_off_61 : decode cX5_off 61 = .ok (.iload_n 3, 1) := by decide +kernel
theorem dX5_off_62 : decode cX5_off 62 = .ok (.iload 4, 2) := by decide +kernel
theorem dX5_off_64 : decode cX5_off 64 = .ok (.invokevirtual 138, 3) := by decide +kernel
theorem dX5_off_67 : decode cX5_off 67 = .ok (.iconst 1, 1) := by decide +kernel
theorem dX5_off_68 : decode cX5_off 68 = .ok (.ireturn, 1) := by decide +kernel
theorem dX5_off_69 : decode cX5_off 69 = .ok (.aload_n 0, 1) := by decide +kernel
theorem dX5_off_70 : decode cX5_off 70 = .ok (.iload_n 3, 1) := by decide +kernel
theorem dX5_off_71 : decode cX5_off 71 = .ok (.invokevirtual 147, 3) := by decide +kernel
theorem dX5_off_74 : decode cX5_off 74 = .ok (.ifCond .eq 7, 3) := by decide +kernel
theorem dX5_off_77 : decode cX5_off 77 = .ok (.iconst 2, 1) := by decide +kernel
theorem dX5_off_78 : decode cX5_off 78 = .ok (.goto 4, 3) := by decide +kernel
theorem dX5_off_81 : decode cX5_off 81 = .ok (.iconst 0, 1) := by decide +kernel
theorem dX5_off_82 : decode cX5_off 82 = .ok (.ireturn, 1) := by decide +kernel
theorem dX5_seat_0 : decode cX5_seat 0 = .ok (.aload_n 0, 1) := by decide +kernel
theorem dX5_seat_1 : decode cX5_seat 1 = .ok (.iload_n 1, 1) := by decide +kernel
theorem dX5_seat_2 : decode cX5_seat 2 = .ok (.invokevirtual 150, 3) := by decide +kernel
theorem dX5_seat_5 : decode cX5_seat 5 = .ok (.ifCond .eq 12, 3) := by decide +kernel
theorem dX5_seat_8 : decode cX5_seat 8 = .ok (.aload_n 0, 1) := by decide +kernel
theorem dX5_seat_9 : decode cX5_seat 9 = .ok (.getfield 36, 3) := by decide +kernel
theorem dX5_seat_12 : decode cX5_seat 12 = .ok (.iload_n 1, 1) := by decide +kernel
theorem dX5_seat_13 : decode cX5_seat 13 = .ok (.iaload, 1) := by decide +kernel
theorem dX5_seat_14 : decode cX5_seat 14 = .ok (.goto 4, 3) := by decide +kernel
theorem dX5_seat_17 : decode cX5_seat 17 = .ok (.iconst (-1), 1) := by decide +kernel
theorem dX5_seat_18 : decode cX5_seat 18 = .ok (.ireturn, 1) := by decide +kernel
theorem dX5_mark_0 : decode cX5_mark 0 = .ok (.aload_n 0, 1) := by decide +kernel
theorem dX5_mark_1 : decode cX5_mark 1 = .ok (.iload_n 1, 1) := by decide +kernel
theorem dX5_mark_2 : decode cX5_mark 2 = .ok (.invokevirtual 153, 3) := by decide +kernel
theorem dX5_mark_5 : decode cX5_mark 5 = .ok (.astore 5, 2) := by decide +kernel
theorem dX5_mark_7 : decode cX5_mark 7 = .ok (.aload 5, 2) := by decide +kernel
theorem dX5_mark_9 : decode cX5_mark 9 = .ok (.ifnull 22, 3) := by decide +kernel
theorem dX5_mark_12 : decode cX5_mark 12 = .ok (.iload_n 2, 1) := by decide +kernel
theorem dX5_mark_13 : decode cX5_mark 13 = .ok (.ifCond .lt 18, 3) := by decide +kernel
theorem dX5_mark_16 : decode cX5_mark 16 = .ok (.iload_n 2, 1) := by decide +kernel
theorem dX5_mark_17 : decode cX5_mark 17 = .ok (.iconst 1, 1) := by decide +kernel
theorem dX5_mark_18 : decode cX5_mark 18 = .ok (.if_icmp .gt 13, 3) := by decide +kernel
theorem dX5_mark_21 : decode cX5_mark 21 = .ok (.iload_n 3, 1) := by decide +kernel
theorem dX5_mark_22 : decode cX5_mark 22 = .ok (.ifCond .lt 9, 3) := by decide +kernel
theorem dX5_mark_25 : decode cX5_mark 25 = .ok (.iload_n 3, 1) := by decide +kernel
theorem dX5_mark_26 : decode cX5_mark 26 = .ok (.bipush 100, 2) := by decide +kernel
theorem dX5_mark_28 : decode cX5_mark 28 = .ok (.if_icmp .le 5, 3) := by decide +kernel
theorem dX5_mark_31 : decode cX5_mark 31 = .ok (.iconst 0, 1) := by decide +kernel
theorem dX5_mark_32 : decode cX5_mark 32 = .ok (.ireturn, 1) := by decide +kernel
theorem dX5_mark_33 : decode cX5_mark 33 = .ok (.iconst 1, 1) := by decide +kernel
theorem dX5_mark_34 : decode cX5_mark 34 = .ok (.iconst 2, 1) := by decide +kernel
theorem dX5_mark_35 : decode cX5_mark 35 = .ok (.iload_n 1, 1) := by decide +kernel
theorem dX5_mark_36 : decode cX5_mark 36 = .ok (.imul, 1) := by decide +kernel
theorem dX5_mark_37 : decode cX5_mark 37 = .ok (.iload_n 2, 1) := by decide +kernel
theorem dX5_mark_38 : decode cX5_mark 38 = .ok (.iadd, 1) := by decide +kernel
theorem dX5_mark_39 : decode cX5_mark 39 = .ok (.ishl, 1) := by decide +kernel
theorem dX5_mark_40 : decode cX5_mark 40 = .ok (.istore 6, 2) := by decide +kernel
theorem dX5_mark_42 : decode cX5_mark 42 = .ok (.aload_n 0, 1) := by decide +kernel
theorem dX5_mark_43 : decode cX5_mark 43 = .ok (.getfield 118, 3) := by decide +kernel
theorem dX5_mark_46 : decode cX5_mark 46 = .ok (.iload 6, 2) := by decide +kernel
theorem dX5_mark_48 : decode cX5_mark 48 = .ok (.iand, 1) := by decide +kernel
theorem dX5_mark_49 : decode cX5_mark 49 = .ok (.ifCond .eq 5, 3) := by decide +kernel
theorem dX5_mark_52 : decode cX5_mark 52 = .ok (.iconst 0, 1) := by decide +kernel
theorem dX5_mark_53 : decode cX5_mark 53 = .ok (.ireturn, 1) := by decide +kernel
theorem dX5_mark_54 : decode cX5_mark 54 = .ok (.aload_n 0, 1) := by decide +kernel
theorem dX5_mark_55 : decode cX5_mark 55 = .ok (.dup, 1) := by decide +kernel
theorem dX5_mark_56 : decode cX5_mark 56 = .ok (.getfield 118, 3) := by decide +kernel
theorem dX5_mark_59 : decode cX5_mark 59 = .ok (.iload 6, 2) := by decide +kernel
theorem dX5_mark_61 : decode cX5_mark 61 = .ok (.ior, 1) := by decide +kernel
theorem dX5_mark_62 : decode cX5_mark 62 = .ok (.putfield 118, 3) := by decide +kernel
theorem dX5_mark_65 : decode cX5_mark 65 = .ok (.aload 5, 2) := by decide +kernel
theorem dX5_mark_67 : decode cX5_mark 67 = .ok (.iload_n 3, 1) := by decide +kernel
theorem dX5_mark_68 : decode cX5_mark 68 = .ok (.aload_n 0, 1) := by decide +kernel
theorem dX5_mark_69 : decode cX5_mark 69 = .ok (.getfield 19, 3) := by decide +kernel
theorem dX5_mark_72 : decode cX5_mark 72 = .ok (.iload 4, 2) := by decide +kernel
theorem dX5_mark_74 : decode cX5_mark 74 = .ok (.ifCond .eq 7, 3) := by decide +kernel
theorem dX5_mark_77 : decode cX5_mark 77 = .ok (.iconst 4, 1) := by decide +kernel
theorem dX5_mark_78 : decode cX5_mark 78 = .ok (.goto 4, 3) := by decide +kernel
theorem dX5_mark_81 : decode cX5_mark 81 = .ok (.iconst 5, 1) := by decide +kernel
theorem dX5_mark_82 : decode cX5_mark 82 = .ok (.invokevirtual 69, 3) := by decide +kernel
theorem dX5_mark_85 : decode cX5_mark 85 = .ok (.invokevirtual 156, 3) := by decide +kernel
theorem dX5_mark_88 : decode cX5_mark 88 = .ok (.iconst 1, 1) := by decide +kernel
theorem dX5_mark_89 : decode cX5_mark 89 = .ok (.ireturn, 1) := by decide +kernel
theorem dX5_next_0 : decode cX5_next 0 = .ok (.aload_n 0, 1) := by decide +kernel
theorem dX5_next_1 : decode cX5_next 1 = .ok (.getfield 91, 3) := by decide +kernel
theorem dX5_next_4 : decode cX5_next 4 = .ok (.bipush 99, 2) := by decide +kernel
theorem dX5_next_6 : decode cX5_next 6 = .ok (.if_icmp .lt 5, 3) := by decide +kernel
theorem dX5_next_9 : decode cX5_next 9 = .ok (.iconst (-1), 1) := by decide +kernel
theorem dX5_next_10 : decode cX5_next 10 = .ok (.ireturn, 1) := by decide +kernel
theorem dX5_next_11 : decode cX5_next 11 = .ok (.iconst 0, 1) := by decide +kernel
theorem dX5_next_12 : decode cX5_next 12 = .ok (.istore_n 1, 1) := by decide +kernel
theorem dX5_next_13 : decode cX5_next 13 = .ok (.iload_n 1, 1) := by decide +kernel
theorem dX5_next_14 : decode cX5_next 14 = .ok (.iconst 2, 1) := by decide +kernel
theorem dX5_next_15 : decode cX5_next 15 = .ok (.aload_n 0, 1) := by decide +kernel
theorem dX5_next_16 : decode cX5_next 16 = .ok (.getfield 101, 3) := by decide +kernel
theorem dX5_next_19 : decode cX5_next 19 = .ok (.imul, 1) := by decide +kernel
theorem dX5_next_20 : decode cX5_next 20 = .ok (.if_icmp .ge 14, 3) := by decide +kernel
theorem dX5_next_23 : decode cX5_next 23 = .ok (.aload_n 0, 1) := by decide +kernel
theorem dX5_next_24 : decode cX5_next 24 = .ok (.iload_n 1, 1) := by decide +kernel
theorem dX5_next_25 : decode cX5_next 25 = .ok (.invokevirtual 159, 3) := by decide +kernel
theorem dX5_next_28 : decode cX5_next 28 = .ok (.iinc 1 1, 3) := by decide +kernel
theorem dX5_next_31 : decode cX5_next 31 = .ok (.goto (-18), 3) := by decide +kernel
theorem dX5_next_34 : decode cX5_next 34 = .ok (.iconst 0, 1) := by decide +kernel
theorem dX5_next_35 : decode cX5_next 35 = .ok (.istore_n 1, 1) := by decide +kernel
theorem dX5_next_36 : decode cX5_next 36 = .ok (.iload_n 1, 1) := by decide +kernel
theorem dX5_next_37 : decode cX5_next 37 = .ok (.aload_n 0, 1) := by decide +kernel
theorem dX5_next_38 : decode cX5_next 38 = .ok (.getfield 73, 3) := by decide +kernel
theorem dX5_next_41 : decode cX5_next 41 = .ok (.if_icmp .ge 18, 3) := by decide +kernel
theorem dX5_next_44 : decode cX5_next 44 = .ok (.aload_n 0, 1) := by decide +kernel
theorem dX5_next_45 : decode cX5_next 45 = .ok (.aload_n 0, 1) := by decide +kernel
theorem dX5_next_46 : decode cX5_next 46 = .ok (.iload_n 1, 1) := by decide +kernel
theorem dX5_next_47 : decode cX5_next 47 = .ok (.invokevirtual 87, 3) := by decide +kernel
theorem dX5_next_50 : decode cX5_next 50 = .ok (.invokevirtual 162, 3) := by decide +kernel
theorem dX5_next_53 : decode cX5_next 53 = .ok (.iinc 1 1, 3) := by decide +kernel
theorem dX5_next_56 : decode cX5_next 56 = .ok (.goto (-20), 3) := by decide +kernel
theorem dX5_next_59 : decode cX5_next 59 = .ok (.aload_n 0, 1) := by decide +kernel
theorem dX5_next_60 : decode cX5_next 60 = .ok (.iconst 0, 1) := by decide +kernel
theorem dX5_next_61 : decode cX5_next 61 = .ok (.putfield 101, 3) := by decide +kernel
theorem dX5_next_64 : decode cX5_next 64 = .ok (.aload_n 0, 1) := by decide +kernel
theorem dX5_next_65 : decode cX5_next 65 = .ok (.iconst 0, 1) := by decide +kernel
theorem dX5_next_66 : decode cX5_next 66 = .ok (.putfield 118, 3) := by decide +kernel
theorem dX5_next_69 : decode cX5_next 69 = .ok (.aload_n 0, 1) := by decide +kernel
theorem dX5_next_70 : decode cX5_next 70 = .ok (.dup, 1) := by decide +kernel
theorem dX5_next_71 : decode cX5_next 71 = .ok (.getfield 91, 3) := by decide +kernel
theorem dX5_next_74 : decode cX5_next 74 = .ok (.iconst 1, 1) := by decide +kernel
theorem dX5_next_75 : decode cX5_next 75 = .ok (.iadd, 1) := by decide +kernel
theorem dX5_next_76 : decode cX5_next 76 = .ok (.putfield 91, 3) := by decide +kernel
theorem dX5_next_79 : decode cX5_next 79 = .ok (.aload_n 0, 1) := by decide +kernel
theorem dX5_next_80 : decode cX5_next 80 = .ok (.getfield 91, 3) := by decide +kernel
theorem dX5_next_83 : decode cX5_next 83 = .ok (.ireturn, 1) := by decide +kernel
theorem dX5_about_0 : decode cX5_about 0 = .ok (.aload_n 0, 1) := by decide +kernel
theorem dX5_about_1 : decode cX5_about 1 = .ok (.iload_n 1, 1) := by decide +kernel
theorem dX5_about_2 : decode cX5_about 2 = .ok (.invokevirtual 87, 3) := by decide +kernel
theorem dX5_about_5 : decode cX5_about 5 = .ok (.astore_n 3, 1) := by decide +kernel
theorem dX5_about_6 : decode cX5_about 6 = .ok (.aload_n 3, 1) := by decide +kernel
theorem dX5_about_7 : decode cX5_about 7 = .ok (.ifnonnull 13, 3) := by decide +kernel
theorem dX5_about_10 : decode cX5_about 10 = .ok (.new 166, 3) := by decide +kernel
theorem dX5_about_13 : decode cX5_about 13 = .ok (.dup, 1) := by decide +kernel
theorem dX5_about_14 : decode cX5_about 14 = .ok (.ldc 168, 2) := by decide +kernel
theorem dX5_about_16 : decode cX5_about 16 = .ok (.invokespecial 170, 3) := by decide +kernel
theorem dX5_about_19 : decode cX5_about 19 = .ok (.athrow, 1) := by decide +kernel
theorem dX5_about_20 : decode cX5_about 20 = .ok (.iload_n 2, 1) := by decide +kernel
theorem dX5_about_21 : decode cX5_about 21 = .ok (.tableswitch 69 0 5 #[39, 44, 49, 54, 59, 64], 39) := by decide +kernel
theorem dX5_about_60 : decode cX5_about 60 = .ok (.aload_n 3, 1) := by decide +kernel
theorem dX5_about_61 : decode cX5_about 61 = .ok (.getfield 173, 3) := by decide +kernel
theorem dX5_about_64 : decode cX5_about 64 = .ok (.ireturn, 1) := by decide +kernel
theorem dX5_about_65 : decode cX5_about 65 = .ok (.aload_n 3, 1) := by decide +kernel
theorem dX5_about_66 : decode cX5_about 66 = .ok (.getfield 94, 3) := by decide +kernel
theorem dX5_about_69 : decode cX5_about 69 = .ok (.ireturn, 1) := by decide +kernel
theorem dX5_about_70 : decode cX5_about 70 = .ok (.aload_n 3, 1) := by decide +kernel
theorem dX5_about_71 : decode cX5_about 71 = .ok (.getfield 176, 3) := by decide +kernel
theorem dX5_about_74 : decode cX5_about 74 = .ok (.ireturn, 1) := by decide +kernel
theorem dX5_about_75 : decode cX5_about 75 = .ok (.aload_n 3, 1) := by decide +kernel
theorem dX5_about_76 : decode cX5_about 76 = .ok (.getfield 179, 3) := by decide +kernel
theorem dX5_about_79 : decode cX5_about 79 = .ok (.ireturn, 1) := by decide +kernel
theorem dX5_about_80 : decode cX5_about 80 = .ok (.aload_n 3, 1) := by decide +kernel
theorem dX5_about_81 : decode cX5_about 81 = .ok (.getfield 182, 3) := by decide +kernel
theorem dX5_about_84 : decode cX5_about 84 = .ok (.ireturn, 1) := by decide +kernel
theorem dX5_about_85 : decode cX5_about 85 = .ok (.aload_n 3, 1) := by decide +kernel
theorem dX5_about_86 : decode cX5_about 86 = .ok (.getfield 185, 3) := by decide +kernel
theorem dX5_about_89 : decode cX5_about 89 = .ok (.ireturn, 1) := by decide +kernel
theorem dX5_about_90 : decode cX5_about 90 = .ok (.new 166, 3) := by decide +kernel
theorem dX5_about_93 : decode cX5_about 93 = .ok (.dup, 1) := by decide +kernel
theorem dX5_about_94 : decode cX5_about 94 = .ok (.ldc 188, 2) := by decide +kernel
theorem dX5_about_96 : decode cX5_about 96 = .ok (.invokespecial 170, 3) := by decide +kernel
theorem dX5_about_99 : decode cX5_about 99 = .ok (.athrow, 1) := by decide +kernel
theorem dX5_stood_0 : decode cX5_stood 0 = .ok (.aload_n 0, 1) := by decide +kernel
theorem dX5_stood_1 : decode cX5_stood 1 = .ok (.iload_n 1, 1) := by decide +kernel
theorem dX5_stood_2 : decode cX5_stood 2 = .ok (.invokevirtual 87, 3) := by decide +kernel
theorem dX5_stood_5 : decode cX5_stood 5 = .ok (.astore_n 3, 1) := by decide +kernel
theorem dX5_stood_6 : decode cX5_stood 6 = .ok (.aload_n 3, 1) := by decide +kernel
theorem dX5_stood_7 : decode cX5_stood 7 = .ok (.ifnull 15, 3) := by decide +kernel
theorem dX5_stood_10 : decode cX5_stood 10 = .ok (.iload_n 2, 1) := by decide +kernel
theorem dX5_stood_11 : decode cX5_stood 11 = .ok (.ifCond .lt 11, 3) := by decide +kernel
theorem dX5_stood_14 : decode cX5_stood 14 = .ok (.iload_n 2, 1) := by decide +kernel
theorem dX5_stood_15 : decode cX5_stood 15 = .ok (.aload_n 0, 1) := by decide +kernel
theorem dX5_stood_16 : decode cX5_stood 16 = .ok (.getfield 91, 3) := by decide +kernel
theorem dX5_stood_19 : decode cX5_stood 19 = .ok (.if_icmp .lt 5, 3) := by decide +kernel
theorem dX5_stood_22 : decode cX5_stood 22 = .ok (.iconst (-1), 1) := by decide +kernel
theorem dX5_stood_23 : decode cX5_stood 23 = .ok (.ireturn, 1) := by decide +kernel
theorem dX5_stood_24 : decode cX5_stood 24 = .ok (.aload_n 3, 1) := by decide +kernel
theorem dX5_stood_25 : decode cX5_stood 25 = .ok (.iload_n 2, 1) := by decide +kernel
theorem dX5_stood_26 : decode cX5_stood 26 = .ok (.invokevirtual 190, 3) := by decide +kernel
theorem dX5_stood_29 : decode cX5_stood 29 = .ok (.ireturn, 1) := by decide +kernel
theorem dX5_together_0 : decode cX5_together 0 = .ok (.iconst 0, 1) := by decide +kernel
theorem dX5_together_1 : decode cX5_together 1 = .ok (.istore_n 1, 1) := by decide +kernel
theorem dX5_together_2 : decode cX5_together 2 = .ok (.iconst 0, 1) := by decide +kernel
theorem dX5_together_3 : decode cX5_together 3 = .ok (.istore_n 2, 1) := by decide +kernel
theorem dX5_together_4 : decode cX5_together 4 = .ok (.iload_n 2, 1) := by decide +kernel
theorem dX5_together_5 : decode cX5_together 5 = .ok (.iconst 2, 1) := by decide +kernel
theorem dX5_together_6 : decode cX5_together 6 = .ok (.aload_n 0, 1) := by decide +kernel
theorem dX5_together_7 : decode cX5_together 7 = .ok (.getfield 101, 3) := by decide +kernel
theorem dX5_together_10 : decode cX5_together 10 = .ok (.imul, 1) := by decide +kernel
theorem dX5_together_11 : decode cX5_together 11 = .ok (.if_icmp .ge 28, 3) := by decide +kernel
theorem dX5_together_14 : decode cX5_together 14 = .ok (.aload_n 0, 1) := by decide +kernel
theorem dX5_together_15 : decode cX5_together 15 = .ok (.iload_n 2, 1) := by decide +kernel
theorem dX5_together_16 : decode cX5_together 16 = .ok (.invokevirtual 153, 3) := by decide +kernel
theorem dX5_together_19 : decode cX5_together 19 = .ok (.astore_n 3, 1) := by decide +kernel
theorem dX5_together_20 : decode cX5_together 20 = .ok (.aload_n 3, 1) := by decide +kernel
theorem dX5_together_21 : decode cX5_together 21 = .ok (.ifnull 12, 3) := by decide +kernel
theorem dX5_together_24 : decode cX5_together 24 = .ok (.iload_n 1, 1) := by decide +kernel
theorem dX5_together_25 : decode cX5_together 25 = .ok (.aload_n 0, 1) := by decide +kernel
theorem dX5_together_26 : decode cX5_together 26 = .ok (.aload_n 3, 1) := by decide +kernel
theorem dX5_together_27 : decode cX5_together 27 = .ok (.iload_n 2, 1) := by decide +kernel
theorem dX5_together_28 : decode cX5_together 28 = .ok (.invokevirtual 114, 3) := by decide +kernel
theorem dX5_together_31 : decode cX5_together 31 = .ok (.iadd, 1) := by decide +kernel
theorem dX5_together_32 : decode cX5_together 32 = .ok (.istore_n 1, 1) := by decide +kernel
theorem dX5_together_33 : decode cX5_together 33 = .ok (.iinc 2 1, 3) := by decide +kernel
theorem dX5_together_36 : decode cX5_together 36 = .ok (.goto (-32), 3) := by decide +kernel
theorem dX5_together_39 : decode cX5_together 39 = .ok (.iload_n 1, 1) := by decide +kernel
theorem dX5_together_40 : decode cX5_together 40 = .ok (.ireturn, 1) := by decide +kernel
theorem dX5_count_0 : decode cX5_count 0 = .ok (.iload_n 1, 1) := by decide +kernel
theorem dX5_count_1 : decode cX5_count 1 = .ok (.tableswitch 75 0 5 #[39, 44, 49, 54, 59, 67], 39) := by decide +kernel
theorem dX5_count_40 : decode cX5_count 40 = .ok (.aload_n 0, 1) := by decide +kernel
theorem dX5_count_41 : decode cX5_count 41 = .ok (.getfield 91, 3) := by decide +kernel
theorem dX5_count_44 : decode cX5_count 44 = .ok (.ireturn, 1) := by decide +kernel
theorem dX5_count_45 : decode cX5_count 45 = .ok (.aload_n 0, 1) := by decide +kernel
theorem dX5_count_46 : decode cX5_count 46 = .ok (.getfield 73, 3) := by decide +kernel
theorem dX5_count_49 : decode cX5_count 49 = .ok (.ireturn, 1) := by decide +kernel
theorem dX5_count_50 : decode cX5_count 50 = .ok (.aload_n 0, 1) := by decide +kernel
theorem dX5_count_51 : decode cX5_count 51 = .ok (.getfield 101, 3) := by decide +kernel
theorem dX5_count_54 : decode cX5_count 54 = .ok (.ireturn, 1) := by decide +kernel
theorem dX5_count_55 : decode cX5_count 55 = .ok (.aload_n 0, 1) := by decide +kernel
theorem dX5_count_56 : decode cX5_count 56 = .ok (.invokevirtual 141, 3) := by decide +kernel
theorem dX5_count_59 : decode cX5_count 59 = .ok (.ireturn, 1) := by decide +kernel
theorem dX5_count_60 : decode cX5_count 60 = .ok (.aload_n 0, 1) := by decide +kernel
theorem dX5_count_61 : decode cX5_count 61 = .ok (.getfield 118, 3) := by decide +kernel
theorem dX5_count_64 : decode cX5_count 64 = .ok (.invokestatic 193, 3) := by decide +kernel
theorem dX5_count_67 : decode cX5_count 67 = .ok (.ireturn, 1) := by decide +kernel
theorem dX5_count_68 : decode cX5_count 68 = .ok (.aload_n 0, 1) := by decide +kernel
theorem dX5_count_69 : decode cX5_count 69 = .ok (.getfield 10, 3) := by decide +kernel
theorem dX5_count_72 : decode cX5_count 72 = .ok (.invokevirtual 55, 3) := by decide +kernel
theorem dX5_count_75 : decode cX5_count 75 = .ok (.ireturn, 1) := by decide +kernel
theorem dX5_count_76 : decode cX5_count 76 = .ok (.iconst (-1), 1) := by decide +kernel
theorem dX5_count_77 : decode cX5_count 77 = .ok (.ireturn, 1) := by decide +kernel
theorem dX5_isPlace_0 : decode cX5_isPlace 0 = .ok (.iload_n 0, 1) := by decide +kernel
theorem dX5_isPlace_1 : decode cX5_isPlace 1 = .ok (.ifCond .lt 23, 3) := by decide +kernel
theorem dX5_isPlace_4 : decode cX5_isPlace 4 = .ok (.iload_n 0, 1) := by decide +kernel
theorem dX5_isPlace_5 : decode cX5_isPlace 5 = .ok (.bipush 99, 2) := by decide +kernel
theorem dX5_isPlace_7 : decode cX5_isPlace 7 = .ok (.if_icmp .gt 17, 3) := by decide +kernel
theorem dX5_isPlace_10 : decode cX5_isPlace 10 = .ok (.iload_n 1, 1) := by decide +kernel
theorem dX5_isPlace_11 : decode cX5_isPlace 11 = .ok (.ifCond .lt 13, 3) := by decide +kernel
theorem dX5_isPlace_14 : decode cX5_isPlace 14 = .ok (.iload_n 1, 1) := by decide +kernel
theorem dX5_isPlace_15 : decode cX5_isPlace 15 = .ok (.bipush 99, 2) := by decide +kernel
theorem dX5_isPlace_17 : decode cX5_isPlace 17 = .ok (.if_icmp .gt 7, 3) := by decide +kernel
theorem dX5_isPlace_20 : decode cX5_isPlace 20 = .ok (.iconst 1, 1) := by decide +kernel
theorem dX5_isPlace_21 : decode cX5_isPlace 21 = .ok (.goto 4, 3) := by decide +kernel
theorem dX5_isPlace_24 : decode cX5_isPlace 24 = .ok (.iconst 0, 1) := by decide +kernel
theorem dX5_isPlace_25 : decode cX5_isPlace 25 = .ok (.ireturn, 1) := by decide +kernel
theorem dX5_isGrade_0 : decode cX5_isGrade 0 = .ok (.iload_n 0, 1) := by decide +kernel
theorem dX5_isGrade_1 : decode cX5_isGrade 1 = .ok (.iconst 1, 1) := by decide +kernel
theorem dX5_isGrade_2 : decode cX5_isGrade 2 = .ok (.if_icmp .lt 12, 3) := by decide +kernel
theorem dX5_isGrade_5 : decode cX5_isGrade 5 = .ok (.iload_n 0, 1) := by decide +kernel
theorem dX5_isGrade_6 : decode cX5_isGrade 6 = .ok (.iconst 4, 1) := by decide +kernel
theorem dX5_isGrade_7 : decode cX5_isGrade 7 = .ok (.if_icmp .gt 7, 3) := by decide +kernel
theorem dX5_isGrade_10 : decode cX5_isGrade 10 = .ok (.iconst 1, 1) := by decide +kernel
theorem dX5_isGrade_11 : decode cX5_isGrade 11 = .ok (.goto 4, 3) := by decide +kernel
theorem dX5_isGrade_14 : decode cX5_isGrade 14 = .ok (.iconst 0, 1) := by decide +kernel
theorem dX5_isGrade_15 : decode cX5_isGrade 15 = .ok (.ireturn, 1) := by decide +kernel
theorem dX5_isClub_0 : decode cX5_isClub 0 = .ok (.iload_n 0, 1) := by decide +kernel
theorem dX5_isClub_1 : decode cX5_isClub 1 = .ok (.ifCond .lt 13, 3) := by decide +kernel
theorem dX5_isClub_4 : decode cX5_isClub 4 = .ok (.iload_n 0, 1) := by decide +kernel
theorem dX5_isClub_5 : decode cX5_isClub 5 = .ok (.bipush 12, 2) := by decide +kernel
theorem dX5_isClub_7 : decode cX5_isClub 7 = .ok (.if_icmp .ge 7, 3) := by decide +kernel
theorem dX5_isClub_10 : decode cX5_isClub 10 = .ok (.iconst 1, 1) := by decide +kernel
theorem dX5_isClub_11 : decode cX5_isClub 11 = .ok (.goto 4, 3) := by decide +kernel
theorem dX5_isClub_14 : decode cX5_isClub 14 = .ok (.iconst 0, 1) := by decide +kernel
theorem dX5_isClub_15 : decode cX5_isClub 15 = .ok (.ireturn, 1) := by decide +kernel
theorem dX5_isSeat_0 : decode cX5_isSeat 0 = .ok (.iload_n 1, 1) := by decide +kernel
theorem dX5_isSeat_1 : decode cX5_isSeat 1 = .ok (.ifCond .lt 23, 3) := by decide +kernel
theorem dX5_isSeat_4 : decode cX5_isSeat 4 = .ok (.iload_n 1, 1) := by decide +kernel
theorem dX5_isSeat_5 : decode cX5_isSeat 5 = .ok (.iconst 2, 1) := by decide +kernel
theorem dX5_isSeat_6 : decode cX5_isSeat 6 = .ok (.aload_n 0, 1) := by decide +kernel
theorem dX5_isSeat_7 : decode cX5_isSeat 7 = .ok (.getfield 101, 3) := by decide +kernel
theorem dX5_isSeat_10 : decode cX5_isSeat 10 = .ok (.imul, 1) := by decide +kernel
theorem dX5_isSeat_11 : decode cX5_isSeat 11 = .ok (.if_icmp .ge 13, 3) := by decide +kernel
theorem dX5_isSeat_14 : decode cX5_isSeat 14 = .ok (.iload_n 1, 1) := by decide +kernel
theorem dX5_isSeat_15 : decode cX5_isSeat 15 = .ok (.bipush 16, 2) := by decide +kernel
theorem dX5_isSeat_17 : decode cX5_isSeat 17 = .ok (.if_icmp .ge 7, 3) := by decide +kernel
theorem dX5_isSeat_20 : decode cX5_isSeat 20 = .ok (.iconst 1, 1) := by decide +kernel
theorem dX5_isSeat_21 : decode cX5_isSeat 21 = .ok (.goto 4, 3) := by decide +kernel
theorem dX5_isSeat_24 : decode cX5_isSeat 24 = .ok (.iconst 0, 1) := by decide +kernel
theorem dX5_isSeat_25 : decode cX5_isSeat 25 = .ok (.ireturn, 1) := by decide +kernel
theorem dX5_umpireAt_0 : decode cX5_umpireAt 0 = .ok (.iload_n 1, 1) := by decide +kernel
theorem dX5_umpireAt_1 : decode cX5_umpireAt 1 = .ok (.ifCond .lt 26, 3) := by decide +kernel
theorem dX5_umpireAt_4 : decode cX5_umpireAt 4 = .ok (.iload_n 1, 1) := by decide +kernel
theorem dX5_umpireAt_5 : decode cX5_umpireAt 5 = .ok (.aload_n 0, 1) := by decide +kernel
theorem dX5_umpireAt_6 : decode cX5_umpireAt 6 = .ok (.getfield 73, 3) := by decide +kernel
theorem dX5_umpireAt_9 : decode cX5_umpireAt 9 = .ok (.if_icmp .ge 18, 3) := by decide +kernel
theorem dX5_umpireAt_12 : decode cX5_umpireAt 12 = .ok (.iload_n 1, 1) := by decide +kernel
theorem dX5_umpireAt_13 : decode cX5_umpireAt 13 = .ok (.bipush 20, 2) := by decide +kernel
theorem dX5_umpireAt_15 : decode cX5_umpireAt 15 = .ok (.if_icmp .ge 12, 3) := by decide +kernel
theorem dX5_umpireAt_18 : decode cX5_umpireAt 18 = .ok (.aload_n 0, 1) := by decide +kernel
theorem dX5_umpireAt_19 : decode cX5_umpireAt 19 = .ok (.getfield 25, 3) := by decide +kernel
theorem dX5_umpireAt_22 : decode cX5_umpireAt 22 = .ok (.iload_n 1, 1) := by decide +kernel
theorem dX5_umpireAt_23 : decode cX5_umpireAt 23 = .ok (.aaload, 1) := by decide +kernel
theorem dX5_umpireAt_24 : decode cX5_umpireAt 24 = .ok (.goto 4, 3) := by decide +kernel
theorem dX5_umpireAt_27 : decode cX5_umpireAt 27 = .ok (.aconst_null, 1) := by decide +kernel
theorem dX5_umpireAt_28 : decode cX5_umpireAt 28 = .ok (.areturn, 1) := by decide +kernel
theorem dX5_holderOf_0 : decode cX5_holderOf 0 = .ok (.aload_n 0, 1) := by decide +kernel
theorem dX5_holderOf_1 : decode cX5_holderOf 1 = .ok (.iload_n 1, 1) := by decide +kernel
theorem dX5_holderOf_2 : decode cX5_holderOf 2 = .ok (.invokevirtual 150, 3) := by decide +kernel
theorem dX5_holderOf_5 : decode cX5_holderOf 5 = .ok (.ifCond .eq 16, 3) := by decide +kernel
theorem dX5_holderOf_8 : decode cX5_holderOf 8 = .ok (.aload_n 0, 1) := by decide +kernel
theorem dX5_holderOf_9 : decode cX5_holderOf 9 = .ok (.aload_n 0, 1) := by decide +kernel
theorem dX5_holderOf_10 : decode cX5_holderOf 10 = .ok (.getfield 36, 3) := by decide +kernel
theorem dX5_holderOf_13 : decode cX5_holderOf 13 = .ok (.iload_n 1, 1) := by decide +kernel
theorem dX5_holderOf_14 : decode cX5_holderOf 14 = .ok (.iaload, 1) := by decide +kernel
theorem dX5_holderOf_15 : decode cX5_holderOf 15 = .ok (.invokevirtual 87, 3) := by decide +kernel
theorem dX5_holderOf_18 : decode cX5_holderOf 18 = .ok (.goto 4, 3) := by decide +kernel
theorem dX5_holderOf_21 : decode cX5_holderOf 21 = .ok (.aconst_null, 1) := by decide +kernel
theorem dX5_holderOf_22 : decode cX5_holderOf 22 = .ok (.areturn, 1) := by decide +kernel
theorem dX5_gameOf_0 : decode cX5_gameOf 0 = .ok (.aload_n 0, 1) := by decide +kernel
theorem dX5_gameOf_1 : decode cX5_gameOf 1 = .ok (.iload_n 1, 1) := by decide +kernel
theorem dX5_gameOf_2 : decode cX5_gameOf 2 = .ok (.invokevirtual 150, 3) := by decide +kernel
theorem dX5_gameOf_5 : decode cX5_gameOf 5 = .ok (.ifCond .eq 14, 3) := by decide +kernel
theorem dX5_gameOf_8 : decode cX5_gameOf 8 = .ok (.aload_n 0, 1) := by decide +kernel
theorem dX5_gameOf_9 : decode cX5_gameOf 9 = .ok (.getfield 31, 3) := by decide +kernel
theorem dX5_gameOf_12 : decode cX5_gameOf 12 = .ok (.iload_n 1, 1) := by decide +kernel
theorem dX5_gameOf_13 : decode cX5_gameOf 13 = .ok (.iconst 2, 1) := by decide +kernel
theorem dX5_gameOf_14 : decode cX5_gameOf 14 = .ok (.idiv, 1) := by decide +kernel
theorem dX5_gameOf_15 : decode cX5_gameOf 15 = .ok (.aaload, 1) := by decide +kernel
theorem dX5_gameOf_16 : decode cX5_gameOf 16 = .ok (.goto 4, 3) := by decide +kernel
theorem dX5_gameOf_19 : decode cX5_gameOf 19 = .ok (.aconst_null, 1) := by decide +kernel
theorem dX5_gameOf_20 : decode cX5_gameOf 20 = .ok (.areturn, 1) := by decide +kernel
theorem dX5_fits_0 : decode cX5_fits 0 = .ok (.aload_n 0, 1) := by decide +kernel
theorem dX5_fits_1 : decode cX5_fits 1 = .ok (.iload_n 2, 1) := by decide +kernel
theorem dX5_fits_2 : decode cX5_fits 2 = .ok (.invokevirtual 198, 3) := by decide +kernel
theorem dX5_fits_5 : decode cX5_fits 5 = .ok (.astore_n 3, 1) := by decide +kernel
theorem dX5_fits_6 : decode cX5_fits 6 = .ok (.aload_n 1, 1) := by decide +kernel
theorem dX5_fits_7 : decode cX5_fits 7 = .ok (.ifnull 7, 3) := by decide +kernel
theorem dX5_fits_10 : decode cX5_fits 10 = .ok (.aload_n 3, 1) := by decide +kernel
theorem dX5_fits_11 : decode cX5_fits 11 = .ok (.ifnonnull 5, 3) := by decide +kernel
theorem dX5_fits_14 : decode cX5_fits 14 = .ok (.iconst 0, 1) := by decide +kernel
theorem dX5_fits_15 : decode cX5_fits 15 = .ok (.ireturn, 1) := by decide +kernel
theorem dX5_fits_16 : decode cX5_fits 16 = .ok (.aload_n 1, 1) := by decide +kernel
theorem dX5_fits_17 : decode cX5_fits 17 = .ok (.aload_n 0, 1) := by decide +kernel
theorem dX5_fits_18 : decode cX5_fits 18 = .ok (.getfield 91, 3) := by decide +kernel
theorem dX5_fits_21 : decode cX5_fits 21 = .ok (.invokevirtual 202, 3) := by decide +kernel
theorem dX5_fits_24 : decode cX5_fits 24 = .ok (.ifCond .ne 92, 3) := by decide +kernel
theorem dX5_fits_27 : decode cX5_fits 27 = .ok (.aload_n 1, 1) := by decide +kernel
theorem dX5_fits_28 : decode cX5_fits 28 = .ok (.getfield 205, 3) := by decide +kernel
theorem dX5_fits_31 : decode cX5_fits 31 = .ok (.aload_n 3, 1) := by decide +kernel
theorem dX5_fits_32 : decode cX5_fits 32 = .ok (.getfield 208, 3) := by decide +kernel
theorem dX5_fits_35 : decode cX5_fits 35 = .ok (.iand, 1) := by decide +kernel
theorem dX5_fits_36 : decode cX5_fits 36 = .ok (.ifCond .ne 80, 3) := by decide +kernel
theorem dX5_fits_39 : decode cX5_fits 39 = .ok (.aload_n 1, 1) := by decide +kernel
theorem dX5_fits_40 : decode cX5_fits 40 = .ok (.getfield 173, 3) := by decide +kernel
theorem dX5_fits_43 : decode cX5_fits 43 = .ok (.aload_n 3, 1) := by decide +kernel
theorem dX5_fits_44 : decode cX5_fits 44 = .ok (.getfield 211, 3) := by decide +kernel
theorem dX5_fits_47 : decode cX5_fits 47 = .ok (.iload_n 2, 1) := by decide +kernel
theorem dX5_fits_48 : decode cX5_fits 48 = .ok (.iconst 2, 1) := by decide +kernel
theorem dX5_fits_49 : decode cX5_fits 49 = .ok (.irem, 1) := by decide +kernel
theorem dX5_fits_50 : decode cX5_fits 50 = .ok (.iadd, 1) := by decide +kernel
theorem dX5_fits_51 : decode cX5_fits 51 = .ok (.if_icmp .gt 65, 3) := by decide +kernel
theorem dX5_fits_54 : decode cX5_fits 54 = .ok (.aload_n 3, 1) := by decide +kernel
theorem dX5_fits_55 : decode cX5_fits 55 = .ok (.aload_n 1, 1) := by decide +kernel
theorem dX5_fits_56 : decode cX5_fits 56 = .ok (.invokevirtual 214, 3) := by decide +kernel
theorem dX5_fits_59 : decode cX5_fits 59 = .ok (.aload_n 0, 1) := by decide +kernel
theorem dX5_fits_60 : decode cX5_fits 60 = .ok (.getfield 19, 3) := by decide +kernel
theorem dX5_fits_63 : decode cX5_fits 63 = .ok (.iconst 2, 1) := by decide +kernel
theorem dX5_fits_64 : decode cX5_fits 64 = .ok (.invokevirtual 69, 3) := by decide +kernel
theorem dX5_fits_67 : decode cX5_fits 67 = .ok (.if_icmp .gt 49, 3) := by decide +kernel
theorem dX5_fits_70 : decode cX5_fits 70 = .ok (.aload_n 1, 1) := by decide +kernel
theorem dX5_fits_71 : decode cX5_fits 71 = .ok (.aload_n 0, 1) := by decide +kernel
theorem dX5_fits_72 : decode cX5_fits 72 = .ok (.getfield 91, 3) := by decide +kernel
theorem dX5_fits_75 : decode cX5_fits 75 = .ok (.aload_n 0, 1) := by decide +kernel
theorem dX5_fits_76 : decode cX5_fits 76 = .ok (.getfield 19, 3) := by decide +kernel
theorem dX5_fits_79 : decode cX5_fits 79 = .ok (.iconst 0, 1) := by decide +kernel
theorem dX5_fits_80 : decode cX5_fits 80 = .ok (.invokevirtual 69, 3) := by decide +kernel
theorem dX5_fits_83 : decode cX5_fits 83 = .ok (.invokevirtual 218, 3) := by decide +kernel
theorem dX5_fits_86 : decode cX5_fits 86 = .ok (.ifCond .ne 30, 3) := by decide +kernel
theorem dX5_fits_89 : decode cX5_fits 89 = .ok (.aload_n 1, 1) := by decide +kernel
theorem dX5_fits_90 : decode cX5_fits 90 = .ok (.aload_n 3, 1) := by decide +kernel
theorem dX5_fits_91 : decode cX5_fits 91 = .ok (.getfield 208, 3) := by decide +kernel
theorem dX5_fits_94 : decode cX5_fits 94 = .ok (.aload_n 0, 1) := by decide +kernel
theorem dX5_fits_95 : decode cX5_fits 95 = .ok (.getfield 91, 3) := by decide +kernel
theorem dX5_fits_98 : decode cX5_fits 98 = .ok (.aload_n 0, 1) := by decide +kernel
theorem dX5_fits_99 : decode cX5_fits 99 = .ok (.getfield 19, 3) := by decide +kernel
theorem dX5_fits_102 : decode cX5_fits 102 = .ok (.iconst 1, 1) := by decide +kernel
theorem dX5_fits_103 : decode cX5_fits 103 = .ok (.invokevirtual 69, 3) := by decide +kernel
theorem dX5_fits_106 : decode cX5_fits 106 = .ok (.invokevirtual 221, 3) := by decide +kernel
theorem dX5_fits_109 : decode cX5_fits 109 = .ok (.ifCond .ne 7, 3) := by decide +kernel
theorem dX5_fits_112 : decode cX5_fits 112 = .ok (.iconst 1, 1) := by decide +kernel
theorem dX5_fits_113 : decode cX5_fits 113 = .ok (.goto 4, 3) := by decide +kernel
theorem dX5_fits_116 : decode cX5_fits 116 = .ok (.iconst 0, 1) := by decide +kernel
theorem dX5_fits_117 : decode cX5_fits 117 = .ok (.ireturn, 1) := by decide +kernel
theorem dX5_price_0 : decode cX5_price 0 = .ok (.aload_n 0, 1) := by decide +kernel
theorem dX5_price_1 : decode cX5_price 1 = .ok (.iload_n 2, 1) := by decide +kernel
theorem dX5_price_2 : decode cX5_price 2 = .ok (.invokevirtual 198, 3) := by decide +kernel
theorem dX5_price_5 : decode cX5_price 5 = .ok (.astore_n 3, 1) := by decide +kernel
theorem dX5_price_6 : decode cX5_price 6 = .ok (.aload_n 1, 1) := by decide +kernel
theorem dX5_price_7 : decode cX5_price 7 = .ok (.ifnull 7, 3) := by decide +kernel
theorem dX5_price_10 : decode cX5_price 10 = .ok (.aload_n 3, 1) := by decide +kernel
theorem dX5_price_11 : decode cX5_price 11 = .ok (.ifnonnull 5, 3) := by decide +kernel
theorem dX5_price_14 : decode cX5_price 14 = .ok (.iconst (-1), 1) := by decide +kernel
theorem dX5_price_15 : decode cX5_price 15 = .ok (.ireturn, 1) := by decide +kernel
theorem dX5_price_16 : decode cX5_price 16 = .ok (.aload_n 3, 1) := by decide +kernel
theorem dX5_price_17 : decode cX5_price 17 = .ok (.aload_n 1, 1) := by decide +kernel
theorem dX5_price_18 : decode cX5_price 18 = .ok (.invokevirtual 214, 3) := by decide +kernel
theorem dX5_price_21 : decode cX5_price 21 = .ok (.aload_n 0, 1) := by decide +kernel
theorem dX5_price_22 : decode cX5_price 22 = .ok (.getfield 19, 3) := by decide +kernel
theorem dX5_price_25 : decode cX5_price 25 = .ok (.iconst 3, 1) := by decide +kernel
theorem dX5_price_26 : decode cX5_price 26 = .ok (.invokevirtual 69, 3) := by decide +kernel
theorem dX5_price_29 : decode cX5_price 29 = .ok (.aload_n 1, 1) := by decide +kernel
theorem dX5_price_30 : decode cX5_price 30 = .ok (.getfield 176, 3) := by decide +kernel
theorem dX5_price_33 : decode cX5_price 33 = .ok (.imul, 1) := by decide +kernel
theorem dX5_price_34 : decode cX5_price 34 = .ok (.iadd, 1) := by decide +kernel
theorem dX5_price_35 : decode cX5_price 35 = .ok (.ireturn, 1) := by decide +kernel
theorem dX5_filledSeats_0 : decode cX5_filledSeats 0 = .ok (.iconst 0, 1) := by decide +kernel
theorem dX5_filledSeats_1 : decode cX5_filledSeats 1 = .ok (.istore_n 1, 1) := by decide +kernel
theorem dX5_filledSeats_2 : decode cX5_filledSeats 2 = .ok (.iconst 0, 1) := by decide +kernel
theorem dX5_filledSeats_3 : decode cX5_filledSeats 3 = .ok (.istore_n 2, 1) := by decide +kernel
theorem dX5_filledSeats_4 : decode cX5_filledSeats 4 = .ok (.iload_n 2, 1) := by decide +kernel
theorem dX5_filledSeats_5 : decode cX5_filledSeats 5 = .ok (.iconst 2, 1) := by decide +kernel
theorem dX5_filledSeats_6 : decode cX5_filledSeats 6 = .ok (.aload_n 0, 1) := by decide +kernel
theorem dX5_filledSeats_7 : decode cX5_filledSeats 7 = .ok (.getfield 101, 3) := by decide +kernel
theorem dX5_filledSeats_10 : decode cX5_filledSeats 10 = .ok (.imul, 1) := by decide +kernel
theorem dX5_filledSeats_11 : decode cX5_filledSeats 11 = .ok (.if_icmp .ge 20, 3) := by decide +kernel
theorem dX5_filledSeats_14 : decode cX5_filledSeats 14 = .ok (.aload_n 0, 1) := by decide +kernel
theorem dX5_filledSeats_15 : decode cX5_filledSeats 15 = .ok (.iload_n 2, 1) := by decide +kernel
theorem dX5_filledSeats_16 : decode cX5_filledSeats 16 = .ok (.invokevirtual 153, 3) := by decide +kernel
theorem dX5_filledSeats_19 : decode cX5_filledSeats 19 = .ok (.ifnull 6, 3) := by decide +kernel
theorem dX5_filledSeats_22 : decode cX5_filledSeats 22 = .ok (.iinc 1 1, 3) := by decide +kernel
theorem dX5_filledSeats_25 : decode cX5_filledSeats 25 = .ok (.iinc 2 1, 3) := by decide +kernel
theorem dX5_filledSeats_28 : decode cX5_filledSeats 28 = .ok (.goto (-24), 3) := by decide +kernel
theorem dX5_filledSeats_31 : decode cX5_filledSeats 31 = .ok (.iload_n 1, 1) := by decide +kernel
theorem dX5_filledSeats_32 : decode cX5_filledSeats 32 = .ok (.ireturn, 1) := by decide +kernel
theorem dX5_clearSeat_0 : decode cX5_clearSeat 0 = .ok (.aload_n 0, 1) := by decide +kernel
theorem dX5_clearSeat_1 : decode cX5_clearSeat 1 = .ok (.iload_n 1, 1) := by decide +kernel
theorem dX5_clearSeat_2 : decode cX5_clearSeat 2 = .ok (.invokevirtual 153, 3) := by decide +kernel
theorem dX5_clearSeat_5 : decode cX5_clearSeat 5 = .ok (.astore_n 2, 1) := by decide +kernel
theorem dX5_clearSeat_6 : decode cX5_clearSeat 6 = .ok (.aload_n 2, 1) := by decide +kernel
theorem dX5_clearSeat_7 : decode cX5_clearSeat 7 = .ok (.ifnull 15, 3) := by decide +kernel
theorem dX5_clearSeat_10 : decode cX5_clearSeat 10 = .ok (.aload_n 2, 1) := by decide +kernel
theorem dX5_clearSeat_11 : decode cX5_clearSeat 11 = .ok (.iconst (-1), 1) := by decide +kernel
theorem dX5_clearSeat_12 : decode cX5_clearSeat 12 = .ok (.putfield 94, 3) := by decide +kernel
theorem dX5_clearSeat_15 : decode cX5_clearSeat 15 = .ok (.aload_n 0, 1) := by decide +kernel
theorem dX5_clearSeat_16 : decode cX5_clearSeat 16 = .ok (.getfield 36, 3) := by decide +kernel
theorem dX5_clearSeat_19 : decode cX5_clearSeat 19 = .ok (.iload_n 1, 1) := by decide +kernel
theorem dX5_clearSeat_20 : decode cX5_clearSeat 20 = .ok (.iconst (-1), 1) := by decide +kernel
theorem dX5_clearSeat_21 : decode cX5_clearSeat 21 = .ok (.iastore, 1) := by decide +kernel
theorem dX5_clearSeat_22 : decode cX5_clearSeat 22 = .ok (.return_, 1) := by decide +kernel
theorem dX5_fillSeat_0 : decode cX5_fillSeat 0 = .ok (.aload_n 0, 1) := by decide +kernel
theorem dX5_fillSeat_1 : decode cX5_fillSeat 1 = .ok (.iload_n 2, 1) := by decide +kernel
theorem dX5_fillSeat_2 : decode cX5_fillSeat 2 = .ok (.invokevirtual 87, 3) := by decide +kernel
theorem dX5_fillSeat_5 : decode cX5_fillSeat 5 = .ok (.astore_n 3, 1) := by decide +kernel
theorem dX5_fillSeat_6 : decode cX5_fillSeat 6 = .ok (.aload_n 3, 1) := by decide +kernel
theorem dX5_fillSeat_7 : decode cX5_fillSeat 7 = .ok (.ifnull 23, 3) := by decide +kernel
theorem dX5_fillSeat_10 : decode cX5_fillSeat 10 = .ok (.aload_n 0, 1) := by decide +kernel
theorem dX5_fillSeat_11 : decode cX5_fillSeat 11 = .ok (.iload_n 1, 1) := by decide +kernel
theorem dX5_fillSeat_12 : decode cX5_fillSeat 12 = .ok (.invokevirtual 150, 3) := by decide +kernel
theorem dX5_fillSeat_15 : decode cX5_fillSeat 15 = .ok (.ifCond .eq 15, 3) := by decide +kernel
theorem dX5_fillSeat_18 : decode cX5_fillSeat 18 = .ok (.aload_n 3, 1) := by decide +kernel
theorem dX5_fillSeat_19 : decode cX5_fillSeat 19 = .ok (.iload_n 1, 1) := by decide +kernel
theorem dX5_fillSeat_20 : decode cX5_fillSeat 20 = .ok (.putfield 94, 3) := by decide +kernel
theorem dX5_fillSeat_23 : decode cX5_fillSeat 23 = .ok (.aload_n 0, 1) := by decide +kernel
theorem dX5_fillSeat_24 : decode cX5_fillSeat 24 = .ok (.getfield 36, 3) := by decide +kernel
theorem dX5_fillSeat_27 : decode cX5_fillSeat 27 = .ok (.iload_n 1, 1) := by decide +kernel
theorem dX5_fillSeat_28 : decode cX5_fillSeat 28 = .ok (.iload_n 2, 1) := by decide +kernel
theorem dX5_fillSeat_29 : decode cX5_fillSeat 29 = .ok (.iastore, 1) := by decide +kernel
theorem dX5_fillSeat_30 : decode cX5_fillSeat 30 = .ok (.return_, 1) := by decide +kernel
theorem dX5_cheapestFree_0 : decode cX5_cheapestFree 0 = .ok (.iconst (-1), 1) := by decide +kernel
theorem dX5_cheapestFree_1 : decode cX5_cheapestFree 1 = .ok (.istore_n 2, 1) := by decide +kernel
theorem dX5_cheapestFree_2 : decode cX5_cheapestFree 2 = .ok (.iconst 0, 1) := by decide +kernel
theorem dX5_cheapestFree_3 : decode cX5_cheapestFree 3 = .ok (.istore_n 3, 1) := by decide +kernel
theorem dX5_cheapestFree_4 : decode cX5_cheapestFree 4 = .ok (.iconst 0, 1) := by decide +kernel
theorem dX5_cheapestFree_5 : decode cX5_cheapestFree 5 = .ok (.istore 4, 2) := by decide +kernel
theorem dX5_cheapestFree_7 : decode cX5_cheapestFree 7 = .ok (.iload 4, 2) := by decide +kernel
theorem dX5_cheapestFree_9 : decode cX5_cheapestFree 9 = .ok (.aload_n 0, 1) := by decide +kernel
theorem dX5_cheapestFree_10 : decode cX5_cheapestFree 10 = .ok (.getfield 73, 3) := by decide +kernel
theorem dX5_cheapestFree_13 : decode cX5_cheapestFree 13 = .ok (.if_icmp .ge 67, 3) := by decide +kernel
theorem dX5_cheapestFree_16 : decode cX5_cheapestFree 16 = .ok (.aload_n 0, 1) := by decide +kernel
theorem dX5_cheapestFree_17 : decode cX5_cheapestFree 17 = .ok (.iload 4, 2) := by decide +kernel
theorem dX5_cheapestFree_19 : decode cX5_cheapestFree 19 = .ok (.invokevirtual 87, 3) := by decide +kernel
theorem dX5_cheapestFree_22 : decode cX5_cheapestFree 22 = .ok (.astore 5, 2) := by decide +kernel
theorem dX5_cheapestFree_24 : decode cX5_cheapestFree 24 = .ok (.aload 5, 2) := by decide +kernel
theorem dX5_cheapestFree_26 : decode cX5_cheapestFree 26 = .ok (.ifnull 48, 3) := by decide +kernel
theorem dX5_cheapestFree_29 : decode cX5_cheapestFree 29 = .ok (.aload 5, 2) := by decide +kernel
theorem dX5_cheapestFree_31 : decode cX5_cheapestFree 31 = .ok (.getfield 94, 3) := by decide +kernel
theorem dX5_cheapestFree_34 : decode cX5_cheapestFree 34 = .ok (.iconst (-1), 1) := by decide +kernel
theorem dX5_cheapestFree_35 : decode cX5_cheapestFree 35 = .ok (.if_icmp .ne 39, 3) := by decide +kernel
theorem dX5_cheapestFree_38 : decode cX5_cheapestFree 38 = .ok (.aload_n 0, 1) := by decide +kernel
theorem dX5_cheapestFree_39 : decode cX5_cheapestFree 39 = .ok (.aload 5, 2) := by decide +kernel
theorem dX5_cheapestFree_41 : decode cX5_cheapestFree 41 = .ok (.iload_n 1, 1) := by decide +kernel
theorem dX5_cheapestFree_42 : decode cX5_cheapestFree 42 = .ok (.invokevirtual 110, 3) := by decide +kernel
theorem dX5_cheapestFree_45 : decode cX5_cheapestFree 45 = .ok (.ifCond .eq 29, 3) := by decide +kernel
theorem dX5_cheapestFree_48 : decode cX5_cheapestFree 48 = .ok (.aload_n 0, 1) := by decide +kernel
theorem dX5_cheapestFree_49 : decode cX5_cheapestFree 49 = .ok (.aload 5, 2) := by decide +kernel
theorem dX5_cheapestFree_51 : decode cX5_cheapestFree 51 = .ok (.iload_n 1, 1) := by decide +kernel
theorem dX5_cheapestFree_52 : decode cX5_cheapestFree 52 = .ok (.invokevirtual 114, 3) := by decide +kernel
theorem dX5_cheapestFree_55 : decode cX5_cheapestFree 55 = .ok (.istore 6, 2) := by decide +kernel
theorem dX5_cheapestFree_57 : decode cX5_cheapestFree 57 = .ok (.iload_n 2, 1) := by decide +kernel
theorem dX5_cheapestFree_58 : decode cX5_cheapestFree 58 = .ok (.iconst (-1), 1) := by decide +kernel
theorem dX5_cheapestFree_59 : decode cX5_cheapestFree 59 = .ok (.if_icmp .eq 9, 3) := by decide +kernel
theorem dX5_cheapestFree_62 : decode cX5_cheapestFree 62 = .ok (.iload 6, 2) := by decide +kernel
theorem dX5_cheapestFree_64 : decode cX5_cheapestFree 64 = .ok (.iload_n 3, 1) := by decide +kernel
theorem dX5_cheapestFree_65 : decode cX5_cheapestFree 65 = .ok (.if_icmp .ge 9, 3) := by decide +kernel
theorem dX5_cheapestFree_68 : decode cX5_cheapestFree 68 = .ok (.iload 4, 2) := by decide +kernel
theorem dX5_cheapestFree_70 : decode cX5_cheapestFree 70 = .ok (.istore_n 2, 1) := by decide +kernel
theorem dX5_cheapestFree_71 : decode cX5_cheapestFree 71 = .ok (.iload 6, 2) := by decide +kernel
theorem dX5_cheapestFree_73 : decode cX5_cheapestFree 73 = .ok (.istore_n 3, 1) := by decide +kernel
theorem dX5_cheapestFree_74 : decode cX5_cheapestFree 74 = .ok (.iinc 4 1, 3) := by decide +kernel
theorem dX5_cheapestFree_77 : decode cX5_cheapestFree 77 = .ok (.goto (-70), 3) := by decide +kernel
theorem dX5_cheapestFree_80 : decode cX5_cheapestFree 80 = .ok (.iload_n 2, 1) := by decide +kernel
theorem dX5_cheapestFree_81 : decode cX5_cheapestFree 81 = .ok (.ireturn, 1) := by decide +kernel
theorem dX5_fillByMove_0 : decode cX5_fillByMove 0 = .ok (.iconst (-1), 1) := by decide +kernel
theorem dX5_fillByMove_1 : decode cX5_fillByMove 1 = .ok (.istore_n 2, 1) := by decide +kernel
theorem dX5_fillByMove_2 : decode cX5_fillByMove 2 = .ok (.iconst (-1), 1) := by decide +kernel
theorem dX5_fillByMove_3 : decode cX5_fillByMove 3 = .ok (.istore_n 3, 1) := by decide +kernel
theorem dX5_fillByMove_4 : decode cX5_fillByMove 4 = .ok (.iconst 0, 1) := by decide +kernel
theorem dX5_fillByMove_5 : decode cX5_fillByMove 5 = .ok (.istore 4, 2) := by decide +kernel
theorem dX5_fillByMove_7 : decode cX5_fillByMove 7 = .ok (.iconst 0, 1) := by decide +kernel
theorem dX5_fillByMove_8 : decode cX5_fillByMove 8 = .ok (.istore 5, 2) := by decide +kernel
theorem dX5_fillByMove_10 : decode cX5_fillByMove 10 = .ok (.iload 5, 2) := by decide +kernel
theorem dX5_fillByMove_12 : decode cX5_fillByMove 12 = .ok (.iconst 2, 1) := by decide +kernel
theorem dX5_fillByMove_13 : decode cX5_fillByMove 13 = .ok (.aload_n 0, 1) := by decide +kernel
theorem dX5_fillByMove_14 : decode cX5_fillByMove 14 = .ok (.getfield 101, 3) := by decide +kernel
theorem dX5_fillByMove_17 : decode cX5_fillByMove 17 = .ok (.imul, 1) := by decide +kernel
theorem dX5_fillByMove_18 : decode cX5_fillByMove 18 = .ok (.if_icmp .ge 104, 3) := by decide +kernel
theorem dX5_fillByMove_21 : decode cX5_fillByMove 21 = .ok (.aload_n 0, 1) := by decide +kernel
theorem dX5_fillByMove_22 : decode cX5_fillByMove 22 = .ok (.iload 5, 2) := by decide +kernel
theorem dX5_fillByMove_24 : decode cX5_fillByMove 24 = .ok (.invokevirtual 153, 3) := by decide +kernel
theorem dX5_fillByMove_27 : decode cX5_fillByMove 27 = .ok (.astore 6, 2) := by decide +kernel
theorem dX5_fillByMove_29 : decode cX5_fillByMove 29 = .ok (.iload 5, 2) := by decide +kernel
theorem dX5_fillByMove_31 : decode cX5_fillByMove 31 = .ok (.iload_n 1, 1) := by decide +kernel
theorem dX5_fillByMove_32 : decode cX5_fillByMove 32 = .ok (.if_icmp .eq 22, 3) := by decide +kernel
theorem dX5_fillByMove_35 : decode cX5_fillByMove 35 = .ok (.aload_n 0, 1) := by decide +kernel
theorem dX5_fillByMove_36 : decode cX5_fillByMove 36 = .ok (.aload 6, 2) := by decide +kernel
theorem dX5_fillByMove_38 : decode cX5_fillByMove 38 = .ok (.iload_n 1, 1) := by decide +kernel
theorem dX5_fillByMove_39 : decode cX5_fillByMove 39 = .ok (.invokevirtual 110, 3) := by decide +kernel
theorem dX5_fillByMove_42 : decode cX5_fillByMove 42 = .ok (.ifCond .eq 12, 3) := by decide +kernel
theorem dX5_fillByMove_45 : decode cX5_fillByMove 45 = .ok (.aload_n 0, 1) := by decide +kernel
theorem dX5_fillByMove_46 : decode cX5_fillByMove 46 = .ok (.iload 5, 2) := by decide +kernel
theorem dX5_fillByMove_48 : decode cX5_fillByMove 48 = .ok (.invokevirtual 144, 3) := by decide +kernel
theorem dX5_fillByMove_51 : decode cX5_fillByMove 51 = .ok (.goto 4, 3) := by decide +kernel
theorem dX5_fillByMove_54 : decode cX5_fillByMove 54 = .ok (.iconst (-1), 1) := by decide +kernel
theorem dX5_fillByMove_55 : decode cX5_fillByMove 55 = .ok (.istore 7, 2) := by decide +kernel
theorem dX5_fillByMove_57 : decode cX5_fillByMove 57 = .ok (.iload 7, 2) := by decide +kernel
theorem dX5_fillByMove_59 : decode cX5_fillByMove 59 = .ok (.iconst (-1), 1) := by decide +kernel
theorem dX5_fillByMove_60 : decode cX5_fillByMove 60 = .ok (.if_icmp .eq 56, 3) := by decide +kernel
theorem dX5_fillByMove_63 : decode cX5_fillByMove 63 = .ok (.aload_n 0, 1) := by decide +kernel
theorem dX5_fillByMove_64 : decode cX5_fillByMove 64 = .ok (.aload 6, 2) := by decide +kernel
theorem dX5_fillByMove_66 : decode cX5_fillByMove 66 = .ok (.iload_n 1, 1) := by decide +kernel
theorem dX5_fillByMove_67 : decode cX5_fillByMove 67 = .ok (.invokevirtual 114, 3) := by decide +kernel
theorem dX5_fillByMove_70 : decode cX5_fillByMove 70 = .ok (.aload_n 0, 1) := by decide +kernel
theorem dX5_fillByMove_71 : decode cX5_fillByMove 71 = .ok (.aload 6, 2) := by decide +kernel
theorem dX5_fillByMove_73 : decode cX5_fillByMove 73 = .ok (.iload 5, 2) := by decide +kernel
theorem dX5_fillByMove_75 : decode cX5_fillByMove 75 = .ok (.invokevirtual 114, 3) := by decide +kernel
theorem dX5_fillByMove_78 : decode cX5_fillByMove 78 = .ok (.isub, 1) := by decide +kernel
theorem dX5_fillByMove_79 : decode cX5_fillByMove 79 = .ok (.aload_n 0, 1) := by decide +kernel
theorem dX5_fillByMove_80 : decode cX5_fillByMove 80 = .ok (.aload_n 0, 1) := by decide +kernel
theorem dX5_fillByMove_81 : decode cX5_fillByMove 81 = .ok (.iload 7, 2) := by decide +kernel
theorem dX5_fillByMove_83 : decode cX5_fillByMove 83 = .ok (.invokevirtual 87, 3) := by decide +kernel
theorem dX5_fillByMove_86 : decode cX5_fillByMove 86 = .ok (.iload 5, 2) := by decide +kernel
theorem dX5_fillByMove_88 : decode cX5_fillByMove 88 = .ok (.invokevirtual 114, 3) := by decide +kernel
theorem dX5_fillByMove_91 : decode cX5_fillByMove 91 = .ok (.iadd, 1) := by decide +kernel
theorem dX5_fillByMove_92 : decode cX5_fillByMove 92 = .ok (.istore 8, 2) := by decide +kernel
theorem dX5_fillByMove_94 : decode cX5_fillByMove 94 = .ok (.iload_n 2, 1) := by decide +kernel
theorem dX5_fillByMove_95 : decode cX5_fillByMove 95 = .ok (.iconst (-1), 1) := by decide +kernel
theorem dX5_fillByMove_96 : decode cX5_fillByMove 96 = .ok (.if_icmp .eq 10, 3) := by decide +kernel
theorem dX5_fillByMove_99 : decode cX5_fillByMove 99 = .ok (.iload 8, 2) := by decide +kernel
theorem dX5_fillByMove_101 : decode cX5_fillByMove 101 = .ok (.iload 4, 2) := by decide +kernel
theorem dX5_fillByMove_103 : decode cX5_fillByMove 103 = .ok (.if_icmp .ge 13, 3) := by decide +kernel
theorem dX5_fillByMove_106 : decode cX5_fillByMove 106 = .ok (.iload 5, 2) := by decide +kernel
theorem dX5_fillByMove_108 : decode cX5_fillByMove 108 = .ok (.istore_n 2, 1) := by decide +kernel
theorem dX5_fillByMove_109 : decode cX5_fillByMove 109 = .ok (.iload 7, 2) := by decide +kernel
theorem dX5_fillByMove_111 : decode cX5_fillByMove 111 = .ok (.istore_n 3, 1) := by decide +kernel
theorem dX5_fillByMove_112 : decode cX5_fillByMove 112 = .ok (.iload 8, 2) := by decide +kernel
theorem dX5_fillByMove_114 : decode cX5_fillByMove 114 = .ok (.istore 4, 2) := by decide +kernel
theorem dX5_fillByMove_116 : decode cX5_fillByMove 116 = .ok (.iinc 5 1, 3) := by decide +kernel
theorem dX5_fillByMove_119 : decode cX5_fillByMove 119 = .ok (.goto (-109), 3) := by decide +kernel
theorem dX5_fillByMove_122 : decode cX5_fillByMove 122 = .ok (.aload_n 0, 1) := by decide +kernel
theorem dX5_fillByMove_123 : decode cX5_fillByMove 123 = .ok (.iload_n 2, 1) := by decide +kernel
theorem dX5_fillByMove_124 : decode cX5_fillByMove 124 = .ok (.invokevirtual 150, 3) := by decide +kernel
theorem dX5_fillByMove_127 : decode cX5_fillByMove 127 = .ok (.ifCond .ne 5, 3) := by decide +kernel
theorem dX5_fillByMove_130 : decode cX5_fillByMove 130 = .ok (.iconst 0, 1) := by decide +kernel
theorem dX5_fillByMove_131 : decode cX5_fillByMove 131 = .ok (.ireturn, 1) := by decide +kernel
theorem dX5_fillByMove_132 : decode cX5_fillByMove 132 = .ok (.aload_n 0, 1) := by decide +kernel
theorem dX5_fillByMove_133 : decode cX5_fillByMove 133 = .ok (.getfield 36, 3) := by decide +kernel
theorem dX5_fillByMove_136 : decode cX5_fillByMove 136 = .ok (.iload_n 2, 1) := by decide +kernel
theorem dX5_fillByMove_137 : decode cX5_fillByMove 137 = .ok (.iaload, 1) := by decide +kernel
theorem dX5_fillByMove_138 : decode cX5_fillByMove 138 = .ok (.istore 5, 2) := by decide +kernel
theorem dX5_fillByMove_140 : decode cX5_fillByMove 140 = .ok (.aload_n 0, 1) := by decide +kernel
theorem dX5_fillByMove_141 : decode cX5_fillByMove 141 = .ok (.iload_n 2, 1) := by decide +kernel
theorem dX5_fillByMove_142 : decode cX5_fillByMove 142 = .ok (.invokevirtual 125, 3) := by decide +kernel
theorem dX5_fillByMove_145 : decode cX5_fillByMove 145 = .ok (.aload_n 0, 1) := by decide +kernel
theorem dX5_fillByMove_146 : decode cX5_fillByMove 146 = .ok (.iload_n 1, 1) := by decide +kernel
theorem dX5_fillByMove_147 : decode cX5_fillByMove 147 = .ok (.iload 5, 2) := by decide +kernel
theorem dX5_fillByMove_149 : decode cX5_fillByMove 149 = .ok (.invokevirtual 138, 3) := by decide +kernel
theorem dX5_fillByMove_152 : decode cX5_fillByMove 152 = .ok (.aload_n 0, 1) := by decide +kernel
theorem dX5_fillByMove_153 : decode cX5_fillByMove 153 = .ok (.iload_n 2, 1) := by decide +kernel
theorem dX5_fillByMove_154 : decode cX5_fillByMove 154 = .ok (.iload_n 3, 1) := by decide +kernel
theorem dX5_fillByMove_155 : decode cX5_fillByMove 155 = .ok (.invokevirtual 138, 3) := by decide +kernel
theorem dX5_fillByMove_158 : decode cX5_fillByMove 158 = .ok (.iconst 1, 1) := by decide +kernel
theorem dX5_fillByMove_159 : decode cX5_fillByMove 159 = .ok (.ireturn, 1) := by decide +kernel
theorem dX5_endSeat_0 : decode cX5_endSeat 0 = .ok (.aload_n 0, 1) := by decide +kernel
theorem dX5_endSeat_1 : decode cX5_endSeat 1 = .ok (.iload_n 1, 1) := by decide +kernel
theorem dX5_endSeat_2 : decode cX5_endSeat 2 = .ok (.invokevirtual 153, 3) := by decide +kernel
theorem dX5_endSeat_5 : decode cX5_endSeat 5 = .ok (.astore_n 2, 1) := by decide +kernel
theorem dX5_endSeat_6 : decode cX5_endSeat 6 = .ok (.aload_n 0, 1) := by decide +kernel
theorem dX5_endSeat_7 : decode cX5_endSeat 7 = .ok (.iload_n 1, 1) := by decide +kernel
theorem dX5_endSeat_8 : decode cX5_endSeat 8 = .ok (.invokevirtual 198, 3) := by decide +kernel
theorem dX5_endSeat_11 : decode cX5_endSeat 11 = .ok (.astore_n 3, 1) := by decide +kernel
theorem dX5_endSeat_12 : decode cX5_endSeat 12 = .ok (.aload_n 2, 1) := by decide +kernel
theorem dX5_endSeat_13 : decode cX5_endSeat 13 = .ok (.ifnull 19, 3) := by decide +kernel
theorem dX5_endSeat_16 : decode cX5_endSeat 16 = .ok (.aload_n 3, 1) := by decide +kernel
theorem dX5_endSeat_17 : decode cX5_endSeat 17 = .ok (.ifnull 15, 3) := by decide +kernel
theorem dX5_endSeat_20 : decode cX5_endSeat 20 = .ok (.aload_n 2, 1) := by decide +kernel
theorem dX5_endSeat_21 : decode cX5_endSeat 21 = .ok (.aload_n 0, 1) := by decide +kernel
theorem dX5_endSeat_22 : decode cX5_endSeat 22 = .ok (.getfield 91, 3) := by decide +kernel
theorem dX5_endSeat_25 : decode cX5_endSeat 25 = .ok (.aload_n 3, 1) := by decide +kernel
theorem dX5_endSeat_26 : decode cX5_endSeat 26 = .ok (.getfield 208, 3) := by decide +kernel
theorem dX5_endSeat_29 : decode cX5_endSeat 29 = .ok (.invokevirtual 225, 3) := by decide +kernel
theorem dX5_endSeat_32 : decode cX5_endSeat 32 = .ok (.aload_n 0, 1) := by decide +kernel
theorem dX5_endSeat_33 : decode cX5_endSeat 33 = .ok (.iload_n 1, 1) := by decide +kernel
theorem dX5_endSeat_34 : decode cX5_endSeat 34 = .ok (.invokevirtual 125, 3) := by decide +kernel
theorem dX5_endSeat_37 : decode cX5_endSeat 37 = .ok (.return_, 1) := by decide +kernel
theorem dX5_regrade_0 : decode cX5_regrade 0 = .ok (.aload_n 1, 1) := by decide +kernel
theorem dX5_regrade_1 : decode cX5_regrade 1 = .ok (.ifnull 26, 3) := by decide +kernel
theorem dX5_regrade_4 : decode cX5_regrade 4 = .ok (.aload_n 1, 1) := by decide +kernel
theorem dX5_regrade_5 : decode cX5_regrade 5 = .ok (.getfield 179, 3) := by decide +kernel
theorem dX5_regrade_8 : decode cX5_regrade 8 = .ok (.aload_n 0, 1) := by decide +kernel
theorem dX5_regrade_9 : decode cX5_regrade 9 = .ok (.getfield 19, 3) := by decide +kernel
theorem dX5_regrade_12 : decode cX5_regrade 12 = .ok (.bipush 8, 2) := by decide +kernel
theorem dX5_regrade_14 : decode cX5_regrade 14 = .ok (.invokevirtual 69, 3) := by decide +kernel
theorem dX5_regrade_17 : decode cX5_regrade 17 = .ok (.if_icmp .lt 10, 3) := by decide +kernel
theorem dX5_regrade_20 : decode cX5_regrade 20 = .ok (.aload_n 1, 1) := by decide +kernel
theorem dX5_regrade_21 : decode cX5_regrade 21 = .ok (.getfield 182, 3) := by decide +kernel
theorem dX5_regrade_24 : decode cX5_regrade 24 = .ok (.ifCond .ne 4, 3) := by decide +kernel
theorem dX5_regrade_27 : decode cX5_regrade 27 = .ok (.return_, 1) := by decide +kernel
theorem dX5_regrade_28 : decode cX5_regrade 28 = .ok (.aload_n 1, 1) := by decide +kernel
theorem dX5_regrade_29 : decode cX5_regrade 29 = .ok (.getfield 185, 3) := by decide +kernel
theorem dX5_regrade_32 : decode cX5_regrade 32 = .ok (.aload_n 0, 1) := by decide +kernel
theorem dX5_regrade_33 : decode cX5_regrade 33 = .ok (.getfield 19, 3) := by decide +kernel
theorem dX5_regrade_36 : decode cX5_regrade 36 = .ok (.bipush 6, 2) := by decide +kernel
theorem dX5_regrade_38 : decode cX5_regrade 38 = .ok (.invokevirtual 69, 3) := by decide +kernel
theorem dX5_regrade_41 : decode cX5_regrade 41 = .ok (.aload_n 1, 1) := by decide +kernel
theorem dX5_regrade_42 : decode cX5_regrade 42 = .ok (.getfield 182, 3) := by decide +kernel
theorem dX5_regrade_45 : decode cX5_regrade 45 = .ok (.imul, 1) := by decide +kernel
theorem dX5_regrade_46 : decode cX5_regrade 46 = .ok (.if_icmp .lt 7, 3) := by decide +kernel
theorem dX5_regrade_49 : decode cX5_regrade 49 = .ok (.iconst 1, 1) := by decide +kernel
theorem dX5_regrade_50 : decode cX5_regrade 50 = .ok (.goto 4, 3) := by decide +kernel
theorem dX5_regrade_53 : decode cX5_regrade 53 = .ok (.iconst 0, 1) := by decide +kernel
theorem dX5_regrade_54 : decode cX5_regrade 54 = .ok (.istore_n 2, 1) := by decide +kernel
theorem dX5_regrade_55 : decode cX5_regrade 55 = .ok (.aload_n 1, 1) := by decide +kernel
theorem dX5_regrade_56 : decode cX5_regrade 56 = .ok (.getfield 185, 3) := by decide +kernel
theorem dX5_regrade_59 : decode cX5_regrade 59 = .ok (.aload_n 0, 1) := by decide +kernel
theorem dX5_regrade_60 : decode cX5_regrade 60 = .ok (.getfield 19, 3) := by decide +kernel
theorem dX5_regrade_63 : decode cX5_regrade 63 = .ok (.bipush 7, 2) := by decide +kernel
theorem dX5_regrade_65 : decode cX5_regrade 65 = .ok (.invokevirtual 69, 3) := by decide +kernel
theorem dX5_regrade_68 : decode cX5_regrade 68 = .ok (.aload_n 1, 1) := by decide +kernel
theorem dX5_regrade_69 : decode cX5_regrade 69 = .ok (.getfield 182, 3) := by decide +kernel
theorem dX5_regrade_72 : decode cX5_regrade 72 = .ok (.imul, 1) := by decide +kernel
theorem dX5_regrade_73 : decode cX5_regrade 73 = .ok (.if_icmp .gt 7, 3) := by decide +kernel
theorem dX5_regrade_76 : decode cX5_regrade 76 = .ok (.iconst 1, 1) := by decide +kernel
theorem dX5_regrade_77 : decode cX5_regrade 77 = .ok (.goto 4, 3) := by decide +kernel
theorem dX5_regrade_80 : decode cX5_regrade 80 = .ok (.iconst 0, 1) := by decide +kernel
theorem dX5_regrade_81 : decode cX5_regrade 81 = .ok (.istore_n 3, 1) := by decide +kernel
theorem dX5_regrade_82 : decode cX5_regrade 82 = .ok (.iload_n 2, 1) := by decide +kernel
theorem dX5_regrade_83 : decode cX5_regrade 83 = .ok (.ifCond .eq 24, 3) := by decide +kernel
theorem dX5_regrade_86 : decode cX5_regrade 86 = .ok (.aload_n 1, 1) := by decide +kernel
theorem dX5_regrade_87 : decode cX5_regrade 87 = .ok (.getfield 173, 3) := by decide +kernel
theorem dX5_regrade_90 : decode cX5_regrade 90 = .ok (.iconst 1, 1) := by decide +kernel
theorem dX5_regrade_91 : decode cX5_regrade 91 = .ok (.if_icmp .le 16, 3) := by decide +kernel
theorem dX5_regrade_94 : decode cX5_regrade 94 = .ok (.aload_n 1, 1) := by decide +kernel
theorem dX5_regrade_95 : decode cX5_regrade 95 = .ok (.aload_n 1, 1) := by decide +kernel
theorem dX5_regrade_96 : decode cX5_regrade 96 = .ok (.getfield 173, 3) := by decide +kernel
theorem dX5_regrade_99 : decode cX5_regrade 99 = .ok (.iconst 1, 1) := by decide +kernel
theorem dX5_regrade_100 : decode cX5_regrade 100 = .ok (.isub, 1) := by decide +kernel
theorem dX5_regrade_101 : decode cX5_regrade 101 = .ok (.invokevirtual 228, 3) := by decide +kernel
theorem dX5_regrade_104 : decode cX5_regrade 104 = .ok (.goto 25, 3) := by decide +kernel
theorem dX5_regrade_107 : decode cX5_regrade 107 = .ok (.iload_n 3, 1) := by decide +kernel
theorem dX5_regrade_108 : decode cX5_regrade 108 = .ok (.ifCond .eq 21, 3) := by decide +kernel
theorem dX5_regrade_111 : decode cX5_regrade 111 = .ok (.aload_n 1, 1) := by decide +kernel
theorem dX5_regrade_112 : decode cX5_regrade 112 = .ok (.getfield 173, 3) := by decide +kernel
theorem dX5_regrade_115 : decode cX5_regrade 115 = .ok (.iconst 4, 1) := by decide +kernel
theorem dX5_regrade_116 : decode cX5_regrade 116 = .ok (.if_icmp .ge 13, 3) := by decide +kernel
theorem dX5_regrade_119 : decode cX5_regrade 119 = .ok (.aload_n 1, 1) := by decide +kernel
theorem dX5_regrade_120 : decode cX5_regrade 120 = .ok (.aload_n 1, 1) := by decide +kernel
theorem dX5_regrade_121 : decode cX5_regrade 121 = .ok (.getfield 173, 3) := by decide +kernel
theorem dX5_regrade_124 : decode cX5_regrade 124 = .ok (.iconst 1, 1) := by decide +kernel
theorem dX5_regrade_125 : decode cX5_regrade 125 = .ok (.iadd, 1) := by decide +kernel
theorem dX5_regrade_126 : decode cX5_regrade 126 = .ok (.invokevirtual 228, 3) := by decide +kernel
theorem dX5_regrade_129 : decode cX5_regrade 129 = .ok (.return_, 1) := by decide +kernel
theorem dJ6_bitCount_0f7a4_0 : decode cJ6_bitCount_0f7a4 0 = .ok (.iload_n 0, 1) := by decide +kernel
theorem dJ6_bitCount_0f7a4_1 : decode cJ6_bitCount_0f7a4 1 = .ok (.iload_n 0, 1) := by decide +kernel
theorem dJ6_bitCount_0f7a4_2 : decode cJ6_bitCount_0f7a4 2 = .ok (.iconst 1, 1) := by decide +kernel
theorem dJ6_bitCount_0f7a4_3 : decode cJ6_bitCount_0f7a4 3 = .ok (.iushr, 1) := by decide +kernel
theorem dJ6_bitCount_0f7a4_4 : decode cJ6_bitCount_0f7a4 4 = .ok (.ldc_w 265, 3) := by decide +kernel
theorem dJ6_bitCount_0f7a4_7 : decode cJ6_bitCount_0f7a4 7 = .ok (.iand, 1) := by decide +kernel
theorem dJ6_bitCount_0f7a4_8 : decode cJ6_bitCount_0f7a4 8 = .ok (.isub, 1) := by decide +kernel
theorem dJ6_bitCount_0f7a4_9 : decode cJ6_bitCount_0f7a4 9 = .ok (.istore_n 0, 1) := by decide +kernel
theorem dJ6_bitCount_0f7a4_10 : decode cJ6_bitCount_0f7a4 10 = .ok (.iload_n 0, 1) := by decide +kernel
theorem dJ6_bitCount_0f7a4_11 : decode cJ6_bitCount_0f7a4 11 = .ok (.ldc_w 266, 3) := by decide +kernel
theorem dJ6_bitCount_0f7a4_14 : decode cJ6_bitCount_0f7a4 14 = .ok (.iand, 1) := by decide +kernel
theorem dJ6_bitCount_0f7a4_15 : decode cJ6_bitCount_0f7a4 15 = .ok (.iload_n 0, 1) := by decide +kernel
theorem dJ6_bitCount_0f7a4_16 : decode cJ6_bitCount_0f7a4 16 = .ok (.iconst 2, 1) := by decide +kernel
theorem dJ6_bitCount_0f7a4_17 : decode cJ6_bitCount_0f7a4 17 = .ok (.iushr, 1) := by decide +kernel
theorem dJ6_bitCount_0f7a4_18 : decode cJ6_bitCount_0f7a4 18 = .ok (.ldc_w 266, 3) := by decide +kernel
theorem dJ6_bitCount_0f7a4_21 : decode cJ6_bitCount_0f7a4 21 = .ok (.iand, 1) := by decide +kernel
theorem dJ6_bitCount_0f7a4_22 : decode cJ6_bitCount_0f7a4 22 = .ok (.iadd, 1) := by decide +kernel
theorem dJ6_bitCount_0f7a4_23 : decode cJ6_bitCount_0f7a4 23 = .ok (.istore_n 0, 1) := by decide +kernel
theorem dJ6_bitCount_0f7a4_24 : decode cJ6_bitCount_0f7a4 24 = .ok (.iload_n 0, 1) := by decide +kernel
theorem dJ6_bitCount_0f7a4_25 : decode cJ6_bitCount_0f7a4 25 = .ok (.iload_n 0, 1) := by decide +kernel
theorem dJ6_bitCount_0f7a4_26 : decode cJ6_bitCount_0f7a4 26 = .ok (.iconst 4, 1) := by decide +kernel
theorem dJ6_bitCount_0f7a4_27 : decode cJ6_bitCount_0f7a4 27 = .ok (.iushr, 1) := by decide +kernel
theorem dJ6_bitCount_0f7a4_28 : decode cJ6_bitCount_0f7a4 28 = .ok (.iadd, 1) := by decide +kernel
theorem dJ6_bitCount_0f7a4_29 : decode cJ6_bitCount_0f7a4 29 = .ok (.ldc_w 267, 3) := by decide +kernel
theorem dJ6_bitCount_0f7a4_32 : decode cJ6_bitCount_0f7a4 32 = .ok (.iand, 1) := by decide +kernel
theorem dJ6_bitCount_0f7a4_33 : decode cJ6_bitCount_0f7a4 33 = .ok (.istore_n 0, 1) := by decide +kernel
theorem dJ6_bitCount_0f7a4_34 : decode cJ6_bitCount_0f7a4 34 = .ok (.iload_n 0, 1) := by decide +kernel
theorem dJ6_bitCount_0f7a4_35 : decode cJ6_bitCount_0f7a4 35 = .ok (.iload_n 0, 1) := by decide +kernel
theorem dJ6_bitCount_0f7a4_36 : decode cJ6_bitCount_0f7a4 36 = .ok (.bipush 8, 2) := by decide +kernel
theorem dJ6_bitCount_0f7a4_38 : decode cJ6_bitCount_0f7a4 38 = .ok (.iushr, 1) := by decide +kernel
theorem dJ6_bitCount_0f7a4_39 : decode cJ6_bitCount_0f7a4 39 = .ok (.iadd, 1) := by decide +kernel
theorem dJ6_bitCount_0f7a4_40 : decode cJ6_bitCount_0f7a4 40 = .ok (.istore_n 0, 1) := by decide +kernel
theorem dJ6_bitCount_0f7a4_41 : decode cJ6_bitCount_0f7a4 41 = .ok (.iload_n 0, 1) := by decide +kernel
theorem dJ6_bitCount_0f7a4_42 : decode cJ6_bitCount_0f7a4 42 = .ok (.iload_n 0, 1) := by decide +kernel
theorem dJ6_bitCount_0f7a4_43 : decode cJ6_bitCount_0f7a4 43 = .ok (.bipush 16, 2) := by decide +kernel
theorem dJ6_bitCount_0f7a4_45 : decode cJ6_bitCount_0f7a4 45 = .ok (.iushr, 1) := by decide +kernel
theorem dJ6_bitCount_0f7a4_46 : decode cJ6_bitCount_0f7a4 46 = .ok (.iadd, 1) := by decide +kernel
theorem dJ6_bitCount_0f7a4_47 : decode cJ6_bitCount_0f7a4 47 = .ok (.istore_n 0, 1) := by decide +kernel
theorem dJ6_bitCount_0f7a4_48 : decode cJ6_bitCount_0f7a4 48 = .ok (.iload_n 0, 1) := by decide +kernel
theorem dJ6_bitCount_0f7a4_49 : decode cJ6_bitCount_0f7a4 49 = .ok (.bipush 63, 2) := by decide +kernel
theorem dJ6_bitCount_0f7a4_51 : decode cJ6_bitCount_0f7a4 51 = .ok (.iand, 1) := by decide +kernel
theorem dJ6_bitCount_0f7a4_52 : decode cJ6_bitCount_0f7a4 52 = .ok (.ireturn, 1) := by decide +kernel
theorem dJ9_abs_0f7a4_0 : decode cJ9_abs_0f7a4 0 = .ok (.iload_n 0, 1) := by decide +kernel
theorem dJ9_abs_0f7a4_1 : decode cJ9_abs_0f7a4 1 = .ok (.ifCond .ge 8, 3) := by decide +kernel
theorem dJ9_abs_0f7a4_4 : decode cJ9_abs_0f7a4 4 = .ok (.iload_n 0, 1) := by decide +kernel
theorem dJ9_abs_0f7a4_5 : decode cJ9_abs_0f7a4 5 = .ok (.ineg, 1) := by decide +kernel
theorem dJ9_abs_0f7a4_6 : decode cJ9_abs_0f7a4 6 = .ok (.goto 4, 3) := by decide +kernel
theorem dJ9_abs_0f7a4_9 : decode cJ9_abs_0f7a4 9 = .ok (.iload_n 0, 1) := by decide +kernel
theorem dJ9_abs_0f7a4_10 : decode cJ9_abs_0f7a4 10 = .ok (.ireturn, 1) := by decide +kernel
theorem dJ9_max_7cf53_0 : decode cJ9_max_7cf53 0 = .ok (.iload_n 0, 1) := by decide +kernel
theorem dJ9_max_7cf53_1 : decode cJ9_max_7cf53 1 = .ok (.iload_n 1, 1) := by decide +kernel
theorem dJ9_max_7cf53_2 : decode cJ9_max_7cf53 2 = .ok (.if_icmp .lt 7, 3) := by decide +kernel
theorem dJ9_max_7cf53_5 : decode cJ9_max_7cf53 5 = .ok (.iload_n 0, 1) := by decide +kernel
theorem dJ9_max_7cf53_6 : decode cJ9_max_7cf53 6 = .ok (.goto 4, 3) := by decide +kernel
theorem dJ9_max_7cf53_9 : decode cJ9_max_7cf53 9 = .ok (.iload_n 1, 1) := by decide +kernel
theorem dJ9_max_7cf53_10 : decode cJ9_max_7cf53 10 = .ok (.ireturn, 1) := by decide +kernel
theorem dJ9_min_7cf53_0 : decode cJ9_min_7cf53 0 = .ok (.iload_n 0, 1) := by decide +kernel
theorem dJ9_min_7cf53_1 : decode cJ9_min_7cf53 1 = .ok (.iload_n 1, 1) := by decide +kernel
theorem dJ9_min_7cf53_2 : decode cJ9_min_7cf53 2 = .ok (.if_icmp .gt 7, 3) := by decide +kernel
theorem dJ9_min_7cf53_5 : decode cJ9_min_7cf53 5 = .ok (.iload_n 0, 1) := by decide +kernel
theorem dJ9_min_7cf53_6 : decode cJ9_min_7cf53 6 = .ok (.goto 4, 3) := by decide +kernel
theorem dJ9_min_7cf53_9 : decode cJ9_min_7cf53 9 = .ok (.iload_n 1, 1) := by decide +kernel
theorem dJ9_min_7cf53_10 : decode cJ9_min_7cf53 10 = .ok (.ireturn, 1) := by decide +kernel
theorem dJ0_length_8abf5_0 : decode cJ0_length_8abf5 0 = .ok (.aload_n 0, 1) := by decide +kernel
theorem dJ0_length_8abf5_1 : decode cJ0_length_8abf5 1 = .ok (.getfield 9, 3) := by decide +kernel
theorem dJ0_length_8abf5_4 : decode cJ0_length_8abf5 4 = .ok (.arraylength, 1) := by decide +kernel
theorem dJ0_length_8abf5_5 : decode cJ0_length_8abf5 5 = .ok (.aload_n 0, 1) := by decide +kernel
theorem dJ0_length_8abf5_6 : decode cJ0_length_8abf5 6 = .ok (.invokevirtual 335, 3) := by decide +kernel
theorem dJ0_length_8abf5_9 : decode cJ0_length_8abf5 9 = .ok (.ishr, 1) := by decide +kernel
theorem dJ0_length_8abf5_10 : decode cJ0_length_8abf5 10 = .ok (.ireturn, 1) := by decide +kernel
theorem dJ0_charAt_5068e_0 : decode cJ0_charAt_5068e 0 = .ok (.aload_n 0, 1) := by decide +kernel
theorem dJ0_charAt_5068e_1 : decode cJ0_charAt_5068e 1 = .ok (.invokevirtual 492, 3) := by decide +kernel
theorem dJ0_charAt_5068e_4 : decode cJ0_charAt_5068e 4 = .ok (.ifCond .eq 12, 3) := by decide +kernel
theorem dJ0_charAt_5068e_7 : decode cJ0_charAt_5068e 7 = .ok (.aload_n 0, 1) := by decide +kernel
theorem dJ0_charAt_5068e_8 : decode cJ0_charAt_5068e 8 = .ok (.getfield 9, 3) := by decide +kernel
theorem dJ0_charAt_5068e_11 : decode cJ0_charAt_5068e 11 = .ok (.iload_n 1, 1) := by decide +kernel
theorem dJ0_charAt_5068e_12 : decode cJ0_charAt_5068e 12 = .ok (.invokestatic 495, 3) := by decide +kernel
theorem dJ0_charAt_5068e_15 : decode cJ0_charAt_5068e 15 = .ok (.ireturn, 1) := by decide +kernel
theorem dJ0_charAt_5068e_16 : decode cJ0_charAt_5068e 16 = .ok (.aload_n 0, 1) := by decide +kernel
theorem dJ0_charAt_5068e_17 : decode cJ0_charAt_5068e 17 = .ok (.getfield 9, 3) := by decide +kernel
theorem dJ0_charAt_5068e_20 : decode cJ0_charAt_5068e 20 = .ok (.iload_n 1, 1) := by decide +kernel
theorem dJ0_charAt_5068e_21 : decode cJ0_charAt_5068e 21 = .ok (.invokestatic 498, 3) := by decide +kernel
theorem dJ0_charAt_5068e_24 : decode cJ0_charAt_5068e 24 = .ok (.ireturn, 1) := by decide +kernel
theorem dJ0_coder_7d493_0 : decode cJ0_coder_7d493 0 = .ok (.getstatic 38, 3) := by decide +kernel
theorem dJ0_coder_7d493_3 : decode cJ0_coder_7d493 3 = .ok (.ifCond .eq 10, 3) := by decide +kernel
theorem dJ0_coder_7d493_6 : decode cJ0_coder_7d493 6 = .ok (.aload_n 0, 1) := by decide +kernel
theorem dJ0_coder_7d493_7 : decode cJ0_coder_7d493 7 = .ok (.getfield 15, 3) := by decide +kernel
theorem dJ0_coder_7d493_10 : decode cJ0_coder_7d493 10 = .ok (.goto 4, 3) := by decide +kernel
theorem dJ0_coder_7d493_13 : decode cJ0_coder_7d493 13 = .ok (.iconst 1, 1) := by decide +kernel
theorem dJ0_coder_7d493_14 : decode cJ0_coder_7d493 14 = .ok (.ireturn, 1) := by decide +kernel
theorem dJ0_isLatin1_aae02_0 : decode cJ0_isLatin1_aae02 0 = .ok (.getstatic 38, 3) := by decide +kernel
theorem dJ0_isLatin1_aae02_3 : decode cJ0_isLatin1_aae02 3 = .ok (.ifCond .eq 14, 3) := by decide +kernel
theorem dJ0_isLatin1_aae02_6 : decode cJ0_isLatin1_aae02 6 = .ok (.aload_n 0, 1) := by decide +kernel
theorem dJ0_isLatin1_aae02_7 : decode cJ0_isLatin1_aae02 7 = .ok (.getfield 15, 3) := by decide +kernel
theorem dJ0_isLatin1_aae02_10 : decode cJ0_isLatin1_aae02 10 = .ok (.ifCond .ne 7, 3) := by decide +kernel
theorem dJ0_isLatin1_aae02_13 : decode cJ0_isLatin1_aae02 13 = .ok (.iconst 1, 1) := by decide +kernel
theorem dJ0_isLatin1_aae02_14 : decode cJ0_isLatin1_aae02 14 = .ok (.goto 4, 3) := by decide +kernel
theorem dJ0_isLatin1_aae02_17 : decode cJ0_isLatin1_aae02 17 = .ok (.iconst 0, 1) := by decide +kernel
theorem dJ0_isLatin1_aae02_18 : decode cJ0_isLatin1_aae02 18 = .ok (.ireturn, 1) := by decide +kernel
theorem dJ0_checkIndex_df160_0 : decode cJ0_checkIndex_df160 0 = .ok (.iload_n 0, 1) := by decide +kernel
theorem dJ0_checkIndex_df160_1 : decode cJ0_checkIndex_df160 1 = .ok (.iload_n 1, 1) := by decide +kernel
theorem dJ0_checkIndex_df160_2 : decode cJ0_checkIndex_df160 2 = .ok (.getstatic 1053, 3) := by decide +kernel
theorem dJ0_checkIndex_df160_5 : decode cJ0_checkIndex_df160 5 = .ok (.invokestatic 1059, 3) := by decide +kernel
theorem dJ0_checkIndex_df160_8 : decode cJ0_checkIndex_df160 8 = .ok (.pop, 1) := by decide +kernel
theorem dJ0_checkIndex_df160_9 : decode cJ0_checkIndex_df160 9 = .ok (.return_, 1) := by decide +kernel
theorem dJ1_charAt_3b067_0 : decode cJ1_charAt_3b067 0 = .ok (.iload_n 1, 1) := by decide +kernel
theorem dJ1_charAt_3b067_1 : decode cJ1_charAt_3b067 1 = .ok (.aload_n 0, 1) := by decide +kernel
theorem dJ1_charAt_3b067_2 : decode cJ1_charAt_3b067 2 = .ok (.arraylength, 1) := by decide +kernel
theorem dJ1_charAt_3b067_3 : decode cJ1_charAt_3b067 3 = .ok (.invokestatic 9, 3) := by decide +kernel
theorem dJ1_charAt_3b067_6 : decode cJ1_charAt_3b067 6 = .ok (.aload_n 0, 1) := by decide +kernel
theorem dJ1_charAt_3b067_7 : decode cJ1_charAt_3b067 7 = .ok (.iload_n 1, 1) := by decide +kernel
theorem dJ1_charAt_3b067_8 : decode cJ1_charAt_3b067 8 = .ok (.baload, 1) := by decide +kernel
theorem dJ1_charAt_3b067_9 : decode cJ1_charAt_3b067 9 = .ok (.sipush 255, 3) := by decide +kernel
theorem dJ1_charAt_3b067_12 : decode cJ1_charAt_3b067 12 = .ok (.iand, 1) := by decide +kernel
theorem dJ1_charAt_3b067_13 : decode cJ1_charAt_3b067 13 = .ok (.i2c, 1) := by decide +kernel
theorem dJ1_charAt_3b067_14 : decode cJ1_charAt_3b067 14 = .ok (.ireturn, 1) := by decide +kernel
theorem dJ2_getChar_3b067_0 : decode cJ2_getChar_3b067 0 = .ok (.getstatic 44, 3) := by decide +kernel
theorem dJ2_getChar_3b067_3 : decode cJ2_getChar_3b067 3 = .ok (.ifCond .ne 25, 3) := by decide +kernel
theorem dJ2_getChar_3b067_6 : decode cJ2_getChar_3b067 6 = .ok (.iload_n 1, 1) := by decide +kernel
theorem dJ2_getChar_3b067_7 : decode cJ2_getChar_3b067 7 = .ok (.ifCond .lt 11, 3) := by decide +kernel
theorem dJ2_getChar_3b067_10 : decode cJ2_getChar_3b067 10 = .ok (.iload_n 1, 1) := by decide +kernel
theorem dJ2_getChar_3b067_11 : decode cJ2_getChar_3b067 11 = .ok (.aload_n 0, 1) := by decide +kernel
theorem dJ2_getChar_3b067_12 : decode cJ2_getChar_3b067 12 = .ok (.invokestatic 48, 3) := by decide +kernel
theorem dJ2_getChar_3b067_15 : decode cJ2_getChar_3b067 15 = .ok (.if_icmp .lt 13, 3) := by decide +kernel
theorem dJ2_getChar_3b067_18 : decode cJ2_getChar_3b067 18 = .ok (.new 52, 3) := by decide +kernel
theorem dJ2_getChar_3b067_21 : decode cJ2_getChar_3b067 21 = .ok (.dup, 1) := by decide +kernel
theorem dJ2_getChar_3b067_22 : decode cJ2_getChar_3b067 22 = .ok (.ldc 54, 2) := by decide +kernel
theorem dJ2_getChar_3b067_24 : decode cJ2_getChar_3b067 24 = .ok (.invokespecial 56, 3) := by decide +kernel
theorem dJ2_getChar_3b067_27 : decode cJ2_getChar_3b067 27 = .ok (.athrow, 1) := by decide +kernel
theorem dJ2_getChar_3b067_28 : decode cJ2_getChar_3b067 28 = .ok (.iload_n 1, 1) := by decide +kernel
theorem dJ2_getChar_3b067_29 : decode cJ2_getChar_3b067 29 = .ok (.iconst 1, 1) := by decide +kernel
theorem dJ2_getChar_3b067_30 : decode cJ2_getChar_3b067 30 = .ok (.ishl, 1) := by decide +kernel
theorem dJ2_getChar_3b067_31 : decode cJ2_getChar_3b067 31 = .ok (.istore_n 1, 1) := by decide +kernel
theorem dJ2_getChar_3b067_32 : decode cJ2_getChar_3b067 32 = .ok (.aload_n 0, 1) := by decide +kernel
theorem dJ2_getChar_3b067_33 : decode cJ2_getChar_3b067 33 = .ok (.iload_n 1, 1) := by decide +kernel
theorem dJ2_getChar_3b067_34 : decode cJ2_getChar_3b067 34 = .ok (.iinc 1 1, 3) := by decide +kernel
theorem dJ2_getChar_3b067_37 : decode cJ2_getChar_3b067 37 = .ok (.baload, 1) := by decide +kernel
theorem dJ2_getChar_3b067_38 : decode cJ2_getChar_3b067 38 = .ok (.sipush 255, 3) := by decide +kernel
theorem dJ2_getChar_3b067_41 : decode cJ2_getChar_3b067 41 = .ok (.iand, 1) := by decide +kernel
theorem dJ2_getChar_3b067_42 : decode cJ2_getChar_3b067 42 = .ok (.getstatic 59, 3) := by decide +kernel
theorem dJ2_getChar_3b067_45 : decode cJ2_getChar_3b067 45 = .ok (.ishl, 1) := by decide +kernel
theorem dJ2_getChar_3b067_46 : decode cJ2_getChar_3b067 46 = .ok (.aload_n 0, 1) := by decide +kernel
theorem dJ2_getChar_3b067_47 : decode cJ2_getChar_3b067 47 = .ok (.iload_n 1, 1) := by decide +kernel
theorem dJ2_getChar_3b067_48 : decode cJ2_getChar_3b067 48 = .ok (.baload, 1) := by decide +kernel
theorem dJ2_getChar_3b067_49 : decode cJ2_getChar_3b067 49 = .ok (.sipush 255, 3) := by decide +kernel
theorem dJ2_getChar_3b067_52 : decode cJ2_getChar_3b067 52 = .ok (.iand, 1) := by decide +kernel
theorem dJ2_getChar_3b067_53 : decode cJ2_getChar_3b067 53 = .ok (.getstatic 63, 3) := by decide +kernel
theorem dJ2_getChar_3b067_56 : decode cJ2_getChar_3b067 56 = .ok (.ishl, 1) := by decide +kernel
theorem dJ2_getChar_3b067_57 : decode cJ2_getChar_3b067 57 = .ok (.ior, 1) := by decide +kernel
theorem dJ2_getChar_3b067_58 : decode cJ2_getChar_3b067 58 = .ok (.i2c, 1) := by decide +kernel
theorem dJ2_getChar_3b067_59 : decode cJ2_getChar_3b067 59 = .ok (.ireturn, 1) := by decide +kernel
theorem dJ2_length_9d52b_0 : decode cJ2_length_9d52b 0 = .ok (.aload_n 0, 1) := by decide +kernel
theorem dJ2_length_9d52b_1 : decode cJ2_length_9d52b 1 = .ok (.arraylength, 1) := by decide +kernel
theorem dJ2_length_9d52b_2 : decode cJ2_length_9d52b 2 = .ok (.iconst 1, 1) := by decide +kernel
theorem dJ2_length_9d52b_3 : decode cJ2_length_9d52b 3 = .ok (.ishr, 1) := by decide +kernel
theorem dJ2_length_9d52b_4 : decode cJ2_length_9d52b 4 = .ok (.ireturn, 1) := by decide +kernel
theorem dJ2_charAt_3b067_0 : decode cJ2_charAt_3b067 0 = .ok (.iload_n 1, 1) := by decide +kernel
theorem dJ2_charAt_3b067_1 : decode cJ2_charAt_3b067 1 = .ok (.aload_n 0, 1) := by decide +kernel
theorem dJ2_charAt_3b067_2 : decode cJ2_charAt_3b067 2 = .ok (.invokestatic 67, 3) := by decide +kernel
theorem dJ2_charAt_3b067_5 : decode cJ2_charAt_3b067 5 = .ok (.aload_n 0, 1) := by decide +kernel
theorem dJ2_charAt_3b067_6 : decode cJ2_charAt_3b067 6 = .ok (.iload_n 1, 1) := by decide +kernel
theorem dJ2_charAt_3b067_7 : decode cJ2_charAt_3b067 7 = .ok (.invokestatic 71, 3) := by decide +kernel
theorem dJ2_charAt_3b067_10 : decode cJ2_charAt_3b067 10 = .ok (.ireturn, 1) := by decide +kernel
theorem dJ2_checkIndex_2214a_0 : decode cJ2_checkIndex_2214a 0 = .ok (.iload_n 0, 1) := by decide +kernel
theorem dJ2_checkIndex_2214a_1 : decode cJ2_checkIndex_2214a 1 = .ok (.aload_n 1, 1) := by decide +kernel
theorem dJ2_checkIndex_2214a_2 : decode cJ2_checkIndex_2214a 2 = .ok (.invokestatic 48, 3) := by decide +kernel
theorem dJ2_checkIndex_2214a_5 : decode cJ2_checkIndex_2214a 5 = .ok (.invokestatic 414, 3) := by decide +kernel
theorem dJ2_checkIndex_2214a_8 : decode cJ2_checkIndex_2214a 8 = .ok (.return_, 1) := by decide +kernel
theorem dJ3_checkIndex_8e157_0 : decode cJ3_checkIndex_8e157 0 = .ok (.iload_n 0, 1) := by decide +kernel
theorem dJ3_checkIndex_8e157_1 : decode cJ3_checkIndex_8e157 1 = .ok (.ifCond .lt 8, 3) := by decide +kernel
theorem dJ3_checkIndex_8e157_4 : decode cJ3_checkIndex_8e157 4 = .ok (.iload_n 0, 1) := by decide +kernel
theorem dJ3_checkIndex_8e157_5 : decode cJ3_checkIndex_8e157 5 = .ok (.iload_n 1, 1) := by decide +kernel
theorem dJ3_checkIndex_8e157_6 : decode cJ3_checkIndex_8e157 6 = .ok (.if_icmp .lt 10, 3) := by decide +kernel
theorem dJ3_checkIndex_8e157_9 : decode cJ3_checkIndex_8e157 9 = .ok (.aload_n 2, 1) := by decide +kernel
theorem dJ3_checkIndex_8e157_10 : decode cJ3_checkIndex_8e157 10 = .ok (.iload_n 0, 1) := by decide +kernel
theorem dJ3_checkIndex_8e157_11 : decode cJ3_checkIndex_8e157 11 = .ok (.iload_n 1, 1) := by decide +kernel
theorem dJ3_checkIndex_8e157_12 : decode cJ3_checkIndex_8e157 12 = .ok (.invokestatic 95, 3) := by decide +kernel
theorem dJ3_checkIndex_8e157_15 : decode cJ3_checkIndex_8e157 15 = .ok (.athrow, 1) := by decide +kernel
theorem dJ3_checkIndex_8e157_16 : decode cJ3_checkIndex_8e157 16 = .ok (.iload_n 0, 1) := by decide +kernel
theorem dJ3_checkIndex_8e157_17 : decode cJ3_checkIndex_8e157 17 = .ok (.ireturn, 1) := by decide +kernel
end
section
theorem dX6_init_0 : decode cX6_init 0 = .ok (.aload_n 0, 1) := by decide +kernel
theorem dX6_init_1 : decode cX6_init 1 = .ok (.invokespecial 1, 3) := by decide +kernel
theorem dX6_init_4 : decode cX6_init 4 = .ok (.aload_n 0, 1) := by decide +kernel
theorem dX6_init_5 : decode cX6_init 5 = .ok (.sipush 180, 3) := by decide +kernel
theorem dX6_init_8 : decode cX6_init 8 = .ok (.newarray .int, 2) := by decide +kernel
theorem dX6_init_10 : decode cX6_init 10 = .ok (.putfield 7, 3) := by decide +kernel
theorem dX6_init_13 : decode cX6_init 13 = .ok (.aload_n 0, 1) := by decide +kernel
theorem dX6_init_14 : decode cX6_init 14 = .ok (.bipush 9, 2) := by decide +kernel
theorem dX6_init_16 : decode cX6_init 16 = .ok (.newarray .int, 2) := by decide +kernel
theorem dX6_init_18 : decode cX6_init 18 = .ok (.dup, 1) := by decide +kernel
theorem dX6_init_19 : decode cX6_init 19 = .ok (.iconst 0, 1) := by decide +kernel
theorem dX6_init_20 : decode cX6_init 20 = .ok (.iconst 3, 1) := by decide +kernel
theorem dX6_init_21 : decode cX6_init 21 = .ok (.iastore, 1) := by decide +kernel
theorem dX6_init_22 : decode cX6_init 22 = .ok (.dup, 1) := by decide +kernel
theorem dX6_init_23 : decode cX6_init 23 = .ok (.iconst 1, 1) := by decide +kernel
theorem dX6_init_24 : decode cX6_init 24 = .ok (.iconst 1, 1) := by decide +kernel
theorem dX6_init_25 : decode cX6_init 25 = .ok (.iastore, 1) := by decide +kernel
theorem dX6_init_26 : decode cX6_init 26 = .ok (.dup, 1) := by decide +kernel
theorem dX6_init_27 : decode cX6_init 27 = .ok (.iconst 2, 1) := by decide +kernel
theorem dX6_init_28 : decode cX6_init 28 = .ok (.bipush 60, 2) := by decide +kernel
theorem dX6_init_30 : decode cX6_init 30 = .ok (.iastore, 1) := by decide +kernel
theorem dX6_init_31 : decode cX6_init 31 = .ok (.dup, 1) := by decide +kernel
theorem dX6_init_32 : decode cX6_init 32 = .ok (.iconst 3, 1) := by decide +kernel
theorem dX6_init_33 : decode cX6_init 33 = .ok (.iconst 5, 1) := by decide +kernel
theorem dX6_init_34 : decode cX6_init 34 = .ok (.iastore, 1) := by decide +kernel
theorem dX6_init_35 : decode cX6_init 35 = .ok (.dup, 1) := by decide +kernel
theorem dX6_init_36 : decode cX6_init 36 = .ok (.iconst 4, 1) := by decide +kernel
theorem dX6_init_37 : decode cX6_init 37 = .ok (.iconst 2, 1) := by decide +kernel
theorem dX6_init_38 : decode cX6_init 38 = .ok (.iastore, 1) := by decide +kernel
theorem dX6_init_39 : decode cX6_init 39 = .ok (.dup, 1) := by decide +kernel
theorem dX6_init_40 : decode cX6_init 40 = .ok (.iconst 5, 1) := by decide +kernel
theorem dX6_init_41 : decode cX6_init 41 = .ok (.iconst 1, 1) := by decide +kernel
theorem dX6_init_42 : decode cX6_init 42 = .ok (.iastore, 1) := by decide +kernel
theorem dX6_init_43 : decode cX6_init 43 = .ok (.dup, 1) := by decide +kernel
theorem dX6_init_44 : decode cX6_init 44 = .ok (.bipush 6, 2) := by decide +kernel
theorem dX6_init_46 : decode cX6_init 46 = .ok (.bipush 80, 2) := by decide +kernel
theorem dX6_init_48 : decode cX6_init 48 = .ok (.iastore, 1) := by decide +kernel
theorem dX6_init_49 : decode cX6_init 49 = .ok (.dup, 1) := by decide +kernel
theorem dX6_init_50 : decode cX6_init 50 = .ok (.bipush 7, 2) := by decide +kernel
theorem dX6_init_52 : decode cX6_init 52 = .ok (.bipush 30, 2) := by decide +kernel
theorem dX6_init_54 : decode cX6_init 54 = .ok (.iastore, 1) := by decide +kernel
theorem dX6_init_55 : decode cX6_init 55 = .ok (.dup, 1) := by decide +kernel
theorem dX6_init_56 : decode cX6_init 56 = .ok (.bipush 8, 2) := by decide +kernel
theorem dX6_init_58 : decode cX6_init 58 = .ok (.iconst 4, 1) := by decide +kernel
theorem dX6_init_59 : decode cX6_init 59 = .ok (.iastore, 1) := by decide +kernel
theorem dX6_init_60 : decode cX6_init 60 = .ok (.putfield 13, 3) := by decide +kernel
theorem dX6_init_63 : decode cX6_init 63 = .ok (.aload_n 0, 1) := by decide +kernel
theorem dX6_init_64 : decode cX6_init 64 = .ok (.bipush 9, 2) := by decide +kernel
theorem dX6_init_66 : decode cX6_init 66 = .ok (.newarray .int, 2) := by decide +kernel
theorem dX6_init_68 : decode cX6_init 68 = .ok (.dup, 1) := by decide +kernel
theorem dX6_init_69 : decode cX6_init 69 = .ok (.iconst 0, 1) := by decide +kernel
theorem dX6_init_70 : decode cX6_init 70 = .ok (.iconst 3, 1) := by decide +kernel
theorem dX6_init_71 : decode cX6_init 71 = .ok (.iastore, 1) := by decide +kernel
theorem dX6_init_72 : decode cX6_init 72 = .ok (.dup, 1) := by decide +kernel
theorem dX6_init_73 : decode cX6_init 73 = .ok (.iconst 1, 1) := by decide +kernel
theorem dX6_init_74 : decode cX6_init 74 = .ok (.iconst 1, 1) := by decide +kernel
theorem dX6_init_75 : decode cX6_init 75 = .ok (.iastore, 1) := by decide +kernel
theorem dX6_init_76 : decode cX6_init 76 = .ok (.dup, 1) := by decide +kernel
theorem dX6_init_77 : decode cX6_init 77 = .ok (.iconst 2, 1) := by decide +kernel
theorem dX6_init_78 : decode cX6_init 78 = .ok (.bipush 60, 2) := by decide +kernel
theorem dX6_init_80 : decode cX6_init 80 = .ok (.iastore, 1) := by decide +kernel
theorem dX6_init_81 : decode cX6_init 81 = .ok (.dup, 1) := by decide +kernel
theorem dX6_init_82 : decode cX6_init 82 = .ok (.iconst 3, 1) := by decide +kernel
theorem dX6_init_83 : decode cX6_init 83 = .ok (.iconst 5, 1) := by decide +kernel
theorem dX6_init_84 : decode cX6_init 84 = .ok (.iastore, 1) := by decide +kernel
theorem dX6_init_85 : decode cX6_init 85 = .ok (.dup, 1) := by decide +kernel
theorem dX6_init_86 : decode cX6_init 86 = .ok (.iconst 4, 1) := by decide +kernel
theorem dX6_init_87 : decode cX6_init 87 = .ok (.iconst 2, 1) := by decide +kernel
theorem dX6_init_88 : decode cX6_init 88 = .ok (.iastore, 1) := by decide +kernel
theorem dX6_init_89 : decode cX6_init 89 = .ok (.dup, 1) := by decide +kernel
theorem dX6_init_90 : decode cX6_init 90 = .ok (.iconst 5, 1) := by decide +kernel
theorem dX6_init_91 : decode cX6_init 91 = .ok (.iconst 1, 1) := by decide +kernel
theorem dX6_init_92 : decode cX6_init 92 = .ok (.iastore, 1) := by decide +kernel
theorem dX6_init_93 : decode cX6_init 93 = .ok (.dup, 1) := by decide +kernel
theorem dX6_init_94 : decode cX6_init 94 = .ok (.bipush 6, 2) := by decide +kernel
theorem dX6_init_96 : decode cX6_init 96 = .ok (.bipush 80, 2) := by decide +kernel
theorem dX6_init_98 : decode cX6_init 98 = .ok (.iastore, 1) := by decide +kernel
theorem dX6_init_99 : decode cX6_init 99 = .ok (.dup, 1) := by decide +kernel
theorem dX6_init_100 : decode cX6_init 100 = .ok (.bipush 7, 2) := by decide +kernel
theorem dX6_init_102 : decode cX6_init 102 = .ok (.bipush 30, 2) := by decide +kernel
theorem dX6_init_104 : decode cX6_init 104 = .ok (.iastore, 1) := by decide +kernel
theorem dX6_init_105 : decode cX6_init 105 = .ok (.dup, 1) := by decide +kernel
theorem dX6_init_106 : decode cX6_init 106 = .ok (.bipush 8, 2) := by decide +kernel
theorem dX6_init_108 : decode cX6_init 108 = .ok (.iconst 4, 1) := by decide +kernel
theorem dX6_init_109 : decode cX6_init 109 = .ok (.iastore, 1) := by decide +kernel
theorem dX6_init_110 : decode cX6_init 110 = .ok (.putfield 16, 3) := by decide +kernel
theorem dX6_init_113 : decode cX6_init 113 = .ok (.aload_n 0, 1) := by decide +kernel
theorem dX6_init_114 : decode cX6_init 114 = .ok (.bipush 9, 2) := by decide +kernel
theorem dX6_init_116 : decode cX6_init 116 = .ok (.newarray .int, 2) := by decide +kernel
theorem dX6_init_118 : decode cX6_init 118 = .ok (.dup, 1) := by decide +kernel
theorem dX6_init_119 : decode cX6_init 119 = .ok (.iconst 0, 1) := by decide +kernel
theorem dX6_init_120 : decode cX6_init 120 = .ok (.iconst 1, 1) := by decide +kernel
theorem dX6_init_121 : decode cX6_init 121 = .ok (.iastore, 1) := by decide +kernel
theorem dX6_init_122 : decode cX6_init 122 = .ok (.dup, 1) := by decide +kernel
theorem dX6_init_123 : decode cX6_init 123 = .ok (.iconst 1, 1) := by decide +kernel
theorem dX6_init_124 : decode cX6_init 124 = .ok (.iconst 0, 1) := by decide +kernel
theorem dX6_init_125 : decode cX6_init 125 = .ok (.iastore, 1) := by decide +kernel
theorem dX6_init_126 : decode cX6_init 126 = .ok (.dup, 1) := by decide +kernel
theorem dX6_init_127 : decode cX6_init 127 = .ok (.iconst 2, 1) := by decide +kernel
theorem dX6_init_128 : decode cX6_init 128 = .ok (.iconst 0, 1) := by decide +kernel
theorem dX6_init_129 : decode cX6_init 129 = .ok (.iastore, 1) := by decide +kernel
theorem dX6_init_130 : decode cX6_init 130 = .ok (.dup, 1) := by decide +kernel
theorem dX6_init_131 : decode cX6_init 131 = .ok (.iconst 3, 1) := by decide +kernel
theorem dX6_init_132 : decode cX6_init 132 = .ok (.iconst 0, 1) := by decide +kernel
theorem dX6_init_133 : decode cX6_init 133 = .ok (.iastore, 1) := by decide +kernel
theorem dX6_init_134 : decode cX6_init 134 = .ok (.dup, 1) := by decide +kernel
theorem dX6_init_135 : decode cX6_init 135 = .ok (.iconst 4, 1) := by decide +kernel
theorem dX6_init_136 : decode cX6_init 136 = .ok (.iconst 0, 1) := by decide +kernel
theorem dX6_init_137 : decode cX6_init 137 = .ok (.iastore, 1) := by decide +kernel
theorem dX6_init_138 : decode cX6_init 138 = .ok (.dup, 1) := by decide +kernel
theorem dX6_init_139 : decode cX6_init 139 = .ok (.iconst 5, 1) := by decide +kernel
theorem dX6_init_140 : decode cX6_init 140 = .ok (.iconst 0, 1) := by decide +kernel
theorem dX6_init_141 : decode cX6_init 141 = .ok (.iastore, 1) := by decide +kernel
theorem dX6_init_142 : decode cX6_init 142 = .ok (.dup, 1) := by decide +kernel
theorem dX6_init_143 : decode cX6_init 143 = .ok (.bipush 6, 2) := by decide +kernel
theorem dX6_init_145 : decode cX6_init 145 = .ok (.iconst 1, 1) := by decide +kernel
theorem dX6_init_146 : decode cX6_init 146 = .ok (.iastore, 1) := by decide +kernel
theorem dX6_init_147 : decode cX6_init 147 = .ok (.dup, 1) := by decide +kernel
theorem dX6_init_148 : decode cX6_init 148 = .ok (.bipush 7, 2) := by decide +kernel
theorem dX6_init_150 : decode cX6_init 150 = .ok (.iconst 0, 1) := by decide +kernel
theorem dX6_init_151 : decode cX6_init 151 = .ok (.iastore, 1) := by decide +kernel
theorem dX6_init_152 : decode cX6_init 152 = .ok (.dup, 1) := by decide +kernel
theorem dX6_init_153 : decode cX6_init 153 = .ok (.bipush 8, 2) := by decide +kernel
theorem dX6_init_155 : decode cX6_init 155 = .ok (.iconst 1, 1) := by decide +kernel
theorem dX6_init_156 : decode cX6_init 156 = .ok (.iastore, 1) := by decide +kernel
theorem dX6_init_157 : decode cX6_init 157 = .ok (.putfield 19, 3) := by decide +kernel
theorem dX6_init_160 : decode cX6_init 160 = .ok (.aload_n 0, 1) := by decide +kernel
theorem dX6_init_161 : decode cX6_init 161 = .ok (.bipush 9, 2) := by decide +kernel
theorem dX6_init_163 : decode cX6_init 163 = .ok (.newarray .int, 2) := by decide +kernel
theorem dX6_init_165 : decode cX6_init 165 = .ok (.dup, 1) := by decide +kernel
theorem dX6_init_166 : decode cX6_init 166 = .ok (.iconst 0, 1) := by decide +kernel
theorem dX6_init_167 : decode cX6_init 167 = .ok (.bipush 9, 2) := by decide +kernel
theorem dX6_init_169 : decode cX6_init 169 = .ok (.iastore, 1) := by decide +kernel
theorem dX6_init_170 : decode cX6_init 170 = .ok (.dup, 1) := by decide +kernel
theorem dX6_init_171 : decode cX6_init 171 = .ok (.iconst 1, 1) := by decide +kernel
theorem dX6_init_172 : decode cX6_init 172 = .ok (.bipush 9, 2) := by decide +kernel
theorem dX6_init_174 : decode cX6_init 174 = .ok (.iastore, 1) := by decide +kernel
theorem dX6_init_175 : decode cX6_init 175 = .ok (.dup, 1) := by decide +kernel
theorem dX6_init_176 : decode cX6_init 176 = .ok (.iconst 2, 1) := by decide +kernel
theorem dX6_init_177 : decode cX6_init 177 = .ok (.sipush 200, 3) := by decide +kernel
theorem dX6_init_180 : decode cX6_init 180 = .ok (.iastore, 1) := by decide +kernel
theorem dX6_init_181 : decode cX6_init 181 = .ok (.dup, 1) := by decide +kernel
theorem dX6_init_182 : decode cX6_init 182 = .ok (.iconst 3, 1) := by decide +kernel
theorem dX6_init_183 : decode cX6_init 183 = .ok (.bipush 50, 2) := by decide +kernel
theorem dX6_init_185 : decode cX6_init 185 = .ok (.iastore, 1) := by decide +kernel
theorem dX6_init_186 : decode cX6_init 186 = .ok (.dup, 1) := by decide +kernel
theorem dX6_init_187 : decode cX6_init 187 = .ok (.iconst 4, 1) := by decide +kernel
theorem dX6_init_188 : decode cX6_init 188 = .ok (.bipush 9, 2) := by decide +kernel
theorem dX6_init_190 : decode cX6_init 190 = .ok (.iastore, 1) := by decide +kernel
theorem dX6_init_191 : decode cX6_init 191 = .ok (.dup, 1) := by decide +kernel
theorem dX6_init_192 : decode cX6_init 192 = .ok (.iconst 5, 1) := by decide +kernel
theorem dX6_init_193 : decode cX6_init 193 = .ok (.bipush 9, 2) := by decide +kernel
theorem dX6_init_195 : decode cX6_init 195 = .ok (.iastore, 1) := by decide +kernel
theorem dX6_init_196 : decode cX6_init 196 = .ok (.dup, 1) := by decide +kernel
theorem dX6_init_197 : decode cX6_init 197 = .ok (.bipush 6, 2) := by decide +kernel
theorem dX6_init_199 : decode cX6_init 199 = .ok (.bipush 101, 2) := by decide +kernel
theorem dX6_init_201 : decode cX6_init 201 = .ok (.iastore, 1) := by decide +kernel
theorem dX6_init_202 : decode cX6_init 202 = .ok (.dup, 1) := by decide +kernel
theorem dX6_init_203 : decode cX6_init 203 = .ok (.bipush 7, 2) := by decide +kernel
theorem dX6_init_205 : decode cX6_init 205 = .ok (.bipush 100, 2) := by decide +kernel
theorem dX6_init_207 : decode cX6_init 207 = .ok (.iastore, 1) := by decide +kernel
theorem dX6_init_208 : decode cX6_init 208 = .ok (.dup, 1) := by decide +kernel
theorem dX6_init_209 : decode cX6_init 209 = .ok (.bipush 8, 2) := by decide +kernel
theorem dX6_init_211 : decode cX6_init 211 = .ok (.bipush 20, 2) := by decide +kernel
theorem dX6_init_213 : decode cX6_init 213 = .ok (.iastore, 1) := by decide +kernel
theorem dX6_init_214 : decode cX6_init 214 = .ok (.putfield 22, 3) := by decide +kernel
theorem dX6_init_217 : decode cX6_init 217 = .ok (.aload_n 0, 1) := by decide +kernel
theorem dX6_init_218 : decode cX6_init 218 = .ok (.bipush 9, 2) := by decide +kernel
theorem dX6_init_220 : decode cX6_init 220 = .ok (.newarray .int, 2) := by decide +kernel
theorem dX6_init_222 : decode cX6_init 222 = .ok (.dup, 1) := by decide +kernel
theorem dX6_init_223 : decode cX6_init 223 = .ok (.iconst 0, 1) := by decide +kernel
theorem dX6_init_224 : decode cX6_init 224 = .ok (.iconst 3, 1) := by decide +kernel
theorem dX6_init_225 : decode cX6_init 225 = .ok (.iastore, 1) := by decide +kernel
theorem dX6_init_226 : decode cX6_init 226 = .ok (.dup, 1) := by decide +kernel
theorem dX6_init_227 : decode cX6_init 227 = .ok (.iconst 1, 1) := by decide +kernel
theorem dX6_init_228 : decode cX6_init 228 = .ok (.iconst 1, 1) := by decide +kernel
theorem dX6_init_229 : decode cX6_init 229 = .ok (.iastore, 1) := by decide +kernel
theorem dX6_init_230 : decode cX6_init 230 = .ok (.dup, 1) := by decide +kernel
theorem dX6_init_231 : decode cX6_init 231 = .ok (.iconst 2, 1) := by decide +kernel
theorem dX6_init_232 : decode cX6_init 232 = .ok (.bipush 60, 2) := by decide +kernel
theorem dX6_init_234 : decode cX6_init 234 = .ok (.iastore, 1) := by decide +kernel
theorem dX6_init_235 : decode cX6_init 235 = .ok (.dup, 1) := by decide +kernel
theorem dX6_init_236 : decode cX6_init 236 = .ok (.iconst 3, 1) := by decide +kernel
theorem dX6_init_237 : decode cX6_init 237 = .ok (.iconst 5, 1) := by decide +kernel
theorem dX6_init_238 : decode cX6_init 238 = .ok (.iastore, 1) := by decide +kernel
theorem dX6_init_239 : decode cX6_init 239 = .ok (.dup, 1) := by decide +kernel
theorem dX6_init_240 : decode cX6_init 240 = .ok (.iconst 4, 1) := by decide +kernel
theorem dX6_init_241 : decode cX6_init 241 = .ok (.iconst 2, 1) := by decide +kernel
theorem dX6_init_242 : decode cX6_init 242 = .ok (.iastore, 1) := by decide +kernel
theorem dX6_init_243 : decode cX6_init 243 = .ok (.dup, 1) := by decide +kernel
theorem dX6_init_244 : decode cX6_init 244 = .ok (.iconst 5, 1) := by decide +kernel
theorem dX6_init_245 : decode cX6_init 245 = .ok (.iconst 1, 1) := by decide +kernel
theorem dX6_init_246 : decode cX6_init 246 = .ok (.iastore, 1) := by decide +kernel
theorem dX6_init_247 : decode cX6_init 247 = .ok (.dup, 1) := by decide +kernel
theorem dX6_init_248 : decode cX6_init 248 = .ok (.bipush 6, 2) := by decide +kernel
theorem dX6_init_250 : decode cX6_init 250 = .ok (.bipush 80, 2) := by decide +kernel
theorem dX6_init_252 : decode cX6_init 252 = .ok (.iastore, 1) := by decide +kernel
theorem dX6_init_253 : decode cX6_init 253 = .ok (.dup, 1) := by decide +kernel
theorem dX6_init_254 : decode cX6_init 254 = .ok (.bipush 7, 2) := by decide +kernel
theorem dX6_init_256 : decode cX6_init 256 = .ok (.bipush 30, 2) := by decide +kernel
theorem dX6_init_258 : decode cX6_init 258 = .ok (.iastore, 1) := by decide +kernel
theorem dX6_init_259 : decode cX6_init 259 = .ok (.dup, 1) := by decide +kernel
theorem dX6_init_260 : decode cX6_init 260 = .ok (.bipush 8, 2) := by decide +kernel
theorem dX6_init_262 : decode cX6_init 262 = .ok (.iconst 4, 1) := by decide +kernel
theorem dX6_init_263 : decode cX6_init 263 = .ok (.iastore, 1) := by decide +kernel
theorem dX6_init_264 : decode cX6_init 264 = .ok (.putfield 25, 3) := by decide +kernel
theorem dX6_init_267 : decode cX6_init 267 = .ok (.aload_n 0, 1) := by decide +kernel
theorem dX6_init_268 : decode cX6_init 268 = .ok (.bipush 20, 2) := by decide +kernel
theorem dX6_init_270 : decode cX6_init 270 = .ok (.newarray .int, 2) := by decide +kernel
theorem dX6_init_272 : decode cX6_init 272 = .ok (.putfield 28, 3) := by decide +kernel
theorem dX6_init_275 : decode cX6_init 275 = .ok (.aload_n 0, 1) := by decide +kernel
theorem dX6_init_276 : decode cX6_init 276 = .ok (.bipush 20, 2) := by decide +kernel
theorem dX6_init_278 : decode cX6_init 278 = .ok (.newarray .int, 2) := by decide +kernel
theorem dX6_init_280 : decode cX6_init 280 = .ok (.putfield 31, 3) := by decide +kernel
theorem dX6_init_283 : decode cX6_init 283 = .ok (.aload_n 0, 1) := by decide +kernel
theorem dX6_init_284 : decode cX6_init 284 = .ok (.bipush 20, 2) := by decide +kernel
theorem dX6_init_286 : decode cX6_init 286 = .ok (.newarray .int, 2) := by decide +kernel
theorem dX6_init_288 : decode cX6_init 288 = .ok (.putfield 34, 3) := by decide +kernel
theorem dX6_init_291 : decode cX6_init 291 = .ok (.aload_n 0, 1) := by decide +kernel
theorem dX6_init_292 : decode cX6_init 292 = .ok (.bipush 20, 2) := by decide +kernel
theorem dX6_init_294 : decode cX6_init 294 = .ok (.newarray .int, 2) := by decide +kernel
theorem dX6_init_296 : decode cX6_init 296 = .ok (.putfield 37, 3) := by decide +kernel
theorem dX6_init_299 : decode cX6_init 299 = .ok (.aload_n 0, 1) := by decide +kernel
theorem dX6_init_300 : decode cX6_init 300 = .ok (.bipush 20, 2) := by decide +kernel
theorem dX6_init_302 : decode cX6_init 302 = .ok (.newarray .int, 2) := by decide +kernel
theorem dX6_init_304 : decode cX6_init 304 = .ok (.putfield 40, 3) := by decide +kernel
theorem dX6_init_307 : decode cX6_init 307 = .ok (.aload_n 0, 1) := by decide +kernel
theorem dX6_init_308 : decode cX6_init 308 = .ok (.bipush 20, 2) := by decide +kernel
theorem dX6_init_310 : decode cX6_init 310 = .ok (.newarray .int, 2) := by decide +kernel
theorem dX6_init_312 : decode cX6_init 312 = .ok (.putfield 43, 3) := by decide +kernel
theorem dX6_init_315 : decode cX6_init 315 = .ok (.aload_n 0, 1) := by decide +kernel
theorem dX6_init_316 : decode cX6_init 316 = .ok (.bipush 20, 2) := by decide +kernel
theorem dX6_init_318 : decode cX6_init 318 = .ok (.newarray .int, 2) := by decide +kernel
theorem dX6_init_320 : decode cX6_init 320 = .ok (.putfield 46, 3) := by decide +kernel
theorem dX6_init_323 : decode cX6_init 323 = .ok (.aload_n 0, 1) := by decide +kernel
theorem dX6_init_324 : decode cX6_init 324 = .ok (.bipush 20, 2) := by decide +kernel
theorem dX6_init_326 : decode cX6_init 326 = .ok (.newarray .int, 2) := by decide +kernel
theorem dX6_init_328 : decode cX6_init 328 = .ok (.putfield 49, 3) := by decide +kernel
theorem dX6_init_331 : decode cX6_init 331 = .ok (.aload_n 0, 1) := by decide +kernel
theorem dX6_init_332 : decode cX6_init 332 = .ok (.sipush 2000, 3) := by decide +kernel
theorem dX6_init_335 : decode cX6_init 335 = .ok (.newarray .int, 2) := by decide +kernel
theorem dX6_init_337 : decode cX6_init 337 = .ok (.putfield 52, 3) := by decide +kernel
theorem dX6_init_340 : decode cX6_init 340 = .ok (.aload_n 0, 1) := by decide +kernel
theorem dX6_init_341 : decode cX6_init 341 = .ok (.sipush 2000, 3) := by decide +kernel
theorem dX6_init_344 : decode cX6_init 344 = .ok (.newarray .boolean, 2) := by decide +kernel
theorem dX6_init_346 : decode cX6_init 346 = .ok (.putfield 55, 3) := by decide +kernel
theorem dX6_init_349 : decode cX6_init 349 = .ok (.aload_n 0, 1) := by decide +kernel
theorem dX6_init_350 : decode cX6_init 350 = .ok (.bipush 8, 2) := by decide +kernel
theorem dX6_init_352 : decode cX6_init 352 = .ok (.newarray .int, 2) := by decide +kernel
theorem dX6_init_354 : decode cX6_init 354 = .ok (.putfield 59, 3) := by decide +kernel
theorem dX6_init_357 : decode cX6_init 357 = .ok (.aload_n 0, 1) := by decide +kernel
theorem dX6_init_358 : decode cX6_init 358 = .ok (.bipush 8, 2) := by decide +kernel
theorem dX6_init_360 : decode cX6_init 360 = .ok (.newarray .int, 2) := by decide +kernel
theorem dX6_init_362 : decode cX6_init 362 = .ok (.putfield 62, 3) := by decide +kernel
theorem dX6_init_365 : decode cX6_init 365 = .ok (.aload_n 0, 1) := by decide +kernel
theorem dX6_init_366 : decode cX6_init 366 = .ok (.bipush 8, 2) := by decide +kernel
theorem dX6_init_368 : decode cX6_init 368 = .ok (.newarray .int, 2) := by decide +kernel
theorem dX6_init_370 : decode cX6_init 370 = .ok (.putfield 65, 3) := by decide +kernel
theorem dX6_init_373 : decode cX6_init 373 = .ok (.aload_n 0, 1) := by decide +kernel
theorem dX6_init_374 : decode cX6_init 374 = .ok (.bipush 8, 2) := by decide +kernel
theorem dX6_init_376 : decode cX6_init 376 = .ok (.newarray .int, 2) := by decide +kernel
theorem dX6_init_378 : decode cX6_init 378 = .ok (.putfield 68, 3) := by decide +kernel
theorem dX6_init_381 : decode cX6_init 381 = .ok (.aload_n 0, 1) := by decide +kernel
theorem dX6_init_382 : decode cX6_init 382 = .ok (.bipush 16, 2) := by decide +kernel
theorem dX6_init_384 : decode cX6_init 384 = .ok (.newarray .int, 2) := by decide +kernel
theorem dX6_init_386 : decode cX6_init 386 = .ok (.dup, 1) := by decide +kernel
theorem dX6_init_387 : decode cX6_init 387 = .ok (.iconst 0, 1) := by decide +kernel
theorem dX6_init_388 : decode cX6_init 388 = .ok (.iconst (-1), 1) := by decide +kernel
theorem dX6_init_389 : decode cX6_init 389 = .ok (.iastore, 1) := by decide +kernel
theorem dX6_init_390 : decode cX6_init 390 = .ok (.dup, 1) := by decide +kernel
theorem dX6_init_391 : decode cX6_init 391 = .ok (.iconst 1, 1) := by decide +kernel
theorem dX6_init_392 : decode cX6_init 392 = .ok (.iconst (-1), 1) := by decide +kernel
theorem dX6_init_393 : decode cX6_init 393 = .ok (.iastore, 1) := by decide +kernel
theorem dX6_init_394 : decode cX6_init 394 = .ok (.dup, 1) := by decide +kernel
theorem dX6_init_395 : decode cX6_init 395 = .ok (.iconst 2, 1) := by decide +kernel
theorem dX6_init_396 : decode cX6_init 396 = .ok (.iconst (-1), 1) := by decide +kernel
theorem dX6_init_397 : decode cX6_init 397 = .ok (.iastore, 1) := by decide +kernel
theorem dX6_init_398 : decode cX6_init 398 = .ok (.dup, 1) := by decide +kernel
theorem dX6_init_399 : decode cX6_init 399 = .ok (.iconst 3, 1) := by decide +kernel
theorem dX6_init_400 : decode cX6_init 400 = .ok (.iconst (-1), 1) := by decide +kernel
theorem dX6_init_401 : decode cX6_init 401 = .ok (.iastore, 1) := by decide +kernel
theorem dX6_init_402 : decode cX6_init 402 = .ok (.dup, 1) := by decide +kernel
theorem dX6_init_403 : decode cX6_init 403 = .ok (.iconst 4, 1) := by decide +kernel
theorem dX6_init_404 : decode cX6_init 404 = .ok (.iconst (-1), 1) := by decide +kernel
theorem dX6_init_405 : decode cX6_init 405 = .ok (.iastore, 1) := by decide +kernel
theorem dX6_init_406 : decode cX6_init 406 = .ok (.dup, 1) := by decide +kernel
theorem dX6_init_407 : decode cX6_init 407 = .ok (.iconst 5, 1) := by decide +kernel
theorem dX6_init_408 : decode cX6_init 408 = .ok (.iconst (-1), 1) := by decide +kernel
theorem dX6_init_409 : decode cX6_init 409 = .ok (.iastore, 1) := by decide +kernel
theorem dX6_init_410 : decode cX6_init 410 = .ok (.dup, 1) := by decide +kernel
theorem dX6_init_411 : decode cX6_init 411 = .ok (.bipush 6, 2) := by decide +kernel
theorem dX6_init_413 : decode cX6_init 413 = .ok (.iconst (-1), 1) := by decide +kernel
theorem dX6_init_414 : decode cX6_init 414 = .ok (.iastore, 1) := by decide +kernel
theorem dX6_init_415 : decode cX6_init 415 = .ok (.dup, 1) := by decide +kernel
theorem dX6_init_416 : decode cX6_init 416 = .ok (.bipush 7, 2) := by decide +kernel
theorem dX6_init_418 : decode cX6_init 418 = .ok (.iconst (-1), 1) := by decide +kernel
theorem dX6_init_419 : decode cX6_init 419 = .ok (.iastore, 1) := by decide +kernel
theorem dX6_init_420 : decode cX6_init 420 = .ok (.dup, 1) := by decide +kernel
theorem dX6_init_421 : decode cX6_init 421 = .ok (.bipush 8, 2) := by decide +kernel
theorem dX6_init_423 : decode cX6_init 423 = .ok (.iconst (-1), 1) := by decide +kernel
theorem dX6_init_424 : decode cX6_init 424 = .ok (.iastore, 1) := by decide +kernel
theorem dX6_init_425 : decode cX6_init 425 = .ok (.dup, 1) := by decide +kernel
theorem dX6_init_426 : decode cX6_init 426 = .ok (.bipush 9, 2) := by decide +kernel
theorem dX6_init_428 : decode cX6_init 428 = .ok (.iconst (-1), 1) := by decide +kernel
theorem dX6_init_429 : decode cX6_init 429 = .ok (.iastore, 1) := by decide +kernel
theorem dX6_init_430 : decode cX6_init 430 = .ok (.dup, 1) := by decide +kernel
theorem dX6_init_431 : decode cX6_init 431 = .ok (.bipush 10, 2) := by decide +kernel
theorem dX6_init_433 : decode cX6_init 433 = .ok (.iconst (-1), 1) := by decide +kernel
theorem dX6_init_434 : decode cX6_init 434 = .ok (.iastore, 1) := by decide +kernel
theorem dX6_init_435 : decode cX6_init 435 = .ok (.dup, 1) := by decide +kernel
theorem dX6_init_436 : decode cX6_init 436 = .ok (.bipush 11, 2) := by decide +kernel
theorem dX6_init_438 : decode cX6_init 438 = .ok (.iconst (-1), 1) := by decide +kernel
theorem dX6_init_439 : decode cX6_init 439 = .ok (.iastore, 1) := by decide +kernel
theorem dX6_init_440 : decode cX6_init 440 = .ok (.dup, 1) := by decide +kernel
theorem dX6_init_441 : decode cX6_init 441 = .ok (.bipush 12, 2) := by decide +kernel
theorem dX6_init_443 : decode cX6_init 443 = .ok (.iconst (-1), 1) := by decide +kernel
theorem dX6_init_444 : decode cX6_init 444 = .ok (.iastore, 1) := by decide +kernel
theorem dX6_init_445 : decode cX6_init 445 = .ok (.dup, 1) := by decide +kernel
theorem dX6_init_446 : decode cX6_init 446 = .ok (.bipush 13, 2) := by decide +kernel
theorem dX6_init_448 : decode cX6_init 448 = .ok (.iconst (-1), 1) := by decide +kernel
theorem dX6_init_449 : decode cX6_init 449 = .ok (.iastore, 1) := by decide +kernel
theorem dX6_init_450 : decode cX6_init 450 = .ok (.dup, 1) := by decide +kernel
theorem dX6_init_451 : decode cX6_init 451 = .ok (.bipush 14, 2) := by decide +kernel
theorem dX6_init_453 : decode cX6_init 453 = .ok (.iconst (-1), 1) := by decide +kernel
theorem dX6_init_454 : decode cX6_init 454 = .ok (.iastore, 1) := by decide +kernel
theorem dX6_init_455 : decode cX6_init 455 = .ok (.dup, 1) := by decide +kernel
theorem dX6_init_456 : decode cX6_init 456 = .ok (.bipush 15, 2) := by decide +kernel
theorem dX6_init_458 : decode cX6_init 458 = .ok (.iconst (-1), 1) := by decide +kernel
theorem dX6_init_459 : decode cX6_init 459 = .ok (.iastore, 1) := by decide +kernel
theorem dX6_init_460 : decode cX6_init 460 = .ok (.putfield 71, 3) := by decide +kernel
theorem dX6_init_463 : decode cX6_init 463 = .ok (.aload_n 0, 1) := by decide +kernel
theorem dX6_init_464 : decode cX6_init 464 = .ok (.bipush 16, 2) := by decide +kernel
theorem dX6_init_466 : decode cX6_init 466 = .ok (.newarray .int, 2) := by decide +kernel
theorem dX6_init_468 : decode cX6_init 468 = .ok (.putfield 74, 3) := by decide +kernel
theorem dX6_init_471 : decode cX6_init 471 = .ok (.aload_n 0, 1) := by decide +kernel
theorem dX6_init_472 : decode cX6_init 472 = .ok (.bipush 16, 2) := by decide +kernel
theorem dX6_init_474 : decode cX6_init 474 = .ok (.newarray .int, 2) := by decide +kernel
theorem dX6_init_476 : decode cX6_init 476 = .ok (.putfield 77, 3) := by decide +kernel
theorem dX6_init_479 : decode cX6_init 479 = .ok (.aload_n 0, 1) := by decide +kernel
theorem dX6_init_480 : decode cX6_init 480 = .ok (.bipush 16, 2) := by decide +kernel
theorem dX6_init_482 : decode cX6_init 482 = .ok (.newarray .int, 2) := by decide +kernel
theorem dX6_init_484 : decode cX6_init 484 = .ok (.putfield 80, 3) := by decide +kernel
theorem dX6_init_487 : decode cX6_init 487 = .ok (.aload_n 0, 1) := by decide +kernel
theorem dX6_init_488 : decode cX6_init 488 = .ok (.sipush 320, 3) := by decide +kernel
theorem dX6_init_491 : decode cX6_init 491 = .ok (.newarray .int, 2) := by decide +kernel
theorem dX6_init_493 : decode cX6_init 493 = .ok (.putfield 83, 3) := by decide +kernel
theorem dX6_init_496 : decode cX6_init 496 = .ok (.aload_n 0, 1) := by decide +kernel
theorem dX6_init_497 : decode cX6_init 497 = .ok (.bipush 20, 2) := by decide +kernel
theorem dX6_init_499 : decode cX6_init 499 = .ok (.newarray .int, 2) := by decide +kernel
theorem dX6_init_501 : decode cX6_init 501 = .ok (.putfield 86, 3) := by decide +kernel
theorem dX6_init_504 : decode cX6_init 504 = .ok (.aload_n 0, 1) := by decide +kernel
theorem dX6_init_505 : decode cX6_init 505 = .ok (.bipush 16, 2) := by decide +kernel
theorem dX6_init_507 : decode cX6_init 507 = .ok (.newarray .boolean, 2) := by decide +kernel
theorem dX6_init_509 : decode cX6_init 509 = .ok (.putfield 89, 3) := by decide +kernel
theorem dX6_init_512 : decode cX6_init 512 = .ok (.aload_n 0, 1) := by decide +kernel
theorem dX6_init_513 : decode cX6_init 513 = .ok (.bipush 22, 2) := by decide +kernel
theorem dX6_init_515 : decode cX6_init 515 = .ok (.newarray .int, 2) := by decide +kernel
theorem dX6_init_517 : decode cX6_init 517 = .ok (.putfield 92, 3) := by decide +kernel
theorem dX6_init_520 : decode cX6_init 520 = .ok (.aload_n 0, 1) := by decide +kernel
theorem dX6_init_521 : decode cX6_init 521 = .ok (.bipush 22, 2) := by decide +kernel
theorem dX6_init_523 : decode cX6_init 523 = .ok (.newarray .int, 2) := by decide +kernel
theorem dX6_init_525 : decode cX6_init 525 = .ok (.putfield 95, 3) := by decide +kernel
theorem dX6_init_528 : decode cX6_init 528 = .ok (.aload_n 0, 1) := by decide +kernel
theorem dX6_init_529 : decode cX6_init 529 = .ok (.bipush 22, 2) := by decide +kernel
theorem dX6_init_531 : decode cX6_init 531 = .ok (.newarray .int, 2) := by decide +kernel
theorem dX6_init_533 : decode cX6_init 533 = .ok (.putfield 98, 3) := by decide +kernel
theorem dX6_init_536 : decode cX6_init 536 = .ok (.return_, 1) := by decide +kernel
theorem dX6_thrown_0 : decode cX6_thrown 0 = .ok (.aload_n 0, 1) := by decide +kernel
theorem dX6_thrown_1 : decode cX6_thrown 1 = .ok (.getfield 101, 3) := by decide +kernel
theorem dX6_thrown_4 : decode cX6_thrown 4 = .ok (.ireturn, 1) := by decide +kernel
theorem dX6_refuse_0 : decode cX6_refuse 0 = .ok (.aload_n 0, 1) := by decide +kernel
theorem dX6_refuse_1 : decode cX6_refuse 1 = .ok (.iconst 1, 1) := by decide +kernel
theorem dX6_refuse_2 : decode cX6_refuse 2 = .ok (.putfield 101, 3) := by decide +kernel
theorem dX6_refuse_5 : decode cX6_refuse 5 = .ok (.iconst 0, 1) := by decide +kernel
theorem dX6_refuse_6 : decode cX6_refuse 6 = .ok (.ireturn, 1) := by decide +kernel
theorem dX6_come_0 : decode cX6_come 0 = .ok (.bipush 24, 2) := by decide +kernel
theorem dX6_come_2 : decode cX6_come 2 = .ok (.istore_n 2, 1) := by decide +kernel
theorem dX6_come_3 : decode cX6_come 3 = .ok (.iload_n 2, 1) := by decide +kernel
theorem dX6_come_4 : decode cX6_come 4 = .ok (.ifCond .lt 35, 3) := by decide +kernel
theorem dX6_come_7 : decode cX6_come 7 = .ok (.aload_n 0, 1) := by decide +kernel
theorem dX6_come_8 : decode cX6_come 8 = .ok (.getfield 7, 3) := by decide +kernel
theorem dX6_come_11 : decode cX6_come 11 = .ok (.aload_n 0, 1) := by decide +kernel
theorem dX6_come_12 : decode cX6_come 12 = .ok (.getfield 105, 3) := by decide +kernel
theorem dX6_come_15 : decode cX6_come 15 = .ok (.iload_n 1, 1) := by decide +kernel
theorem dX6_come_16 : decode cX6_come 16 = .ok (.iload_n 2, 1) := by decide +kernel
theorem dX6_come_17 : decode cX6_come 17 = .ok (.iushr, 1) := by decide +kernel
theorem dX6_come_18 : decode cX6_come 18 = .ok (.sipush 255, 3) := by decide +kernel
theorem dX6_come_21 : decode cX6_come 21 = .ok (.iand, 1) := by decide +kernel
theorem dX6_come_22 : decode cX6_come 22 = .ok (.iastore, 1) := by decide +kernel
theorem dX6_come_23 : decode cX6_come 23 = .ok (.aload_n 0, 1) := by decide +kernel
theorem dX6_come_24 : decode cX6_come 24 = .ok (.dup, 1) := by decide +kernel
theorem dX6_come_25 : decode cX6_come 25 = .ok (.getfield 105, 3) := by decide +kernel
theorem dX6_come_28 : decode cX6_come 28 = .ok (.iconst 1, 1) := by decide +kernel
theorem dX6_come_29 : decode cX6_come 29 = .ok (.iadd, 1) := by decide +kernel
theorem dX6_come_30 : decode cX6_come 30 = .ok (.putfield 105, 3) := by decide +kernel
theorem dX6_come_33 : decode cX6_come 33 = .ok (.iinc 2 (-8), 3) := by decide +kernel
theorem dX6_come_36 : decode cX6_come 36 = .ok (.goto (-33), 3) := by decide +kernel
theorem dX6_come_39 : decode cX6_come 39 = .ok (.return_, 1) := by decide +kernel
theorem dX6_feed_0 : decode cX6_feed 0 = .ok (.aload_n 0, 1) := by decide +kernel
theorem dX6_feed_1 : decode cX6_feed 1 = .ok (.iconst 0, 1) := by decide +kernel
theorem dX6_feed_2 : decode cX6_feed 2 = .ok (.putfield 101, 3) := by decide +kernel
theorem dX6_feed_5 : decode cX6_feed 5 = .ok (.aload_n 0, 1) := by decide +kernel
theorem dX6_feed_6 : decode cX6_feed 6 = .ok (.getfield 105, 3) := by decide +kernel
theorem dX6_feed_9 : decode cX6_feed 9 = .ok (.bipush 20, 2) := by decide +kernel
theorem dX6_feed_11 : decode cX6_feed 11 = .ok (.iadd, 1) := by decide +kernel
theorem dX6_feed_12 : decode cX6_feed 12 = .ok (.sipush 180, 3) := by decide +kernel
theorem dX6_feed_15 : decode cX6_feed 15 = .ok (.if_icmp .le 5, 3) := by decide +kernel
theorem dX6_feed_18 : decode cX6_feed 18 = .ok (.iconst (-1), 1) := by decide +kernel
theorem dX6_feed_19 : decode cX6_feed 19 = .ok (.ireturn, 1) := by decide +kernel
theorem dX6_feed_20 : decode cX6_feed 20 = .ok (.aload_n 0, 1) := by decide +kernel
theorem dX6_feed_21 : decode cX6_feed 21 = .ok (.iload_n 1, 1) := by decide +kernel
theorem dX6_feed_22 : decode cX6_feed 22 = .ok (.invokevirtual 108, 3) := by decide +kernel
theorem dX6_feed_25 : decode cX6_feed 25 = .ok (.aload_n 0, 1) := by decide +kernel
theorem dX6_feed_26 : decode cX6_feed 26 = .ok (.iload_n 2, 1) := by decide +kernel
theorem dX6_feed_27 : decode cX6_feed 27 = .ok (.invokevirtual 108, 3) := by decide +kernel
theorem dX6_feed_30 : decode cX6_feed 30 = .ok (.aload_n 0, 1) := by decide +kernel
theorem dX6_feed_31 : decode cX6_feed 31 = .ok (.iload_n 3, 1) := by decide +kernel
theorem dX6_feed_32 : decode cX6_feed 32 = .ok (.invokevirtual 108, 3) := by decide +kernel
theorem dX6_feed_35 : decode cX6_feed 35 = .ok (.aload_n 0, 1) := by decide +kernel
theorem dX6_feed_36 : decode cX6_feed 36 = .ok (.iload 4, 2) := by decide +kernel
theorem dX6_feed_38 : decode cX6_feed 38 = .ok (.invokevirtual 108, 3) := by decide +kernel
theorem dX6_feed_41 : decode cX6_feed 41 = .ok (.aload_n 0, 1) := by decide +kernel
theorem dX6_feed_42 : decode cX6_feed 42 = .ok (.iload 5, 2) := by decide +kernel
theorem dX6_feed_44 : decode cX6_feed 44 = .ok (.invokevirtual 108, 3) := by decide +kernel
theorem dX6_feed_47 : decode cX6_feed 47 = .ok (.aload_n 0, 1) := by decide +kernel
theorem dX6_feed_48 : decode cX6_feed 48 = .ok (.getfield 105, 3) := by decide +kernel
theorem dX6_feed_51 : decode cX6_feed 51 = .ok (.ireturn, 1) := by decide +kernel
theorem dX6_end_0 : decode cX6_end 0 = .ok (.aload_n 0, 1) := by decide +kernel
theorem dX6_end_1 : decode cX6_end 1 = .ok (.iconst 0, 1) := by decide +kernel
theorem dX6_end_2 : decode cX6_end 2 = .ok (.putfield 101, 3) := by decide +kernel
theorem dX6_end_5 : decode cX6_end 5 = .ok (.iload_n 1, 1) := by decide +kernel
theorem dX6_end_6 : decode cX6_end 6 = .ok (.ifCond .lt 11, 3) := by decide +kernel
theorem dX6_end_9 : decode cX6_end 9 = .ok (.iload_n 1, 1) := by decide +kernel
theorem dX6_end_10 : decode cX6_end 10 = .ok (.aload_n 0, 1) := by decide +kernel
theorem dX6_end_11 : decode cX6_end 11 = .ok (.getfield 105, 3) := by decide +kernel
theorem dX6_end_14 : decode cX6_end 14 = .ok (.if_icmp .le 5, 3) := by decide +kernel
theorem dX6_end_17 : decode cX6_end 17 = .ok (.iconst 0, 1) := by decide +kernel
theorem dX6_end_18 : decode cX6_end 18 = .ok (.ireturn, 1) := by decide +kernel
theorem dX6_end_19 : decode cX6_end 19 = .ok (.aload_n 0, 1) := by decide +kernel
theorem dX6_end_20 : decode cX6_end 20 = .ok (.iload_n 1, 1) := by decide +kernel
theorem dX6_end_21 : decode cX6_end 21 = .ok (.putfield 105, 3) := by decide +kernel
theorem dX6_end_24 : decode cX6_end 24 = .ok (.iconst 1, 1) := by decide +kernel
theorem dX6_end_25 : decode cX6_end 25 = .ok (.ireturn, 1) := by decide +kernel
theorem dX6_byteAt_0 : decode cX6_byteAt 0 = .ok (.iload_n 1, 1) := by decide +kernel
theorem dX6_byteAt_1 : decode cX6_byteAt 1 = .ok (.aload_n 0, 1) := by decide +kernel
theorem dX6_byteAt_2 : decode cX6_byteAt 2 = .ok (.getfield 112, 3) := by decide +kernel
theorem dX6_byteAt_5 : decode cX6_byteAt 5 = .ok (.if_icmp .ge 12, 3) := by decide +kernel
theorem dX6_byteAt_8 : decode cX6_byteAt 8 = .ok (.aload_n 0, 1) := by decide +kernel
theorem dX6_byteAt_9 : decode cX6_byteAt 9 = .ok (.getfield 7, 3) := by decide +kernel
theorem dX6_byteAt_12 : decode cX6_byteAt 12 = .ok (.iload_n 1, 1) := by decide +kernel
theorem dX6_byteAt_13 : decode cX6_byteAt 13 = .ok (.iaload, 1) := by decide +kernel
theorem dX6_byteAt_14 : decode cX6_byteAt 14 = .ok (.goto 4, 3) := by decide +kernel
theorem dX6_byteAt_17 : decode cX6_byteAt 17 = .ok (.iconst 0, 1) := by decide +kernel
theorem dX6_byteAt_18 : decode cX6_byteAt 18 = .ok (.ireturn, 1) := by decide +kernel
theorem dX6_isDigit_0 : decode cX6_isDigit 0 = .ok (.iload_n 0, 1) := by decide +kernel
theorem dX6_isDigit_1 : decode cX6_isDigit 1 = .ok (.bipush 48, 2) := by decide +kernel
theorem dX6_isDigit_3 : decode cX6_isDigit 3 = .ok (.if_icmp .lt 13, 3) := by decide +kernel
theorem dX6_isDigit_6 : decode cX6_isDigit 6 = .ok (.iload_n 0, 1) := by decide +kernel
theorem dX6_isDigit_7 : decode cX6_isDigit 7 = .ok (.bipush 57, 2) := by decide +kernel
theorem dX6_isDigit_9 : decode cX6_isDigit 9 = .ok (.if_icmp .gt 7, 3) := by decide +kernel
theorem dX6_isDigit_12 : decode cX6_isDigit 12 = .ok (.iconst 1, 1) := by decide +kernel
theorem dX6_isDigit_13 : decode cX6_isDigit 13 = .ok (.goto 4, 3) := by decide +kernel
theorem dX6_isDigit_16 : decode cX6_isDigit 16 = .ok (.iconst 0, 1) := by decide +kernel
theorem dX6_isDigit_17 : decode cX6_isDigit 17 = .ok (.ireturn, 1) := by decide +kernel
theorem dX6_isLetter_0 : decode cX6_isLetter 0 = .ok (.iload_n 0, 1) := by decide +kernel
theorem dX6_isLetter_1 : decode cX6_isLetter 1 = .ok (.bipush 97, 2) := by decide +kernel
theorem dX6_isLetter_3 : decode cX6_isLetter 3 = .ok (.if_icmp .lt 13, 3) := by decide +kernel
theorem dX6_isLetter_6 : decode cX6_isLetter 6 = .ok (.iload_n 0, 1) := by decide +kernel
theorem dX6_isLetter_7 : decode cX6_isLetter 7 = .ok (.bipush 122, 2) := by decide +kernel
theorem dX6_isLetter_9 : decode cX6_isLetter 9 = .ok (.if_icmp .gt 7, 3) := by decide +kernel
theorem dX6_isLetter_12 : decode cX6_isLetter 12 = .ok (.iconst 1, 1) := by decide +kernel
theorem dX6_isLetter_13 : decode cX6_isLetter 13 = .ok (.goto 4, 3) := by decide +kernel
theorem dX6_isLetter_16 : decode cX6_isLetter 16 = .ok (.iconst 0, 1) := by decide +kernel
theorem dX6_isLetter_17 : decode cX6_isLetter 17 = .ok (.ireturn, 1) := by decide +kernel
theorem dX6_go_0 : decode cX6_go 0 = .ok (.aload_n 0, 1) := by decide +kernel
theorem dX6_go_1 : decode cX6_go 1 = .ok (.getfield 115, 3) := by decide +kernel
theorem dX6_go_4 : decode cX6_go 4 = .ok (.aload_n 0, 1) := by decide +kernel
theorem dX6_go_5 : decode cX6_go 5 = .ok (.getfield 112, 3) := by decide +kernel
theorem dX6_go_8 : decode cX6_go 8 = .ok (.if_icmp .ge 44, 3) := by decide +kernel
theorem dX6_go_11 : decode cX6_go 11 = .ok (.aload_n 0, 1) := by decide +kernel
theorem dX6_go_12 : decode cX6_go 12 = .ok (.getfield 7, 3) := by decide +kernel
theorem dX6_go_15 : decode cX6_go 15 = .ok (.aload_n 0, 1) := by decide +kernel
theorem dX6_go_16 : decode cX6_go 16 = .ok (.getfield 115, 3) := by decide +kernel
theorem dX6_go_19 : decode cX6_go 19 = .ok (.iaload, 1) := by decide +kernel
theorem dX6_go_20 : decode cX6_go 20 = .ok (.bipush 32, 2) := by decide +kernel
theorem dX6_go_22 : decode cX6_go 22 = .ok (.if_icmp .eq 17, 3) := by decide +kernel
theorem dX6_go_25 : decode cX6_go 25 = .ok (.aload_n 0, 1) := by decide +kernel
theorem dX6_go_26 : decode cX6_go 26 = .ok (.getfield 7, 3) := by decide +kernel
theorem dX6_go_29 : decode cX6_go 29 = .ok (.aload_n 0, 1) := by decide +kernel
theorem dX6_go_30 : decode cX6_go 30 = .ok (.getfield 115, 3) := by decide +kernel
theorem dX6_go_33 : decode cX6_go 33 = .ok (.iaload, 1) := by decide +kernel
theorem dX6_go_34 : decode cX6_go 34 = .ok (.bipush 10, 2) := by decide +kernel
theorem dX6_go_36 : decode cX6_go 36 = .ok (.if_icmp .ne 16, 3) := by decide +kernel
theorem dX6_go_39 : decode cX6_go 39 = .ok (.aload_n 0, 1) := by decide +kernel
theorem dX6_go_40 : decode cX6_go 40 = .ok (.dup, 1) := by decide +kernel
theorem dX6_go_41 : decode cX6_go 41 = .ok (.getfield 115, 3) := by decide +kernel
theorem dX6_go_44 : decode cX6_go 44 = .ok (.iconst 1, 1) := by decide +kernel
theorem dX6_go_45 : decode cX6_go 45 = .ok (.iadd, 1) := by decide +kernel
theorem dX6_go_46 : decode cX6_go 46 = .ok (.putfield 115, 3) := by decide +kernel
theorem dX6_go_49 : decode cX6_go 49 = .ok (.goto (-49), 3) := by decide +kernel
theorem dX6_go_52 : decode cX6_go 52 = .ok (.aload_n 0, 1) := by decide +kernel
theorem dX6_go_53 : decode cX6_go 53 = .ok (.aload_n 0, 1) := by decide +kernel
theorem dX6_go_54 : decode cX6_go 54 = .ok (.getfield 115, 3) := by decide +kernel
theorem dX6_go_57 : decode cX6_go 57 = .ok (.putfield 118, 3) := by decide +kernel
theorem dX6_go_60 : decode cX6_go 60 = .ok (.aload_n 0, 1) := by decide +kernel
theorem dX6_go_61 : decode cX6_go 61 = .ok (.getfield 112, 3) := by decide +kernel
theorem dX6_go_64 : decode cX6_go 64 = .ok (.sipush 160, 3) := by decide +kernel
theorem dX6_go_67 : decode cX6_go 67 = .ok (.if_icmp .le 26, 3) := by decide +kernel
theorem dX6_go_70 : decode cX6_go 70 = .ok (.aload_n 0, 1) := by decide +kernel
theorem dX6_go_71 : decode cX6_go 71 = .ok (.getfield 118, 3) := by decide +kernel
theorem dX6_go_74 : decode cX6_go 74 = .ok (.sipush 160, 3) := by decide +kernel
theorem dX6_go_77 : decode cX6_go 77 = .ok (.if_icmp .lt 16, 3) := by decide +kernel
theorem dX6_go_80 : decode cX6_go 80 = .ok (.aload_n 0, 1) := by decide +kernel
theorem dX6_go_81 : decode cX6_go 81 = .ok (.sipush 160, 3) := by decide +kernel
theorem dX6_go_84 : decode cX6_go 84 = .ok (.putfield 118, 3) := by decide +kernel
theorem dX6_go_87 : decode cX6_go 87 = .ok (.aload_n 0, 1) := by decide +kernel
theorem dX6_go_88 : decode cX6_go 88 = .ok (.iconst 1, 1) := by decide +kernel
theorem dX6_go_89 : decode cX6_go 89 = .ok (.putfield 121, 3) := by decide +kernel
theorem dX6_go_92 : decode cX6_go 92 = .ok (.return_, 1) := by decide +kernel
theorem dX6_go_93 : decode cX6_go 93 = .ok (.aload_n 0, 1) := by decide +kernel
theorem dX6_go_94 : decode cX6_go 94 = .ok (.getfield 115, 3) := by decide +kernel
theorem dX6_go_97 : decode cX6_go 97 = .ok (.aload_n 0, 1) := by decide +kernel
theorem dX6_go_98 : decode cX6_go 98 = .ok (.getfield 112, 3) := by decide +kernel
theorem dX6_go_101 : decode cX6_go 101 = .ok (.if_icmp .lt 9, 3) := by decide +kernel
theorem dX6_go_104 : decode cX6_go 104 = .ok (.aload_n 0, 1) := by decide +kernel
theorem dX6_go_105 : decode cX6_go 105 = .ok (.iconst 0, 1) := by decide +kernel
theorem dX6_go_106 : decode cX6_go 106 = .ok (.putfield 121, 3) := by decide +kernel
theorem dX6_go_109 : decode cX6_go 109 = .ok (.return_, 1) := by decide +kernel
theorem dX6_go_110 : decode cX6_go 110 = .ok (.aload_n 0, 1) := by decide +kernel
theorem dX6_go_111 : decode cX6_go 111 = .ok (.getfield 7, 3) := by decide +kernel
theorem dX6_go_114 : decode cX6_go 114 = .ok (.aload_n 0, 1) := by decide +kernel
theorem dX6_go_115 : decode cX6_go 115 = .ok (.getfield 115, 3) := by decide +kernel
theorem dX6_go_118 : decode cX6_go 118 = .ok (.iaload, 1) := by decide +kernel
theorem dX6_go_119 : decode cX6_go 119 = .ok (.istore_n 1, 1) := by decide +kernel
theorem dX6_go_120 : decode cX6_go 120 = .ok (.iload_n 1, 1) := by decide +kernel
theorem dX6_go_121 : decode cX6_go 121 = .ok (.invokestatic 124, 3) := by decide +kernel
theorem dX6_go_124 : decode cX6_go 124 = .ok (.ifCond .ne 36, 3) := by decide +kernel
theorem dX6_go_127 : decode cX6_go 127 = .ok (.iload_n 1, 1) := by decide +kernel
theorem dX6_go_128 : decode cX6_go 128 = .ok (.invokestatic 128, 3) := by decide +kernel
theorem dX6_go_131 : decode cX6_go 131 = .ok (.ifCond .ne 29, 3) := by decide +kernel
theorem dX6_go_134 : decode cX6_go 134 = .ok (.aload_n 0, 1) := by decide +kernel
theorem dX6_go_135 : decode cX6_go 135 = .ok (.iload_n 1, 1) := by decide +kernel
theorem dX6_go_136 : decode cX6_go 136 = .ok (.bipush 59, 2) := by decide +kernel
theorem dX6_go_138 : decode cX6_go 138 = .ok (.if_icmp .ne 7, 3) := by decide +kernel
theorem dX6_go_141 : decode cX6_go 141 = .ok (.iconst 4, 1) := by decide +kernel
theorem dX6_go_142 : decode cX6_go 142 = .ok (.goto 4, 3) := by decide +kernel
theorem dX6_go_145 : decode cX6_go 145 = .ok (.iconst 1, 1) := by decide +kernel
theorem dX6_go_146 : decode cX6_go 146 = .ok (.putfield 121, 3) := by decide +kernel
theorem dX6_go_149 : decode cX6_go 149 = .ok (.aload_n 0, 1) := by decide +kernel
theorem dX6_go_150 : decode cX6_go 150 = .ok (.dup, 1) := by decide +kernel
theorem dX6_go_151 : decode cX6_go 151 = .ok (.getfield 115, 3) := by decide +kernel
theorem dX6_go_154 : decode cX6_go 154 = .ok (.iconst 1, 1) := by decide +kernel
theorem dX6_go_155 : decode cX6_go 155 = .ok (.iadd, 1) := by decide +kernel
theorem dX6_go_156 : decode cX6_go 156 = .ok (.putfield 115, 3) := by decide +kernel
theorem dX6_go_159 : decode cX6_go 159 = .ok (.return_, 1) := by decide +kernel
theorem dX6_go_160 : decode cX6_go 160 = .ok (.iload_n 1, 1) := by decide +kernel
theorem dX6_go_161 : decode cX6_go 161 = .ok (.invokestatic 124, 3) := by decide +kernel
theorem dX6_go_164 : decode cX6_go 164 = .ok (.istore_n 2, 1) := by decide +kernel
theorem dX6_go_165 : decode cX6_go 165 = .ok (.iconst 1, 1) := by decide +kernel
theorem dX6_go_166 : decode cX6_go 166 = .ok (.istore_n 3, 1) := by decide +kernel
theorem dX6_go_167 : decode cX6_go 167 = .ok (.aload_n 0, 1) := by decide +kernel
theorem dX6_go_168 : decode cX6_go 168 = .ok (.lconst 0, 1) := by decide +kernel
theorem dX6_go_169 : decode cX6_go 169 = .ok (.putfield 131, 3) := by decide +kernel
theorem dX6_go_172 : decode cX6_go 172 = .ok (.aload_n 0, 1) := by decide +kernel
theorem dX6_go_173 : decode cX6_go 173 = .ok (.iconst 0, 1) := by decide +kernel
theorem dX6_go_174 : decode cX6_go 174 = .ok (.putfield 135, 3) := by decide +kernel
theorem dX6_go_177 : decode cX6_go 177 = .ok (.aload_n 0, 1) := by decide +kernel
theorem dX6_go_178 : decode cX6_go 178 = .ok (.aload_n 0, 1) := by decide +kernel
theorem dX6_go_179 : decode cX6_go 179 = .ok (.getfield 115, 3) := by decide +kernel
theorem dX6_go_182 : decode cX6_go 182 = .ok (.invokevirtual 138, 3) := by decide +kernel
theorem dX6_go_185 : decode cX6_go 185 = .ok (.invokestatic 124, 3) := by decide +kernel
theorem dX6_go_188 : decode cX6_go 188 = .ok (.ifCond .ne 17, 3) := by decide +kernel
theorem dX6_go_191 : decode cX6_go 191 = .ok (.aload_n 0, 1) := by decide +kernel
theorem dX6_go_192 : decode cX6_go 192 = .ok (.aload_n 0, 1) := by decide +kernel
theorem dX6_go_193 : decode cX6_go 193 = .ok (.getfield 115, 3) := by decide +kernel
theorem dX6_go_196 : decode cX6_go 196 = .ok (.invokevirtual 138, 3) := by decide +kernel
theorem dX6_go_199 : decode cX6_go 199 = .ok (.invokestatic 128, 3) := by decide +kernel
theorem dX6_go_202 : decode cX6_go 202 = .ok (.ifCond .eq 116, 3) := by decide +kernel
theorem dX6_go_205 : decode cX6_go 205 = .ok (.aload_n 0, 1) := by decide +kernel
theorem dX6_go_206 : decode cX6_go 206 = .ok (.getfield 7, 3) := by decide +kernel
theorem dX6_go_209 : decode cX6_go 209 = .ok (.aload_n 0, 1) := by decide +kernel
theorem dX6_go_210 : decode cX6_go 210 = .ok (.getfield 115, 3) := by decide +kernel
theorem dX6_go_213 : decode cX6_go 213 = .ok (.iaload, 1) := by decide +kernel
theorem dX6_go_214 : decode cX6_go 214 = .ok (.istore 4, 2) := by decide +kernel
theorem dX6_go_216 : decode cX6_go 216 = .ok (.iload_n 3, 1) := by decide +kernel
theorem dX6_go_217 : decode cX6_go 217 = .ok (.ifCond .eq 16, 3) := by decide +kernel
theorem dX6_go_220 : decode cX6_go 220 = .ok (.iload 4, 2) := by decide +kernel
theorem dX6_go_222 : decode cX6_go 222 = .ok (.invokestatic 124, 3) := by decide +kernel
theorem dX6_go_225 : decode cX6_go 225 = .ok (.iload_n 2, 1) := by decide +kernel
theorem dX6_go_226 : decode cX6_go 226 = .ok (.if_icmp .ne 7, 3) := by decide +kernel
theorem dX6_go_229 : decode cX6_go 229 = .ok (.iconst 1, 1) := by decide +kernel
theorem dX6_go_230 : decode cX6_go 230 = .ok (.goto 4, 3) := by decide +kernel
theorem dX6_go_233 : decode cX6_go 233 = .ok (.iconst 0, 1) := by decide +kernel
theorem dX6_go_234 : decode cX6_go 234 = .ok (.istore_n 3, 1) := by decide +kernel
theorem dX6_go_235 : decode cX6_go 235 = .ok (.aload_n 0, 1) := by decide +kernel
theorem dX6_go_236 : decode cX6_go 236 = .ok (.aload_n 0, 1) := by decide +kernel
theorem dX6_go_237 : decode cX6_go 237 = .ok (.getfield 115, 3) := by decide +kernel
theorem dX6_go_240 : decode cX6_go 240 = .ok (.aload_n 0, 1) := by decide +kernel
theorem dX6_go_241 : decode cX6_go 241 = .ok (.getfield 118, 3) := by decide +kernel
theorem dX6_go_244 : decode cX6_go 244 = .ok (.isub, 1) := by decide +kernel
theorem dX6_go_245 : decode cX6_go 245 = .ok (.bipush 6, 2) := by decide +kernel
theorem dX6_go_247 : decode cX6_go 247 = .ok (.if_icmp .ge 22, 3) := by decide +kernel
theorem dX6_go_250 : decode cX6_go 250 = .ok (.ldc2_w 142, 3) := by decide +kernel
theorem dX6_go_253 : decode cX6_go 253 = .ok (.aload_n 0, 1) := by decide +kernel
theorem dX6_go_254 : decode cX6_go 254 = .ok (.getfield 131, 3) := by decide +kernel
theorem dX6_go_257 : decode cX6_go 257 = .ok (.lmul, 1) := by decide +kernel
theorem dX6_go_258 : decode cX6_go 258 = .ok (.iload 4, 2) := by decide +kernel
theorem dX6_go_260 : decode cX6_go 260 = .ok (.i2l, 1) := by decide +kernel
theorem dX6_go_261 : decode cX6_go 261 = .ok (.ladd, 1) := by decide +kernel
theorem dX6_go_262 : decode cX6_go 262 = .ok (.ldc2_w 144, 3) := by decide +kernel
theorem dX6_go_265 : decode cX6_go 265 = .ok (.lsub, 1) := by decide +kernel
theorem dX6_go_266 : decode cX6_go 266 = .ok (.goto 6, 3) := by decide +kernel
theorem dX6_go_269 : decode cX6_go 269 = .ok (.ldc2_w 146, 3) := by decide +kernel
theorem dX6_go_272 : decode cX6_go 272 = .ok (.putfield 131, 3) := by decide +kernel
theorem dX6_go_275 : decode cX6_go 275 = .ok (.aload_n 0, 1) := by decide +kernel
theorem dX6_go_276 : decode cX6_go 276 = .ok (.getfield 115, 3) := by decide +kernel
theorem dX6_go_279 : decode cX6_go 279 = .ok (.aload_n 0, 1) := by decide +kernel
theorem dX6_go_280 : decode cX6_go 280 = .ok (.getfield 118, 3) := by decide +kernel
theorem dX6_go_283 : decode cX6_go 283 = .ok (.isub, 1) := by decide +kernel
theorem dX6_go_284 : decode cX6_go 284 = .ok (.iconst 3, 1) := by decide +kernel
theorem dX6_go_285 : decode cX6_go 285 = .ok (.if_icmp .ge 20, 3) := by decide +kernel
theorem dX6_go_288 : decode cX6_go 288 = .ok (.aload_n 0, 1) := by decide +kernel
theorem dX6_go_289 : decode cX6_go 289 = .ok (.bipush 10, 2) := by decide +kernel
theorem dX6_go_291 : decode cX6_go 291 = .ok (.aload_n 0, 1) := by decide +kernel
theorem dX6_go_292 : decode cX6_go 292 = .ok (.getfield 135, 3) := by decide +kernel
theorem dX6_go_295 : decode cX6_go 295 = .ok (.imul, 1) := by decide +kernel
theorem dX6_go_296 : decode cX6_go 296 = .ok (.iload 4, 2) := by decide +kernel
theorem dX6_go_298 : decode cX6_go 298 = .ok (.iadd, 1) := by decide +kernel
theorem dX6_go_299 : decode cX6_go 299 = .ok (.bipush 48, 2) := by decide +kernel
theorem dX6_go_301 : decode cX6_go 301 = .ok (.isub, 1) := by decide +kernel
theorem dX6_go_302 : decode cX6_go 302 = .ok (.putfield 135, 3) := by decide +kernel
theorem dX6_go_305 : decode cX6_go 305 = .ok (.aload_n 0, 1) := by decide +kernel
theorem dX6_go_306 : decode cX6_go 306 = .ok (.dup, 1) := by decide +kernel
theorem dX6_go_307 : decode cX6_go 307 = .ok (.getfield 115, 3) := by decide +kernel
theorem dX6_go_310 : decode cX6_go 310 = .ok (.iconst 1, 1) := by decide +kernel
theorem dX6_go_311 : decode cX6_go 311 = .ok (.iadd, 1) := by decide +kernel
theorem dX6_go_312 : decode cX6_go 312 = .ok (.putfield 115, 3) := by decide +kernel
theorem dX6_go_315 : decode cX6_go 315 = .ok (.goto (-138), 3) := by decide +kernel
theorem dX6_go_318 : decode cX6_go 318 = .ok (.aload_n 0, 1) := by decide +kernel
theorem dX6_go_319 : decode cX6_go 319 = .ok (.iload_n 3, 1) := by decide +kernel
theorem dX6_go_320 : decode cX6_go 320 = .ok (.ifCond .eq 20, 3) := by decide +kernel
theorem dX6_go_323 : decode cX6_go 323 = .ok (.iload_n 2, 1) := by decide +kernel
theorem dX6_go_324 : decode cX6_go 324 = .ok (.ifCond .ne 20, 3) := by decide +kernel
theorem dX6_go_327 : decode cX6_go 327 = .ok (.aload_n 0, 1) := by decide +kernel
theorem dX6_go_328 : decode cX6_go 328 = .ok (.getfield 115, 3) := by decide +kernel
theorem dX6_go_331 : decode cX6_go 331 = .ok (.aload_n 0, 1) := by decide +kernel
theorem dX6_go_332 : decode cX6_go 332 = .ok (.getfield 118, 3) := by decide +kernel
theorem dX6_go_335 : decode cX6_go 335 = .ok (.isub, 1) := by decide +kernel
theorem dX6_go_336 : decode cX6_go 336 = .ok (.iconst 3, 1) := by decide +kernel
theorem dX6_go_337 : decode cX6_go 337 = .ok (.if_icmp .le 7, 3) := by decide +kernel
theorem dX6_go_340 : decode cX6_go 340 = .ok (.iconst 1, 1) := by decide +kernel
theorem dX6_go_341 : decode cX6_go 341 = .ok (.goto 12, 3) := by decide +kernel
theorem dX6_go_344 : decode cX6_go 344 = .ok (.iload_n 2, 1) := by decide +kernel
theorem dX6_go_345 : decode cX6_go 345 = .ok (.ifCond .eq 7, 3) := by decide +kernel
theorem dX6_go_348 : decode cX6_go 348 = .ok (.iconst 2, 1) := by decide +kernel
theorem dX6_go_349 : decode cX6_go 349 = .ok (.goto 4, 3) := by decide +kernel
theorem dX6_go_352 : decode cX6_go 352 = .ok (.iconst 3, 1) := by decide +kernel
theorem dX6_go_353 : decode cX6_go 353 = .ok (.putfield 121, 3) := by decide +kernel
theorem dX6_go_356 : decode cX6_go 356 = .ok (.return_, 1) := by decide +kernel
theorem dX6_spelt_0 : decode cX6_spelt 0 = .ok (.ldc2_w 142, 3) := by decide +kernel
theorem dX6_spelt_3 : decode cX6_spelt 3 = .ok (.iload_n 0, 1) := by decide +kernel
theorem dX6_spelt_4 : decode cX6_spelt 4 = .ok (.i2l, 1) := by decide +kernel
theorem dX6_spelt_5 : decode cX6_spelt 5 = .ok (.ldc2_w 144, 3) := by decide +kernel
theorem dX6_spelt_8 : decode cX6_spelt 8 = .ok (.lsub, 1) := by decide +kernel
theorem dX6_spelt_9 : decode cX6_spelt 9 = .ok (.lmul, 1) := by decide +kernel
theorem dX6_spelt_10 : decode cX6_spelt 10 = .ok (.iload_n 1, 1) := by decide +kernel
theorem dX6_spelt_11 : decode cX6_spelt 11 = .ok (.i2l, 1) := by decide +kernel
theorem dX6_spelt_12 : decode cX6_spelt 12 = .ok (.ladd, 1) := by decide +kernel
theorem dX6_spelt_13 : decode cX6_spelt 13 = .ok (.ldc2_w 144, 3) := by decide +kernel
theorem dX6_spelt_16 : decode cX6_spelt 16 = .ok (.lsub, 1) := by decide +kernel
theorem dX6_spelt_17 : decode cX6_spelt 17 = .ok (.lstore 4, 2) := by decide +kernel
theorem dX6_spelt_19 : decode cX6_spelt 19 = .ok (.iload_n 2, 1) := by decide +kernel
theorem dX6_spelt_20 : decode cX6_spelt 20 = .ok (.ifCond .le 18, 3) := by decide +kernel
theorem dX6_spelt_23 : decode cX6_spelt 23 = .ok (.ldc2_w 142, 3) := by decide +kernel
theorem dX6_spelt_26 : decode cX6_spelt 26 = .ok (.lload 4, 2) := by decide +kernel
theorem dX6_spelt_28 : decode cX6_spelt 28 = .ok (.lmul, 1) := by decide +kernel
theorem dX6_spelt_29 : decode cX6_spelt 29 = .ok (.iload_n 2, 1) := by decide +kernel
theorem dX6_spelt_30 : decode cX6_spelt 30 = .ok (.i2l, 1) := by decide +kernel
theorem dX6_spelt_31 : decode cX6_spelt 31 = .ok (.ladd, 1) := by decide +kernel
theorem dX6_spelt_32 : decode cX6_spelt 32 = .ok (.ldc2_w 144, 3) := by decide +kernel
theorem dX6_spelt_35 : decode cX6_spelt 35 = .ok (.lsub, 1) := by decide +kernel
theorem dX6_spelt_36 : decode cX6_spelt 36 = .ok (.lstore 4, 2) := by decide +kernel
theorem dX6_spelt_38 : decode cX6_spelt 38 = .ok (.iload_n 3, 1) := by decide +kernel
theorem dX6_spelt_39 : decode cX6_spelt 39 = .ok (.ifCond .le 19, 3) := by decide +kernel
theorem dX6_spelt_42 : decode cX6_spelt 42 = .ok (.ldc2_w 142, 3) := by decide +kernel
theorem dX6_spelt_45 : decode cX6_spelt 45 = .ok (.lload 4, 2) := by decide +kernel
theorem dX6_spelt_47 : decode cX6_spelt 47 = .ok (.lmul, 1) := by decide +kernel
theorem dX6_spelt_48 : decode cX6_spelt 48 = .ok (.iload_n 3, 1) := by decide +kernel
theorem dX6_spelt_49 : decode cX6_spelt 49 = .ok (.i2l, 1) := by decide +kernel
theorem dX6_spelt_50 : decode cX6_spelt 50 = .ok (.ladd, 1) := by decide +kernel
theorem dX6_spelt_51 : decode cX6_spelt 51 = .ok (.ldc2_w 144, 3) := by decide +kernel
theorem dX6_spelt_54 : decode cX6_spelt 54 = .ok (.lsub, 1) := by decide +kernel
theorem dX6_spelt_55 : decode cX6_spelt 55 = .ok (.goto 5, 3) := by decide +kernel
theorem dX6_spelt_58 : decode cX6_spelt 58 = .ok (.lload 4, 2) := by decide +kernel
theorem dX6_spelt_60 : decode cX6_spelt 60 = .ok (.lreturn, 1) := by decide +kernel
theorem dX6_isKey_0 : decode cX6_isKey 0 = .ok (.aload_n 0, 1) := by decide +kernel
theorem dX6_isKey_1 : decode cX6_isKey 1 = .ok (.getfield 121, 3) := by decide +kernel
theorem dX6_isKey_4 : decode cX6_isKey 4 = .ok (.iconst 2, 1) := by decide +kernel
theorem dX6_isKey_5 : decode cX6_isKey 5 = .ok (.if_icmp .ne 16, 3) := by decide +kernel
theorem dX6_isKey_8 : decode cX6_isKey 8 = .ok (.aload_n 0, 1) := by decide +kernel
theorem dX6_isKey_9 : decode cX6_isKey 9 = .ok (.getfield 131, 3) := by decide +kernel
theorem dX6_isKey_12 : decode cX6_isKey 12 = .ok (.lload_n 1, 1) := by decide +kernel
theorem dX6_isKey_13 : decode cX6_isKey 13 = .ok (.lcmp, 1) := by decide +kernel
theorem dX6_isKey_14 : decode cX6_isKey 14 = .ok (.ifCond .ne 7, 3) := by decide +kernel
theorem dX6_isKey_17 : decode cX6_isKey 17 = .ok (.iconst 1, 1) := by decide +kernel
theorem dX6_isKey_18 : decode cX6_isKey 18 = .ok (.goto 4, 3) := by decide +kernel
theorem dX6_isKey_21 : decode cX6_isKey 21 = .ok (.iconst 0, 1) := by decide +kernel
theorem dX6_isKey_22 : decode cX6_isKey 22 = .ok (.ireturn, 1) := by decide +kernel
theorem dX6_ruleAtHand_0 : decode cX6_ruleAtHand 0 = .ok (.aload_n 0, 1) := by decide +kernel
theorem dX6_ruleAtHand_1 : decode cX6_ruleAtHand 1 = .ok (.bipush 114, 2) := by decide +kernel
theorem dX6_ruleAtHand_3 : decode cX6_ruleAtHand 3 = .ok (.bipush 111, 2) := by decide +kernel
theorem dX6_ruleAtHand_5 : decode cX6_ruleAtHand 5 = .ok (.bipush 119, 2) := by decide +kernel
theorem dX6_ruleAtHand_7 : decode cX6_ruleAtHand 7 = .ok (.iconst 0, 1) := by decide +kernel
theorem dX6_ruleAtHand_8 : decode cX6_ruleAtHand 8 = .ok (.invokestatic 148, 3) := by decide +kernel
theorem dX6_ruleAtHand_11 : decode cX6_ruleAtHand 11 = .ok (.invokevirtual 152, 3) := by decide +kernel
theorem dX6_ruleAtHand_14 : decode cX6_ruleAtHand 14 = .ok (.ifCond .eq 5, 3) := by decide +kernel
theorem dX6_ruleAtHand_17 : decode cX6_ruleAtHand 17 = .ok (.iconst 0, 1) := by decide +kernel
theorem dX6_ruleAtHand_18 : decode cX6_ruleAtHand 18 = .ok (.ireturn, 1) := by decide +kernel
theorem dX6_ruleAtHand_19 : decode cX6_ruleAtHand 19 = .ok (.aload_n 0, 1) := by decide +kernel
theorem dX6_ruleAtHand_20 : decode cX6_ruleAtHand 20 = .ok (.ldc2_w 142, 3) := by decide +kernel
theorem dX6_ruleAtHand_23 : decode cX6_ruleAtHand 23 = .ok (.bipush 97, 2) := by decide +kernel
theorem dX6_ruleAtHand_25 : decode cX6_ruleAtHand 25 = .ok (.bipush 103, 2) := by decide +kernel
theorem dX6_ruleAtHand_27 : decode cX6_ruleAtHand 27 = .ok (.bipush 97, 2) := by decide +kernel
theorem dX6_ruleAtHand_29 : decode cX6_ruleAtHand 29 = .ok (.bipush 105, 2) := by decide +kernel
theorem dX6_ruleAtHand_31 : decode cX6_ruleAtHand 31 = .ok (.invokestatic 148, 3) := by decide +kernel
theorem dX6_ruleAtHand_34 : decode cX6_ruleAtHand 34 = .ok (.lmul, 1) := by decide +kernel
theorem dX6_ruleAtHand_35 : decode cX6_ruleAtHand 35 = .ok (.ldc2_w 156, 3) := by decide +kernel
theorem dX6_ruleAtHand_38 : decode cX6_ruleAtHand 38 = .ok (.ladd, 1) := by decide +kernel
theorem dX6_ruleAtHand_39 : decode cX6_ruleAtHand 39 = .ok (.invokevirtual 152, 3) := by decide +kernel
theorem dX6_ruleAtHand_42 : decode cX6_ruleAtHand 42 = .ok (.ifCond .eq 5, 3) := by decide +kernel
theorem dX6_ruleAtHand_45 : decode cX6_ruleAtHand 45 = .ok (.iconst 1, 1) := by decide +kernel
theorem dX6_ruleAtHand_46 : decode cX6_ruleAtHand 46 = .ok (.ireturn, 1) := by decide +kernel
theorem dX6_ruleAtHand_47 : decode cX6_ruleAtHand 47 = .ok (.aload_n 0, 1) := by decide +kernel
theorem dX6_ruleAtHand_48 : decode cX6_ruleAtHand 48 = .ok (.bipush 102, 2) := by decide +kernel
theorem dX6_ruleAtHand_50 : decode cX6_ruleAtHand 50 = .ok (.bipush 97, 2) := by decide +kernel
theorem dX6_ruleAtHand_52 : decode cX6_ruleAtHand 52 = .ok (.bipush 114, 2) := by decide +kernel
theorem dX6_ruleAtHand_54 : decode cX6_ruleAtHand 54 = .ok (.iconst 0, 1) := by decide +kernel
theorem dX6_ruleAtHand_55 : decode cX6_ruleAtHand 55 = .ok (.invokestatic 148, 3) := by decide +kernel
theorem dX6_ruleAtHand_58 : decode cX6_ruleAtHand 58 = .ok (.invokevirtual 152, 3) := by decide +kernel
theorem dX6_ruleAtHand_61 : decode cX6_ruleAtHand 61 = .ok (.ifCond .eq 5, 3) := by decide +kernel
theorem dX6_ruleAtHand_64 : decode cX6_ruleAtHand 64 = .ok (.iconst 2, 1) := by decide +kernel
theorem dX6_ruleAtHand_65 : decode cX6_ruleAtHand 65 = .ok (.ireturn, 1) := by decide +kernel
theorem dX6_ruleAtHand_66 : decode cX6_ruleAtHand 66 = .ok (.aload_n 0, 1) := by decide +kernel
theorem dX6_ruleAtHand_67 : decode cX6_ruleAtHand 67 = .ok (.bipush 102, 2) := by decide +kernel
theorem dX6_ruleAtHand_69 : decode cX6_ruleAtHand 69 = .ok (.bipush 97, 2) := by decide +kernel
theorem dX6_ruleAtHand_71 : decode cX6_ruleAtHand 71 = .ok (.bipush 105, 2) := by decide +kernel
theorem dX6_ruleAtHand_73 : decode cX6_ruleAtHand 73 = .ok (.bipush 114, 2) := by decide +kernel
theorem dX6_ruleAtHand_75 : decode cX6_ruleAtHand 75 = .ok (.invokestatic 148, 3) := by decide +kernel
theorem dX6_ruleAtHand_78 : decode cX6_ruleAtHand 78 = .ok (.invokevirtual 152, 3) := by decide +kernel
theorem dX6_ruleAtHand_81 : decode cX6_ruleAtHand 81 = .ok (.ifCond .eq 5, 3) := by decide +kernel
theorem dX6_ruleAtHand_84 : decode cX6_ruleAtHand 84 = .ok (.iconst 3, 1) := by decide +kernel
theorem dX6_ruleAtHand_85 : decode cX6_ruleAtHand 85 = .ok (.ireturn, 1) := by decide +kernel
theorem dX6_ruleAtHand_86 : decode cX6_ruleAtHand 86 = .ok (.aload_n 0, 1) := by decide +kernel
theorem dX6_ruleAtHand_87 : decode cX6_ruleAtHand 87 = .ok (.bipush 119, 2) := by decide +kernel
theorem dX6_ruleAtHand_89 : decode cX6_ruleAtHand 89 = .ok (.bipush 111, 2) := by decide +kernel
theorem dX6_ruleAtHand_91 : decode cX6_ruleAtHand 91 = .ok (.bipush 110, 2) := by decide +kernel
theorem dX6_ruleAtHand_93 : decode cX6_ruleAtHand 93 = .ok (.iconst 0, 1) := by decide +kernel
theorem dX6_ruleAtHand_94 : decode cX6_ruleAtHand 94 = .ok (.invokestatic 148, 3) := by decide +kernel
theorem dX6_ruleAtHand_97 : decode cX6_ruleAtHand 97 = .ok (.invokevirtual 152, 3) := by decide +kernel
theorem dX6_ruleAtHand_100 : decode cX6_ruleAtHand 100 = .ok (.ifCond .eq 5, 3) := by decide +kernel
theorem dX6_ruleAtHand_103 : decode cX6_ruleAtHand 103 = .ok (.iconst 4, 1) := by decide +kernel
theorem dX6_ruleAtHand_104 : decode cX6_ruleAtHand 104 = .ok (.ireturn, 1) := by decide +kernel
theorem dX6_ruleAtHand_105 : decode cX6_ruleAtHand 105 = .ok (.aload_n 0, 1) := by decide +kernel
theorem dX6_ruleAtHand_106 : decode cX6_ruleAtHand 106 = .ok (.bipush 108, 2) := by decide +kernel
theorem dX6_ruleAtHand_108 : decode cX6_ruleAtHand 108 = .ok (.bipush 111, 2) := by decide +kernel
theorem dX6_ruleAtHand_110 : decode cX6_ruleAtHand 110 = .ok (.bipush 115, 2) := by decide +kernel
theorem dX6_ruleAtHand_112 : decode cX6_ruleAtHand 112 = .ok (.bipush 116, 2) := by decide +kernel
theorem dX6_ruleAtHand_114 : decode cX6_ruleAtHand 114 = .ok (.invokestatic 148, 3) := by decide +kernel
theorem dX6_ruleAtHand_117 : decode cX6_ruleAtHand 117 = .ok (.invokevirtual 152, 3) := by decide +kernel
theorem dX6_ruleAtHand_120 : decode cX6_ruleAtHand 120 = .ok (.ifCond .eq 5, 3) := by decide +kernel
theorem dX6_ruleAtHand_123 : decode cX6_ruleAtHand 123 = .ok (.iconst 5, 1) := by decide +kernel
theorem dX6_ruleAtHand_124 : decode cX6_ruleAtHand 124 = .ok (.ireturn, 1) := by decide +kernel
theorem dX6_ruleAtHand_125 : decode cX6_ruleAtHand 125 = .ok (.aload_n 0, 1) := by decide +kernel
theorem dX6_ruleAtHand_126 : decode cX6_ruleAtHand 126 = .ok (.bipush 117, 2) := by decide +kernel
theorem dX6_ruleAtHand_128 : decode cX6_ruleAtHand 128 = .ok (.bipush 112, 2) := by decide +kernel
theorem dX6_ruleAtHand_130 : decode cX6_ruleAtHand 130 = .ok (.iconst 0, 1) := by decide +kernel
theorem dX6_ruleAtHand_131 : decode cX6_ruleAtHand 131 = .ok (.iconst 0, 1) := by decide +kernel
theorem dX6_ruleAtHand_132 : decode cX6_ruleAtHand 132 = .ok (.invokestatic 148, 3) := by decide +kernel
theorem dX6_ruleAtHand_135 : decode cX6_ruleAtHand 135 = .ok (.invokevirtual 152, 3) := by decide +kernel
theorem dX6_ruleAtHand_138 : decode cX6_ruleAtHand 138 = .ok (.ifCond .eq 6, 3) := by decide +kernel
theorem dX6_ruleAtHand_141 : decode cX6_ruleAtHand 141 = .ok (.bipush 6, 2) := by decide +kernel
theorem dX6_ruleAtHand_143 : decode cX6_ruleAtHand 143 = .ok (.ireturn, 1) := by decide +kernel
theorem dX6_ruleAtHand_144 : decode cX6_ruleAtHand 144 = .ok (.aload_n 0, 1) := by decide +kernel
theorem dX6_ruleAtHand_145 : decode cX6_ruleAtHand 145 = .ok (.bipush 100, 2) := by decide +kernel
theorem dX6_ruleAtHand_147 : decode cX6_ruleAtHand 147 = .ok (.bipush 111, 2) := by decide +kernel
theorem dX6_ruleAtHand_149 : decode cX6_ruleAtHand 149 = .ok (.bipush 119, 2) := by decide +kernel
theorem dX6_ruleAtHand_151 : decode cX6_ruleAtHand 151 = .ok (.bipush 110, 2) := by decide +kernel
theorem dX6_ruleAtHand_153 : decode cX6_ruleAtHand 153 = .ok (.invokestatic 148, 3) := by decide +kernel
theorem dX6_ruleAtHand_156 : decode cX6_ruleAtHand 156 = .ok (.invokevirtual 152, 3) := by decide +kernel
theorem dX6_ruleAtHand_159 : decode cX6_ruleAtHand 159 = .ok (.ifCond .eq 6, 3) := by decide +kernel
theorem dX6_ruleAtHand_162 : decode cX6_ruleAtHand 162 = .ok (.bipush 7, 2) := by decide +kernel
theorem dX6_ruleAtHand_164 : decode cX6_ruleAtHand 164 = .ok (.ireturn, 1) := by decide +kernel
theorem dX6_ruleAtHand_165 : decode cX6_ruleAtHand 165 = .ok (.aload_n 0, 1) := by decide +kernel
theorem dX6_ruleAtHand_166 : decode cX6_ruleAtHand 166 = .ok (.bipush 111, 2) := by decide +kernel
theorem dX6_ruleAtHand_168 : decode cX6_ruleAtHand 168 = .ok (.bipush 102, 2) := by decide +kernel
theorem dX6_ruleAtHand_170 : decode cX6_ruleAtHand 170 = .ok (.iconst 0, 1) := by decide +kernel
theorem dX6_ruleAtHand_171 : decode cX6_ruleAtHand 171 = .ok (.iconst 0, 1) := by decide +kernel
theorem dX6_ruleAtHand_172 : decode cX6_ruleAtHand 172 = .ok (.invokestatic 148, 3) := by decide +kernel
theorem dX6_ruleAtHand_175 : decode cX6_ruleAtHand 175 = .ok (.invokevirtual 152, 3) := by decide +kernel
theorem dX6_ruleAtHand_178 : decode cX6_ruleAtHand 178 = .ok (.ifCond .eq 8, 3) := by decide +kernel
theorem dX6_ruleAtHand_181 : decode cX6_ruleAtHand 181 = .ok (.bipush 8, 2) := by decide +kernel
theorem dX6_ruleAtHand_183 : decode cX6_ruleAtHand 183 = .ok (.goto 4, 3) := by decide +kernel
theorem dX6_ruleAtHand_186 : decode cX6_ruleAtHand 186 = .ok (.iconst (-1), 1) := by decide +kernel
theorem dX6_ruleAtHand_187 : decode cX6_ruleAtHand 187 = .ok (.ireturn, 1) := by decide +kernel
theorem dX6_bad_0 : decode cX6_bad 0 = .ok (.aload_n 0, 1) := by decide +kernel
theorem dX6_bad_1 : decode cX6_bad 1 = .ok (.aload_n 0, 1) := by decide +kernel
theorem dX6_bad_2 : decode cX6_bad 2 = .ok (.getfield 121, 3) := by decide +kernel
theorem dX6_bad_5 : decode cX6_bad 5 = .ok (.iconst 1, 1) := by decide +kernel
theorem dX6_bad_6 : decode cX6_bad 6 = .ok (.if_icmp .ne 7, 3) := by decide +kernel
theorem dX6_bad_9 : decode cX6_bad 9 = .ok (.iconst 1, 1) := by decide +kernel
theorem dX6_bad_10 : decode cX6_bad 10 = .ok (.goto 4, 3) := by decide +kernel
theorem dX6_bad_13 : decode cX6_bad 13 = .ok (.iload_n 1, 1) := by decide +kernel
theorem dX6_bad_14 : decode cX6_bad 14 = .ok (.putfield 158, 3) := by decide +kernel
theorem dX6_bad_17 : decode cX6_bad 17 = .ok (.aload_n 0, 1) := by decide +kernel
theorem dX6_bad_18 : decode cX6_bad 18 = .ok (.aload_n 0, 1) := by decide +kernel
theorem dX6_bad_19 : decode cX6_bad 19 = .ok (.getfield 118, 3) := by decide +kernel
theorem dX6_bad_22 : decode cX6_bad 22 = .ok (.putfield 161, 3) := by decide +kernel
theorem dX6_bad_25 : decode cX6_bad 25 = .ok (.iconst 0, 1) := by decide +kernel
theorem dX6_bad_26 : decode cX6_bad 26 = .ok (.ireturn, 1) := by decide +kernel
theorem dX6_readRule_0 : decode cX6_readRule 0 = .ok (.aload_n 0, 1) := by decide +kernel
theorem dX6_readRule_1 : decode cX6_readRule 1 = .ok (.invokevirtual 164, 3) := by decide +kernel
theorem dX6_readRule_4 : decode cX6_readRule 4 = .ok (.istore_n 1, 1) := by decide +kernel
theorem dX6_readRule_5 : decode cX6_readRule 5 = .ok (.iload_n 1, 1) := by decide +kernel
theorem dX6_readRule_6 : decode cX6_readRule 6 = .ok (.iconst (-1), 1) := by decide +kernel
theorem dX6_readRule_7 : decode cX6_readRule 7 = .ok (.if_icmp .ne 9, 3) := by decide +kernel
theorem dX6_readRule_10 : decode cX6_readRule 10 = .ok (.aload_n 0, 1) := by decide +kernel
theorem dX6_readRule_11 : decode cX6_readRule 11 = .ok (.iconst 1, 1) := by decide +kernel
theorem dX6_readRule_12 : decode cX6_readRule 12 = .ok (.invokevirtual 168, 3) := by decide +kernel
theorem dX6_readRule_15 : decode cX6_readRule 15 = .ok (.ireturn, 1) := by decide +kernel
theorem dX6_readRule_16 : decode cX6_readRule 16 = .ok (.aload_n 0, 1) := by decide +kernel
theorem dX6_readRule_17 : decode cX6_readRule 17 = .ok (.getfield 171, 3) := by decide +kernel
theorem dX6_readRule_20 : decode cX6_readRule 20 = .ok (.iload_n 1, 1) := by decide +kernel
theorem dX6_readRule_21 : decode cX6_readRule 21 = .ok (.ishr, 1) := by decide +kernel
theorem dX6_readRule_22 : decode cX6_readRule 22 = .ok (.iconst 1, 1) := by decide +kernel
theorem dX6_readRule_23 : decode cX6_readRule 23 = .ok (.iand, 1) := by decide +kernel
theorem dX6_readRule_24 : decode cX6_readRule 24 = .ok (.iconst 1, 1) := by decide +kernel
theorem dX6_readRule_25 : decode cX6_readRule 25 = .ok (.if_icmp .ne 9, 3) := by decide +kernel
theorem dX6_readRule_28 : decode cX6_readRule 28 = .ok (.aload_n 0, 1) := by decide +kernel
theorem dX6_readRule_29 : decode cX6_readRule 29 = .ok (.iconst 3, 1) := by decide +kernel
theorem dX6_readRule_30 : decode cX6_readRule 30 = .ok (.invokevirtual 168, 3) := by decide +kernel
theorem dX6_readRule_33 : decode cX6_readRule 33 = .ok (.ireturn, 1) := by decide +kernel
theorem dX6_readRule_34 : decode cX6_readRule 34 = .ok (.aload_n 0, 1) := by decide +kernel
theorem dX6_readRule_35 : decode cX6_readRule 35 = .ok (.invokevirtual 174, 3) := by decide +kernel
theorem dX6_readRule_38 : decode cX6_readRule 38 = .ok (.aload_n 0, 1) := by decide +kernel
theorem dX6_readRule_39 : decode cX6_readRule 39 = .ok (.getfield 121, 3) := by decide +kernel
theorem dX6_readRule_42 : decode cX6_readRule 42 = .ok (.iconst 3, 1) := by decide +kernel
theorem dX6_readRule_43 : decode cX6_readRule 43 = .ok (.if_icmp .eq 9, 3) := by decide +kernel
theorem dX6_readRule_46 : decode cX6_readRule 46 = .ok (.aload_n 0, 1) := by decide +kernel
theorem dX6_readRule_47 : decode cX6_readRule 47 = .ok (.iconst 1, 1) := by decide +kernel
theorem dX6_readRule_48 : decode cX6_readRule 48 = .ok (.invokevirtual 168, 3) := by decide +kernel
theorem dX6_readRule_51 : decode cX6_readRule 51 = .ok (.ireturn, 1) := by decide +kernel
theorem dX6_readRule_52 : decode cX6_readRule 52 = .ok (.aload_n 0, 1) := by decide +kernel
theorem dX6_readRule_53 : decode cX6_readRule 53 = .ok (.getfield 135, 3) := by decide +kernel
theorem dX6_readRule_56 : decode cX6_readRule 56 = .ok (.aload_n 0, 1) := by decide +kernel
theorem dX6_readRule_57 : decode cX6_readRule 57 = .ok (.getfield 19, 3) := by decide +kernel
theorem dX6_readRule_60 : decode cX6_readRule 60 = .ok (.iload_n 1, 1) := by decide +kernel
theorem dX6_readRule_61 : decode cX6_readRule 61 = .ok (.iaload, 1) := by decide +kernel
theorem dX6_readRule_62 : decode cX6_readRule 62 = .ok (.if_icmp .lt 16, 3) := by decide +kernel
theorem dX6_readRule_65 : decode cX6_readRule 65 = .ok (.aload_n 0, 1) := by decide +kernel
theorem dX6_readRule_66 : decode cX6_readRule 66 = .ok (.getfield 135, 3) := by decide +kernel
theorem dX6_readRule_69 : decode cX6_readRule 69 = .ok (.aload_n 0, 1) := by decide +kernel
theorem dX6_readRule_70 : decode cX6_readRule 70 = .ok (.getfield 22, 3) := by decide +kernel
theorem dX6_readRule_73 : decode cX6_readRule 73 = .ok (.iload_n 1, 1) := by decide +kernel
theorem dX6_readRule_74 : decode cX6_readRule 74 = .ok (.iaload, 1) := by decide +kernel
theorem dX6_readRule_75 : decode cX6_readRule 75 = .ok (.if_icmp .le 9, 3) := by decide +kernel
theorem dX6_readRule_78 : decode cX6_readRule 78 = .ok (.aload_n 0, 1) := by decide +kernel
theorem dX6_readRule_79 : decode cX6_readRule 79 = .ok (.iconst 2, 1) := by decide +kernel
theorem dX6_readRule_80 : decode cX6_readRule 80 = .ok (.invokevirtual 168, 3) := by decide +kernel
theorem dX6_readRule_83 : decode cX6_readRule 83 = .ok (.ireturn, 1) := by decide +kernel
theorem dX6_readRule_84 : decode cX6_readRule 84 = .ok (.aload_n 0, 1) := by decide +kernel
theorem dX6_readRule_85 : decode cX6_readRule 85 = .ok (.getfield 25, 3) := by decide +kernel
theorem dX6_readRule_88 : decode cX6_readRule 88 = .ok (.iload_n 1, 1) := by decide +kernel
theorem dX6_readRule_89 : decode cX6_readRule 89 = .ok (.aload_n 0, 1) := by decide +kernel
theorem dX6_readRule_90 : decode cX6_readRule 90 = .ok (.getfield 135, 3) := by decide +kernel
theorem dX6_readRule_93 : decode cX6_readRule 93 = .ok (.iastore, 1) := by decide +kernel
theorem dX6_readRule_94 : decode cX6_readRule 94 = .ok (.aload_n 0, 1) := by decide +kernel
theorem dX6_readRule_95 : decode cX6_readRule 95 = .ok (.dup, 1) := by decide +kernel
theorem dX6_readRule_96 : decode cX6_readRule 96 = .ok (.getfield 171, 3) := by decide +kernel
theorem dX6_readRule_99 : decode cX6_readRule 99 = .ok (.iconst 1, 1) := by decide +kernel
theorem dX6_readRule_100 : decode cX6_readRule 100 = .ok (.iload_n 1, 1) := by decide +kernel
theorem dX6_readRule_101 : decode cX6_readRule 101 = .ok (.ishl, 1) := by decide +kernel
theorem dX6_readRule_102 : decode cX6_readRule 102 = .ok (.ior, 1) := by decide +kernel
theorem dX6_readRule_103 : decode cX6_readRule 103 = .ok (.putfield 171, 3) := by decide +kernel
theorem dX6_readRule_106 : decode cX6_readRule 106 = .ok (.aload_n 0, 1) := by decide +kernel
theorem dX6_readRule_107 : decode cX6_readRule 107 = .ok (.invokevirtual 174, 3) := by decide +kernel
theorem dX6_readRule_110 : decode cX6_readRule 110 = .ok (.aload_n 0, 1) := by decide +kernel
theorem dX6_readRule_111 : decode cX6_readRule 111 = .ok (.getfield 121, 3) := by decide +kernel
theorem dX6_readRule_114 : decode cX6_readRule 114 = .ok (.iconst 4, 1) := by decide +kernel
theorem dX6_readRule_115 : decode cX6_readRule 115 = .ok (.if_icmp .eq 11, 3) := by decide +kernel
theorem dX6_readRule_118 : decode cX6_readRule 118 = .ok (.aload_n 0, 1) := by decide +kernel
theorem dX6_readRule_119 : decode cX6_readRule 119 = .ok (.iconst 1, 1) := by decide +kernel
theorem dX6_readRule_120 : decode cX6_readRule 120 = .ok (.invokevirtual 168, 3) := by decide +kernel
theorem dX6_readRule_123 : decode cX6_readRule 123 = .ok (.ifCond .eq 7, 3) := by decide +kernel
theorem dX6_readRule_126 : decode cX6_readRule 126 = .ok (.iconst 1, 1) := by decide +kernel
theorem dX6_readRule_127 : decode cX6_readRule 127 = .ok (.goto 4, 3) := by decide +kernel
theorem dX6_readRule_130 : decode cX6_readRule 130 = .ok (.iconst 0, 1) := by decide +kernel
theorem dX6_readRule_131 : decode cX6_readRule 131 = .ok (.ireturn, 1) := by decide +kernel
theorem dX6_rules_0 : decode cX6_rules 0 = .ok (.aload_n 0, 1) := by decide +kernel
theorem dX6_rules_1 : decode cX6_rules 1 = .ok (.iconst 0, 1) := by decide +kernel
theorem dX6_rules_2 : decode cX6_rules 2 = .ok (.putfield 101, 3) := by decide +kernel
theorem dX6_rules_5 : decode cX6_rules 5 = .ok (.aload_n 0, 1) := by decide +kernel
theorem dX6_rules_6 : decode cX6_rules 6 = .ok (.aload_n 0, 1) := by decide +kernel
theorem dX6_rules_7 : decode cX6_rules 7 = .ok (.getfield 105, 3) := by decide +kernel
theorem dX6_rules_10 : decode cX6_rules 10 = .ok (.putfield 112, 3) := by decide +kernel
theorem dX6_rules_13 : decode cX6_rules 13 = .ok (.aload_n 0, 1) := by decide +kernel
theorem dX6_rules_14 : decode cX6_rules 14 = .ok (.iconst 0, 1) := by decide +kernel
theorem dX6_rules_15 : decode cX6_rules 15 = .ok (.putfield 105, 3) := by decide +kernel
theorem dX6_rules_18 : decode cX6_rules 18 = .ok (.aload_n 0, 1) := by decide +kernel
theorem dX6_rules_19 : decode cX6_rules 19 = .ok (.iconst 0, 1) := by decide +kernel
theorem dX6_rules_20 : decode cX6_rules 20 = .ok (.putfield 158, 3) := by decide +kernel
theorem dX6_rules_23 : decode cX6_rules 23 = .ok (.aload_n 0, 1) := by decide +kernel
theorem dX6_rules_24 : decode cX6_rules 24 = .ok (.iconst 0, 1) := by decide +kernel
theorem dX6_rules_25 : decode cX6_rules 25 = .ok (.putfield 171, 3) := by decide +kernel
theorem dX6_rules_28 : decode cX6_rules 28 = .ok (.iconst 0, 1) := by decide +kernel
theorem dX6_rules_29 : decode cX6_rules 29 = .ok (.istore_n 1, 1) := by decide +kernel
theorem dX6_rules_30 : decode cX6_rules 30 = .ok (.iload_n 1, 1) := by decide +kernel
theorem dX6_rules_31 : decode cX6_rules 31 = .ok (.bipush 9, 2) := by decide +kernel
theorem dX6_rules_33 : decode cX6_rules 33 = .ok (.if_icmp .ge 21, 3) := by decide +kernel
theorem dX6_rules_36 : decode cX6_rules 36 = .ok (.aload_n 0, 1) := by decide +kernel
theorem dX6_rules_37 : decode cX6_rules 37 = .ok (.getfield 25, 3) := by decide +kernel
theorem dX6_rules_40 : decode cX6_rules 40 = .ok (.iload_n 1, 1) := by decide +kernel
theorem dX6_rules_41 : decode cX6_rules 41 = .ok (.aload_n 0, 1) := by decide +kernel
theorem dX6_rules_42 : decode cX6_rules 42 = .ok (.getfield 16, 3) := by decide +kernel
theorem dX6_rules_45 : decode cX6_rules 45 = .ok (.iload_n 1, 1) := by decide +kernel
theorem dX6_rules_46 : decode cX6_rules 46 = .ok (.iaload, 1) := by decide +kernel
theorem dX6_rules_47 : decode cX6_rules 47 = .ok (.iastore, 1) := by decide +kernel
theorem dX6_rules_48 : decode cX6_rules 48 = .ok (.iinc 1 1, 3) := by decide +kernel
theorem dX6_rules_51 : decode cX6_rules 51 = .ok (.goto (-21), 3) := by decide +kernel
theorem dX6_rules_54 : decode cX6_rules 54 = .ok (.iconst 0, 1) := by decide +kernel
theorem dX6_rules_55 : decode cX6_rules 55 = .ok (.istore_n 1, 1) := by decide +kernel
theorem dX6_rules_56 : decode cX6_rules 56 = .ok (.aload_n 0, 1) := by decide +kernel
theorem dX6_rules_57 : decode cX6_rules 57 = .ok (.iconst 0, 1) := by decide +kernel
theorem dX6_rules_58 : decode cX6_rules 58 = .ok (.putfield 115, 3) := by decide +kernel
theorem dX6_rules_61 : decode cX6_rules 61 = .ok (.aload_n 0, 1) := by decide +kernel
theorem dX6_rules_62 : decode cX6_rules 62 = .ok (.invokevirtual 174, 3) := by decide +kernel
theorem dX6_rules_65 : decode cX6_rules 65 = .ok (.aload_n 0, 1) := by decide +kernel
theorem dX6_rules_66 : decode cX6_rules 66 = .ok (.getfield 121, 3) := by decide +kernel
theorem dX6_rules_69 : decode cX6_rules 69 = .ok (.ifCond .eq 27, 3) := by decide +kernel
theorem dX6_rules_72 : decode cX6_rules 72 = .ok (.aload_n 0, 1) := by decide +kernel
theorem dX6_rules_73 : decode cX6_rules 73 = .ok (.invokevirtual 177, 3) := by decide +kernel
theorem dX6_rules_76 : decode cX6_rules 76 = .ok (.ifCond .ne 10, 3) := by decide +kernel
theorem dX6_rules_79 : decode cX6_rules 79 = .ok (.iconst (-1), 1) := by decide +kernel
theorem dX6_rules_80 : decode cX6_rules 80 = .ok (.aload_n 0, 1) := by decide +kernel
theorem dX6_rules_81 : decode cX6_rules 81 = .ok (.getfield 161, 3) := by decide +kernel
theorem dX6_rules_84 : decode cX6_rules 84 = .ok (.isub, 1) := by decide +kernel
theorem dX6_rules_85 : decode cX6_rules 85 = .ok (.ireturn, 1) := by decide +kernel
theorem dX6_rules_86 : decode cX6_rules 86 = .ok (.iinc 1 1, 3) := by decide +kernel
theorem dX6_rules_89 : decode cX6_rules 89 = .ok (.aload_n 0, 1) := by decide +kernel
theorem dX6_rules_90 : decode cX6_rules 90 = .ok (.invokevirtual 174, 3) := by decide +kernel
theorem dX6_rules_93 : decode cX6_rules 93 = .ok (.goto (-28), 3) := by decide +kernel
theorem dX6_rules_96 : decode cX6_rules 96 = .ok (.iconst 0, 1) := by decide +kernel
theorem dX6_rules_97 : decode cX6_rules 97 = .ok (.istore_n 2, 1) := by decide +kernel
theorem dX6_rules_98 : decode cX6_rules 98 = .ok (.iload_n 2, 1) := by decide +kernel
theorem dX6_rules_99 : decode cX6_rules 99 = .ok (.bipush 9, 2) := by decide +kernel
theorem dX6_rules_101 : decode cX6_rules 101 = .ok (.if_icmp .ge 21, 3) := by decide +kernel
theorem dX6_rules_104 : decode cX6_rules 104 = .ok (.aload_n 0, 1) := by decide +kernel
theorem dX6_rules_105 : decode cX6_rules 105 = .ok (.getfield 13, 3) := by decide +kernel
theorem dX6_rules_108 : decode cX6_rules 108 = .ok (.iload_n 2, 1) := by decide +kernel
theorem dX6_rules_109 : decode cX6_rules 109 = .ok (.aload_n 0, 1) := by decide +kernel
theorem dX6_rules_110 : decode cX6_rules 110 = .ok (.getfield 25, 3) := by decide +kernel
theorem dX6_rules_113 : decode cX6_rules 113 = .ok (.iload_n 2, 1) := by decide +kernel
theorem dX6_rules_114 : decode cX6_rules 114 = .ok (.iaload, 1) := by decide +kernel
theorem dX6_rules_115 : decode cX6_rules 115 = .ok (.iastore, 1) := by decide +kernel
theorem dX6_rules_116 : decode cX6_rules 116 = .ok (.iinc 2 1, 3) := by decide +kernel
theorem dX6_rules_119 : decode cX6_rules 119 = .ok (.goto (-21), 3) := by decide +kernel
theorem dX6_rules_122 : decode cX6_rules 122 = .ok (.iload_n 1, 1) := by decide +kernel
theorem dX6_rules_123 : decode cX6_rules 123 = .ok (.ireturn, 1) := by decide +kernel
theorem dX6_fault_0 : decode cX6_fault 0 = .ok (.aload_n 0, 1) := by decide +kernel
theorem dX6_fault_1 : decode cX6_fault 1 = .ok (.iconst 0, 1) := by decide +kernel
theorem dX6_fault_2 : decode cX6_fault 2 = .ok (.putfield 101, 3) := by decide +kernel
theorem dX6_fault_5 : decode cX6_fault 5 = .ok (.aload_n 0, 1) := by decide +kernel
theorem dX6_fault_6 : decode cX6_fault 6 = .ok (.getfield 158, 3) := by decide +kernel
theorem dX6_fault_9 : decode cX6_fault 9 = .ok (.ireturn, 1) := by decide +kernel
theorem dX6_rule_0 : decode cX6_rule 0 = .ok (.aload_n 0, 1) := by decide +kernel
theorem dX6_rule_1 : decode cX6_rule 1 = .ok (.iconst 0, 1) := by decide +kernel
theorem dX6_rule_2 : decode cX6_rule 2 = .ok (.putfield 101, 3) := by decide +kernel
theorem dX6_rule_5 : decode cX6_rule 5 = .ok (.iload_n 1, 1) := by decide +kernel
theorem dX6_rule_6 : decode cX6_rule 6 = .ok (.ifCond .lt 9, 3) := by decide +kernel
theorem dX6_rule_9 : decode cX6_rule 9 = .ok (.iload_n 1, 1) := by decide +kernel
theorem dX6_rule_10 : decode cX6_rule 10 = .ok (.bipush 9, 2) := by decide +kernel
theorem dX6_rule_12 : decode cX6_rule 12 = .ok (.if_icmp .lt 7, 3) := by decide +kernel
theorem dX6_rule_15 : decode cX6_rule 15 = .ok (.iconst (-1), 1) := by decide +kernel
theorem dX6_rule_16 : decode cX6_rule 16 = .ok (.goto 9, 3) := by decide +kernel
theorem dX6_rule_19 : decode cX6_rule 19 = .ok (.aload_n 0, 1) := by decide +kernel
theorem dX6_rule_20 : decode cX6_rule 20 = .ok (.getfield 13, 3) := by decide +kernel
theorem dX6_rule_23 : decode cX6_rule 23 = .ok (.iload_n 1, 1) := by decide +kernel
theorem dX6_rule_24 : decode cX6_rule 24 = .ok (.iaload, 1) := by decide +kernel
theorem dX6_rule_25 : decode cX6_rule 25 = .ok (.ireturn, 1) := by decide +kernel
theorem dX6_isIn_0 : decode cX6_isIn 0 = .ok (.iload_n 0, 1) := by decide +kernel
theorem dX6_isIn_1 : decode cX6_isIn 1 = .ok (.iload_n 1, 1) := by decide +kernel
theorem dX6_isIn_2 : decode cX6_isIn 2 = .ok (.if_icmp .lt 12, 3) := by decide +kernel
theorem dX6_isIn_5 : decode cX6_isIn 5 = .ok (.iload_n 0, 1) := by decide +kernel
theorem dX6_isIn_6 : decode cX6_isIn 6 = .ok (.iload_n 2, 1) := by decide +kernel
theorem dX6_isIn_7 : decode cX6_isIn 7 = .ok (.if_icmp .gt 7, 3) := by decide +kernel
theorem dX6_isIn_10 : decode cX6_isIn 10 = .ok (.iconst 1, 1) := by decide +kernel
theorem dX6_isIn_11 : decode cX6_isIn 11 = .ok (.goto 4, 3) := by decide +kernel
theorem dX6_isIn_14 : decode cX6_isIn 14 = .ok (.iconst 0, 1) := by decide +kernel
theorem dX6_isIn_15 : decode cX6_isIn 15 = .ok (.ireturn, 1) := by decide +kernel
theorem dX6_isUmpire_0 : decode cX6_isUmpire 0 = .ok (.iload_n 1, 1) := by decide +kernel
theorem dX6_isUmpire_1 : decode cX6_isUmpire 1 = .ok (.ifCond .lt 15, 3) := by decide +kernel
theorem dX6_isUmpire_4 : decode cX6_isUmpire 4 = .ok (.iload_n 1, 1) := by decide +kernel
theorem dX6_isUmpire_5 : decode cX6_isUmpire 5 = .ok (.aload_n 0, 1) := by decide +kernel
theorem dX6_isUmpire_6 : decode cX6_isUmpire 6 = .ok (.getfield 181, 3) := by decide +kernel
theorem dX6_isUmpire_9 : decode cX6_isUmpire 9 = .ok (.if_icmp .ge 7, 3) := by decide +kernel
theorem dX6_isUmpire_12 : decode cX6_isUmpire 12 = .ok (.iconst 1, 1) := by decide +kernel
theorem dX6_isUmpire_13 : decode cX6_isUmpire 13 = .ok (.goto 4, 3) := by decide +kernel
theorem dX6_isUmpire_16 : decode cX6_isUmpire 16 = .ok (.iconst 0, 1) := by decide +kernel
theorem dX6_isUmpire_17 : decode cX6_isUmpire 17 = .ok (.ireturn, 1) := by decide +kernel
theorem dX6_isSeat_0 : decode cX6_isSeat 0 = .ok (.iload_n 1, 1) := by decide +kernel
theorem dX6_isSeat_1 : decode cX6_isSeat 1 = .ok (.ifCond .lt 17, 3) := by decide +kernel
theorem dX6_isSeat_4 : decode cX6_isSeat 4 = .ok (.iload_n 1, 1) := by decide +kernel
theorem dX6_isSeat_5 : decode cX6_isSeat 5 = .ok (.iconst 2, 1) := by decide +kernel
theorem dX6_isSeat_6 : decode cX6_isSeat 6 = .ok (.aload_n 0, 1) := by decide +kernel
theorem dX6_isSeat_7 : decode cX6_isSeat 7 = .ok (.getfield 184, 3) := by decide +kernel
theorem dX6_isSeat_10 : decode cX6_isSeat 10 = .ok (.imul, 1) := by decide +kernel
theorem dX6_isSeat_11 : decode cX6_isSeat 11 = .ok (.if_icmp .ge 7, 3) := by decide +kernel
theorem dX6_isSeat_14 : decode cX6_isSeat 14 = .ok (.iconst 1, 1) := by decide +kernel
theorem dX6_isSeat_15 : decode cX6_isSeat 15 = .ok (.goto 4, 3) := by decide +kernel
theorem dX6_isSeat_18 : decode cX6_isSeat 18 = .ok (.iconst 0, 1) := by decide +kernel
theorem dX6_isSeat_19 : decode cX6_isSeat 19 = .ok (.ireturn, 1) := by decide +kernel
theorem dX6_umpire_0 : decode cX6_umpire 0 = .ok (.aload_n 0, 1) := by decide +kernel
theorem dX6_umpire_1 : decode cX6_umpire 1 = .ok (.iconst 0, 1) := by decide +kernel
theorem dX6_umpire_2 : decode cX6_umpire 2 = .ok (.putfield 101, 3) := by decide +kernel
theorem dX6_umpire_5 : decode cX6_umpire 5 = .ok (.aload_n 0, 1) := by decide +kernel
theorem dX6_umpire_6 : decode cX6_umpire 6 = .ok (.getfield 181, 3) := by decide +kernel
theorem dX6_umpire_9 : decode cX6_umpire 9 = .ok (.bipush 20, 2) := by decide +kernel
theorem dX6_umpire_11 : decode cX6_umpire 11 = .ok (.if_icmp .eq 44, 3) := by decide +kernel
theorem dX6_umpire_14 : decode cX6_umpire 14 = .ok (.iload_n 1, 1) := by decide +kernel
theorem dX6_umpire_15 : decode cX6_umpire 15 = .ok (.iconst 0, 1) := by decide +kernel
theorem dX6_umpire_16 : decode cX6_umpire 16 = .ok (.bipush 99, 2) := by decide +kernel
theorem dX6_umpire_18 : decode cX6_umpire 18 = .ok (.invokestatic 187, 3) := by decide +kernel
theorem dX6_umpire_21 : decode cX6_umpire 21 = .ok (.ifCond .eq 34, 3) := by decide +kernel
theorem dX6_umpire_24 : decode cX6_umpire 24 = .ok (.iload_n 2, 1) := by decide +kernel
theorem dX6_umpire_25 : decode cX6_umpire 25 = .ok (.iconst 0, 1) := by decide +kernel
theorem dX6_umpire_26 : decode cX6_umpire 26 = .ok (.bipush 99, 2) := by decide +kernel
theorem dX6_umpire_28 : decode cX6_umpire 28 = .ok (.invokestatic 187, 3) := by decide +kernel
theorem dX6_umpire_31 : decode cX6_umpire 31 = .ok (.ifCond .eq 24, 3) := by decide +kernel
theorem dX6_umpire_34 : decode cX6_umpire 34 = .ok (.iload_n 3, 1) := by decide +kernel
theorem dX6_umpire_35 : decode cX6_umpire 35 = .ok (.iconst 1, 1) := by decide +kernel
theorem dX6_umpire_36 : decode cX6_umpire 36 = .ok (.iconst 4, 1) := by decide +kernel
theorem dX6_umpire_37 : decode cX6_umpire 37 = .ok (.invokestatic 187, 3) := by decide +kernel
theorem dX6_umpire_40 : decode cX6_umpire 40 = .ok (.ifCond .eq 15, 3) := by decide +kernel
theorem dX6_umpire_43 : decode cX6_umpire 43 = .ok (.iload 4, 2) := by decide +kernel
theorem dX6_umpire_45 : decode cX6_umpire 45 = .ok (.iconst 0, 1) := by decide +kernel
theorem dX6_umpire_46 : decode cX6_umpire 46 = .ok (.sipush 4095, 3) := by decide +kernel
theorem dX6_umpire_49 : decode cX6_umpire 49 = .ok (.invokestatic 187, 3) := by decide +kernel
theorem dX6_umpire_52 : decode cX6_umpire 52 = .ok (.ifCond .ne 5, 3) := by decide +kernel
theorem dX6_umpire_55 : decode cX6_umpire 55 = .ok (.iconst (-1), 1) := by decide +kernel
theorem dX6_umpire_56 : decode cX6_umpire 56 = .ok (.ireturn, 1) := by decide +kernel
theorem dX6_umpire_57 : decode cX6_umpire 57 = .ok (.aload_n 0, 1) := by decide +kernel
theorem dX6_umpire_58 : decode cX6_umpire 58 = .ok (.getfield 28, 3) := by decide +kernel
theorem dX6_umpire_61 : decode cX6_umpire 61 = .ok (.aload_n 0, 1) := by decide +kernel
theorem dX6_umpire_62 : decode cX6_umpire 62 = .ok (.getfield 181, 3) := by decide +kernel
theorem dX6_umpire_65 : decode cX6_umpire 65 = .ok (.iload_n 1, 1) := by decide +kernel
theorem dX6_umpire_66 : decode cX6_umpire 66 = .ok (.iastore, 1) := by decide +kernel
theorem dX6_umpire_67 : decode cX6_umpire 67 = .ok (.aload_n 0, 1) := by decide +kernel
theorem dX6_umpire_68 : decode cX6_umpire 68 = .ok (.getfield 31, 3) := by decide +kernel
theorem dX6_umpire_71 : decode cX6_umpire 71 = .ok (.aload_n 0, 1) := by decide +kernel
theorem dX6_umpire_72 : decode cX6_umpire 72 = .ok (.getfield 181, 3) := by decide +kernel
theorem dX6_umpire_75 : decode cX6_umpire 75 = .ok (.iload_n 2, 1) := by decide +kernel
theorem dX6_umpire_76 : decode cX6_umpire 76 = .ok (.iastore, 1) := by decide +kernel
theorem dX6_umpire_77 : decode cX6_umpire 77 = .ok (.aload_n 0, 1) := by decide +kernel
theorem dX6_umpire_78 : decode cX6_umpire 78 = .ok (.getfield 34, 3) := by decide +kernel
theorem dX6_umpire_81 : decode cX6_umpire 81 = .ok (.aload_n 0, 1) := by decide +kernel
theorem dX6_umpire_82 : decode cX6_umpire 82 = .ok (.getfield 181, 3) := by decide +kernel
theorem dX6_umpire_85 : decode cX6_umpire 85 = .ok (.iload_n 3, 1) := by decide +kernel
theorem dX6_umpire_86 : decode cX6_umpire 86 = .ok (.iastore, 1) := by decide +kernel
theorem dX6_umpire_87 : decode cX6_umpire 87 = .ok (.aload_n 0, 1) := by decide +kernel
theorem dX6_umpire_88 : decode cX6_umpire 88 = .ok (.getfield 37, 3) := by decide +kernel
theorem dX6_umpire_91 : decode cX6_umpire 91 = .ok (.aload_n 0, 1) := by decide +kernel
theorem dX6_umpire_92 : decode cX6_umpire 92 = .ok (.getfield 181, 3) := by decide +kernel
theorem dX6_umpire_95 : decode cX6_umpire 95 = .ok (.iload 4, 2) := by decide +kernel
theorem dX6_umpire_97 : decode cX6_umpire 97 = .ok (.iastore, 1) := by decide +kernel
theorem dX6_umpire_98 : decode cX6_umpire 98 = .ok (.aload_n 0, 1) := by decide +kernel
theorem dX6_umpire_99 : decode cX6_umpire 99 = .ok (.dup, 1) := by decide +kernel
theorem dX6_umpire_100 : decode cX6_umpire 100 = .ok (.getfield 181, 3) := by decide +kernel
theorem dX6_umpire_103 : decode cX6_umpire 103 = .ok (.iconst 1, 1) := by decide +kernel
theorem dX6_umpire_104 : decode cX6_umpire 104 = .ok (.iadd, 1) := by decide +kernel
theorem dX6_umpire_105 : decode cX6_umpire 105 = .ok (.putfield 181, 3) := by decide +kernel
theorem dX6_umpire_108 : decode cX6_umpire 108 = .ok (.aload_n 0, 1) := by decide +kernel
theorem dX6_umpire_109 : decode cX6_umpire 109 = .ok (.getfield 181, 3) := by decide +kernel
theorem dX6_umpire_112 : decode cX6_umpire 112 = .ok (.iconst 1, 1) := by decide +kernel
theorem dX6_umpire_113 : decode cX6_umpire 113 = .ok (.isub, 1) := by decide +kernel
theorem dX6_umpire_114 : decode cX6_umpire 114 = .ok (.ireturn, 1) := by decide +kernel
theorem dX6_seatOf_0 : decode cX6_seatOf 0 = .ok (.iconst 0, 1) := by decide +kernel
theorem dX6_seatOf_1 : decode cX6_seatOf 1 = .ok (.istore_n 2, 1) := by decide +kernel
theorem dX6_seatOf_2 : decode cX6_seatOf 2 = .ok (.iload_n 2, 1) := by decide +kernel
theorem dX6_seatOf_3 : decode cX6_seatOf 3 = .ok (.iconst 2, 1) := by decide +kernel
theorem dX6_seatOf_4 : decode cX6_seatOf 4 = .ok (.aload_n 0, 1) := by decide +kernel
theorem dX6_seatOf_5 : decode cX6_seatOf 5 = .ok (.getfield 184, 3) := by decide +kernel
theorem dX6_seatOf_8 : decode cX6_seatOf 8 = .ok (.imul, 1) := by decide +kernel
theorem dX6_seatOf_9 : decode cX6_seatOf 9 = .ok (.if_icmp .ge 21, 3) := by decide +kernel
theorem dX6_seatOf_12 : decode cX6_seatOf 12 = .ok (.aload_n 0, 1) := by decide +kernel
theorem dX6_seatOf_13 : decode cX6_seatOf 13 = .ok (.getfield 71, 3) := by decide +kernel
theorem dX6_seatOf_16 : decode cX6_seatOf 16 = .ok (.iload_n 2, 1) := by decide +kernel
theorem dX6_seatOf_17 : decode cX6_seatOf 17 = .ok (.iaload, 1) := by decide +kernel
theorem dX6_seatOf_18 : decode cX6_seatOf 18 = .ok (.iload_n 1, 1) := by decide +kernel
theorem dX6_seatOf_19 : decode cX6_seatOf 19 = .ok (.if_icmp .ne 5, 3) := by decide +kernel
theorem dX6_seatOf_22 : decode cX6_seatOf 22 = .ok (.iload_n 2, 1) := by decide +kernel
theorem dX6_seatOf_23 : decode cX6_seatOf 23 = .ok (.ireturn, 1) := by decide +kernel
theorem dX6_seatOf_24 : decode cX6_seatOf 24 = .ok (.iinc 2 1, 3) := by decide +kernel
theorem dX6_seatOf_27 : decode cX6_seatOf 27 = .ok (.goto (-25), 3) := by decide +kernel
theorem dX6_seatOf_30 : decode cX6_seatOf 30 = .ok (.iconst (-1), 1) := by decide +kernel
theorem dX6_seatOf_31 : decode cX6_seatOf 31 = .ok (.ireturn, 1) := by decide +kernel
theorem dX6_away_0 : decode cX6_away 0 = .ok (.aload_n 0, 1) := by decide +kernel
theorem dX6_away_1 : decode cX6_away 1 = .ok (.iconst 0, 1) := by decide +kernel
theorem dX6_away_2 : decode cX6_away 2 = .ok (.putfield 101, 3) := by decide +kernel
theorem dX6_away_5 : decode cX6_away 5 = .ok (.aload_n 0, 1) := by decide +kernel
theorem dX6_away_6 : decode cX6_away 6 = .ok (.iload_n 1, 1) := by decide +kernel
theorem dX6_away_7 : decode cX6_away 7 = .ok (.invokevirtual 191, 3) := by decide +kernel
theorem dX6_away_10 : decode cX6_away 10 = .ok (.ifCond .eq 48, 3) := by decide +kernel
theorem dX6_away_13 : decode cX6_away 13 = .ok (.iload_n 2, 1) := by decide +kernel
theorem dX6_away_14 : decode cX6_away 14 = .ok (.aload_n 0, 1) := by decide +kernel
theorem dX6_away_15 : decode cX6_away 15 = .ok (.getfield 194, 3) := by decide +kernel
theorem dX6_away_18 : decode cX6_away 18 = .ok (.bipush 99, 2) := by decide +kernel
theorem dX6_away_20 : decode cX6_away 20 = .ok (.invokestatic 187, 3) := by decide +kernel
theorem dX6_away_23 : decode cX6_away 23 = .ok (.ifCond .eq 35, 3) := by decide +kernel
theorem dX6_away_26 : decode cX6_away 26 = .ok (.iload_n 2, 1) := by decide +kernel
theorem dX6_away_27 : decode cX6_away 27 = .ok (.aload_n 0, 1) := by decide +kernel
theorem dX6_away_28 : decode cX6_away 28 = .ok (.getfield 194, 3) := by decide +kernel
theorem dX6_away_31 : decode cX6_away 31 = .ok (.if_icmp .ne 12, 3) := by decide +kernel
theorem dX6_away_34 : decode cX6_away 34 = .ok (.aload_n 0, 1) := by decide +kernel
theorem dX6_away_35 : decode cX6_away 35 = .ok (.iload_n 1, 1) := by decide +kernel
theorem dX6_away_36 : decode cX6_away 36 = .ok (.invokevirtual 197, 3) := by decide +kernel
theorem dX6_away_39 : decode cX6_away 39 = .ok (.iconst (-1), 1) := by decide +kernel
theorem dX6_away_40 : decode cX6_away 40 = .ok (.if_icmp .ne 18, 3) := by decide +kernel
theorem dX6_away_43 : decode cX6_away 43 = .ok (.aload_n 0, 1) := by decide +kernel
theorem dX6_away_44 : decode cX6_away 44 = .ok (.getfield 55, 3) := by decide +kernel
theorem dX6_away_47 : decode cX6_away 47 = .ok (.bipush 100, 2) := by decide +kernel
theorem dX6_away_49 : decode cX6_away 49 = .ok (.iload_n 1, 1) := by decide +kernel
theorem dX6_away_50 : decode cX6_away 50 = .ok (.imul, 1) := by decide +kernel
theorem dX6_away_51 : decode cX6_away 51 = .ok (.iload_n 2, 1) := by decide +kernel
theorem dX6_away_52 : decode cX6_away 52 = .ok (.iadd, 1) := by decide +kernel
theorem dX6_away_53 : decode cX6_away 53 = .ok (.baload, 1) := by decide +kernel
theorem dX6_away_54 : decode cX6_away 54 = .ok (.iload_n 3, 1) := by decide +kernel
theorem dX6_away_55 : decode cX6_away 55 = .ok (.if_icmp .ne 5, 3) := by decide +kernel
theorem dX6_away_58 : decode cX6_away 58 = .ok (.iconst 0, 1) := by decide +kernel
theorem dX6_away_59 : decode cX6_away 59 = .ok (.ireturn, 1) := by decide +kernel
theorem dX6_away_60 : decode cX6_away 60 = .ok (.aload_n 0, 1) := by decide +kernel
theorem dX6_away_61 : decode cX6_away 61 = .ok (.getfield 55, 3) := by decide +kernel
theorem dX6_away_64 : decode cX6_away 64 = .ok (.bipush 100, 2) := by decide +kernel
theorem dX6_away_66 : decode cX6_away 66 = .ok (.iload_n 1, 1) := by decide +kernel
theorem dX6_away_67 : decode cX6_away 67 = .ok (.imul, 1) := by decide +kernel
theorem dX6_away_68 : decode cX6_away 68 = .ok (.iload_n 2, 1) := by decide +kernel
theorem dX6_away_69 : decode cX6_away 69 = .ok (.iadd, 1) := by decide +kernel
theorem dX6_away_70 : decode cX6_away 70 = .ok (.iload_n 3, 1) := by decide +kernel
theorem dX6_away_71 : decode cX6_away 71 = .ok (.bastore, 1) := by decide +kernel
theorem dX6_away_72 : decode cX6_away 72 = .ok (.iconst 1, 1) := by decide +kernel
theorem dX6_away_73 : decode cX6_away 73 = .ok (.ireturn, 1) := by decide +kernel
theorem dX6_game_0 : decode cX6_game 0 = .ok (.aload_n 0, 1) := by decide +kernel
theorem dX6_game_1 : decode cX6_game 1 = .ok (.iconst 0, 1) := by decide +kernel
theorem dX6_game_2 : decode cX6_game 2 = .ok (.putfield 101, 3) := by decide +kernel
theorem dX6_game_5 : decode cX6_game 5 = .ok (.aload_n 0, 1) := by decide +kernel
theorem dX6_game_6 : decode cX6_game 6 = .ok (.getfield 184, 3) := by decide +kernel
theorem dX6_game_9 : decode cX6_game 9 = .ok (.bipush 8, 2) := by decide +kernel
theorem dX6_game_11 : decode cX6_game 11 = .ok (.if_icmp .eq 60, 3) := by decide +kernel
theorem dX6_game_14 : decode cX6_game 14 = .ok (.iload_n 1, 1) := by decide +kernel
theorem dX6_game_15 : decode cX6_game 15 = .ok (.iconst 0, 1) := by decide +kernel
theorem dX6_game_16 : decode cX6_game 16 = .ok (.bipush 99, 2) := by decide +kernel
theorem dX6_game_18 : decode cX6_game 18 = .ok (.invokestatic 187, 3) := by decide +kernel
theorem dX6_game_21 : decode cX6_game 21 = .ok (.ifCond .eq 50, 3) := by decide +kernel
theorem dX6_game_24 : decode cX6_game 24 = .ok (.iload_n 2, 1) := by decide +kernel
theorem dX6_game_25 : decode cX6_game 25 = .ok (.iconst 0, 1) := by decide +kernel
theorem dX6_game_26 : decode cX6_game 26 = .ok (.bipush 99, 2) := by decide +kernel
theorem dX6_game_28 : decode cX6_game 28 = .ok (.invokestatic 187, 3) := by decide +kernel
theorem dX6_game_31 : decode cX6_game 31 = .ok (.ifCond .eq 40, 3) := by decide +kernel
theorem dX6_game_34 : decode cX6_game 34 = .ok (.iload_n 3, 1) := by decide +kernel
theorem dX6_game_35 : decode cX6_game 35 = .ok (.iconst 0, 1) := by decide +kernel
theorem dX6_game_36 : decode cX6_game 36 = .ok (.bipush 11, 2) := by decide +kernel
theorem dX6_game_38 : decode cX6_game 38 = .ok (.invokestatic 187, 3) := by decide +kernel
theorem dX6_game_41 : decode cX6_game 41 = .ok (.ifCond .eq 30, 3) := by decide +kernel
theorem dX6_game_44 : decode cX6_game 44 = .ok (.iload 4, 2) := by decide +kernel
theorem dX6_game_46 : decode cX6_game 46 = .ok (.iconst 0, 1) := by decide +kernel
theorem dX6_game_47 : decode cX6_game 47 = .ok (.bipush 11, 2) := by decide +kernel
theorem dX6_game_49 : decode cX6_game 49 = .ok (.invokestatic 187, 3) := by decide +kernel
theorem dX6_game_52 : decode cX6_game 52 = .ok (.ifCond .eq 19, 3) := by decide +kernel
theorem dX6_game_55 : decode cX6_game 55 = .ok (.iload_n 3, 1) := by decide +kernel
theorem dX6_game_56 : decode cX6_game 56 = .ok (.iload 4, 2) := by decide +kernel
theorem dX6_game_58 : decode cX6_game 58 = .ok (.if_icmp .eq 13, 3) := by decide +kernel
theorem dX6_game_61 : decode cX6_game 61 = .ok (.iload 5, 2) := by decide +kernel
theorem dX6_game_63 : decode cX6_game 63 = .ok (.iconst 1, 1) := by decide +kernel
theorem dX6_game_64 : decode cX6_game 64 = .ok (.iconst 4, 1) := by decide +kernel
theorem dX6_game_65 : decode cX6_game 65 = .ok (.invokestatic 187, 3) := by decide +kernel
theorem dX6_game_68 : decode cX6_game 68 = .ok (.ifCond .ne 5, 3) := by decide +kernel
theorem dX6_game_71 : decode cX6_game 71 = .ok (.iconst (-1), 1) := by decide +kernel
theorem dX6_game_72 : decode cX6_game 72 = .ok (.ireturn, 1) := by decide +kernel
theorem dX6_game_73 : decode cX6_game 73 = .ok (.aload_n 0, 1) := by decide +kernel
theorem dX6_game_74 : decode cX6_game 74 = .ok (.getfield 59, 3) := by decide +kernel
theorem dX6_game_77 : decode cX6_game 77 = .ok (.aload_n 0, 1) := by decide +kernel
theorem dX6_game_78 : decode cX6_game 78 = .ok (.getfield 184, 3) := by decide +kernel
theorem dX6_game_81 : decode cX6_game 81 = .ok (.iload_n 1, 1) := by decide +kernel
theorem dX6_game_82 : decode cX6_game 82 = .ok (.iastore, 1) := by decide +kernel
theorem dX6_game_83 : decode cX6_game 83 = .ok (.aload_n 0, 1) := by decide +kernel
theorem dX6_game_84 : decode cX6_game 84 = .ok (.getfield 62, 3) := by decide +kernel
theorem dX6_game_87 : decode cX6_game 87 = .ok (.aload_n 0, 1) := by decide +kernel
theorem dX6_game_88 : decode cX6_game 88 = .ok (.getfield 184, 3) := by decide +kernel
theorem dX6_game_91 : decode cX6_game 91 = .ok (.iload_n 2, 1) := by decide +kernel
theorem dX6_game_92 : decode cX6_game 92 = .ok (.iastore, 1) := by decide +kernel
theorem dX6_game_93 : decode cX6_game 93 = .ok (.aload_n 0, 1) := by decide +kernel
theorem dX6_game_94 : decode cX6_game 94 = .ok (.getfield 65, 3) := by decide +kernel
theorem dX6_game_97 : decode cX6_game 97 = .ok (.aload_n 0, 1) := by decide +kernel
theorem dX6_game_98 : decode cX6_game 98 = .ok (.getfield 184, 3) := by decide +kernel
theorem dX6_game_101 : decode cX6_game 101 = .ok (.iconst 1, 1) := by decide +kernel
theorem dX6_game_102 : decode cX6_game 102 = .ok (.iload_n 3, 1) := by decide +kernel
theorem dX6_game_103 : decode cX6_game 103 = .ok (.ishl, 1) := by decide +kernel
theorem dX6_game_104 : decode cX6_game 104 = .ok (.iconst 1, 1) := by decide +kernel
theorem dX6_game_105 : decode cX6_game 105 = .ok (.iload 4, 2) := by decide +kernel
theorem dX6_game_107 : decode cX6_game 107 = .ok (.ishl, 1) := by decide +kernel
theorem dX6_game_108 : decode cX6_game 108 = .ok (.ior, 1) := by decide +kernel
theorem dX6_game_109 : decode cX6_game 109 = .ok (.iastore, 1) := by decide +kernel
theorem dX6_game_110 : decode cX6_game 110 = .ok (.aload_n 0, 1) := by decide +kernel
theorem dX6_game_111 : decode cX6_game 111 = .ok (.getfield 68, 3) := by decide +kernel
theorem dX6_game_114 : decode cX6_game 114 = .ok (.aload_n 0, 1) := by decide +kernel
theorem dX6_game_115 : decode cX6_game 115 = .ok (.getfield 184, 3) := by decide +kernel
theorem dX6_game_118 : decode cX6_game 118 = .ok (.iload 5, 2) := by decide +kernel
theorem dX6_game_120 : decode cX6_game 120 = .ok (.iastore, 1) := by decide +kernel
theorem dX6_game_121 : decode cX6_game 121 = .ok (.iconst 2, 1) := by decide +kernel
theorem dX6_game_122 : decode cX6_game 122 = .ok (.aload_n 0, 1) := by decide +kernel
theorem dX6_game_123 : decode cX6_game 123 = .ok (.getfield 184, 3) := by decide +kernel
theorem dX6_game_126 : decode cX6_game 126 = .ok (.imul, 1) := by decide +kernel
theorem dX6_game_127 : decode cX6_game 127 = .ok (.istore 6, 2) := by decide +kernel
theorem dX6_game_129 : decode cX6_game 129 = .ok (.iload 6, 2) := by decide +kernel
theorem dX6_game_131 : decode cX6_game 131 = .ok (.iconst 2, 1) := by decide +kernel
theorem dX6_game_132 : decode cX6_game 132 = .ok (.aload_n 0, 1) := by decide +kernel
theorem dX6_game_133 : decode cX6_game 133 = .ok (.getfield 184, 3) := by decide +kernel
theorem dX6_game_136 : decode cX6_game 136 = .ok (.imul, 1) := by decide +kernel
theorem dX6_game_137 : decode cX6_game 137 = .ok (.iconst 2, 1) := by decide +kernel
theorem dX6_game_138 : decode cX6_game 138 = .ok (.iadd, 1) := by decide +kernel
theorem dX6_game_139 : decode cX6_game 139 = .ok (.if_icmp .ge 25, 3) := by decide +kernel
theorem dX6_game_142 : decode cX6_game 142 = .ok (.aload_n 0, 1) := by decide +kernel
theorem dX6_game_143 : decode cX6_game 143 = .ok (.getfield 71, 3) := by decide +kernel
theorem dX6_game_146 : decode cX6_game 146 = .ok (.iload 6, 2) := by decide +kernel
theorem dX6_game_148 : decode cX6_game 148 = .ok (.iconst (-1), 1) := by decide +kernel
theorem dX6_game_149 : decode cX6_game 149 = .ok (.iastore, 1) := by decide +kernel
theorem dX6_game_150 : decode cX6_game 150 = .ok (.aload_n 0, 1) := by decide +kernel
theorem dX6_game_151 : decode cX6_game 151 = .ok (.getfield 74, 3) := by decide +kernel
theorem dX6_game_154 : decode cX6_game 154 = .ok (.iload 6, 2) := by decide +kernel
theorem dX6_game_156 : decode cX6_game 156 = .ok (.iconst 0, 1) := by decide +kernel
theorem dX6_game_157 : decode cX6_game 157 = .ok (.iastore, 1) := by decide +kernel
theorem dX6_game_158 : decode cX6_game 158 = .ok (.iinc 6 1, 3) := by decide +kernel
theorem dX6_game_161 : decode cX6_game 161 = .ok (.goto (-32), 3) := by decide +kernel
theorem dX6_game_164 : decode cX6_game 164 = .ok (.aload_n 0, 1) := by decide +kernel
theorem dX6_game_165 : decode cX6_game 165 = .ok (.dup, 1) := by decide +kernel
theorem dX6_game_166 : decode cX6_game 166 = .ok (.getfield 184, 3) := by decide +kernel
theorem dX6_game_169 : decode cX6_game 169 = .ok (.iconst 1, 1) := by decide +kernel
theorem dX6_game_170 : decode cX6_game 170 = .ok (.iadd, 1) := by decide +kernel
theorem dX6_game_171 : decode cX6_game 171 = .ok (.putfield 184, 3) := by decide +kernel
theorem dX6_game_174 : decode cX6_game 174 = .ok (.aload_n 0, 1) := by decide +kernel
theorem dX6_game_175 : decode cX6_game 175 = .ok (.getfield 184, 3) := by decide +kernel
theorem dX6_game_178 : decode cX6_game 178 = .ok (.iconst 1, 1) := by decide +kernel
theorem dX6_game_179 : decode cX6_game 179 = .ok (.isub, 1) := by decide +kernel
theorem dX6_game_180 : decode cX6_game 180 = .ok (.ireturn, 1) := by decide +kernel
theorem dX6_less_0 : decode cX6_less 0 = .ok (.iload_n 0, 1) := by decide +kernel
theorem dX6_less_1 : decode cX6_less 1 = .ok (.iload_n 1, 1) := by decide +kernel
theorem dX6_less_2 : decode cX6_less 2 = .ok (.if_icmp .le 9, 3) := by decide +kernel
theorem dX6_less_5 : decode cX6_less 5 = .ok (.iload_n 0, 1) := by decide +kernel
theorem dX6_less_6 : decode cX6_less 6 = .ok (.iload_n 1, 1) := by decide +kernel
theorem dX6_less_7 : decode cX6_less 7 = .ok (.isub, 1) := by decide +kernel
theorem dX6_less_8 : decode cX6_less 8 = .ok (.goto 6, 3) := by decide +kernel
theorem dX6_less_11 : decode cX6_less 11 = .ok (.iload_n 1, 1) := by decide +kernel
theorem dX6_less_12 : decode cX6_less 12 = .ok (.iload_n 0, 1) := by decide +kernel
theorem dX6_less_13 : decode cX6_less 13 = .ok (.isub, 1) := by decide +kernel
theorem dX6_less_14 : decode cX6_less 14 = .ok (.ireturn, 1) := by decide +kernel
theorem dX6_miles_0 : decode cX6_miles 0 = .ok (.aload_n 0, 1) := by decide +kernel
theorem dX6_miles_1 : decode cX6_miles 1 = .ok (.getfield 28, 3) := by decide +kernel
theorem dX6_miles_4 : decode cX6_miles 4 = .ok (.iload_n 1, 1) := by decide +kernel
theorem dX6_miles_5 : decode cX6_miles 5 = .ok (.iaload, 1) := by decide +kernel
theorem dX6_miles_6 : decode cX6_miles 6 = .ok (.aload_n 0, 1) := by decide +kernel
theorem dX6_miles_7 : decode cX6_miles 7 = .ok (.getfield 59, 3) := by decide +kernel
theorem dX6_miles_10 : decode cX6_miles 10 = .ok (.iload_n 2, 1) := by decide +kernel
theorem dX6_miles_11 : decode cX6_miles 11 = .ok (.iconst 2, 1) := by decide +kernel
theorem dX6_miles_12 : decode cX6_miles 12 = .ok (.idiv, 1) := by decide +kernel
theorem dX6_miles_13 : decode cX6_miles 13 = .ok (.iaload, 1) := by decide +kernel
theorem dX6_miles_14 : decode cX6_miles 14 = .ok (.invokestatic 200, 3) := by decide +kernel
theorem dX6_miles_17 : decode cX6_miles 17 = .ok (.aload_n 0, 1) := by decide +kernel
theorem dX6_miles_18 : decode cX6_miles 18 = .ok (.getfield 31, 3) := by decide +kernel
theorem dX6_miles_21 : decode cX6_miles 21 = .ok (.iload_n 1, 1) := by decide +kernel
theorem dX6_miles_22 : decode cX6_miles 22 = .ok (.iaload, 1) := by decide +kernel
theorem dX6_miles_23 : decode cX6_miles 23 = .ok (.aload_n 0, 1) := by decide +kernel
theorem dX6_miles_24 : decode cX6_miles 24 = .ok (.getfield 62, 3) := by decide +kernel
theorem dX6_miles_27 : decode cX6_miles 27 = .ok (.iload_n 2, 1) := by decide +kernel
theorem dX6_miles_28 : decode cX6_miles 28 = .ok (.iconst 2, 1) := by decide +kernel
theorem dX6_miles_29 : decode cX6_miles 29 = .ok (.idiv, 1) := by decide +kernel
theorem dX6_miles_30 : decode cX6_miles 30 = .ok (.iaload, 1) := by decide +kernel
theorem dX6_miles_31 : decode cX6_miles 31 = .ok (.invokestatic 200, 3) := by decide +kernel
theorem dX6_miles_34 : decode cX6_miles 34 = .ok (.iadd, 1) := by decide +kernel
theorem dX6_miles_35 : decode cX6_miles 35 = .ok (.ireturn, 1) := by decide +kernel
theorem dX6_mayHave_0 : decode cX6_mayHave 0 = .ok (.iload_n 2, 1) := by decide +kernel
theorem dX6_mayHave_1 : decode cX6_mayHave 1 = .ok (.iconst 2, 1) := by decide +kernel
theorem dX6_mayHave_2 : decode cX6_mayHave 2 = .ok (.idiv, 1) := by decide +kernel
theorem dX6_mayHave_3 : decode cX6_mayHave 3 = .ok (.istore_n 3, 1) := by decide +kernel
theorem dX6_mayHave_4 : decode cX6_mayHave 4 = .ok (.aload_n 0, 1) := by decide +kernel
theorem dX6_mayHave_5 : decode cX6_mayHave 5 = .ok (.getfield 55, 3) := by decide +kernel
theorem dX6_mayHave_8 : decode cX6_mayHave 8 = .ok (.bipush 100, 2) := by decide +kernel
theorem dX6_mayHave_10 : decode cX6_mayHave 10 = .ok (.iload_n 1, 1) := by decide +kernel
theorem dX6_mayHave_11 : decode cX6_mayHave 11 = .ok (.imul, 1) := by decide +kernel
theorem dX6_mayHave_12 : decode cX6_mayHave 12 = .ok (.aload_n 0, 1) := by decide +kernel
theorem dX6_mayHave_13 : decode cX6_mayHave 13 = .ok (.getfield 194, 3) := by decide +kernel
theorem dX6_mayHave_16 : decode cX6_mayHave 16 = .ok (.iadd, 1) := by decide +kernel
theorem dX6_mayHave_17 : decode cX6_mayHave 17 = .ok (.baload, 1) := by decide +kernel
theorem dX6_mayHave_18 : decode cX6_mayHave 18 = .ok (.ifCond .ne 53, 3) := by decide +kernel
theorem dX6_mayHave_21 : decode cX6_mayHave 21 = .ok (.aload_n 0, 1) := by decide +kernel
theorem dX6_mayHave_22 : decode cX6_mayHave 22 = .ok (.getfield 37, 3) := by decide +kernel
theorem dX6_mayHave_25 : decode cX6_mayHave 25 = .ok (.iload_n 1, 1) := by decide +kernel
theorem dX6_mayHave_26 : decode cX6_mayHave 26 = .ok (.iaload, 1) := by decide +kernel
theorem dX6_mayHave_27 : decode cX6_mayHave 27 = .ok (.aload_n 0, 1) := by decide +kernel
theorem dX6_mayHave_28 : decode cX6_mayHave 28 = .ok (.getfield 65, 3) := by decide +kernel
theorem dX6_mayHave_31 : decode cX6_mayHave 31 = .ok (.iload_n 3, 1) := by decide +kernel
theorem dX6_mayHave_32 : decode cX6_mayHave 32 = .ok (.iaload, 1) := by decide +kernel
theorem dX6_mayHave_33 : decode cX6_mayHave 33 = .ok (.iand, 1) := by decide +kernel
theorem dX6_mayHave_34 : decode cX6_mayHave 34 = .ok (.ifCond .ne 37, 3) := by decide +kernel
theorem dX6_mayHave_37 : decode cX6_mayHave 37 = .ok (.aload_n 0, 1) := by decide +kernel
theorem dX6_mayHave_38 : decode cX6_mayHave 38 = .ok (.getfield 34, 3) := by decide +kernel
theorem dX6_mayHave_41 : decode cX6_mayHave 41 = .ok (.iload_n 1, 1) := by decide +kernel
theorem dX6_mayHave_42 : decode cX6_mayHave 42 = .ok (.iaload, 1) := by decide +kernel
theorem dX6_mayHave_43 : decode cX6_mayHave 43 = .ok (.aload_n 0, 1) := by decide +kernel
theorem dX6_mayHave_44 : decode cX6_mayHave 44 = .ok (.getfield 68, 3) := by decide +kernel
theorem dX6_mayHave_47 : decode cX6_mayHave 47 = .ok (.iload_n 3, 1) := by decide +kernel
theorem dX6_mayHave_48 : decode cX6_mayHave 48 = .ok (.iaload, 1) := by decide +kernel
theorem dX6_mayHave_49 : decode cX6_mayHave 49 = .ok (.iload_n 2, 1) := by decide +kernel
theorem dX6_mayHave_50 : decode cX6_mayHave 50 = .ok (.iconst 2, 1) := by decide +kernel
theorem dX6_mayHave_51 : decode cX6_mayHave 51 = .ok (.irem, 1) := by decide +kernel
theorem dX6_mayHave_52 : decode cX6_mayHave 52 = .ok (.iadd, 1) := by decide +kernel
theorem dX6_mayHave_53 : decode cX6_mayHave 53 = .ok (.if_icmp .gt 18, 3) := by decide +kernel
theorem dX6_mayHave_56 : decode cX6_mayHave 56 = .ok (.aload_n 0, 1) := by decide +kernel
theorem dX6_mayHave_57 : decode cX6_mayHave 57 = .ok (.iload_n 1, 1) := by decide +kernel
theorem dX6_mayHave_58 : decode cX6_mayHave 58 = .ok (.iload_n 2, 1) := by decide +kernel
theorem dX6_mayHave_59 : decode cX6_mayHave 59 = .ok (.invokevirtual 204, 3) := by decide +kernel
theorem dX6_mayHave_62 : decode cX6_mayHave 62 = .ok (.aload_n 0, 1) := by decide +kernel
theorem dX6_mayHave_63 : decode cX6_mayHave 63 = .ok (.getfield 13, 3) := by decide +kernel
theorem dX6_mayHave_66 : decode cX6_mayHave 66 = .ok (.iconst 2, 1) := by decide +kernel
theorem dX6_mayHave_67 : decode cX6_mayHave 67 = .ok (.iaload, 1) := by decide +kernel
theorem dX6_mayHave_68 : decode cX6_mayHave 68 = .ok (.if_icmp .le 5, 3) := by decide +kernel
theorem dX6_mayHave_71 : decode cX6_mayHave 71 = .ok (.iconst 0, 1) := by decide +kernel
theorem dX6_mayHave_72 : decode cX6_mayHave 72 = .ok (.ireturn, 1) := by decide +kernel
theorem dX6_mayHave_73 : decode cX6_mayHave 73 = .ok (.iconst 0, 1) := by decide +kernel
theorem dX6_mayHave_74 : decode cX6_mayHave 74 = .ok (.istore 4, 2) := by decide +kernel
theorem dX6_mayHave_76 : decode cX6_mayHave 76 = .ok (.iload 4, 2) := by decide +kernel
theorem dX6_mayHave_78 : decode cX6_mayHave 78 = .ok (.aload_n 0, 1) := by decide +kernel
theorem dX6_mayHave_79 : decode cX6_mayHave 79 = .ok (.getfield 13, 3) := by decide +kernel
theorem dX6_mayHave_82 : decode cX6_mayHave 82 = .ok (.iconst 0, 1) := by decide +kernel
theorem dX6_mayHave_83 : decode cX6_mayHave 83 = .ok (.iaload, 1) := by decide +kernel
theorem dX6_mayHave_84 : decode cX6_mayHave 84 = .ok (.if_icmp .ge 40, 3) := by decide +kernel
theorem dX6_mayHave_87 : decode cX6_mayHave 87 = .ok (.iload 4, 2) := by decide +kernel
theorem dX6_mayHave_89 : decode cX6_mayHave 89 = .ok (.aload_n 0, 1) := by decide +kernel
theorem dX6_mayHave_90 : decode cX6_mayHave 90 = .ok (.getfield 194, 3) := by decide +kernel
theorem dX6_mayHave_93 : decode cX6_mayHave 93 = .ok (.if_icmp .ge 31, 3) := by decide +kernel
theorem dX6_mayHave_96 : decode cX6_mayHave 96 = .ok (.aload_n 0, 1) := by decide +kernel
theorem dX6_mayHave_97 : decode cX6_mayHave 97 = .ok (.getfield 52, 3) := by decide +kernel
theorem dX6_mayHave_100 : decode cX6_mayHave 100 = .ok (.bipush 100, 2) := by decide +kernel
theorem dX6_mayHave_102 : decode cX6_mayHave 102 = .ok (.iload_n 1, 1) := by decide +kernel
theorem dX6_mayHave_103 : decode cX6_mayHave 103 = .ok (.imul, 1) := by decide +kernel
theorem dX6_mayHave_104 : decode cX6_mayHave 104 = .ok (.aload_n 0, 1) := by decide +kernel
theorem dX6_mayHave_105 : decode cX6_mayHave 105 = .ok (.getfield 194, 3) := by decide +kernel
theorem dX6_mayHave_108 : decode cX6_mayHave 108 = .ok (.iadd, 1) := by decide +kernel
theorem dX6_mayHave_109 : decode cX6_mayHave 109 = .ok (.iconst 1, 1) := by decide +kernel
theorem dX6_mayHave_110 : decode cX6_mayHave 110 = .ok (.isub, 1) := by decide +kernel
theorem dX6_mayHave_111 : decode cX6_mayHave 111 = .ok (.iload 4, 2) := by decide +kernel
theorem dX6_mayHave_113 : decode cX6_mayHave 113 = .ok (.isub, 1) := by decide +kernel
theorem dX6_mayHave_114 : decode cX6_mayHave 114 = .ok (.iaload, 1) := by decide +kernel
theorem dX6_mayHave_115 : decode cX6_mayHave 115 = .ok (.ifCond .eq 9, 3) := by decide +kernel
theorem dX6_mayHave_118 : decode cX6_mayHave 118 = .ok (.iinc 4 1, 3) := by decide +kernel
theorem dX6_mayHave_121 : decode cX6_mayHave 121 = .ok (.goto (-45), 3) := by decide +kernel
theorem dX6_mayHave_124 : decode cX6_mayHave 124 = .ok (.iload 4, 2) := by decide +kernel
theorem dX6_mayHave_126 : decode cX6_mayHave 126 = .ok (.aload_n 0, 1) := by decide +kernel
theorem dX6_mayHave_127 : decode cX6_mayHave 127 = .ok (.getfield 13, 3) := by decide +kernel
theorem dX6_mayHave_130 : decode cX6_mayHave 130 = .ok (.iconst 0, 1) := by decide +kernel
theorem dX6_mayHave_131 : decode cX6_mayHave 131 = .ok (.iaload, 1) := by decide +kernel
theorem dX6_mayHave_132 : decode cX6_mayHave 132 = .ok (.if_icmp .ne 5, 3) := by decide +kernel
theorem dX6_mayHave_135 : decode cX6_mayHave 135 = .ok (.iconst 0, 1) := by decide +kernel
theorem dX6_mayHave_136 : decode cX6_mayHave 136 = .ok (.ireturn, 1) := by decide +kernel
theorem dX6_mayHave_137 : decode cX6_mayHave 137 = .ok (.iconst 1, 1) := by decide +kernel
theorem dX6_mayHave_138 : decode cX6_mayHave 138 = .ok (.istore 5, 2) := by decide +kernel
theorem dX6_mayHave_140 : decode cX6_mayHave 140 = .ok (.iload 5, 2) := by decide +kernel
theorem dX6_mayHave_142 : decode cX6_mayHave 142 = .ok (.aload_n 0, 1) := by decide +kernel
theorem dX6_mayHave_143 : decode cX6_mayHave 143 = .ok (.getfield 13, 3) := by decide +kernel
theorem dX6_mayHave_146 : decode cX6_mayHave 146 = .ok (.iconst 1, 1) := by decide +kernel
theorem dX6_mayHave_147 : decode cX6_mayHave 147 = .ok (.iaload, 1) := by decide +kernel
theorem dX6_mayHave_148 : decode cX6_mayHave 148 = .ok (.if_icmp .gt 47, 3) := by decide +kernel
theorem dX6_mayHave_151 : decode cX6_mayHave 151 = .ok (.iload 5, 2) := by decide +kernel
theorem dX6_mayHave_153 : decode cX6_mayHave 153 = .ok (.aload_n 0, 1) := by decide +kernel
theorem dX6_mayHave_154 : decode cX6_mayHave 154 = .ok (.getfield 194, 3) := by decide +kernel
theorem dX6_mayHave_157 : decode cX6_mayHave 157 = .ok (.if_icmp .gt 38, 3) := by decide +kernel
theorem dX6_mayHave_160 : decode cX6_mayHave 160 = .ok (.aload_n 0, 1) := by decide +kernel
theorem dX6_mayHave_161 : decode cX6_mayHave 161 = .ok (.getfield 52, 3) := by decide +kernel
theorem dX6_mayHave_164 : decode cX6_mayHave 164 = .ok (.bipush 100, 2) := by decide +kernel
theorem dX6_mayHave_166 : decode cX6_mayHave 166 = .ok (.iload_n 1, 1) := by decide +kernel
theorem dX6_mayHave_167 : decode cX6_mayHave 167 = .ok (.imul, 1) := by decide +kernel
theorem dX6_mayHave_168 : decode cX6_mayHave 168 = .ok (.aload_n 0, 1) := by decide +kernel
theorem dX6_mayHave_169 : decode cX6_mayHave 169 = .ok (.getfield 194, 3) := by decide +kernel
theorem dX6_mayHave_172 : decode cX6_mayHave 172 = .ok (.iadd, 1) := by decide +kernel
theorem dX6_mayHave_173 : decode cX6_mayHave 173 = .ok (.iload 5, 2) := by decide +kernel
theorem dX6_mayHave_175 : decode cX6_mayHave 175 = .ok (.isub, 1) := by decide +kernel
theorem dX6_mayHave_176 : decode cX6_mayHave 176 = .ok (.iaload, 1) := by decide +kernel
theorem dX6_mayHave_177 : decode cX6_mayHave 177 = .ok (.aload_n 0, 1) := by decide +kernel
theorem dX6_mayHave_178 : decode cX6_mayHave 178 = .ok (.getfield 65, 3) := by decide +kernel
theorem dX6_mayHave_181 : decode cX6_mayHave 181 = .ok (.iload_n 3, 1) := by decide +kernel
theorem dX6_mayHave_182 : decode cX6_mayHave 182 = .ok (.iaload, 1) := by decide +kernel
theorem dX6_mayHave_183 : decode cX6_mayHave 183 = .ok (.iand, 1) := by decide +kernel
theorem dX6_mayHave_184 : decode cX6_mayHave 184 = .ok (.ifCond .eq 5, 3) := by decide +kernel
theorem dX6_mayHave_187 : decode cX6_mayHave 187 = .ok (.iconst 0, 1) := by decide +kernel
theorem dX6_mayHave_188 : decode cX6_mayHave 188 = .ok (.ireturn, 1) := by decide +kernel
theorem dX6_mayHave_189 : decode cX6_mayHave 189 = .ok (.iinc 5 1, 3) := by decide +kernel
theorem dX6_mayHave_192 : decode cX6_mayHave 192 = .ok (.goto (-52), 3) := by decide +kernel
theorem dX6_mayHave_195 : decode cX6_mayHave 195 = .ok (.iconst 1, 1) := by decide +kernel
theorem dX6_mayHave_196 : decode cX6_mayHave 196 = .ok (.ireturn, 1) := by decide +kernel
theorem dX6_costOf_0 : decode cX6_costOf 0 = .ok (.aload_n 0, 1) := by decide +kernel
theorem dX6_costOf_1 : decode cX6_costOf 1 = .ok (.iload_n 1, 1) := by decide +kernel
theorem dX6_costOf_2 : decode cX6_costOf 2 = .ok (.iload_n 2, 1) := by decide +kernel
theorem dX6_costOf_3 : decode cX6_costOf 3 = .ok (.invokevirtual 204, 3) := by decide +kernel
theorem dX6_costOf_6 : decode cX6_costOf 6 = .ok (.aload_n 0, 1) := by decide +kernel
theorem dX6_costOf_7 : decode cX6_costOf 7 = .ok (.getfield 13, 3) := by decide +kernel
theorem dX6_costOf_10 : decode cX6_costOf 10 = .ok (.iconst 3, 1) := by decide +kernel
theorem dX6_costOf_11 : decode cX6_costOf 11 = .ok (.iaload, 1) := by decide +kernel
theorem dX6_costOf_12 : decode cX6_costOf 12 = .ok (.aload_n 0, 1) := by decide +kernel
theorem dX6_costOf_13 : decode cX6_costOf 13 = .ok (.getfield 49, 3) := by decide +kernel
theorem dX6_costOf_16 : decode cX6_costOf 16 = .ok (.iload_n 1, 1) := by decide +kernel
theorem dX6_costOf_17 : decode cX6_costOf 17 = .ok (.iaload, 1) := by decide +kernel
theorem dX6_costOf_18 : decode cX6_costOf 18 = .ok (.imul, 1) := by decide +kernel
theorem dX6_costOf_19 : decode cX6_costOf 19 = .ok (.iadd, 1) := by decide +kernel
theorem dX6_costOf_20 : decode cX6_costOf 20 = .ok (.ireturn, 1) := by decide +kernel
theorem dX6_may_0 : decode cX6_may 0 = .ok (.aload_n 0, 1) := by decide +kernel
theorem dX6_may_1 : decode cX6_may 1 = .ok (.iconst 0, 1) := by decide +kernel
theorem dX6_may_2 : decode cX6_may 2 = .ok (.putfield 101, 3) := by decide +kernel
theorem dX6_may_5 : decode cX6_may 5 = .ok (.aload_n 0, 1) := by decide +kernel
theorem dX6_may_6 : decode cX6_may 6 = .ok (.iload_n 1, 1) := by decide +kernel
theorem dX6_may_7 : decode cX6_may 7 = .ok (.invokevirtual 191, 3) := by decide +kernel
theorem dX6_may_10 : decode cX6_may 10 = .ok (.ifCond .eq 24, 3) := by decide +kernel
theorem dX6_may_13 : decode cX6_may 13 = .ok (.aload_n 0, 1) := by decide +kernel
theorem dX6_may_14 : decode cX6_may 14 = .ok (.iload_n 2, 1) := by decide +kernel
theorem dX6_may_15 : decode cX6_may 15 = .ok (.invokevirtual 207, 3) := by decide +kernel
theorem dX6_may_18 : decode cX6_may 18 = .ok (.ifCond .eq 16, 3) := by decide +kernel
theorem dX6_may_21 : decode cX6_may 21 = .ok (.aload_n 0, 1) := by decide +kernel
theorem dX6_may_22 : decode cX6_may 22 = .ok (.iload_n 1, 1) := by decide +kernel
theorem dX6_may_23 : decode cX6_may 23 = .ok (.iload_n 2, 1) := by decide +kernel
theorem dX6_may_24 : decode cX6_may 24 = .ok (.invokevirtual 210, 3) := by decide +kernel
theorem dX6_may_27 : decode cX6_may 27 = .ok (.ifCond .eq 7, 3) := by decide +kernel
theorem dX6_may_30 : decode cX6_may 30 = .ok (.iconst 1, 1) := by decide +kernel
theorem dX6_may_31 : decode cX6_may 31 = .ok (.goto 4, 3) := by decide +kernel
theorem dX6_may_34 : decode cX6_may 34 = .ok (.iconst 0, 1) := by decide +kernel
theorem dX6_may_35 : decode cX6_may 35 = .ok (.ireturn, 1) := by decide +kernel
theorem dX6_cost_0 : decode cX6_cost 0 = .ok (.aload_n 0, 1) := by decide +kernel
theorem dX6_cost_1 : decode cX6_cost 1 = .ok (.iconst 0, 1) := by decide +kernel
theorem dX6_cost_2 : decode cX6_cost 2 = .ok (.putfield 101, 3) := by decide +kernel
theorem dX6_cost_5 : decode cX6_cost 5 = .ok (.aload_n 0, 1) := by decide +kernel
theorem dX6_cost_6 : decode cX6_cost 6 = .ok (.iload_n 1, 1) := by decide +kernel
theorem dX6_cost_7 : decode cX6_cost 7 = .ok (.invokevirtual 191, 3) := by decide +kernel
theorem dX6_cost_10 : decode cX6_cost 10 = .ok (.ifCond .eq 20, 3) := by decide +kernel
theorem dX6_cost_13 : decode cX6_cost 13 = .ok (.aload_n 0, 1) := by decide +kernel
theorem dX6_cost_14 : decode cX6_cost 14 = .ok (.iload_n 2, 1) := by decide +kernel
theorem dX6_cost_15 : decode cX6_cost 15 = .ok (.invokevirtual 207, 3) := by decide +kernel
theorem dX6_cost_18 : decode cX6_cost 18 = .ok (.ifCond .eq 12, 3) := by decide +kernel
theorem dX6_cost_21 : decode cX6_cost 21 = .ok (.aload_n 0, 1) := by decide +kernel
theorem dX6_cost_22 : decode cX6_cost 22 = .ok (.iload_n 1, 1) := by decide +kernel
theorem dX6_cost_23 : decode cX6_cost 23 = .ok (.iload_n 2, 1) := by decide +kernel
theorem dX6_cost_24 : decode cX6_cost 24 = .ok (.invokevirtual 214, 3) := by decide +kernel
theorem dX6_cost_27 : decode cX6_cost 27 = .ok (.goto 4, 3) := by decide +kernel
theorem dX6_cost_30 : decode cX6_cost 30 = .ok (.iconst (-1), 1) := by decide +kernel
theorem dX6_cost_31 : decode cX6_cost 31 = .ok (.ireturn, 1) := by decide +kernel
theorem dX6_pays_0 : decode cX6_pays 0 = .ok (.aload_n 0, 1) := by decide +kernel
theorem dX6_pays_1 : decode cX6_pays 1 = .ok (.getfield 71, 3) := by decide +kernel
theorem dX6_pays_4 : decode cX6_pays 4 = .ok (.iload_n 1, 1) := by decide +kernel
theorem dX6_pays_5 : decode cX6_pays 5 = .ok (.iaload, 1) := by decide +kernel
theorem dX6_pays_6 : decode cX6_pays 6 = .ok (.iconst (-1), 1) := by decide +kernel
theorem dX6_pays_7 : decode cX6_pays 7 = .ok (.if_icmp .ne 8, 3) := by decide +kernel
theorem dX6_pays_10 : decode cX6_pays 10 = .ok (.ldc 217, 2) := by decide +kernel
theorem dX6_pays_12 : decode cX6_pays 12 = .ok (.goto 19, 3) := by decide +kernel
theorem dX6_pays_15 : decode cX6_pays 15 = .ok (.aload_n 0, 1) := by decide +kernel
theorem dX6_pays_16 : decode cX6_pays 16 = .ok (.getfield 83, 3) := by decide +kernel
theorem dX6_pays_19 : decode cX6_pays 19 = .ok (.bipush 20, 2) := by decide +kernel
theorem dX6_pays_21 : decode cX6_pays 21 = .ok (.iload_n 1, 1) := by decide +kernel
theorem dX6_pays_22 : decode cX6_pays 22 = .ok (.imul, 1) := by decide +kernel
theorem dX6_pays_23 : decode cX6_pays 23 = .ok (.aload_n 0, 1) := by decide +kernel
theorem dX6_pays_24 : decode cX6_pays 24 = .ok (.getfield 71, 3) := by decide +kernel
theorem dX6_pays_27 : decode cX6_pays 27 = .ok (.iload_n 1, 1) := by decide +kernel
theorem dX6_pays_28 : decode cX6_pays 28 = .ok (.iaload, 1) := by decide +kernel
theorem dX6_pays_29 : decode cX6_pays 29 = .ok (.iadd, 1) := by decide +kernel
theorem dX6_pays_30 : decode cX6_pays 30 = .ok (.iaload, 1) := by decide +kernel
theorem dX6_pays_31 : decode cX6_pays 31 = .ok (.ireturn, 1) := by decide +kernel
theorem dX6_seek_0 : decode cX6_seek 0 = .ok (.iconst 0, 1) := by decide +kernel
theorem dX6_seek_1 : decode cX6_seek 1 = .ok (.istore_n 2, 1) := by decide +kernel
theorem dX6_seek_2 : decode cX6_seek 2 = .ok (.iload_n 2, 1) := by decide +kernel
theorem dX6_seek_3 : decode cX6_seek 3 = .ok (.iload_n 1, 1) := by decide +kernel
theorem dX6_seek_4 : decode cX6_seek 4 = .ok (.if_icmp .ge 24, 3) := by decide +kernel
theorem dX6_seek_7 : decode cX6_seek 7 = .ok (.aload_n 0, 1) := by decide +kernel
theorem dX6_seek_8 : decode cX6_seek 8 = .ok (.getfield 77, 3) := by decide +kernel
theorem dX6_seek_11 : decode cX6_seek 11 = .ok (.iload_n 2, 1) := by decide +kernel
theorem dX6_seek_12 : decode cX6_seek 12 = .ok (.ldc 217, 2) := by decide +kernel
theorem dX6_seek_14 : decode cX6_seek 14 = .ok (.iastore, 1) := by decide +kernel
theorem dX6_seek_15 : decode cX6_seek 15 = .ok (.aload_n 0, 1) := by decide +kernel
theorem dX6_seek_16 : decode cX6_seek 16 = .ok (.getfield 80, 3) := by decide +kernel
theorem dX6_seek_19 : decode cX6_seek 19 = .ok (.iload_n 2, 1) := by decide +kernel
theorem dX6_seek_20 : decode cX6_seek 20 = .ok (.iconst (-1), 1) := by decide +kernel
theorem dX6_seek_21 : decode cX6_seek 21 = .ok (.iastore, 1) := by decide +kernel
theorem dX6_seek_22 : decode cX6_seek 22 = .ok (.iinc 2 1, 3) := by decide +kernel
theorem dX6_seek_25 : decode cX6_seek 25 = .ok (.goto (-23), 3) := by decide +kernel
theorem dX6_seek_28 : decode cX6_seek 28 = .ok (.iconst 1, 1) := by decide +kernel
theorem dX6_seek_29 : decode cX6_seek 29 = .ok (.istore_n 2, 1) := by decide +kernel
theorem dX6_seek_30 : decode cX6_seek 30 = .ok (.iload_n 2, 1) := by decide +kernel
theorem dX6_seek_31 : decode cX6_seek 31 = .ok (.ifCond .eq 159, 3) := by decide +kernel
theorem dX6_seek_34 : decode cX6_seek 34 = .ok (.iconst 0, 1) := by decide +kernel
theorem dX6_seek_35 : decode cX6_seek 35 = .ok (.istore_n 2, 1) := by decide +kernel
theorem dX6_seek_36 : decode cX6_seek 36 = .ok (.iconst 0, 1) := by decide +kernel
theorem dX6_seek_37 : decode cX6_seek 37 = .ok (.istore_n 3, 1) := by decide +kernel
theorem dX6_seek_38 : decode cX6_seek 38 = .ok (.iload_n 3, 1) := by decide +kernel
theorem dX6_seek_39 : decode cX6_seek 39 = .ok (.iload_n 1, 1) := by decide +kernel
theorem dX6_seek_40 : decode cX6_seek 40 = .ok (.if_icmp .ge 147, 3) := by decide +kernel
theorem dX6_seek_43 : decode cX6_seek 43 = .ok (.iconst 0, 1) := by decide +kernel
theorem dX6_seek_44 : decode cX6_seek 44 = .ok (.istore 4, 2) := by decide +kernel
theorem dX6_seek_46 : decode cX6_seek 46 = .ok (.iload 4, 2) := by decide +kernel
theorem dX6_seek_48 : decode cX6_seek 48 = .ok (.aload_n 0, 1) := by decide +kernel
theorem dX6_seek_49 : decode cX6_seek 49 = .ok (.getfield 181, 3) := by decide +kernel
theorem dX6_seek_52 : decode cX6_seek 52 = .ok (.if_icmp .ge 129, 3) := by decide +kernel
theorem dX6_seek_55 : decode cX6_seek 55 = .ok (.aload_n 0, 1) := by decide +kernel
theorem dX6_seek_56 : decode cX6_seek 56 = .ok (.getfield 89, 3) := by decide +kernel
theorem dX6_seek_59 : decode cX6_seek 59 = .ok (.iload_n 3, 1) := by decide +kernel
theorem dX6_seek_60 : decode cX6_seek 60 = .ok (.baload, 1) := by decide +kernel
theorem dX6_seek_61 : decode cX6_seek 61 = .ok (.ifCond .ne 120, 3) := by decide +kernel
theorem dX6_seek_64 : decode cX6_seek 64 = .ok (.aload_n 0, 1) := by decide +kernel
theorem dX6_seek_65 : decode cX6_seek 65 = .ok (.getfield 83, 3) := by decide +kernel
theorem dX6_seek_68 : decode cX6_seek 68 = .ok (.bipush 20, 2) := by decide +kernel
theorem dX6_seek_70 : decode cX6_seek 70 = .ok (.iload_n 3, 1) := by decide +kernel
theorem dX6_seek_71 : decode cX6_seek 71 = .ok (.imul, 1) := by decide +kernel
theorem dX6_seek_72 : decode cX6_seek 72 = .ok (.iload 4, 2) := by decide +kernel
theorem dX6_seek_74 : decode cX6_seek 74 = .ok (.iadd, 1) := by decide +kernel
theorem dX6_seek_75 : decode cX6_seek 75 = .ok (.iaload, 1) := by decide +kernel
theorem dX6_seek_76 : decode cX6_seek 76 = .ok (.ldc 218, 2) := by decide +kernel
theorem dX6_seek_78 : decode cX6_seek 78 = .ok (.if_icmp .eq 97, 3) := by decide +kernel
theorem dX6_seek_81 : decode cX6_seek 81 = .ok (.aload_n 0, 1) := by decide +kernel
theorem dX6_seek_82 : decode cX6_seek 82 = .ok (.getfield 71, 3) := by decide +kernel
theorem dX6_seek_85 : decode cX6_seek 85 = .ok (.iload_n 3, 1) := by decide +kernel
theorem dX6_seek_86 : decode cX6_seek 86 = .ok (.iaload, 1) := by decide +kernel
theorem dX6_seek_87 : decode cX6_seek 87 = .ok (.iload 4, 2) := by decide +kernel
theorem dX6_seek_89 : decode cX6_seek 89 = .ok (.if_icmp .ne 6, 3) := by decide +kernel
theorem dX6_seek_92 : decode cX6_seek 92 = .ok (.goto 83, 3) := by decide +kernel
theorem dX6_seek_95 : decode cX6_seek 95 = .ok (.aload_n 0, 1) := by decide +kernel
theorem dX6_seek_96 : decode cX6_seek 96 = .ok (.getfield 86, 3) := by decide +kernel
theorem dX6_seek_99 : decode cX6_seek 99 = .ok (.iload 4, 2) := by decide +kernel
theorem dX6_seek_101 : decode cX6_seek 101 = .ok (.iaload, 1) := by decide +kernel
theorem dX6_seek_102 : decode cX6_seek 102 = .ok (.istore 5, 2) := by decide +kernel
theorem dX6_seek_104 : decode cX6_seek 104 = .ok (.aload_n 0, 1) := by decide +kernel
theorem dX6_seek_105 : decode cX6_seek 105 = .ok (.getfield 83, 3) := by decide +kernel
theorem dX6_seek_108 : decode cX6_seek 108 = .ok (.bipush 20, 2) := by decide +kernel
theorem dX6_seek_110 : decode cX6_seek 110 = .ok (.iload_n 3, 1) := by decide +kernel
theorem dX6_seek_111 : decode cX6_seek 111 = .ok (.imul, 1) := by decide +kernel
theorem dX6_seek_112 : decode cX6_seek 112 = .ok (.iload 4, 2) := by decide +kernel
theorem dX6_seek_114 : decode cX6_seek 114 = .ok (.iadd, 1) := by decide +kernel
theorem dX6_seek_115 : decode cX6_seek 115 = .ok (.iaload, 1) := by decide +kernel
theorem dX6_seek_116 : decode cX6_seek 116 = .ok (.iload 5, 2) := by decide +kernel
theorem dX6_seek_118 : decode cX6_seek 118 = .ok (.iconst (-1), 1) := by decide +kernel
theorem dX6_seek_119 : decode cX6_seek 119 = .ok (.if_icmp .ne 7, 3) := by decide +kernel
theorem dX6_seek_122 : decode cX6_seek 122 = .ok (.iconst 0, 1) := by decide +kernel
theorem dX6_seek_123 : decode cX6_seek 123 = .ok (.goto 17, 3) := by decide +kernel
theorem dX6_seek_126 : decode cX6_seek 126 = .ok (.aload_n 0, 1) := by decide +kernel
theorem dX6_seek_127 : decode cX6_seek 127 = .ok (.getfield 77, 3) := by decide +kernel
theorem dX6_seek_130 : decode cX6_seek 130 = .ok (.iload 5, 2) := by decide +kernel
theorem dX6_seek_132 : decode cX6_seek 132 = .ok (.iaload, 1) := by decide +kernel
theorem dX6_seek_133 : decode cX6_seek 133 = .ok (.aload_n 0, 1) := by decide +kernel
theorem dX6_seek_134 : decode cX6_seek 134 = .ok (.iload 5, 2) := by decide +kernel
theorem dX6_seek_136 : decode cX6_seek 136 = .ok (.invokevirtual 219, 3) := by decide +kernel
theorem dX6_seek_139 : decode cX6_seek 139 = .ok (.isub, 1) := by decide +kernel
theorem dX6_seek_140 : decode cX6_seek 140 = .ok (.iadd, 1) := by decide +kernel
theorem dX6_seek_141 : decode cX6_seek 141 = .ok (.istore 6, 2) := by decide +kernel
theorem dX6_seek_143 : decode cX6_seek 143 = .ok (.iload 6, 2) := by decide +kernel
theorem dX6_seek_145 : decode cX6_seek 145 = .ok (.aload_n 0, 1) := by decide +kernel
theorem dX6_seek_146 : decode cX6_seek 146 = .ok (.getfield 77, 3) := by decide +kernel
theorem dX6_seek_149 : decode cX6_seek 149 = .ok (.iload_n 3, 1) := by decide +kernel
theorem dX6_seek_150 : decode cX6_seek 150 = .ok (.iaload, 1) := by decide +kernel
theorem dX6_seek_151 : decode cX6_seek 151 = .ok (.if_icmp .lt 6, 3) := by decide +kernel
theorem dX6_seek_154 : decode cX6_seek 154 = .ok (.goto 21, 3) := by decide +kernel
theorem dX6_seek_157 : decode cX6_seek 157 = .ok (.aload_n 0, 1) := by decide +kernel
theorem dX6_seek_158 : decode cX6_seek 158 = .ok (.getfield 77, 3) := by decide +kernel
theorem dX6_seek_161 : decode cX6_seek 161 = .ok (.iload_n 3, 1) := by decide +kernel
theorem dX6_seek_162 : decode cX6_seek 162 = .ok (.iload 6, 2) := by decide +kernel
theorem dX6_seek_164 : decode cX6_seek 164 = .ok (.iastore, 1) := by decide +kernel
theorem dX6_seek_165 : decode cX6_seek 165 = .ok (.aload_n 0, 1) := by decide +kernel
theorem dX6_seek_166 : decode cX6_seek 166 = .ok (.getfield 80, 3) := by decide +kernel
theorem dX6_seek_169 : decode cX6_seek 169 = .ok (.iload_n 3, 1) := by decide +kernel
theorem dX6_seek_170 : decode cX6_seek 170 = .ok (.iload 4, 2) := by decide +kernel
theorem dX6_seek_172 : decode cX6_seek 172 = .ok (.iastore, 1) := by decide +kernel
theorem dX6_seek_173 : decode cX6_seek 173 = .ok (.iconst 1, 1) := by decide +kernel
theorem dX6_seek_174 : decode cX6_seek 174 = .ok (.istore_n 2, 1) := by decide +kernel
theorem dX6_seek_175 : decode cX6_seek 175 = .ok (.iinc 4 1, 3) := by decide +kernel
theorem dX6_seek_178 : decode cX6_seek 178 = .ok (.goto (-132), 3) := by decide +kernel
theorem dX6_seek_181 : decode cX6_seek 181 = .ok (.iinc 3 1, 3) := by decide +kernel
theorem dX6_seek_184 : decode cX6_seek 184 = .ok (.goto (-146), 3) := by decide +kernel
theorem dX6_seek_187 : decode cX6_seek 187 = .ok (.goto (-157), 3) := by decide +kernel
theorem dX6_seek_190 : decode cX6_seek 190 = .ok (.return_, 1) := by decide +kernel
theorem dX6_change_0 : decode cX6_change 0 = .ok (.iload_n 1, 1) := by decide +kernel
theorem dX6_change_1 : decode cX6_change 1 = .ok (.istore_n 2, 1) := by decide +kernel
theorem dX6_change_2 : decode cX6_change 2 = .ok (.iload_n 2, 1) := by decide +kernel
theorem dX6_change_3 : decode cX6_change 3 = .ok (.iconst (-1), 1) := by decide +kernel
theorem dX6_change_4 : decode cX6_change 4 = .ok (.if_icmp .eq 52, 3) := by decide +kernel
theorem dX6_change_7 : decode cX6_change 7 = .ok (.aload_n 0, 1) := by decide +kernel
theorem dX6_change_8 : decode cX6_change 8 = .ok (.getfield 80, 3) := by decide +kernel
theorem dX6_change_11 : decode cX6_change 11 = .ok (.iload_n 2, 1) := by decide +kernel
theorem dX6_change_12 : decode cX6_change 12 = .ok (.iaload, 1) := by decide +kernel
theorem dX6_change_13 : decode cX6_change 13 = .ok (.istore_n 3, 1) := by decide +kernel
theorem dX6_change_14 : decode cX6_change 14 = .ok (.iload_n 3, 1) := by decide +kernel
theorem dX6_change_15 : decode cX6_change 15 = .ok (.iconst (-1), 1) := by decide +kernel
theorem dX6_change_16 : decode cX6_change 16 = .ok (.if_icmp .ne 7, 3) := by decide +kernel
theorem dX6_change_19 : decode cX6_change 19 = .ok (.iconst (-1), 1) := by decide +kernel
theorem dX6_change_20 : decode cX6_change 20 = .ok (.goto 9, 3) := by decide +kernel
theorem dX6_change_23 : decode cX6_change 23 = .ok (.aload_n 0, 1) := by decide +kernel
theorem dX6_change_24 : decode cX6_change 24 = .ok (.getfield 86, 3) := by decide +kernel
theorem dX6_change_27 : decode cX6_change 27 = .ok (.iload_n 3, 1) := by decide +kernel
theorem dX6_change_28 : decode cX6_change 28 = .ok (.iaload, 1) := by decide +kernel
theorem dX6_change_29 : decode cX6_change 29 = .ok (.istore 4, 2) := by decide +kernel
theorem dX6_change_31 : decode cX6_change 31 = .ok (.aload_n 0, 1) := by decide +kernel
theorem dX6_change_32 : decode cX6_change 32 = .ok (.getfield 71, 3) := by decide +kernel
theorem dX6_change_35 : decode cX6_change 35 = .ok (.iload_n 2, 1) := by decide +kernel
theorem dX6_change_36 : decode cX6_change 36 = .ok (.iload_n 3, 1) := by decide +kernel
theorem dX6_change_37 : decode cX6_change 37 = .ok (.iastore, 1) := by decide +kernel
theorem dX6_change_38 : decode cX6_change 38 = .ok (.iload_n 3, 1) := by decide +kernel
theorem dX6_change_39 : decode cX6_change 39 = .ok (.iconst (-1), 1) := by decide +kernel
theorem dX6_change_40 : decode cX6_change 40 = .ok (.if_icmp .eq 10, 3) := by decide +kernel
theorem dX6_change_43 : decode cX6_change 43 = .ok (.aload_n 0, 1) := by decide +kernel
theorem dX6_change_44 : decode cX6_change 44 = .ok (.getfield 86, 3) := by decide +kernel
theorem dX6_change_47 : decode cX6_change 47 = .ok (.iload_n 3, 1) := by decide +kernel
theorem dX6_change_48 : decode cX6_change 48 = .ok (.iload_n 2, 1) := by decide +kernel
theorem dX6_change_49 : decode cX6_change 49 = .ok (.iastore, 1) := by decide +kernel
theorem dX6_change_50 : decode cX6_change 50 = .ok (.iload 4, 2) := by decide +kernel
theorem dX6_change_52 : decode cX6_change 52 = .ok (.istore_n 2, 1) := by decide +kernel
theorem dX6_change_53 : decode cX6_change 53 = .ok (.goto (-51), 3) := by decide +kernel
theorem dX6_change_56 : decode cX6_change 56 = .ok (.return_, 1) := by decide +kernel
theorem dX6_settle_0 : decode cX6_settle 0 = .ok (.iconst 2, 1) := by decide +kernel
theorem dX6_settle_1 : decode cX6_settle 1 = .ok (.aload_n 0, 1) := by decide +kernel
theorem dX6_settle_2 : decode cX6_settle 2 = .ok (.getfield 184, 3) := by decide +kernel
theorem dX6_settle_5 : decode cX6_settle 5 = .ok (.imul, 1) := by decide +kernel
theorem dX6_settle_6 : decode cX6_settle 6 = .ok (.istore_n 1, 1) := by decide +kernel
theorem dX6_settle_7 : decode cX6_settle 7 = .ok (.iconst 0, 1) := by decide +kernel
theorem dX6_settle_8 : decode cX6_settle 8 = .ok (.istore_n 2, 1) := by decide +kernel
theorem dX6_settle_9 : decode cX6_settle 9 = .ok (.iload_n 2, 1) := by decide +kernel
theorem dX6_settle_10 : decode cX6_settle 10 = .ok (.iload_n 1, 1) := by decide +kernel
theorem dX6_settle_11 : decode cX6_settle 11 = .ok (.if_icmp .ge 70, 3) := by decide +kernel
theorem dX6_settle_14 : decode cX6_settle 14 = .ok (.aload_n 0, 1) := by decide +kernel
theorem dX6_settle_15 : decode cX6_settle 15 = .ok (.getfield 71, 3) := by decide +kernel
theorem dX6_settle_18 : decode cX6_settle 18 = .ok (.iload_n 2, 1) := by decide +kernel
theorem dX6_settle_19 : decode cX6_settle 19 = .ok (.iconst (-1), 1) := by decide +kernel
theorem dX6_settle_20 : decode cX6_settle 20 = .ok (.iastore, 1) := by decide +kernel
theorem dX6_settle_21 : decode cX6_settle 21 = .ok (.aload_n 0, 1) := by decide +kernel
theorem dX6_settle_22 : decode cX6_settle 22 = .ok (.getfield 89, 3) := by decide +kernel
theorem dX6_settle_25 : decode cX6_settle 25 = .ok (.iload_n 2, 1) := by decide +kernel
theorem dX6_settle_26 : decode cX6_settle 26 = .ok (.iconst 1, 1) := by decide +kernel
theorem dX6_settle_27 : decode cX6_settle 27 = .ok (.bastore, 1) := by decide +kernel
theorem dX6_settle_28 : decode cX6_settle 28 = .ok (.iconst 0, 1) := by decide +kernel
theorem dX6_settle_29 : decode cX6_settle 29 = .ok (.istore_n 3, 1) := by decide +kernel
theorem dX6_settle_30 : decode cX6_settle 30 = .ok (.iload_n 3, 1) := by decide +kernel
theorem dX6_settle_31 : decode cX6_settle 31 = .ok (.aload_n 0, 1) := by decide +kernel
theorem dX6_settle_32 : decode cX6_settle 32 = .ok (.getfield 181, 3) := by decide +kernel
theorem dX6_settle_35 : decode cX6_settle 35 = .ok (.if_icmp .ge 40, 3) := by decide +kernel
theorem dX6_settle_38 : decode cX6_settle 38 = .ok (.aload_n 0, 1) := by decide +kernel
theorem dX6_settle_39 : decode cX6_settle 39 = .ok (.getfield 83, 3) := by decide +kernel
theorem dX6_settle_42 : decode cX6_settle 42 = .ok (.bipush 20, 2) := by decide +kernel
theorem dX6_settle_44 : decode cX6_settle 44 = .ok (.iload_n 2, 1) := by decide +kernel
theorem dX6_settle_45 : decode cX6_settle 45 = .ok (.imul, 1) := by decide +kernel
theorem dX6_settle_46 : decode cX6_settle 46 = .ok (.iload_n 3, 1) := by decide +kernel
theorem dX6_settle_47 : decode cX6_settle 47 = .ok (.iadd, 1) := by decide +kernel
theorem dX6_settle_48 : decode cX6_settle 48 = .ok (.aload_n 0, 1) := by decide +kernel
theorem dX6_settle_49 : decode cX6_settle 49 = .ok (.iload_n 3, 1) := by decide +kernel
theorem dX6_settle_50 : decode cX6_settle 50 = .ok (.iload_n 2, 1) := by decide +kernel
theorem dX6_settle_51 : decode cX6_settle 51 = .ok (.invokevirtual 210, 3) := by decide +kernel
theorem dX6_settle_54 : decode cX6_settle 54 = .ok (.ifCond .eq 12, 3) := by decide +kernel
theorem dX6_settle_57 : decode cX6_settle 57 = .ok (.aload_n 0, 1) := by decide +kernel
theorem dX6_settle_58 : decode cX6_settle 58 = .ok (.iload_n 3, 1) := by decide +kernel
theorem dX6_settle_59 : decode cX6_settle 59 = .ok (.iload_n 2, 1) := by decide +kernel
theorem dX6_settle_60 : decode cX6_settle 60 = .ok (.invokevirtual 214, 3) := by decide +kernel
theorem dX6_settle_63 : decode cX6_settle 63 = .ok (.goto 5, 3) := by decide +kernel
theorem dX6_settle_66 : decode cX6_settle 66 = .ok (.ldc 218, 2) := by decide +kernel
theorem dX6_settle_68 : decode cX6_settle 68 = .ok (.iastore, 1) := by decide +kernel
theorem dX6_settle_69 : decode cX6_settle 69 = .ok (.iinc 3 1, 3) := by decide +kernel
theorem dX6_settle_72 : decode cX6_settle 72 = .ok (.goto (-42), 3) := by decide +kernel
theorem dX6_settle_75 : decode cX6_settle 75 = .ok (.iinc 2 1, 3) := by decide +kernel
theorem dX6_settle_78 : decode cX6_settle 78 = .ok (.goto (-69), 3) := by decide +kernel
theorem dX6_settle_81 : decode cX6_settle 81 = .ok (.iconst 0, 1) := by decide +kernel
theorem dX6_settle_82 : decode cX6_settle 82 = .ok (.istore_n 2, 1) := by decide +kernel
theorem dX6_settle_83 : decode cX6_settle 83 = .ok (.iload_n 2, 1) := by decide +kernel
theorem dX6_settle_84 : decode cX6_settle 84 = .ok (.aload_n 0, 1) := by decide +kernel
theorem dX6_settle_85 : decode cX6_settle 85 = .ok (.getfield 181, 3) := by decide +kernel
theorem dX6_settle_88 : decode cX6_settle 88 = .ok (.if_icmp .ge 16, 3) := by decide +kernel
theorem dX6_settle_91 : decode cX6_settle 91 = .ok (.aload_n 0, 1) := by decide +kernel
theorem dX6_settle_92 : decode cX6_settle 92 = .ok (.getfield 86, 3) := by decide +kernel
theorem dX6_settle_95 : decode cX6_settle 95 = .ok (.iload_n 2, 1) := by decide +kernel
theorem dX6_settle_96 : decode cX6_settle 96 = .ok (.iconst (-1), 1) := by decide +kernel
theorem dX6_settle_97 : decode cX6_settle 97 = .ok (.iastore, 1) := by decide +kernel
theorem dX6_settle_98 : decode cX6_settle 98 = .ok (.iinc 2 1, 3) := by decide +kernel
theorem dX6_settle_101 : decode cX6_settle 101 = .ok (.goto (-18), 3) := by decide +kernel
theorem dX6_settle_104 : decode cX6_settle 104 = .ok (.iconst 0, 1) := by decide +kernel
theorem dX6_settle_105 : decode cX6_settle 105 = .ok (.istore_n 2, 1) := by decide +kernel
theorem dX6_settle_106 : decode cX6_settle 106 = .ok (.iload_n 2, 1) := by decide +kernel
theorem dX6_settle_107 : decode cX6_settle 107 = .ok (.iload_n 1, 1) := by decide +kernel
theorem dX6_settle_108 : decode cX6_settle 108 = .ok (.if_icmp .ge 26, 3) := by decide +kernel
theorem dX6_settle_111 : decode cX6_settle 111 = .ok (.aload_n 0, 1) := by decide +kernel
theorem dX6_settle_112 : decode cX6_settle 112 = .ok (.getfield 89, 3) := by decide +kernel
theorem dX6_settle_115 : decode cX6_settle 115 = .ok (.iload_n 2, 1) := by decide +kernel
theorem dX6_settle_116 : decode cX6_settle 116 = .ok (.iconst 0, 1) := by decide +kernel
theorem dX6_settle_117 : decode cX6_settle 117 = .ok (.bastore, 1) := by decide +kernel
theorem dX6_settle_118 : decode cX6_settle 118 = .ok (.aload_n 0, 1) := by decide +kernel
theorem dX6_settle_119 : decode cX6_settle 119 = .ok (.iload_n 1, 1) := by decide +kernel
theorem dX6_settle_120 : decode cX6_settle 120 = .ok (.invokevirtual 222, 3) := by decide +kernel
theorem dX6_settle_123 : decode cX6_settle 123 = .ok (.aload_n 0, 1) := by decide +kernel
theorem dX6_settle_124 : decode cX6_settle 124 = .ok (.iload_n 2, 1) := by decide +kernel
theorem dX6_settle_125 : decode cX6_settle 125 = .ok (.invokevirtual 225, 3) := by decide +kernel
theorem dX6_settle_128 : decode cX6_settle 128 = .ok (.iinc 2 1, 3) := by decide +kernel
theorem dX6_settle_131 : decode cX6_settle 131 = .ok (.goto (-25), 3) := by decide +kernel
theorem dX6_settle_134 : decode cX6_settle 134 = .ok (.iconst 0, 1) := by decide +kernel
theorem dX6_settle_135 : decode cX6_settle 135 = .ok (.istore_n 2, 1) := by decide +kernel
theorem dX6_settle_136 : decode cX6_settle 136 = .ok (.iload_n 2, 1) := by decide +kernel
theorem dX6_settle_137 : decode cX6_settle 137 = .ok (.iload_n 1, 1) := by decide +kernel
theorem dX6_settle_138 : decode cX6_settle 138 = .ok (.if_icmp .ge 22, 3) := by decide +kernel
theorem dX6_settle_141 : decode cX6_settle 141 = .ok (.aload_n 0, 1) := by decide +kernel
theorem dX6_settle_142 : decode cX6_settle 142 = .ok (.iload_n 2, 1) := by decide +kernel
theorem dX6_settle_143 : decode cX6_settle 143 = .ok (.iload_n 1, 1) := by decide +kernel
theorem dX6_settle_144 : decode cX6_settle 144 = .ok (.invokevirtual 228, 3) := by decide +kernel
theorem dX6_settle_147 : decode cX6_settle 147 = .ok (.aload_n 0, 1) := by decide +kernel
theorem dX6_settle_148 : decode cX6_settle 148 = .ok (.getfield 89, 3) := by decide +kernel
theorem dX6_settle_151 : decode cX6_settle 151 = .ok (.iload_n 2, 1) := by decide +kernel
theorem dX6_settle_152 : decode cX6_settle 152 = .ok (.iconst 1, 1) := by decide +kernel
theorem dX6_settle_153 : decode cX6_settle 153 = .ok (.bastore, 1) := by decide +kernel
theorem dX6_settle_154 : decode cX6_settle 154 = .ok (.iinc 2 1, 3) := by decide +kernel
theorem dX6_settle_157 : decode cX6_settle 157 = .ok (.goto (-21), 3) := by decide +kernel
theorem dX6_settle_160 : decode cX6_settle 160 = .ok (.return_, 1) := by decide +kernel
theorem dX6_offer_0 : decode cX6_offer 0 = .ok (.iload_n 2, 1) := by decide +kernel
theorem dX6_offer_1 : decode cX6_offer 1 = .ok (.aload_n 0, 1) := by decide +kernel
theorem dX6_offer_2 : decode cX6_offer 2 = .ok (.getfield 92, 3) := by decide +kernel
theorem dX6_offer_5 : decode cX6_offer 5 = .ok (.iload_n 1, 1) := by decide +kernel
theorem dX6_offer_6 : decode cX6_offer 6 = .ok (.iaload, 1) := by decide +kernel
theorem dX6_offer_7 : decode cX6_offer 7 = .ok (.if_icmp .lt 4, 3) := by decide +kernel
theorem dX6_offer_10 : decode cX6_offer 10 = .ok (.return_, 1) := by decide +kernel
theorem dX6_offer_11 : decode cX6_offer 11 = .ok (.aload_n 0, 1) := by decide +kernel
theorem dX6_offer_12 : decode cX6_offer 12 = .ok (.getfield 92, 3) := by decide +kernel
theorem dX6_offer_15 : decode cX6_offer 15 = .ok (.iload_n 1, 1) := by decide +kernel
theorem dX6_offer_16 : decode cX6_offer 16 = .ok (.iload_n 2, 1) := by decide +kernel
theorem dX6_offer_17 : decode cX6_offer 17 = .ok (.iastore, 1) := by decide +kernel
theorem dX6_offer_18 : decode cX6_offer 18 = .ok (.aload_n 0, 1) := by decide +kernel
theorem dX6_offer_19 : decode cX6_offer 19 = .ok (.getfield 95, 3) := by decide +kernel
theorem dX6_offer_22 : decode cX6_offer 22 = .ok (.iload_n 1, 1) := by decide +kernel
theorem dX6_offer_23 : decode cX6_offer 23 = .ok (.iload_n 3, 1) := by decide +kernel
theorem dX6_offer_24 : decode cX6_offer 24 = .ok (.iastore, 1) := by decide +kernel
theorem dX6_offer_25 : decode cX6_offer 25 = .ok (.aload_n 0, 1) := by decide +kernel
theorem dX6_offer_26 : decode cX6_offer 26 = .ok (.getfield 98, 3) := by decide +kernel
theorem dX6_offer_29 : decode cX6_offer 29 = .ok (.iload_n 1, 1) := by decide +kernel
theorem dX6_offer_30 : decode cX6_offer 30 = .ok (.iload 4, 2) := by decide +kernel
theorem dX6_offer_32 : decode cX6_offer 32 = .ok (.iastore, 1) := by decide +kernel
theorem dX6_offer_33 : decode cX6_offer 33 = .ok (.aload_n 0, 1) := by decide +kernel
theorem dX6_offer_34 : decode cX6_offer 34 = .ok (.iconst 1, 1) := by decide +kernel
theorem dX6_offer_35 : decode cX6_offer 35 = .ok (.putfield 232, 3) := by decide +kernel
theorem dX6_offer_38 : decode cX6_offer 38 = .ok (.return_, 1) := by decide +kernel
theorem dX6_placeOf_0 : decode cX6_placeOf 0 = .ok (.aload_n 0, 1) := by decide +kernel
theorem dX6_placeOf_1 : decode cX6_placeOf 1 = .ok (.getfield 71, 3) := by decide +kernel
theorem dX6_placeOf_4 : decode cX6_placeOf 4 = .ok (.iload_n 1, 1) := by decide +kernel
theorem dX6_placeOf_5 : decode cX6_placeOf 5 = .ok (.iaload, 1) := by decide +kernel
theorem dX6_placeOf_6 : decode cX6_placeOf 6 = .ok (.iconst (-1), 1) := by decide +kernel
theorem dX6_placeOf_7 : decode cX6_placeOf 7 = .ok (.if_icmp .ne 8, 3) := by decide +kernel
theorem dX6_placeOf_10 : decode cX6_placeOf 10 = .ok (.bipush 20, 2) := by decide +kernel
theorem dX6_placeOf_12 : decode cX6_placeOf 12 = .ok (.goto 9, 3) := by decide +kernel
theorem dX6_placeOf_15 : decode cX6_placeOf 15 = .ok (.aload_n 0, 1) := by decide +kernel
theorem dX6_placeOf_16 : decode cX6_placeOf 16 = .ok (.getfield 71, 3) := by decide +kernel
theorem dX6_placeOf_19 : decode cX6_placeOf 19 = .ok (.iload_n 1, 1) := by decide +kernel
theorem dX6_placeOf_20 : decode cX6_placeOf 20 = .ok (.iaload, 1) := by decide +kernel
theorem dX6_placeOf_21 : decode cX6_placeOf 21 = .ok (.ireturn, 1) := by decide +kernel
theorem dX6_ways_0 : decode cX6_ways 0 = .ok (.iconst 0, 1) := by decide +kernel
theorem dX6_ways_1 : decode cX6_ways 1 = .ok (.istore 4, 2) := by decide +kernel
theorem dX6_ways_3 : decode cX6_ways 3 = .ok (.iload 4, 2) := by decide +kernel
theorem dX6_ways_5 : decode cX6_ways 5 = .ok (.bipush 22, 2) := by decide +kernel
theorem dX6_ways_7 : decode cX6_ways 7 = .ok (.if_icmp .ge 18, 3) := by decide +kernel
theorem dX6_ways_10 : decode cX6_ways 10 = .ok (.aload_n 0, 1) := by decide +kernel
theorem dX6_ways_11 : decode cX6_ways 11 = .ok (.getfield 92, 3) := by decide +kernel
theorem dX6_ways_14 : decode cX6_ways 14 = .ok (.iload 4, 2) := by decide +kernel
theorem dX6_ways_16 : decode cX6_ways 16 = .ok (.ldc 218, 2) := by decide +kernel
theorem dX6_ways_18 : decode cX6_ways 18 = .ok (.iastore, 1) := by decide +kernel
theorem dX6_ways_19 : decode cX6_ways 19 = .ok (.iinc 4 1, 3) := by decide +kernel
theorem dX6_ways_22 : decode cX6_ways 22 = .ok (.goto (-19), 3) := by decide +kernel
theorem dX6_ways_25 : decode cX6_ways 25 = .ok (.aload_n 0, 1) := by decide +kernel
theorem dX6_ways_26 : decode cX6_ways 26 = .ok (.getfield 92, 3) := by decide +kernel
theorem dX6_ways_29 : decode cX6_ways 29 = .ok (.iload_n 1, 1) := by decide +kernel
theorem dX6_ways_30 : decode cX6_ways 30 = .ok (.iconst 0, 1) := by decide +kernel
theorem dX6_ways_31 : decode cX6_ways 31 = .ok (.iastore, 1) := by decide +kernel
theorem dX6_ways_32 : decode cX6_ways 32 = .ok (.aload_n 0, 1) := by decide +kernel
theorem dX6_ways_33 : decode cX6_ways 33 = .ok (.getfield 95, 3) := by decide +kernel
theorem dX6_ways_36 : decode cX6_ways 36 = .ok (.iload_n 1, 1) := by decide +kernel
theorem dX6_ways_37 : decode cX6_ways 37 = .ok (.iconst (-1), 1) := by decide +kernel
theorem dX6_ways_38 : decode cX6_ways 38 = .ok (.iastore, 1) := by decide +kernel
theorem dX6_ways_39 : decode cX6_ways 39 = .ok (.aload_n 0, 1) := by decide +kernel
theorem dX6_ways_40 : decode cX6_ways 40 = .ok (.iconst 1, 1) := by decide +kernel
theorem dX6_ways_41 : decode cX6_ways 41 = .ok (.putfield 232, 3) := by decide +kernel
theorem dX6_ways_44 : decode cX6_ways 44 = .ok (.aload_n 0, 1) := by decide +kernel
theorem dX6_ways_45 : decode cX6_ways 45 = .ok (.getfield 232, 3) := by decide +kernel
theorem dX6_ways_48 : decode cX6_ways 48 = .ok (.ifCond .eq 231, 3) := by decide +kernel
theorem dX6_ways_51 : decode cX6_ways 51 = .ok (.aload_n 0, 1) := by decide +kernel
theorem dX6_ways_52 : decode cX6_ways 52 = .ok (.iconst 0, 1) := by decide +kernel
theorem dX6_ways_53 : decode cX6_ways 53 = .ok (.putfield 232, 3) := by decide +kernel
theorem dX6_ways_56 : decode cX6_ways 56 = .ok (.iconst 0, 1) := by decide +kernel
theorem dX6_ways_57 : decode cX6_ways 57 = .ok (.istore 4, 2) := by decide +kernel
theorem dX6_ways_59 : decode cX6_ways 59 = .ok (.iload 4, 2) := by decide +kernel
theorem dX6_ways_61 : decode cX6_ways 61 = .ok (.iload_n 3, 1) := by decide +kernel
theorem dX6_ways_62 : decode cX6_ways 62 = .ok (.if_icmp .ge 47, 3) := by decide +kernel
theorem dX6_ways_65 : decode cX6_ways 65 = .ok (.iload 4, 2) := by decide +kernel
theorem dX6_ways_67 : decode cX6_ways 67 = .ok (.iload_n 2, 1) := by decide +kernel
theorem dX6_ways_68 : decode cX6_ways 68 = .ok (.if_icmp .eq 35, 3) := by decide +kernel
theorem dX6_ways_71 : decode cX6_ways 71 = .ok (.aload_n 0, 1) := by decide +kernel
theorem dX6_ways_72 : decode cX6_ways 72 = .ok (.getfield 89, 3) := by decide +kernel
theorem dX6_ways_75 : decode cX6_ways 75 = .ok (.iload 4, 2) := by decide +kernel
theorem dX6_ways_77 : decode cX6_ways 77 = .ok (.baload, 1) := by decide +kernel
theorem dX6_ways_78 : decode cX6_ways 78 = .ok (.ifCond .ne 25, 3) := by decide +kernel
theorem dX6_ways_81 : decode cX6_ways 81 = .ok (.aload_n 0, 1) := by decide +kernel
theorem dX6_ways_82 : decode cX6_ways 82 = .ok (.getfield 92, 3) := by decide +kernel
theorem dX6_ways_85 : decode cX6_ways 85 = .ok (.aload_n 0, 1) := by decide +kernel
theorem dX6_ways_86 : decode cX6_ways 86 = .ok (.iload 4, 2) := by decide +kernel
theorem dX6_ways_88 : decode cX6_ways 88 = .ok (.invokevirtual 236, 3) := by decide +kernel
theorem dX6_ways_91 : decode cX6_ways 91 = .ok (.iaload, 1) := by decide +kernel
theorem dX6_ways_92 : decode cX6_ways 92 = .ok (.ldc 218, 2) := by decide +kernel
theorem dX6_ways_94 : decode cX6_ways 94 = .ok (.if_icmp .ge 9, 3) := by decide +kernel
theorem dX6_ways_97 : decode cX6_ways 97 = .ok (.aload_n 0, 1) := by decide +kernel
theorem dX6_ways_98 : decode cX6_ways 98 = .ok (.iload 4, 2) := by decide +kernel
theorem dX6_ways_100 : decode cX6_ways 100 = .ok (.invokevirtual 239, 3) := by decide +kernel
theorem dX6_ways_103 : decode cX6_ways 103 = .ok (.iinc 4 1, 3) := by decide +kernel
theorem dX6_ways_106 : decode cX6_ways 106 = .ok (.goto (-47), 3) := by decide +kernel
theorem dX6_ways_109 : decode cX6_ways 109 = .ok (.iconst 0, 1) := by decide +kernel
theorem dX6_ways_110 : decode cX6_ways 110 = .ok (.istore 4, 2) := by decide +kernel
theorem dX6_ways_112 : decode cX6_ways 112 = .ok (.iload 4, 2) := by decide +kernel
theorem dX6_ways_114 : decode cX6_ways 114 = .ok (.aload_n 0, 1) := by decide +kernel
theorem dX6_ways_115 : decode cX6_ways 115 = .ok (.getfield 181, 3) := by decide +kernel
theorem dX6_ways_118 : decode cX6_ways 118 = .ok (.if_icmp .ge 102, 3) := by decide +kernel
theorem dX6_ways_121 : decode cX6_ways 121 = .ok (.aload_n 0, 1) := by decide +kernel
theorem dX6_ways_122 : decode cX6_ways 122 = .ok (.getfield 86, 3) := by decide +kernel
theorem dX6_ways_125 : decode cX6_ways 125 = .ok (.iload 4, 2) := by decide +kernel
theorem dX6_ways_127 : decode cX6_ways 127 = .ok (.iaload, 1) := by decide +kernel
theorem dX6_ways_128 : decode cX6_ways 128 = .ok (.iconst (-1), 1) := by decide +kernel
theorem dX6_ways_129 : decode cX6_ways 129 = .ok (.if_icmp .ne 31, 3) := by decide +kernel
theorem dX6_ways_132 : decode cX6_ways 132 = .ok (.aload_n 0, 1) := by decide +kernel
theorem dX6_ways_133 : decode cX6_ways 133 = .ok (.getfield 92, 3) := by decide +kernel
theorem dX6_ways_136 : decode cX6_ways 136 = .ok (.iload 4, 2) := by decide +kernel
theorem dX6_ways_138 : decode cX6_ways 138 = .ok (.iaload, 1) := by decide +kernel
theorem dX6_ways_139 : decode cX6_ways 139 = .ok (.ldc 218, 2) := by decide +kernel
theorem dX6_ways_141 : decode cX6_ways 141 = .ok (.if_icmp .ge 19, 3) := by decide +kernel
theorem dX6_ways_144 : decode cX6_ways 144 = .ok (.aload_n 0, 1) := by decide +kernel
theorem dX6_ways_145 : decode cX6_ways 145 = .ok (.bipush 21, 2) := by decide +kernel
theorem dX6_ways_147 : decode cX6_ways 147 = .ok (.aload_n 0, 1) := by decide +kernel
theorem dX6_ways_148 : decode cX6_ways 148 = .ok (.getfield 92, 3) := by decide +kernel
theorem dX6_ways_151 : decode cX6_ways 151 = .ok (.iload 4, 2) := by decide +kernel
theorem dX6_ways_153 : decode cX6_ways 153 = .ok (.iaload, 1) := by decide +kernel
theorem dX6_ways_154 : decode cX6_ways 154 = .ok (.iload 4, 2) := by decide +kernel
theorem dX6_ways_156 : decode cX6_ways 156 = .ok (.iconst (-1), 1) := by decide +kernel
theorem dX6_ways_157 : decode cX6_ways 157 = .ok (.invokevirtual 242, 3) := by decide +kernel
theorem dX6_ways_160 : decode cX6_ways 160 = .ok (.aload_n 0, 1) := by decide +kernel
theorem dX6_ways_161 : decode cX6_ways 161 = .ok (.getfield 86, 3) := by decide +kernel
theorem dX6_ways_164 : decode cX6_ways 164 = .ok (.iload 4, 2) := by decide +kernel
theorem dX6_ways_166 : decode cX6_ways 166 = .ok (.iaload, 1) := by decide +kernel
theorem dX6_ways_167 : decode cX6_ways 167 = .ok (.iconst (-1), 1) := by decide +kernel
theorem dX6_ways_168 : decode cX6_ways 168 = .ok (.if_icmp .eq 46, 3) := by decide +kernel
theorem dX6_ways_171 : decode cX6_ways 171 = .ok (.aload_n 0, 1) := by decide +kernel
theorem dX6_ways_172 : decode cX6_ways 172 = .ok (.getfield 89, 3) := by decide +kernel
theorem dX6_ways_175 : decode cX6_ways 175 = .ok (.aload_n 0, 1) := by decide +kernel
theorem dX6_ways_176 : decode cX6_ways 176 = .ok (.getfield 86, 3) := by decide +kernel
theorem dX6_ways_179 : decode cX6_ways 179 = .ok (.iload 4, 2) := by decide +kernel
theorem dX6_ways_181 : decode cX6_ways 181 = .ok (.iaload, 1) := by decide +kernel
theorem dX6_ways_182 : decode cX6_ways 182 = .ok (.baload, 1) := by decide +kernel
theorem dX6_ways_183 : decode cX6_ways 183 = .ok (.ifCond .ne 31, 3) := by decide +kernel
theorem dX6_ways_186 : decode cX6_ways 186 = .ok (.aload_n 0, 1) := by decide +kernel
theorem dX6_ways_187 : decode cX6_ways 187 = .ok (.getfield 92, 3) := by decide +kernel
theorem dX6_ways_190 : decode cX6_ways 190 = .ok (.bipush 21, 2) := by decide +kernel
theorem dX6_ways_192 : decode cX6_ways 192 = .ok (.iaload, 1) := by decide +kernel
theorem dX6_ways_193 : decode cX6_ways 193 = .ok (.ldc 218, 2) := by decide +kernel
theorem dX6_ways_195 : decode cX6_ways 195 = .ok (.if_icmp .ge 19, 3) := by decide +kernel
theorem dX6_ways_198 : decode cX6_ways 198 = .ok (.aload_n 0, 1) := by decide +kernel
theorem dX6_ways_199 : decode cX6_ways 199 = .ok (.iload 4, 2) := by decide +kernel
theorem dX6_ways_201 : decode cX6_ways 201 = .ok (.aload_n 0, 1) := by decide +kernel
theorem dX6_ways_202 : decode cX6_ways 202 = .ok (.getfield 92, 3) := by decide +kernel
theorem dX6_ways_205 : decode cX6_ways 205 = .ok (.bipush 21, 2) := by decide +kernel
theorem dX6_ways_207 : decode cX6_ways 207 = .ok (.iaload, 1) := by decide +kernel
theorem dX6_ways_208 : decode cX6_ways 208 = .ok (.bipush 21, 2) := by decide +kernel
theorem dX6_ways_210 : decode cX6_ways 210 = .ok (.iconst (-1), 1) := by decide +kernel
theorem dX6_ways_211 : decode cX6_ways 211 = .ok (.invokevirtual 242, 3) := by decide +kernel
theorem dX6_ways_214 : decode cX6_ways 214 = .ok (.iinc 4 1, 3) := by decide +kernel
theorem dX6_ways_217 : decode cX6_ways 217 = .ok (.goto (-105), 3) := by decide +kernel
theorem dX6_ways_220 : decode cX6_ways 220 = .ok (.aload_n 0, 1) := by decide +kernel
theorem dX6_ways_221 : decode cX6_ways 221 = .ok (.getfield 92, 3) := by decide +kernel
theorem dX6_ways_224 : decode cX6_ways 224 = .ok (.bipush 20, 2) := by decide +kernel
theorem dX6_ways_226 : decode cX6_ways 226 = .ok (.iaload, 1) := by decide +kernel
theorem dX6_ways_227 : decode cX6_ways 227 = .ok (.ldc 218, 2) := by decide +kernel
theorem dX6_ways_229 : decode cX6_ways 229 = .ok (.if_icmp .ge 19, 3) := by decide +kernel
theorem dX6_ways_232 : decode cX6_ways 232 = .ok (.aload_n 0, 1) := by decide +kernel
theorem dX6_ways_233 : decode cX6_ways 233 = .ok (.bipush 21, 2) := by decide +kernel
theorem dX6_ways_235 : decode cX6_ways 235 = .ok (.aload_n 0, 1) := by decide +kernel
theorem dX6_ways_236 : decode cX6_ways 236 = .ok (.getfield 92, 3) := by decide +kernel
theorem dX6_ways_239 : decode cX6_ways 239 = .ok (.bipush 20, 2) := by decide +kernel
theorem dX6_ways_241 : decode cX6_ways 241 = .ok (.iaload, 1) := by decide +kernel
theorem dX6_ways_242 : decode cX6_ways 242 = .ok (.bipush 20, 2) := by decide +kernel
theorem dX6_ways_244 : decode cX6_ways 244 = .ok (.iconst (-1), 1) := by decide +kernel
theorem dX6_ways_245 : decode cX6_ways 245 = .ok (.invokevirtual 242, 3) := by decide +kernel
theorem dX6_ways_248 : decode cX6_ways 248 = .ok (.aload_n 0, 1) := by decide +kernel
theorem dX6_ways_249 : decode cX6_ways 249 = .ok (.getfield 92, 3) := by decide +kernel
theorem dX6_ways_252 : decode cX6_ways 252 = .ok (.bipush 21, 2) := by decide +kernel
theorem dX6_ways_254 : decode cX6_ways 254 = .ok (.iaload, 1) := by decide +kernel
theorem dX6_ways_255 : decode cX6_ways 255 = .ok (.ldc 218, 2) := by decide +kernel
theorem dX6_ways_257 : decode cX6_ways 257 = .ok (.if_icmp .ge (-213), 3) := by decide +kernel
theorem dX6_ways_260 : decode cX6_ways 260 = .ok (.aload_n 0, 1) := by decide +kernel
theorem dX6_ways_261 : decode cX6_ways 261 = .ok (.bipush 20, 2) := by decide +kernel
theorem dX6_ways_263 : decode cX6_ways 263 = .ok (.aload_n 0, 1) := by decide +kernel
theorem dX6_ways_264 : decode cX6_ways 264 = .ok (.getfield 92, 3) := by decide +kernel
theorem dX6_ways_267 : decode cX6_ways 267 = .ok (.bipush 21, 2) := by decide +kernel
theorem dX6_ways_269 : decode cX6_ways 269 = .ok (.iaload, 1) := by decide +kernel
theorem dX6_ways_270 : decode cX6_ways 270 = .ok (.bipush 21, 2) := by decide +kernel
theorem dX6_ways_272 : decode cX6_ways 272 = .ok (.iconst (-1), 1) := by decide +kernel
theorem dX6_ways_273 : decode cX6_ways 273 = .ok (.invokevirtual 242, 3) := by decide +kernel
theorem dX6_ways_276 : decode cX6_ways 276 = .ok (.goto (-232), 3) := by decide +kernel
theorem dX6_ways_279 : decode cX6_ways 279 = .ok (.return_, 1) := by decide +kernel
theorem dX6_moves_0 : decode cX6_moves 0 = .ok (.aload_n 0, 1) := by decide +kernel
theorem dX6_moves_1 : decode cX6_moves 1 = .ok (.iload_n 1, 1) := by decide +kernel
theorem dX6_moves_2 : decode cX6_moves 2 = .ok (.invokevirtual 236, 3) := by decide +kernel
theorem dX6_moves_5 : decode cX6_moves 5 = .ok (.istore_n 2, 1) := by decide +kernel
theorem dX6_moves_6 : decode cX6_moves 6 = .ok (.aload_n 0, 1) := by decide +kernel
theorem dX6_moves_7 : decode cX6_moves 7 = .ok (.getfield 92, 3) := by decide +kernel
theorem dX6_moves_10 : decode cX6_moves 10 = .ok (.iload_n 2, 1) := by decide +kernel
theorem dX6_moves_11 : decode cX6_moves 11 = .ok (.iaload, 1) := by decide +kernel
theorem dX6_moves_12 : decode cX6_moves 12 = .ok (.aload_n 0, 1) := by decide +kernel
theorem dX6_moves_13 : decode cX6_moves 13 = .ok (.iload_n 1, 1) := by decide +kernel
theorem dX6_moves_14 : decode cX6_moves 14 = .ok (.invokevirtual 219, 3) := by decide +kernel
theorem dX6_moves_17 : decode cX6_moves 17 = .ok (.isub, 1) := by decide +kernel
theorem dX6_moves_18 : decode cX6_moves 18 = .ok (.istore_n 3, 1) := by decide +kernel
theorem dX6_moves_19 : decode cX6_moves 19 = .ok (.iload_n 2, 1) := by decide +kernel
theorem dX6_moves_20 : decode cX6_moves 20 = .ok (.bipush 20, 2) := by decide +kernel
theorem dX6_moves_22 : decode cX6_moves 22 = .ok (.if_icmp .eq 15, 3) := by decide +kernel
theorem dX6_moves_25 : decode cX6_moves 25 = .ok (.aload_n 0, 1) := by decide +kernel
theorem dX6_moves_26 : decode cX6_moves 26 = .ok (.bipush 20, 2) := by decide +kernel
theorem dX6_moves_28 : decode cX6_moves 28 = .ok (.iload_n 3, 1) := by decide +kernel
theorem dX6_moves_29 : decode cX6_moves 29 = .ok (.ldc 217, 2) := by decide +kernel
theorem dX6_moves_31 : decode cX6_moves 31 = .ok (.iadd, 1) := by decide +kernel
theorem dX6_moves_32 : decode cX6_moves 32 = .ok (.iload_n 2, 1) := by decide +kernel
theorem dX6_moves_33 : decode cX6_moves 33 = .ok (.iload_n 1, 1) := by decide +kernel
theorem dX6_moves_34 : decode cX6_moves 34 = .ok (.invokevirtual 242, 3) := by decide +kernel
theorem dX6_moves_37 : decode cX6_moves 37 = .ok (.iconst 0, 1) := by decide +kernel
theorem dX6_moves_38 : decode cX6_moves 38 = .ok (.istore 4, 2) := by decide +kernel
theorem dX6_moves_40 : decode cX6_moves 40 = .ok (.iload 4, 2) := by decide +kernel
theorem dX6_moves_42 : decode cX6_moves 42 = .ok (.aload_n 0, 1) := by decide +kernel
theorem dX6_moves_43 : decode cX6_moves 43 = .ok (.getfield 181, 3) := by decide +kernel
theorem dX6_moves_46 : decode cX6_moves 46 = .ok (.if_icmp .ge 83, 3) := by decide +kernel
theorem dX6_moves_49 : decode cX6_moves 49 = .ok (.iload 4, 2) := by decide +kernel
theorem dX6_moves_51 : decode cX6_moves 51 = .ok (.iload_n 2, 1) := by decide +kernel
theorem dX6_moves_52 : decode cX6_moves 52 = .ok (.if_icmp .eq 71, 3) := by decide +kernel
theorem dX6_moves_55 : decode cX6_moves 55 = .ok (.aload_n 0, 1) := by decide +kernel
theorem dX6_moves_56 : decode cX6_moves 56 = .ok (.getfield 83, 3) := by decide +kernel
theorem dX6_moves_59 : decode cX6_moves 59 = .ok (.bipush 20, 2) := by decide +kernel
theorem dX6_moves_61 : decode cX6_moves 61 = .ok (.iload_n 1, 1) := by decide +kernel
theorem dX6_moves_62 : decode cX6_moves 62 = .ok (.imul, 1) := by decide +kernel
theorem dX6_moves_63 : decode cX6_moves 63 = .ok (.iload 4, 2) := by decide +kernel
theorem dX6_moves_65 : decode cX6_moves 65 = .ok (.iadd, 1) := by decide +kernel
theorem dX6_moves_66 : decode cX6_moves 66 = .ok (.iaload, 1) := by decide +kernel
theorem dX6_moves_67 : decode cX6_moves 67 = .ok (.ldc 218, 2) := by decide +kernel
theorem dX6_moves_69 : decode cX6_moves 69 = .ok (.if_icmp .eq 54, 3) := by decide +kernel
theorem dX6_moves_72 : decode cX6_moves 72 = .ok (.aload_n 0, 1) := by decide +kernel
theorem dX6_moves_73 : decode cX6_moves 73 = .ok (.getfield 86, 3) := by decide +kernel
theorem dX6_moves_76 : decode cX6_moves 76 = .ok (.iload 4, 2) := by decide +kernel
theorem dX6_moves_78 : decode cX6_moves 78 = .ok (.iaload, 1) := by decide +kernel
theorem dX6_moves_79 : decode cX6_moves 79 = .ok (.iconst (-1), 1) := by decide +kernel
theorem dX6_moves_80 : decode cX6_moves 80 = .ok (.if_icmp .eq 21, 3) := by decide +kernel
theorem dX6_moves_83 : decode cX6_moves 83 = .ok (.aload_n 0, 1) := by decide +kernel
theorem dX6_moves_84 : decode cX6_moves 84 = .ok (.getfield 89, 3) := by decide +kernel
theorem dX6_moves_87 : decode cX6_moves 87 = .ok (.aload_n 0, 1) := by decide +kernel
theorem dX6_moves_88 : decode cX6_moves 88 = .ok (.getfield 86, 3) := by decide +kernel
theorem dX6_moves_91 : decode cX6_moves 91 = .ok (.iload 4, 2) := by decide +kernel
theorem dX6_moves_93 : decode cX6_moves 93 = .ok (.iaload, 1) := by decide +kernel
theorem dX6_moves_94 : decode cX6_moves 94 = .ok (.baload, 1) := by decide +kernel
theorem dX6_moves_95 : decode cX6_moves 95 = .ok (.ifCond .eq 6, 3) := by decide +kernel
theorem dX6_moves_98 : decode cX6_moves 98 = .ok (.goto 25, 3) := by decide +kernel
theorem dX6_moves_101 : decode cX6_moves 101 = .ok (.aload_n 0, 1) := by decide +kernel
theorem dX6_moves_102 : decode cX6_moves 102 = .ok (.iload 4, 2) := by decide +kernel
theorem dX6_moves_104 : decode cX6_moves 104 = .ok (.iload_n 3, 1) := by decide +kernel
theorem dX6_moves_105 : decode cX6_moves 105 = .ok (.aload_n 0, 1) := by decide +kernel
theorem dX6_moves_106 : decode cX6_moves 106 = .ok (.getfield 83, 3) := by decide +kernel
theorem dX6_moves_109 : decode cX6_moves 109 = .ok (.bipush 20, 2) := by decide +kernel
theorem dX6_moves_111 : decode cX6_moves 111 = .ok (.iload_n 1, 1) := by decide +kernel
theorem dX6_moves_112 : decode cX6_moves 112 = .ok (.imul, 1) := by decide +kernel
theorem dX6_moves_113 : decode cX6_moves 113 = .ok (.iload 4, 2) := by decide +kernel
theorem dX6_moves_115 : decode cX6_moves 115 = .ok (.iadd, 1) := by decide +kernel
theorem dX6_moves_116 : decode cX6_moves 116 = .ok (.iaload, 1) := by decide +kernel
theorem dX6_moves_117 : decode cX6_moves 117 = .ok (.iadd, 1) := by decide +kernel
theorem dX6_moves_118 : decode cX6_moves 118 = .ok (.iload_n 2, 1) := by decide +kernel
theorem dX6_moves_119 : decode cX6_moves 119 = .ok (.iload_n 1, 1) := by decide +kernel
theorem dX6_moves_120 : decode cX6_moves 120 = .ok (.invokevirtual 242, 3) := by decide +kernel
theorem dX6_moves_123 : decode cX6_moves 123 = .ok (.iinc 4 1, 3) := by decide +kernel
theorem dX6_moves_126 : decode cX6_moves 126 = .ok (.goto (-86), 3) := by decide +kernel
theorem dX6_moves_129 : decode cX6_moves 129 = .ok (.return_, 1) := by decide +kernel
theorem dX6_lessen_0 : decode cX6_lessen 0 = .ok (.aload_n 0, 1) := by decide +kernel
theorem dX6_lessen_1 : decode cX6_lessen 1 = .ok (.iload_n 1, 1) := by decide +kernel
theorem dX6_lessen_2 : decode cX6_lessen 2 = .ok (.invokevirtual 236, 3) := by decide +kernel
theorem dX6_lessen_5 : decode cX6_lessen 5 = .ok (.istore_n 3, 1) := by decide +kernel
theorem dX6_lessen_6 : decode cX6_lessen 6 = .ok (.iconst 0, 1) := by decide +kernel
theorem dX6_lessen_7 : decode cX6_lessen 7 = .ok (.istore 4, 2) := by decide +kernel
theorem dX6_lessen_9 : decode cX6_lessen 9 = .ok (.iload 4, 2) := by decide +kernel
theorem dX6_lessen_11 : decode cX6_lessen 11 = .ok (.aload_n 0, 1) := by decide +kernel
theorem dX6_lessen_12 : decode cX6_lessen 12 = .ok (.getfield 181, 3) := by decide +kernel
theorem dX6_lessen_15 : decode cX6_lessen 15 = .ok (.if_icmp .ge 244, 3) := by decide +kernel
theorem dX6_lessen_18 : decode cX6_lessen 18 = .ok (.iload 4, 2) := by decide +kernel
theorem dX6_lessen_20 : decode cX6_lessen 20 = .ok (.iload_n 3, 1) := by decide +kernel
theorem dX6_lessen_21 : decode cX6_lessen 21 = .ok (.if_icmp .eq 238, 3) := by decide +kernel
theorem dX6_lessen_24 : decode cX6_lessen 24 = .ok (.aload_n 0, 1) := by decide +kernel
theorem dX6_lessen_25 : decode cX6_lessen 25 = .ok (.getfield 83, 3) := by decide +kernel
theorem dX6_lessen_28 : decode cX6_lessen 28 = .ok (.bipush 20, 2) := by decide +kernel
theorem dX6_lessen_30 : decode cX6_lessen 30 = .ok (.iload_n 1, 1) := by decide +kernel
theorem dX6_lessen_31 : decode cX6_lessen 31 = .ok (.imul, 1) := by decide +kernel
theorem dX6_lessen_32 : decode cX6_lessen 32 = .ok (.iload 4, 2) := by decide +kernel
theorem dX6_lessen_34 : decode cX6_lessen 34 = .ok (.iadd, 1) := by decide +kernel
theorem dX6_lessen_35 : decode cX6_lessen 35 = .ok (.iaload, 1) := by decide +kernel
theorem dX6_lessen_36 : decode cX6_lessen 36 = .ok (.ldc 218, 2) := by decide +kernel
theorem dX6_lessen_38 : decode cX6_lessen 38 = .ok (.if_icmp .eq 215, 3) := by decide +kernel
theorem dX6_lessen_41 : decode cX6_lessen 41 = .ok (.aload_n 0, 1) := by decide +kernel
theorem dX6_lessen_42 : decode cX6_lessen 42 = .ok (.getfield 86, 3) := by decide +kernel
theorem dX6_lessen_45 : decode cX6_lessen 45 = .ok (.iload 4, 2) := by decide +kernel
theorem dX6_lessen_47 : decode cX6_lessen 47 = .ok (.iaload, 1) := by decide +kernel
theorem dX6_lessen_48 : decode cX6_lessen 48 = .ok (.iconst (-1), 1) := by decide +kernel
theorem dX6_lessen_49 : decode cX6_lessen 49 = .ok (.if_icmp .eq 21, 3) := by decide +kernel
theorem dX6_lessen_52 : decode cX6_lessen 52 = .ok (.aload_n 0, 1) := by decide +kernel
theorem dX6_lessen_53 : decode cX6_lessen 53 = .ok (.getfield 89, 3) := by decide +kernel
theorem dX6_lessen_56 : decode cX6_lessen 56 = .ok (.aload_n 0, 1) := by decide +kernel
theorem dX6_lessen_57 : decode cX6_lessen 57 = .ok (.getfield 86, 3) := by decide +kernel
theorem dX6_lessen_60 : decode cX6_lessen 60 = .ok (.iload 4, 2) := by decide +kernel
theorem dX6_lessen_62 : decode cX6_lessen 62 = .ok (.iaload, 1) := by decide +kernel
theorem dX6_lessen_63 : decode cX6_lessen 63 = .ok (.baload, 1) := by decide +kernel
theorem dX6_lessen_64 : decode cX6_lessen 64 = .ok (.ifCond .eq 6, 3) := by decide +kernel
theorem dX6_lessen_67 : decode cX6_lessen 67 = .ok (.goto 186, 3) := by decide +kernel
theorem dX6_lessen_70 : decode cX6_lessen 70 = .ok (.aload_n 0, 1) := by decide +kernel
theorem dX6_lessen_71 : decode cX6_lessen 71 = .ok (.iload 4, 2) := by decide +kernel
theorem dX6_lessen_73 : decode cX6_lessen 73 = .ok (.iload_n 1, 1) := by decide +kernel
theorem dX6_lessen_74 : decode cX6_lessen 74 = .ok (.iload_n 2, 1) := by decide +kernel
theorem dX6_lessen_75 : decode cX6_lessen 75 = .ok (.invokevirtual 246, 3) := by decide +kernel
theorem dX6_lessen_78 : decode cX6_lessen 78 = .ok (.aload_n 0, 1) := by decide +kernel
theorem dX6_lessen_79 : decode cX6_lessen 79 = .ok (.getfield 92, 3) := by decide +kernel
theorem dX6_lessen_82 : decode cX6_lessen 82 = .ok (.iload_n 3, 1) := by decide +kernel
theorem dX6_lessen_83 : decode cX6_lessen 83 = .ok (.iaload, 1) := by decide +kernel
theorem dX6_lessen_84 : decode cX6_lessen 84 = .ok (.ldc 218, 2) := by decide +kernel
theorem dX6_lessen_86 : decode cX6_lessen 86 = .ok (.if_icmp .eq 167, 3) := by decide +kernel
theorem dX6_lessen_89 : decode cX6_lessen 89 = .ok (.aload_n 0, 1) := by decide +kernel
theorem dX6_lessen_90 : decode cX6_lessen 90 = .ok (.getfield 83, 3) := by decide +kernel
theorem dX6_lessen_93 : decode cX6_lessen 93 = .ok (.bipush 20, 2) := by decide +kernel
theorem dX6_lessen_95 : decode cX6_lessen 95 = .ok (.iload_n 1, 1) := by decide +kernel
theorem dX6_lessen_96 : decode cX6_lessen 96 = .ok (.imul, 1) := by decide +kernel
theorem dX6_lessen_97 : decode cX6_lessen 97 = .ok (.iload 4, 2) := by decide +kernel
theorem dX6_lessen_99 : decode cX6_lessen 99 = .ok (.iadd, 1) := by decide +kernel
theorem dX6_lessen_100 : decode cX6_lessen 100 = .ok (.iaload, 1) := by decide +kernel
theorem dX6_lessen_101 : decode cX6_lessen 101 = .ok (.aload_n 0, 1) := by decide +kernel
theorem dX6_lessen_102 : decode cX6_lessen 102 = .ok (.iload_n 1, 1) := by decide +kernel
theorem dX6_lessen_103 : decode cX6_lessen 103 = .ok (.invokevirtual 219, 3) := by decide +kernel
theorem dX6_lessen_106 : decode cX6_lessen 106 = .ok (.isub, 1) := by decide +kernel
theorem dX6_lessen_107 : decode cX6_lessen 107 = .ok (.aload_n 0, 1) := by decide +kernel
theorem dX6_lessen_108 : decode cX6_lessen 108 = .ok (.getfield 92, 3) := by decide +kernel
theorem dX6_lessen_111 : decode cX6_lessen 111 = .ok (.iload_n 3, 1) := by decide +kernel
theorem dX6_lessen_112 : decode cX6_lessen 112 = .ok (.iaload, 1) := by decide +kernel
theorem dX6_lessen_113 : decode cX6_lessen 113 = .ok (.iadd, 1) := by decide +kernel
theorem dX6_lessen_114 : decode cX6_lessen 114 = .ok (.ifCond .eq 6, 3) := by decide +kernel
theorem dX6_lessen_117 : decode cX6_lessen 117 = .ok (.goto 136, 3) := by decide +kernel
theorem dX6_lessen_120 : decode cX6_lessen 120 = .ok (.iload_n 3, 1) := by decide +kernel
theorem dX6_lessen_121 : decode cX6_lessen 121 = .ok (.istore 5, 2) := by decide +kernel
theorem dX6_lessen_123 : decode cX6_lessen 123 = .ok (.iload 5, 2) := by decide +kernel
theorem dX6_lessen_125 : decode cX6_lessen 125 = .ok (.iload 4, 2) := by decide +kernel
theorem dX6_lessen_127 : decode cX6_lessen 127 = .ok (.if_icmp .eq 51, 3) := by decide +kernel
theorem dX6_lessen_130 : decode cX6_lessen 130 = .ok (.aload_n 0, 1) := by decide +kernel
theorem dX6_lessen_131 : decode cX6_lessen 131 = .ok (.getfield 98, 3) := by decide +kernel
theorem dX6_lessen_134 : decode cX6_lessen 134 = .ok (.iload 5, 2) := by decide +kernel
theorem dX6_lessen_136 : decode cX6_lessen 136 = .ok (.iaload, 1) := by decide +kernel
theorem dX6_lessen_137 : decode cX6_lessen 137 = .ok (.iconst (-1), 1) := by decide +kernel
theorem dX6_lessen_138 : decode cX6_lessen 138 = .ok (.if_icmp .eq 28, 3) := by decide +kernel
theorem dX6_lessen_141 : decode cX6_lessen 141 = .ok (.aload_n 0, 1) := by decide +kernel
theorem dX6_lessen_142 : decode cX6_lessen 142 = .ok (.getfield 71, 3) := by decide +kernel
theorem dX6_lessen_145 : decode cX6_lessen 145 = .ok (.aload_n 0, 1) := by decide +kernel
theorem dX6_lessen_146 : decode cX6_lessen 146 = .ok (.getfield 98, 3) := by decide +kernel
theorem dX6_lessen_149 : decode cX6_lessen 149 = .ok (.iload 5, 2) := by decide +kernel
theorem dX6_lessen_151 : decode cX6_lessen 151 = .ok (.iaload, 1) := by decide +kernel
theorem dX6_lessen_152 : decode cX6_lessen 152 = .ok (.iload 5, 2) := by decide +kernel
theorem dX6_lessen_154 : decode cX6_lessen 154 = .ok (.bipush 20, 2) := by decide +kernel
theorem dX6_lessen_156 : decode cX6_lessen 156 = .ok (.if_icmp .ne 7, 3) := by decide +kernel
theorem dX6_lessen_159 : decode cX6_lessen 159 = .ok (.iconst (-1), 1) := by decide +kernel
theorem dX6_lessen_160 : decode cX6_lessen 160 = .ok (.goto 5, 3) := by decide +kernel
theorem dX6_lessen_163 : decode cX6_lessen 163 = .ok (.iload 5, 2) := by decide +kernel
theorem dX6_lessen_165 : decode cX6_lessen 165 = .ok (.iastore, 1) := by decide +kernel
theorem dX6_lessen_166 : decode cX6_lessen 166 = .ok (.aload_n 0, 1) := by decide +kernel
theorem dX6_lessen_167 : decode cX6_lessen 167 = .ok (.getfield 95, 3) := by decide +kernel
theorem dX6_lessen_170 : decode cX6_lessen 170 = .ok (.iload 5, 2) := by decide +kernel
theorem dX6_lessen_172 : decode cX6_lessen 172 = .ok (.iaload, 1) := by decide +kernel
theorem dX6_lessen_173 : decode cX6_lessen 173 = .ok (.istore 5, 2) := by decide +kernel
theorem dX6_lessen_175 : decode cX6_lessen 175 = .ok (.goto (-52), 3) := by decide +kernel
theorem dX6_lessen_178 : decode cX6_lessen 178 = .ok (.aload_n 0, 1) := by decide +kernel
theorem dX6_lessen_179 : decode cX6_lessen 179 = .ok (.getfield 71, 3) := by decide +kernel
theorem dX6_lessen_182 : decode cX6_lessen 182 = .ok (.iload_n 1, 1) := by decide +kernel
theorem dX6_lessen_183 : decode cX6_lessen 183 = .ok (.iload 4, 2) := by decide +kernel
theorem dX6_lessen_185 : decode cX6_lessen 185 = .ok (.iastore, 1) := by decide +kernel
theorem dX6_lessen_186 : decode cX6_lessen 186 = .ok (.iconst 0, 1) := by decide +kernel
theorem dX6_lessen_187 : decode cX6_lessen 187 = .ok (.istore 6, 2) := by decide +kernel
theorem dX6_lessen_189 : decode cX6_lessen 189 = .ok (.iload 6, 2) := by decide +kernel
theorem dX6_lessen_191 : decode cX6_lessen 191 = .ok (.aload_n 0, 1) := by decide +kernel
theorem dX6_lessen_192 : decode cX6_lessen 192 = .ok (.getfield 181, 3) := by decide +kernel
theorem dX6_lessen_195 : decode cX6_lessen 195 = .ok (.if_icmp .ge 17, 3) := by decide +kernel
theorem dX6_lessen_198 : decode cX6_lessen 198 = .ok (.aload_n 0, 1) := by decide +kernel
theorem dX6_lessen_199 : decode cX6_lessen 199 = .ok (.getfield 86, 3) := by decide +kernel
theorem dX6_lessen_202 : decode cX6_lessen 202 = .ok (.iload 6, 2) := by decide +kernel
theorem dX6_lessen_204 : decode cX6_lessen 204 = .ok (.iconst (-1), 1) := by decide +kernel
theorem dX6_lessen_205 : decode cX6_lessen 205 = .ok (.iastore, 1) := by decide +kernel
theorem dX6_lessen_206 : decode cX6_lessen 206 = .ok (.iinc 6 1, 3) := by decide +kernel
theorem dX6_lessen_209 : decode cX6_lessen 209 = .ok (.goto (-20), 3) := by decide +kernel
theorem dX6_lessen_212 : decode cX6_lessen 212 = .ok (.iconst 0, 1) := by decide +kernel
theorem dX6_lessen_213 : decode cX6_lessen 213 = .ok (.istore 6, 2) := by decide +kernel
theorem dX6_lessen_215 : decode cX6_lessen 215 = .ok (.iload 6, 2) := by decide +kernel
theorem dX6_lessen_217 : decode cX6_lessen 217 = .ok (.iload_n 2, 1) := by decide +kernel
theorem dX6_lessen_218 : decode cX6_lessen 218 = .ok (.if_icmp .ge 34, 3) := by decide +kernel
theorem dX6_lessen_221 : decode cX6_lessen 221 = .ok (.aload_n 0, 1) := by decide +kernel
theorem dX6_lessen_222 : decode cX6_lessen 222 = .ok (.getfield 71, 3) := by decide +kernel
theorem dX6_lessen_225 : decode cX6_lessen 225 = .ok (.iload 6, 2) := by decide +kernel
theorem dX6_lessen_227 : decode cX6_lessen 227 = .ok (.iaload, 1) := by decide +kernel
theorem dX6_lessen_228 : decode cX6_lessen 228 = .ok (.iconst (-1), 1) := by decide +kernel
theorem dX6_lessen_229 : decode cX6_lessen 229 = .ok (.if_icmp .eq 17, 3) := by decide +kernel
theorem dX6_lessen_232 : decode cX6_lessen 232 = .ok (.aload_n 0, 1) := by decide +kernel
theorem dX6_lessen_233 : decode cX6_lessen 233 = .ok (.getfield 86, 3) := by decide +kernel
theorem dX6_lessen_236 : decode cX6_lessen 236 = .ok (.aload_n 0, 1) := by decide +kernel
theorem dX6_lessen_237 : decode cX6_lessen 237 = .ok (.getfield 71, 3) := by decide +kernel
theorem dX6_lessen_240 : decode cX6_lessen 240 = .ok (.iload 6, 2) := by decide +kernel
theorem dX6_lessen_242 : decode cX6_lessen 242 = .ok (.iaload, 1) := by decide +kernel
theorem dX6_lessen_243 : decode cX6_lessen 243 = .ok (.iload 6, 2) := by decide +kernel
theorem dX6_lessen_245 : decode cX6_lessen 245 = .ok (.iastore, 1) := by decide +kernel
theorem dX6_lessen_246 : decode cX6_lessen 246 = .ok (.iinc 6 1, 3) := by decide +kernel
theorem dX6_lessen_249 : decode cX6_lessen 249 = .ok (.goto (-34), 3) := by decide +kernel
theorem dX6_lessen_252 : decode cX6_lessen 252 = .ok (.return_, 1) := by decide +kernel
theorem dX6_lessen_253 : decode cX6_lessen 253 = .ok (.iinc 4 1, 3) := by decide +kernel
theorem dX6_lessen_256 : decode cX6_lessen 256 = .ok (.goto (-247), 3) := by decide +kernel
theorem dX6_lessen_259 : decode cX6_lessen 259 = .ok (.return_, 1) := by decide +kernel
theorem dX6_send_0 : decode cX6_send 0 = .ok (.aload_n 0, 1) := by decide +kernel
theorem dX6_send_1 : decode cX6_send 1 = .ok (.iconst 0, 1) := by decide +kernel
theorem dX6_send_2 : decode cX6_send 2 = .ok (.putfield 101, 3) := by decide +kernel
theorem dX6_send_5 : decode cX6_send 5 = .ok (.aload_n 0, 1) := by decide +kernel
theorem dX6_send_6 : decode cX6_send 6 = .ok (.getfield 250, 3) := by decide +kernel
theorem dX6_send_9 : decode cX6_send 9 = .ok (.ifCond .le 5, 3) := by decide +kernel
theorem dX6_send_12 : decode cX6_send 12 = .ok (.iconst (-1), 1) := by decide +kernel
theorem dX6_send_13 : decode cX6_send 13 = .ok (.ireturn, 1) := by decide +kernel
theorem dX6_send_14 : decode cX6_send 14 = .ok (.aload_n 0, 1) := by decide +kernel
theorem dX6_send_15 : decode cX6_send 15 = .ok (.invokevirtual 253, 3) := by decide +kernel
theorem dX6_send_18 : decode cX6_send 18 = .ok (.aload_n 0, 1) := by decide +kernel
theorem dX6_send_19 : decode cX6_send 19 = .ok (.invokevirtual 256, 3) := by decide +kernel
theorem dX6_send_22 : decode cX6_send 22 = .ok (.ireturn, 1) := by decide +kernel
theorem dX6_filled_0 : decode cX6_filled 0 = .ok (.iconst 0, 1) := by decide +kernel
theorem dX6_filled_1 : decode cX6_filled 1 = .ok (.istore_n 1, 1) := by decide +kernel
theorem dX6_filled_2 : decode cX6_filled 2 = .ok (.iconst 0, 1) := by decide +kernel
theorem dX6_filled_3 : decode cX6_filled 3 = .ok (.istore_n 2, 1) := by decide +kernel
theorem dX6_filled_4 : decode cX6_filled 4 = .ok (.iload_n 2, 1) := by decide +kernel
theorem dX6_filled_5 : decode cX6_filled 5 = .ok (.iconst 2, 1) := by decide +kernel
theorem dX6_filled_6 : decode cX6_filled 6 = .ok (.aload_n 0, 1) := by decide +kernel
theorem dX6_filled_7 : decode cX6_filled 7 = .ok (.getfield 184, 3) := by decide +kernel
theorem dX6_filled_10 : decode cX6_filled 10 = .ok (.imul, 1) := by decide +kernel
theorem dX6_filled_11 : decode cX6_filled 11 = .ok (.if_icmp .ge 22, 3) := by decide +kernel
theorem dX6_filled_14 : decode cX6_filled 14 = .ok (.aload_n 0, 1) := by decide +kernel
theorem dX6_filled_15 : decode cX6_filled 15 = .ok (.getfield 71, 3) := by decide +kernel
theorem dX6_filled_18 : decode cX6_filled 18 = .ok (.iload_n 2, 1) := by decide +kernel
theorem dX6_filled_19 : decode cX6_filled 19 = .ok (.iaload, 1) := by decide +kernel
theorem dX6_filled_20 : decode cX6_filled 20 = .ok (.iconst (-1), 1) := by decide +kernel
theorem dX6_filled_21 : decode cX6_filled 21 = .ok (.if_icmp .eq 6, 3) := by decide +kernel
theorem dX6_filled_24 : decode cX6_filled 24 = .ok (.iinc 1 1, 3) := by decide +kernel
theorem dX6_filled_27 : decode cX6_filled 27 = .ok (.iinc 2 1, 3) := by decide +kernel
theorem dX6_filled_30 : decode cX6_filled 30 = .ok (.goto (-26), 3) := by decide +kernel
theorem dX6_filled_33 : decode cX6_filled 33 = .ok (.iload_n 1, 1) := by decide +kernel
theorem dX6_filled_34 : decode cX6_filled 34 = .ok (.ireturn, 1) := by decide +kernel
theorem dX6_off_0 : decode cX6_off 0 = .ok (.aload_n 0, 1) := by decide +kernel
theorem dX6_off_1 : decode cX6_off 1 = .ok (.iconst 0, 1) := by decide +kernel
theorem dX6_off_2 : decode cX6_off 2 = .ok (.putfield 101, 3) := by decide +kernel
theorem dX6_off_5 : decode cX6_off 5 = .ok (.aload_n 0, 1) := by decide +kernel
theorem dX6_off_6 : decode cX6_off 6 = .ok (.iload_n 1, 1) := by decide +kernel
theorem dX6_off_7 : decode cX6_off 7 = .ok (.invokevirtual 191, 3) := by decide +kernel
theorem dX6_off_10 : decode cX6_off 10 = .ok (.ifCond .eq 11, 3) := by decide +kernel
theorem dX6_off_13 : decode cX6_off 13 = .ok (.aload_n 0, 1) := by decide +kernel
theorem dX6_off_14 : decode cX6_off 14 = .ok (.iload_n 1, 1) := by decide +kernel
theorem dX6_off_15 : decode cX6_off 15 = .ok (.invokevirtual 197, 3) := by decide +kernel
theorem dX6_off_18 : decode cX6_off 18 = .ok (.goto 4, 3) := by decide +kernel
theorem dX6_off_21 : decode cX6_off 21 = .ok (.iconst (-1), 1) := by decide +kernel
theorem dX6_off_22 : decode cX6_off 22 = .ok (.istore_n 2, 1) := by decide +kernel
theorem dX6_off_23 : decode cX6_off 23 = .ok (.iload_n 2, 1) := by decide +kernel
theorem dX6_off_24 : decode cX6_off 24 = .ok (.iconst (-1), 1) := by decide +kernel
theorem dX6_off_25 : decode cX6_off 25 = .ok (.if_icmp .eq 10, 3) := by decide +kernel
theorem dX6_off_28 : decode cX6_off 28 = .ok (.aload_n 0, 1) := by decide +kernel
theorem dX6_off_29 : decode cX6_off 29 = .ok (.getfield 250, 3) := by decide +kernel
theorem dX6_off_32 : decode cX6_off 32 = .ok (.ifCond .le 5, 3) := by decide +kernel
theorem dX6_off_35 : decode cX6_off 35 = .ok (.iconst (-1), 1) := by decide +kernel
theorem dX6_off_36 : decode cX6_off 36 = .ok (.ireturn, 1) := by decide +kernel
theorem dX6_off_37 : decode cX6_off 37 = .ok (.aload_n 0, 1) := by decide +kernel
theorem dX6_off_38 : decode cX6_off 38 = .ok (.getfield 55, 3) := by decide +kernel
theorem dX6_off_41 : decode cX6_off 41 = .ok (.bipush 100, 2) := by decide +kernel
theorem dX6_off_43 : decode cX6_off 43 = .ok (.iload_n 1, 1) := by decide +kernel
theorem dX6_off_44 : decode cX6_off 44 = .ok (.imul, 1) := by decide +kernel
theorem dX6_off_45 : decode cX6_off 45 = .ok (.aload_n 0, 1) := by decide +kernel
theorem dX6_off_46 : decode cX6_off 46 = .ok (.getfield 194, 3) := by decide +kernel
theorem dX6_off_49 : decode cX6_off 49 = .ok (.iadd, 1) := by decide +kernel
theorem dX6_off_50 : decode cX6_off 50 = .ok (.iconst 1, 1) := by decide +kernel
theorem dX6_off_51 : decode cX6_off 51 = .ok (.bastore, 1) := by decide +kernel
theorem dX6_off_52 : decode cX6_off 52 = .ok (.aload_n 0, 1) := by decide +kernel
theorem dX6_off_53 : decode cX6_off 53 = .ok (.getfield 71, 3) := by decide +kernel
theorem dX6_off_56 : decode cX6_off 56 = .ok (.iload_n 2, 1) := by decide +kernel
theorem dX6_off_57 : decode cX6_off 57 = .ok (.iconst (-1), 1) := by decide +kernel
theorem dX6_off_58 : decode cX6_off 58 = .ok (.iastore, 1) := by decide +kernel
theorem dX6_off_59 : decode cX6_off 59 = .ok (.aload_n 0, 1) := by decide +kernel
theorem dX6_off_60 : decode cX6_off 60 = .ok (.iload_n 2, 1) := by decide +kernel
theorem dX6_off_61 : decode cX6_off 61 = .ok (.invokevirtual 259, 3) := by decide +kernel
theorem dX6_off_64 : decode cX6_off 64 = .ok (.istore_n 3, 1) := by decide +kernel
theorem dX6_off_65 : decode cX6_off 65 = .ok (.iload_n 3, 1) := by decide +kernel
theorem dX6_off_66 : decode cX6_off 66 = .ok (.iconst (-1), 1) := by decide +kernel
theorem dX6_off_67 : decode cX6_off 67 = .ok (.if_icmp .eq 12, 3) := by decide +kernel
theorem dX6_off_70 : decode cX6_off 70 = .ok (.aload_n 0, 1) := by decide +kernel
theorem dX6_off_71 : decode cX6_off 71 = .ok (.getfield 71, 3) := by decide +kernel
theorem dX6_off_74 : decode cX6_off 74 = .ok (.iload_n 2, 1) := by decide +kernel
theorem dX6_off_75 : decode cX6_off 75 = .ok (.iload_n 3, 1) := by decide +kernel
theorem dX6_off_76 : decode cX6_off 76 = .ok (.iastore, 1) := by decide +kernel
theorem dX6_off_77 : decode cX6_off 77 = .ok (.iconst 1, 1) := by decide +kernel
theorem dX6_off_78 : decode cX6_off 78 = .ok (.ireturn, 1) := by decide +kernel
theorem dX6_off_79 : decode cX6_off 79 = .ok (.ldc 218, 2) := by decide +kernel
theorem dX6_off_81 : decode cX6_off 81 = .ok (.istore 4, 2) := by decide +kernel
theorem dX6_off_83 : decode cX6_off 83 = .ok (.iconst (-1), 1) := by decide +kernel
theorem dX6_off_84 : decode cX6_off 84 = .ok (.istore 5, 2) := by decide +kernel
theorem dX6_off_86 : decode cX6_off 86 = .ok (.iconst 0, 1) := by decide +kernel
theorem dX6_off_87 : decode cX6_off 87 = .ok (.istore 6, 2) := by decide +kernel
theorem dX6_off_89 : decode cX6_off 89 = .ok (.iload 6, 2) := by decide +kernel
theorem dX6_off_91 : decode cX6_off 91 = .ok (.iconst 2, 1) := by decide +kernel
theorem dX6_off_92 : decode cX6_off 92 = .ok (.aload_n 0, 1) := by decide +kernel
theorem dX6_off_93 : decode cX6_off 93 = .ok (.getfield 184, 3) := by decide +kernel
theorem dX6_off_96 : decode cX6_off 96 = .ok (.imul, 1) := by decide +kernel
theorem dX6_off_97 : decode cX6_off 97 = .ok (.if_icmp .ge 99, 3) := by decide +kernel
theorem dX6_off_100 : decode cX6_off 100 = .ok (.aload_n 0, 1) := by decide +kernel
theorem dX6_off_101 : decode cX6_off 101 = .ok (.getfield 71, 3) := by decide +kernel
theorem dX6_off_104 : decode cX6_off 104 = .ok (.iload 6, 2) := by decide +kernel
theorem dX6_off_106 : decode cX6_off 106 = .ok (.iaload, 1) := by decide +kernel
theorem dX6_off_107 : decode cX6_off 107 = .ok (.istore 7, 2) := by decide +kernel
theorem dX6_off_109 : decode cX6_off 109 = .ok (.iload 7, 2) := by decide +kernel
theorem dX6_off_111 : decode cX6_off 111 = .ok (.iconst (-1), 1) := by decide +kernel
theorem dX6_off_112 : decode cX6_off 112 = .ok (.if_icmp .eq 78, 3) := by decide +kernel
theorem dX6_off_115 : decode cX6_off 115 = .ok (.aload_n 0, 1) := by decide +kernel
theorem dX6_off_116 : decode cX6_off 116 = .ok (.iload 7, 2) := by decide +kernel
theorem dX6_off_118 : decode cX6_off 118 = .ok (.iload_n 2, 1) := by decide +kernel
theorem dX6_off_119 : decode cX6_off 119 = .ok (.invokevirtual 210, 3) := by decide +kernel
theorem dX6_off_122 : decode cX6_off 122 = .ok (.ifCond .ne 6, 3) := by decide +kernel
theorem dX6_off_125 : decode cX6_off 125 = .ok (.goto 65, 3) := by decide +kernel
theorem dX6_off_128 : decode cX6_off 128 = .ok (.aload_n 0, 1) := by decide +kernel
theorem dX6_off_129 : decode cX6_off 129 = .ok (.iload 6, 2) := by decide +kernel
theorem dX6_off_131 : decode cX6_off 131 = .ok (.invokevirtual 259, 3) := by decide +kernel
theorem dX6_off_134 : decode cX6_off 134 = .ok (.istore 8, 2) := by decide +kernel
theorem dX6_off_136 : decode cX6_off 136 = .ok (.iload 8, 2) := by decide +kernel
theorem dX6_off_138 : decode cX6_off 138 = .ok (.iconst (-1), 1) := by decide +kernel
theorem dX6_off_139 : decode cX6_off 139 = .ok (.if_icmp .ne 6, 3) := by decide +kernel
theorem dX6_off_142 : decode cX6_off 142 = .ok (.goto 48, 3) := by decide +kernel
theorem dX6_off_145 : decode cX6_off 145 = .ok (.aload_n 0, 1) := by decide +kernel
theorem dX6_off_146 : decode cX6_off 146 = .ok (.iload 7, 2) := by decide +kernel
theorem dX6_off_148 : decode cX6_off 148 = .ok (.iload_n 2, 1) := by decide +kernel
theorem dX6_off_149 : decode cX6_off 149 = .ok (.invokevirtual 214, 3) := by decide +kernel
theorem dX6_off_152 : decode cX6_off 152 = .ok (.aload_n 0, 1) := by decide +kernel
theorem dX6_off_153 : decode cX6_off 153 = .ok (.iload 8, 2) := by decide +kernel
theorem dX6_off_155 : decode cX6_off 155 = .ok (.iload 6, 2) := by decide +kernel
theorem dX6_off_157 : decode cX6_off 157 = .ok (.invokevirtual 214, 3) := by decide +kernel
theorem dX6_off_160 : decode cX6_off 160 = .ok (.iadd, 1) := by decide +kernel
theorem dX6_off_161 : decode cX6_off 161 = .ok (.aload_n 0, 1) := by decide +kernel
theorem dX6_off_162 : decode cX6_off 162 = .ok (.iload 7, 2) := by decide +kernel
theorem dX6_off_164 : decode cX6_off 164 = .ok (.iload 6, 2) := by decide +kernel
theorem dX6_off_166 : decode cX6_off 166 = .ok (.invokevirtual 214, 3) := by decide +kernel
theorem dX6_off_169 : decode cX6_off 169 = .ok (.isub, 1) := by decide +kernel
theorem dX6_off_170 : decode cX6_off 170 = .ok (.istore 9, 2) := by decide +kernel
theorem dX6_off_172 : decode cX6_off 172 = .ok (.iload 9, 2) := by decide +kernel
theorem dX6_off_174 : decode cX6_off 174 = .ok (.iload 4, 2) := by decide +kernel
theorem dX6_off_176 : decode cX6_off 176 = .ok (.if_icmp .lt 6, 3) := by decide +kernel
theorem dX6_off_179 : decode cX6_off 179 = .ok (.goto 11, 3) := by decide +kernel
theorem dX6_off_182 : decode cX6_off 182 = .ok (.iload 9, 2) := by decide +kernel
theorem dX6_off_184 : decode cX6_off 184 = .ok (.istore 4, 2) := by decide +kernel
theorem dX6_off_186 : decode cX6_off 186 = .ok (.iload 6, 2) := by decide +kernel
theorem dX6_off_188 : decode cX6_off 188 = .ok (.istore 5, 2) := by decide +kernel
theorem dX6_off_190 : decode cX6_off 190 = .ok (.iinc 6 1, 3) := by decide +kernel
theorem dX6_off_193 : decode cX6_off 193 = .ok (.goto (-104), 3) := by decide +kernel
theorem dX6_off_196 : decode cX6_off 196 = .ok (.iload 5, 2) := by decide +kernel
theorem dX6_off_198 : decode cX6_off 198 = .ok (.iconst (-1), 1) := by decide +kernel
theorem dX6_off_199 : decode cX6_off 199 = .ok (.if_icmp .ne 5, 3) := by decide +kernel
theorem dX6_off_202 : decode cX6_off 202 = .ok (.iconst 0, 1) := by decide +kernel
theorem dX6_off_203 : decode cX6_off 203 = .ok (.ireturn, 1) := by decide +kernel
theorem dX6_off_204 : decode cX6_off 204 = .ok (.aload_n 0, 1) := by decide +kernel
theorem dX6_off_205 : decode cX6_off 205 = .ok (.iload 5, 2) := by decide +kernel
theorem dX6_off_207 : decode cX6_off 207 = .ok (.invokevirtual 259, 3) := by decide +kernel
theorem dX6_off_210 : decode cX6_off 210 = .ok (.istore 6, 2) := by decide +kernel
theorem dX6_off_212 : decode cX6_off 212 = .ok (.aload_n 0, 1) := by decide +kernel
theorem dX6_off_213 : decode cX6_off 213 = .ok (.getfield 71, 3) := by decide +kernel
theorem dX6_off_216 : decode cX6_off 216 = .ok (.iload_n 2, 1) := by decide +kernel
theorem dX6_off_217 : decode cX6_off 217 = .ok (.aload_n 0, 1) := by decide +kernel
theorem dX6_off_218 : decode cX6_off 218 = .ok (.getfield 71, 3) := by decide +kernel
theorem dX6_off_221 : decode cX6_off 221 = .ok (.iload 5, 2) := by decide +kernel
theorem dX6_off_223 : decode cX6_off 223 = .ok (.iaload, 1) := by decide +kernel
theorem dX6_off_224 : decode cX6_off 224 = .ok (.iastore, 1) := by decide +kernel
theorem dX6_off_225 : decode cX6_off 225 = .ok (.aload_n 0, 1) := by decide +kernel
theorem dX6_off_226 : decode cX6_off 226 = .ok (.getfield 71, 3) := by decide +kernel
theorem dX6_off_229 : decode cX6_off 229 = .ok (.iload 5, 2) := by decide +kernel
theorem dX6_off_231 : decode cX6_off 231 = .ok (.iload 6, 2) := by decide +kernel
theorem dX6_off_233 : decode cX6_off 233 = .ok (.iastore, 1) := by decide +kernel
theorem dX6_off_234 : decode cX6_off 234 = .ok (.iconst 2, 1) := by decide +kernel
theorem dX6_off_235 : decode cX6_off 235 = .ok (.ireturn, 1) := by decide +kernel
theorem dX6_spare_0 : decode cX6_spare 0 = .ok (.iconst (-1), 1) := by decide +kernel
theorem dX6_spare_1 : decode cX6_spare 1 = .ok (.istore_n 2, 1) := by decide +kernel
theorem dX6_spare_2 : decode cX6_spare 2 = .ok (.iconst 0, 1) := by decide +kernel
theorem dX6_spare_3 : decode cX6_spare 3 = .ok (.istore_n 3, 1) := by decide +kernel
theorem dX6_spare_4 : decode cX6_spare 4 = .ok (.iload_n 3, 1) := by decide +kernel
theorem dX6_spare_5 : decode cX6_spare 5 = .ok (.aload_n 0, 1) := by decide +kernel
theorem dX6_spare_6 : decode cX6_spare 6 = .ok (.getfield 181, 3) := by decide +kernel
theorem dX6_spare_9 : decode cX6_spare 9 = .ok (.if_icmp .ge 49, 3) := by decide +kernel
theorem dX6_spare_12 : decode cX6_spare 12 = .ok (.aload_n 0, 1) := by decide +kernel
theorem dX6_spare_13 : decode cX6_spare 13 = .ok (.iload_n 3, 1) := by decide +kernel
theorem dX6_spare_14 : decode cX6_spare 14 = .ok (.invokevirtual 197, 3) := by decide +kernel
theorem dX6_spare_17 : decode cX6_spare 17 = .ok (.iconst (-1), 1) := by decide +kernel
theorem dX6_spare_18 : decode cX6_spare 18 = .ok (.if_icmp .ne 34, 3) := by decide +kernel
theorem dX6_spare_21 : decode cX6_spare 21 = .ok (.aload_n 0, 1) := by decide +kernel
theorem dX6_spare_22 : decode cX6_spare 22 = .ok (.iload_n 3, 1) := by decide +kernel
theorem dX6_spare_23 : decode cX6_spare 23 = .ok (.iload_n 1, 1) := by decide +kernel
theorem dX6_spare_24 : decode cX6_spare 24 = .ok (.invokevirtual 210, 3) := by decide +kernel
theorem dX6_spare_27 : decode cX6_spare 27 = .ok (.ifCond .eq 25, 3) := by decide +kernel
theorem dX6_spare_30 : decode cX6_spare 30 = .ok (.iload_n 2, 1) := by decide +kernel
theorem dX6_spare_31 : decode cX6_spare 31 = .ok (.iconst (-1), 1) := by decide +kernel
theorem dX6_spare_32 : decode cX6_spare 32 = .ok (.if_icmp .eq 18, 3) := by decide +kernel
theorem dX6_spare_35 : decode cX6_spare 35 = .ok (.aload_n 0, 1) := by decide +kernel
theorem dX6_spare_36 : decode cX6_spare 36 = .ok (.iload_n 3, 1) := by decide +kernel
theorem dX6_spare_37 : decode cX6_spare 37 = .ok (.iload_n 1, 1) := by decide +kernel
theorem dX6_spare_38 : decode cX6_spare 38 = .ok (.invokevirtual 214, 3) := by decide +kernel
theorem dX6_spare_41 : decode cX6_spare 41 = .ok (.aload_n 0, 1) := by decide +kernel
theorem dX6_spare_42 : decode cX6_spare 42 = .ok (.iload_n 2, 1) := by decide +kernel
theorem dX6_spare_43 : decode cX6_spare 43 = .ok (.iload_n 1, 1) := by decide +kernel
theorem dX6_spare_44 : decode cX6_spare 44 = .ok (.invokevirtual 214, 3) := by decide +kernel
theorem dX6_spare_47 : decode cX6_spare 47 = .ok (.if_icmp .ge 5, 3) := by decide +kernel
theorem dX6_spare_50 : decode cX6_spare 50 = .ok (.iload_n 3, 1) := by decide +kernel
theorem dX6_spare_51 : decode cX6_spare 51 = .ok (.istore_n 2, 1) := by decide +kernel
theorem dX6_spare_52 : decode cX6_spare 52 = .ok (.iinc 3 1, 3) := by decide +kernel
theorem dX6_spare_55 : decode cX6_spare 55 = .ok (.goto (-51), 3) := by decide +kernel
theorem dX6_spare_58 : decode cX6_spare 58 = .ok (.iload_n 2, 1) := by decide +kernel
theorem dX6_spare_59 : decode cX6_spare 59 = .ok (.ireturn, 1) := by decide +kernel
theorem dX6_seat_0 : decode cX6_seat 0 = .ok (.aload_n 0, 1) := by decide +kernel
theorem dX6_seat_1 : decode cX6_seat 1 = .ok (.iconst 0, 1) := by decide +kernel
theorem dX6_seat_2 : decode cX6_seat 2 = .ok (.putfield 101, 3) := by decide +kernel
theorem dX6_seat_5 : decode cX6_seat 5 = .ok (.aload_n 0, 1) := by decide +kernel
theorem dX6_seat_6 : decode cX6_seat 6 = .ok (.iload_n 1, 1) := by decide +kernel
theorem dX6_seat_7 : decode cX6_seat 7 = .ok (.invokevirtual 207, 3) := by decide +kernel
theorem dX6_seat_10 : decode cX6_seat 10 = .ok (.ifCond .eq 12, 3) := by decide +kernel
theorem dX6_seat_13 : decode cX6_seat 13 = .ok (.aload_n 0, 1) := by decide +kernel
theorem dX6_seat_14 : decode cX6_seat 14 = .ok (.getfield 71, 3) := by decide +kernel
theorem dX6_seat_17 : decode cX6_seat 17 = .ok (.iload_n 1, 1) := by decide +kernel
theorem dX6_seat_18 : decode cX6_seat 18 = .ok (.iaload, 1) := by decide +kernel
theorem dX6_seat_19 : decode cX6_seat 19 = .ok (.goto 4, 3) := by decide +kernel
theorem dX6_seat_22 : decode cX6_seat 22 = .ok (.iconst (-1), 1) := by decide +kernel
theorem dX6_seat_23 : decode cX6_seat 23 = .ok (.ireturn, 1) := by decide +kernel
theorem dX6_mark_0 : decode cX6_mark 0 = .ok (.aload_n 0, 1) := by decide +kernel
theorem dX6_mark_1 : decode cX6_mark 1 = .ok (.iconst 0, 1) := by decide +kernel
theorem dX6_mark_2 : decode cX6_mark 2 = .ok (.putfield 101, 3) := by decide +kernel
theorem dX6_mark_5 : decode cX6_mark 5 = .ok (.aload_n 0, 1) := by decide +kernel
theorem dX6_mark_6 : decode cX6_mark 6 = .ok (.iload_n 1, 1) := by decide +kernel
theorem dX6_mark_7 : decode cX6_mark 7 = .ok (.invokevirtual 207, 3) := by decide +kernel
theorem dX6_mark_10 : decode cX6_mark 10 = .ok (.ifCond .eq 46, 3) := by decide +kernel
theorem dX6_mark_13 : decode cX6_mark 13 = .ok (.aload_n 0, 1) := by decide +kernel
theorem dX6_mark_14 : decode cX6_mark 14 = .ok (.getfield 71, 3) := by decide +kernel
theorem dX6_mark_17 : decode cX6_mark 17 = .ok (.iload_n 1, 1) := by decide +kernel
theorem dX6_mark_18 : decode cX6_mark 18 = .ok (.iaload, 1) := by decide +kernel
theorem dX6_mark_19 : decode cX6_mark 19 = .ok (.iconst (-1), 1) := by decide +kernel
theorem dX6_mark_20 : decode cX6_mark 20 = .ok (.if_icmp .eq 36, 3) := by decide +kernel
theorem dX6_mark_23 : decode cX6_mark 23 = .ok (.iload_n 2, 1) := by decide +kernel
theorem dX6_mark_24 : decode cX6_mark 24 = .ok (.iconst 0, 1) := by decide +kernel
theorem dX6_mark_25 : decode cX6_mark 25 = .ok (.iconst 1, 1) := by decide +kernel
theorem dX6_mark_26 : decode cX6_mark 26 = .ok (.invokestatic 187, 3) := by decide +kernel
theorem dX6_mark_29 : decode cX6_mark 29 = .ok (.ifCond .eq 27, 3) := by decide +kernel
theorem dX6_mark_32 : decode cX6_mark 32 = .ok (.iload_n 3, 1) := by decide +kernel
theorem dX6_mark_33 : decode cX6_mark 33 = .ok (.iconst 0, 1) := by decide +kernel
theorem dX6_mark_34 : decode cX6_mark 34 = .ok (.bipush 100, 2) := by decide +kernel
theorem dX6_mark_36 : decode cX6_mark 36 = .ok (.invokestatic 187, 3) := by decide +kernel
theorem dX6_mark_39 : decode cX6_mark 39 = .ok (.ifCond .eq 17, 3) := by decide +kernel
theorem dX6_mark_42 : decode cX6_mark 42 = .ok (.aload_n 0, 1) := by decide +kernel
theorem dX6_mark_43 : decode cX6_mark 43 = .ok (.getfield 74, 3) := by decide +kernel
theorem dX6_mark_46 : decode cX6_mark 46 = .ok (.iload_n 1, 1) := by decide +kernel
theorem dX6_mark_47 : decode cX6_mark 47 = .ok (.iaload, 1) := by decide +kernel
theorem dX6_mark_48 : decode cX6_mark 48 = .ok (.iload_n 2, 1) := by decide +kernel
theorem dX6_mark_49 : decode cX6_mark 49 = .ok (.ishr, 1) := by decide +kernel
theorem dX6_mark_50 : decode cX6_mark 50 = .ok (.iconst 1, 1) := by decide +kernel
theorem dX6_mark_51 : decode cX6_mark 51 = .ok (.iand, 1) := by decide +kernel
theorem dX6_mark_52 : decode cX6_mark 52 = .ok (.iconst 1, 1) := by decide +kernel
theorem dX6_mark_53 : decode cX6_mark 53 = .ok (.if_icmp .ne 5, 3) := by decide +kernel
theorem dX6_mark_56 : decode cX6_mark 56 = .ok (.iconst 0, 1) := by decide +kernel
theorem dX6_mark_57 : decode cX6_mark 57 = .ok (.ireturn, 1) := by decide +kernel
theorem dX6_mark_58 : decode cX6_mark 58 = .ok (.aload_n 0, 1) := by decide +kernel
theorem dX6_mark_59 : decode cX6_mark 59 = .ok (.getfield 71, 3) := by decide +kernel
theorem dX6_mark_62 : decode cX6_mark 62 = .ok (.iload_n 1, 1) := by decide +kernel
theorem dX6_mark_63 : decode cX6_mark 63 = .ok (.iaload, 1) := by decide +kernel
theorem dX6_mark_64 : decode cX6_mark 64 = .ok (.istore 5, 2) := by decide +kernel
theorem dX6_mark_66 : decode cX6_mark 66 = .ok (.aload_n 0, 1) := by decide +kernel
theorem dX6_mark_67 : decode cX6_mark 67 = .ok (.getfield 13, 3) := by decide +kernel
theorem dX6_mark_70 : decode cX6_mark 70 = .ok (.iload 4, 2) := by decide +kernel
theorem dX6_mark_72 : decode cX6_mark 72 = .ok (.ifCond .eq 7, 3) := by decide +kernel
theorem dX6_mark_75 : decode cX6_mark 75 = .ok (.iconst 4, 1) := by decide +kernel
theorem dX6_mark_76 : decode cX6_mark 76 = .ok (.goto 4, 3) := by decide +kernel
theorem dX6_mark_79 : decode cX6_mark 79 = .ok (.iconst 5, 1) := by decide +kernel
theorem dX6_mark_80 : decode cX6_mark 80 = .ok (.iaload, 1) := by decide +kernel
theorem dX6_mark_81 : decode cX6_mark 81 = .ok (.istore 6, 2) := by decide +kernel
theorem dX6_mark_83 : decode cX6_mark 83 = .ok (.aload_n 0, 1) := by decide +kernel
theorem dX6_mark_84 : decode cX6_mark 84 = .ok (.getfield 74, 3) := by decide +kernel
theorem dX6_mark_87 : decode cX6_mark 87 = .ok (.iload_n 1, 1) := by decide +kernel
theorem dX6_mark_88 : decode cX6_mark 88 = .ok (.dup2, 1) := by decide +kernel
theorem dX6_mark_89 : decode cX6_mark 89 = .ok (.iaload, 1) := by decide +kernel
theorem dX6_mark_90 : decode cX6_mark 90 = .ok (.iconst 1, 1) := by decide +kernel
theorem dX6_mark_91 : decode cX6_mark 91 = .ok (.iload_n 2, 1) := by decide +kernel
theorem dX6_mark_92 : decode cX6_mark 92 = .ok (.ishl, 1) := by decide +kernel
theorem dX6_mark_93 : decode cX6_mark 93 = .ok (.ior, 1) := by decide +kernel
theorem dX6_mark_94 : decode cX6_mark 94 = .ok (.iastore, 1) := by decide +kernel
theorem dX6_mark_95 : decode cX6_mark 95 = .ok (.aload_n 0, 1) := by decide +kernel
theorem dX6_mark_96 : decode cX6_mark 96 = .ok (.getfield 40, 3) := by decide +kernel
theorem dX6_mark_99 : decode cX6_mark 99 = .ok (.iload 5, 2) := by decide +kernel
theorem dX6_mark_101 : decode cX6_mark 101 = .ok (.dup2, 1) := by decide +kernel
theorem dX6_mark_102 : decode cX6_mark 102 = .ok (.iaload, 1) := by decide +kernel
theorem dX6_mark_103 : decode cX6_mark 103 = .ok (.iconst 1, 1) := by decide +kernel
theorem dX6_mark_104 : decode cX6_mark 104 = .ok (.iadd, 1) := by decide +kernel
theorem dX6_mark_105 : decode cX6_mark 105 = .ok (.iastore, 1) := by decide +kernel
theorem dX6_mark_106 : decode cX6_mark 106 = .ok (.aload_n 0, 1) := by decide +kernel
theorem dX6_mark_107 : decode cX6_mark 107 = .ok (.getfield 43, 3) := by decide +kernel
theorem dX6_mark_110 : decode cX6_mark 110 = .ok (.iload 5, 2) := by decide +kernel
theorem dX6_mark_112 : decode cX6_mark 112 = .ok (.dup2, 1) := by decide +kernel
theorem dX6_mark_113 : decode cX6_mark 113 = .ok (.iaload, 1) := by decide +kernel
theorem dX6_mark_114 : decode cX6_mark 114 = .ok (.iload 6, 2) := by decide +kernel
theorem dX6_mark_116 : decode cX6_mark 116 = .ok (.iadd, 1) := by decide +kernel
theorem dX6_mark_117 : decode cX6_mark 117 = .ok (.iastore, 1) := by decide +kernel
theorem dX6_mark_118 : decode cX6_mark 118 = .ok (.aload_n 0, 1) := by decide +kernel
theorem dX6_mark_119 : decode cX6_mark 119 = .ok (.getfield 46, 3) := by decide +kernel
theorem dX6_mark_122 : decode cX6_mark 122 = .ok (.iload 5, 2) := by decide +kernel
theorem dX6_mark_124 : decode cX6_mark 124 = .ok (.dup2, 1) := by decide +kernel
theorem dX6_mark_125 : decode cX6_mark 125 = .ok (.iaload, 1) := by decide +kernel
theorem dX6_mark_126 : decode cX6_mark 126 = .ok (.iload 6, 2) := by decide +kernel
theorem dX6_mark_128 : decode cX6_mark 128 = .ok (.iload_n 3, 1) := by decide +kernel
theorem dX6_mark_129 : decode cX6_mark 129 = .ok (.imul, 1) := by decide +kernel
theorem dX6_mark_130 : decode cX6_mark 130 = .ok (.iadd, 1) := by decide +kernel
theorem dX6_mark_131 : decode cX6_mark 131 = .ok (.iastore, 1) := by decide +kernel
theorem dX6_mark_132 : decode cX6_mark 132 = .ok (.aload_n 0, 1) := by decide +kernel
theorem dX6_mark_133 : decode cX6_mark 133 = .ok (.dup, 1) := by decide +kernel
theorem dX6_mark_134 : decode cX6_mark 134 = .ok (.getfield 250, 3) := by decide +kernel
theorem dX6_mark_137 : decode cX6_mark 137 = .ok (.iconst 1, 1) := by decide +kernel
theorem dX6_mark_138 : decode cX6_mark 138 = .ok (.iadd, 1) := by decide +kernel
theorem dX6_mark_139 : decode cX6_mark 139 = .ok (.putfield 250, 3) := by decide +kernel
theorem dX6_mark_142 : decode cX6_mark 142 = .ok (.iconst 1, 1) := by decide +kernel
theorem dX6_mark_143 : decode cX6_mark 143 = .ok (.ireturn, 1) := by decide +kernel
theorem dX6_next_0 : decode cX6_next 0 = .ok (.aload_n 0, 1) := by decide +kernel
theorem dX6_next_1 : decode cX6_next 1 = .ok (.iconst 0, 1) := by decide +kernel
theorem dX6_next_2 : decode cX6_next 2 = .ok (.putfield 101, 3) := by decide +kernel
theorem dX6_next_5 : decode cX6_next 5 = .ok (.aload_n 0, 1) := by decide +kernel
theorem dX6_next_6 : decode cX6_next 6 = .ok (.getfield 194, 3) := by decide +kernel
theorem dX6_next_9 : decode cX6_next 9 = .ok (.bipush 99, 2) := by decide +kernel
theorem dX6_next_11 : decode cX6_next 11 = .ok (.if_icmp .ne 5, 3) := by decide +kernel
theorem dX6_next_14 : decode cX6_next 14 = .ok (.iconst (-1), 1) := by decide +kernel
theorem dX6_next_15 : decode cX6_next 15 = .ok (.ireturn, 1) := by decide +kernel
theorem dX6_next_16 : decode cX6_next 16 = .ok (.iconst 0, 1) := by decide +kernel
theorem dX6_next_17 : decode cX6_next 17 = .ok (.istore_n 1, 1) := by decide +kernel
theorem dX6_next_18 : decode cX6_next 18 = .ok (.iload_n 1, 1) := by decide +kernel
theorem dX6_next_19 : decode cX6_next 19 = .ok (.iconst 2, 1) := by decide +kernel
theorem dX6_next_20 : decode cX6_next 20 = .ok (.aload_n 0, 1) := by decide +kernel
theorem dX6_next_21 : decode cX6_next 21 = .ok (.getfield 184, 3) := by decide +kernel
theorem dX6_next_24 : decode cX6_next 24 = .ok (.imul, 1) := by decide +kernel
theorem dX6_next_25 : decode cX6_next 25 = .ok (.if_icmp .ge 64, 3) := by decide +kernel
theorem dX6_next_28 : decode cX6_next 28 = .ok (.aload_n 0, 1) := by decide +kernel
theorem dX6_next_29 : decode cX6_next 29 = .ok (.getfield 71, 3) := by decide +kernel
theorem dX6_next_32 : decode cX6_next 32 = .ok (.iload_n 1, 1) := by decide +kernel
theorem dX6_next_33 : decode cX6_next 33 = .ok (.iaload, 1) := by decide +kernel
theorem dX6_next_34 : decode cX6_next 34 = .ok (.iconst (-1), 1) := by decide +kernel
theorem dX6_next_35 : decode cX6_next 35 = .ok (.if_icmp .ne 6, 3) := by decide +kernel
theorem dX6_next_38 : decode cX6_next 38 = .ok (.goto 45, 3) := by decide +kernel
theorem dX6_next_41 : decode cX6_next 41 = .ok (.aload_n 0, 1) := by decide +kernel
theorem dX6_next_42 : decode cX6_next 42 = .ok (.getfield 52, 3) := by decide +kernel
theorem dX6_next_45 : decode cX6_next 45 = .ok (.bipush 100, 2) := by decide +kernel
theorem dX6_next_47 : decode cX6_next 47 = .ok (.aload_n 0, 1) := by decide +kernel
theorem dX6_next_48 : decode cX6_next 48 = .ok (.getfield 71, 3) := by decide +kernel
theorem dX6_next_51 : decode cX6_next 51 = .ok (.iload_n 1, 1) := by decide +kernel
theorem dX6_next_52 : decode cX6_next 52 = .ok (.iaload, 1) := by decide +kernel
theorem dX6_next_53 : decode cX6_next 53 = .ok (.imul, 1) := by decide +kernel
theorem dX6_next_54 : decode cX6_next 54 = .ok (.aload_n 0, 1) := by decide +kernel
theorem dX6_next_55 : decode cX6_next 55 = .ok (.getfield 194, 3) := by decide +kernel
theorem dX6_next_58 : decode cX6_next 58 = .ok (.iadd, 1) := by decide +kernel
theorem dX6_next_59 : decode cX6_next 59 = .ok (.aload_n 0, 1) := by decide +kernel
theorem dX6_next_60 : decode cX6_next 60 = .ok (.getfield 65, 3) := by decide +kernel
theorem dX6_next_63 : decode cX6_next 63 = .ok (.iload_n 1, 1) := by decide +kernel
theorem dX6_next_64 : decode cX6_next 64 = .ok (.iconst 2, 1) := by decide +kernel
theorem dX6_next_65 : decode cX6_next 65 = .ok (.idiv, 1) := by decide +kernel
theorem dX6_next_66 : decode cX6_next 66 = .ok (.iaload, 1) := by decide +kernel
theorem dX6_next_67 : decode cX6_next 67 = .ok (.iastore, 1) := by decide +kernel
theorem dX6_next_68 : decode cX6_next 68 = .ok (.aload_n 0, 1) := by decide +kernel
theorem dX6_next_69 : decode cX6_next 69 = .ok (.getfield 49, 3) := by decide +kernel
theorem dX6_next_72 : decode cX6_next 72 = .ok (.aload_n 0, 1) := by decide +kernel
theorem dX6_next_73 : decode cX6_next 73 = .ok (.getfield 71, 3) := by decide +kernel
theorem dX6_next_76 : decode cX6_next 76 = .ok (.iload_n 1, 1) := by decide +kernel
theorem dX6_next_77 : decode cX6_next 77 = .ok (.iaload, 1) := by decide +kernel
theorem dX6_next_78 : decode cX6_next 78 = .ok (.dup2, 1) := by decide +kernel
theorem dX6_next_79 : decode cX6_next 79 = .ok (.iaload, 1) := by decide +kernel
theorem dX6_next_80 : decode cX6_next 80 = .ok (.iconst 1, 1) := by decide +kernel
theorem dX6_next_81 : decode cX6_next 81 = .ok (.iadd, 1) := by decide +kernel
theorem dX6_next_82 : decode cX6_next 82 = .ok (.iastore, 1) := by decide +kernel
theorem dX6_next_83 : decode cX6_next 83 = .ok (.iinc 1 1, 3) := by decide +kernel
theorem dX6_next_86 : decode cX6_next 86 = .ok (.goto (-68), 3) := by decide +kernel
theorem dX6_next_89 : decode cX6_next 89 = .ok (.iconst 0, 1) := by decide +kernel
theorem dX6_next_90 : decode cX6_next 90 = .ok (.istore_n 1, 1) := by decide +kernel
theorem dX6_next_91 : decode cX6_next 91 = .ok (.iload_n 1, 1) := by decide +kernel
theorem dX6_next_92 : decode cX6_next 92 = .ok (.aload_n 0, 1) := by decide +kernel
theorem dX6_next_93 : decode cX6_next 93 = .ok (.getfield 181, 3) := by decide +kernel
theorem dX6_next_96 : decode cX6_next 96 = .ok (.if_icmp .ge 157, 3) := by decide +kernel
theorem dX6_next_99 : decode cX6_next 99 = .ok (.aload_n 0, 1) := by decide +kernel
theorem dX6_next_100 : decode cX6_next 100 = .ok (.getfield 40, 3) := by decide +kernel
theorem dX6_next_103 : decode cX6_next 103 = .ok (.iload_n 1, 1) := by decide +kernel
theorem dX6_next_104 : decode cX6_next 104 = .ok (.iaload, 1) := by decide +kernel
theorem dX6_next_105 : decode cX6_next 105 = .ok (.aload_n 0, 1) := by decide +kernel
theorem dX6_next_106 : decode cX6_next 106 = .ok (.getfield 13, 3) := by decide +kernel
theorem dX6_next_109 : decode cX6_next 109 = .ok (.bipush 8, 2) := by decide +kernel
theorem dX6_next_111 : decode cX6_next 111 = .ok (.iaload, 1) := by decide +kernel
theorem dX6_next_112 : decode cX6_next 112 = .ok (.if_icmp .lt 135, 3) := by decide +kernel
theorem dX6_next_115 : decode cX6_next 115 = .ok (.aload_n 0, 1) := by decide +kernel
theorem dX6_next_116 : decode cX6_next 116 = .ok (.getfield 43, 3) := by decide +kernel
theorem dX6_next_119 : decode cX6_next 119 = .ok (.iload_n 1, 1) := by decide +kernel
theorem dX6_next_120 : decode cX6_next 120 = .ok (.iaload, 1) := by decide +kernel
theorem dX6_next_121 : decode cX6_next 121 = .ok (.ifCond .ne 6, 3) := by decide +kernel
theorem dX6_next_124 : decode cX6_next 124 = .ok (.goto 123, 3) := by decide +kernel
theorem dX6_next_127 : decode cX6_next 127 = .ok (.aload_n 0, 1) := by decide +kernel
theorem dX6_next_128 : decode cX6_next 128 = .ok (.getfield 34, 3) := by decide +kernel
theorem dX6_next_131 : decode cX6_next 131 = .ok (.iload_n 1, 1) := by decide +kernel
theorem dX6_next_132 : decode cX6_next 132 = .ok (.iaload, 1) := by decide +kernel
theorem dX6_next_133 : decode cX6_next 133 = .ok (.istore_n 2, 1) := by decide +kernel
theorem dX6_next_134 : decode cX6_next 134 = .ok (.aload_n 0, 1) := by decide +kernel
theorem dX6_next_135 : decode cX6_next 135 = .ok (.getfield 46, 3) := by decide +kernel
theorem dX6_next_138 : decode cX6_next 138 = .ok (.iload_n 1, 1) := by decide +kernel
theorem dX6_next_139 : decode cX6_next 139 = .ok (.iaload, 1) := by decide +kernel
theorem dX6_next_140 : decode cX6_next 140 = .ok (.aload_n 0, 1) := by decide +kernel
theorem dX6_next_141 : decode cX6_next 141 = .ok (.getfield 13, 3) := by decide +kernel
theorem dX6_next_144 : decode cX6_next 144 = .ok (.bipush 6, 2) := by decide +kernel
theorem dX6_next_146 : decode cX6_next 146 = .ok (.iaload, 1) := by decide +kernel
theorem dX6_next_147 : decode cX6_next 147 = .ok (.aload_n 0, 1) := by decide +kernel
theorem dX6_next_148 : decode cX6_next 148 = .ok (.getfield 43, 3) := by decide +kernel
theorem dX6_next_151 : decode cX6_next 151 = .ok (.iload_n 1, 1) := by decide +kernel
theorem dX6_next_152 : decode cX6_next 152 = .ok (.iaload, 1) := by decide +kernel
theorem dX6_next_153 : decode cX6_next 153 = .ok (.imul, 1) := by decide +kernel
theorem dX6_next_154 : decode cX6_next 154 = .ok (.if_icmp .lt 21, 3) := by decide +kernel
theorem dX6_next_157 : decode cX6_next 157 = .ok (.iload_n 2, 1) := by decide +kernel
theorem dX6_next_158 : decode cX6_next 158 = .ok (.iconst 1, 1) := by decide +kernel
theorem dX6_next_159 : decode cX6_next 159 = .ok (.if_icmp .le 16, 3) := by decide +kernel
theorem dX6_next_162 : decode cX6_next 162 = .ok (.aload_n 0, 1) := by decide +kernel
theorem dX6_next_163 : decode cX6_next 163 = .ok (.getfield 34, 3) := by decide +kernel
theorem dX6_next_166 : decode cX6_next 166 = .ok (.iload_n 1, 1) := by decide +kernel
theorem dX6_next_167 : decode cX6_next 167 = .ok (.dup2, 1) := by decide +kernel
theorem dX6_next_168 : decode cX6_next 168 = .ok (.iaload, 1) := by decide +kernel
theorem dX6_next_169 : decode cX6_next 169 = .ok (.iconst 1, 1) := by decide +kernel
theorem dX6_next_170 : decode cX6_next 170 = .ok (.isub, 1) := by decide +kernel
theorem dX6_next_171 : decode cX6_next 171 = .ok (.iastore, 1) := by decide +kernel
theorem dX6_next_172 : decode cX6_next 172 = .ok (.goto 41, 3) := by decide +kernel
theorem dX6_next_175 : decode cX6_next 175 = .ok (.aload_n 0, 1) := by decide +kernel
theorem dX6_next_176 : decode cX6_next 176 = .ok (.getfield 46, 3) := by decide +kernel
theorem dX6_next_179 : decode cX6_next 179 = .ok (.iload_n 1, 1) := by decide +kernel
theorem dX6_next_180 : decode cX6_next 180 = .ok (.iaload, 1) := by decide +kernel
theorem dX6_next_181 : decode cX6_next 181 = .ok (.aload_n 0, 1) := by decide +kernel
theorem dX6_next_182 : decode cX6_next 182 = .ok (.getfield 13, 3) := by decide +kernel
theorem dX6_next_185 : decode cX6_next 185 = .ok (.bipush 7, 2) := by decide +kernel
theorem dX6_next_187 : decode cX6_next 187 = .ok (.iaload, 1) := by decide +kernel
theorem dX6_next_188 : decode cX6_next 188 = .ok (.aload_n 0, 1) := by decide +kernel
theorem dX6_next_189 : decode cX6_next 189 = .ok (.getfield 43, 3) := by decide +kernel
theorem dX6_next_192 : decode cX6_next 192 = .ok (.iload_n 1, 1) := by decide +kernel
theorem dX6_next_193 : decode cX6_next 193 = .ok (.iaload, 1) := by decide +kernel
theorem dX6_next_194 : decode cX6_next 194 = .ok (.imul, 1) := by decide +kernel
theorem dX6_next_195 : decode cX6_next 195 = .ok (.if_icmp .gt 18, 3) := by decide +kernel
theorem dX6_next_198 : decode cX6_next 198 = .ok (.iload_n 2, 1) := by decide +kernel
theorem dX6_next_199 : decode cX6_next 199 = .ok (.iconst 4, 1) := by decide +kernel
theorem dX6_next_200 : decode cX6_next 200 = .ok (.if_icmp .ge 13, 3) := by decide +kernel
theorem dX6_next_203 : decode cX6_next 203 = .ok (.aload_n 0, 1) := by decide +kernel
theorem dX6_next_204 : decode cX6_next 204 = .ok (.getfield 34, 3) := by decide +kernel
theorem dX6_next_207 : decode cX6_next 207 = .ok (.iload_n 1, 1) := by decide +kernel
theorem dX6_next_208 : decode cX6_next 208 = .ok (.dup2, 1) := by decide +kernel
theorem dX6_next_209 : decode cX6_next 209 = .ok (.iaload, 1) := by decide +kernel
theorem dX6_next_210 : decode cX6_next 210 = .ok (.iconst 1, 1) := by decide +kernel
theorem dX6_next_211 : decode cX6_next 211 = .ok (.iadd, 1) := by decide +kernel
theorem dX6_next_212 : decode cX6_next 212 = .ok (.iastore, 1) := by decide +kernel
theorem dX6_next_213 : decode cX6_next 213 = .ok (.aload_n 0, 1) := by decide +kernel
theorem dX6_next_214 : decode cX6_next 214 = .ok (.getfield 34, 3) := by decide +kernel
theorem dX6_next_217 : decode cX6_next 217 = .ok (.iload_n 1, 1) := by decide +kernel
theorem dX6_next_218 : decode cX6_next 218 = .ok (.iaload, 1) := by decide +kernel
theorem dX6_next_219 : decode cX6_next 219 = .ok (.iload_n 2, 1) := by decide +kernel
theorem dX6_next_220 : decode cX6_next 220 = .ok (.if_icmp .ne 6, 3) := by decide +kernel
theorem dX6_next_223 : decode cX6_next 223 = .ok (.goto 24, 3) := by decide +kernel
theorem dX6_next_226 : decode cX6_next 226 = .ok (.aload_n 0, 1) := by decide +kernel
theorem dX6_next_227 : decode cX6_next 227 = .ok (.getfield 40, 3) := by decide +kernel
theorem dX6_next_230 : decode cX6_next 230 = .ok (.iload_n 1, 1) := by decide +kernel
theorem dX6_next_231 : decode cX6_next 231 = .ok (.iconst 0, 1) := by decide +kernel
theorem dX6_next_232 : decode cX6_next 232 = .ok (.iastore, 1) := by decide +kernel
theorem dX6_next_233 : decode cX6_next 233 = .ok (.aload_n 0, 1) := by decide +kernel
theorem dX6_next_234 : decode cX6_next 234 = .ok (.getfield 43, 3) := by decide +kernel
theorem dX6_next_237 : decode cX6_next 237 = .ok (.iload_n 1, 1) := by decide +kernel
theorem dX6_next_238 : decode cX6_next 238 = .ok (.iconst 0, 1) := by decide +kernel
theorem dX6_next_239 : decode cX6_next 239 = .ok (.iastore, 1) := by decide +kernel
theorem dX6_next_240 : decode cX6_next 240 = .ok (.aload_n 0, 1) := by decide +kernel
theorem dX6_next_241 : decode cX6_next 241 = .ok (.getfield 46, 3) := by decide +kernel
theorem dX6_next_244 : decode cX6_next 244 = .ok (.iload_n 1, 1) := by decide +kernel
theorem dX6_next_245 : decode cX6_next 245 = .ok (.iconst 0, 1) := by decide +kernel
theorem dX6_next_246 : decode cX6_next 246 = .ok (.iastore, 1) := by decide +kernel
theorem dX6_next_247 : decode cX6_next 247 = .ok (.iinc 1 1, 3) := by decide +kernel
theorem dX6_next_250 : decode cX6_next 250 = .ok (.goto (-159), 3) := by decide +kernel
theorem dX6_next_253 : decode cX6_next 253 = .ok (.aload_n 0, 1) := by decide +kernel
theorem dX6_next_254 : decode cX6_next 254 = .ok (.iconst 0, 1) := by decide +kernel
theorem dX6_next_255 : decode cX6_next 255 = .ok (.putfield 184, 3) := by decide +kernel
theorem dX6_next_258 : decode cX6_next 258 = .ok (.aload_n 0, 1) := by decide +kernel
theorem dX6_next_259 : decode cX6_next 259 = .ok (.iconst 0, 1) := by decide +kernel
theorem dX6_next_260 : decode cX6_next 260 = .ok (.putfield 250, 3) := by decide +kernel
theorem dX6_next_263 : decode cX6_next 263 = .ok (.aload_n 0, 1) := by decide +kernel
theorem dX6_next_264 : decode cX6_next 264 = .ok (.dup, 1) := by decide +kernel
theorem dX6_next_265 : decode cX6_next 265 = .ok (.getfield 194, 3) := by decide +kernel
theorem dX6_next_268 : decode cX6_next 268 = .ok (.iconst 1, 1) := by decide +kernel
theorem dX6_next_269 : decode cX6_next 269 = .ok (.iadd, 1) := by decide +kernel
theorem dX6_next_270 : decode cX6_next 270 = .ok (.putfield 194, 3) := by decide +kernel
theorem dX6_next_273 : decode cX6_next 273 = .ok (.aload_n 0, 1) := by decide +kernel
theorem dX6_next_274 : decode cX6_next 274 = .ok (.getfield 194, 3) := by decide +kernel
theorem dX6_next_277 : decode cX6_next 277 = .ok (.ireturn, 1) := by decide +kernel
theorem dX6_about_0 : decode cX6_about 0 = .ok (.aload_n 0, 1) := by decide +kernel
theorem dX6_about_1 : decode cX6_about 1 = .ok (.iload_n 1, 1) := by decide +kernel
theorem dX6_about_2 : decode cX6_about 2 = .ok (.invokevirtual 191, 3) := by decide +kernel
theorem dX6_about_5 : decode cX6_about 5 = .ok (.ifCond .eq 12, 3) := by decide +kernel
theorem dX6_about_8 : decode cX6_about 8 = .ok (.iload_n 2, 1) := by decide +kernel
theorem dX6_about_9 : decode cX6_about 9 = .ok (.ifCond .lt 8, 3) := by decide +kernel
theorem dX6_about_12 : decode cX6_about 12 = .ok (.iload_n 2, 1) := by decide +kernel
theorem dX6_about_13 : decode cX6_about 13 = .ok (.iconst 5, 1) := by decide +kernel
theorem dX6_about_14 : decode cX6_about 14 = .ok (.if_icmp .le 8, 3) := by decide +kernel
theorem dX6_about_17 : decode cX6_about 17 = .ok (.aload_n 0, 1) := by decide +kernel
theorem dX6_about_18 : decode cX6_about 18 = .ok (.invokevirtual 262, 3) := by decide +kernel
theorem dX6_about_21 : decode cX6_about 21 = .ok (.ireturn, 1) := by decide +kernel
theorem dX6_about_22 : decode cX6_about 22 = .ok (.aload_n 0, 1) := by decide +kernel
theorem dX6_about_23 : decode cX6_about 23 = .ok (.iconst 0, 1) := by decide +kernel
theorem dX6_about_24 : decode cX6_about 24 = .ok (.putfield 101, 3) := by decide +kernel
theorem dX6_about_27 : decode cX6_about 27 = .ok (.iload_n 2, 1) := by decide +kernel
theorem dX6_about_28 : decode cX6_about 28 = .ok (.tableswitch 70 0 4 #[36, 43, 49, 56, 63], 36) := by decide +kernel
theorem dX6_about_64 : decode cX6_about 64 = .ok (.aload_n 0, 1) := by decide +kernel
theorem dX6_about_65 : decode cX6_about 65 = .ok (.getfield 34, 3) := by decide +kernel
theorem dX6_about_68 : decode cX6_about 68 = .ok (.iload_n 1, 1) := by decide +kernel
theorem dX6_about_69 : decode cX6_about 69 = .ok (.iaload, 1) := by decide +kernel
theorem dX6_about_70 : decode cX6_about 70 = .ok (.ireturn, 1) := by decide +kernel
theorem dX6_about_71 : decode cX6_about 71 = .ok (.aload_n 0, 1) := by decide +kernel
theorem dX6_about_72 : decode cX6_about 72 = .ok (.iload_n 1, 1) := by decide +kernel
theorem dX6_about_73 : decode cX6_about 73 = .ok (.invokevirtual 197, 3) := by decide +kernel
theorem dX6_about_76 : decode cX6_about 76 = .ok (.ireturn, 1) := by decide +kernel
theorem dX6_about_77 : decode cX6_about 77 = .ok (.aload_n 0, 1) := by decide +kernel
theorem dX6_about_78 : decode cX6_about 78 = .ok (.getfield 49, 3) := by decide +kernel
theorem dX6_about_81 : decode cX6_about 81 = .ok (.iload_n 1, 1) := by decide +kernel
theorem dX6_about_82 : decode cX6_about 82 = .ok (.iaload, 1) := by decide +kernel
theorem dX6_about_83 : decode cX6_about 83 = .ok (.ireturn, 1) := by decide +kernel
theorem dX6_about_84 : decode cX6_about 84 = .ok (.aload_n 0, 1) := by decide +kernel
theorem dX6_about_85 : decode cX6_about 85 = .ok (.getfield 40, 3) := by decide +kernel
theorem dX6_about_88 : decode cX6_about 88 = .ok (.iload_n 1, 1) := by decide +kernel
theorem dX6_about_89 : decode cX6_about 89 = .ok (.iaload, 1) := by decide +kernel
theorem dX6_about_90 : decode cX6_about 90 = .ok (.ireturn, 1) := by decide +kernel
theorem dX6_about_91 : decode cX6_about 91 = .ok (.aload_n 0, 1) := by decide +kernel
theorem dX6_about_92 : decode cX6_about 92 = .ok (.getfield 43, 3) := by decide +kernel
theorem dX6_about_95 : decode cX6_about 95 = .ok (.iload_n 1, 1) := by decide +kernel
theorem dX6_about_96 : decode cX6_about 96 = .ok (.iaload, 1) := by decide +kernel
theorem dX6_about_97 : decode cX6_about 97 = .ok (.ireturn, 1) := by decide +kernel
theorem dX6_about_98 : decode cX6_about 98 = .ok (.aload_n 0, 1) := by decide +kernel
theorem dX6_about_99 : decode cX6_about 99 = .ok (.getfield 46, 3) := by decide +kernel
theorem dX6_about_102 : decode cX6_about 102 = .ok (.iload_n 1, 1) := by decide +kernel
theorem dX6_about_103 : decode cX6_about 103 = .ok (.iaload, 1) := by decide +kernel
theorem dX6_about_104 : decode cX6_about 104 = .ok (.ireturn, 1) := by decide +kernel
theorem dX6_stood_0 : decode cX6_stood 0 = .ok (.aload_n 0, 1) := by decide +kernel
theorem dX6_stood_1 : decode cX6_stood 1 = .ok (.iconst 0, 1) := by decide +kernel
theorem dX6_stood_2 : decode cX6_stood 2 = .ok (.putfield 101, 3) := by decide +kernel
theorem dX6_stood_5 : decode cX6_stood 5 = .ok (.aload_n 0, 1) := by decide +kernel
theorem dX6_stood_6 : decode cX6_stood 6 = .ok (.iload_n 1, 1) := by decide +kernel
theorem dX6_stood_7 : decode cX6_stood 7 = .ok (.invokevirtual 191, 3) := by decide +kernel
theorem dX6_stood_10 : decode cX6_stood 10 = .ok (.ifCond .eq 31, 3) := by decide +kernel
theorem dX6_stood_13 : decode cX6_stood 13 = .ok (.iload_n 2, 1) := by decide +kernel
theorem dX6_stood_14 : decode cX6_stood 14 = .ok (.iconst 0, 1) := by decide +kernel
theorem dX6_stood_15 : decode cX6_stood 15 = .ok (.aload_n 0, 1) := by decide +kernel
theorem dX6_stood_16 : decode cX6_stood 16 = .ok (.getfield 194, 3) := by decide +kernel
theorem dX6_stood_19 : decode cX6_stood 19 = .ok (.iconst 1, 1) := by decide +kernel
theorem dX6_stood_20 : decode cX6_stood 20 = .ok (.isub, 1) := by decide +kernel
theorem dX6_stood_21 : decode cX6_stood 21 = .ok (.invokestatic 187, 3) := by decide +kernel
theorem dX6_stood_24 : decode cX6_stood 24 = .ok (.ifCond .eq 17, 3) := by decide +kernel
theorem dX6_stood_27 : decode cX6_stood 27 = .ok (.aload_n 0, 1) := by decide +kernel
theorem dX6_stood_28 : decode cX6_stood 28 = .ok (.getfield 52, 3) := by decide +kernel
theorem dX6_stood_31 : decode cX6_stood 31 = .ok (.bipush 100, 2) := by decide +kernel
theorem dX6_stood_33 : decode cX6_stood 33 = .ok (.iload_n 1, 1) := by decide +kernel
theorem dX6_stood_34 : decode cX6_stood 34 = .ok (.imul, 1) := by decide +kernel
theorem dX6_stood_35 : decode cX6_stood 35 = .ok (.iload_n 2, 1) := by decide +kernel
theorem dX6_stood_36 : decode cX6_stood 36 = .ok (.iadd, 1) := by decide +kernel
theorem dX6_stood_37 : decode cX6_stood 37 = .ok (.iaload, 1) := by decide +kernel
theorem dX6_stood_38 : decode cX6_stood 38 = .ok (.goto 4, 3) := by decide +kernel
theorem dX6_stood_41 : decode cX6_stood 41 = .ok (.iconst (-1), 1) := by decide +kernel
theorem dX6_stood_42 : decode cX6_stood 42 = .ok (.ireturn, 1) := by decide +kernel
theorem dX6_together_0 : decode cX6_together 0 = .ok (.aload_n 0, 1) := by decide +kernel
theorem dX6_together_1 : decode cX6_together 1 = .ok (.iconst 0, 1) := by decide +kernel
theorem dX6_together_2 : decode cX6_together 2 = .ok (.putfield 101, 3) := by decide +kernel
theorem dX6_together_5 : decode cX6_together 5 = .ok (.iconst 0, 1) := by decide +kernel
theorem dX6_together_6 : decode cX6_together 6 = .ok (.istore_n 1, 1) := by decide +kernel
theorem dX6_together_7 : decode cX6_together 7 = .ok (.iconst 0, 1) := by decide +kernel
theorem dX6_together_8 : decode cX6_together 8 = .ok (.istore_n 2, 1) := by decide +kernel
theorem dX6_together_9 : decode cX6_together 9 = .ok (.iload_n 2, 1) := by decide +kernel
theorem dX6_together_10 : decode cX6_together 10 = .ok (.iconst 2, 1) := by decide +kernel
theorem dX6_together_11 : decode cX6_together 11 = .ok (.aload_n 0, 1) := by decide +kernel
theorem dX6_together_12 : decode cX6_together 12 = .ok (.getfield 184, 3) := by decide +kernel
theorem dX6_together_15 : decode cX6_together 15 = .ok (.imul, 1) := by decide +kernel
theorem dX6_together_16 : decode cX6_together 16 = .ok (.if_icmp .ge 33, 3) := by decide +kernel
theorem dX6_together_19 : decode cX6_together 19 = .ok (.aload_n 0, 1) := by decide +kernel
theorem dX6_together_20 : decode cX6_together 20 = .ok (.getfield 71, 3) := by decide +kernel
theorem dX6_together_23 : decode cX6_together 23 = .ok (.iload_n 2, 1) := by decide +kernel
theorem dX6_together_24 : decode cX6_together 24 = .ok (.iaload, 1) := by decide +kernel
theorem dX6_together_25 : decode cX6_together 25 = .ok (.iconst (-1), 1) := by decide +kernel
theorem dX6_together_26 : decode cX6_together 26 = .ok (.if_icmp .eq 17, 3) := by decide +kernel
theorem dX6_together_29 : decode cX6_together 29 = .ok (.iload_n 1, 1) := by decide +kernel
theorem dX6_together_30 : decode cX6_together 30 = .ok (.aload_n 0, 1) := by decide +kernel
theorem dX6_together_31 : decode cX6_together 31 = .ok (.aload_n 0, 1) := by decide +kernel
theorem dX6_together_32 : decode cX6_together 32 = .ok (.getfield 71, 3) := by decide +kernel
theorem dX6_together_35 : decode cX6_together 35 = .ok (.iload_n 2, 1) := by decide +kernel
theorem dX6_together_36 : decode cX6_together 36 = .ok (.iaload, 1) := by decide +kernel
theorem dX6_together_37 : decode cX6_together 37 = .ok (.iload_n 2, 1) := by decide +kernel
theorem dX6_together_38 : decode cX6_together 38 = .ok (.invokevirtual 214, 3) := by decide +kernel
theorem dX6_together_41 : decode cX6_together 41 = .ok (.iadd, 1) := by decide +kernel
theorem dX6_together_42 : decode cX6_together 42 = .ok (.istore_n 1, 1) := by decide +kernel
theorem dX6_together_43 : decode cX6_together 43 = .ok (.iinc 2 1, 3) := by decide +kernel
theorem dX6_together_46 : decode cX6_together 46 = .ok (.goto (-37), 3) := by decide +kernel
theorem dX6_together_49 : decode cX6_together 49 = .ok (.iload_n 1, 1) := by decide +kernel
theorem dX6_together_50 : decode cX6_together 50 = .ok (.ireturn, 1) := by decide +kernel
theorem dX6_count_0 : decode cX6_count 0 = .ok (.aload_n 0, 1) := by decide +kernel
theorem dX6_count_1 : decode cX6_count 1 = .ok (.iconst 0, 1) := by decide +kernel
theorem dX6_count_2 : decode cX6_count 2 = .ok (.putfield 101, 3) := by decide +kernel
theorem dX6_count_5 : decode cX6_count 5 = .ok (.iload_n 1, 1) := by decide +kernel
theorem dX6_count_6 : decode cX6_count 6 = .ok (.tableswitch 68 0 5 #[38, 43, 48, 53, 58, 63], 38) := by decide +kernel
theorem dX6_count_44 : decode cX6_count 44 = .ok (.aload_n 0, 1) := by decide +kernel
theorem dX6_count_45 : decode cX6_count 45 = .ok (.getfield 194, 3) := by decide +kernel
theorem dX6_count_48 : decode cX6_count 48 = .ok (.ireturn, 1) := by decide +kernel
theorem dX6_count_49 : decode cX6_count 49 = .ok (.aload_n 0, 1) := by decide +kernel
theorem dX6_count_50 : decode cX6_count 50 = .ok (.getfield 181, 3) := by decide +kernel
theorem dX6_count_53 : decode cX6_count 53 = .ok (.ireturn, 1) := by decide +kernel
theorem dX6_count_54 : decode cX6_count 54 = .ok (.aload_n 0, 1) := by decide +kernel
theorem dX6_count_55 : decode cX6_count 55 = .ok (.getfield 184, 3) := by decide +kernel
theorem dX6_count_58 : decode cX6_count 58 = .ok (.ireturn, 1) := by decide +kernel
theorem dX6_count_59 : decode cX6_count 59 = .ok (.aload_n 0, 1) := by decide +kernel
theorem dX6_count_60 : decode cX6_count 60 = .ok (.invokevirtual 256, 3) := by decide +kernel
theorem dX6_count_63 : decode cX6_count 63 = .ok (.ireturn, 1) := by decide +kernel
theorem dX6_count_64 : decode cX6_count 64 = .ok (.aload_n 0, 1) := by decide +kernel
theorem dX6_count_65 : decode cX6_count 65 = .ok (.getfield 250, 3) := by decide +kernel
theorem dX6_count_68 : decode cX6_count 68 = .ok (.ireturn, 1) := by decide +kernel
theorem dX6_count_69 : decode cX6_count 69 = .ok (.aload_n 0, 1) := by decide +kernel
theorem dX6_count_70 : decode cX6_count 70 = .ok (.getfield 105, 3) := by decide +kernel
theorem dX6_count_73 : decode cX6_count 73 = .ok (.ireturn, 1) := by decide +kernel
theorem dX6_count_74 : decode cX6_count 74 = .ok (.iconst (-1), 1) := by decide +kernel
theorem dX6_count_75 : decode cX6_count 75 = .ok (.ireturn, 1) := by decide +kernel
end
section
theorem dL_about_0 : decode cL_about 0 = .ok (.aload_n 3, 1) := by decide +kernel
theorem dL_about_1 : decode cL_about 1 = .ok (.iconst 0, 1) := by decide +kernel
theorem dL_about_2 : decode cL_about 2 = .ok (.aload_n 0, 1) := by decide +kernel
theorem dL_about_3 : decode cL_about 3 = .ok (.iload_n 1, 1) := by decide +kernel
theorem dL_about_4 : decode cL_about 4 = .ok (.iload_n 2, 1) := by decide +kernel
theorem dL_about_5 : decode cL_about 5 = .ok (.invokevirtual 7, 3) := by decide +kernel
theorem dL_about_8 : decode cL_about 8 = .ok (.i2l, 1) := by decide +kernel
theorem dL_about_9 : decode cL_about 9 = .ok (.lastore, 1) := by decide +kernel
theorem dL_about_10 : decode cL_about 10 = .ok (.goto 7, 3) := by decide +kernel
theorem dL_about_13 : decode cL_about 13 = .ok (.astore 4, 2) := by decide +kernel
theorem dL_about_15 : decode cL_about 15 = .ok (.iconst 1, 1) := by decide +kernel
theorem dL_about_16 : decode cL_about 16 = .ok (.ireturn, 1) := by decide +kernel
theorem dL_about_17 : decode cL_about 17 = .ok (.iconst 0, 1) := by decide +kernel
theorem dL_about_18 : decode cL_about 18 = .ok (.ireturn, 1) := by decide +kernel
theorem dL_law_0 : decode cL_law 0 = .ok (.new 8, 3) := by decide +kernel
theorem dL_law_3 : decode cL_law 3 = .ok (.dup, 1) := by decide +kernel
theorem dL_law_4 : decode cL_law 4 = .ok (.invokespecial 15, 3) := by decide +kernel
theorem dL_law_7 : decode cL_law 7 = .ok (.astore_n 1, 1) := by decide +kernel
theorem dL_law_8 : decode cL_law 8 = .ok (.new 16, 3) := by decide +kernel
theorem dL_law_11 : decode cL_law 11 = .ok (.dup, 1) := by decide +kernel
theorem dL_law_12 : decode cL_law 12 = .ok (.invokespecial 18, 3) := by decide +kernel
theorem dL_law_15 : decode cL_law 15 = .ok (.astore_n 2, 1) := by decide +kernel
theorem dL_law_16 : decode cL_law 16 = .ok (.iconst 1, 1) := by decide +kernel
theorem dL_law_17 : decode cL_law 17 = .ok (.newarray .long, 2) := by decide +kernel
theorem dL_law_19 : decode cL_law 19 = .ok (.astore_n 3, 1) := by decide +kernel
theorem dL_law_20 : decode cL_law 20 = .ok (.iconst 0, 1) := by decide +kernel
theorem dL_law_21 : decode cL_law 21 = .ok (.istore 4, 2) := by decide +kernel
theorem dL_law_23 : decode cL_law 23 = .ok (.iload 4, 2) := by decide +kernel
theorem dL_law_25 : decode cL_law 25 = .ok (.aload_n 0, 1) := by decide +kernel
theorem dL_law_26 : decode cL_law 26 = .ok (.arraylength, 1) := by decide +kernel
theorem dL_law_27 : decode cL_law 27 = .ok (.bipush 6, 2) := by decide +kernel
theorem dL_law_29 : decode cL_law 29 = .ok (.isub, 1) := by decide +kernel
theorem dL_law_30 : decode cL_law 30 = .ok (.if_icmp .gt 826, 3) := by decide +kernel
theorem dL_law_33 : decode cL_law 33 = .ok (.aload_n 0, 1) := by decide +kernel
theorem dL_law_34 : decode cL_law 34 = .ok (.iload 4, 2) := by decide +kernel
theorem dL_law_36 : decode cL_law 36 = .ok (.iaload, 1) := by decide +kernel
theorem dL_law_37 : decode cL_law 37 = .ok (.bipush 31, 2) := by decide +kernel
theorem dL_law_39 : decode cL_law 39 = .ok (.iand, 1) := by decide +kernel
theorem dL_law_40 : decode cL_law 40 = .ok (.tableswitch 810 0 18 #[92, 165, 190, 203, 216, 241, 302, 367, 440, 477, 514, 527, 552, 577, 654, 667, 735, 772, 785], 92) := by decide +kernel
theorem dL_law_132 : decode cL_law 132 = .ok (.aload_n 1, 1) := by decide +kernel
theorem dL_law_133 : decode cL_law 133 = .ok (.aload_n 0, 1) := by decide +kernel
theorem dL_law_134 : decode cL_law 134 = .ok (.iload 4, 2) := by decide +kernel
theorem dL_law_136 : decode cL_law 136 = .ok (.iconst 1, 1) := by decide +kernel
theorem dL_law_137 : decode cL_law 137 = .ok (.iadd, 1) := by decide +kernel
theorem dL_law_138 : decode cL_law 138 = .ok (.iaload, 1) := by decide +kernel
theorem dL_law_139 : decode cL_law 139 = .ok (.aload_n 0, 1) := by decide +kernel
theorem dL_law_140 : decode cL_law 140 = .ok (.iload 4, 2) := by decide +kernel
theorem dL_law_142 : decode cL_law 142 = .ok (.iconst 2, 1) := by decide +kernel
theorem dL_law_143 : decode cL_law 143 = .ok (.iadd, 1) := by decide +kernel
theorem dL_law_144 : decode cL_law 144 = .ok (.iaload, 1) := by decide +kernel
theorem dL_law_145 : decode cL_law 145 = .ok (.aload_n 0, 1) := by decide +kernel
theorem dL_law_146 : decode cL_law 146 = .ok (.iload 4, 2) := by decide +kernel
theorem dL_law_148 : decode cL_law 148 = .ok (.iconst 3, 1) := by decide +kernel
theorem dL_law_149 : decode cL_law 149 = .ok (.iadd, 1) := by decide +kernel
theorem dL_law_150 : decode cL_law 150 = .ok (.iaload, 1) := by decide +kernel
theorem dL_law_151 : decode cL_law 151 = .ok (.aload_n 0, 1) := by decide +kernel
theorem dL_law_152 : decode cL_law 152 = .ok (.iload 4, 2) := by decide +kernel
theorem dL_law_154 : decode cL_law 154 = .ok (.iconst 4, 1) := by decide +kernel
theorem dL_law_155 : decode cL_law 155 = .ok (.iadd, 1) := by decide +kernel
theorem dL_law_156 : decode cL_law 156 = .ok (.iaload, 1) := by decide +kernel
theorem dL_law_157 : decode cL_law 157 = .ok (.aload_n 0, 1) := by decide +kernel
theorem dL_law_158 : decode cL_law 158 = .ok (.iload 4, 2) := by decide +kernel
theorem dL_law_160 : decode cL_law 160 = .ok (.iconst 5, 1) := by decide +kernel
theorem dL_law_161 : decode cL_law 161 = .ok (.iadd, 1) := by decide +kernel
theorem dL_law_162 : decode cL_law 162 = .ok (.iaload, 1) := by decide +kernel
theorem dL_law_163 : decode cL_law 163 = .ok (.invokevirtual 19, 3) := by decide +kernel
theorem dL_law_166 : decode cL_law 166 = .ok (.aload_n 2, 1) := by decide +kernel
theorem dL_law_167 : decode cL_law 167 = .ok (.aload_n 0, 1) := by decide +kernel
theorem dL_law_168 : decode cL_law 168 = .ok (.iload 4, 2) := by decide +kernel
theorem dL_law_170 : decode cL_law 170 = .ok (.iconst 1, 1) := by decide +kernel
theorem dL_law_171 : decode cL_law 171 = .ok (.iadd, 1) := by decide +kernel
theorem dL_law_172 : decode cL_law 172 = .ok (.iaload, 1) := by decide +kernel
theorem dL_law_173 : decode cL_law 173 = .ok (.aload_n 0, 1) := by decide +kernel
theorem dL_law_174 : decode cL_law 174 = .ok (.iload 4, 2) := by decide +kernel
theorem dL_law_176 : decode cL_law 176 = .ok (.iconst 2, 1) := by decide +kernel
theorem dL_law_177 : decode cL_law 177 = .ok (.iadd, 1) := by decide +kernel
theorem dL_law_178 : decode cL_law 178 = .ok (.iaload, 1) := by decide +kernel
theorem dL_law_179 : decode cL_law 179 = .ok (.aload_n 0, 1) := by decide +kernel
theorem dL_law_180 : decode cL_law 180 = .ok (.iload 4, 2) := by decide +kernel
theorem dL_law_182 : decode cL_law 182 = .ok (.iconst 3, 1) := by decide +kernel
theorem dL_law_183 : decode cL_law 183 = .ok (.iadd, 1) := by decide +kernel
theorem dL_law_184 : decode cL_law 184 = .ok (.iaload, 1) := by decide +kernel
theorem dL_law_185 : decode cL_law 185 = .ok (.aload_n 0, 1) := by decide +kernel
theorem dL_law_186 : decode cL_law 186 = .ok (.iload 4, 2) := by decide +kernel
theorem dL_law_188 : decode cL_law 188 = .ok (.iconst 4, 1) := by decide +kernel
theorem dL_law_189 : decode cL_law 189 = .ok (.iadd, 1) := by decide +kernel
theorem dL_law_190 : decode cL_law 190 = .ok (.iaload, 1) := by decide +kernel
theorem dL_law_191 : decode cL_law 191 = .ok (.aload_n 0, 1) := by decide +kernel
theorem dL_law_192 : decode cL_law 192 = .ok (.iload 4, 2) := by decide +kernel
theorem dL_law_194 : decode cL_law 194 = .ok (.iconst 5, 1) := by decide +kernel
theorem dL_law_195 : decode cL_law 195 = .ok (.iadd, 1) := by decide +kernel
theorem dL_law_196 : decode cL_law 196 = .ok (.iaload, 1) := by decide +kernel
theorem dL_law_197 : decode cL_law 197 = .ok (.invokevirtual 23, 3) := by decide +kernel
theorem dL_law_200 : decode cL_law 200 = .ok (.if_icmp .eq 650, 3) := by decide +kernel
theorem dL_law_203 : decode cL_law 203 = .ok (.iconst 0, 1) := by decide +kernel
theorem dL_law_204 : decode cL_law 204 = .ok (.ireturn, 1) := by decide +kernel
theorem dL_law_205 : decode cL_law 205 = .ok (.aload_n 1, 1) := by decide +kernel
theorem dL_law_206 : decode cL_law 206 = .ok (.aload_n 0, 1) := by decide +kernel
theorem dL_law_207 : decode cL_law 207 = .ok (.iload 4, 2) := by decide +kernel
theorem dL_law_209 : decode cL_law 209 = .ok (.iconst 1, 1) := by decide +kernel
theorem dL_law_210 : decode cL_law 210 = .ok (.iadd, 1) := by decide +kernel
theorem dL_law_211 : decode cL_law 211 = .ok (.iaload, 1) := by decide +kernel
theorem dL_law_212 : decode cL_law 212 = .ok (.invokevirtual 24, 3) := by decide +kernel
theorem dL_law_215 : decode cL_law 215 = .ok (.aload_n 2, 1) := by decide +kernel
theorem dL_law_216 : decode cL_law 216 = .ok (.aload_n 0, 1) := by decide +kernel
theorem dL_law_217 : decode cL_law 217 = .ok (.iload 4, 2) := by decide +kernel
theorem dL_law_219 : decode cL_law 219 = .ok (.iconst 1, 1) := by decide +kernel
theorem dL_law_220 : decode cL_law 220 = .ok (.iadd, 1) := by decide +kernel
theorem dL_law_221 : decode cL_law 221 = .ok (.iaload, 1) := by decide +kernel
theorem dL_law_222 : decode cL_law 222 = .ok (.invokevirtual 28, 3) := by decide +kernel
theorem dL_law_225 : decode cL_law 225 = .ok (.if_icmp .eq 625, 3) := by decide +kernel
theorem dL_law_228 : decode cL_law 228 = .ok (.iconst 0, 1) := by decide +kernel
theorem dL_law_229 : decode cL_law 229 = .ok (.ireturn, 1) := by decide +kernel
theorem dL_law_230 : decode cL_law 230 = .ok (.aload_n 1, 1) := by decide +kernel
theorem dL_law_231 : decode cL_law 231 = .ok (.invokevirtual 29, 3) := by decide +kernel
theorem dL_law_234 : decode cL_law 234 = .ok (.aload_n 2, 1) := by decide +kernel
theorem dL_law_235 : decode cL_law 235 = .ok (.invokevirtual 33, 3) := by decide +kernel
theorem dL_law_238 : decode cL_law 238 = .ok (.if_icmp .eq 612, 3) := by decide +kernel
theorem dL_law_241 : decode cL_law 241 = .ok (.iconst 0, 1) := by decide +kernel
theorem dL_law_242 : decode cL_law 242 = .ok (.ireturn, 1) := by decide +kernel
theorem dL_law_243 : decode cL_law 243 = .ok (.aload_n 1, 1) := by decide +kernel
theorem dL_law_244 : decode cL_law 244 = .ok (.invokevirtual 34, 3) := by decide +kernel
theorem dL_law_247 : decode cL_law 247 = .ok (.aload_n 2, 1) := by decide +kernel
theorem dL_law_248 : decode cL_law 248 = .ok (.invokevirtual 37, 3) := by decide +kernel
theorem dL_law_251 : decode cL_law 251 = .ok (.if_icmp .eq 599, 3) := by decide +kernel
theorem dL_law_254 : decode cL_law 254 = .ok (.iconst 0, 1) := by decide +kernel
theorem dL_law_255 : decode cL_law 255 = .ok (.ireturn, 1) := by decide +kernel
theorem dL_law_256 : decode cL_law 256 = .ok (.aload_n 1, 1) := by decide +kernel
theorem dL_law_257 : decode cL_law 257 = .ok (.aload_n 0, 1) := by decide +kernel
theorem dL_law_258 : decode cL_law 258 = .ok (.iload 4, 2) := by decide +kernel
theorem dL_law_260 : decode cL_law 260 = .ok (.iconst 1, 1) := by decide +kernel
theorem dL_law_261 : decode cL_law 261 = .ok (.iadd, 1) := by decide +kernel
theorem dL_law_262 : decode cL_law 262 = .ok (.iaload, 1) := by decide +kernel
theorem dL_law_263 : decode cL_law 263 = .ok (.invokevirtual 38, 3) := by decide +kernel
theorem dL_law_266 : decode cL_law 266 = .ok (.aload_n 2, 1) := by decide +kernel
theorem dL_law_267 : decode cL_law 267 = .ok (.aload_n 0, 1) := by decide +kernel
theorem dL_law_268 : decode cL_law 268 = .ok (.iload 4, 2) := by decide +kernel
theorem dL_law_270 : decode cL_law 270 = .ok (.iconst 1, 1) := by decide +kernel
theorem dL_law_271 : decode cL_law 271 = .ok (.iadd, 1) := by decide +kernel
theorem dL_law_272 : decode cL_law 272 = .ok (.iaload, 1) := by decide +kernel
theorem dL_law_273 : decode cL_law 273 = .ok (.invokevirtual 42, 3) := by decide +kernel
theorem dL_law_276 : decode cL_law 276 = .ok (.if_icmp .eq 574, 3) := by decide +kernel
theorem dL_law_279 : decode cL_law 279 = .ok (.iconst 0, 1) := by decide +kernel
theorem dL_law_280 : decode cL_law 280 = .ok (.ireturn, 1) := by decide +kernel
theorem dL_law_281 : decode cL_law 281 = .ok (.aload_n 1, 1) := by decide +kernel
theorem dL_law_282 : decode cL_law 282 = .ok (.aload_n 0, 1) := by decide +kernel
theorem dL_law_283 : decode cL_law 283 = .ok (.iload 4, 2) := by decide +kernel
theorem dL_law_285 : decode cL_law 285 = .ok (.iconst 1, 1) := by decide +kernel
theorem dL_law_286 : decode cL_law 286 = .ok (.iadd, 1) := by decide +kernel
theorem dL_law_287 : decode cL_law 287 = .ok (.iaload, 1) := by decide +kernel
theorem dL_law_288 : decode cL_law 288 = .ok (.aload_n 0, 1) := by decide +kernel
theorem dL_law_289 : decode cL_law 289 = .ok (.iload 4, 2) := by decide +kernel
theorem dL_law_291 : decode cL_law 291 = .ok (.iconst 2, 1) := by decide +kernel
theorem dL_law_292 : decode cL_law 292 = .ok (.iadd, 1) := by decide +kernel
theorem dL_law_293 : decode cL_law 293 = .ok (.iaload, 1) := by decide +kernel
theorem dL_law_294 : decode cL_law 294 = .ok (.aload_n 0, 1) := by decide +kernel
theorem dL_law_295 : decode cL_law 295 = .ok (.iload 4, 2) := by decide +kernel
theorem dL_law_297 : decode cL_law 297 = .ok (.iconst 3, 1) := by decide +kernel
theorem dL_law_298 : decode cL_law 298 = .ok (.iadd, 1) := by decide +kernel
theorem dL_law_299 : decode cL_law 299 = .ok (.iaload, 1) := by decide +kernel
theorem dL_law_300 : decode cL_law 300 = .ok (.aload_n 0, 1) := by decide +kernel
theorem dL_law_301 : decode cL_law 301 = .ok (.iload 4, 2) := by decide +kernel
theorem dL_law_303 : decode cL_law 303 = .ok (.iconst 4, 1) := by decide +kernel
theorem dL_law_304 : decode cL_law 304 = .ok (.iadd, 1) := by decide +kernel
theorem dL_law_305 : decode cL_law 305 = .ok (.iaload, 1) := by decide +kernel
theorem dL_law_306 : decode cL_law 306 = .ok (.invokevirtual 43, 3) := by decide +kernel
theorem dL_law_309 : decode cL_law 309 = .ok (.aload_n 2, 1) := by decide +kernel
theorem dL_law_310 : decode cL_law 310 = .ok (.aload_n 0, 1) := by decide +kernel
theorem dL_law_311 : decode cL_law 311 = .ok (.iload 4, 2) := by decide +kernel
theorem dL_law_313 : decode cL_law 313 = .ok (.iconst 1, 1) := by decide +kernel
theorem dL_law_314 : decode cL_law 314 = .ok (.iadd, 1) := by decide +kernel
theorem dL_law_315 : decode cL_law 315 = .ok (.iaload, 1) := by decide +kernel
theorem dL_law_316 : decode cL_law 316 = .ok (.aload_n 0, 1) := by decide +kernel
theorem dL_law_317 : decode cL_law 317 = .ok (.iload 4, 2) := by decide +kernel
theorem dL_law_319 : decode cL_law 319 = .ok (.iconst 2, 1) := by decide +kernel
theorem dL_law_320 : decode cL_law 320 = .ok (.iadd, 1) := by decide +kernel
theorem dL_law_321 : decode cL_law 321 = .ok (.iaload, 1) := by decide +kernel
theorem dL_law_322 : decode cL_law 322 = .ok (.aload_n 0, 1) := by decide +kernel
theorem dL_law_323 : decode cL_law 323 = .ok (.iload 4, 2) := by decide +kernel
theorem dL_law_325 : decode cL_law 325 = .ok (.iconst 3, 1) := by decide +kernel
theorem dL_law_326 : decode cL_law 326 = .ok (.iadd, 1) := by decide +kernel
theorem dL_law_327 : decode cL_law 327 = .ok (.iaload, 1) := by decide +kernel
theorem dL_law_328 : decode cL_law 328 = .ok (.aload_n 0, 1) := by decide +kernel
theorem dL_law_329 : decode cL_law 329 = .ok (.iload 4, 2) := by decide +kernel
theorem dL_law_331 : decode cL_law 331 = .ok (.iconst 4, 1) := by decide +kernel
theorem dL_law_332 : decode cL_law 332 = .ok (.iadd, 1) := by decide +kernel
theorem dL_law_333 : decode cL_law 333 = .ok (.iaload, 1) := by decide +kernel
theorem dL_law_334 : decode cL_law 334 = .ok (.invokevirtual 47, 3) := by decide +kernel
theorem dL_law_337 : decode cL_law 337 = .ok (.if_icmp .eq 513, 3) := by decide +kernel
theorem dL_law_340 : decode cL_law 340 = .ok (.iconst 0, 1) := by decide +kernel
theorem dL_law_341 : decode cL_law 341 = .ok (.ireturn, 1) := by decide +kernel
theorem dL_law_342 : decode cL_law 342 = .ok (.aload_n 1, 1) := by decide +kernel
theorem dL_law_343 : decode cL_law 343 = .ok (.aload_n 0, 1) := by decide +kernel
theorem dL_law_344 : decode cL_law 344 = .ok (.iload 4, 2) := by decide +kernel
theorem dL_law_346 : decode cL_law 346 = .ok (.iconst 1, 1) := by decide +kernel
theorem dL_law_347 : decode cL_law 347 = .ok (.iadd, 1) := by decide +kernel
theorem dL_law_348 : decode cL_law 348 = .ok (.iaload, 1) := by decide +kernel
theorem dL_law_349 : decode cL_law 349 = .ok (.aload_n 0, 1) := by decide +kernel
theorem dL_law_350 : decode cL_law 350 = .ok (.iload 4, 2) := by decide +kernel
theorem dL_law_352 : decode cL_law 352 = .ok (.iconst 2, 1) := by decide +kernel
theorem dL_law_353 : decode cL_law 353 = .ok (.iadd, 1) := by decide +kernel
theorem dL_law_354 : decode cL_law 354 = .ok (.iaload, 1) := by decide +kernel
theorem dL_law_355 : decode cL_law 355 = .ok (.aload_n 0, 1) := by decide +kernel
theorem dL_law_356 : decode cL_law 356 = .ok (.iload 4, 2) := by decide +kernel
theorem dL_law_358 : decode cL_law 358 = .ok (.iconst 3, 1) := by decide +kernel
theorem dL_law_359 : decode cL_law 359 = .ok (.iadd, 1) := by decide +kernel
theorem dL_law_360 : decode cL_law 360 = .ok (.iaload, 1) := by decide +kernel
theorem dL_law_361 : decode cL_law 361 = .ok (.ifCond .eq 7, 3) := by decide +kernel
theorem dL_law_364 : decode cL_law 364 = .ok (.iconst 1, 1) := by decide +kernel
theorem dL_law_365 : decode cL_law 365 = .ok (.goto 4, 3) := by decide +kernel
theorem dL_law_368 : decode cL_law 368 = .ok (.iconst 0, 1) := by decide +kernel
theorem dL_law_369 : decode cL_law 369 = .ok (.invokevirtual 48, 3) := by decide +kernel
theorem dL_law_372 : decode cL_law 372 = .ok (.aload_n 2, 1) := by decide +kernel
theorem dL_law_373 : decode cL_law 373 = .ok (.aload_n 0, 1) := by decide +kernel
theorem dL_law_374 : decode cL_law 374 = .ok (.iload 4, 2) := by decide +kernel
theorem dL_law_376 : decode cL_law 376 = .ok (.iconst 1, 1) := by decide +kernel
theorem dL_law_377 : decode cL_law 377 = .ok (.iadd, 1) := by decide +kernel
theorem dL_law_378 : decode cL_law 378 = .ok (.iaload, 1) := by decide +kernel
theorem dL_law_379 : decode cL_law 379 = .ok (.aload_n 0, 1) := by decide +kernel
theorem dL_law_380 : decode cL_law 380 = .ok (.iload 4, 2) := by decide +kernel
theorem dL_law_382 : decode cL_law 382 = .ok (.iconst 2, 1) := by decide +kernel
theorem dL_law_383 : decode cL_law 383 = .ok (.iadd, 1) := by decide +kernel
theorem dL_law_384 : decode cL_law 384 = .ok (.iaload, 1) := by decide +kernel
theorem dL_law_385 : decode cL_law 385 = .ok (.aload_n 0, 1) := by decide +kernel
theorem dL_law_386 : decode cL_law 386 = .ok (.iload 4, 2) := by decide +kernel
theorem dL_law_388 : decode cL_law 388 = .ok (.iconst 3, 1) := by decide +kernel
theorem dL_law_389 : decode cL_law 389 = .ok (.iadd, 1) := by decide +kernel
theorem dL_law_390 : decode cL_law 390 = .ok (.iaload, 1) := by decide +kernel
theorem dL_law_391 : decode cL_law 391 = .ok (.ifCond .eq 7, 3) := by decide +kernel
theorem dL_law_394 : decode cL_law 394 = .ok (.iconst 1, 1) := by decide +kernel
theorem dL_law_395 : decode cL_law 395 = .ok (.goto 4, 3) := by decide +kernel
theorem dL_law_398 : decode cL_law 398 = .ok (.iconst 0, 1) := by decide +kernel
theorem dL_law_399 : decode cL_law 399 = .ok (.invokevirtual 52, 3) := by decide +kernel
theorem dL_law_402 : decode cL_law 402 = .ok (.if_icmp .eq 448, 3) := by decide +kernel
theorem dL_law_405 : decode cL_law 405 = .ok (.iconst 0, 1) := by decide +kernel
theorem dL_law_406 : decode cL_law 406 = .ok (.ireturn, 1) := by decide +kernel
theorem dL_law_407 : decode cL_law 407 = .ok (.aload_n 1, 1) := by decide +kernel
theorem dL_law_408 : decode cL_law 408 = .ok (.aload_n 0, 1) := by decide +kernel
theorem dL_law_409 : decode cL_law 409 = .ok (.iload 4, 2) := by decide +kernel
theorem dL_law_411 : decode cL_law 411 = .ok (.iconst 1, 1) := by decide +kernel
theorem dL_law_412 : decode cL_law 412 = .ok (.iadd, 1) := by decide +kernel
theorem dL_law_413 : decode cL_law 413 = .ok (.iaload, 1) := by decide +kernel
theorem dL_law_414 : decode cL_law 414 = .ok (.aload_n 0, 1) := by decide +kernel
theorem dL_law_415 : decode cL_law 415 = .ok (.iload 4, 2) := by decide +kernel
theorem dL_law_417 : decode cL_law 417 = .ok (.iconst 2, 1) := by decide +kernel
theorem dL_law_418 : decode cL_law 418 = .ok (.iadd, 1) := by decide +kernel
theorem dL_law_419 : decode cL_law 419 = .ok (.iaload, 1) := by decide +kernel
theorem dL_law_420 : decode cL_law 420 = .ok (.aload_n 0, 1) := by decide +kernel
theorem dL_law_421 : decode cL_law 421 = .ok (.iload 4, 2) := by decide +kernel
theorem dL_law_423 : decode cL_law 423 = .ok (.iconst 3, 1) := by decide +kernel
theorem dL_law_424 : decode cL_law 424 = .ok (.iadd, 1) := by decide +kernel
theorem dL_law_425 : decode cL_law 425 = .ok (.iaload, 1) := by decide +kernel
theorem dL_law_426 : decode cL_law 426 = .ok (.aload_n 0, 1) := by decide +kernel
theorem dL_law_427 : decode cL_law 427 = .ok (.iload 4, 2) := by decide +kernel
theorem dL_law_429 : decode cL_law 429 = .ok (.iconst 4, 1) := by decide +kernel
theorem dL_law_430 : decode cL_law 430 = .ok (.iadd, 1) := by decide +kernel
theorem dL_law_431 : decode cL_law 431 = .ok (.iaload, 1) := by decide +kernel
theorem dL_law_432 : decode cL_law 432 = .ok (.aload_n 0, 1) := by decide +kernel
theorem dL_law_433 : decode cL_law 433 = .ok (.iload 4, 2) := by decide +kernel
theorem dL_law_435 : decode cL_law 435 = .ok (.iconst 5, 1) := by decide +kernel
theorem dL_law_436 : decode cL_law 436 = .ok (.iadd, 1) := by decide +kernel
theorem dL_law_437 : decode cL_law 437 = .ok (.iaload, 1) := by decide +kernel
theorem dL_law_438 : decode cL_law 438 = .ok (.invokevirtual 53, 3) := by decide +kernel
theorem dL_law_441 : decode cL_law 441 = .ok (.aload_n 2, 1) := by decide +kernel
theorem dL_law_442 : decode cL_law 442 = .ok (.aload_n 0, 1) := by decide +kernel
theorem dL_law_443 : decode cL_law 443 = .ok (.iload 4, 2) := by decide +kernel
theorem dL_law_445 : decode cL_law 445 = .ok (.iconst 1, 1) := by decide +kernel
theorem dL_law_446 : decode cL_law 446 = .ok (.iadd, 1) := by decide +kernel
theorem dL_law_447 : decode cL_law 447 = .ok (.iaload, 1) := by decide +kernel
theorem dL_law_448 : decode cL_law 448 = .ok (.aload_n 0, 1) := by decide +kernel
theorem dL_law_449 : decode cL_law 449 = .ok (.iload 4, 2) := by decide +kernel
theorem dL_law_451 : decode cL_law 451 = .ok (.iconst 2, 1) := by decide +kernel
theorem dL_law_452 : decode cL_law 452 = .ok (.iadd, 1) := by decide +kernel
theorem dL_law_453 : decode cL_law 453 = .ok (.iaload, 1) := by decide +kernel
theorem dL_law_454 : decode cL_law 454 = .ok (.aload_n 0, 1) := by decide +kernel
theorem dL_law_455 : decode cL_law 455 = .ok (.iload 4, 2) := by decide +kernel
theorem dL_law_457 : decode cL_law 457 = .ok (.iconst 3, 1) := by decide +kernel
theorem dL_law_458 : decode cL_law 458 = .ok (.iadd, 1) := by decide +kernel
theorem dL_law_459 : decode cL_law 459 = .ok (.iaload, 1) := by decide +kernel
theorem dL_law_460 : decode cL_law 460 = .ok (.aload_n 0, 1) := by decide +kernel
theorem dL_law_461 : decode cL_law 461 = .ok (.iload 4, 2) := by decide +kernel
theorem dL_law_463 : decode cL_law 463 = .ok (.iconst 4, 1) := by decide +kernel
theorem dL_law_464 : decode cL_law 464 = .ok (.iadd, 1) := by decide +kernel
theorem dL_law_465 : decode cL_law 465 = .ok (.iaload, 1) := by decide +kernel
theorem dL_law_466 : decode cL_law 466 = .ok (.aload_n 0, 1) := by decide +kernel
theorem dL_law_467 : decode cL_law 467 = .ok (.iload 4, 2) := by decide +kernel
theorem dL_law_469 : decode cL_law 469 = .ok (.iconst 5, 1) := by decide +kernel
theorem dL_law_470 : decode cL_law 470 = .ok (.iadd, 1) := by decide +kernel
theorem dL_law_471 : decode cL_law 471 = .ok (.iaload, 1) := by decide +kernel
theorem dL_law_472 : decode cL_law 472 = .ok (.invokevirtual 56, 3) := by decide +kernel
theorem dL_law_475 : decode cL_law 475 = .ok (.if_icmp .eq 375, 3) := by decide +kernel
theorem dL_law_478 : decode cL_law 478 = .ok (.iconst 0, 1) := by decide +kernel
theorem dL_law_479 : decode cL_law 479 = .ok (.ireturn, 1) := by decide +kernel
theorem dL_law_480 : decode cL_law 480 = .ok (.aload_n 1, 1) := by decide +kernel
theorem dL_law_481 : decode cL_law 481 = .ok (.aload_n 0, 1) := by decide +kernel
theorem dL_law_482 : decode cL_law 482 = .ok (.iload 4, 2) := by decide +kernel
theorem dL_law_484 : decode cL_law 484 = .ok (.iconst 1, 1) := by decide +kernel
theorem dL_law_485 : decode cL_law 485 = .ok (.iadd, 1) := by decide +kernel
theorem dL_law_486 : decode cL_law 486 = .ok (.iaload, 1) := by decide +kernel
theorem dL_law_487 : decode cL_law 487 = .ok (.aload_n 0, 1) := by decide +kernel
theorem dL_law_488 : decode cL_law 488 = .ok (.iload 4, 2) := by decide +kernel
theorem dL_law_490 : decode cL_law 490 = .ok (.iconst 2, 1) := by decide +kernel
theorem dL_law_491 : decode cL_law 491 = .ok (.iadd, 1) := by decide +kernel
theorem dL_law_492 : decode cL_law 492 = .ok (.iaload, 1) := by decide +kernel
theorem dL_law_493 : decode cL_law 493 = .ok (.invokevirtual 57, 3) := by decide +kernel
theorem dL_law_496 : decode cL_law 496 = .ok (.aload_n 2, 1) := by decide +kernel
theorem dL_law_497 : decode cL_law 497 = .ok (.aload_n 0, 1) := by decide +kernel
theorem dL_law_498 : decode cL_law 498 = .ok (.iload 4, 2) := by decide +kernel
theorem dL_law_500 : decode cL_law 500 = .ok (.iconst 1, 1) := by decide +kernel
theorem dL_law_501 : decode cL_law 501 = .ok (.iadd, 1) := by decide +kernel
theorem dL_law_502 : decode cL_law 502 = .ok (.iaload, 1) := by decide +kernel
theorem dL_law_503 : decode cL_law 503 = .ok (.aload_n 0, 1) := by decide +kernel
theorem dL_law_504 : decode cL_law 504 = .ok (.iload 4, 2) := by decide +kernel
theorem dL_law_506 : decode cL_law 506 = .ok (.iconst 2, 1) := by decide +kernel
theorem dL_law_507 : decode cL_law 507 = .ok (.iadd, 1) := by decide +kernel
theorem dL_law_508 : decode cL_law 508 = .ok (.iaload, 1) := by decide +kernel
theorem dL_law_509 : decode cL_law 509 = .ok (.invokevirtual 61, 3) := by decide +kernel
theorem dL_law_512 : decode cL_law 512 = .ok (.if_icmp .eq 338, 3) := by decide +kernel
theorem dL_law_515 : decode cL_law 515 = .ok (.iconst 0, 1) := by decide +kernel
theorem dL_law_516 : decode cL_law 516 = .ok (.ireturn, 1) := by decide +kernel
theorem dL_law_517 : decode cL_law 517 = .ok (.aload_n 1, 1) := by decide +kernel
theorem dL_law_518 : decode cL_law 518 = .ok (.aload_n 0, 1) := by decide +kernel
theorem dL_law_519 : decode cL_law 519 = .ok (.iload 4, 2) := by decide +kernel
theorem dL_law_521 : decode cL_law 521 = .ok (.iconst 1, 1) := by decide +kernel
theorem dL_law_522 : decode cL_law 522 = .ok (.iadd, 1) := by decide +kernel
theorem dL_law_523 : decode cL_law 523 = .ok (.iaload, 1) := by decide +kernel
theorem dL_law_524 : decode cL_law 524 = .ok (.aload_n 0, 1) := by decide +kernel
theorem dL_law_525 : decode cL_law 525 = .ok (.iload 4, 2) := by decide +kernel
theorem dL_law_527 : decode cL_law 527 = .ok (.iconst 2, 1) := by decide +kernel
theorem dL_law_528 : decode cL_law 528 = .ok (.iadd, 1) := by decide +kernel
theorem dL_law_529 : decode cL_law 529 = .ok (.iaload, 1) := by decide +kernel
theorem dL_law_530 : decode cL_law 530 = .ok (.invokevirtual 62, 3) := by decide +kernel
theorem dL_law_533 : decode cL_law 533 = .ok (.aload_n 2, 1) := by decide +kernel
theorem dL_law_534 : decode cL_law 534 = .ok (.aload_n 0, 1) := by decide +kernel
theorem dL_law_535 : decode cL_law 535 = .ok (.iload 4, 2) := by decide +kernel
theorem dL_law_537 : decode cL_law 537 = .ok (.iconst 1, 1) := by decide +kernel
theorem dL_law_538 : decode cL_law 538 = .ok (.iadd, 1) := by decide +kernel
theorem dL_law_539 : decode cL_law 539 = .ok (.iaload, 1) := by decide +kernel
theorem dL_law_540 : decode cL_law 540 = .ok (.aload_n 0, 1) := by decide +kernel
theorem dL_law_541 : decode cL_law 541 = .ok (.iload 4, 2) := by decide +kernel
theorem dL_law_543 : decode cL_law 543 = .ok (.iconst 2, 1) := by decide +kernel
theorem dL_law_544 : decode cL_law 544 = .ok (.iadd, 1) := by decide +kernel
theorem dL_law_545 : decode cL_law 545 = .ok (.iaload, 1) := by decide +kernel
theorem dL_law_546 : decode cL_law 546 = .ok (.invokevirtual 65, 3) := by decide +kernel
theorem dL_law_549 : decode cL_law 549 = .ok (.if_icmp .eq 301, 3) := by decide +kernel
theorem dL_law_552 : decode cL_law 552 = .ok (.iconst 0, 1) := by decide +kernel
theorem dL_law_553 : decode cL_law 553 = .ok (.ireturn, 1) := by decide +kernel
theorem dL_law_554 : decode cL_law 554 = .ok (.aload_n 1, 1) := by decide +kernel
theorem dL_law_555 : decode cL_law 555 = .ok (.invokevirtual 66, 3) := by decide +kernel
theorem dL_law_558 : decode cL_law 558 = .ok (.aload_n 2, 1) := by decide +kernel
theorem dL_law_559 : decode cL_law 559 = .ok (.invokevirtual 69, 3) := by decide +kernel
theorem dL_law_562 : decode cL_law 562 = .ok (.if_icmp .eq 288, 3) := by decide +kernel
theorem dL_law_565 : decode cL_law 565 = .ok (.iconst 0, 1) := by decide +kernel
theorem dL_law_566 : decode cL_law 566 = .ok (.ireturn, 1) := by decide +kernel
theorem dL_law_567 : decode cL_law 567 = .ok (.aload_n 1, 1) := by decide +kernel
theorem dL_law_568 : decode cL_law 568 = .ok (.aload_n 0, 1) := by decide +kernel
theorem dL_law_569 : decode cL_law 569 = .ok (.iload 4, 2) := by decide +kernel
theorem dL_law_571 : decode cL_law 571 = .ok (.iconst 1, 1) := by decide +kernel
theorem dL_law_572 : decode cL_law 572 = .ok (.iadd, 1) := by decide +kernel
theorem dL_law_573 : decode cL_law 573 = .ok (.iaload, 1) := by decide +kernel
theorem dL_law_574 : decode cL_law 574 = .ok (.invokevirtual 70, 3) := by decide +kernel
theorem dL_law_577 : decode cL_law 577 = .ok (.aload_n 2, 1) := by decide +kernel
theorem dL_law_578 : decode cL_law 578 = .ok (.aload_n 0, 1) := by decide +kernel
theorem dL_law_579 : decode cL_law 579 = .ok (.iload 4, 2) := by decide +kernel
theorem dL_law_581 : decode cL_law 581 = .ok (.iconst 1, 1) := by decide +kernel
theorem dL_law_582 : decode cL_law 582 = .ok (.iadd, 1) := by decide +kernel
theorem dL_law_583 : decode cL_law 583 = .ok (.iaload, 1) := by decide +kernel
theorem dL_law_584 : decode cL_law 584 = .ok (.invokevirtual 73, 3) := by decide +kernel
theorem dL_law_587 : decode cL_law 587 = .ok (.if_icmp .eq 263, 3) := by decide +kernel
theorem dL_law_590 : decode cL_law 590 = .ok (.iconst 0, 1) := by decide +kernel
theorem dL_law_591 : decode cL_law 591 = .ok (.ireturn, 1) := by decide +kernel
theorem dL_law_592 : decode cL_law 592 = .ok (.aload_n 1, 1) := by decide +kernel
theorem dL_law_593 : decode cL_law 593 = .ok (.aload_n 0, 1) := by decide +kernel
theorem dL_law_594 : decode cL_law 594 = .ok (.iload 4, 2) := by decide +kernel
theorem dL_law_596 : decode cL_law 596 = .ok (.iconst 1, 1) := by decide +kernel
theorem dL_law_597 : decode cL_law 597 = .ok (.iadd, 1) := by decide +kernel
theorem dL_law_598 : decode cL_law 598 = .ok (.iaload, 1) := by decide +kernel
theorem dL_law_599 : decode cL_law 599 = .ok (.invokevirtual 74, 3) := by decide +kernel
theorem dL_law_602 : decode cL_law 602 = .ok (.aload_n 2, 1) := by decide +kernel
theorem dL_law_603 : decode cL_law 603 = .ok (.aload_n 0, 1) := by decide +kernel
theorem dL_law_604 : decode cL_law 604 = .ok (.iload 4, 2) := by decide +kernel
theorem dL_law_606 : decode cL_law 606 = .ok (.iconst 1, 1) := by decide +kernel
theorem dL_law_607 : decode cL_law 607 = .ok (.iadd, 1) := by decide +kernel
theorem dL_law_608 : decode cL_law 608 = .ok (.iaload, 1) := by decide +kernel
theorem dL_law_609 : decode cL_law 609 = .ok (.invokevirtual 77, 3) := by decide +kernel
theorem dL_law_612 : decode cL_law 612 = .ok (.if_icmp .eq 238, 3) := by decide +kernel
theorem dL_law_615 : decode cL_law 615 = .ok (.iconst 0, 1) := by decide +kernel
theorem dL_law_616 : decode cL_law 616 = .ok (.ireturn, 1) := by decide +kernel
theorem dL_law_617 : decode cL_law 617 = .ok (.aload_n 1, 1) := by decide +kernel
theorem dL_law_618 : decode cL_law 618 = .ok (.aload_n 0, 1) := by decide +kernel
theorem dL_law_619 : decode cL_law 619 = .ok (.iload 4, 2) := by decide +kernel
theorem dL_law_621 : decode cL_law 621 = .ok (.iconst 1, 1) := by decide +kernel
theorem dL_law_622 : decode cL_law 622 = .ok (.iadd, 1) := by decide +kernel
theorem dL_law_623 : decode cL_law 623 = .ok (.iaload, 1) := by decide +kernel
theorem dL_law_624 : decode cL_law 624 = .ok (.aload_n 0, 1) := by decide +kernel
theorem dL_law_625 : decode cL_law 625 = .ok (.iload 4, 2) := by decide +kernel
theorem dL_law_627 : decode cL_law 627 = .ok (.iconst 2, 1) := by decide +kernel
theorem dL_law_628 : decode cL_law 628 = .ok (.iadd, 1) := by decide +kernel
theorem dL_law_629 : decode cL_law 629 = .ok (.iaload, 1) := by decide +kernel
theorem dL_law_630 : decode cL_law 630 = .ok (.aload_n 0, 1) := by decide +kernel
theorem dL_law_631 : decode cL_law 631 = .ok (.iload 4, 2) := by decide +kernel
theorem dL_law_633 : decode cL_law 633 = .ok (.iconst 3, 1) := by decide +kernel
theorem dL_law_634 : decode cL_law 634 = .ok (.iadd, 1) := by decide +kernel
theorem dL_law_635 : decode cL_law 635 = .ok (.iaload, 1) := by decide +kernel
theorem dL_law_636 : decode cL_law 636 = .ok (.aload_n 0, 1) := by decide +kernel
theorem dL_law_637 : decode cL_law 637 = .ok (.iload 4, 2) := by decide +kernel
theorem dL_law_639 : decode cL_law 639 = .ok (.iconst 4, 1) := by decide +kernel
theorem dL_law_640 : decode cL_law 640 = .ok (.iadd, 1) := by decide +kernel
theorem dL_law_641 : decode cL_law 641 = .ok (.iaload, 1) := by decide +kernel
theorem dL_law_642 : decode cL_law 642 = .ok (.ifCond .eq 7, 3) := by decide +kernel
theorem dL_law_645 : decode cL_law 645 = .ok (.iconst 1, 1) := by decide +kernel
theorem dL_law_646 : decode cL_law 646 = .ok (.goto 4, 3) := by decide +kernel
theorem dL_law_649 : decode cL_law 649 = .ok (.iconst 0, 1) := by decide +kernel
theorem dL_law_650 : decode cL_law 650 = .ok (.invokevirtual 78, 3) := by decide +kernel
theorem dL_law_653 : decode cL_law 653 = .ok (.aload_n 2, 1) := by decide +kernel
theorem dL_law_654 : decode cL_law 654 = .ok (.aload_n 0, 1) := by decide +kernel
theorem dL_law_655 : decode cL_law 655 = .ok (.iload 4, 2) := by decide +kernel
theorem dL_law_657 : decode cL_law 657 = .ok (.iconst 1, 1) := by decide +kernel
theorem dL_law_658 : decode cL_law 658 = .ok (.iadd, 1) := by decide +kernel
theorem dL_law_659 : decode cL_law 659 = .ok (.iaload, 1) := by decide +kernel
theorem dL_law_660 : decode cL_law 660 = .ok (.aload_n 0, 1) := by decide +kernel
theorem dL_law_661 : decode cL_law 661 = .ok (.iload 4, 2) := by decide +kernel
theorem dL_law_663 : decode cL_law 663 = .ok (.iconst 2, 1) := by decide +kernel
theorem dL_law_664 : decode cL_law 664 = .ok (.iadd, 1) := by decide +kernel
theorem dL_law_665 : decode cL_law 665 = .ok (.iaload, 1) := by decide +kernel
theorem dL_law_666 : decode cL_law 666 = .ok (.aload_n 0, 1) := by decide +kernel
theorem dL_law_667 : decode cL_law 667 = .ok (.iload 4, 2) := by decide +kernel
theorem dL_law_669 : decode cL_law 669 = .ok (.iconst 3, 1) := by decide +kernel
theorem dL_law_670 : decode cL_law 670 = .ok (.iadd, 1) := by decide +kernel
theorem dL_law_671 : decode cL_law 671 = .ok (.iaload, 1) := by decide +kernel
theorem dL_law_672 : decode cL_law 672 = .ok (.aload_n 0, 1) := by decide +kernel
theorem dL_law_673 : decode cL_law 673 = .ok (.iload 4, 2) := by decide +kernel
theorem dL_law_675 : decode cL_law 675 = .ok (.iconst 4, 1) := by decide +kernel
theorem dL_law_676 : decode cL_law 676 = .ok (.iadd, 1) := by decide +kernel
theorem dL_law_677 : decode cL_law 677 = .ok (.iaload, 1) := by decide +kernel
theorem dL_law_678 : decode cL_law 678 = .ok (.ifCond .eq 7, 3) := by decide +kernel
theorem dL_law_681 : decode cL_law 681 = .ok (.iconst 1, 1) := by decide +kernel
theorem dL_law_682 : decode cL_law 682 = .ok (.goto 4, 3) := by decide +kernel
theorem dL_law_685 : decode cL_law 685 = .ok (.iconst 0, 1) := by decide +kernel
theorem dL_law_686 : decode cL_law 686 = .ok (.invokevirtual 82, 3) := by decide +kernel
theorem dL_law_689 : decode cL_law 689 = .ok (.if_icmp .eq 161, 3) := by decide +kernel
theorem dL_law_692 : decode cL_law 692 = .ok (.iconst 0, 1) := by decide +kernel
theorem dL_law_693 : decode cL_law 693 = .ok (.ireturn, 1) := by decide +kernel
theorem dL_law_694 : decode cL_law 694 = .ok (.aload_n 1, 1) := by decide +kernel
theorem dL_law_695 : decode cL_law 695 = .ok (.invokevirtual 83, 3) := by decide +kernel
theorem dL_law_698 : decode cL_law 698 = .ok (.aload_n 2, 1) := by decide +kernel
theorem dL_law_699 : decode cL_law 699 = .ok (.invokevirtual 86, 3) := by decide +kernel
theorem dL_law_702 : decode cL_law 702 = .ok (.if_icmp .eq 148, 3) := by decide +kernel
theorem dL_law_705 : decode cL_law 705 = .ok (.iconst 0, 1) := by decide +kernel
theorem dL_law_706 : decode cL_law 706 = .ok (.ireturn, 1) := by decide +kernel
theorem dL_law_707 : decode cL_law 707 = .ok (.aload_n 1, 1) := by decide +kernel
theorem dL_law_708 : decode cL_law 708 = .ok (.aload_n 0, 1) := by decide +kernel
theorem dL_law_709 : decode cL_law 709 = .ok (.iload 4, 2) := by decide +kernel
theorem dL_law_711 : decode cL_law 711 = .ok (.iconst 1, 1) := by decide +kernel
theorem dL_law_712 : decode cL_law 712 = .ok (.iadd, 1) := by decide +kernel
theorem dL_law_713 : decode cL_law 713 = .ok (.iaload, 1) := by decide +kernel
theorem dL_law_714 : decode cL_law 714 = .ok (.aload_n 0, 1) := by decide +kernel
theorem dL_law_715 : decode cL_law 715 = .ok (.iload 4, 2) := by decide +kernel
theorem dL_law_717 : decode cL_law 717 = .ok (.iconst 2, 1) := by decide +kernel
theorem dL_law_718 : decode cL_law 718 = .ok (.iadd, 1) := by decide +kernel
theorem dL_law_719 : decode cL_law 719 = .ok (.iaload, 1) := by decide +kernel
theorem dL_law_720 : decode cL_law 720 = .ok (.aload_n 3, 1) := by decide +kernel
theorem dL_law_721 : decode cL_law 721 = .ok (.invokestatic 87, 3) := by decide +kernel
theorem dL_law_724 : decode cL_law 724 = .ok (.istore 5, 2) := by decide +kernel
theorem dL_law_726 : decode cL_law 726 = .ok (.aload_n 2, 1) := by decide +kernel
theorem dL_law_727 : decode cL_law 727 = .ok (.aload_n 0, 1) := by decide +kernel
theorem dL_law_728 : decode cL_law 728 = .ok (.iload 4, 2) := by decide +kernel
theorem dL_law_730 : decode cL_law 730 = .ok (.iconst 1, 1) := by decide +kernel
theorem dL_law_731 : decode cL_law 731 = .ok (.iadd, 1) := by decide +kernel
theorem dL_law_732 : decode cL_law 732 = .ok (.iaload, 1) := by decide +kernel
theorem dL_law_733 : decode cL_law 733 = .ok (.aload_n 0, 1) := by decide +kernel
theorem dL_law_734 : decode cL_law 734 = .ok (.iload 4, 2) := by decide +kernel
theorem dL_law_736 : decode cL_law 736 = .ok (.iconst 2, 1) := by decide +kernel
theorem dL_law_737 : decode cL_law 737 = .ok (.iadd, 1) := by decide +kernel
theorem dL_law_738 : decode cL_law 738 = .ok (.iaload, 1) := by decide +kernel
theorem dL_law_739 : decode cL_law 739 = .ok (.invokevirtual 92, 3) := by decide +kernel
theorem dL_law_742 : decode cL_law 742 = .ok (.istore 6, 2) := by decide +kernel
theorem dL_law_744 : decode cL_law 744 = .ok (.aload_n 2, 1) := by decide +kernel
theorem dL_law_745 : decode cL_law 745 = .ok (.invokevirtual 93, 3) := by decide +kernel
theorem dL_law_748 : decode cL_law 748 = .ok (.iload 5, 2) := by decide +kernel
theorem dL_law_750 : decode cL_law 750 = .ok (.if_icmp .eq 5, 3) := by decide +kernel
theorem dL_law_753 : decode cL_law 753 = .ok (.iconst 0, 1) := by decide +kernel
theorem dL_law_754 : decode cL_law 754 = .ok (.ireturn, 1) := by decide +kernel
theorem dL_law_755 : decode cL_law 755 = .ok (.iload 5, 2) := by decide +kernel
theorem dL_law_757 : decode cL_law 757 = .ok (.ifCond .ne 15, 3) := by decide +kernel
theorem dL_law_760 : decode cL_law 760 = .ok (.aload_n 3, 1) := by decide +kernel
theorem dL_law_761 : decode cL_law 761 = .ok (.iconst 0, 1) := by decide +kernel
theorem dL_law_762 : decode cL_law 762 = .ok (.laload, 1) := by decide +kernel
theorem dL_law_763 : decode cL_law 763 = .ok (.iload 6, 2) := by decide +kernel
theorem dL_law_765 : decode cL_law 765 = .ok (.i2l, 1) := by decide +kernel
theorem dL_law_766 : decode cL_law 766 = .ok (.lcmp, 1) := by decide +kernel
theorem dL_law_767 : decode cL_law 767 = .ok (.ifCond .eq 5, 3) := by decide +kernel
theorem dL_law_770 : decode cL_law 770 = .ok (.iconst 0, 1) := by decide +kernel
theorem dL_law_771 : decode cL_law 771 = .ok (.ireturn, 1) := by decide +kernel
theorem dL_law_772 : decode cL_law 772 = .ok (.goto 78, 3) := by decide +kernel
theorem dL_law_775 : decode cL_law 775 = .ok (.aload_n 1, 1) := by decide +kernel
theorem dL_law_776 : decode cL_law 776 = .ok (.aload_n 0, 1) := by decide +kernel
theorem dL_law_777 : decode cL_law 777 = .ok (.iload 4, 2) := by decide +kernel
theorem dL_law_779 : decode cL_law 779 = .ok (.iconst 1, 1) := by decide +kernel
theorem dL_law_780 : decode cL_law 780 = .ok (.iadd, 1) := by decide +kernel
theorem dL_law_781 : decode cL_law 781 = .ok (.iaload, 1) := by decide +kernel
theorem dL_law_782 : decode cL_law 782 = .ok (.aload_n 0, 1) := by decide +kernel
theorem dL_law_783 : decode cL_law 783 = .ok (.iload 4, 2) := by decide +kernel
theorem dL_law_785 : decode cL_law 785 = .ok (.iconst 2, 1) := by decide +kernel
theorem dL_law_786 : decode cL_law 786 = .ok (.iadd, 1) := by decide +kernel
theorem dL_law_787 : decode cL_law 787 = .ok (.iaload, 1) := by decide +kernel
theorem dL_law_788 : decode cL_law 788 = .ok (.invokevirtual 96, 3) := by decide +kernel
theorem dL_law_791 : decode cL_law 791 = .ok (.aload_n 2, 1) := by decide +kernel
theorem dL_law_792 : decode cL_law 792 = .ok (.aload_n 0, 1) := by decide +kernel
theorem dL_law_793 : decode cL_law 793 = .ok (.iload 4, 2) := by decide +kernel
theorem dL_law_795 : decode cL_law 795 = .ok (.iconst 1, 1) := by decide +kernel
theorem dL_law_796 : decode cL_law 796 = .ok (.iadd, 1) := by decide +kernel
theorem dL_law_797 : decode cL_law 797 = .ok (.iaload, 1) := by decide +kernel
theorem dL_law_798 : decode cL_law 798 = .ok (.aload_n 0, 1) := by decide +kernel
theorem dL_law_799 : decode cL_law 799 = .ok (.iload 4, 2) := by decide +kernel
theorem dL_law_801 : decode cL_law 801 = .ok (.iconst 2, 1) := by decide +kernel
theorem dL_law_802 : decode cL_law 802 = .ok (.iadd, 1) := by decide +kernel
theorem dL_law_803 : decode cL_law 803 = .ok (.iaload, 1) := by decide +kernel
theorem dL_law_804 : decode cL_law 804 = .ok (.invokevirtual 99, 3) := by decide +kernel
theorem dL_law_807 : decode cL_law 807 = .ok (.if_icmp .eq 43, 3) := by decide +kernel
theorem dL_law_810 : decode cL_law 810 = .ok (.iconst 0, 1) := by decide +kernel
theorem dL_law_811 : decode cL_law 811 = .ok (.ireturn, 1) := by decide +kernel
theorem dL_law_812 : decode cL_law 812 = .ok (.aload_n 1, 1) := by decide +kernel
theorem dL_law_813 : decode cL_law 813 = .ok (.invokevirtual 100, 3) := by decide +kernel
theorem dL_law_816 : decode cL_law 816 = .ok (.aload_n 2, 1) := by decide +kernel
theorem dL_law_817 : decode cL_law 817 = .ok (.invokevirtual 103, 3) := by decide +kernel
theorem dL_law_820 : decode cL_law 820 = .ok (.if_icmp .eq 30, 3) := by decide +kernel
theorem dL_law_823 : decode cL_law 823 = .ok (.iconst 0, 1) := by decide +kernel
theorem dL_law_824 : decode cL_law 824 = .ok (.ireturn, 1) := by decide +kernel
theorem dL_law_825 : decode cL_law 825 = .ok (.aload_n 1, 1) := by decide +kernel
theorem dL_law_826 : decode cL_law 826 = .ok (.aload_n 0, 1) := by decide +kernel
theorem dL_law_827 : decode cL_law 827 = .ok (.iload 4, 2) := by decide +kernel
theorem dL_law_829 : decode cL_law 829 = .ok (.iconst 1, 1) := by decide +kernel
theorem dL_law_830 : decode cL_law 830 = .ok (.iadd, 1) := by decide +kernel
theorem dL_law_831 : decode cL_law 831 = .ok (.iaload, 1) := by decide +kernel
theorem dL_law_832 : decode cL_law 832 = .ok (.invokevirtual 104, 3) := by decide +kernel
theorem dL_law_835 : decode cL_law 835 = .ok (.aload_n 2, 1) := by decide +kernel
theorem dL_law_836 : decode cL_law 836 = .ok (.aload_n 0, 1) := by decide +kernel
theorem dL_law_837 : decode cL_law 837 = .ok (.iload 4, 2) := by decide +kernel
theorem dL_law_839 : decode cL_law 839 = .ok (.iconst 1, 1) := by decide +kernel
theorem dL_law_840 : decode cL_law 840 = .ok (.iadd, 1) := by decide +kernel
theorem dL_law_841 : decode cL_law 841 = .ok (.iaload, 1) := by decide +kernel
theorem dL_law_842 : decode cL_law 842 = .ok (.invokevirtual 107, 3) := by decide +kernel
theorem dL_law_845 : decode cL_law 845 = .ok (.if_icmp .eq 5, 3) := by decide +kernel
theorem dL_law_848 : decode cL_law 848 = .ok (.iconst 0, 1) := by decide +kernel
theorem dL_law_849 : decode cL_law 849 = .ok (.ireturn, 1) := by decide +kernel
theorem dL_law_850 : decode cL_law 850 = .ok (.iinc 4 6, 3) := by decide +kernel
theorem dL_law_853 : decode cL_law 853 = .ok (.goto (-830), 3) := by decide +kernel
theorem dL_law_856 : decode cL_law 856 = .ok (.iconst 1, 1) := by decide +kernel
theorem dL_law_857 : decode cL_law 857 = .ok (.ireturn, 1) := by decide +kernel
end
section
def lw_good : List Cond := lw_tbl.filter goodWord
theorem lg_mem {w : Cond} (i : Nat) (h : lw_tbl[i]? = some w) (hg : goodWord w = true) : w ∈ lw_good := List.mem_filter.mpr ⟨List.mem_of_getElem? h, hg⟩
theorem lw_good_in : GoodIn lw_good lw_good := fun w h => ⟨h, good_of_word (List.mem_filter.mp h).2⟩
/-! THE A-LOGIC: cells are named by their place in the world; numbers are Int -/
abbrev classes : List vw_C := [(RX0, TX0, 4), (RX1, TX1, 7), (RX2, TX2, 12), (RX3, TX3, 2), (RX4, TX4, 11), (RX5, TX5, 10), (RX6, TX6, 46)]
abbrev AV : Type := (Option Nat) ⊕ (Int ⊕ (Int ⊕ Nat))
abbrev ar (r : Option Nat) : AV := .inl r
abbrev ai (x : Int) : AV := .inr (.inl x)
abbrev al (x : Int) : AV := .inr (.inr (.inl x))
abbrev ax (e : Nat) : AV := .inr (.inr (.inr e))
def tr (ad ea : Nat → Nat) : AV → Value
  | .inl none => .null
  | .inl (some k) => .ref (ad k)
  | .inr (.inl x) => .int (Int32.ofInt x)
  | .inr (.inr (.inl y)) => .long (Int64.ofInt y)
  | .inr (.inr (.inr e)) => .ref (ea e)
abbrev VV : Type := Nat → Int → Int
abbrev AS : Type := Nat × (Nat → Nat × Nat) × (Nat → Int → Option Nat)
def kd : FieldType → Nat
  | .int => 0
  | .byte => 1
  | .boolean => 2
  | .long => 5
  | _ => 3
def tyof (ci : Nat) : Nat → FieldType := match ci with
  | 0 => tyX0
  | 1 => tyX1
  | 2 => tyX2
  | 3 => tyX3
  | 4 => tyX4
  | 5 => tyX5
  | _ => tyX6
def fk (ci j : Nat) : Nat := kd (tyof ci j)
def nf (ci : Nat) : Nat := match ci with
  | 0 => 4
  | 1 => 7
  | 2 => 12
  | 3 => 2
  | 4 => 11
  | 5 => 10
  | _ => 46
def ek (t : Nat) : Nat := match t with
  | 0 => 0
  | 1 => 1
  | 2 => 2
  | 5 => 5
  | _ => 3
abbrev tyl (T : Nat → ClassId) : List (ClassId × FieldType) := [(T 0, .int), (T 1, .byte), (T 2, .boolean), (T 3, .object "WicketBoard$Umpire"), (T 4, .object "WicketBoard$Game"), (T 5, .long)]
def vlk (kind : Nat) (ad : Nat → Nat) (r : Option Nat) (x : Int) : Value := match kind with
  | 3 => va_rf (r.map ad)
  | 5 => .long (Int64.ofInt x)
  | _ => .int (Int32.ofInt x)
def flds (ad : Nat → Nat) (ci : Nat) (rk : Int → Option Nat) (vk : Int → Int) : List Value := (List.range (nf ci)).map fun (j : Nat) => vlk (fk ci j) ad (rk (j : Int)) (vk (j : Int))
def arrc (ad : Nat → Nat) (t len : Nat) (rk : Int → Option Nat) (vk : Int → Int) : vp_A := match ek t with
  | 3 => (len, .inr (.inr (.inr (.inr fun (j : Nat) => (rk (j : Int)).map ad))))
  | 5 => (len, .inr (.inl fun (j : Nat) => Int64.ofInt (vk (j : Int))))
  | _ => (len, .inl fun (j : Nat) => Int32.ofInt (vk (j : Int)))
def cellE (T : Nat → ClassId) (ad : Nat → Nat) (sh : Nat × Nat) (rk : Int → Option Nat) (vk : Int → Int) : va_E :=
  if sh.1 < 16 then .inl (T sh.1, arrc ad sh.1 sh.2 rk vk) else .inr (sh.1 - 16, flds ad (sh.1 - 16) rk vk)
def wl (T : Nat → ClassId) (ad : Nat → Nat) (S : AS) (v : VV) : va_W := (List.range S.1).map fun k => (ad k, cellE T ad (S.2.1 k) (S.2.2 k) (v k))
def iR (x : Int) : Prop := -2147483648 ≤ x ∧ x < 2147483648
def lR (x : Int) : Prop := -9223372036854775808 ≤ x ∧ x < 9223372036854775808
def kr (kind : Nat) (x : Int) : Prop := match kind with
  | 0 => iR x
  | 1 => -128 ≤ x ∧ x < 128
  | 2 => x = 0 ∨ x = 1
  | 5 => lR x
  | _ => True
def skd (sh : Nat × Nat) (j : Int) : Nat := if sh.1 < 16 then ek sh.1 else fk (sh.1 - 16) j.toNat
def RV (S : AS) (v : VV) : Prop := ∀ k, k < S.1 → ∀ j : Int, kr (skd (S.2.1 k) j) (v k j)
def WR (S : AS) : Prop := ∀ k, k < S.1 → ∀ (j : Int) (r : Nat), S.2.2 k j = some r → r < S.1
def RA (n : Nat) : AV → Prop
  | .inl none => True
  | .inl (some k) => k < n
  | .inr (.inl x) => iR x
  | .inr (.inr (.inl y)) => lR y
  | .inr (.inr (.inr _)) => True
abbrev LL : Type := List (Option AV)
def RAs (n : Nat) (st : List AV) : Prop := ∀ a ∈ st, RA n a
def RAl (n : Nat) (ls : LL) : Prop := ∀ (i : Nat) (a : AV), ls[i]? = some (some a) → RA n a
def LR (ad ea : Nat → Nat) (nL : Nat) (lsC : Array Slot) (ls : LL) : Prop := lsC.size = nL ∧ lv_wf lsC ∧ ∀ (i : Nat) (a : AV), ls[i]? = some (some a) → lsC[i]? = some (.val (tr ad ea a))
abbrev MU : Type := MethodName × ByteArray × Option FieldType × Nat × Nat × Nat × Nat × Option (Nat × (Nat → Int32))
def rmd (d mc ms : Nat) : Room := { frames := d, cells := mc, slots := ms, locals := 37 * d + 11 }
-- what lies outside the world and is only read: 0 the script; 1, 2, 3 RuleBook's tables
def xUs : List Int := [3, 1, 60, 5, 2, 1, 80, 30, 4]
def xLe : List Int := [1, 0, 0, 0, 0, 0, 1, 0, 1]
def xMo : List Int := [9, 9, 200, 50, 9, 9, 101, 100, 20]
def EXS (sc : Option (Nat × (Nat → Int32))) (ea : Nat → Nat) (A : Nat → Prop) (U : State) : Prop := match sc with
  | none => True
  | some q => va_X (ea 0) q.1 q.2 U U.heap ∧ ¬ A (ea 0)
def EXt (n : String) (t : Nat) (xs : List Int) (A : Nat → Prop) (U : State) : Prop := va_Z RX1 n "[I" (.ref t) A U U.heap ∧ va_T .int t 9 (fun j => .int (Int32.ofInt (xs.getD j 0))) A U U.heap
def nestw : List Cond := [.fieldLinkNest RX5 208 RX0 "clubs" "I" RX5, .fieldLinkNest RX5 211 RX0 "level" "I" RX5, .methodLinkNest RX5 9 yX3_init RX5, .methodLinkNest RX5 35 yX0_init RX5, .methodLinkNest RX5 42 yX2_init RX5]
def EXN (U : State) : Prop := ∀ w ∈ nestw, va_Nw w U
theorem EXN.to {s U : State} (h : EXN s) (hw : s.WarmedH U.vm) : EXN U := by
  intro w hm
  have h1 := h w hm
  unfold nestw at hm
  simp only [List.mem_cons, List.not_mem_nil, or_false] at hm
  rcases hm with rfl | rfl | rfl | rfl | rfl
  · exact va_Nw.warmF hw h1
  · exact va_Nw.warmF hw h1
  · exact va_Nw.warmM hw h1
  · exact va_Nw.warmM hw h1
  · exact va_Nw.warmM hw h1
def EXA (ea : Nat → Nat) (A : Nat → Prop) (U : State) : Prop := EXt "USUAL" (ea 1) xUs A U ∧ EXt "LEAST" (ea 2) xLe A U ∧ EXt "MOST" (ea 3) xMo A U ∧ EXN U
def EXT (sc : Option (Nat × (Nat → Int32))) (ea : Nat → Nat) (A : Nat → Prop) (U : State) : Prop := EXA ea A U ∧ EXS sc ea A U
theorem EXt.to {n : String} {t : Nat} {xs : List Int} {A A2 : Nat → Prop} {s U : State} (h : EXt n t xs A s) (hvm : s.vm.Alike U.vm) (hq : ∀ q : Nat, q < s.heap.size → ¬ A q → U.heap[q]? = s.heap[q]?) (hAA : ∀ q, A2 q → A q) : EXt n t xs A2 U :=
  ⟨((h.1.kept hq).moved hvm).narrow hAA, ((h.2.kept hq).moved hvm).narrow hAA⟩
theorem EXA.to {ea : Nat → Nat} {A A2 : Nat → Prop} {s U : State} (h : EXA ea A s) (hw : s.WarmedH U.vm) (hq : ∀ q : Nat, q < s.heap.size → ¬ A q → U.heap[q]? = s.heap[q]?) (hAA : ∀ q, A2 q → A q) : EXA ea A2 U :=
  ⟨h.1.to hw.alike hq hAA, h.2.1.to hw.alike hq hAA, h.2.2.1.to hw.alike hq hAA, h.2.2.2.to hw⟩
/-- the end of a method -/
def QQ (D : va_G) (T : Nat → ClassId) (ea : Nat → Nat) (A : Nat → Prop) (ad0 : Nat → Nat) (n0 : Nat) (Φ : Option AV → AS → VV → Prop) : Array Value → State → Outcome → State → Prop := fun _ st oc t =>
  (∃ (r : Option AV) (S : AS) (v : VV) (ad : Nat → Nat), oc = .returned (r.map (tr ad ea)) ∧ Φ r S v ∧ n0 ≤ S.1 ∧ (∀ k, k < n0 → ad k = ad0 k) ∧ (∀ a, r = some a → RA S.1 a) ∧ WR S ∧ RV S v ∧ va_P D classes (wl T ad S v) t.heap ∧ va_K D classes (tyl T) t ∧ va_D A (wl T ad S v)) ∧ va_F A st t
/-- a contract -/
def Ct (l : Launch) (y : MethodName) (cc : ByteArray) (ret : Option FieldType) (maxL d mc ms : Nat) (as : List AV) (S : AS) (v : VV) (Φ : Option AV → AS → VV → Prop) : Prop :=
  RAs S.1 as → WR S → RV S v → ∀ (D : va_G) (T : Nat → ClassId) (ea ad : Nat → Nat) (sz : Nat),
    Met l y (Cond.code y cc maxL ret :: lw_good) (rmd d mc ms) (va_Pc (as.map (tr ad ea)) (fun U => U.heap.size = sz ∧ va_P D classes (wl T ad S v) U.heap ∧ va_K D classes (tyl T) U ∧ va_D (fun _ => True) (wl T ad S v) ∧ EXA ea (va_A (wl T ad S v) sz) U)) (QQ D T ea (va_A (wl T ad S v) sz) ad S.1 Φ) mc ms (va_A (wl T ad S v) sz)
/-- the machine's side of a method at work -/
def Cx (l : Launch) (μ : MU) (p : Program) (s : State) (m : MethodId) (args : Array Value) (meth : Method) (c : Code) (D : va_G) (T : Nat → ClassId) (ea : Nat → Nat) (A : Nat → Prop) : Prop :=
  p.tables.exec = Jvm.exec ∧ c.code = μ.2.1 ∧ c.maxLocals = μ.2.2.2.1 ∧ meth.sig.returnType = μ.2.2.1 ∧ meth.locks = false ∧ meth.name = μ.1.name ∧ s.vm.findClass μ.1.cls = some m.cls ∧ (∀ w ∈ lw_good, w.before args s = true) ∧ va_K D classes (tyl T) s ∧ EXT μ.2.2.2.2.2.2.2 ea A s ∧ ∀ q : Nat, s.heap.size ≤ q → A q
def Sx (μ : MU) (s : State) (D : va_G) (T : Nat → ClassId) (ea : Nat → Nat) (A : Nat → Prop) (ad0 : Nat → Nat) (n0 : Nat) (S : AS) (ls : LL) (st : List AV) (v : VV) (H : Heap) (locs : List Loc) (ad : Nat → Nat) (lsC : Array Slot) : Prop :=
  (n0 ≤ S.1 ∧ ∀ k, k < n0 → ad k = ad0 k) ∧ WR S ∧ RV S v ∧ RAs S.1 st ∧ RAl S.1 ls ∧ va_P D classes (wl T ad S v) H ∧ va_D A (wl T ad S v) ∧ va_S A s.heap H locs ∧ LR ad ea μ.2.2.2.1 lsC ls
/-- a method at work: from here it comes to its end, with Φ -/
def G (l : Launch) (μ : MU) (Φ : Option AV → AS → VV → Prop) (c0 s0 : Nat) (S : AS) (pc : Nat) (ls : LL) (st : List AV) (v : VV) : Prop :=
  ∀ (p : Program) (e : Env) (s : State) (m : MethodId) (args : Array Value) (below : List Frame) (meth : Method) (c : Code) (H : Heap) (locs : List Loc) (D : va_G) (T : Nat → ClassId) (ea : Nat → Nat) (A : Nat → Prop) (ad ad0 : Nat → Nat) (n0 : Nat) (lsC : Array Slot),
    Cx l μ p s m args meth c D T ea A → Sx μ s D T ea A ad0 n0 S ls st v H locs ad lsC →
    W p l e (rmd μ.2.2.2.2.1 μ.2.2.2.2.2.1 μ.2.2.2.2.2.2.1) s m args below meth c H locs c0 s0 (MQ below (QQ D T ea A ad0 n0 Φ) args s μ.2.2.2.2.2.1 μ.2.2.2.2.2.2.1 A) (F0 m pc lsC (st.map (tr ad ea)))
/-! numbers -/
theorem iR_toInt {x : Int} (h : iR x) : (Int32.ofInt x).toInt = x := by
  rw [Int32.toInt_ofInt]
  exact Int.bmod_eq_of_le (by have := h.1; simp; omega) (by have := h.2; simp; omega)
theorem iR_lt {x y : Int} (hx : iR x) (hy : iR y) : Int32.ofInt x < Int32.ofInt y ↔ x < y := by
  rw [Int32.lt_iff_toInt_lt, iR_toInt hx, iR_toInt hy]
theorem iR_le {x y : Int} (hx : iR x) (hy : iR y) : Int32.ofInt x ≤ Int32.ofInt y ↔ x ≤ y := by
  rw [Int32.le_iff_toInt_le, iR_toInt hx, iR_toInt hy]
theorem iR_eq {x y : Int} (hx : iR x) (hy : iR y) : Int32.ofInt x = Int32.ofInt y ↔ x = y := by
  rw [← Int32.toInt_inj, iR_toInt hx, iR_toInt hy]
theorem iR_0 : iR 0 := by unfold iR; omega
theorem iR_of (x : Int32) : iR x.toInt := ⟨Int32.le_toInt x, Int32.toInt_lt x⟩
theorem lR_toInt {x : Int} (h : lR x) : (Int64.ofInt x).toInt = x := by
  rw [Int64.toInt_ofInt]
  exact Int.bmod_eq_of_le (by have := h.1; simp; omega) (by have := h.2; simp; omega)
theorem lR_eq {x y : Int} (hx : lR x) (hy : lR y) : Int64.ofInt x = Int64.ofInt y ↔ x = y := by
  rw [← Int64.toInt_inj, lR_toInt hx, lR_toInt hy]
theorem lR_lt {x y : Int} (hx : lR x) (hy : lR y) : Int64.ofInt x < Int64.ofInt y ↔ x < y := by
  rw [Int64.lt_iff_toInt_lt, lR_toInt hx, lR_toInt hy]
theorem RAs_cons {n : Nat} {a : AV} {st : List AV} : RAs n (a :: st) ↔ RA n a ∧ RAs n st := List.forall_mem_cons
end
section
section GR
variable {l : Launch} {μ : MU} {Φ : Option AV → AS → VV → Prop} {c0 s0 : Nat} {S : AS} {pc : Nat} {ls : LL} {st : List AV} {v : VV}
theorem Sx.stk {s : State} {D : va_G} {T : Nat → ClassId} {ea : Nat → Nat} {A : Nat → Prop} {ad0 : Nat → Nat} {n0 : Nat} {H : Heap} {locs : List Loc} {ad : Nat → Nat} {lsC : Array Slot} {st2 : List AV} (h : Sx μ s D T ea A ad0 n0 S ls st v H locs ad lsC) (h2 : RAs S.1 st → RAs S.1 st2) : Sx μ s D T ea A ad0 n0 S ls st2 v H locs ad lsC := ⟨h.1, h.2.1, h.2.2.1, h2 h.2.2.2.1, h.2.2.2.2⟩
theorem Sx.top {s : State} {D : va_G} {T : Nat → ClassId} {ea : Nat → Nat} {A : Nat → Prop} {ad0 : Nat → Nat} {n0 : Nat} {H : Heap} {locs : List Loc} {ad : Nat → Nat} {lsC : Array Slot} {a : AV} (h : Sx μ s D T ea A ad0 n0 S ls (a :: st) v H locs ad lsC) : RA S.1 a := (RAs_cons.mp h.2.2.2.1).1
theorem Sx.two {s : State} {D : va_G} {T : Nat → ClassId} {ea : Nat → Nat} {A : Nat → Prop} {ad0 : Nat → Nat} {n0 : Nat} {H : Heap} {locs : List Loc} {ad : Nat → Nat} {lsC : Array Slot} {a b : AV} (h : Sx μ s D T ea A ad0 n0 S ls (a :: b :: st) v H locs ad lsC) : RA S.1 b := (RAs_cons.mp (RAs_cons.mp h.2.2.2.1).2).1
theorem Sx.three {s : State} {D : va_G} {T : Nat → ClassId} {ea : Nat → Nat} {A : Nat → Prop} {ad0 : Nat → Nat} {n0 : Nat} {H : Heap} {locs : List Loc} {ad : Nat → Nat} {lsC : Array Slot} {a b c : AV} (h : Sx μ s D T ea A ad0 n0 S ls (a :: b :: c :: st) v H locs ad lsC) : RA S.1 c := (RAs_cons.mp (RAs_cons.mp (RAs_cons.mp h.2.2.2.1).2).2).1
theorem Sx.lr {s : State} {D : va_G} {T : Nat → ClassId} {ea : Nat → Nat} {A : Nat → Prop} {ad0 : Nat → Nat} {n0 : Nat} {H : Heap} {locs : List Loc} {ad : Nat → Nat} {lsC : Array Slot} (h : Sx μ s D T ea A ad0 n0 S ls st v H locs ad lsC) : LR ad ea μ.2.2.2.1 lsC ls := h.2.2.2.2.2.2.2.2
theorem Sx.vr {s : State} {D : va_G} {T : Nat → ClassId} {ea : Nat → Nat} {A : Nat → Prop} {ad0 : Nat → Nat} {n0 : Nat} {H : Heap} {locs : List Loc} {ad : Nat → Nat} {lsC : Array Slot} (h : Sx μ s D T ea A ad0 n0 S ls st v H locs ad lsC) : RV S v := h.2.2.1
/-- facts that any state of the method has -/
theorem G_fact (k : WR S → RV S v → RAs S.1 st → RAl S.1 ls → G l μ Φ c0 s0 S pc ls st v) : G l μ Φ c0 s0 S pc ls st v := by
  intro p en s m args below meth c H locs D T ea A ad ad0 n0 lsC hC hS
  exact k hS.2.1 hS.2.2.1 hS.2.2.2.1 hS.2.2.2.2.1 p en s m args below meth c H locs D T ea A ad ad0 n0 lsC hC hS
theorem G_iconst {n : Int} (hd : decode μ.2.1 pc = .ok (.iconst n, 1)) (hr : iR n) (k : G l μ Φ c0 s0 S (pc+1) ls (ai n :: st) v) : G l μ Φ c0 s0 S (pc) ls (st) v := by
  intro p en s m args below meth c H locs D T ea A ad ad0 n0 lsC hC hS
  exact lv_iconst hC.1 hC.2.1 hd rfl (k p en s m args below meth c _ _ D T ea A _ ad0 n0 _ hC (hS.stk fun h => RAs_cons.mpr ⟨hr, h⟩))
theorem G_bipush {n : Int} (hd : decode μ.2.1 pc = .ok (.bipush n, 2)) (hv : (Int8.ofInt n).toInt32 = Int32.ofInt n) (hr : iR n) (k : G l μ Φ c0 s0 S (pc+2) ls (ai n :: st) v) : G l μ Φ c0 s0 S (pc) ls (st) v := by
  intro p en s m args below meth c H locs D T ea A ad ad0 n0 lsC hC hS
  exact lv_bipush hC.1 hC.2.1 hd hv (k p en s m args below meth c _ _ D T ea A _ ad0 n0 _ hC (hS.stk fun h => RAs_cons.mpr ⟨hr, h⟩))
theorem G_sipush {n : Int} (hd : decode μ.2.1 pc = .ok (.sipush n, 3)) (hv : (Int16.ofInt n).toInt32 = Int32.ofInt n) (hr : iR n) (k : G l μ Φ c0 s0 S (pc+3) ls (ai n :: st) v) : G l μ Φ c0 s0 S (pc) ls (st) v := by
  intro p en s m args below meth c H locs D T ea A ad ad0 n0 lsC hC hS
  exact lv_sipush hC.1 hC.2.1 hd hv (k p en s m args below meth c _ _ D T ea A _ ad0 n0 _ hC (hS.stk fun h => RAs_cons.mpr ⟨hr, h⟩))
theorem G_ldc {i : Nat} {n : Int} (hd : decode μ.2.1 pc = .ok (.ldc i, 2)) (hw : Cond.constant μ.1.cls i (Int32.ofInt n) ∈ lw_good) (hr : iR n) (k : G l μ Φ c0 s0 S (pc+2) ls (ai n :: st) v) : G l μ Φ c0 s0 S (pc) ls (st) v := by
  intro p en s m args below meth c H locs D T ea A ad ad0 n0 lsC hC hS
  exact lv_ldc hC.1 hC.2.1 hC.2.2.2.2.2.2.1 (hC.2.2.2.2.2.2.2.1 _ hw) hd (k p en s m args below meth c _ _ D T ea A _ ad0 n0 _ hC (hS.stk fun h => RAs_cons.mpr ⟨hr, h⟩))
theorem G_ldcw {i : Nat} {n : Int} (hd : decode μ.2.1 pc = .ok (.ldc_w i, 3)) (hw : Cond.constant μ.1.cls i (Int32.ofInt n) ∈ lw_good) (hr : iR n) (k : G l μ Φ c0 s0 S (pc+3) ls (ai n :: st) v) : G l μ Φ c0 s0 S (pc) ls (st) v := by
  intro p en s m args below meth c H locs D T ea A ad ad0 n0 lsC hC hS
  exact lv_ldcw hC.1 hC.2.1 hC.2.2.2.2.2.2.1 (hC.2.2.2.2.2.2.2.1 _ hw) hd (k p en s m args below meth c _ _ D T ea A _ ad0 n0 _ hC (hS.stk fun h => RAs_cons.mpr ⟨hr, h⟩))
theorem G_ldc2 {i : Nat} {n : Int} (hd : decode μ.2.1 pc = .ok (.ldc2_w i, 3)) (hw : Cond.constantLong μ.1.cls i (Int64.ofInt n) ∈ lw_good) (hr : lR n) (k : G l μ Φ c0 s0 S (pc+3) ls (al n :: st) v) : G l μ Φ c0 s0 S (pc) ls (st) v := by
  intro p en s m args below meth c H locs D T ea A ad ad0 n0 lsC hC hS
  exact lv_ldc2 hC.1 hC.2.1 hC.2.2.2.2.2.2.1 (hC.2.2.2.2.2.2.2.1 _ hw) hd (k p en s m args below meth c _ _ D T ea A _ ad0 n0 _ hC (hS.stk fun h => RAs_cons.mpr ⟨hr, h⟩))
theorem G_lconst0 (hd : decode μ.2.1 pc = .ok (.lconst 0, 1)) (k : G l μ Φ c0 s0 S (pc+1) ls (al 0 :: st) v) : G l μ Φ c0 s0 S (pc) ls (st) v := by
  intro p en s m args below meth c H locs D T ea A ad ad0 n0 lsC hC hS
  exact lv_lconst hC.1 hC.2.1 hd (by rfl) (k p en s m args below meth c _ _ D T ea A _ ad0 n0 _ hC (hS.stk fun h => RAs_cons.mpr ⟨⟨by decide, by decide⟩, h⟩))
theorem G_null (hd : decode μ.2.1 pc = .ok (.aconst_null, 1)) (k : G l μ Φ c0 s0 S (pc+1) ls (ar none :: st) v) : G l μ Φ c0 s0 S (pc) ls (st) v := by
  intro p en s m args below meth c H locs D T ea A ad ad0 n0 lsC hC hS
  exact lv_null hC.1 hC.2.1 hd (k p en s m args below meth c _ _ D T ea A _ ad0 n0 _ hC (hS.stk fun h => RAs_cons.mpr ⟨trivial, h⟩))
theorem G_iload_n {i : Fin 4} {x : Int} (hd : decode μ.2.1 pc = .ok (.iload_n i, 1)) (hl : ls[i.1]? = some (some (ai x))) (k : G l μ Φ c0 s0 S (pc+1) ls (ai x :: st) v) : G l μ Φ c0 s0 S (pc) ls (st) v := by
  intro p en s m args below meth c H locs D T ea A ad ad0 n0 lsC hC hS
  exact lv_iload_n hC.1 hC.2.1 hd rfl (hS.lr.2.2 _ _ hl) (k p en s m args below meth c _ _ D T ea A _ ad0 n0 _ hC (hS.stk fun h => RAs_cons.mpr ⟨hS.2.2.2.2.1 _ _ hl, h⟩))
theorem G_iload {i : Nat} {x : Int} (hd : decode μ.2.1 pc = .ok (.iload i, 2)) (hl : ls[i]? = some (some (ai x))) (k : G l μ Φ c0 s0 S (pc+2) ls (ai x :: st) v) : G l μ Φ c0 s0 S (pc) ls (st) v := by
  intro p en s m args below meth c H locs D T ea A ad ad0 n0 lsC hC hS
  exact lv_iload hC.1 hC.2.1 hd (hS.lr.2.2 _ _ hl) (k p en s m args below meth c _ _ D T ea A _ ad0 n0 _ hC (hS.stk fun h => RAs_cons.mpr ⟨hS.2.2.2.2.1 _ _ hl, h⟩))
theorem G_lload_n {i : Fin 4} {x : Int} (hd : decode μ.2.1 pc = .ok (.lload_n i, 1)) (hl : ls[i.1]? = some (some (al x))) (k : G l μ Φ c0 s0 S (pc+1) ls (al x :: st) v) : G l μ Φ c0 s0 S (pc) ls (st) v := by
  intro p en s m args below meth c H locs D T ea A ad ad0 n0 lsC hC hS
  exact lv_lload_n hC.1 hC.2.1 hd rfl (hS.lr.2.2 _ _ hl) (k p en s m args below meth c _ _ D T ea A _ ad0 n0 _ hC (hS.stk fun h => RAs_cons.mpr ⟨hS.2.2.2.2.1 _ _ hl, h⟩))
theorem G_lload {i : Nat} {x : Int} (hd : decode μ.2.1 pc = .ok (.lload i, 2)) (hl : ls[i]? = some (some (al x))) (k : G l μ Φ c0 s0 S (pc+2) ls (al x :: st) v) : G l μ Φ c0 s0 S (pc) ls (st) v := by
  intro p en s m args below meth c H locs D T ea A ad ad0 n0 lsC hC hS
  exact lv_lload hC.1 hC.2.1 hd (hS.lr.2.2 _ _ hl) (k p en s m args below meth c _ _ D T ea A _ ad0 n0 _ hC (hS.stk fun h => RAs_cons.mpr ⟨hS.2.2.2.2.1 _ _ hl, h⟩))
theorem G_aload_n {i : Fin 4} {r : Option Nat} (hd : decode μ.2.1 pc = .ok (.aload_n i, 1)) (hl : ls[i.1]? = some (some (ar r))) (k : G l μ Φ c0 s0 S (pc+1) ls (ar r :: st) v) : G l μ Φ c0 s0 S (pc) ls (st) v := by
  intro p en s m args below meth c H locs D T ea A ad ad0 n0 lsC hC hS
  have k2 := k p en s m args below meth c _ _ D T ea A _ ad0 n0 _ hC (hS.stk fun h => RAs_cons.mpr ⟨hS.2.2.2.2.1 _ _ hl, h⟩)
  cases r with
  | none => exact lv_aload_nN hC.1 hC.2.1 hd rfl (hS.lr.2.2 _ _ hl) k2
  | some x => exact lv_aload_n hC.1 hC.2.1 hd rfl (hS.lr.2.2 _ _ hl) k2
theorem G_aload {i : Nat} {r : Option Nat} (hd : decode μ.2.1 pc = .ok (.aload i, 2)) (hl : ls[i]? = some (some (ar r))) (k : G l μ Φ c0 s0 S (pc+2) ls (ar r :: st) v) : G l μ Φ c0 s0 S (pc) ls (st) v := by
  intro p en s m args below meth c H locs D T ea A ad ad0 n0 lsC hC hS
  have k2 := k p en s m args below meth c _ _ D T ea A _ ad0 n0 _ hC (hS.stk fun h => RAs_cons.mpr ⟨hS.2.2.2.2.1 _ _ hl, h⟩)
  cases r with
  | none => exact lv_aloadN hC.1 hC.2.1 hd (hS.lr.2.2 _ _ hl) k2
  | some x => exact lv_aload hC.1 hC.2.1 hd (hS.lr.2.2 _ _ hl) k2
theorem G_aload_nX {i : Fin 4} {x : Nat} (hd : decode μ.2.1 pc = .ok (.aload_n i, 1)) (hl : ls[i.1]? = some (some (ax x))) (k : G l μ Φ c0 s0 S (pc+1) ls (ax x :: st) v) : G l μ Φ c0 s0 S (pc) ls (st) v := by
  intro p en s m args below meth c H locs D T ea A ad ad0 n0 lsC hC hS
  exact lv_aload_n hC.1 hC.2.1 hd rfl (hS.lr.2.2 _ _ hl) (k p en s m args below meth c _ _ D T ea A _ ad0 n0 _ hC (hS.stk fun h => RAs_cons.mpr ⟨hS.2.2.2.2.1 _ _ hl, h⟩))
theorem G_aloadX {i : Nat} {x : Nat} (hd : decode μ.2.1 pc = .ok (.aload i, 2)) (hl : ls[i]? = some (some (ax x))) (k : G l μ Φ c0 s0 S (pc+2) ls (ax x :: st) v) : G l μ Φ c0 s0 S (pc) ls (st) v := by
  intro p en s m args below meth c H locs D T ea A ad ad0 n0 lsC hC hS
  exact lv_aload hC.1 hC.2.1 hd (hS.lr.2.2 _ _ hl) (k p en s m args below meth c _ _ D T ea A _ ad0 n0 _ hC (hS.stk fun h => RAs_cons.mpr ⟨hS.2.2.2.2.1 _ _ hl, h⟩))
theorem G_iadd {x y : Int} (hd : decode μ.2.1 pc = .ok (.iadd, 1)) (hr : iR (x + y)) (k : G l μ Φ c0 s0 S (pc+1) ls (ai (x + y) :: st) v) : G l μ Φ c0 s0 S (pc) ls (ai y :: ai x :: st) v := by
  intro p en s m args below meth c H locs D T ea A ad ad0 n0 lsC hC hS
  refine lv_iadd hC.1 hC.2.1 hd ?_
  rw [← Int32.ofInt_add]
  exact k p en s m args below meth c _ _ D T ea A _ ad0 n0 _ hC (hS.stk fun h => RAs_cons.mpr ⟨hr, (RAs_cons.mp (RAs_cons.mp h).2).2⟩)
theorem G_isub {x y : Int} (hd : decode μ.2.1 pc = .ok (.isub, 1)) (hr : iR (x - y)) (k : G l μ Φ c0 s0 S (pc+1) ls (ai (x - y) :: st) v) : G l μ Φ c0 s0 S (pc) ls (ai y :: ai x :: st) v := by
  intro p en s m args below meth c H locs D T ea A ad ad0 n0 lsC hC hS
  refine lv_isub hC.1 hC.2.1 hd ?_
  rw [← Int32.ofInt_sub]
  exact k p en s m args below meth c _ _ D T ea A _ ad0 n0 _ hC (hS.stk fun h => RAs_cons.mpr ⟨hr, (RAs_cons.mp (RAs_cons.mp h).2).2⟩)
theorem G_imul {x y : Int} (hd : decode μ.2.1 pc = .ok (.imul, 1)) (hr : iR (x * y)) (k : G l μ Φ c0 s0 S (pc+1) ls (ai (x * y) :: st) v) : G l μ Φ c0 s0 S (pc) ls (ai y :: ai x :: st) v := by
  intro p en s m args below meth c H locs D T ea A ad ad0 n0 lsC hC hS
  refine lv_imul hC.1 hC.2.1 hd ?_
  rw [← Int32.ofInt_mul]
  exact k p en s m args below meth c _ _ D T ea A _ ad0 n0 _ hC (hS.stk fun h => RAs_cons.mpr ⟨hr, (RAs_cons.mp (RAs_cons.mp h).2).2⟩)
theorem G_ladd {x y : Int} (hd : decode μ.2.1 pc = .ok (.ladd, 1)) (hr : lR (x + y)) (k : G l μ Φ c0 s0 S (pc+1) ls (al (x + y) :: st) v) : G l μ Φ c0 s0 S (pc) ls (al y :: al x :: st) v := by
  intro p en s m args below meth c H locs D T ea A ad ad0 n0 lsC hC hS
  refine lv_ladd hC.1 hC.2.1 hd ?_
  rw [← Int64.ofInt_add]
  exact k p en s m args below meth c _ _ D T ea A _ ad0 n0 _ hC (hS.stk fun h => RAs_cons.mpr ⟨hr, (RAs_cons.mp (RAs_cons.mp h).2).2⟩)
theorem G_lsub {x y : Int} (hd : decode μ.2.1 pc = .ok (.lsub, 1)) (hr : lR (x - y)) (k : G l μ Φ c0 s0 S (pc+1) ls (al (x - y) :: st) v) : G l μ Φ c0 s0 S (pc) ls (al y :: al x :: st) v := by
  intro p en s m args below meth c H locs D T ea A ad ad0 n0 lsC hC hS
  refine lv_lsub hC.1 hC.2.1 hd ?_
  rw [← Int64.ofInt_sub]
  exact k p en s m args below meth c _ _ D T ea A _ ad0 n0 _ hC (hS.stk fun h => RAs_cons.mpr ⟨hr, (RAs_cons.mp (RAs_cons.mp h).2).2⟩)
theorem G_lmul {x y : Int} (hd : decode μ.2.1 pc = .ok (.lmul, 1)) (hr : lR (x * y)) (k : G l μ Φ c0 s0 S (pc+1) ls (al (x * y) :: st) v) : G l μ Φ c0 s0 S (pc) ls (al y :: al x :: st) v := by
  intro p en s m args below meth c H locs D T ea A ad ad0 n0 lsC hC hS
  refine lv_lmul hC.1 hC.2.1 hd ?_
  rw [← Int64.ofInt_mul]
  exact k p en s m args below meth c _ _ D T ea A _ ad0 n0 _ hC (hS.stk fun h => RAs_cons.mpr ⟨hr, (RAs_cons.mp (RAs_cons.mp h).2).2⟩)
theorem G_iand {x y : Int} (z : Int) (hd : decode μ.2.1 pc = .ok (.iand, 1)) (hz : (Int32.ofInt x &&& Int32.ofInt y).toInt = z) (k : G l μ Φ c0 s0 S (pc+1) ls (ai z :: st) v) : G l μ Φ c0 s0 S (pc) ls (ai y :: ai x :: st) v := by
  intro p en s m args below meth c H locs D T ea A ad ad0 n0 lsC hC hS
  subst hz
  refine lv_iand hC.1 hC.2.1 hd ?_
  have k2 := k p en s m args below meth c _ _ D T ea A _ ad0 n0 _ hC (hS.stk fun h => RAs_cons.mpr ⟨iR_of _, (RAs_cons.mp (RAs_cons.mp h).2).2⟩)
  rwa [List.map_cons, show tr ad ea (ai (Int32.ofInt x &&& Int32.ofInt y).toInt) = .int (Int32.ofInt x &&& Int32.ofInt y) from congrArg Value.int (Int32.ofInt_toInt _)] at k2
theorem G_ior {x y : Int} (z : Int) (hd : decode μ.2.1 pc = .ok (.ior, 1)) (hz : (Int32.ofInt x ||| Int32.ofInt y).toInt = z) (k : G l μ Φ c0 s0 S (pc+1) ls (ai z :: st) v) : G l μ Φ c0 s0 S (pc) ls (ai y :: ai x :: st) v := by
  intro p en s m args below meth c H locs D T ea A ad ad0 n0 lsC hC hS
  subst hz
  refine lv_ior hC.1 hC.2.1 hd ?_
  have k2 := k p en s m args below meth c _ _ D T ea A _ ad0 n0 _ hC (hS.stk fun h => RAs_cons.mpr ⟨iR_of _, (RAs_cons.mp (RAs_cons.mp h).2).2⟩)
  rwa [List.map_cons, show tr ad ea (ai (Int32.ofInt x ||| Int32.ofInt y).toInt) = .int (Int32.ofInt x ||| Int32.ofInt y) from congrArg Value.int (Int32.ofInt_toInt _)] at k2
theorem G_ishl {x y : Int} (z : Int) (hd : decode μ.2.1 pc = .ok (.ishl, 1)) (hz : (Int32.ofInt x <<< (Int32.ofInt y &&& 31)).toInt = z) (k : G l μ Φ c0 s0 S (pc+1) ls (ai z :: st) v) : G l μ Φ c0 s0 S (pc) ls (ai y :: ai x :: st) v := by
  intro p en s m args below meth c H locs D T ea A ad ad0 n0 lsC hC hS
  subst hz
  refine lv_ishl hC.1 hC.2.1 hd ?_
  have k2 := k p en s m args below meth c _ _ D T ea A _ ad0 n0 _ hC (hS.stk fun h => RAs_cons.mpr ⟨iR_of _, (RAs_cons.mp (RAs_cons.mp h).2).2⟩)
  rwa [List.map_cons, show tr ad ea (ai (Int32.ofInt x <<< (Int32.ofInt y &&& 31)).toInt) = .int (Int32.ofInt x <<< (Int32.ofInt y &&& 31)) from congrArg Value.int (Int32.ofInt_toInt _)] at k2
theorem G_ishr {x y : Int} (z : Int) (hd : decode μ.2.1 pc = .ok (.ishr, 1)) (hz : (Int32.ofInt x >>> (Int32.ofInt y &&& 31)).toInt = z) (k : G l μ Φ c0 s0 S (pc+1) ls (ai z :: st) v) : G l μ Φ c0 s0 S (pc) ls (ai y :: ai x :: st) v := by
  intro p en s m args below meth c H locs D T ea A ad ad0 n0 lsC hC hS
  subst hz
  refine lv_ishr hC.1 hC.2.1 hd ?_
  have k2 := k p en s m args below meth c _ _ D T ea A _ ad0 n0 _ hC (hS.stk fun h => RAs_cons.mpr ⟨iR_of _, (RAs_cons.mp (RAs_cons.mp h).2).2⟩)
  rwa [List.map_cons, show tr ad ea (ai (Int32.ofInt x >>> (Int32.ofInt y &&& 31)).toInt) = .int (Int32.ofInt x >>> (Int32.ofInt y &&& 31)) from congrArg Value.int (Int32.ofInt_toInt _)] at k2
theorem G_iushr {x y : Int} (z : Int) (hd : decode μ.2.1 pc = .ok (.iushr, 1)) (hz : ((Int32.ofInt x).toUInt32 >>> ((Int32.ofInt y).toUInt32 &&& Int32.toUInt32 31)).toInt32.toInt = z) (k : G l μ Φ c0 s0 S (pc+1) ls (ai z :: st) v) : G l μ Φ c0 s0 S (pc) ls (ai y :: ai x :: st) v := by
  intro p en s m args below meth c H locs D T ea A ad ad0 n0 lsC hC hS
  subst hz
  refine lv_iushr hC.1 hC.2.1 hd rfl ?_
  have k2 := k p en s m args below meth c _ _ D T ea A _ ad0 n0 _ hC (hS.stk fun h => RAs_cons.mpr ⟨iR_of _, (RAs_cons.mp (RAs_cons.mp h).2).2⟩)
  rwa [List.map_cons, show tr ad ea (ai ((Int32.ofInt x).toUInt32 >>> ((Int32.ofInt y).toUInt32 &&& Int32.toUInt32 31)).toInt32.toInt) = .int ((Int32.ofInt x).toUInt32 >>> ((Int32.ofInt y).toUInt32 &&& Int32.toUInt32 31)).toInt32 from congrArg Value.int (Int32.ofInt_toInt _)] at k2
theorem G_i2b {x : Int} (z : Int) (hd : decode μ.2.1 pc = .ok (.i2b, 1)) (hz : (Int32.ofInt x).toInt8.toInt32.toInt = z) (k : G l μ Φ c0 s0 S (pc+1) ls (ai z :: st) v) : G l μ Φ c0 s0 S (pc) ls (ai x :: st) v := by
  intro p en s m args below meth c H locs D T ea A ad ad0 n0 lsC hC hS
  subst hz
  refine lv_i2b hC.1 hC.2.1 hd rfl ?_
  have k2 := k p en s m args below meth c _ _ D T ea A _ ad0 n0 _ hC (hS.stk fun h => RAs_cons.mpr ⟨iR_of _, (RAs_cons.mp h).2⟩)
  rwa [List.map_cons, show tr ad ea (ai (Int32.ofInt x).toInt8.toInt32.toInt) = .int (Int32.ofInt x).toInt8.toInt32 from congrArg Value.int (Int32.ofInt_toInt _)] at k2
theorem G_i2l {x : Int} (hd : decode μ.2.1 pc = .ok (.i2l, 1)) (k : G l μ Φ c0 s0 S (pc+1) ls (al x :: st) v) : G l μ Φ c0 s0 S (pc) ls (ai x :: st) v := by
  intro p en s m args below meth c H locs D T ea A ad ad0 n0 lsC hC hS
  have hx : iR x := hS.top
  have hx2 : lR x := ⟨by have := hx.1; omega, by have := hx.2; omega⟩
  refine lv_i2l hC.1 hC.2.1 hd (v := Int64.ofInt x) ?_ (k p en s m args below meth c _ _ D T ea A _ ad0 n0 _ hC (hS.stk fun h => RAs_cons.mpr ⟨hx2, (RAs_cons.mp h).2⟩))
  rw [← Int64.toInt_inj, lR_toInt hx2, Int32.toInt_toInt64, iR_toInt hx]
theorem G_lcmp {x y : Int} (hd : decode μ.2.1 pc = .ok (.lcmp, 1)) (k : G l μ Φ c0 s0 S (pc+1) ls (ai (if x < y then -1 else if x = y then 0 else 1) :: st) v) : G l μ Φ c0 s0 S (pc) ls (al y :: al x :: st) v := by
  intro p en s m args below meth c H locs D T ea A ad ad0 n0 lsC hC hS
  have hy : lR y := hS.top
  have hx : lR x := hS.two
  have hc : iR (if x < y then -1 else if x = y then 0 else 1) := by unfold iR; split <;> (try split) <;> omega
  refine W.lcmp hC.1 hC.2.1 hd ?_
  have k2 := k p en s m args below meth c _ _ D T ea A _ ad0 n0 _ hC (hS.stk fun h => RAs_cons.mpr ⟨hc, (RAs_cons.mp (RAs_cons.mp h).2).2⟩)
  have e : lg_cmp (Int64.ofInt x) (Int64.ofInt y) = Int32.ofInt (if x < y then -1 else if x = y then 0 else 1) := by
    unfold lg_cmp
    have a := lR_lt hy hx
    have b := lR_eq hx hy
    rcases Int.lt_trichotomy x y with h1 | h1 | h1
    · have n1 : ¬ y < x := by omega
      have n2 : ¬ x = y := by omega
      simp [a, b, h1, n1, n2]
    · subst h1
      simp [a]
    · have n1 : ¬ x < y := by omega
      have n2 : ¬ x = y := by omega
      simp [a, h1, n1, n2]
  rw [e]
  exact k2
theorem G_idiv {x y : Int} (hd : decode μ.2.1 pc = .ok (.idiv, 1)) (hx : 0 ≤ x) (hy : 0 < y) (k : G l μ Φ c0 s0 S (pc+1) ls (ai (x / y) :: st) v) : G l μ Φ c0 s0 S (pc) ls (ai y :: ai x :: st) v := by
  intro p en s m args below meth c H locs D T ea A ad ad0 n0 lsC hC hS
  have hyR : iR y := hS.top
  have hxR : iR x := hS.two
  have hq : 0 ≤ x / y := Int.ediv_nonneg hx (by omega)
  have hq2 : x / y ≤ x := Int.ediv_le_self y hx
  have hqR : iR (x / y) := ⟨by omega, by have := hxR.2; omega⟩
  refine lv_idiv hC.1 hC.2.1 hd (fun h => ?_) ?_
  · have := (iR_eq hyR iR_0).mp h
    omega
  have e : Int32.ofInt x / Int32.ofInt y = Int32.ofInt (x / y) := by
    rw [← Int32.toInt_inj, iR_toInt hqR, Int32.toInt_div_of_ne_right _ _ (fun h => by have := (iR_eq hyR (y := -1) ⟨by decide, by decide⟩).mp (h.trans (by decide)); omega), iR_toInt hxR, iR_toInt hyR, Int.tdiv_eq_ediv_of_nonneg hx]
  rw [e]
  exact k p en s m args below meth c _ _ D T ea A _ ad0 n0 _ hC (hS.stk fun h => RAs_cons.mpr ⟨hqR, (RAs_cons.mp (RAs_cons.mp h).2).2⟩)
theorem G_irem {x y : Int} (hd : decode μ.2.1 pc = .ok (.irem, 1)) (hx : 0 ≤ x) (hy : 0 < y) (k : G l μ Φ c0 s0 S (pc+1) ls (ai (x % y) :: st) v) : G l μ Φ c0 s0 S (pc) ls (ai y :: ai x :: st) v := by
  intro p en s m args below meth c H locs D T ea A ad ad0 n0 lsC hC hS
  have hyR : iR y := hS.top
  have hxR : iR x := hS.two
  have hq : 0 ≤ x % y := Int.emod_nonneg x (by omega)
  have hq2 : x % y < y := Int.emod_lt_of_pos x hy
  have hqR : iR (x % y) := ⟨by omega, by have := hyR.2; omega⟩
  refine lv_irem hC.1 hC.2.1 hd (fun h => ?_) ?_
  · have := (iR_eq hyR iR_0).mp h
    omega
  have e : Int32.ofInt x - Int32.ofInt x / Int32.ofInt y * Int32.ofInt y = Int32.ofInt (x % y) := by
    rw [← Int32.toInt_inj, iR_toInt hqR, rem_toInt, iR_toInt hxR, iR_toInt hyR, Int.tmod_eq_emod_of_nonneg hx]
  rw [e]
  exact k p en s m args below meth c _ _ D T ea A _ ad0 n0 _ hC (hS.stk fun h => RAs_cons.mpr ⟨hqR, (RAs_cons.mp (RAs_cons.mp h).2).2⟩)
theorem G_dup_i {x : Int} (hd : decode μ.2.1 pc = .ok (.dup, 1)) (k : G l μ Φ c0 s0 S (pc+1) ls (ai x :: ai x :: st) v) : G l μ Φ c0 s0 S (pc) ls (ai x :: st) v := by
  intro p en s m args below meth c H locs D T ea A ad ad0 n0 lsC hC hS
  exact lv_dup hC.1 hC.2.1 hd rfl (k p en s m args below meth c _ _ D T ea A _ ad0 n0 _ hC (hS.stk fun h => RAs_cons.mpr ⟨hS.top, h⟩))
theorem G_dup_a {r : Option Nat} (hd : decode μ.2.1 pc = .ok (.dup, 1)) (k : G l μ Φ c0 s0 S (pc+1) ls (ar r :: ar r :: st) v) : G l μ Φ c0 s0 S (pc) ls (ar r :: st) v := by
  intro p en s m args below meth c H locs D T ea A ad ad0 n0 lsC hC hS
  exact lv_dup hC.1 hC.2.1 hd (by cases r <;> rfl) (k p en s m args below meth c _ _ D T ea A _ ad0 n0 _ hC (hS.stk fun h => RAs_cons.mpr ⟨hS.top, h⟩))
theorem G_dup2 {x : Int} {r : Option Nat} (hd : decode μ.2.1 pc = .ok (.dup2, 1)) (k : G l μ Φ c0 s0 S (pc+1) ls (ai x :: ar r :: ai x :: ar r :: st) v) : G l μ Φ c0 s0 S (pc) ls (ai x :: ar r :: st) v := by
  intro p en s m args below meth c H locs D T ea A ad ad0 n0 lsC hC hS
  exact lv_dup2_11 hC.1 hC.2.1 hd rfl (by cases r <;> rfl) (k p en s m args below meth c _ _ D T ea A _ ad0 n0 _ hC (hS.stk fun h => RAs_cons.mpr ⟨hS.top, RAs_cons.mpr ⟨hS.two, h⟩⟩))
theorem G_pop_i {x : Int} (hd : decode μ.2.1 pc = .ok (.pop, 1)) (k : G l μ Φ c0 s0 S (pc+1) ls (st) v) : G l μ Φ c0 s0 S (pc) ls (ai x :: st) v := by
  intro p en s m args below meth c H locs D T ea A ad ad0 n0 lsC hC hS
  exact lv_pop hC.1 hC.2.1 hd rfl (k p en s m args below meth c _ _ D T ea A _ ad0 n0 _ hC (hS.stk fun h => (RAs_cons.mp h).2))
theorem G_goto {off : Int} (tgt : Nat) (hd : decode μ.2.1 pc = .ok (.goto off, 3)) (ht : (pc : Int) + off = (tgt : Int)) (k : G l μ Φ c0 s0 S (tgt) ls (st) v) : G l μ Φ c0 s0 S (pc) ls (st) v := by
  intro p en s m args below meth c H locs D T ea A ad ad0 n0 lsC hC hS
  exact lv_goto hC.1 hC.2.1 hd ht (k p en s m args below meth c _ _ D T ea A _ ad0 n0 _ hC hS)
theorem G_icmp_eq {x y off : Int} (tgt : Nat) (hd : decode μ.2.1 pc = .ok (.if_icmp .eq off, 3)) (ht : (pc : Int) + off = (tgt : Int)) (kt : x = y → G l μ Φ c0 s0 S (tgt) ls (st) v) (kf : ¬ (x = y) → G l μ Φ c0 s0 S (pc+3) ls (st) v) : G l μ Φ c0 s0 S (pc) ls (ai y :: ai x :: st) v := by
  intro p en s m args below meth c H locs D T ea A ad ad0 n0 lsC hC hS
  have hy : iR y := hS.top
  have hx : iR x := hS.two
  have e := iR_eq hx hy
  have hS2 := hS.stk fun h => (RAs_cons.mp (RAs_cons.mp h).2).2
  exact lv_icmp_eq hC.1 hC.2.1 hd ht (fun h => kt (e.mp h) p en s m args below meth c _ _ D T ea A _ ad0 n0 _ hC hS2) (fun h => kf (fun z => h (e.mpr z)) p en s m args below meth c _ _ D T ea A _ ad0 n0 _ hC hS2)
theorem G_if_eq {x off : Int} (tgt : Nat) (hd : decode μ.2.1 pc = .ok (.ifCond .eq off, 3)) (ht : (pc : Int) + off = (tgt : Int)) (kt : x = 0 → G l μ Φ c0 s0 S (tgt) ls (st) v) (kf : ¬ (x = 0) → G l μ Φ c0 s0 S (pc+3) ls (st) v) : G l μ Φ c0 s0 S (pc) ls (ai x :: st) v := by
  intro p en s m args below meth c H locs D T ea A ad ad0 n0 lsC hC hS
  have hx : iR x := hS.top
  have e := iR_eq hx iR_0
  have hS2 := hS.stk fun h => (RAs_cons.mp h).2
  exact lv_if_eq hC.1 hC.2.1 hd ht (fun h => kt (e.mp h) p en s m args below meth c _ _ D T ea A _ ad0 n0 _ hC hS2) (fun h => kf (fun z => h (e.mpr z)) p en s m args below meth c _ _ D T ea A _ ad0 n0 _ hC hS2)
theorem G_icmp_ne {x y off : Int} (tgt : Nat) (hd : decode μ.2.1 pc = .ok (.if_icmp .ne off, 3)) (ht : (pc : Int) + off = (tgt : Int)) (kt : ¬ x = y → G l μ Φ c0 s0 S (tgt) ls (st) v) (kf : x = y → G l μ Φ c0 s0 S (pc+3) ls (st) v) : G l μ Φ c0 s0 S (pc) ls (ai y :: ai x :: st) v := by
  intro p en s m args below meth c H locs D T ea A ad ad0 n0 lsC hC hS
  have hy : iR y := hS.top
  have hx : iR x := hS.two
  have e := not_congr (iR_eq hx hy)
  have hS2 := hS.stk fun h => (RAs_cons.mp (RAs_cons.mp h).2).2
  exact lv_icmp_ne hC.1 hC.2.1 hd ht (fun h => kt (e.mp h) p en s m args below meth c _ _ D T ea A _ ad0 n0 _ hC hS2) (fun h => kf ((iR_eq hx hy).mp h) p en s m args below meth c _ _ D T ea A _ ad0 n0 _ hC hS2)
theorem G_if_ne {x off : Int} (tgt : Nat) (hd : decode μ.2.1 pc = .ok (.ifCond .ne off, 3)) (ht : (pc : Int) + off = (tgt : Int)) (kt : ¬ x = 0 → G l μ Φ c0 s0 S (tgt) ls (st) v) (kf : x = 0 → G l μ Φ c0 s0 S (pc+3) ls (st) v) : G l μ Φ c0 s0 S (pc) ls (ai x :: st) v := by
  intro p en s m args below meth c H locs D T ea A ad ad0 n0 lsC hC hS
  have hx : iR x := hS.top
  have e := not_congr (iR_eq hx iR_0)
  have hS2 := hS.stk fun h => (RAs_cons.mp h).2
  exact lv_if_ne hC.1 hC.2.1 hd ht (fun h => kt (e.mp h) p en s m args below meth c _ _ D T ea A _ ad0 n0 _ hC hS2) (fun h => kf ((iR_eq hx iR_0).mp h) p en s m args below meth c _ _ D T ea A _ ad0 n0 _ hC hS2)
theorem G_icmp_lt {x y off : Int} (tgt : Nat) (hd : decode μ.2.1 pc = .ok (.if_icmp .lt off, 3)) (ht : (pc : Int) + off = (tgt : Int)) (kt : x < y → G l μ Φ c0 s0 S (tgt) ls (st) v) (kf : ¬ (x < y) → G l μ Φ c0 s0 S (pc+3) ls (st) v) : G l μ Φ c0 s0 S (pc) ls (ai y :: ai x :: st) v := by
  intro p en s m args below meth c H locs D T ea A ad ad0 n0 lsC hC hS
  have hy : iR y := hS.top
  have hx : iR x := hS.two
  have e := iR_lt hx hy
  have hS2 := hS.stk fun h => (RAs_cons.mp (RAs_cons.mp h).2).2
  exact lv_icmp_lt hC.1 hC.2.1 hd ht (fun h => kt (e.mp h) p en s m args below meth c _ _ D T ea A _ ad0 n0 _ hC hS2) (fun h => kf (fun z => h (e.mpr z)) p en s m args below meth c _ _ D T ea A _ ad0 n0 _ hC hS2)
theorem G_if_lt {x off : Int} (tgt : Nat) (hd : decode μ.2.1 pc = .ok (.ifCond .lt off, 3)) (ht : (pc : Int) + off = (tgt : Int)) (kt : x < 0 → G l μ Φ c0 s0 S (tgt) ls (st) v) (kf : ¬ (x < 0) → G l μ Φ c0 s0 S (pc+3) ls (st) v) : G l μ Φ c0 s0 S (pc) ls (ai x :: st) v := by
  intro p en s m args below meth c H locs D T ea A ad ad0 n0 lsC hC hS
  have hx : iR x := hS.top
  have e := iR_lt hx iR_0
  have hS2 := hS.stk fun h => (RAs_cons.mp h).2
  exact lv_if_lt hC.1 hC.2.1 hd ht (fun h => kt (e.mp h) p en s m args below meth c _ _ D T ea A _ ad0 n0 _ hC hS2) (fun h => kf (fun z => h (e.mpr z)) p en s m args below meth c _ _ D T ea A _ ad0 n0 _ hC hS2)
theorem G_icmp_ge {x y off : Int} (tgt : Nat) (hd : decode μ.2.1 pc = .ok (.if_icmp .ge off, 3)) (ht : (pc : Int) + off = (tgt : Int)) (kt : y ≤ x → G l μ Φ c0 s0 S (tgt) ls (st) v) (kf : ¬ (y ≤ x) → G l μ Φ c0 s0 S (pc+3) ls (st) v) : G l μ Φ c0 s0 S (pc) ls (ai y :: ai x :: st) v := by
  intro p en s m args below meth c H locs D T ea A ad ad0 n0 lsC hC hS
  have hy : iR y := hS.top
  have hx : iR x := hS.two
  have e := iR_le hy hx
  have hS2 := hS.stk fun h => (RAs_cons.mp (RAs_cons.mp h).2).2
  exact lv_icmp_ge hC.1 hC.2.1 hd ht (fun h => kt (e.mp h) p en s m args below meth c _ _ D T ea A _ ad0 n0 _ hC hS2) (fun h => kf (fun z => h (e.mpr z)) p en s m args below meth c _ _ D T ea A _ ad0 n0 _ hC hS2)
theorem G_if_ge {x off : Int} (tgt : Nat) (hd : decode μ.2.1 pc = .ok (.ifCond .ge off, 3)) (ht : (pc : Int) + off = (tgt : Int)) (kt : 0 ≤ x → G l μ Φ c0 s0 S (tgt) ls (st) v) (kf : ¬ (0 ≤ x) → G l μ Φ c0 s0 S (pc+3) ls (st) v) : G l μ Φ c0 s0 S (pc) ls (ai x :: st) v := by
  intro p en s m args below meth c H locs D T ea A ad ad0 n0 lsC hC hS
  have hx : iR x := hS.top
  have e := iR_le iR_0 hx
  have hS2 := hS.stk fun h => (RAs_cons.mp h).2
  exact lv_if_ge hC.1 hC.2.1 hd ht (fun h => kt (e.mp h) p en s m args below meth c _ _ D T ea A _ ad0 n0 _ hC hS2) (fun h => kf (fun z => h (e.mpr z)) p en s m args below meth c _ _ D T ea A _ ad0 n0 _ hC hS2)
theorem G_icmp_gt {x y off : Int} (tgt : Nat) (hd : decode μ.2.1 pc = .ok (.if_icmp .gt off, 3)) (ht : (pc : Int) + off = (tgt : Int)) (kt : y < x → G l μ Φ c0 s0 S (tgt) ls (st) v) (kf : ¬ (y < x) → G l μ Φ c0 s0 S (pc+3) ls (st) v) : G l μ Φ c0 s0 S (pc) ls (ai y :: ai x :: st) v := by
  intro p en s m args below meth c H locs D T ea A ad ad0 n0 lsC hC hS
  have hy : iR y := hS.top
  have hx : iR x := hS.two
  have e := iR_lt hy hx
  have hS2 := hS.stk fun h => (RAs_cons.mp (RAs_cons.mp h).2).2
  exact lv_icmp_gt hC.1 hC.2.1 hd ht (fun h => kt (e.mp h) p en s m args below meth c _ _ D T ea A _ ad0 n0 _ hC hS2) (fun h => kf (fun z => h (e.mpr z)) p en s m args below meth c _ _ D T ea A _ ad0 n0 _ hC hS2)
theorem G_if_gt {x off : Int} (tgt : Nat) (hd : decode μ.2.1 pc = .ok (.ifCond .gt off, 3)) (ht : (pc : Int) + off = (tgt : Int)) (kt : 0 < x → G l μ Φ c0 s0 S (tgt) ls (st) v) (kf : ¬ (0 < x) → G l μ Φ c0 s0 S (pc+3) ls (st) v) : G l μ Φ c0 s0 S (pc) ls (ai x :: st) v := by
  intro p en s m args below meth c H locs D T ea A ad ad0 n0 lsC hC hS
  have hx : iR x := hS.top
  have e := iR_lt iR_0 hx
  have hS2 := hS.stk fun h => (RAs_cons.mp h).2
  exact lv_if_gt hC.1 hC.2.1 hd ht (fun h => kt (e.mp h) p en s m args below meth c _ _ D T ea A _ ad0 n0 _ hC hS2) (fun h => kf (fun z => h (e.mpr z)) p en s m args below meth c _ _ D T ea A _ ad0 n0 _ hC hS2)
theorem G_icmp_le {x y off : Int} (tgt : Nat) (hd : decode μ.2.1 pc = .ok (.if_icmp .le off, 3)) (ht : (pc : Int) + off = (tgt : Int)) (kt : x ≤ y → G l μ Φ c0 s0 S (tgt) ls (st) v) (kf : ¬ (x ≤ y) → G l μ Φ c0 s0 S (pc+3) ls (st) v) : G l μ Φ c0 s0 S (pc) ls (ai y :: ai x :: st) v := by
  intro p en s m args below meth c H locs D T ea A ad ad0 n0 lsC hC hS
  have hy : iR y := hS.top
  have hx : iR x := hS.two
  have e := iR_le hx hy
  have hS2 := hS.stk fun h => (RAs_cons.mp (RAs_cons.mp h).2).2
  exact lv_icmp_le hC.1 hC.2.1 hd ht (fun h => kt (e.mp h) p en s m args below meth c _ _ D T ea A _ ad0 n0 _ hC hS2) (fun h => kf (fun z => h (e.mpr z)) p en s m args below meth c _ _ D T ea A _ ad0 n0 _ hC hS2)
theorem G_if_le {x off : Int} (tgt : Nat) (hd : decode μ.2.1 pc = .ok (.ifCond .le off, 3)) (ht : (pc : Int) + off = (tgt : Int)) (kt : x ≤ 0 → G l μ Φ c0 s0 S (tgt) ls (st) v) (kf : ¬ (x ≤ 0) → G l μ Φ c0 s0 S (pc+3) ls (st) v) : G l μ Φ c0 s0 S (pc) ls (ai x :: st) v := by
  intro p en s m args below meth c H locs D T ea A ad ad0 n0 lsC hC hS
  have hx : iR x := hS.top
  have e := iR_le hx iR_0
  have hS2 := hS.stk fun h => (RAs_cons.mp h).2
  exact lv_if_le hC.1 hC.2.1 hd ht (fun h => kt (e.mp h) p en s m args below meth c _ _ D T ea A _ ad0 n0 _ hC hS2) (fun h => kf (fun z => h (e.mpr z)) p en s m args below meth c _ _ D T ea A _ ad0 n0 _ hC hS2)
theorem G_ifnullS {k : Nat} {off : Int} (hd : decode μ.2.1 pc = .ok (.ifnull off, 3)) (kk : G l μ Φ c0 s0 S (pc+3) ls (st) v) : G l μ Φ c0 s0 S (pc) ls (ar (some k) :: st) v := by
  intro p en s m args below meth c H locs D T ea A ad ad0 n0 lsC hC hS
  exact lv_ifnull hC.1 hC.2.1 hd (kk p en s m args below meth c _ _ D T ea A _ ad0 n0 _ hC (hS.stk fun h => (RAs_cons.mp h).2))
theorem G_ifnullN {off : Int} (tgt : Nat) (hd : decode μ.2.1 pc = .ok (.ifnull off, 3)) (ht : (pc : Int) + off = (tgt : Int)) (kk : G l μ Φ c0 s0 S (tgt) ls (st) v) : G l μ Φ c0 s0 S (pc) ls (ar none :: st) v := by
  intro p en s m args below meth c H locs D T ea A ad ad0 n0 lsC hC hS
  exact lv_ifnullN hC.1 hC.2.1 hd ht (kk p en s m args below meth c _ _ D T ea A _ ad0 n0 _ hC (hS.stk fun h => (RAs_cons.mp h).2))
theorem G_ifnonnullS {k : Nat} {off : Int} (tgt : Nat) (hd : decode μ.2.1 pc = .ok (.ifnonnull off, 3)) (ht : (pc : Int) + off = (tgt : Int)) (kk : G l μ Φ c0 s0 S (tgt) ls (st) v) : G l μ Φ c0 s0 S (pc) ls (ar (some k) :: st) v := by
  intro p en s m args below meth c H locs D T ea A ad ad0 n0 lsC hC hS
  exact lv_ifnonnull hC.1 hC.2.1 hd ht (kk p en s m args below meth c _ _ D T ea A _ ad0 n0 _ hC (hS.stk fun h => (RAs_cons.mp h).2))
theorem G_ifnonnullN {off : Int} (hd : decode μ.2.1 pc = .ok (.ifnonnull off, 3)) (kk : G l μ Φ c0 s0 S (pc+3) ls (st) v) : G l μ Φ c0 s0 S (pc) ls (ar none :: st) v := by
  intro p en s m args below meth c H locs D T ea A ad ad0 n0 lsC hC hS
  exact lv_ifnonnullN hC.1 hC.2.1 hd (kk p en s m args below meth c _ _ D T ea A _ ad0 n0 _ hC (hS.stk fun h => (RAs_cons.mp h).2))
theorem G_tableIn {dflt lo hi : Int} {offs : Array Int} {len : Nat} {x off : Int} (tgt : Nat) (hd : decode μ.2.1 pc = .ok (.tableswitch dflt lo hi offs, len)) (h1 : lo ≤ x) (h2 : x ≤ hi) (ho : offs[(x - lo).toNat]? = some off) (ht : (pc : Int) + off = (tgt : Int)) (kk : G l μ Φ c0 s0 S (tgt) ls (st) v) : G l μ Φ c0 s0 S (pc) ls (ai x :: st) v := by
  intro p en s m args below meth c H locs D T ea A ad ad0 n0 lsC hC hS
  have hx : iR x := hS.top
  have e := iR_toInt hx
  exact lv_tableIn hC.1 hC.2.1 hd (by rw [e]; omega) (by rw [e]; omega) (by rw [e]; exact ho) ht (kk p en s m args below meth c _ _ D T ea A _ ad0 n0 _ hC (hS.stk fun h => (RAs_cons.mp h).2))
theorem G_tableOut {dflt lo hi : Int} {offs : Array Int} {len : Nat} {x : Int} (tgt : Nat) (hd : decode μ.2.1 pc = .ok (.tableswitch dflt lo hi offs, len)) (h1 : x < lo ∨ hi < x) (ht : (pc : Int) + dflt = (tgt : Int)) (kk : G l μ Φ c0 s0 S (tgt) ls (st) v) : G l μ Φ c0 s0 S (pc) ls (ai x :: st) v := by
  intro p en s m args below meth c H locs D T ea A ad ad0 n0 lsC hC hS
  have hx : iR x := hS.top
  have e := iR_toInt hx
  exact lv_tableOut hC.1 hC.2.1 hd (by rw [e]; omega) ht (kk p en s m args below meth c _ _ D T ea A _ ad0 n0 _ hC (hS.stk fun h => (RAs_cons.mp h).2))
def lg1 (ls : LL) (i : Nat) : Bool := match i with
  | 0 => true
  | i + 1 => match ls[i]? with
    | some (some (.inr (.inr (.inl _)))) => false
    | _ => true
def lpair (ad ea : Nat → Nat) (ls : LL) : List (Nat × Value) := (List.range ls.length).filterMap fun j => match ls[j]? with
  | some (some a) => some (j, tr ad ea a)
  | _ => none
theorem lpair_mem {ad ea : Nat → Nat} {ls : LL} {j : Nat} {a : AV} (h : ls[j]? = some (some a)) : (j, tr ad ea a) ∈ lpair ad ea ls := by
  refine List.mem_filterMap.mpr ⟨j, List.mem_range.mpr (List.getElem?_eq_some_iff.mp h).1, ?_⟩
  rw [h]
theorem lpair_has {ad ea : Nat → Nat} {nL : Nat} {lsC : Array Slot} {ls : LL} (h : LR ad ea nL lsC ls) : lv_has lsC nL (lpair ad ea ls) := by
  refine ⟨h.1, h.2.1, fun q hq => ?_⟩
  obtain ⟨j, -, hj⟩ := List.mem_filterMap.mp hq
  split at hj
  · rename_i a ha
    cases hj
    exact h.2.2 _ _ ha
  · cases hj
theorem lpair_cat {a : AV} {ad ea : Nat → Nat} (h : (tr ad ea a).category = 2) : ∃ y, a = al y := by
  match a with
  | .inl none => cases h
  | .inl (some k) => cases h
  | .inr (.inl x) => cases h
  | .inr (.inr (.inl y)) => exact ⟨y, rfl⟩
  | .inr (.inr (.inr e)) => cases h
theorem lset_LR {ad ea : Nat → Nat} {nL i : Nat} {lsC lsD : Array Slot} {ls : LL} {a : AV} (hg : lg1 ls i = true) (h2 : lv_has lsD nL ((i, tr ad ea a) :: (lpair ad ea ls).filter (fun q => !(q.1 == i) && !(q.1 + 1 == i && q.2.category == 2)))) : LR ad ea nL lsD (ls.set i (some a)) := by
  refine ⟨h2.1, h2.2.1, fun j b hj => ?_⟩
  rw [List.getElem?_set] at hj
  split at hj
  · rename_i hij
    subst hij
    split at hj
    · cases hj
      exact h2.2.2 _ List.mem_cons_self
    · cases hj
  · rename_i hij
    refine h2.2.2 (j, tr ad ea b) (List.mem_cons_of_mem _ (List.mem_filter.mpr ⟨lpair_mem hj, ?_⟩))
    simp only [Bool.and_eq_true, Bool.not_eq_true', Bool.and_eq_false_iff, beq_eq_false_iff_ne, ne_eq]
    refine ⟨fun h => hij h.symm, ?_⟩
    by_cases h1 : j + 1 = i
    · right
      intro hc
      obtain ⟨y, rfl⟩ := lpair_cat (a := b) (ad := ad) (ea := ea) (by simpa using hc)
      subst h1
      simp [lg1, hj] at hg
    · exact Or.inl h1
theorem RAl_set {n i : Nat} {ls : LL} {a : AV} (h : RAl n ls) (ha : RA n a) : RAl n (ls.set i (some a)) := by
  intro j b hj
  rw [List.getElem?_set] at hj
  split at hj
  · split at hj
    · cases hj; exact ha
    · cases hj
  · exact h j b hj
theorem Sx.loc {s : State} {D : va_G} {T : Nat → ClassId} {ea : Nat → Nat} {A : Nat → Prop} {ad0 : Nat → Nat} {n0 : Nat} {H : Heap} {locs : List Loc} {ad : Nat → Nat} {lsC lsD : Array Slot} {ls2 : LL} (h : Sx μ s D T ea A ad0 n0 S ls st v H locs ad lsC) (h1 : RAl S.1 ls2) (h2 : LR ad ea μ.2.2.2.1 lsD ls2) : Sx μ s D T ea A ad0 n0 S ls2 st v H locs ad lsD := ⟨h.1, h.2.1, h.2.2.1, h.2.2.2.1, h1, h.2.2.2.2.2.1, h.2.2.2.2.2.2.1, h.2.2.2.2.2.2.2.1, h2⟩
theorem G_istore_n {i : Fin 4} {x : Int} (hd : decode μ.2.1 pc = .ok (.istore_n i, 1)) (hn : Nat.blt i.1 μ.2.2.2.1 = true) (hg : lg1 ls i.1 = true) (k : G l μ Φ c0 s0 S (pc+1) (ls.set i.1 (some (ai x))) (st) v) : G l μ Φ c0 s0 S (pc) ls (ai x :: st) v := by
  intro p en s m args below meth c H locs D T ea A ad ad0 n0 lsC hC hS
  exact lv_istore_n hC.1 hC.2.1 hd rfl (lpair_has hS.lr) (by simpa using hn) rfl (fun lsD hl => k p en s m args below meth c _ _ D T ea A _ ad0 n0 _ hC ((hS.stk fun h => (RAs_cons.mp h).2).loc (RAl_set hS.2.2.2.2.1 hS.top) (lset_LR (lsC := lsC) (a := ai x) hg hl)))
theorem G_istore {i : Nat} {x : Int} (hd : decode μ.2.1 pc = .ok (.istore i, 2)) (hn : Nat.blt i μ.2.2.2.1 = true) (hg : lg1 ls i = true) (k : G l μ Φ c0 s0 S (pc+2) (ls.set i (some (ai x))) (st) v) : G l μ Φ c0 s0 S (pc) ls (ai x :: st) v := by
  intro p en s m args below meth c H locs D T ea A ad ad0 n0 lsC hC hS
  exact lv_istore hC.1 hC.2.1 hd (lpair_has hS.lr) (by simpa using hn) rfl (fun lsD hl => k p en s m args below meth c _ _ D T ea A _ ad0 n0 _ hC ((hS.stk fun h => (RAs_cons.mp h).2).loc (RAl_set hS.2.2.2.2.1 hS.top) (lset_LR (lsC := lsC) (a := ai x) hg hl)))
theorem G_astore_n {i : Fin 4} {r : Option Nat} (hd : decode μ.2.1 pc = .ok (.astore_n i, 1)) (hn : Nat.blt i.1 μ.2.2.2.1 = true) (hg : lg1 ls i.1 = true) (k : G l μ Φ c0 s0 S (pc+1) (ls.set i.1 (some (ar r))) (st) v) : G l μ Φ c0 s0 S (pc) ls (ar r :: st) v := by
  intro p en s m args below meth c H locs D T ea A ad ad0 n0 lsC hC hS
  cases r with
  | none => exact lv_astore_nN hC.1 hC.2.1 hd rfl (lpair_has hS.lr) (by simpa using hn) rfl (fun lsD hl => k p en s m args below meth c _ _ D T ea A _ ad0 n0 _ hC ((hS.stk fun h => (RAs_cons.mp h).2).loc (RAl_set hS.2.2.2.2.1 hS.top) (lset_LR (lsC := lsC) (a := ar none) hg hl)))
  | some x => exact lv_astore_n hC.1 hC.2.1 hd rfl (lpair_has hS.lr) (by simpa using hn) rfl (fun lsD hl => k p en s m args below meth c _ _ D T ea A _ ad0 n0 _ hC ((hS.stk fun h => (RAs_cons.mp h).2).loc (RAl_set hS.2.2.2.2.1 hS.top) (lset_LR (lsC := lsC) (a := ar (some x)) hg hl)))
theorem G_astore {i : Nat} {r : Option Nat} (hd : decode μ.2.1 pc = .ok (.astore i, 2)) (hn : Nat.blt i μ.2.2.2.1 = true) (hg : lg1 ls i = true) (k : G l μ Φ c0 s0 S (pc+2) (ls.set i (some (ar r))) (st) v) : G l μ Φ c0 s0 S (pc) ls (ar r :: st) v := by
  intro p en s m args below meth c H locs D T ea A ad ad0 n0 lsC hC hS
  cases r with
  | none => exact lv_astoreN hC.1 hC.2.1 hd (lpair_has hS.lr) (by simpa using hn) rfl (fun lsD hl => k p en s m args below meth c _ _ D T ea A _ ad0 n0 _ hC ((hS.stk fun h => (RAs_cons.mp h).2).loc (RAl_set hS.2.2.2.2.1 hS.top) (lset_LR (lsC := lsC) (a := ar none) hg hl)))
  | some x => exact lv_astore hC.1 hC.2.1 hd (lpair_has hS.lr) (by simpa using hn) rfl (fun lsD hl => k p en s m args below meth c _ _ D T ea A _ ad0 n0 _ hC ((hS.stk fun h => (RAs_cons.mp h).2).loc (RAl_set hS.2.2.2.2.1 hS.top) (lset_LR (lsC := lsC) (a := ar (some x)) hg hl)))
theorem G_iinc {i : Nat} {n x : Int} (hd : decode μ.2.1 pc = .ok (.iinc i n, 3)) (hl : ls[i]? = some (some (ai x))) (hr : iR (x + n)) (hn : Nat.blt i μ.2.2.2.1 = true) (hg : lg1 ls i = true) (k : G l μ Φ c0 s0 S (pc+3) (ls.set i (some (ai (x + n)))) (st) v) : G l μ Φ c0 s0 S (pc) ls (st) v := by
  intro p en s m args below meth c H locs D T ea A ad ad0 n0 lsC hC hS
  obtain ⟨q, hq⟩ := List.getElem?_of_mem (lpair_mem (ad := ad) (ea := ea) hl)
  exact lv_iinc (v := Int32.ofInt (x + n)) hC.1 hC.2.1 hd (lpair_has hS.lr) hq (Int32.ofInt_add x n).symm (by simpa using hn) rfl (fun lsD h2 => k p en s m args below meth c _ _ D T ea A _ ad0 n0 _ hC (hS.loc (RAl_set hS.2.2.2.2.1 hr) (lset_LR (lsC := lsC) (a := ai (x + n)) hg h2)))
end GR
end
section
def Rof (ci : Nat) : String := match ci with
  | 0 => RX0
  | 1 => RX1
  | 2 => RX2
  | 3 => RX3
  | 4 => RX4
  | 5 => RX5
  | _ => RX6
def Tof (ci : Nat) : u_T := match ci with
  | 0 => TX0
  | 1 => TX1
  | 2 => TX2
  | 3 => TX3
  | 4 => TX4
  | 5 => TX5
  | _ => TX6
theorem cin_0 : ∀ w ∈ u_ws RX0 TX0 4, w ∈ lw_good := by decide +kernel
theorem cin_1 : ∀ w ∈ u_ws RX1 TX1 7, w ∈ lw_good := by decide +kernel
theorem cin_2 : ∀ w ∈ u_ws RX2 TX2 12, w ∈ lw_good := by decide +kernel
theorem cin_3 : ∀ w ∈ u_ws RX3 TX3 2, w ∈ lw_good := by decide +kernel
theorem cin_4 : ∀ w ∈ u_ws RX4 TX4 11, w ∈ lw_good := by decide +kernel
theorem cin_5 : ∀ w ∈ u_ws RX5 TX5 10, w ∈ lw_good := by decide +kernel
theorem cin_6 : ∀ w ∈ u_ws RX6 TX6 46, w ∈ lw_good := by decide +kernel
theorem cls_at {ci : Nat} (h : ci < 7) : classes[ci]? = some (Rof ci, Tof ci, nf ci) := by
  match ci, h with
  | 0, _ => exact rfl
  | 1, _ => exact rfl
  | 2, _ => exact rfl
  | 3, _ => exact rfl
  | 4, _ => exact rfl
  | 5, _ => exact rfl
  | 6, _ => exact rfl
theorem cls_in {ci : Nat} (h : ci < 7) : ∀ w ∈ u_ws (Rof ci) (Tof ci) (nf ci), w ∈ lw_good := by
  match ci, h with
  | 0, _ => exact cin_0
  | 1, _ => exact cin_1
  | 2, _ => exact cin_2
  | 3, _ => exact cin_3
  | 4, _ => exact cin_4
  | 5, _ => exact cin_5
  | 6, _ => exact cin_6
theorem cls_ty {ci : Nat} (h : ci < 7) : ∀ k, k < nf ci → parseFieldDescriptor (Tof ci k).2.2.1 = some (tyof ci k) := by
  match ci, h with
  | 0, _ => exact tyX0_ok
  | 1, _ => exact tyX1_ok
  | 2, _ => exact tyX2_ok
  | 3, _ => exact tyX3_ok
  | 4, _ => exact tyX4_ok
  | 5, _ => exact tyX5_ok
  | 6, _ => exact tyX6_ok
theorem cls_nm {ci : Nat} (h : ci < 7) : ∀ a, a < nf ci → ∀ b, b < nf ci → a ≠ b → (Tof ci a).2.1 ≠ (Tof ci b).2.1 := by
  match ci, h with
  | 0, _ => exact nmX0
  | 1, _ => exact nmX1
  | 2, _ => exact nmX2
  | 3, _ => exact nmX3
  | 4, _ => exact nmX4
  | 5, _ => exact nmX5
  | 6, _ => exact nmX6
def FL (own : String) (idx ci j : Nat) : Prop := ci < 7 ∧ j < nf ci ∧ Cond.fieldLink own idx (Tof ci j).1 (Tof ci j).2.1 (Tof ci j).2.2.1 ∈ lw_good
def FLN (own : String) (idx ci j : Nat) : Prop := ci < 7 ∧ j < nf ci ∧ Cond.fieldLinkNest own idx (Tof ci j).1 (Tof ci j).2.1 (Tof ci j).2.2.1 RX5 ∈ nestw
def up (v : VV) (k : Nat) (j x : Int) : VV := fun a b => if a = k ∧ b = j then x else v a b
theorem up_at (v : VV) (k : Nat) (j x : Int) : up v k j x k = fun b => if b = j then x else v k b := by funext b; simp [up]
theorem up_self (v : VV) (k : Nat) (j x : Int) : up v k j x k j = x := by simp [up]
theorem up_ne {v : VV} {k a : Nat} {j x : Int} (h : a ≠ k) : up v k j x a = v a := by funext b; simp [up, h]
theorem up_nj {v : VV} {k a : Nat} {j b x : Int} (h : b ≠ j) : up v k j x a b = v a b := by simp [up, h]
theorem kr_iR {kind : Nat} {x : Int} (h : Nat.blt kind 3 = true) (hk : kr kind x) : iR x := by
  have : kind < 3 := by simpa using h
  match kind, this, hk with
  | 0, _, hk => exact hk
  | 1, _, hk => exact ⟨by have := hk.1; omega, by have := hk.2; omega⟩
  | 2, _, hk => rcases hk with rfl | rfl <;> exact ⟨by decide, by decide⟩
theorem skd_obj {sh : Nat × Nat} {ci j : Nat} (h : sh.1 = 16 + ci) : skd sh (j : Int) = fk ci j := by
  unfold skd
  rw [h, if_neg (by omega), show 16 + ci - 16 = ci by omega, Int.toNat_natCast]
theorem cell_obj {T : Nat → ClassId} {ad : Nat → Nat} {sh : Nat × Nat} {rk : Int → Option Nat} {vk : Int → Int} {ci : Nat} (h : sh.1 = 16 + ci) : cellE T ad sh rk vk = .inr (ci, flds ad ci rk vk) := by
  unfold cellE
  rw [h, if_neg (by omega), show 16 + ci - 16 = ci by omega]
theorem cell_arr {T : Nat → ClassId} {ad : Nat → Nat} {sh : Nat × Nat} {rk : Int → Option Nat} {vk : Int → Int} {t len : Nat} (h : sh = (t, len)) (ht : Nat.blt t 16 = true) : cellE T ad sh rk vk = .inl (T t, arrc ad t len rk vk) := by
  have : t < 16 := by simpa using ht
  subst h
  unfold cellE
  rw [if_pos this]
theorem wl_get {T : Nat → ClassId} {ad : Nat → Nat} {S : AS} {v : VV} {k : Nat} (hk : k < S.1) : (wl T ad S v)[k]? = some (ad k, cellE T ad (S.2.1 k) (S.2.2 k) (v k)) := by
  simp [wl, List.getElem?_map, List.getElem?_range hk]
theorem wl_set {T : Nat → ClassId} {ad : Nat → Nat} {S S2 : AS} {v v2 : VV} {k : Nat} (hn : S2.1 = S.1) (hsh : S2.2.1 = S.2.1) (hr : ∀ a, a ≠ k → S2.2.2 a = S.2.2 a) (h : ∀ a, a ≠ k → v2 a = v a) : (wl T ad S v).set k (ad k, cellE T ad (S2.2.1 k) (S2.2.2 k) (v2 k)) = wl T ad S2 v2 := by
  apply List.ext_getElem?
  intro i
  rw [List.getElem?_set]
  by_cases hi : i < S.1
  · rw [wl_get (S := S2) (by rw [hn]; exact hi)]
    by_cases hk : k = i
    · subst hk
      rw [if_pos rfl, if_pos (by simpa [wl] using hi)]
    · rw [if_neg hk, wl_get hi, h i (fun z => hk z.symm), hr i (fun z => hk z.symm), hsh]
  · have e1 : (wl T ad S v)[i]? = none := by simp [wl]; omega
    have e2 : (wl T ad S2 v2)[i]? = none := by simp [wl, hn]; omega
    rw [e1, e2]
    by_cases hk : k = i
    · subst hk
      rw [if_pos rfl, if_neg (by simpa [wl] using hi)]
    · rw [if_neg hk]
theorem flds_get {ad : Nat → Nat} {ci j : Nat} {rk : Int → Option Nat} {vk : Int → Int} (h : j < nf ci) : (flds ad ci rk vk)[j]? = some (vlk (fk ci j) ad (rk j) (vk j)) := by
  simp [flds, List.getElem?_map, List.getElem?_range h]
theorem flds_len {ad : Nat → Nat} {ci : Nat} {rk : Int → Option Nat} {vk : Int → Int} : (flds ad ci rk vk).length = nf ci := by simp [flds]
theorem flds_set {ad : Nat → Nat} {ci j : Nat} {rk : Int → Option Nat} {vk : Int → Int} (r : Option Nat) (x : Int) (hj : j < nf ci) : (flds ad ci rk vk).set j (vlk (fk ci j) ad r x) = flds ad ci (fun b => if b = (j : Int) then r else rk b) (fun b => if b = (j : Int) then x else vk b) := by
  apply List.ext_getElem?
  intro i
  rw [List.getElem?_set]
  by_cases hi : i < nf ci
  · have e2 := flds_get (ad := ad) (rk := fun b => if b = (j : Int) then r else rk b) (vk := fun b => if b = (j : Int) then x else vk b) hi
    rw [e2]
    by_cases h : j = i
    · subst h
      rw [if_pos rfl, if_pos (by rw [flds_len]; exact hi), if_pos rfl, if_pos rfl]
    · have h' : ¬ ((i : Int) = (j : Int)) := fun z => h (by omega)
      rw [if_neg h, flds_get hi, if_neg h', if_neg h']
  · rw [List.getElem?_eq_none (l := flds ad ci (fun b => if b = (j : Int) then r else rk b) _) (by rw [flds_len]; omega), if_neg (by omega), List.getElem?_eq_none (by rw [flds_len]; omega)]
theorem RV_up {S : AS} {v : VV} {k : Nat} {j x : Int} (h : RV S v) (hx : kr (skd (S.2.1 k) j) x) : RV S (up v k j x) := by
  intro a ha b
  unfold up
  split
  · rename_i hh
    rw [hh.1, hh.2]
    exact hx
  · exact h a ha b
theorem kd_0 {t : FieldType} (h : kd t = 0) : t = .int := by cases t <;> first | rfl | cases h
theorem kd_2 {t : FieldType} (h : kd t = 2) : t = .boolean := by cases t <;> first | rfl | cases h
theorem kd_5 {t : FieldType} (h : kd t = 5) : t = .long := by cases t <;> first | rfl | cases h
theorem kd_3 {t : FieldType} (h : kd t = 3) (r : Option Nat) (ad : Nat → Nat) (hp : ∃ n, t = .object n ∨ ∃ u, t = .array u) : narrow t (va_rf (r.map ad)) = va_rf (r.map ad) ∧ fits t (va_rf (r.map ad)) = true := by
  obtain ⟨n, rfl | ⟨u, rfl⟩⟩ := hp <;> cases r <;> exact ⟨rfl, rfl⟩
theorem tr_rf {ad ea : Nat → Nat} (r : Option Nat) : tr ad ea (ar r) = va_rf (r.map ad) := by cases r <;> rfl
theorem RA_rf {S : AS} (h : WR S) {k : Nat} (hk : k < S.1) (j : Int) : RA S.1 (ar (S.2.2 k j)) := by
  cases hr : S.2.2 k j with
  | none => trivial
  | some r => exact h k hk j r hr
theorem vlk_i {kind : Nat} {ad : Nat → Nat} {r : Option Nat} {x : Int} (h : Nat.blt kind 3 = true) : vlk kind ad r x = .int (Int32.ofInt x) := by
  have : kind < 3 := by simpa using h
  match kind, this with
  | 0, _ => rfl
  | 1, _ => rfl
  | 2, _ => rfl
theorem clampI {i : Int} (hi : iR i) : (Int32.ofInt i).toNatClampNeg = i.toNat := by
  show (Int32.ofInt i).toInt.toNat = i.toNat
  rw [iR_toInt hi]
theorem in_I {i : Int} {n : Nat} (hi : iR i) (h0 : 0 ≤ i) (h1 : i < n) : vp_in (Int32.ofInt i) n := vp_in_iff.mpr (by rw [iR_toInt hi]; exact ⟨h0, h1⟩)
theorem upd_I {f : Int → Int} {i x : Int} (h0 : 0 ≤ i) : upd (fun (j : Nat) => Int32.ofInt (f j)) i.toNat (Int32.ofInt x) = fun (j : Nat) => Int32.ofInt ((fun b => if b = i then x else f b) (j : Int)) := by
  funext j
  unfold upd
  by_cases h : j = i.toNat
  · have h2 : (j : Int) = i := by omega
    rw [if_pos h]
    exact congrArg Int32.ofInt (if_pos h2).symm
  · have h2 : ¬ ((j : Int) = i) := by omega
    rw [if_neg h]
    exact congrArg Int32.ofInt (if_neg h2).symm
theorem narB {x : Int} (hz : -128 ≤ x ∧ x < 128) : vp_nar .byte (Int32.ofInt x) = Int32.ofInt x := by
  rw [vp_nar_byte, ← Int32.toInt_inj, Int8.toInt_toInt32, Int32.toInt_toInt8, iR_toInt ⟨by omega, by omega⟩]
  exact Int.bmod_eq_of_le (by omega) (by omega)
theorem narZ {x : Int} (hz : x = 0 ∨ x = 1) : vp_nar .boolean (Int32.ofInt x) = Int32.ofInt x := by rcases hz with rfl | rfl <;> rfl
section GH
variable {l : Launch} {μ : MU} {Φ : Option AV → AS → VV → Prop} {c0 s0 : Nat} {S : AS} {pc : Nat} {ls : LL} {st : List AV} {v : VV}
theorem Sx.hp {s : State} {D : va_G} {T : Nat → ClassId} {ea : Nat → Nat} {A : Nat → Prop} {ad0 : Nat → Nat} {n0 : Nat} {H H1 : Heap} {locs locs1 : List Loc} {ad : Nat → Nat} {lsC : Array Slot} {v2 : VV} {r2 : Nat → Int → Option Nat} (h : Sx μ s D T ea A ad0 n0 S ls st v H locs ad lsC) (hw : WR (S.1, S.2.1, r2)) (hv : RV S v2) (h1 : va_P D classes (wl T ad (S.1, S.2.1, r2) v2) H1) (h2 : va_D A (wl T ad (S.1, S.2.1, r2) v2)) (h3 : va_S A s.heap H1 locs1) : Sx μ s D T ea A ad0 n0 (S.1, S.2.1, r2) ls st v2 H1 locs1 ad lsC := ⟨h.1, hw, hv, h.2.2.2.1, h.2.2.2.2.1, h1, h2, h3, h.2.2.2.2.2.2.2.2⟩
theorem G_getI {idx ci j k : Nat} (hd : decode μ.2.1 pc = .ok (.getfield idx, 3)) (hf : FL μ.1.cls idx ci j) {jj : Int} (hj : ((j : Nat) : Int) = jj) (hs : (S.2.1 k).1 = 16 + ci) (hi : Nat.blt (fk ci j) 3 = true) (kk : G l μ Φ c0 s0 S (pc+3) ls (ai (v k jj) :: st) v) : G l μ Φ c0 s0 S (pc) ls (ar (some k) :: st) v := by
  intro p en s m args below meth c H locs D T ea A ad ad0 n0 lsC hC hS
  subst hj
  have hk : k < S.1 := hS.top
  have he := wl_get (T := T) (ad := ad) (v := v) hk
  rw [cell_obj hs] at he
  refine va_get (own := μ.1.cls) (C := Rof ci) (T := Tof ci) (N := nf ci) (Ts := lw_good) hC.1 hC.2.1 hC.2.2.2.2.2.2.2.1 (cls_in hf.1) hC.2.2.2.2.2.2.1 hC.2.2.2.2.2.2.2.2.1 hS.2.2.2.2.2.1 k he (cls_at hf.1) j hf.2.1 (hC.2.2.2.2.2.2.2.1 _ hf.2.2) (fun _ h => h) (v := tr ad ea (ai (v k (j : Int)))) ?_ hd (kk p en s m args below meth c _ _ D T ea A _ ad0 n0 _ hC (hS.stk fun h => RAs_cons.mpr ⟨kr_iR hi (by have := hS.vr k hk (j : Int); rwa [skd_obj hs] at this), (RAs_cons.mp h).2⟩))
  rw [flds_get hf.2.1]
  exact congrArg some (vlk_i hi)
theorem G_getNI {idx ci j k : Nat} (hd : decode μ.2.1 pc = .ok (.getfield idx, 3)) (hf : FLN μ.1.cls idx ci j) {jj : Int} (hj : ((j : Nat) : Int) = jj) (hs : (S.2.1 k).1 = 16 + ci) (hi : Nat.blt (fk ci j) 3 = true) (kk : G l μ Φ c0 s0 S (pc+3) ls (ai (v k jj) :: st) v) : G l μ Φ c0 s0 S (pc) ls (ar (some k) :: st) v := by
  intro p en s m args below meth c H locs D T ea A ad ad0 n0 lsC hC hS
  subst hj
  have hk : k < S.1 := hS.top
  have he := wl_get (T := T) (ad := ad) (v := v) hk
  rw [cell_obj hs] at he
  refine va_getN (own := μ.1.cls) (C := Rof ci) (T := Tof ci) (N := nf ci) (Ts := lw_good) hC.1 hC.2.1 hC.2.2.2.2.2.2.2.1 (cls_in hf.1) hC.2.2.2.2.2.2.1 hC.2.2.2.2.2.2.2.2.1 hS.2.2.2.2.2.1 k he (cls_at hf.1) j hf.2.1 (va_Nw.use rfl (hC.2.2.2.2.2.2.2.2.2.1.1.2.2.2 _ hf.2.2)) (fun _ h => h) (v := tr ad ea (ai (v k (j : Int)))) ?_ hd (kk p en s m args below meth c _ _ D T ea A _ ad0 n0 _ hC (hS.stk fun h => RAs_cons.mpr ⟨kr_iR hi (by have := hS.vr k hk (j : Int); rwa [skd_obj hs] at this), (RAs_cons.mp h).2⟩))
  rw [flds_get hf.2.1]
  exact congrArg some (vlk_i hi)
theorem G_getR {idx ci j k : Nat} (hd : decode μ.2.1 pc = .ok (.getfield idx, 3)) (hf : FL μ.1.cls idx ci j) {jj : Int} (hj : ((j : Nat) : Int) = jj) (hs : (S.2.1 k).1 = 16 + ci) (hi : fk ci j = 3) (kk : G l μ Φ c0 s0 S (pc+3) ls (ar (S.2.2 k jj) :: st) v) : G l μ Φ c0 s0 S (pc) ls (ar (some k) :: st) v := by
  intro p en s m args below meth c H locs D T ea A ad ad0 n0 lsC hC hS
  subst hj
  have hk : k < S.1 := hS.top
  have he := wl_get (T := T) (ad := ad) (v := v) hk
  rw [cell_obj hs] at he
  refine va_get (own := μ.1.cls) (C := Rof ci) (T := Tof ci) (N := nf ci) (Ts := lw_good) hC.1 hC.2.1 hC.2.2.2.2.2.2.2.1 (cls_in hf.1) hC.2.2.2.2.2.2.1 hC.2.2.2.2.2.2.2.2.1 hS.2.2.2.2.2.1 k he (cls_at hf.1) j hf.2.1 (hC.2.2.2.2.2.2.2.1 _ hf.2.2) (fun _ h => h) (v := tr ad ea (ar (S.2.2 k (j : Int)))) ?_ hd (kk p en s m args below meth c _ _ D T ea A _ ad0 n0 _ hC (hS.stk fun h => RAs_cons.mpr ⟨RA_rf hS.2.1 hk _, (RAs_cons.mp h).2⟩))
  rw [flds_get hf.2.1]
  exact congrArg some (by rw [hi]; exact (tr_rf _).symm)
theorem G_getL {idx ci j k : Nat} (hd : decode μ.2.1 pc = .ok (.getfield idx, 3)) (hf : FL μ.1.cls idx ci j) {jj : Int} (hj : ((j : Nat) : Int) = jj) (hs : (S.2.1 k).1 = 16 + ci) (hi : fk ci j = 5) (kk : G l μ Φ c0 s0 S (pc+3) ls (al (v k jj) :: st) v) : G l μ Φ c0 s0 S (pc) ls (ar (some k) :: st) v := by
  intro p en s m args below meth c H locs D T ea A ad ad0 n0 lsC hC hS
  subst hj
  have hk : k < S.1 := hS.top
  have he := wl_get (T := T) (ad := ad) (v := v) hk
  rw [cell_obj hs] at he
  refine va_get (own := μ.1.cls) (C := Rof ci) (T := Tof ci) (N := nf ci) (Ts := lw_good) hC.1 hC.2.1 hC.2.2.2.2.2.2.2.1 (cls_in hf.1) hC.2.2.2.2.2.2.1 hC.2.2.2.2.2.2.2.2.1 hS.2.2.2.2.2.1 k he (cls_at hf.1) j hf.2.1 (hC.2.2.2.2.2.2.2.1 _ hf.2.2) (fun _ h => h) (v := tr ad ea (al (v k (j : Int)))) ?_ hd (kk p en s m args below meth c _ _ D T ea A _ ad0 n0 _ hC (hS.stk fun h => RAs_cons.mpr ⟨by have := hS.vr k hk (j : Int); rw [skd_obj hs, hi] at this; exact this, (RAs_cons.mp h).2⟩))
  rw [flds_get hf.2.1]
  exact congrArg some (by rw [hi]; rfl)
theorem G_putI {idx ci j k : Nat} {x : Int} (hd : decode μ.2.1 pc = .ok (.putfield idx, 3)) (hf : FL μ.1.cls idx ci j) (hfin : (Tof ci j).2.2.2 = false) {jj : Int} (hj : ((j : Nat) : Int) = jj) (hs : (S.2.1 k).1 = 16 + ci) (hi : fk ci j = 0) (kk : G l μ Φ c0 s0 S (pc+3) ls (st) (up v k jj x)) : G l μ Φ c0 s0 S (pc) ls (ai x :: ar (some k) :: st) v := by
  intro p en s m args below meth c H locs D T ea A ad ad0 n0 lsC hC hS
  subst hj
  have hk : k < S.1 := hS.two
  have hx : kr (fk ci j) x := by rw [hi]; exact hS.top
  have he := wl_get (T := T) (ad := ad) (v := v) hk
  rw [cell_obj hs] at he
  refine va_put (own := μ.1.cls) (C := Rof ci) (T := Tof ci) (N := nf ci) (Ts := lw_good) hC.1 hC.2.1 hC.2.2.2.2.2.2.2.1 (cls_in hf.1) (tyof ci) (cls_ty hf.1) (cls_nm hf.1) hC.2.2.2.2.2.2.1 hC.2.2.2.2.2.2.2.2.1 hS.2.2.2.2.2.1 hS.2.2.2.2.2.2.1 hS.2.2.2.2.2.2.2.1 k he (cls_at hf.1) j hf.2.1 (hC.2.2.2.2.2.2.2.1 _ hf.2.2) (fun _ h => h) hfin (ty := tyof ci j) (v := Value.int (Int32.ofInt x)) (cls_ty hf.1 j hf.2.1) (by rw [kd_0 hi]; rfl) (by rw [kd_0 hi]; rfl) (by rw [flds_len]; exact hf.2.1) hd (fun H1 locs1 h1 h2 h3 => ?_)
  have e : (wl T ad S v).set k (ad k, .inr (ci, (flds ad ci (S.2.2 k) (v k)).set j (Value.int (Int32.ofInt x)))) = wl T ad S (up v k j x) := by
    rw [show Value.int (Int32.ofInt x) = vlk (fk ci j) ad (S.2.2 k j) x from (vlk_i (by rw [hi]; rfl)).symm, flds_set (S.2.2 k j) x hf.2.1]
    have h9 := wl_set (T := T) (ad := ad) (S := S) (S2 := S) (v := v) (v2 := up v k j x) (k := k) rfl rfl (fun _ _ => rfl) (fun a ha => up_ne ha)
    rw [cell_obj (sh := (S).2.1 k) hs, up_at] at h9
    rw [← h9]
    have e3 : (fun b => if b = (j : Int) then S.2.2 k j else S.2.2 k b) = S.2.2 k := by
      funext b
      by_cases hb : b = (j : Int)
      · simp [hb]
      · simp [hb]
    rw [e3]
  rw [e] at h1 h2
  exact kk p en s m args below meth c _ _ D T ea A _ ad0 n0 _ hC ((hS.stk fun h => (RAs_cons.mp (RAs_cons.mp h).2).2).hp hS.2.1 (RV_up hS.vr (by rw [skd_obj hs]; exact hx)) h1 h2 h3)
theorem G_putZ {idx ci j k : Nat} {x : Int} (hd : decode μ.2.1 pc = .ok (.putfield idx, 3)) (hf : FL μ.1.cls idx ci j) (hfin : (Tof ci j).2.2.2 = false) {jj : Int} (hj : ((j : Nat) : Int) = jj) (hs : (S.2.1 k).1 = 16 + ci) (hi : fk ci j = 2) (hz : x = 0 ∨ x = 1) (kk : G l μ Φ c0 s0 S (pc+3) ls (st) (up v k jj x)) : G l μ Φ c0 s0 S (pc) ls (ai x :: ar (some k) :: st) v := by
  intro p en s m args below meth c H locs D T ea A ad ad0 n0 lsC hC hS
  subst hj
  have hk : k < S.1 := hS.two
  have hx : kr (fk ci j) x := by rw [hi]; exact hz
  have he := wl_get (T := T) (ad := ad) (v := v) hk
  rw [cell_obj hs] at he
  refine va_put (own := μ.1.cls) (C := Rof ci) (T := Tof ci) (N := nf ci) (Ts := lw_good) hC.1 hC.2.1 hC.2.2.2.2.2.2.2.1 (cls_in hf.1) (tyof ci) (cls_ty hf.1) (cls_nm hf.1) hC.2.2.2.2.2.2.1 hC.2.2.2.2.2.2.2.2.1 hS.2.2.2.2.2.1 hS.2.2.2.2.2.2.1 hS.2.2.2.2.2.2.2.1 k he (cls_at hf.1) j hf.2.1 (hC.2.2.2.2.2.2.2.1 _ hf.2.2) (fun _ h => h) hfin (ty := tyof ci j) (v := Value.int (Int32.ofInt x)) (cls_ty hf.1 j hf.2.1) (by rw [kd_2 hi]; rcases hz with rfl | rfl <;> rfl) (by rw [kd_2 hi]; rcases hz with rfl | rfl <;> rfl) (by rw [flds_len]; exact hf.2.1) hd (fun H1 locs1 h1 h2 h3 => ?_)
  have e : (wl T ad S v).set k (ad k, .inr (ci, (flds ad ci (S.2.2 k) (v k)).set j (Value.int (Int32.ofInt x)))) = wl T ad S (up v k j x) := by
    rw [show Value.int (Int32.ofInt x) = vlk (fk ci j) ad (S.2.2 k j) x from (vlk_i (by rw [hi]; rfl)).symm, flds_set (S.2.2 k j) x hf.2.1]
    have h9 := wl_set (T := T) (ad := ad) (S := S) (S2 := S) (v := v) (v2 := up v k j x) (k := k) rfl rfl (fun _ _ => rfl) (fun a ha => up_ne ha)
    rw [cell_obj (sh := (S).2.1 k) hs, up_at] at h9
    rw [← h9]
    have e3 : (fun b => if b = (j : Int) then S.2.2 k j else S.2.2 k b) = S.2.2 k := by
      funext b
      by_cases hb : b = (j : Int)
      · simp [hb]
      · simp [hb]
    rw [e3]
  rw [e] at h1 h2
  exact kk p en s m args below meth c _ _ D T ea A _ ad0 n0 _ hC ((hS.stk fun h => (RAs_cons.mp (RAs_cons.mp h).2).2).hp hS.2.1 (RV_up hS.vr (by rw [skd_obj hs]; exact hx)) h1 h2 h3)
theorem G_putIF {idx ci j k : Nat} {x : Int} (hd : decode μ.2.1 pc = .ok (.putfield idx, 3)) (hf : FL μ.1.cls idx ci j) (hfin : (Tof ci j).2.2.2 = true) {jj : Int} (hj : ((j : Nat) : Int) = jj) (hs : (S.2.1 k).1 = 16 + ci) (hi : fk ci j = 0) (hnm : μ.1.name = "<init>") (hdc : (Tof ci j).1 = μ.1.cls) (kk : G l μ Φ c0 s0 S (pc+3) ls (st) (up v k jj x)) : G l μ Φ c0 s0 S (pc) ls (ai x :: ar (some k) :: st) v := by
  intro p en s m args below meth c H locs D T ea A ad ad0 n0 lsC hC hS
  subst hj
  have hk : k < S.1 := hS.two
  have hx : kr (fk ci j) x := by rw [hi]; exact hS.top
  have he := wl_get (T := T) (ad := ad) (v := v) hk
  rw [cell_obj hs] at he
  refine va_putF (own := μ.1.cls) (C := Rof ci) (T := Tof ci) (N := nf ci) (Ts := lw_good) hC.1 hC.2.1 hC.2.2.2.2.2.2.2.1 (cls_in hf.1) (tyof ci) (cls_ty hf.1) (cls_nm hf.1) hC.2.2.2.2.2.2.1 hC.2.2.2.2.2.2.2.2.1 hS.2.2.2.2.2.1 hS.2.2.2.2.2.2.1 hS.2.2.2.2.2.2.2.1 k he (cls_at hf.1) j hf.2.1 (hC.2.2.2.2.2.2.2.1 _ hf.2.2) (fun _ h => h) hfin (hC.2.2.2.2.2.1.trans hnm) hdc (ty := tyof ci j) (v := Value.int (Int32.ofInt x)) (cls_ty hf.1 j hf.2.1) (by rw [kd_0 hi]; rfl) (by rw [kd_0 hi]; rfl) (by rw [flds_len]; exact hf.2.1) hd (fun H1 locs1 h1 h2 h3 => ?_)
  have e : (wl T ad S v).set k (ad k, .inr (ci, (flds ad ci (S.2.2 k) (v k)).set j (Value.int (Int32.ofInt x)))) = wl T ad S (up v k j x) := by
    rw [show Value.int (Int32.ofInt x) = vlk (fk ci j) ad (S.2.2 k j) x from (vlk_i (by rw [hi]; rfl)).symm, flds_set (S.2.2 k j) x hf.2.1]
    have h9 := wl_set (T := T) (ad := ad) (S := S) (S2 := S) (v := v) (v2 := up v k j x) (k := k) rfl rfl (fun _ _ => rfl) (fun a ha => up_ne ha)
    rw [cell_obj (sh := (S).2.1 k) hs, up_at] at h9
    rw [← h9]
    have e3 : (fun b => if b = (j : Int) then S.2.2 k j else S.2.2 k b) = S.2.2 k := by
      funext b
      by_cases hb : b = (j : Int)
      · simp [hb]
      · simp [hb]
    rw [e3]
  rw [e] at h1 h2
  exact kk p en s m args below meth c _ _ D T ea A _ ad0 n0 _ hC ((hS.stk fun h => (RAs_cons.mp (RAs_cons.mp h).2).2).hp hS.2.1 (RV_up hS.vr (by rw [skd_obj hs]; exact hx)) h1 h2 h3)
theorem G_putL {idx ci j k : Nat} {x : Int} (hd : decode μ.2.1 pc = .ok (.putfield idx, 3)) (hf : FL μ.1.cls idx ci j) (hfin : (Tof ci j).2.2.2 = false) {jj : Int} (hj : ((j : Nat) : Int) = jj) (hs : (S.2.1 k).1 = 16 + ci) (hi : fk ci j = 5) (kk : G l μ Φ c0 s0 S (pc+3) ls (st) (up v k jj x)) : G l μ Φ c0 s0 S (pc) ls (al x :: ar (some k) :: st) v := by
  intro p en s m args below meth c H locs D T ea A ad ad0 n0 lsC hC hS
  subst hj
  have hk : k < S.1 := hS.two
  have hx : kr (fk ci j) x := by rw [hi]; exact hS.top
  have he := wl_get (T := T) (ad := ad) (v := v) hk
  rw [cell_obj hs] at he
  refine va_put (own := μ.1.cls) (C := Rof ci) (T := Tof ci) (N := nf ci) (Ts := lw_good) hC.1 hC.2.1 hC.2.2.2.2.2.2.2.1 (cls_in hf.1) (tyof ci) (cls_ty hf.1) (cls_nm hf.1) hC.2.2.2.2.2.2.1 hC.2.2.2.2.2.2.2.2.1 hS.2.2.2.2.2.1 hS.2.2.2.2.2.2.1 hS.2.2.2.2.2.2.2.1 k he (cls_at hf.1) j hf.2.1 (hC.2.2.2.2.2.2.2.1 _ hf.2.2) (fun _ h => h) hfin (ty := tyof ci j) (v := Value.long (Int64.ofInt x)) (cls_ty hf.1 j hf.2.1) (by rw [kd_5 hi]; rfl) (by rw [kd_5 hi]; rfl) (by rw [flds_len]; exact hf.2.1) hd (fun H1 locs1 h1 h2 h3 => ?_)
  have e : (wl T ad S v).set k (ad k, .inr (ci, (flds ad ci (S.2.2 k) (v k)).set j (Value.long (Int64.ofInt x)))) = wl T ad S (up v k j x) := by
    rw [show Value.long (Int64.ofInt x) = vlk (fk ci j) ad (S.2.2 k j) x from (by rw [hi]; rfl), flds_set (S.2.2 k j) x hf.2.1]
    have h9 := wl_set (T := T) (ad := ad) (S := S) (S2 := S) (v := v) (v2 := up v k j x) (k := k) rfl rfl (fun _ _ => rfl) (fun a ha => up_ne ha)
    rw [cell_obj (sh := (S).2.1 k) hs, up_at] at h9
    rw [← h9]
    have e3 : (fun b => if b = (j : Int) then S.2.2 k j else S.2.2 k b) = S.2.2 k := by
      funext b
      by_cases hb : b = (j : Int)
      · simp [hb]
      · simp [hb]
    rw [e3]
  rw [e] at h1 h2
  exact kk p en s m args below meth c _ _ D T ea A _ ad0 n0 _ hC ((hS.stk fun h => (RAs_cons.mp (RAs_cons.mp h).2).2).hp hS.2.1 (RV_up hS.vr (by rw [skd_obj hs]; exact hx)) h1 h2 h3)
theorem G_iald {k len : Nat} {i : Int} (hd : decode μ.2.1 pc = .ok (.iaload, 1)) (hs : S.2.1 k = (0, len)) (h0 : 0 ≤ i) (h1 : i < (len : Int)) (kk : G l μ Φ c0 s0 S (pc+1) ls (ai (v k i) :: st) v) : G l μ Φ c0 s0 S (pc) ls (ai i :: ar (some k) :: st) v := by
  intro p en s m args below meth c H locs D T ea A ad ad0 n0 lsC hC hS
  have hk : k < S.1 := hS.two
  have hi : iR i := hS.top
  have he := wl_get (T := T) (ad := ad) (v := v) hk
  rw [cell_arr hs rfl] at he
  refine va_iald hC.1 hC.2.1 hC.2.2.2.2.2.2.2.2.1 hS.2.2.2.2.2.1 k 0 he rfl (in_I hi h0 h1) hd ?_
  have hr : iR (v k i) := kr_iR (kind := 0) rfl (by have := hS.vr k hk i; unfold skd at this; rw [hs] at this; exact this)
  have k2 := kk p en s m args below meth c _ _ D T ea A _ ad0 n0 _ hC (hS.stk fun h => RAs_cons.mpr ⟨hr, (RAs_cons.mp (RAs_cons.mp h).2).2⟩)
  have e : Int32.ofInt (v k ((Int32.ofInt i).toNatClampNeg : Nat)) = Int32.ofInt (v k i) := by rw [clampI hi, Int.toNat_of_nonneg h0]
  show W p l en _ s m args below meth c H locs c0 s0 _ (F0 m (pc + 1) lsC (Value.int (Int32.ofInt (v k ((Int32.ofInt i).toNatClampNeg : Nat))) :: st.map (tr ad ea)))
  rw [e]
  exact k2
theorem G_bald {k len : Nat} {i : Int} (hd : decode μ.2.1 pc = .ok (.baload, 1)) (hs : S.2.1 k = (1, len)) (h0 : 0 ≤ i) (h1 : i < (len : Int)) (kk : G l μ Φ c0 s0 S (pc+1) ls (ai (v k i) :: st) v) : G l μ Φ c0 s0 S (pc) ls (ai i :: ar (some k) :: st) v := by
  intro p en s m args below meth c H locs D T ea A ad ad0 n0 lsC hC hS
  have hk : k < S.1 := hS.two
  have hi : iR i := hS.top
  have he := wl_get (T := T) (ad := ad) (v := v) hk
  rw [cell_arr hs rfl] at he
  refine va_bald hC.1 hC.2.1 hC.2.2.2.2.2.2.2.2.1 hS.2.2.2.2.2.1 k 1 he rfl (in_I hi h0 h1) hd ?_
  have hr : iR (v k i) := kr_iR (kind := 1) rfl (by have := hS.vr k hk i; unfold skd at this; rw [hs] at this; exact this)
  have k2 := kk p en s m args below meth c _ _ D T ea A _ ad0 n0 _ hC (hS.stk fun h => RAs_cons.mpr ⟨hr, (RAs_cons.mp (RAs_cons.mp h).2).2⟩)
  have e : Int32.ofInt (v k ((Int32.ofInt i).toNatClampNeg : Nat)) = Int32.ofInt (v k i) := by rw [clampI hi, Int.toNat_of_nonneg h0]
  show W p l en _ s m args below meth c H locs c0 s0 _ (F0 m (pc + 1) lsC (Value.int (Int32.ofInt (v k ((Int32.ofInt i).toNatClampNeg : Nat))) :: st.map (tr ad ea)))
  rw [e]
  exact k2
theorem G_zald {k len : Nat} {i : Int} (hd : decode μ.2.1 pc = .ok (.baload, 1)) (hs : S.2.1 k = (2, len)) (h0 : 0 ≤ i) (h1 : i < (len : Int)) (kk : G l μ Φ c0 s0 S (pc+1) ls (ai (v k i) :: st) v) : G l μ Φ c0 s0 S (pc) ls (ai i :: ar (some k) :: st) v := by
  intro p en s m args below meth c H locs D T ea A ad ad0 n0 lsC hC hS
  have hk : k < S.1 := hS.two
  have hi : iR i := hS.top
  have he := wl_get (T := T) (ad := ad) (v := v) hk
  rw [cell_arr hs rfl] at he
  refine va_zald hC.1 hC.2.1 hC.2.2.2.2.2.2.2.2.1 hS.2.2.2.2.2.1 k 2 he rfl (in_I hi h0 h1) hd ?_
  have hr : iR (v k i) := kr_iR (kind := 2) rfl (by have := hS.vr k hk i; unfold skd at this; rw [hs] at this; exact this)
  have k2 := kk p en s m args below meth c _ _ D T ea A _ ad0 n0 _ hC (hS.stk fun h => RAs_cons.mpr ⟨hr, (RAs_cons.mp (RAs_cons.mp h).2).2⟩)
  have e : Int32.ofInt (v k ((Int32.ofInt i).toNatClampNeg : Nat)) = Int32.ofInt (v k i) := by rw [clampI hi, Int.toNat_of_nonneg h0]
  show W p l en _ s m args below meth c H locs c0 s0 _ (F0 m (pc + 1) lsC (Value.int (Int32.ofInt (v k ((Int32.ofInt i).toNatClampNeg : Nat))) :: st.map (tr ad ea)))
  rw [e]
  exact k2
theorem G_iast {k len : Nat} {i x : Int} (hd : decode μ.2.1 pc = .ok (.iastore, 1)) (hs : S.2.1 k = (0, len)) (h0 : 0 ≤ i) (h1 : i < (len : Int)) (kk : G l μ Φ c0 s0 S (pc+1) ls (st) (up v k i x)) : G l μ Φ c0 s0 S (pc) ls (ai x :: ai i :: ar (some k) :: st) v := by
  intro p en s m args below meth c H locs D T ea A ad ad0 n0 lsC hC hS
  have hk : k < S.1 := hS.three
  have hi : iR i := hS.two
  have he := wl_get (T := T) (ad := ad) (v := v) hk
  rw [cell_arr hs rfl] at he
  refine va_iast hC.1 hC.2.1 hC.2.2.2.2.2.2.2.2.1 hS.2.2.2.2.2.1 hS.2.2.2.2.2.2.1 hS.2.2.2.2.2.2.2.1 k 0 he rfl (in_I hi h0 h1) hd (fun H1 locs1 g1 g2 g3 => ?_)
  have e : (wl T ad S v).set k (ad k, .inl (T 0, len, .inl (upd (fun (j : Nat) => Int32.ofInt (v k (j : Int))) (Int32.ofInt i).toNatClampNeg (Int32.ofInt x)))) = wl T ad S (up v k i x) := by
    have h9 := wl_set (T := T) (ad := ad) (S := S) (S2 := S) (v := v) (v2 := up v k i x) (k := k) rfl rfl (fun _ _ => rfl) (fun a ha => up_ne ha)
    rw [cell_arr hs rfl, up_at] at h9
    rw [← h9, clampI hi]
    rw [upd_I h0]
    rfl
  rw [e] at g1 g2
  exact kk p en s m args below meth c _ _ D T ea A _ ad0 n0 _ hC ((hS.stk fun h => (RAs_cons.mp (RAs_cons.mp (RAs_cons.mp h).2).2).2).hp hS.2.1 (RV_up hS.vr (by unfold skd; rw [hs]; exact hS.top)) g1 g2 g3)
theorem G_bast {k len : Nat} {i x : Int} (hd : decode μ.2.1 pc = .ok (.bastore, 1)) (hs : S.2.1 k = (1, len)) (h0 : 0 ≤ i) (h1 : i < (len : Int)) (hz : -128 ≤ x ∧ x < 128) (kk : G l μ Φ c0 s0 S (pc+1) ls (st) (up v k i x)) : G l μ Φ c0 s0 S (pc) ls (ai x :: ai i :: ar (some k) :: st) v := by
  intro p en s m args below meth c H locs D T ea A ad ad0 n0 lsC hC hS
  have hk : k < S.1 := hS.three
  have hi : iR i := hS.two
  have he := wl_get (T := T) (ad := ad) (v := v) hk
  rw [cell_arr hs rfl] at he
  refine va_bast hC.1 hC.2.1 hC.2.2.2.2.2.2.2.2.1 hS.2.2.2.2.2.1 hS.2.2.2.2.2.2.1 hS.2.2.2.2.2.2.2.1 k 1 he rfl (in_I hi h0 h1) hd (fun H1 locs1 g1 g2 g3 => ?_)
  have e : (wl T ad S v).set k (ad k, .inl (T 1, len, .inl (upd (fun (j : Nat) => Int32.ofInt (v k (j : Int))) (Int32.ofInt i).toNatClampNeg (vp_nar .byte (Int32.ofInt x))))) = wl T ad S (up v k i x) := by
    have h9 := wl_set (T := T) (ad := ad) (S := S) (S2 := S) (v := v) (v2 := up v k i x) (k := k) rfl rfl (fun _ _ => rfl) (fun a ha => up_ne ha)
    rw [cell_arr hs rfl, up_at] at h9
    rw [← h9, clampI hi]
    rw [narB hz]
    rw [upd_I h0]
    rfl
  rw [e] at g1 g2
  exact kk p en s m args below meth c _ _ D T ea A _ ad0 n0 _ hC ((hS.stk fun h => (RAs_cons.mp (RAs_cons.mp (RAs_cons.mp h).2).2).2).hp hS.2.1 (RV_up hS.vr (by unfold skd; rw [hs]; exact hz)) g1 g2 g3)
theorem G_zast {k len : Nat} {i x : Int} (hd : decode μ.2.1 pc = .ok (.bastore, 1)) (hs : S.2.1 k = (2, len)) (h0 : 0 ≤ i) (h1 : i < (len : Int)) (hz : x = 0 ∨ x = 1) (kk : G l μ Φ c0 s0 S (pc+1) ls (st) (up v k i x)) : G l μ Φ c0 s0 S (pc) ls (ai x :: ai i :: ar (some k) :: st) v := by
  intro p en s m args below meth c H locs D T ea A ad ad0 n0 lsC hC hS
  have hk : k < S.1 := hS.three
  have hi : iR i := hS.two
  have he := wl_get (T := T) (ad := ad) (v := v) hk
  rw [cell_arr hs rfl] at he
  refine va_zast hC.1 hC.2.1 hC.2.2.2.2.2.2.2.2.1 hS.2.2.2.2.2.1 hS.2.2.2.2.2.2.1 hS.2.2.2.2.2.2.2.1 k 2 he rfl (in_I hi h0 h1) hd (fun H1 locs1 g1 g2 g3 => ?_)
  have e : (wl T ad S v).set k (ad k, .inl (T 2, len, .inl (upd (fun (j : Nat) => Int32.ofInt (v k (j : Int))) (Int32.ofInt i).toNatClampNeg (vp_nar .boolean (Int32.ofInt x))))) = wl T ad S (up v k i x) := by
    have h9 := wl_set (T := T) (ad := ad) (S := S) (S2 := S) (v := v) (v2 := up v k i x) (k := k) rfl rfl (fun _ _ => rfl) (fun a ha => up_ne ha)
    rw [cell_arr hs rfl, up_at] at h9
    rw [← h9, clampI hi]
    rw [narZ hz]
    rw [upd_I h0]
    rfl
  rw [e] at g1 g2
  exact kk p en s m args below meth c _ _ D T ea A _ ad0 n0 _ hC ((hS.stk fun h => (RAs_cons.mp (RAs_cons.mp (RAs_cons.mp h).2).2).2).hp hS.2.1 (RV_up hS.vr (by unfold skd; rw [hs]; exact hz)) g1 g2 g3)
theorem G_aald {k len t : Nat} {C : String} {i : Int} (hd : decode μ.2.1 pc = .ok (.aaload, 1)) (hs : S.2.1 k = (t, len)) (h0 : 0 ≤ i) (h1 : i < (len : Int)) (ht : (t = 3 ∧ C = "WicketBoard$Umpire") ∨ (t = 4 ∧ C = "WicketBoard$Game")) (kk : G l μ Φ c0 s0 S (pc+1) ls (ar (S.2.2 k i) :: st) v) : G l μ Φ c0 s0 S (pc) ls (ai i :: ar (some k) :: st) v := by
  intro p en s m args below meth c H locs D T ea A ad ad0 n0 lsC hC hS
  have hk : k < S.1 := hS.two
  have hi : iR i := hS.top
  have he := wl_get (T := T) (ad := ad) (v := v) hk
  have k2 := kk p en s m args below meth c _ _ D T ea A _ ad0 n0 _ hC (hS.stk fun h => RAs_cons.mpr ⟨RA_rf hS.2.1 hk i, (RAs_cons.mp (RAs_cons.mp h).2).2⟩)
  have e : va_rf ((S.2.2 k ((Int32.ofInt i).toNatClampNeg : Nat)).map ad) = tr ad ea (ar (S.2.2 k i)) := by rw [clampI hi, Int.toNat_of_nonneg h0, tr_rf]
  rcases ht with ⟨rfl, rfl⟩ | ⟨rfl, rfl⟩
  · rw [cell_arr hs rfl] at he
    refine va_aldq hC.1 hC.2.1 hC.2.2.2.2.2.2.2.2.1 hS.2.2.2.2.2.1 k 3 he rfl (in_I hi h0 h1) hd ?_
    show W p l en _ s m args below meth c H locs c0 s0 _ (F0 m (pc + 1) lsC (va_rf ((S.2.2 k ((Int32.ofInt i).toNatClampNeg : Nat)).map ad) :: st.map (tr ad ea)))
    rw [e]
    exact k2
  · rw [cell_arr hs rfl] at he
    refine va_aldq hC.1 hC.2.1 hC.2.2.2.2.2.2.2.2.1 hS.2.2.2.2.2.1 k 4 he rfl (in_I hi h0 h1) hd ?_
    show W p l en _ s m args below meth c H locs c0 s0 _ (F0 m (pc + 1) lsC (va_rf ((S.2.2 k ((Int32.ofInt i).toNatClampNeg : Nat)).map ad) :: st.map (tr ad ea)))
    rw [e]
    exact k2
theorem G_alen {k len : Nat} (hd : decode μ.2.1 pc = .ok (.arraylength, 1)) (hs : S.2.1 k = (0, len)) (hl : iR (len : Int)) (kk : G l μ Φ c0 s0 S (pc+1) ls (ai (len : Int) :: st) v) : G l μ Φ c0 s0 S (pc) ls (ar (some k) :: st) v := by
  intro p en s m args below meth c H locs D T ea A ad ad0 n0 lsC hC hS
  have hk : k < S.1 := hS.top
  have he := wl_get (T := T) (ad := ad) (v := v) hk
  rw [cell_arr hs rfl] at he
  exact va_alen hC.1 hC.2.1 hC.2.2.2.2.2.2.2.2.1 hS.2.2.2.2.2.1 k 0 he (ty := .int) rfl (v := Int32.ofInt (len : Int)) (Int32.ofInt_eq_ofNat).symm hd (kk p en s m args below meth c _ _ D T ea A _ ad0 n0 _ hC (hS.stk fun h => RAs_cons.mpr ⟨hl, (RAs_cons.mp h).2⟩))
end GH
end
section
def acat (a : AV) : Nat := match a with
  | .inr (.inr (.inl _)) => 2
  | _ => 1
theorem acat_tr {ad ea : Nat → Nat} (a : AV) : (tr ad ea a).category = acat a := by
  match a with
  | .inl none => rfl
  | .inl (some _) => rfl
  | .inr (.inl _) => rfl
  | .inr (.inr (.inl _)) => rfl
  | .inr (.inr (.inr _)) => rfl
theorem acat_sum {ad ea : Nat → Nat} (st : List AV) : ((st.map (tr ad ea)).map fun v => v.category).sum = (st.map acat).sum := by
  rw [List.map_map]
  congr 1
  exact List.map_congr_left fun a _ => acat_tr a
theorem RA_mono {n n2 : Nat} (h : n ≤ n2) {a : AV} (ha : RA n a) : RA n2 a := by
  match a, ha with
  | .inl none, _ => trivial
  | .inl (some _), ha => exact Nat.lt_of_lt_of_le ha h
  | .inr (.inl _), ha => exact ha
  | .inr (.inr (.inl _)), ha => exact ha
  | .inr (.inr (.inr _)), _ => trivial
theorem tr_agree {n : Nat} {ad ad2 ea : Nat → Nat} (h : ∀ k, k < n → ad2 k = ad k) {a : AV} (ha : RA n a) : tr ad2 ea a = tr ad ea a := by
  match a, ha with
  | .inl none, _ => rfl
  | .inl (some k), ha => exact congrArg Value.ref (h k ha)
  | .inr (.inl _), _ => rfl
  | .inr (.inr (.inl _)), _ => rfl
  | .inr (.inr (.inr _)), _ => rfl
def largs (as : List AV) : LL := as.flatMap fun a => match a with
  | .inr (.inr (.inl _)) => [some a, none]
  | _ => [some a]
def slo (ad ea : Nat → Nat) (o : Option AV) : Slot := match o with
  | some a => .val (tr ad ea a)
  | none => .second
theorem largs_sl {ad ea : Nat → Nat} (as : List AV) : lg_sl (as.map (tr ad ea)) = (largs as).map (slo ad ea) := by
  induction as with
  | nil => rfl
  | cons a as ih =>
    have e1 : lg_sl ((a :: as).map (tr ad ea)) = lg_sl [tr ad ea a] ++ lg_sl (as.map (tr ad ea)) := by simp [lg_sl]
    have e2 : largs (a :: as) = largs [a] ++ largs as := by simp [largs]
    rw [e1, e2, List.map_append, ih]
    congr 1
    match a with
    | .inl none => rfl
    | .inl (some _) => rfl
    | .inr (.inl _) => rfl
    | .inr (.inr (.inl _)) => rfl
    | .inr (.inr (.inr _)) => rfl
theorem LR_entry {ad ea : Nat → Nat} {as : List AV} {maxL : Nat} {ls : LL} (hL : (largs as).length ≤ maxL) (hls : largs as ++ List.replicate (maxL - (largs as).length) none = ls) : LR ad ea maxL ((lg_sl (as.map (tr ad ea)) ++ List.replicate (maxL - (lg_sl (as.map (tr ad ea))).length) Slot.unset).toArray) ls := by
  subst hls
  have hlen : (lg_sl (as.map (tr ad ea))).length = (largs as).length := by rw [largs_sl, List.length_map]
  have h0 := lv_entry (as.map (tr ad ea)) (n := maxL) (by rw [hlen]; exact hL)
  refine ⟨h0.1, h0.2.1, fun i a hi => ?_⟩
  rw [List.getElem?_append] at hi
  split at hi
  · rename_i h1
    rw [List.getElem?_toArray, List.getElem?_append_left (by rw [hlen]; exact h1), largs_sl, List.getElem?_map, hi]
    rfl
  · rw [List.getElem?_replicate] at hi
    split at hi <;> cases hi
theorem RAl_args {n : Nat} {as : List AV} {k : Nat} (h : RAs n as) : RAl n (largs as ++ List.replicate k none) := by
  intro i a hi
  have hm : some a ∈ largs as ++ List.replicate k none := List.mem_of_getElem? hi
  rcases List.mem_append.mp hm with h1 | h1
  · obtain ⟨b, hb, hc⟩ := List.mem_flatMap.mp h1
    have : a = b := by
      match b, hc with
      | .inl none, hc => simpa using hc
      | .inl (some _), hc => simpa using hc
      | .inr (.inl _), hc => simpa using hc
      | .inr (.inr (.inl _)), hc => simpa using hc
      | .inr (.inr (.inr _)), hc => simpa using hc
    rw [this]
    exact h b hb
  · have := List.eq_of_mem_replicate h1
    cases this
section GC
variable {l : Launch} {μ : MU} {Φ : Option AV → AS → VV → Prop} {c0 s0 : Nat} {S : AS} {pc : Nat} {ls : LL} {st : List AV} {v : VV}
theorem Ct_of_G {y : MethodName} {cc : ByteArray} {ret : Option FieldType} {maxL d mc ms : Nat} {as : List AV} (ls : LL) (hp : plainName y.cls = true) (hL : Nat.ble (largs as).length maxL = true) (hls : largs as ++ List.replicate (maxL - (largs as).length) none = ls) (k : G l (y, cc, ret, maxL, d, mc, ms, none) Φ 0 0 S 0 ls [] v) : Ct l y cc ret maxL d mc ms as S v Φ := by
  intro hA hW hV D T ea ad sz
  have hL : (largs as).length ≤ maxL := Nat.le_of_ble_eq_true hL
  refine Met.ofW (cc := cc) (maxL := maxL) (ret := ret) hp rfl ?_
  intro p en s m args below meth c s1 B hml hv
  obtain ⟨rfl, hsz, hP, hK, hD0, hE⟩ := hv
  subst hsz
  have hts := atoms_spec (ws := Cond.code y cc maxL ret :: lw_good) B.pre
  rw [lg_entry_eq]
  exact k p en s m _ below meth c s.heap [] D T ea (va_A (wl T ad S v) s.heap.size) ad ad S.1 _ ⟨B.exec, B.bytes, hml, B.returns, B.notSynchronized, (name_of_methodNamed B.named B.method).1, findClass_of_methodNamed B.named, fun w h => hts w (List.mem_cons_of_mem _ h), hK, ⟨hE, trivial⟩, fun q h => Or.inr h⟩ ⟨⟨Nat.le_refl _, fun _ _ => rfl⟩, hW, hV, (fun _ h => by cases h), hls ▸ RAl_args hA, hP, hD0.self, va_S.rf, LR_entry hL hls⟩
theorem G_iret {x : Int} (hd : decode μ.2.1 pc = .ok (.ireturn, 1)) (hr : μ.2.2.1 = some .int) (h1 : Nat.ble c0 μ.2.2.2.2.2.1 = true) (h2 : Nat.ble s0 μ.2.2.2.2.2.2.1 = true) (hq : Φ (some (ai x)) S v) : G l μ Φ c0 s0 S pc ls [ai x] v := by
  intro p en s m args below meth c H locs D T ea A ad ad0 n0 lsC hC hS
  refine W.widen (k := μ.2.2.2.2.2.1) (n := μ.2.2.2.2.2.2.1) (Nat.le_of_ble_eq_true h1) (Nat.le_of_ble_eq_true h2) ?_
  exact W.iret hC.1 hC.2.1 (hC.2.2.2.1.trans hr) (fun t ht hW => ⟨⟨some (ai x), S, v, ad, rfl, hq, hS.1.1, hS.1.2, (fun a ha => by cases ha; exact hS.top), hS.2.1, hS.vr, by rw [ht]; exact hS.2.2.2.2.2.1, va_K.moved hW.alike hC.2.2.2.2.2.2.2.2.1, hS.2.2.2.2.2.2.1⟩, hS.2.2.2.2.2.2.2.1.F ht⟩) hS.2.2.2.2.2.2.2.1.2.2 hd hC.2.2.2.2.1
theorem G_zret {x : Int} (hd : decode μ.2.1 pc = .ok (.ireturn, 1)) (hr : μ.2.2.1 = some .boolean) (hz : x = 0 ∨ x = 1) (h1 : Nat.ble c0 μ.2.2.2.2.2.1 = true) (h2 : Nat.ble s0 μ.2.2.2.2.2.2.1 = true) (hq : Φ (some (ai x)) S v) : G l μ Φ c0 s0 S pc ls [ai x] v := by
  intro p en s m args below meth c H locs D T ea A ad ad0 n0 lsC hC hS
  refine W.widen (k := μ.2.2.2.2.2.1) (n := μ.2.2.2.2.2.2.1) (Nat.le_of_ble_eq_true h1) (Nat.le_of_ble_eq_true h2) ?_
  exact W.zret hC.1 hC.2.1 (hC.2.2.2.1.trans hr) (by rcases hz with rfl | rfl <;> rfl) (fun t ht hW => ⟨⟨some (ai x), S, v, ad, rfl, hq, hS.1.1, hS.1.2, (fun a ha => by cases ha; exact hS.top), hS.2.1, hS.vr, by rw [ht]; exact hS.2.2.2.2.2.1, va_K.moved hW.alike hC.2.2.2.2.2.2.2.2.1, hS.2.2.2.2.2.2.1⟩, hS.2.2.2.2.2.2.2.1.F ht⟩) hS.2.2.2.2.2.2.2.1.2.2 hd hC.2.2.2.2.1
theorem G_vret  (hd : decode μ.2.1 pc = .ok (.return_, 1)) (hr : μ.2.2.1 = none) (h1 : Nat.ble c0 μ.2.2.2.2.2.1 = true) (h2 : Nat.ble s0 μ.2.2.2.2.2.2.1 = true) (hq : Φ (none) S v) : G l μ Φ c0 s0 S pc ls [] v := by
  intro p en s m args below meth c H locs D T ea A ad ad0 n0 lsC hC hS
  refine W.widen (k := μ.2.2.2.2.2.1) (n := μ.2.2.2.2.2.2.1) (Nat.le_of_ble_eq_true h1) (Nat.le_of_ble_eq_true h2) ?_
  exact W.vret hC.1 hC.2.1 (hC.2.2.2.1.trans hr) (fun t ht hW => ⟨⟨none, S, v, ad, rfl, hq, hS.1.1, hS.1.2, (fun a ha => by cases ha), hS.2.1, hS.vr, by rw [ht]; exact hS.2.2.2.2.2.1, va_K.moved hW.alike hC.2.2.2.2.2.2.2.2.1, hS.2.2.2.2.2.2.1⟩, hS.2.2.2.2.2.2.2.1.F ht⟩) hS.2.2.2.2.2.2.2.1.2.2 hd hC.2.2.2.2.1
theorem G_lret {x : Int} (hd : decode μ.2.1 pc = .ok (.lreturn, 1)) (hr : μ.2.2.1 = some .long) (h1 : Nat.ble c0 μ.2.2.2.2.2.1 = true) (h2 : Nat.ble s0 μ.2.2.2.2.2.2.1 = true) (hq : Φ (some (al x)) S v) : G l μ Φ c0 s0 S pc ls [al x] v := by
  intro p en s m args below meth c H locs D T ea A ad ad0 n0 lsC hC hS
  refine W.widen (k := μ.2.2.2.2.2.1) (n := μ.2.2.2.2.2.2.1) (Nat.le_of_ble_eq_true h1) (Nat.le_of_ble_eq_true h2) ?_
  exact W.lret hC.1 hC.2.1 (hC.2.2.2.1.trans hr) (fun t ht hW => ⟨⟨some (al x), S, v, ad, rfl, hq, hS.1.1, hS.1.2, (fun a ha => by cases ha; exact hS.top), hS.2.1, hS.vr, by rw [ht]; exact hS.2.2.2.2.2.1, va_K.moved hW.alike hC.2.2.2.2.2.2.2.2.1, hS.2.2.2.2.2.2.1⟩, hS.2.2.2.2.2.2.2.1.F ht⟩) hS.2.2.2.2.2.2.2.1.2.2 hd hC.2.2.2.2.1
theorem G_aret {x : Option Nat} {rt : FieldType} (hd : decode μ.2.1 pc = .ok (.areturn, 1)) (hr : μ.2.2.1 = some rt) (hrt : (∃ n, rt = .object n) ∨ ∃ t, rt = .array t) (h1 : Nat.ble c0 μ.2.2.2.2.2.1 = true) (h2 : Nat.ble s0 μ.2.2.2.2.2.2.1 = true) (hq : Φ (some (ar x)) S v) : G l μ Φ c0 s0 S pc ls [ar x] v := by
  intro p en s m args below meth c H locs D T ea A ad ad0 n0 lsC hC hS
  refine W.widen (k := μ.2.2.2.2.2.1) (n := μ.2.2.2.2.2.2.1) (Nat.le_of_ble_eq_true h1) (Nat.le_of_ble_eq_true h2) ?_
  exact W.aret hC.1 hC.2.1 (hC.2.2.2.1.trans hr) hrt (by cases x; exact Or.inl rfl; exact Or.inr ⟨_, rfl⟩) (fun t ht hW => ⟨⟨some (ar x), S, v, ad, rfl, hq, hS.1.1, hS.1.2, (fun a ha => by cases ha; exact hS.top), hS.2.1, hS.vr, by rw [ht]; exact hS.2.2.2.2.2.1, va_K.moved hW.alike hC.2.2.2.2.2.2.2.2.1, hS.2.2.2.2.2.2.1⟩, hS.2.2.2.2.2.2.2.1.F ht⟩) hS.2.2.2.2.2.2.2.1.2.2 hd hC.2.2.2.2.1
/-- behind a call -/
theorem call_QQ {p : Program} {en : Env} {s : State} {m : MethodId} {args : Array Value} {below : List Frame} {meth : Method} {c : Code} {H : Heap} {locs : List Loc} {D : va_G} {T : Nat → ClassId} {ea : Nat → Nat} {A : Nat → Prop} {ad ad0 : Nat → Nat} {n0 : Nat} {lsC : Array Slot} {stk : List AV} {Φ2 : Option AV → AS → VV → Prop} {mc2 ms2 : Nat} {a : Array Value} (hC : Cx l μ p s m args meth c D T ea A) (hS : Sx μ s D T ea A ad0 n0 S ls stk v H locs ad lsC) (hst : RAs S.1 st)
    (hr : va_Run p l en (rmd μ.2.2.2.2.1 μ.2.2.2.2.2.1 μ.2.2.2.2.2.2.1) s m args below meth c H locs c0 s0 mc2 ms2 (F0 m pc lsC (stk.map (tr ad ea))) (st.map (tr ad ea)) (QQ D T ea (va_A (wl T ad S v) H.size) ad S.1 Φ2 a) (va_A (wl T ad S v) H.size))
    (kk : ∀ (r : Option AV) (S2 : AS) (v2 : VV), Φ2 r S2 v2 → G l μ Φ (c0 + mc2) (s0 + ms2) S2 (pc + 3) ls (r.toList ++ st) v2) :
    W p l en (rmd μ.2.2.2.2.1 μ.2.2.2.2.2.1 μ.2.2.2.2.2.2.1) s m args below meth c H locs c0 s0 (MQ below (QQ D T ea A ad0 n0 Φ) args s μ.2.2.2.2.2.1 μ.2.2.2.2.2.2.1 A) (F0 m pc lsC (stk.map (tr ad ea))) := by
  intro Tt hT X
  obtain ⟨vv, st0, t, T', L, h0, X', hL, e1, e2, ⟨⟨r, S2, v2, ad2, hv, hq, hn, had, hra, hwr, hrv, hP2, hK2, hD2⟩, hz, hk⟩, stp⟩ := hr Tt hT X
  have hA := hC.2.2.2.2.2.2.2.2.2.2
  have hD := hS.2.2.2.2.2.2.1
  have hVS := hS.2.2.2.2.2.2.2.1
  have hF : ∀ q, va_A (wl T ad S v) H.size q → A q := by
    intro q h
    rcases h with ⟨k, e, h⟩ | h
    · exact hD.2 k _ h
    · exact hA q (Nat.le_trans hVS.1 h)
  have hvv : vv = r.map (tr ad2 ea) := by cases hv; rfl
  subst hvv
  rw [h0] at hz hk
  have hst2 : st.map (tr ad2 ea) = st.map (tr ad ea) := List.map_congr_left fun b hb => tr_agree had (hst b hb)
  have hlr := hS.lr
  have k2 := kk r S2 v2 hq p en s m args below meth c T'.heap (locs ++ L) D T ea A ad2 ad0 n0 lsC hC ⟨⟨Nat.le_trans hS.1.1 hn, fun k h => (had k (Nat.lt_of_lt_of_le h hS.1.1)).trans (hS.1.2 k h)⟩, hwr, hrv, ?_, fun i b hb => RA_mono hn (hS.2.2.2.2.1 i b hb), by rw [e1]; exact hP2, ⟨hD2.1, fun k q h => hF _ (hD2.2 k q h)⟩, ?_, ⟨hlr.1, hlr.2.1, fun i b hb => by rw [tr_agree had (hS.2.2.2.2.1 i b hb)]; exact hlr.2.2 i b hb⟩⟩
  · obtain ⟨t2, a1, b1⟩ := k2 T' rfl X'
    refine ⟨t2, stp t2 ?_, b1⟩
    have e : (r.toList ++ st).map (tr ad2 ea) = (r.map (tr ad2 ea)).toList ++ st.map (tr ad ea) := by
      rw [List.map_append, hst2]
      cases r <;> rfl
    rw [e] at a1
    exact a1
  · intro b hb
    rcases List.mem_append.mp hb with h | h
    · cases r with
      | none => cases h
      | some w =>
        have : b = w := by simpa using h
        rw [this]
        exact hra w rfl
    · exact RA_mono hn (hst b h)
  · exact ⟨Nat.le_trans hVS.1 (by rw [e1]; exact hz), fun q h1 h2 => by rw [e1, hk q (Nat.lt_of_lt_of_le h1 hVS.1) (fun z => h2 (hF q z))]; exact hVS.2.1 q h1 h2, fun q hq => by
      rcases List.mem_append.mp hq with h | h
      · exact hVS.2.2 q h
      · exact hF _ (hL q h)⟩
theorem pre_Pc {D : va_G} {T : Nat → ClassId} {ea ad : Nat → Nat} {vs : List Value} {sz : Nat} : FrameBlind (va_Pc vs (fun U => U.heap.size = sz ∧ va_P D classes (wl T ad S v) U.heap ∧ va_K D classes (tyl T) U ∧ va_D (fun _ => True) (wl T ad S v) ∧ EXA ea (va_A (wl T ad S v) sz) U)) := by
  intro a U f mk q
  obtain ⟨q0, q1, q2, q3, q4, q5⟩ := q
  exact ⟨q0, q1, q2, va_K.moved (u := U) (U := U.calling f mk a) (Vm.Alike.refl U.vm) q3, q4, q5.to (U := U.calling f mk a) (State.WarmedH.refl U) (fun _ _ _ => rfl) (fun _ h => h)⟩
theorem pre_in {p : Program} {s : State} {m : MethodId} {args : Array Value} {meth : Method} {c : Code} {H : Heap} {locs : List Loc} {D : va_G} {T : Nat → ClassId} {ea : Nat → Nat} {A : Nat → Prop} {ad ad0 : Nat → Nat} {n0 : Nat} {lsC : Array Slot} {stk : List AV} {vs : List Value} (hC : Cx l μ p s m args meth c D T ea A) (hS : Sx μ s D T ea A ad0 n0 S ls stk v H locs ad lsC) : ∀ U : State, U.heap = H → s.WarmedH U.vm → va_Pc vs (fun U => U.heap.size = H.size ∧ va_P D classes (wl T ad S v) U.heap ∧ va_K D classes (tyl T) U ∧ va_D (fun _ => True) (wl T ad S v) ∧ EXA ea (va_A (wl T ad S v) H.size) U) vs.toArray U := by
  intro U hU hW
  have hA := hC.2.2.2.2.2.2.2.2.2.2
  have hD := hS.2.2.2.2.2.2.1
  have hVS := hS.2.2.2.2.2.2.2.1
  refine ⟨rfl, by rw [hU], by rw [hU]; exact hS.2.2.2.2.2.1, va_K.moved hW.alike hC.2.2.2.2.2.2.2.2.1, hD.weaken (fun _ _ _ _ => trivial), (hC.2.2.2.2.2.2.2.2.2.1.1).to hW (fun q h1 h2 => by rw [hU]; exact hVS.2.1 q h1 h2) ?_⟩
  intro q h
  rcases h with ⟨k, e, h⟩ | h
  · exact hD.2 k _ h
  · exact hA q (Nat.le_trans hVS.1 h)
def MV (own : String) (idx : Nat) (y : MethodName) (cc : ByteArray) (ret : Option FieldType) (maxL n : Nat) : Prop := (Cond.methodLink own idx y ∈ lw_good ∧ Cond.instanceMethod y ∈ lw_good ∧ Cond.selects y.cls y y ∈ lw_good ∧ Cond.initialized y.cls ∈ lw_good ∧ Cond.code y cc maxL ret ∈ lw_good) ∧ (y.cls ≠ "java/lang/invoke/MethodHandle" ∧ y.cls ≠ "java/lang/invoke/VarHandle" ∧ (parseMethodDescriptor y.desc).map (fun d => d.parameters.length) = some n)
def MS (own : String) (idx : Nat) (y : MethodName) (cc : ByteArray) (ret : Option FieldType) (maxL n : Nat) : Prop := (Cond.methodLink own idx y ∈ lw_good ∧ Cond.static y ∈ lw_good ∧ Cond.initialized y.cls ∈ lw_good ∧ Cond.code y cc maxL ret ∈ lw_good) ∧ (y.cls ≠ "java/lang/invoke/MethodHandle" ∧ y.cls ≠ "java/lang/invoke/VarHandle" ∧ (parseMethodDescriptor y.desc).map (fun d => d.parameters.length) = some n)
def MI (own : String) (idx : Nat) (y : MethodName) (cc : ByteArray) (maxL n : Nat) : Prop := (Cond.methodLink own idx y ∈ lw_good ∧ Cond.instanceMethod y ∈ lw_good ∧ Cond.initialized y.cls ∈ lw_good ∧ Cond.code y cc maxL none ∈ lw_good) ∧ y.name = "<init>" ∧ (y.cls ≠ "java/lang/invoke/MethodHandle" ∧ y.cls ≠ "java/lang/invoke/VarHandle" ∧ (parseMethodDescriptor y.desc).map (fun d => d.parameters.length) = some n)
def MIN (own : String) (idx : Nat) (y : MethodName) (cc : ByteArray) (maxL n : Nat) : Prop := (Cond.methodLinkNest own idx y RX5 ∈ nestw ∧ Cond.instanceMethod y ∈ lw_good ∧ Cond.initialized y.cls ∈ lw_good ∧ Cond.code y cc maxL none ∈ lw_good) ∧ y.name = "<init>" ∧ (y.cls ≠ "java/lang/invoke/MethodHandle" ∧ y.cls ≠ "java/lang/invoke/VarHandle" ∧ (parseMethodDescriptor y.desc).map (fun d => d.parameters.length) = some n)
theorem good_cons {w : Cond} {ws : List Cond} (h : w ∈ lw_good) (hs : GoodIn lw_good ws) : GoodIn lw_good (w :: ws) := fun x hx => (List.mem_cons.mp hx).elim (fun e => by rw [e]; exact lw_good_in w h) (hs x)
theorem G_callV {idx : Nat} {y : MethodName} {cc : ByteArray} {ret : Option FieldType} {maxL d2 mc2 ms2 k ci : Nat} {as stk : List AV} {Φ2 : Option AV → AS → VV → Prop} (hd : decode μ.2.1 pc = .ok (.invokevirtual idx, 3)) (hm : MV μ.1.cls idx y cc ret maxL as.length) (hs : (S.2.1 k).1 = 16 + ci) (hci : ci < 7) (hR : Rof ci = y.cls) (h2 : Ct l y cc ret maxL d2 mc2 ms2 (ar (some k) :: as) S v Φ2) (hst : stk = as.reverse ++ ar (some k) :: st) (hdp : d2 + 1 ≤ μ.2.2.2.2.1) (hmx : Nat.ble maxL 18 = true) (hrm : Nat.ble (st.map acat).sum 8 = true) (hcl : c0 + mc2 ≤ μ.2.2.2.2.2.1) (hsl : s0 + ms2 ≤ μ.2.2.2.2.2.2.1) (kk : ∀ (r : Option AV) (S2 : AS) (v2 : VV), Φ2 r S2 v2 → G l μ Φ (c0 + mc2) (s0 + ms2) S2 (pc + 3) ls (r.toList ++ st) v2) : G l μ Φ c0 s0 S pc ls stk v := by
  intro p en s m args below meth c H locs D T ea A ad ad0 n0 lsC hC hS
  subst hst
  have hmx := Nat.le_of_ble_eq_true hmx
  have hrm := Nat.le_of_ble_eq_true hrm
  have hall : RAs S.1 (as.reverse ++ ar (some k) :: st) := hS.2.2.2.1
  have hst9 : RAs S.1 st := fun b hb => hall b (List.mem_append_right _ (List.mem_cons_of_mem _ hb))
  have has : RAs S.1 (ar (some k) :: as) := RAs_cons.mpr ⟨hall _ (List.mem_append_right _ List.mem_cons_self), fun b hb => hall b (List.mem_append_left _ (List.mem_reverse.mpr hb))⟩
  have hts := hC.2.2.2.2.2.2.2.1
  refine call_QQ hC hS hst9 (va_runV (As := as.map (tr ad ea)) (nL := μ.2.2.2.1) (Ts := lw_good) (own := μ.1.cls) ⟨hC.1, hC.2.1, hC.2.2.1, hC.2.2.2.2.2.2.1, hts⟩ (h2 has hS.2.1 hS.vr D T ea ad H.size) (cwV as.length hts (good_cons hm.1.1 (good_cons hm.1.2.1 (good_cons hm.1.2.2.1 (good_cons hm.1.2.2.2.1 (good_cons hm.1.2.2.2.2 lw_good_in))))) rfl rfl rfl ⟨rfl, hm.2⟩ ⟨hdp, by show 8 + (maxL + 11) + (37 * d2 + 11) ≤ 37 * _ + 11; have := Nat.mul_le_mul_left 37 hdp; omega⟩) ⟨pre_Pc, by have hk : k < S.1 := (RAs_cons.mp has).1; have he := wl_get (T := T) (ad := ad) (v := v) hk; rw [cell_obj hs] at he; rw [← hR]; exact va_recv hC.2.2.2.2.2.2.2.2.1 hS.2.2.2.2.2.1 (cls_at hci) he, pre_in (vs := (ar (some k) :: as).map (tr ad ea)) hC hS⟩ rfl (by rw [List.length_map]) hS.lr.1 ?_ (by rw [acat_sum]; show 2 * 0 + _ ≤ _; omega) hd ⟨hcl, hsl⟩) kk
  show (as.reverse ++ ar (some k) :: st).map (tr ad ea) = _
  rw [List.map_append, List.map_reverse]
  rfl
theorem G_callS {idx : Nat} {y : MethodName} {cc : ByteArray} {ret : Option FieldType} {maxL d2 mc2 ms2 : Nat} {as stk : List AV} {Φ2 : Option AV → AS → VV → Prop} (hd : decode μ.2.1 pc = .ok (.invokestatic idx, 3)) (hm : MS μ.1.cls idx y cc ret maxL as.length) (h2 : Ct l y cc ret maxL d2 mc2 ms2 (as) S v Φ2) (hst : stk = as.reverse ++ st) (hdp : d2 + 1 ≤ μ.2.2.2.2.1) (hmx : Nat.ble maxL 18 = true) (hrm : Nat.ble (st.map acat).sum 8 = true) (hcl : c0 + mc2 ≤ μ.2.2.2.2.2.1) (hsl : s0 + ms2 ≤ μ.2.2.2.2.2.2.1) (kk : ∀ (r : Option AV) (S2 : AS) (v2 : VV), Φ2 r S2 v2 → G l μ Φ (c0 + mc2) (s0 + ms2) S2 (pc + 3) ls (r.toList ++ st) v2) : G l μ Φ c0 s0 S pc ls stk v := by
  intro p en s m args below meth c H locs D T ea A ad ad0 n0 lsC hC hS
  subst hst
  have hmx := Nat.le_of_ble_eq_true hmx
  have hrm := Nat.le_of_ble_eq_true hrm
  have hall : RAs S.1 (as.reverse ++ st) := hS.2.2.2.1
  have hst9 : RAs S.1 st := fun b hb => hall b (List.mem_append_right _ (hb))
  have has : RAs S.1 (as) := fun b hb => hall b (List.mem_append_left _ (List.mem_reverse.mpr hb))
  have hts := hC.2.2.2.2.2.2.2.1
  refine call_QQ hC hS hst9 (va_runS (As := as.map (tr ad ea)) (nL := μ.2.2.2.1) (Ts := lw_good) (own := μ.1.cls) ⟨hC.1, hC.2.1, hC.2.2.1, hC.2.2.2.2.2.2.1, hts⟩ (h2 has hS.2.1 hS.vr D T ea ad H.size) (va_cwS as.length hts (good_cons hm.1.1 (good_cons hm.1.2.1 (good_cons hm.1.2.2.1 (good_cons hm.1.2.2.2 lw_good_in)))) rfl rfl rfl hm.2 ⟨hdp, by show 8 + (maxL + 11) + (37 * d2 + 11) ≤ 37 * _ + 11; have := Nat.mul_le_mul_left 37 hdp; omega⟩) ⟨pre_Pc, pre_in (vs := as.map (tr ad ea)) hC hS⟩ rfl (by rw [List.length_map]) hS.lr.1 ?_ (by rw [acat_sum]; show 2 * 0 + _ ≤ _; omega) hd ⟨hcl, hsl⟩) kk
  show (as.reverse ++ st).map (tr ad ea) = _
  rw [List.map_append, List.map_reverse]
theorem G_callI {idx : Nat} {y : MethodName} {cc : ByteArray} {maxL d2 mc2 ms2 k : Nat} {as stk : List AV} {Φ2 : Option AV → AS → VV → Prop} (hd : decode μ.2.1 pc = .ok (.invokespecial idx, 3)) (hm : MI μ.1.cls idx y cc maxL as.length) (h2 : Ct l y cc none maxL d2 mc2 ms2 (ar (some k) :: as) S v Φ2) (hst : stk = as.reverse ++ ar (some k) :: st) (hdp : d2 + 1 ≤ μ.2.2.2.2.1) (hmx : Nat.ble maxL 18 = true) (hrm : Nat.ble (st.map acat).sum 8 = true) (hcl : c0 + mc2 ≤ μ.2.2.2.2.2.1) (hsl : s0 + ms2 ≤ μ.2.2.2.2.2.2.1) (kk : ∀ (r : Option AV) (S2 : AS) (v2 : VV), Φ2 r S2 v2 → G l μ Φ (c0 + mc2) (s0 + ms2) S2 (pc + 3) ls (r.toList ++ st) v2) : G l μ Φ c0 s0 S pc ls stk v := by
  intro p en s m args below meth c H locs D T ea A ad ad0 n0 lsC hC hS
  subst hst
  have hmx := Nat.le_of_ble_eq_true hmx
  have hrm := Nat.le_of_ble_eq_true hrm
  have hall : RAs S.1 (as.reverse ++ ar (some k) :: st) := hS.2.2.2.1
  have hst9 : RAs S.1 st := fun b hb => hall b (List.mem_append_right _ (List.mem_cons_of_mem _ hb))
  have has : RAs S.1 (ar (some k) :: as) := RAs_cons.mpr ⟨hall _ (List.mem_append_right _ List.mem_cons_self), fun b hb => hall b (List.mem_append_left _ (List.mem_reverse.mpr hb))⟩
  have hts := hC.2.2.2.2.2.2.2.1
  refine call_QQ hC hS hst9 (va_runI (As := as.map (tr ad ea)) (nL := μ.2.2.2.1) (Ts := lw_good) (own := μ.1.cls) ⟨hC.1, hC.2.1, hC.2.2.1, hC.2.2.2.2.2.2.1, hts⟩ (h2 has hS.2.1 hS.vr D T ea ad H.size) (cwI as.length hts (good_cons hm.1.2.2.2 lw_good_in) rfl rfl rfl (hts _ hm.1.2.2.1) (hts _ hm.1.1) (hts _ hm.1.2.1) hm.2.1 hm.2.2 ⟨hdp, by show 8 + (maxL + 11) + (37 * d2 + 11) ≤ 37 * _ + 11; have := Nat.mul_le_mul_left 37 hdp; omega⟩) ⟨pre_Pc, pre_in (vs := (ar (some k) :: as).map (tr ad ea)) hC hS⟩ rfl (by rw [List.length_map]) hS.lr.1 ?_ (by rw [acat_sum]; show 2 * 0 + _ ≤ _; omega) hd ⟨hcl, hsl⟩) kk
  show (as.reverse ++ ar (some k) :: st).map (tr ad ea) = _
  rw [List.map_append, List.map_reverse]
  rfl
theorem G_callIN {idx : Nat} {y : MethodName} {cc : ByteArray} {maxL d2 mc2 ms2 k : Nat} {as stk : List AV} {Φ2 : Option AV → AS → VV → Prop} (hd : decode μ.2.1 pc = .ok (.invokespecial idx, 3)) (hm : MIN μ.1.cls idx y cc maxL as.length) (h2 : Ct l y cc none maxL d2 mc2 ms2 (ar (some k) :: as) S v Φ2) (hst : stk = as.reverse ++ ar (some k) :: st) (hdp : d2 + 1 ≤ μ.2.2.2.2.1) (hmx : Nat.ble maxL 18 = true) (hrm : Nat.ble (st.map acat).sum 8 = true) (hcl : c0 + mc2 ≤ μ.2.2.2.2.2.1) (hsl : s0 + ms2 ≤ μ.2.2.2.2.2.2.1) (kk : ∀ (r : Option AV) (S2 : AS) (v2 : VV), Φ2 r S2 v2 → G l μ Φ (c0 + mc2) (s0 + ms2) S2 (pc + 3) ls (r.toList ++ st) v2) : G l μ Φ c0 s0 S pc ls stk v := by
  intro p en s m args below meth c H locs D T ea A ad ad0 n0 lsC hC hS
  subst hst
  have hmx := Nat.le_of_ble_eq_true hmx
  have hrm := Nat.le_of_ble_eq_true hrm
  have hall : RAs S.1 (as.reverse ++ ar (some k) :: st) := hS.2.2.2.1
  have hst9 : RAs S.1 st := fun b hb => hall b (List.mem_append_right _ (List.mem_cons_of_mem _ hb))
  have has : RAs S.1 (ar (some k) :: as) := RAs_cons.mpr ⟨hall _ (List.mem_append_right _ List.mem_cons_self), fun b hb => hall b (List.mem_append_left _ (List.mem_reverse.mpr hb))⟩
  have hts := hC.2.2.2.2.2.2.2.1
  refine call_QQ hC hS hst9 (va_runIN (As := as.map (tr ad ea)) (nL := μ.2.2.2.1) (Ts := lw_good) (own := μ.1.cls) ⟨hC.1, hC.2.1, hC.2.2.1, hC.2.2.2.2.2.2.1, hts⟩ (h2 has hS.2.1 hS.vr D T ea ad H.size) ⟨va_cnB as.length hts (good_cons hm.1.2.2.2 lw_good_in) rfl rfl rfl (hC.2.2.2.2.2.2.2.2.2.1.1.2.2.2 _ hm.1.1) (hts _ hm.1.2.2.1) hm.2.2 ⟨hdp, by show 8 + (maxL + 11) + (37 * d2 + 11) ≤ 37 * _ + 11; have := Nat.mul_le_mul_left 37 hdp; omega⟩, hm.2.1, hts _ hm.1.2.1⟩ ⟨pre_Pc, pre_in (vs := (ar (some k) :: as).map (tr ad ea)) hC hS⟩ rfl (by rw [List.length_map]) hS.lr.1 ?_ (by rw [acat_sum]; show 2 * 0 + _ ≤ _; omega) hd ⟨hcl, hsl⟩) kk
  show (as.reverse ++ ar (some k) :: st).map (tr ad ea) = _
  rw [List.map_append, List.map_reverse]
  rfl
end GC
end
section
theorem flX3_9 : FL RX3 9 3 0 := ⟨by decide, by decide, lg_mem 88 (by decide +kernel) rfl⟩
theorem flX3_13 : FL RX3 13 3 1 := ⟨by decide, by decide, lg_mem 89 (by decide +kernel) rfl⟩
theorem flX1_11 : FL RX1 11 1 0 := ⟨by decide, by decide, lg_mem 104 (by decide +kernel) rfl⟩
theorem flX1_15 : FL RX1 15 1 1 := ⟨by decide, by decide, lg_mem 105 (by decide +kernel) rfl⟩
theorem flX1_52 : FL RX1 52 1 2 := ⟨by decide, by decide, lg_mem 106 (by decide +kernel) rfl⟩
theorem flX1_77 : FL RX1 77 1 3 := ⟨by decide, by decide, lg_mem 107 (by decide +kernel) rfl⟩
theorem flX1_68 : FL RX1 68 1 4 := ⟨by decide, by decide, lg_mem 108 (by decide +kernel) rfl⟩
theorem flX1_21 : FL RX1 21 1 5 := ⟨by decide, by decide, lg_mem 109 (by decide +kernel) rfl⟩
theorem flX1_59 : FL RX1 59 1 6 := ⟨by decide, by decide, lg_mem 110 (by decide +kernel) rfl⟩
theorem flX0_7 : FL RX0 7 0 0 := ⟨by decide, by decide, lg_mem 136 (by decide +kernel) rfl⟩
theorem flX0_13 : FL RX0 13 0 1 := ⟨by decide, by decide, lg_mem 137 (by decide +kernel) rfl⟩
theorem flX0_16 : FL RX0 16 0 2 := ⟨by decide, by decide, lg_mem 138 (by decide +kernel) rfl⟩
theorem flX5_208 : FLN RX5 208 0 2 := ⟨by decide, by decide, by decide +kernel⟩
theorem flX0_19 : FL RX0 19 0 3 := ⟨by decide, by decide, lg_mem 140 (by decide +kernel) rfl⟩
theorem flX5_211 : FLN RX5 211 0 3 := ⟨by decide, by decide, by decide +kernel⟩
theorem flX2_9 : FL RX2 9 2 0 := ⟨by decide, by decide, lg_mem 157 (by decide +kernel) rfl⟩
theorem flX2_15 : FL RX2 15 2 1 := ⟨by decide, by decide, lg_mem 158 (by decide +kernel) rfl⟩
theorem flX2_18 : FL RX2 18 2 2 := ⟨by decide, by decide, lg_mem 159 (by decide +kernel) rfl⟩
theorem flX2_21 : FL RX2 21 2 3 := ⟨by decide, by decide, lg_mem 160 (by decide +kernel) rfl⟩
theorem flX2_24 : FL RX2 24 2 4 := ⟨by decide, by decide, lg_mem 161 (by decide +kernel) rfl⟩
theorem flX2_27 : FL RX2 27 2 5 := ⟨by decide, by decide, lg_mem 162 (by decide +kernel) rfl⟩
theorem flX2_30 : FL RX2 30 2 6 := ⟨by decide, by decide, lg_mem 163 (by decide +kernel) rfl⟩
theorem flX2_33 : FL RX2 33 2 7 := ⟨by decide, by decide, lg_mem 164 (by decide +kernel) rfl⟩
theorem flX2_36 : FL RX2 36 2 8 := ⟨by decide, by decide, lg_mem 165 (by decide +kernel) rfl⟩
theorem flX2_49 : FL RX2 49 2 9 := ⟨by decide, by decide, lg_mem 166 (by decide +kernel) rfl⟩
theorem flX2_53 : FL RX2 53 2 10 := ⟨by decide, by decide, lg_mem 167 (by decide +kernel) rfl⟩
theorem flX2_56 : FL RX2 56 2 11 := ⟨by decide, by decide, lg_mem 168 (by decide +kernel) rfl⟩
theorem flX5_10 : FL RX5 10 5 0 := ⟨by decide, by decide, lg_mem 195 (by decide +kernel) rfl⟩
theorem flX5_19 : FL RX5 19 5 1 := ⟨by decide, by decide, lg_mem 196 (by decide +kernel) rfl⟩
theorem flX5_25 : FL RX5 25 5 2 := ⟨by decide, by decide, lg_mem 197 (by decide +kernel) rfl⟩
theorem flX5_31 : FL RX5 31 5 3 := ⟨by decide, by decide, lg_mem 198 (by decide +kernel) rfl⟩
theorem flX5_36 : FL RX5 36 5 4 := ⟨by decide, by decide, lg_mem 199 (by decide +kernel) rfl⟩
theorem flX5_43 : FL RX5 43 5 5 := ⟨by decide, by decide, lg_mem 200 (by decide +kernel) rfl⟩
theorem flX5_73 : FL RX5 73 5 6 := ⟨by decide, by decide, lg_mem 201 (by decide +kernel) rfl⟩
theorem flX5_101 : FL RX5 101 5 7 := ⟨by decide, by decide, lg_mem 202 (by decide +kernel) rfl⟩
theorem flX5_91 : FL RX5 91 5 8 := ⟨by decide, by decide, lg_mem 203 (by decide +kernel) rfl⟩
theorem flX5_118 : FL RX5 118 5 9 := ⟨by decide, by decide, lg_mem 204 (by decide +kernel) rfl⟩
theorem flX4_23 : FL RX4 23 4 0 := ⟨by decide, by decide, lg_mem 419 (by decide +kernel) rfl⟩
theorem flX0_22 : FL RX0 22 4 0 := ⟨by decide, by decide, lg_mem 420 (by decide +kernel) rfl⟩
theorem flX4_26 : FL RX4 26 4 1 := ⟨by decide, by decide, lg_mem 421 (by decide +kernel) rfl⟩
theorem flX0_31 : FL RX0 31 4 1 := ⟨by decide, by decide, lg_mem 422 (by decide +kernel) rfl⟩
theorem flX4_32 : FL RX4 32 4 2 := ⟨by decide, by decide, lg_mem 423 (by decide +kernel) rfl⟩
theorem flX5_205 : FL RX5 205 4 2 := ⟨by decide, by decide, lg_mem 424 (by decide +kernel) rfl⟩
theorem flX4_29 : FL RX4 29 4 3 := ⟨by decide, by decide, lg_mem 425 (by decide +kernel) rfl⟩
theorem flX5_173 : FL RX5 173 4 3 := ⟨by decide, by decide, lg_mem 426 (by decide +kernel) rfl⟩
theorem flX4_9 : FL RX4 9 4 4 := ⟨by decide, by decide, lg_mem 427 (by decide +kernel) rfl⟩
theorem flX5_94 : FL RX5 94 4 4 := ⟨by decide, by decide, lg_mem 428 (by decide +kernel) rfl⟩
theorem flX4_35 : FL RX4 35 4 5 := ⟨by decide, by decide, lg_mem 429 (by decide +kernel) rfl⟩
theorem flX5_176 : FL RX5 176 4 5 := ⟨by decide, by decide, lg_mem 430 (by decide +kernel) rfl⟩
theorem flX4_42 : FL RX4 42 4 6 := ⟨by decide, by decide, lg_mem 431 (by decide +kernel) rfl⟩
theorem flX5_179 : FL RX5 179 4 6 := ⟨by decide, by decide, lg_mem 432 (by decide +kernel) rfl⟩
theorem flX4_45 : FL RX4 45 4 7 := ⟨by decide, by decide, lg_mem 433 (by decide +kernel) rfl⟩
theorem flX5_182 : FL RX5 182 4 7 := ⟨by decide, by decide, lg_mem 434 (by decide +kernel) rfl⟩
theorem flX4_48 : FL RX4 48 4 8 := ⟨by decide, by decide, lg_mem 435 (by decide +kernel) rfl⟩
theorem flX5_185 : FL RX5 185 4 8 := ⟨by decide, by decide, lg_mem 436 (by decide +kernel) rfl⟩
theorem flX4_15 : FL RX4 15 4 9 := ⟨by decide, by decide, lg_mem 437 (by decide +kernel) rfl⟩
theorem flX4_19 : FL RX4 19 4 10 := ⟨by decide, by decide, lg_mem 438 (by decide +kernel) rfl⟩
theorem flX6_101 : FL RX6 101 6 0 := ⟨by decide, by decide, lg_mem 755 (by decide +kernel) rfl⟩
theorem flX6_7 : FL RX6 7 6 1 := ⟨by decide, by decide, lg_mem 756 (by decide +kernel) rfl⟩
theorem flX6_105 : FL RX6 105 6 2 := ⟨by decide, by decide, lg_mem 757 (by decide +kernel) rfl⟩
theorem flX6_13 : FL RX6 13 6 3 := ⟨by decide, by decide, lg_mem 758 (by decide +kernel) rfl⟩
theorem flX6_16 : FL RX6 16 6 4 := ⟨by decide, by decide, lg_mem 759 (by decide +kernel) rfl⟩
theorem flX6_19 : FL RX6 19 6 5 := ⟨by decide, by decide, lg_mem 760 (by decide +kernel) rfl⟩
theorem flX6_22 : FL RX6 22 6 6 := ⟨by decide, by decide, lg_mem 761 (by decide +kernel) rfl⟩
theorem flX6_25 : FL RX6 25 6 7 := ⟨by decide, by decide, lg_mem 762 (by decide +kernel) rfl⟩
theorem flX6_112 : FL RX6 112 6 8 := ⟨by decide, by decide, lg_mem 763 (by decide +kernel) rfl⟩
theorem flX6_115 : FL RX6 115 6 9 := ⟨by decide, by decide, lg_mem 764 (by decide +kernel) rfl⟩
theorem flX6_118 : FL RX6 118 6 10 := ⟨by decide, by decide, lg_mem 765 (by decide +kernel) rfl⟩
theorem flX6_121 : FL RX6 121 6 11 := ⟨by decide, by decide, lg_mem 766 (by decide +kernel) rfl⟩
theorem flX6_135 : FL RX6 135 6 12 := ⟨by decide, by decide, lg_mem 767 (by decide +kernel) rfl⟩
theorem flX6_158 : FL RX6 158 6 13 := ⟨by decide, by decide, lg_mem 768 (by decide +kernel) rfl⟩
theorem flX6_161 : FL RX6 161 6 14 := ⟨by decide, by decide, lg_mem 769 (by decide +kernel) rfl⟩
theorem flX6_171 : FL RX6 171 6 15 := ⟨by decide, by decide, lg_mem 770 (by decide +kernel) rfl⟩
theorem flX6_131 : FL RX6 131 6 16 := ⟨by decide, by decide, lg_mem 771 (by decide +kernel) rfl⟩
theorem flX6_28 : FL RX6 28 6 17 := ⟨by decide, by decide, lg_mem 772 (by decide +kernel) rfl⟩
theorem flX6_31 : FL RX6 31 6 18 := ⟨by decide, by decide, lg_mem 773 (by decide +kernel) rfl⟩
theorem flX6_34 : FL RX6 34 6 19 := ⟨by decide, by decide, lg_mem 774 (by decide +kernel) rfl⟩
theorem flX6_37 : FL RX6 37 6 20 := ⟨by decide, by decide, lg_mem 775 (by decide +kernel) rfl⟩
theorem flX6_40 : FL RX6 40 6 21 := ⟨by decide, by decide, lg_mem 776 (by decide +kernel) rfl⟩
theorem flX6_43 : FL RX6 43 6 22 := ⟨by decide, by decide, lg_mem 777 (by decide +kernel) rfl⟩
theorem flX6_46 : FL RX6 46 6 23 := ⟨by decide, by decide, lg_mem 778 (by decide +kernel) rfl⟩
theorem flX6_49 : FL RX6 49 6 24 := ⟨by decide, by decide, lg_mem 779 (by decide +kernel) rfl⟩
theorem flX6_52 : FL RX6 52 6 25 := ⟨by decide, by decide, lg_mem 780 (by decide +kernel) rfl⟩
theorem flX6_55 : FL RX6 55 6 26 := ⟨by decide, by decide, lg_mem 781 (by decide +kernel) rfl⟩
theorem flX6_59 : FL RX6 59 6 27 := ⟨by decide, by decide, lg_mem 782 (by decide +kernel) rfl⟩
theorem flX6_62 : FL RX6 62 6 28 := ⟨by decide, by decide, lg_mem 783 (by decide +kernel) rfl⟩
theorem flX6_65 : FL RX6 65 6 29 := ⟨by decide, by decide, lg_mem 784 (by decide +kernel) rfl⟩
theorem flX6_68 : FL RX6 68 6 30 := ⟨by decide, by decide, lg_mem 785 (by decide +kernel) rfl⟩
theorem flX6_71 : FL RX6 71 6 31 := ⟨by decide, by decide, lg_mem 786 (by decide +kernel) rfl⟩
theorem flX6_74 : FL RX6 74 6 32 := ⟨by decide, by decide, lg_mem 787 (by decide +kernel) rfl⟩
theorem flX6_181 : FL RX6 181 6 33 := ⟨by decide, by decide, lg_mem 788 (by decide +kernel) rfl⟩
theorem flX6_184 : FL RX6 184 6 34 := ⟨by decide, by decide, lg_mem 789 (by decide +kernel) rfl⟩
theorem flX6_194 : FL RX6 194 6 35 := ⟨by decide, by decide, lg_mem 790 (by decide +kernel) rfl⟩
theorem flX6_250 : FL RX6 250 6 36 := ⟨by decide, by decide, lg_mem 791 (by decide +kernel) rfl⟩
theorem flX6_77 : FL RX6 77 6 37 := ⟨by decide, by decide, lg_mem 792 (by decide +kernel) rfl⟩
theorem flX6_80 : FL RX6 80 6 38 := ⟨by decide, by decide, lg_mem 793 (by decide +kernel) rfl⟩
theorem flX6_83 : FL RX6 83 6 39 := ⟨by decide, by decide, lg_mem 794 (by decide +kernel) rfl⟩
theorem flX6_86 : FL RX6 86 6 40 := ⟨by decide, by decide, lg_mem 795 (by decide +kernel) rfl⟩
theorem flX6_89 : FL RX6 89 6 41 := ⟨by decide, by decide, lg_mem 796 (by decide +kernel) rfl⟩
theorem flX6_92 : FL RX6 92 6 42 := ⟨by decide, by decide, lg_mem 797 (by decide +kernel) rfl⟩
theorem flX6_95 : FL RX6 95 6 43 := ⟨by decide, by decide, lg_mem 798 (by decide +kernel) rfl⟩
theorem flX6_98 : FL RX6 98 6 44 := ⟨by decide, by decide, lg_mem 799 (by decide +kernel) rfl⟩
theorem flX6_232 : FL RX6 232 6 45 := ⟨by decide, by decide, lg_mem 800 (by decide +kernel) rfl⟩
theorem mcL_15 : MI RL 15 yX5_init cX5_init 2 0 := ⟨⟨lg_mem 76 (by decide +kernel) rfl, lg_mem 77 (by decide +kernel) rfl, lg_mem 56 (by decide +kernel) rfl, lg_mem 78 (by decide +kernel) rfl⟩, by decide, by decide, by decide, by decide +kernel⟩
theorem mcX5_9 : MIN RX5 9 yX3_init cX3_init 1 0 := ⟨⟨by decide +kernel, lg_mem 85 (by decide +kernel) rfl, lg_mem 57 (by decide +kernel) rfl, lg_mem 86 (by decide +kernel) rfl⟩, by decide, by decide, by decide, by decide +kernel⟩
theorem mcX5_18 : MI RX5 18 yX1_init cX1_init 2 0 := ⟨⟨lg_mem 98 (by decide +kernel) rfl, lg_mem 99 (by decide +kernel) rfl, lg_mem 58 (by decide +kernel) rfl, lg_mem 100 (by decide +kernel) rfl⟩, by decide, by decide, by decide, by decide +kernel⟩
theorem mcX5_35 : MIN RX5 35 yX0_init cX0_init 1 0 := ⟨⟨by decide +kernel, lg_mem 133 (by decide +kernel) rfl, lg_mem 59 (by decide +kernel) rfl, lg_mem 134 (by decide +kernel) rfl⟩, by decide, by decide, by decide, by decide +kernel⟩
theorem mcX5_42 : MIN RX5 42 yX2_init cX2_init 1 0 := ⟨⟨by decide +kernel, lg_mem 154 (by decide +kernel) rfl, lg_mem 60 (by decide +kernel) rfl, lg_mem 155 (by decide +kernel) rfl⟩, by decide, by decide, by decide, by decide +kernel⟩
theorem mcL_19 : MV RL 19 yX5_feed cX5_feed (some .int) 6 5 := ⟨⟨lg_mem 226 (by decide +kernel) rfl, lg_mem 227 (by decide +kernel) rfl, lg_mem 228 (by decide +kernel) rfl, lg_mem 56 (by decide +kernel) rfl, lg_mem 229 (by decide +kernel) rfl⟩, by decide, by decide, by decide +kernel⟩
theorem mcX5_47 : MV RX5 47 yX3_hasRoom cX3_hasRoom (some .boolean) 2 1 := ⟨⟨lg_mem 230 (by decide +kernel) rfl, lg_mem 231 (by decide +kernel) rfl, lg_mem 232 (by decide +kernel) rfl, lg_mem 57 (by decide +kernel) rfl, lg_mem 233 (by decide +kernel) rfl⟩, by decide, by decide, by decide +kernel⟩
theorem mcX5_51 : MV RX5 51 yX3_append cX3_append none 3 1 := ⟨⟨lg_mem 234 (by decide +kernel) rfl, lg_mem 235 (by decide +kernel) rfl, lg_mem 236 (by decide +kernel) rfl, lg_mem 57 (by decide +kernel) rfl, lg_mem 237 (by decide +kernel) rfl⟩, by decide, by decide, by decide +kernel⟩
theorem mcX3_17 : MV RX3 17 yX3_hasRoom cX3_hasRoom (some .boolean) 2 1 := ⟨⟨lg_mem 238 (by decide +kernel) rfl, lg_mem 231 (by decide +kernel) rfl, lg_mem 232 (by decide +kernel) rfl, lg_mem 57 (by decide +kernel) rfl, lg_mem 233 (by decide +kernel) rfl⟩, by decide, by decide, by decide +kernel⟩
theorem mcX5_55 : MV RX5 55 yX3_length cX3_length (some .int) 1 0 := ⟨⟨lg_mem 239 (by decide +kernel) rfl, lg_mem 240 (by decide +kernel) rfl, lg_mem 241 (by decide +kernel) rfl, lg_mem 57 (by decide +kernel) rfl, lg_mem 242 (by decide +kernel) rfl⟩, by decide, by decide, by decide +kernel⟩
theorem mcL_24 : MV RL 24 yX5_end cX5_end (some .boolean) 2 1 := ⟨⟨lg_mem 243 (by decide +kernel) rfl, lg_mem 244 (by decide +kernel) rfl, lg_mem 245 (by decide +kernel) rfl, lg_mem 56 (by decide +kernel) rfl, lg_mem 246 (by decide +kernel) rfl⟩, by decide, by decide, by decide +kernel⟩
theorem mcX5_59 : MV RX5 59 yX3_cut cX3_cut (some .boolean) 2 1 := ⟨⟨lg_mem 247 (by decide +kernel) rfl, lg_mem 248 (by decide +kernel) rfl, lg_mem 249 (by decide +kernel) rfl, lg_mem 57 (by decide +kernel) rfl, lg_mem 250 (by decide +kernel) rfl⟩, by decide, by decide, by decide +kernel⟩
theorem mcL_29 : MV RL 29 yX5_rules cX5_rules (some .int) 2 0 := ⟨⟨lg_mem 251 (by decide +kernel) rfl, lg_mem 252 (by decide +kernel) rfl, lg_mem 253 (by decide +kernel) rfl, lg_mem 56 (by decide +kernel) rfl, lg_mem 254 (by decide +kernel) rfl⟩, by decide, by decide, by decide +kernel⟩
theorem mcX5_62 : MV RX5 62 yX1_read cX1_read (some .int) 5 1 := ⟨⟨lg_mem 255 (by decide +kernel) rfl, lg_mem 256 (by decide +kernel) rfl, lg_mem 257 (by decide +kernel) rfl, lg_mem 58 (by decide +kernel) rfl, lg_mem 258 (by decide +kernel) rfl⟩, by decide, by decide, by decide +kernel⟩
theorem mcX1_25 : MV RX1 25 yX1_begin cX1_begin none 1 0 := ⟨⟨lg_mem 259 (by decide +kernel) rfl, lg_mem 261 (by decide +kernel) rfl, lg_mem 0 (by decide +kernel) rfl, lg_mem 58 (by decide +kernel) rfl, lg_mem 262 (by decide +kernel) rfl⟩, by decide, by decide, by decide +kernel⟩
theorem mcX1_28 : MV RX1 28 yX3_length cX3_length (some .int) 1 0 := ⟨⟨lg_mem 266 (by decide +kernel) rfl, lg_mem 240 (by decide +kernel) rfl, lg_mem 241 (by decide +kernel) rfl, lg_mem 57 (by decide +kernel) rfl, lg_mem 242 (by decide +kernel) rfl⟩, by decide, by decide, by decide +kernel⟩
theorem mcX1_34 : MS RX1 34 yJ9_min_7cf53 cJ9_min_7cf53 (some .int) 2 2 := ⟨⟨lg_mem 267 (by decide +kernel) rfl, lg_mem 268 (by decide +kernel) rfl, lg_mem 63 (by decide +kernel) rfl, lg_mem 269 (by decide +kernel) rfl⟩, by decide, by decide, by decide +kernel⟩
theorem mcX1_40 : MV RX1 40 yX3_isBlank cX3_isBlank (some .boolean) 3 1 := ⟨⟨lg_mem 270 (by decide +kernel) rfl, lg_mem 271 (by decide +kernel) rfl, lg_mem 272 (by decide +kernel) rfl, lg_mem 57 (by decide +kernel) rfl, lg_mem 273 (by decide +kernel) rfl⟩, by decide, by decide, by decide +kernel⟩
theorem mcX3_21 : MV RX3 21 yX3_byteAt cX3_byteAt (some .int) 2 1 := ⟨⟨lg_mem 274 (by decide +kernel) rfl, lg_mem 275 (by decide +kernel) rfl, lg_mem 276 (by decide +kernel) rfl, lg_mem 57 (by decide +kernel) rfl, lg_mem 277 (by decide +kernel) rfl⟩, by decide, by decide, by decide +kernel⟩
theorem mcX1_44 : MS RX1 44 yX1_endOfToken cX1_endOfToken (some .int) 4 2 := ⟨⟨lg_mem 278 (by decide +kernel) rfl, lg_mem 279 (by decide +kernel) rfl, lg_mem 58 (by decide +kernel) rfl, lg_mem 280 (by decide +kernel) rfl⟩, by decide, by decide, by decide +kernel⟩
theorem mcX1_80 : MV RX1 80 yX3_isLetter cX3_isLetter (some .boolean) 3 1 := ⟨⟨lg_mem 281 (by decide +kernel) rfl, lg_mem 282 (by decide +kernel) rfl, lg_mem 283 (by decide +kernel) rfl, lg_mem 57 (by decide +kernel) rfl, lg_mem 284 (by decide +kernel) rfl⟩, by decide, by decide, by decide +kernel⟩
theorem mcX1_83 : MV RX1 83 yX3_isDigit cX3_isDigit (some .boolean) 3 1 := ⟨⟨lg_mem 285 (by decide +kernel) rfl, lg_mem 286 (by decide +kernel) rfl, lg_mem 287 (by decide +kernel) rfl, lg_mem 57 (by decide +kernel) rfl, lg_mem 288 (by decide +kernel) rfl⟩, by decide, by decide, by decide +kernel⟩
theorem mcX1_86 : MS RX1 86 yJ9_max_7cf53 cJ9_max_7cf53 (some .int) 2 2 := ⟨⟨lg_mem 289 (by decide +kernel) rfl, lg_mem 290 (by decide +kernel) rfl, lg_mem 63 (by decide +kernel) rfl, lg_mem 291 (by decide +kernel) rfl⟩, by decide, by decide, by decide +kernel⟩
theorem mcX1_48 : MV RX1 48 yX1_take cX1_take none 4 3 := ⟨⟨lg_mem 292 (by decide +kernel) rfl, lg_mem 294 (by decide +kernel) rfl, lg_mem 1 (by decide +kernel) rfl, lg_mem 58 (by decide +kernel) rfl, lg_mem 295 (by decide +kernel) rfl⟩, by decide, by decide, by decide +kernel⟩
theorem mcX1_89 : MV RX1 89 yX1_takeWord cX1_takeWord none 5 3 := ⟨⟨lg_mem 296 (by decide +kernel) rfl, lg_mem 298 (by decide +kernel) rfl, lg_mem 2 (by decide +kernel) rfl, lg_mem 58 (by decide +kernel) rfl, lg_mem 299 (by decide +kernel) rfl⟩, by decide, by decide, by decide +kernel⟩
theorem mcX1_98 : MS RX1 98 yX1_kindOfWord cX1_kindOfWord (some .int) 4 3 := ⟨⟨lg_mem 300 (by decide +kernel) rfl, lg_mem 301 (by decide +kernel) rfl, lg_mem 58 (by decide +kernel) rfl, lg_mem 302 (by decide +kernel) rfl⟩, by decide, by decide, by decide +kernel⟩
theorem mcX1_111 : MS RX1 111 yX1_wordOf cX1_wordOf (some (.object "java/lang/String")) 1 1 := ⟨⟨lg_mem 303 (by decide +kernel) rfl, lg_mem 304 (by decide +kernel) rfl, lg_mem 58 (by decide +kernel) rfl, lg_mem 305 (by decide +kernel) rfl⟩, by decide, by decide, by decide +kernel⟩
theorem mcX1_115 : MS RX1 115 yX1_isWord cX1_isWord (some .boolean) 5 4 := ⟨⟨lg_mem 315 (by decide +kernel) rfl, lg_mem 316 (by decide +kernel) rfl, lg_mem 58 (by decide +kernel) rfl, lg_mem 317 (by decide +kernel) rfl⟩, by decide, by decide, by decide +kernel⟩
theorem mcX1_119 : MV RX1 119 yJ0_length_8abf5 cJ0_length_8abf5 (some .int) 1 0 := ⟨⟨lg_mem 318 (by decide +kernel) rfl, lg_mem 319 (by decide +kernel) rfl, lg_mem 320 (by decide +kernel) rfl, lg_mem 64 (by decide +kernel) rfl, lg_mem 321 (by decide +kernel) rfl⟩, by decide, by decide, by decide +kernel⟩
theorem mcJ0_335 : MV RJ0 335 yJ0_coder_7d493 cJ0_coder_7d493 (some .byte) 1 0 := ⟨⟨lg_mem 322 (by decide +kernel) rfl, lg_mem 323 (by decide +kernel) rfl, lg_mem 324 (by decide +kernel) rfl, lg_mem 64 (by decide +kernel) rfl, lg_mem 325 (by decide +kernel) rfl⟩, by decide, by decide, by decide +kernel⟩
theorem mcX1_95 : MV RX1 95 yX3_byteAt cX3_byteAt (some .int) 2 1 := ⟨⟨lg_mem 328 (by decide +kernel) rfl, lg_mem 275 (by decide +kernel) rfl, lg_mem 276 (by decide +kernel) rfl, lg_mem 57 (by decide +kernel) rfl, lg_mem 277 (by decide +kernel) rfl⟩, by decide, by decide, by decide +kernel⟩
theorem mcX1_122 : MV RX1 122 yJ0_charAt_5068e cJ0_charAt_5068e (some .char) 2 1 := ⟨⟨lg_mem 329 (by decide +kernel) rfl, lg_mem 330 (by decide +kernel) rfl, lg_mem 331 (by decide +kernel) rfl, lg_mem 64 (by decide +kernel) rfl, lg_mem 332 (by decide +kernel) rfl⟩, by decide, by decide, by decide +kernel⟩
theorem mcJ0_492 : MV RJ0 492 yJ0_isLatin1_aae02 cJ0_isLatin1_aae02 (some .boolean) 1 0 := ⟨⟨lg_mem 333 (by decide +kernel) rfl, lg_mem 334 (by decide +kernel) rfl, lg_mem 335 (by decide +kernel) rfl, lg_mem 64 (by decide +kernel) rfl, lg_mem 336 (by decide +kernel) rfl⟩, by decide, by decide, by decide +kernel⟩
theorem mcJ0_495 : MS RJ0 495 yJ1_charAt_3b067 cJ1_charAt_3b067 (some .char) 2 2 := ⟨⟨lg_mem 337 (by decide +kernel) rfl, lg_mem 338 (by decide +kernel) rfl, lg_mem 65 (by decide +kernel) rfl, lg_mem 339 (by decide +kernel) rfl⟩, by decide, by decide, by decide +kernel⟩
theorem mcJ1_9 : MS RJ1 9 yJ0_checkIndex_df160 cJ0_checkIndex_df160 none 2 2 := ⟨⟨lg_mem 340 (by decide +kernel) rfl, lg_mem 341 (by decide +kernel) rfl, lg_mem 64 (by decide +kernel) rfl, lg_mem 342 (by decide +kernel) rfl⟩, by decide, by decide, by decide +kernel⟩
theorem mcJ0_1059 : MS RJ0 1059 yJ3_checkIndex_8e157 cJ3_checkIndex_8e157 (some .int) 3 3 := ⟨⟨lg_mem 345 (by decide +kernel) rfl, lg_mem 346 (by decide +kernel) rfl, lg_mem 66 (by decide +kernel) rfl, lg_mem 347 (by decide +kernel) rfl⟩, by decide, by decide, by decide +kernel⟩
theorem mcJ0_498 : MS RJ0 498 yJ2_charAt_3b067 cJ2_charAt_3b067 (some .char) 2 2 := ⟨⟨lg_mem 348 (by decide +kernel) rfl, lg_mem 349 (by decide +kernel) rfl, lg_mem 67 (by decide +kernel) rfl, lg_mem 350 (by decide +kernel) rfl⟩, by decide, by decide, by decide +kernel⟩
theorem mcJ2_67 : MS RJ2 67 yJ2_checkIndex_2214a cJ2_checkIndex_2214a none 2 2 := ⟨⟨lg_mem 351 (by decide +kernel) rfl, lg_mem 352 (by decide +kernel) rfl, lg_mem 67 (by decide +kernel) rfl, lg_mem 353 (by decide +kernel) rfl⟩, by decide, by decide, by decide +kernel⟩
theorem mcJ2_48 : MS RJ2 48 yJ2_length_9d52b cJ2_length_9d52b (some .int) 1 1 := ⟨⟨lg_mem 354 (by decide +kernel) rfl, lg_mem 355 (by decide +kernel) rfl, lg_mem 67 (by decide +kernel) rfl, lg_mem 356 (by decide +kernel) rfl⟩, by decide, by decide, by decide +kernel⟩
theorem mcJ2_414 : MS RJ2 414 yJ0_checkIndex_df160 cJ0_checkIndex_df160 none 2 2 := ⟨⟨lg_mem 357 (by decide +kernel) rfl, lg_mem 341 (by decide +kernel) rfl, lg_mem 64 (by decide +kernel) rfl, lg_mem 342 (by decide +kernel) rfl⟩, by decide, by decide, by decide +kernel⟩
theorem mcJ2_71 : MS RJ2 71 yJ2_getChar_3b067 cJ2_getChar_3b067 (some .char) 2 2 := ⟨⟨lg_mem 358 (by decide +kernel) rfl, lg_mem 359 (by decide +kernel) rfl, lg_mem 67 (by decide +kernel) rfl, lg_mem 360 (by decide +kernel) rfl⟩, by decide, by decide, by decide +kernel⟩
theorem mcX1_55 : MV RX1 55 yX1_fail cX1_fail none 3 2 := ⟨⟨lg_mem 367 (by decide +kernel) rfl, lg_mem 369 (by decide +kernel) rfl, lg_mem 3 (by decide +kernel) rfl, lg_mem 58 (by decide +kernel) rfl, lg_mem 370 (by decide +kernel) rfl⟩, by decide, by decide, by decide +kernel⟩
theorem mcX1_92 : MV RX1 92 yX1_takeNumber cX1_takeNumber none 5 3 := ⟨⟨lg_mem 371 (by decide +kernel) rfl, lg_mem 373 (by decide +kernel) rfl, lg_mem 4 (by decide +kernel) rfl, lg_mem 58 (by decide +kernel) rfl, lg_mem 374 (by decide +kernel) rfl⟩, by decide, by decide, by decide +kernel⟩
theorem mcX1_102 : MS RX1 102 yX1_numberOf cX1_numberOf (some .int) 5 3 := ⟨⟨lg_mem 375 (by decide +kernel) rfl, lg_mem 376 (by decide +kernel) rfl, lg_mem 58 (by decide +kernel) rfl, lg_mem 377 (by decide +kernel) rfl⟩, by decide, by decide, by decide +kernel⟩
theorem mcX1_71 : MS RX1 71 yJ6_bitCount_0f7a4 cJ6_bitCount_0f7a4 (some .int) 1 1 := ⟨⟨lg_mem 382 (by decide +kernel) rfl, lg_mem 383 (by decide +kernel) rfl, lg_mem 68 (by decide +kernel) rfl, lg_mem 384 (by decide +kernel) rfl⟩, by decide, by decide, by decide +kernel⟩
theorem mcL_34 : MV RL 34 yX5_fault cX5_fault (some .int) 1 0 := ⟨⟨lg_mem 388 (by decide +kernel) rfl, lg_mem 389 (by decide +kernel) rfl, lg_mem 390 (by decide +kernel) rfl, lg_mem 56 (by decide +kernel) rfl, lg_mem 391 (by decide +kernel) rfl⟩, by decide, by decide, by decide +kernel⟩
theorem mcX5_66 : MV RX5 66 yX1_faultKind cX1_faultKind (some .int) 1 0 := ⟨⟨lg_mem 392 (by decide +kernel) rfl, lg_mem 393 (by decide +kernel) rfl, lg_mem 394 (by decide +kernel) rfl, lg_mem 58 (by decide +kernel) rfl, lg_mem 395 (by decide +kernel) rfl⟩, by decide, by decide, by decide +kernel⟩
theorem mcL_38 : MV RL 38 yX5_rule cX5_rule (some .int) 2 1 := ⟨⟨lg_mem 396 (by decide +kernel) rfl, lg_mem 397 (by decide +kernel) rfl, lg_mem 398 (by decide +kernel) rfl, lg_mem 56 (by decide +kernel) rfl, lg_mem 399 (by decide +kernel) rfl⟩, by decide, by decide, by decide +kernel⟩
theorem mcX5_69 : MV RX5 69 yX1_value cX1_value (some .int) 2 1 := ⟨⟨lg_mem 400 (by decide +kernel) rfl, lg_mem 401 (by decide +kernel) rfl, lg_mem 402 (by decide +kernel) rfl, lg_mem 58 (by decide +kernel) rfl, lg_mem 403 (by decide +kernel) rfl⟩, by decide, by decide, by decide +kernel⟩
theorem mcL_43 : MV RL 43 yX5_umpire cX5_umpire (some .int) 6 4 := ⟨⟨lg_mem 404 (by decide +kernel) rfl, lg_mem 405 (by decide +kernel) rfl, lg_mem 406 (by decide +kernel) rfl, lg_mem 56 (by decide +kernel) rfl, lg_mem 407 (by decide +kernel) rfl⟩, by decide, by decide, by decide +kernel⟩
theorem mcX5_77 : MS RX5 77 yX5_isPlace cX5_isPlace (some .boolean) 2 2 := ⟨⟨lg_mem 408 (by decide +kernel) rfl, lg_mem 409 (by decide +kernel) rfl, lg_mem 56 (by decide +kernel) rfl, lg_mem 410 (by decide +kernel) rfl⟩, by decide, by decide, by decide +kernel⟩
theorem mcX5_81 : MS RX5 81 yX5_isGrade cX5_isGrade (some .boolean) 1 1 := ⟨⟨lg_mem 411 (by decide +kernel) rfl, lg_mem 412 (by decide +kernel) rfl, lg_mem 56 (by decide +kernel) rfl, lg_mem 413 (by decide +kernel) rfl⟩, by decide, by decide, by decide +kernel⟩
theorem mcX5_84 : MI RX5 84 yX4_init cX4_init 5 4 := ⟨⟨lg_mem 415 (by decide +kernel) rfl, lg_mem 416 (by decide +kernel) rfl, lg_mem 69 (by decide +kernel) rfl, lg_mem 417 (by decide +kernel) rfl⟩, by decide, by decide, by decide, by decide +kernel⟩
theorem mcL_48 : MV RL 48 yX5_away cX5_away (some .boolean) 5 3 := ⟨⟨lg_mem 462 (by decide +kernel) rfl, lg_mem 463 (by decide +kernel) rfl, lg_mem 464 (by decide +kernel) rfl, lg_mem 56 (by decide +kernel) rfl, lg_mem 465 (by decide +kernel) rfl⟩, by decide, by decide, by decide +kernel⟩
theorem mcX5_87 : MV RX5 87 yX5_umpireAt cX5_umpireAt (some (.object "WicketBoard$Umpire")) 2 1 := ⟨⟨lg_mem 466 (by decide +kernel) rfl, lg_mem 468 (by decide +kernel) rfl, lg_mem 5 (by decide +kernel) rfl, lg_mem 56 (by decide +kernel) rfl, lg_mem 469 (by decide +kernel) rfl⟩, by decide, by decide, by decide +kernel⟩
theorem mcX5_97 : MV RX5 97 yX4_setAway cX4_setAway (some .boolean) 3 2 := ⟨⟨lg_mem 470 (by decide +kernel) rfl, lg_mem 471 (by decide +kernel) rfl, lg_mem 472 (by decide +kernel) rfl, lg_mem 69 (by decide +kernel) rfl, lg_mem 473 (by decide +kernel) rfl⟩, by decide, by decide, by decide +kernel⟩
theorem mcL_53 : MV RL 53 yX5_game cX5_game (some .int) 7 5 := ⟨⟨lg_mem 474 (by decide +kernel) rfl, lg_mem 475 (by decide +kernel) rfl, lg_mem 476 (by decide +kernel) rfl, lg_mem 56 (by decide +kernel) rfl, lg_mem 477 (by decide +kernel) rfl⟩, by decide, by decide, by decide +kernel⟩
theorem mcX5_104 : MS RX5 104 yX5_isClub cX5_isClub (some .boolean) 1 1 := ⟨⟨lg_mem 478 (by decide +kernel) rfl, lg_mem 479 (by decide +kernel) rfl, lg_mem 56 (by decide +kernel) rfl, lg_mem 480 (by decide +kernel) rfl⟩, by decide, by decide, by decide +kernel⟩
theorem mcX5_107 : MV RX5 107 yX0_set cX0_set none 5 4 := ⟨⟨lg_mem 481 (by decide +kernel) rfl, lg_mem 482 (by decide +kernel) rfl, lg_mem 483 (by decide +kernel) rfl, lg_mem 59 (by decide +kernel) rfl, lg_mem 484 (by decide +kernel) rfl⟩, by decide, by decide, by decide +kernel⟩
theorem mcL_57 : MV RL 57 yX5_may cX5_may (some .boolean) 3 2 := ⟨⟨lg_mem 485 (by decide +kernel) rfl, lg_mem 486 (by decide +kernel) rfl, lg_mem 487 (by decide +kernel) rfl, lg_mem 56 (by decide +kernel) rfl, lg_mem 488 (by decide +kernel) rfl⟩, by decide, by decide, by decide +kernel⟩
theorem mcX5_110 : MV RX5 110 yX5_fits cX5_fits (some .boolean) 4 2 := ⟨⟨lg_mem 489 (by decide +kernel) rfl, lg_mem 491 (by decide +kernel) rfl, lg_mem 6 (by decide +kernel) rfl, lg_mem 56 (by decide +kernel) rfl, lg_mem 492 (by decide +kernel) rfl⟩, by decide, by decide, by decide +kernel⟩
theorem mcX5_198 : MV RX5 198 yX5_gameOf cX5_gameOf (some (.object "WicketBoard$Game")) 2 1 := ⟨⟨lg_mem 493 (by decide +kernel) rfl, lg_mem 495 (by decide +kernel) rfl, lg_mem 7 (by decide +kernel) rfl, lg_mem 56 (by decide +kernel) rfl, lg_mem 496 (by decide +kernel) rfl⟩, by decide, by decide, by decide +kernel⟩
theorem mcX5_150 : MV RX5 150 yX5_isSeat cX5_isSeat (some .boolean) 2 1 := ⟨⟨lg_mem 497 (by decide +kernel) rfl, lg_mem 499 (by decide +kernel) rfl, lg_mem 8 (by decide +kernel) rfl, lg_mem 56 (by decide +kernel) rfl, lg_mem 500 (by decide +kernel) rfl⟩, by decide, by decide, by decide +kernel⟩
theorem mcX5_202 : MV RX5 202 yX4_isAway cX4_isAway (some .boolean) 2 1 := ⟨⟨lg_mem 501 (by decide +kernel) rfl, lg_mem 502 (by decide +kernel) rfl, lg_mem 503 (by decide +kernel) rfl, lg_mem 69 (by decide +kernel) rfl, lg_mem 504 (by decide +kernel) rfl⟩, by decide, by decide, by decide +kernel⟩
theorem mcX5_214 : MV RX5 214 yX0_milesTo cX0_milesTo (some .int) 2 1 := ⟨⟨lg_mem 505 (by decide +kernel) rfl, lg_mem 506 (by decide +kernel) rfl, lg_mem 507 (by decide +kernel) rfl, lg_mem 59 (by decide +kernel) rfl, lg_mem 508 (by decide +kernel) rfl⟩, by decide, by decide, by decide +kernel⟩
theorem mcX0_25 : MS RX0 25 yJ9_abs_0f7a4 cJ9_abs_0f7a4 (some .int) 1 1 := ⟨⟨lg_mem 509 (by decide +kernel) rfl, lg_mem 510 (by decide +kernel) rfl, lg_mem 63 (by decide +kernel) rfl, lg_mem 511 (by decide +kernel) rfl⟩, by decide, by decide, by decide +kernel⟩
theorem mcX5_218 : MV RX5 218 yX4_stoodInAll cX4_stoodInAll (some .boolean) 4 2 := ⟨⟨lg_mem 512 (by decide +kernel) rfl, lg_mem 513 (by decide +kernel) rfl, lg_mem 514 (by decide +kernel) rfl, lg_mem 69 (by decide +kernel) rfl, lg_mem 515 (by decide +kernel) rfl⟩, by decide, by decide, by decide +kernel⟩
theorem mcX4_38 : MV RX4 38 yX4_clubsIn cX4_clubsIn (some .int) 2 1 := ⟨⟨lg_mem 516 (by decide +kernel) rfl, lg_mem 517 (by decide +kernel) rfl, lg_mem 518 (by decide +kernel) rfl, lg_mem 69 (by decide +kernel) rfl, lg_mem 519 (by decide +kernel) rfl⟩, by decide, by decide, by decide +kernel⟩
theorem mcX5_221 : MV RX5 221 yX4_stoodWith cX4_stoodWith (some .boolean) 5 3 := ⟨⟨lg_mem 520 (by decide +kernel) rfl, lg_mem 521 (by decide +kernel) rfl, lg_mem 522 (by decide +kernel) rfl, lg_mem 69 (by decide +kernel) rfl, lg_mem 523 (by decide +kernel) rfl⟩, by decide, by decide, by decide +kernel⟩
theorem mcL_62 : MV RL 62 yX5_cost cX5_cost (some .int) 3 2 := ⟨⟨lg_mem 524 (by decide +kernel) rfl, lg_mem 525 (by decide +kernel) rfl, lg_mem 526 (by decide +kernel) rfl, lg_mem 56 (by decide +kernel) rfl, lg_mem 527 (by decide +kernel) rfl⟩, by decide, by decide, by decide +kernel⟩
theorem mcX5_114 : MV RX5 114 yX5_price cX5_price (some .int) 4 2 := ⟨⟨lg_mem 528 (by decide +kernel) rfl, lg_mem 530 (by decide +kernel) rfl, lg_mem 9 (by decide +kernel) rfl, lg_mem 56 (by decide +kernel) rfl, lg_mem 531 (by decide +kernel) rfl⟩, by decide, by decide, by decide +kernel⟩
theorem mcL_66 : MV RL 66 yX5_send cX5_send (some .int) 4 0 := ⟨⟨lg_mem 532 (by decide +kernel) rfl, lg_mem 533 (by decide +kernel) rfl, lg_mem 534 (by decide +kernel) rfl, lg_mem 56 (by decide +kernel) rfl, lg_mem 535 (by decide +kernel) rfl⟩, by decide, by decide, by decide +kernel⟩
theorem mcX5_121 : MV RX5 121 yX2_begin cX2_begin none 4 2 := ⟨⟨lg_mem 536 (by decide +kernel) rfl, lg_mem 537 (by decide +kernel) rfl, lg_mem 538 (by decide +kernel) rfl, lg_mem 60 (by decide +kernel) rfl, lg_mem 539 (by decide +kernel) rfl⟩, by decide, by decide, by decide +kernel⟩
theorem mcX2_40 : MS RX2 40 yJ9_min_7cf53 cJ9_min_7cf53 (some .int) 2 2 := ⟨⟨lg_mem 540 (by decide +kernel) rfl, lg_mem 268 (by decide +kernel) rfl, lg_mem 63 (by decide +kernel) rfl, lg_mem 269 (by decide +kernel) rfl⟩, by decide, by decide, by decide +kernel⟩
theorem mcX2_46 : MS RX2 46 yJ9_max_7cf53 cJ9_max_7cf53 (some .int) 2 2 := ⟨⟨lg_mem 541 (by decide +kernel) rfl, lg_mem 290 (by decide +kernel) rfl, lg_mem 63 (by decide +kernel) rfl, lg_mem 291 (by decide +kernel) rfl⟩, by decide, by decide, by decide +kernel⟩
theorem mcX2_60 : MV RX2 60 yX2_pair cX2_pair none 3 2 := ⟨⟨lg_mem 543 (by decide +kernel) rfl, lg_mem 545 (by decide +kernel) rfl, lg_mem 10 (by decide +kernel) rfl, lg_mem 60 (by decide +kernel) rfl, lg_mem 546 (by decide +kernel) rfl⟩, by decide, by decide, by decide +kernel⟩
theorem mcX5_125 : MV RX5 125 yX5_clearSeat cX5_clearSeat none 3 1 := ⟨⟨lg_mem 547 (by decide +kernel) rfl, lg_mem 549 (by decide +kernel) rfl, lg_mem 11 (by decide +kernel) rfl, lg_mem 56 (by decide +kernel) rfl, lg_mem 550 (by decide +kernel) rfl⟩, by decide, by decide, by decide +kernel⟩
theorem mcX5_153 : MV RX5 153 yX5_holderOf cX5_holderOf (some (.object "WicketBoard$Umpire")) 2 1 := ⟨⟨lg_mem 551 (by decide +kernel) rfl, lg_mem 553 (by decide +kernel) rfl, lg_mem 12 (by decide +kernel) rfl, lg_mem 56 (by decide +kernel) rfl, lg_mem 554 (by decide +kernel) rfl⟩, by decide, by decide, by decide +kernel⟩
theorem mcX5_128 : MV RX5 128 yX2_allow cX2_allow none 4 3 := ⟨⟨lg_mem 555 (by decide +kernel) rfl, lg_mem 556 (by decide +kernel) rfl, lg_mem 557 (by decide +kernel) rfl, lg_mem 60 (by decide +kernel) rfl, lg_mem 558 (by decide +kernel) rfl⟩, by decide, by decide, by decide +kernel⟩
theorem mcX5_132 : MV RX5 132 yX2_settle cX2_settle none 2 0 := ⟨⟨lg_mem 559 (by decide +kernel) rfl, lg_mem 560 (by decide +kernel) rfl, lg_mem 561 (by decide +kernel) rfl, lg_mem 60 (by decide +kernel) rfl, lg_mem 562 (by decide +kernel) rfl⟩, by decide, by decide, by decide +kernel⟩
theorem mcX2_64 : MV RX2 64 yX2_addSeat cX2_addSeat none 5 1 := ⟨⟨lg_mem 563 (by decide +kernel) rfl, lg_mem 565 (by decide +kernel) rfl, lg_mem 13 (by decide +kernel) rfl, lg_mem 60 (by decide +kernel) rfl, lg_mem 566 (by decide +kernel) rfl⟩, by decide, by decide, by decide +kernel⟩
theorem mcX2_75 : MV RX2 75 yX2_forgetColumns cX2_forgetColumns none 2 0 := ⟨⟨lg_mem 567 (by decide +kernel) rfl, lg_mem 569 (by decide +kernel) rfl, lg_mem 14 (by decide +kernel) rfl, lg_mem 60 (by decide +kernel) rfl, lg_mem 570 (by decide +kernel) rfl⟩, by decide, by decide, by decide +kernel⟩
theorem mcX2_78 : MV RX2 78 yX2_reach cX2_reach none 5 2 := ⟨⟨lg_mem 572 (by decide +kernel) rfl, lg_mem 574 (by decide +kernel) rfl, lg_mem 15 (by decide +kernel) rfl, lg_mem 60 (by decide +kernel) rfl, lg_mem 575 (by decide +kernel) rfl⟩, by decide, by decide, by decide +kernel⟩
theorem mcX2_91 : MV RX2 91 yX2_gap cX2_gap (some .int) 4 2 := ⟨⟨lg_mem 576 (by decide +kernel) rfl, lg_mem 578 (by decide +kernel) rfl, lg_mem 16 (by decide +kernel) rfl, lg_mem 60 (by decide +kernel) rfl, lg_mem 579 (by decide +kernel) rfl⟩, by decide, by decide, by decide +kernel⟩
theorem mcX2_81 : MV RX2 81 yX2_nearest cX2_nearest (some .int) 3 0 := ⟨⟨lg_mem 581 (by decide +kernel) rfl, lg_mem 583 (by decide +kernel) rfl, lg_mem 17 (by decide +kernel) rfl, lg_mem 60 (by decide +kernel) rfl, lg_mem 584 (by decide +kernel) rfl⟩, by decide, by decide, by decide +kernel⟩
theorem mcX2_85 : MV RX2 85 yX2_shiftParts cX2_shiftParts none 4 2 := ⟨⟨lg_mem 585 (by decide +kernel) rfl, lg_mem 587 (by decide +kernel) rfl, lg_mem 18 (by decide +kernel) rfl, lg_mem 60 (by decide +kernel) rfl, lg_mem 588 (by decide +kernel) rfl⟩, by decide, by decide, by decide +kernel⟩
theorem mcX2_88 : MV RX2 88 yX2_moveAlong cX2_moveAlong none 6 2 := ⟨⟨lg_mem 589 (by decide +kernel) rfl, lg_mem 591 (by decide +kernel) rfl, lg_mem 19 (by decide +kernel) rfl, lg_mem 60 (by decide +kernel) rfl, lg_mem 592 (by decide +kernel) rfl⟩, by decide, by decide, by decide +kernel⟩
theorem mcX2_68 : MV RX2 68 yX2_takeFirst cX2_takeFirst none 8 1 := ⟨⟨lg_mem 593 (by decide +kernel) rfl, lg_mem 595 (by decide +kernel) rfl, lg_mem 20 (by decide +kernel) rfl, lg_mem 60 (by decide +kernel) rfl, lg_mem 596 (by decide +kernel) rfl⟩, by decide, by decide, by decide +kernel⟩
theorem mcX2_94 : MV RX2 94 yX2_firstTight cX2_firstTight (some .int) 5 3 := ⟨⟨lg_mem 597 (by decide +kernel) rfl, lg_mem 599 (by decide +kernel) rfl, lg_mem 21 (by decide +kernel) rfl, lg_mem 60 (by decide +kernel) rfl, lg_mem 600 (by decide +kernel) rfl⟩, by decide, by decide, by decide +kernel⟩
theorem mcX2_98 : MV RX2 98 yX2_findMovable cX2_findMovable none 7 2 := ⟨⟨lg_mem 601 (by decide +kernel) rfl, lg_mem 603 (by decide +kernel) rfl, lg_mem 22 (by decide +kernel) rfl, lg_mem 60 (by decide +kernel) rfl, lg_mem 604 (by decide +kernel) rfl⟩, by decide, by decide, by decide +kernel⟩
theorem mcX5_135 : MV RX5 135 yX2_umpireFor cX2_umpireFor (some .int) 3 1 := ⟨⟨lg_mem 605 (by decide +kernel) rfl, lg_mem 606 (by decide +kernel) rfl, lg_mem 607 (by decide +kernel) rfl, lg_mem 60 (by decide +kernel) rfl, lg_mem 608 (by decide +kernel) rfl⟩, by decide, by decide, by decide +kernel⟩
theorem mcX5_138 : MV RX5 138 yX5_fillSeat cX5_fillSeat none 4 2 := ⟨⟨lg_mem 609 (by decide +kernel) rfl, lg_mem 611 (by decide +kernel) rfl, lg_mem 23 (by decide +kernel) rfl, lg_mem 56 (by decide +kernel) rfl, lg_mem 612 (by decide +kernel) rfl⟩, by decide, by decide, by decide +kernel⟩
theorem mcX5_141 : MV RX5 141 yX5_filledSeats cX5_filledSeats (some .int) 3 0 := ⟨⟨lg_mem 613 (by decide +kernel) rfl, lg_mem 615 (by decide +kernel) rfl, lg_mem 24 (by decide +kernel) rfl, lg_mem 56 (by decide +kernel) rfl, lg_mem 616 (by decide +kernel) rfl⟩, by decide, by decide, by decide +kernel⟩
theorem mcL_70 : MV RL 70 yX5_off cX5_off (some .int) 5 1 := ⟨⟨lg_mem 617 (by decide +kernel) rfl, lg_mem 618 (by decide +kernel) rfl, lg_mem 619 (by decide +kernel) rfl, lg_mem 56 (by decide +kernel) rfl, lg_mem 620 (by decide +kernel) rfl⟩, by decide, by decide, by decide +kernel⟩
theorem mcX5_144 : MV RX5 144 yX5_cheapestFree cX5_cheapestFree (some .int) 7 1 := ⟨⟨lg_mem 621 (by decide +kernel) rfl, lg_mem 623 (by decide +kernel) rfl, lg_mem 25 (by decide +kernel) rfl, lg_mem 56 (by decide +kernel) rfl, lg_mem 624 (by decide +kernel) rfl⟩, by decide, by decide, by decide +kernel⟩
theorem mcX5_147 : MV RX5 147 yX5_fillByMove cX5_fillByMove (some .boolean) 9 1 := ⟨⟨lg_mem 625 (by decide +kernel) rfl, lg_mem 627 (by decide +kernel) rfl, lg_mem 26 (by decide +kernel) rfl, lg_mem 56 (by decide +kernel) rfl, lg_mem 628 (by decide +kernel) rfl⟩, by decide, by decide, by decide +kernel⟩
theorem mcL_74 : MV RL 74 yX5_seat cX5_seat (some .int) 2 1 := ⟨⟨lg_mem 629 (by decide +kernel) rfl, lg_mem 630 (by decide +kernel) rfl, lg_mem 631 (by decide +kernel) rfl, lg_mem 56 (by decide +kernel) rfl, lg_mem 632 (by decide +kernel) rfl⟩, by decide, by decide, by decide +kernel⟩
theorem mcL_78 : MV RL 78 yX5_mark cX5_mark (some .boolean) 7 4 := ⟨⟨lg_mem 633 (by decide +kernel) rfl, lg_mem 634 (by decide +kernel) rfl, lg_mem 635 (by decide +kernel) rfl, lg_mem 56 (by decide +kernel) rfl, lg_mem 636 (by decide +kernel) rfl⟩, by decide, by decide, by decide +kernel⟩
theorem mcX5_156 : MV RX5 156 yX4_addMarks cX4_addMarks none 3 2 := ⟨⟨lg_mem 637 (by decide +kernel) rfl, lg_mem 638 (by decide +kernel) rfl, lg_mem 639 (by decide +kernel) rfl, lg_mem 69 (by decide +kernel) rfl, lg_mem 640 (by decide +kernel) rfl⟩, by decide, by decide, by decide +kernel⟩
theorem mcL_83 : MV RL 83 yX5_next cX5_next (some .int) 2 0 := ⟨⟨lg_mem 641 (by decide +kernel) rfl, lg_mem 642 (by decide +kernel) rfl, lg_mem 643 (by decide +kernel) rfl, lg_mem 56 (by decide +kernel) rfl, lg_mem 644 (by decide +kernel) rfl⟩, by decide, by decide, by decide +kernel⟩
theorem mcX5_159 : MV RX5 159 yX5_endSeat cX5_endSeat none 4 1 := ⟨⟨lg_mem 645 (by decide +kernel) rfl, lg_mem 647 (by decide +kernel) rfl, lg_mem 27 (by decide +kernel) rfl, lg_mem 56 (by decide +kernel) rfl, lg_mem 648 (by decide +kernel) rfl⟩, by decide, by decide, by decide +kernel⟩
theorem mcX5_225 : MV RX5 225 yX4_stand cX4_stand none 3 2 := ⟨⟨lg_mem 649 (by decide +kernel) rfl, lg_mem 650 (by decide +kernel) rfl, lg_mem 651 (by decide +kernel) rfl, lg_mem 69 (by decide +kernel) rfl, lg_mem 652 (by decide +kernel) rfl⟩, by decide, by decide, by decide +kernel⟩
theorem mcX5_162 : MV RX5 162 yX5_regrade cX5_regrade none 4 1 := ⟨⟨lg_mem 653 (by decide +kernel) rfl, lg_mem 655 (by decide +kernel) rfl, lg_mem 28 (by decide +kernel) rfl, lg_mem 56 (by decide +kernel) rfl, lg_mem 656 (by decide +kernel) rfl⟩, by decide, by decide, by decide +kernel⟩
theorem mcX5_228 : MV RX5 228 yX4_giveGrade cX4_giveGrade none 2 1 := ⟨⟨lg_mem 657 (by decide +kernel) rfl, lg_mem 658 (by decide +kernel) rfl, lg_mem 659 (by decide +kernel) rfl, lg_mem 69 (by decide +kernel) rfl, lg_mem 660 (by decide +kernel) rfl⟩, by decide, by decide, by decide +kernel⟩
theorem mcL_96 : MV RL 96 yX5_stood cX5_stood (some .int) 4 2 := ⟨⟨lg_mem 661 (by decide +kernel) rfl, lg_mem 662 (by decide +kernel) rfl, lg_mem 663 (by decide +kernel) rfl, lg_mem 56 (by decide +kernel) rfl, lg_mem 664 (by decide +kernel) rfl⟩, by decide, by decide, by decide +kernel⟩
theorem mcX5_190 : MV RX5 190 yX4_clubsIn cX4_clubsIn (some .int) 2 1 := ⟨⟨lg_mem 665 (by decide +kernel) rfl, lg_mem 517 (by decide +kernel) rfl, lg_mem 518 (by decide +kernel) rfl, lg_mem 69 (by decide +kernel) rfl, lg_mem 519 (by decide +kernel) rfl⟩, by decide, by decide, by decide +kernel⟩
theorem mcL_100 : MV RL 100 yX5_together cX5_together (some .int) 4 0 := ⟨⟨lg_mem 666 (by decide +kernel) rfl, lg_mem 667 (by decide +kernel) rfl, lg_mem 668 (by decide +kernel) rfl, lg_mem 56 (by decide +kernel) rfl, lg_mem 669 (by decide +kernel) rfl⟩, by decide, by decide, by decide +kernel⟩
theorem mcL_104 : MV RL 104 yX5_count cX5_count (some .int) 2 1 := ⟨⟨lg_mem 670 (by decide +kernel) rfl, lg_mem 671 (by decide +kernel) rfl, lg_mem 672 (by decide +kernel) rfl, lg_mem 56 (by decide +kernel) rfl, lg_mem 673 (by decide +kernel) rfl⟩, by decide, by decide, by decide +kernel⟩
theorem mcX5_193 : MS RX5 193 yJ6_bitCount_0f7a4 cJ6_bitCount_0f7a4 (some .int) 1 1 := ⟨⟨lg_mem 674 (by decide +kernel) rfl, lg_mem 383 (by decide +kernel) rfl, lg_mem 68 (by decide +kernel) rfl, lg_mem 384 (by decide +kernel) rfl⟩, by decide, by decide, by decide +kernel⟩
theorem mcL_7 : MV RL 7 yX5_about cX5_about (some .int) 4 2 := ⟨⟨lg_mem 679 (by decide +kernel) rfl, lg_mem 680 (by decide +kernel) rfl, lg_mem 681 (by decide +kernel) rfl, lg_mem 56 (by decide +kernel) rfl, lg_mem 682 (by decide +kernel) rfl⟩, by decide, by decide, by decide +kernel⟩
theorem mcL_18 : MI RL 18 yX6_init cX6_init 1 0 := ⟨⟨lg_mem 751 (by decide +kernel) rfl, lg_mem 752 (by decide +kernel) rfl, lg_mem 61 (by decide +kernel) rfl, lg_mem 753 (by decide +kernel) rfl⟩, by decide, by decide, by decide, by decide +kernel⟩
theorem mcL_93 : MV RL 93 yX6_thrown cX6_thrown (some .int) 1 0 := ⟨⟨lg_mem 894 (by decide +kernel) rfl, lg_mem 895 (by decide +kernel) rfl, lg_mem 896 (by decide +kernel) rfl, lg_mem 61 (by decide +kernel) rfl, lg_mem 897 (by decide +kernel) rfl⟩, by decide, by decide, by decide +kernel⟩
theorem mcL_23 : MV RL 23 yX6_feed cX6_feed (some .int) 6 5 := ⟨⟨lg_mem 898 (by decide +kernel) rfl, lg_mem 899 (by decide +kernel) rfl, lg_mem 900 (by decide +kernel) rfl, lg_mem 61 (by decide +kernel) rfl, lg_mem 901 (by decide +kernel) rfl⟩, by decide, by decide, by decide +kernel⟩
theorem mcX6_108 : MV RX6 108 yX6_come cX6_come none 3 1 := ⟨⟨lg_mem 902 (by decide +kernel) rfl, lg_mem 904 (by decide +kernel) rfl, lg_mem 30 (by decide +kernel) rfl, lg_mem 61 (by decide +kernel) rfl, lg_mem 905 (by decide +kernel) rfl⟩, by decide, by decide, by decide +kernel⟩
theorem mcL_28 : MV RL 28 yX6_end cX6_end (some .boolean) 2 1 := ⟨⟨lg_mem 906 (by decide +kernel) rfl, lg_mem 907 (by decide +kernel) rfl, lg_mem 908 (by decide +kernel) rfl, lg_mem 61 (by decide +kernel) rfl, lg_mem 909 (by decide +kernel) rfl⟩, by decide, by decide, by decide +kernel⟩
theorem mcL_33 : MV RL 33 yX6_rules cX6_rules (some .int) 3 0 := ⟨⟨lg_mem 910 (by decide +kernel) rfl, lg_mem 911 (by decide +kernel) rfl, lg_mem 912 (by decide +kernel) rfl, lg_mem 61 (by decide +kernel) rfl, lg_mem 913 (by decide +kernel) rfl⟩, by decide, by decide, by decide +kernel⟩
theorem mcX6_174 : MV RX6 174 yX6_go cX6_go none 5 0 := ⟨⟨lg_mem 914 (by decide +kernel) rfl, lg_mem 916 (by decide +kernel) rfl, lg_mem 31 (by decide +kernel) rfl, lg_mem 61 (by decide +kernel) rfl, lg_mem 917 (by decide +kernel) rfl⟩, by decide, by decide, by decide +kernel⟩
theorem mcX6_124 : MS RX6 124 yX6_isLetter cX6_isLetter (some .boolean) 1 1 := ⟨⟨lg_mem 918 (by decide +kernel) rfl, lg_mem 919 (by decide +kernel) rfl, lg_mem 61 (by decide +kernel) rfl, lg_mem 920 (by decide +kernel) rfl⟩, by decide, by decide, by decide +kernel⟩
theorem mcX6_128 : MS RX6 128 yX6_isDigit cX6_isDigit (some .boolean) 1 1 := ⟨⟨lg_mem 921 (by decide +kernel) rfl, lg_mem 922 (by decide +kernel) rfl, lg_mem 61 (by decide +kernel) rfl, lg_mem 923 (by decide +kernel) rfl⟩, by decide, by decide, by decide +kernel⟩
theorem mcX6_138 : MV RX6 138 yX6_byteAt cX6_byteAt (some .int) 2 1 := ⟨⟨lg_mem 924 (by decide +kernel) rfl, lg_mem 926 (by decide +kernel) rfl, lg_mem 32 (by decide +kernel) rfl, lg_mem 61 (by decide +kernel) rfl, lg_mem 927 (by decide +kernel) rfl⟩, by decide, by decide, by decide +kernel⟩
theorem mcX6_177 : MV RX6 177 yX6_readRule cX6_readRule (some .boolean) 2 0 := ⟨⟨lg_mem 931 (by decide +kernel) rfl, lg_mem 933 (by decide +kernel) rfl, lg_mem 33 (by decide +kernel) rfl, lg_mem 61 (by decide +kernel) rfl, lg_mem 934 (by decide +kernel) rfl⟩, by decide, by decide, by decide +kernel⟩
theorem mcX6_164 : MV RX6 164 yX6_ruleAtHand cX6_ruleAtHand (some .int) 1 0 := ⟨⟨lg_mem 935 (by decide +kernel) rfl, lg_mem 937 (by decide +kernel) rfl, lg_mem 34 (by decide +kernel) rfl, lg_mem 61 (by decide +kernel) rfl, lg_mem 938 (by decide +kernel) rfl⟩, by decide, by decide, by decide +kernel⟩
theorem mcX6_148 : MS RX6 148 yX6_spelt cX6_spelt (some .long) 6 4 := ⟨⟨lg_mem 939 (by decide +kernel) rfl, lg_mem 940 (by decide +kernel) rfl, lg_mem 61 (by decide +kernel) rfl, lg_mem 941 (by decide +kernel) rfl⟩, by decide, by decide, by decide +kernel⟩
theorem mcX6_152 : MV RX6 152 yX6_isKey cX6_isKey (some .boolean) 3 1 := ⟨⟨lg_mem 942 (by decide +kernel) rfl, lg_mem 944 (by decide +kernel) rfl, lg_mem 35 (by decide +kernel) rfl, lg_mem 61 (by decide +kernel) rfl, lg_mem 945 (by decide +kernel) rfl⟩, by decide, by decide, by decide +kernel⟩
theorem mcX6_168 : MV RX6 168 yX6_bad cX6_bad (some .boolean) 2 1 := ⟨⟨lg_mem 947 (by decide +kernel) rfl, lg_mem 949 (by decide +kernel) rfl, lg_mem 36 (by decide +kernel) rfl, lg_mem 61 (by decide +kernel) rfl, lg_mem 950 (by decide +kernel) rfl⟩, by decide, by decide, by decide +kernel⟩
theorem mcL_37 : MV RL 37 yX6_fault cX6_fault (some .int) 1 0 := ⟨⟨lg_mem 951 (by decide +kernel) rfl, lg_mem 952 (by decide +kernel) rfl, lg_mem 953 (by decide +kernel) rfl, lg_mem 61 (by decide +kernel) rfl, lg_mem 954 (by decide +kernel) rfl⟩, by decide, by decide, by decide +kernel⟩
theorem mcL_42 : MV RL 42 yX6_rule cX6_rule (some .int) 2 1 := ⟨⟨lg_mem 955 (by decide +kernel) rfl, lg_mem 956 (by decide +kernel) rfl, lg_mem 957 (by decide +kernel) rfl, lg_mem 61 (by decide +kernel) rfl, lg_mem 958 (by decide +kernel) rfl⟩, by decide, by decide, by decide +kernel⟩
theorem mcL_47 : MV RL 47 yX6_umpire cX6_umpire (some .int) 5 4 := ⟨⟨lg_mem 959 (by decide +kernel) rfl, lg_mem 960 (by decide +kernel) rfl, lg_mem 961 (by decide +kernel) rfl, lg_mem 61 (by decide +kernel) rfl, lg_mem 962 (by decide +kernel) rfl⟩, by decide, by decide, by decide +kernel⟩
theorem mcX6_187 : MS RX6 187 yX6_isIn cX6_isIn (some .boolean) 3 3 := ⟨⟨lg_mem 963 (by decide +kernel) rfl, lg_mem 964 (by decide +kernel) rfl, lg_mem 61 (by decide +kernel) rfl, lg_mem 965 (by decide +kernel) rfl⟩, by decide, by decide, by decide +kernel⟩
theorem mcL_52 : MV RL 52 yX6_away cX6_away (some .boolean) 4 3 := ⟨⟨lg_mem 966 (by decide +kernel) rfl, lg_mem 967 (by decide +kernel) rfl, lg_mem 968 (by decide +kernel) rfl, lg_mem 61 (by decide +kernel) rfl, lg_mem 969 (by decide +kernel) rfl⟩, by decide, by decide, by decide +kernel⟩
theorem mcX6_191 : MV RX6 191 yX6_isUmpire cX6_isUmpire (some .boolean) 2 1 := ⟨⟨lg_mem 970 (by decide +kernel) rfl, lg_mem 972 (by decide +kernel) rfl, lg_mem 37 (by decide +kernel) rfl, lg_mem 61 (by decide +kernel) rfl, lg_mem 973 (by decide +kernel) rfl⟩, by decide, by decide, by decide +kernel⟩
theorem mcX6_197 : MV RX6 197 yX6_seatOf cX6_seatOf (some .int) 3 1 := ⟨⟨lg_mem 974 (by decide +kernel) rfl, lg_mem 976 (by decide +kernel) rfl, lg_mem 38 (by decide +kernel) rfl, lg_mem 61 (by decide +kernel) rfl, lg_mem 977 (by decide +kernel) rfl⟩, by decide, by decide, by decide +kernel⟩
theorem mcL_56 : MV RL 56 yX6_game cX6_game (some .int) 7 5 := ⟨⟨lg_mem 978 (by decide +kernel) rfl, lg_mem 979 (by decide +kernel) rfl, lg_mem 980 (by decide +kernel) rfl, lg_mem 61 (by decide +kernel) rfl, lg_mem 981 (by decide +kernel) rfl⟩, by decide, by decide, by decide +kernel⟩
theorem mcL_61 : MV RL 61 yX6_may cX6_may (some .boolean) 3 2 := ⟨⟨lg_mem 982 (by decide +kernel) rfl, lg_mem 983 (by decide +kernel) rfl, lg_mem 984 (by decide +kernel) rfl, lg_mem 61 (by decide +kernel) rfl, lg_mem 985 (by decide +kernel) rfl⟩, by decide, by decide, by decide +kernel⟩
theorem mcX6_207 : MV RX6 207 yX6_isSeat cX6_isSeat (some .boolean) 2 1 := ⟨⟨lg_mem 986 (by decide +kernel) rfl, lg_mem 988 (by decide +kernel) rfl, lg_mem 39 (by decide +kernel) rfl, lg_mem 61 (by decide +kernel) rfl, lg_mem 989 (by decide +kernel) rfl⟩, by decide, by decide, by decide +kernel⟩
theorem mcX6_210 : MV RX6 210 yX6_mayHave cX6_mayHave (some .boolean) 6 2 := ⟨⟨lg_mem 990 (by decide +kernel) rfl, lg_mem 992 (by decide +kernel) rfl, lg_mem 40 (by decide +kernel) rfl, lg_mem 61 (by decide +kernel) rfl, lg_mem 993 (by decide +kernel) rfl⟩, by decide, by decide, by decide +kernel⟩
theorem mcX6_204 : MV RX6 204 yX6_miles cX6_miles (some .int) 3 2 := ⟨⟨lg_mem 994 (by decide +kernel) rfl, lg_mem 996 (by decide +kernel) rfl, lg_mem 41 (by decide +kernel) rfl, lg_mem 61 (by decide +kernel) rfl, lg_mem 997 (by decide +kernel) rfl⟩, by decide, by decide, by decide +kernel⟩
theorem mcX6_200 : MS RX6 200 yX6_less cX6_less (some .int) 2 2 := ⟨⟨lg_mem 998 (by decide +kernel) rfl, lg_mem 999 (by decide +kernel) rfl, lg_mem 61 (by decide +kernel) rfl, lg_mem 1000 (by decide +kernel) rfl⟩, by decide, by decide, by decide +kernel⟩
theorem mcL_65 : MV RL 65 yX6_cost cX6_cost (some .int) 3 2 := ⟨⟨lg_mem 1001 (by decide +kernel) rfl, lg_mem 1002 (by decide +kernel) rfl, lg_mem 1003 (by decide +kernel) rfl, lg_mem 61 (by decide +kernel) rfl, lg_mem 1004 (by decide +kernel) rfl⟩, by decide, by decide, by decide +kernel⟩
theorem mcX6_214 : MV RX6 214 yX6_costOf cX6_costOf (some .int) 3 2 := ⟨⟨lg_mem 1005 (by decide +kernel) rfl, lg_mem 1007 (by decide +kernel) rfl, lg_mem 42 (by decide +kernel) rfl, lg_mem 61 (by decide +kernel) rfl, lg_mem 1008 (by decide +kernel) rfl⟩, by decide, by decide, by decide +kernel⟩
theorem mcL_69 : MV RL 69 yX6_send cX6_send (some .int) 1 0 := ⟨⟨lg_mem 1009 (by decide +kernel) rfl, lg_mem 1010 (by decide +kernel) rfl, lg_mem 1011 (by decide +kernel) rfl, lg_mem 61 (by decide +kernel) rfl, lg_mem 1012 (by decide +kernel) rfl⟩, by decide, by decide, by decide +kernel⟩
theorem mcX6_253 : MV RX6 253 yX6_settle cX6_settle none 4 0 := ⟨⟨lg_mem 1013 (by decide +kernel) rfl, lg_mem 1015 (by decide +kernel) rfl, lg_mem 43 (by decide +kernel) rfl, lg_mem 61 (by decide +kernel) rfl, lg_mem 1016 (by decide +kernel) rfl⟩, by decide, by decide, by decide +kernel⟩
theorem mcX6_222 : MV RX6 222 yX6_seek cX6_seek none 7 1 := ⟨⟨lg_mem 1018 (by decide +kernel) rfl, lg_mem 1020 (by decide +kernel) rfl, lg_mem 44 (by decide +kernel) rfl, lg_mem 61 (by decide +kernel) rfl, lg_mem 1021 (by decide +kernel) rfl⟩, by decide, by decide, by decide +kernel⟩
theorem mcX6_219 : MV RX6 219 yX6_pays cX6_pays (some .int) 2 1 := ⟨⟨lg_mem 1023 (by decide +kernel) rfl, lg_mem 1025 (by decide +kernel) rfl, lg_mem 45 (by decide +kernel) rfl, lg_mem 61 (by decide +kernel) rfl, lg_mem 1026 (by decide +kernel) rfl⟩, by decide, by decide, by decide +kernel⟩
theorem mcX6_225 : MV RX6 225 yX6_change cX6_change none 5 1 := ⟨⟨lg_mem 1027 (by decide +kernel) rfl, lg_mem 1029 (by decide +kernel) rfl, lg_mem 46 (by decide +kernel) rfl, lg_mem 61 (by decide +kernel) rfl, lg_mem 1030 (by decide +kernel) rfl⟩, by decide, by decide, by decide +kernel⟩
theorem mcX6_228 : MV RX6 228 yX6_lessen cX6_lessen none 7 2 := ⟨⟨lg_mem 1031 (by decide +kernel) rfl, lg_mem 1033 (by decide +kernel) rfl, lg_mem 47 (by decide +kernel) rfl, lg_mem 61 (by decide +kernel) rfl, lg_mem 1034 (by decide +kernel) rfl⟩, by decide, by decide, by decide +kernel⟩
theorem mcX6_236 : MV RX6 236 yX6_placeOf cX6_placeOf (some .int) 2 1 := ⟨⟨lg_mem 1035 (by decide +kernel) rfl, lg_mem 1037 (by decide +kernel) rfl, lg_mem 48 (by decide +kernel) rfl, lg_mem 61 (by decide +kernel) rfl, lg_mem 1038 (by decide +kernel) rfl⟩, by decide, by decide, by decide +kernel⟩
theorem mcX6_246 : MV RX6 246 yX6_ways cX6_ways none 5 3 := ⟨⟨lg_mem 1039 (by decide +kernel) rfl, lg_mem 1041 (by decide +kernel) rfl, lg_mem 49 (by decide +kernel) rfl, lg_mem 61 (by decide +kernel) rfl, lg_mem 1042 (by decide +kernel) rfl⟩, by decide, by decide, by decide +kernel⟩
theorem mcX6_239 : MV RX6 239 yX6_moves cX6_moves none 5 1 := ⟨⟨lg_mem 1043 (by decide +kernel) rfl, lg_mem 1045 (by decide +kernel) rfl, lg_mem 50 (by decide +kernel) rfl, lg_mem 61 (by decide +kernel) rfl, lg_mem 1046 (by decide +kernel) rfl⟩, by decide, by decide, by decide +kernel⟩
theorem mcX6_242 : MV RX6 242 yX6_offer cX6_offer none 5 4 := ⟨⟨lg_mem 1047 (by decide +kernel) rfl, lg_mem 1049 (by decide +kernel) rfl, lg_mem 51 (by decide +kernel) rfl, lg_mem 61 (by decide +kernel) rfl, lg_mem 1050 (by decide +kernel) rfl⟩, by decide, by decide, by decide +kernel⟩
theorem mcX6_256 : MV RX6 256 yX6_filled cX6_filled (some .int) 3 0 := ⟨⟨lg_mem 1051 (by decide +kernel) rfl, lg_mem 1053 (by decide +kernel) rfl, lg_mem 52 (by decide +kernel) rfl, lg_mem 61 (by decide +kernel) rfl, lg_mem 1054 (by decide +kernel) rfl⟩, by decide, by decide, by decide +kernel⟩
theorem mcL_73 : MV RL 73 yX6_off cX6_off (some .int) 10 1 := ⟨⟨lg_mem 1055 (by decide +kernel) rfl, lg_mem 1056 (by decide +kernel) rfl, lg_mem 1057 (by decide +kernel) rfl, lg_mem 61 (by decide +kernel) rfl, lg_mem 1058 (by decide +kernel) rfl⟩, by decide, by decide, by decide +kernel⟩
theorem mcX6_259 : MV RX6 259 yX6_spare cX6_spare (some .int) 4 1 := ⟨⟨lg_mem 1059 (by decide +kernel) rfl, lg_mem 1061 (by decide +kernel) rfl, lg_mem 53 (by decide +kernel) rfl, lg_mem 61 (by decide +kernel) rfl, lg_mem 1062 (by decide +kernel) rfl⟩, by decide, by decide, by decide +kernel⟩
theorem mcL_77 : MV RL 77 yX6_seat cX6_seat (some .int) 2 1 := ⟨⟨lg_mem 1063 (by decide +kernel) rfl, lg_mem 1064 (by decide +kernel) rfl, lg_mem 1065 (by decide +kernel) rfl, lg_mem 61 (by decide +kernel) rfl, lg_mem 1066 (by decide +kernel) rfl⟩, by decide, by decide, by decide +kernel⟩
theorem mcL_82 : MV RL 82 yX6_mark cX6_mark (some .boolean) 7 4 := ⟨⟨lg_mem 1067 (by decide +kernel) rfl, lg_mem 1068 (by decide +kernel) rfl, lg_mem 1069 (by decide +kernel) rfl, lg_mem 61 (by decide +kernel) rfl, lg_mem 1070 (by decide +kernel) rfl⟩, by decide, by decide, by decide +kernel⟩
theorem mcL_86 : MV RL 86 yX6_next cX6_next (some .int) 3 0 := ⟨⟨lg_mem 1071 (by decide +kernel) rfl, lg_mem 1072 (by decide +kernel) rfl, lg_mem 1073 (by decide +kernel) rfl, lg_mem 61 (by decide +kernel) rfl, lg_mem 1074 (by decide +kernel) rfl⟩, by decide, by decide, by decide +kernel⟩
theorem mcL_92 : MV RL 92 yX6_about cX6_about (some .int) 3 2 := ⟨⟨lg_mem 1075 (by decide +kernel) rfl, lg_mem 1076 (by decide +kernel) rfl, lg_mem 1077 (by decide +kernel) rfl, lg_mem 61 (by decide +kernel) rfl, lg_mem 1078 (by decide +kernel) rfl⟩, by decide, by decide, by decide +kernel⟩
theorem mcX6_262 : MV RX6 262 yX6_refuse cX6_refuse (some .int) 1 0 := ⟨⟨lg_mem 1079 (by decide +kernel) rfl, lg_mem 1081 (by decide +kernel) rfl, lg_mem 54 (by decide +kernel) rfl, lg_mem 61 (by decide +kernel) rfl, lg_mem 1082 (by decide +kernel) rfl⟩, by decide, by decide, by decide +kernel⟩
theorem mcL_99 : MV RL 99 yX6_stood cX6_stood (some .int) 3 2 := ⟨⟨lg_mem 1083 (by decide +kernel) rfl, lg_mem 1084 (by decide +kernel) rfl, lg_mem 1085 (by decide +kernel) rfl, lg_mem 61 (by decide +kernel) rfl, lg_mem 1086 (by decide +kernel) rfl⟩, by decide, by decide, by decide +kernel⟩
theorem mcL_103 : MV RL 103 yX6_together cX6_together (some .int) 3 0 := ⟨⟨lg_mem 1087 (by decide +kernel) rfl, lg_mem 1088 (by decide +kernel) rfl, lg_mem 1089 (by decide +kernel) rfl, lg_mem 61 (by decide +kernel) rfl, lg_mem 1090 (by decide +kernel) rfl⟩, by decide, by decide, by decide +kernel⟩
theorem mcL_107 : MV RL 107 yX6_count cX6_count (some .int) 2 1 := ⟨⟨lg_mem 1091 (by decide +kernel) rfl, lg_mem 1092 (by decide +kernel) rfl, lg_mem 1093 (by decide +kernel) rfl, lg_mem 61 (by decide +kernel) rfl, lg_mem 1094 (by decide +kernel) rfl⟩, by decide, by decide, by decide +kernel⟩
end
section
/-! THE WORLD'S LAYOUT: cells in the order of their making. 0 board, 1 Tape, 2 its bytes, 3 RuleBook, 4 values, 5 draft, 6 umpires, 7 games, 8..15 Games, 16 holders, 17 Sender, 18..26 its rows, 27 the model, 28..57 its rows, 58 the law's row, 59+3u an Umpire, 60+3u awayWeeks, 61+3u clubsByWeek -/
def shL : List (Nat × Nat) := [(21, 0), (19, 0), (1, 180), (17, 0), (0, 9), (0, 9), (3, 20), (4, 8), (16, 0), (16, 0), (16, 0), (16, 0), (16, 0), (16, 0), (16, 0), (16, 0), (0, 16), (18, 0), (0, 320), (0, 36), (0, 36), (0, 36), (0, 36), (0, 36), (0, 36), (0, 36), (2, 36),
  (22, 0), (0, 180), (0, 9), (0, 9), (0, 9), (0, 9), (0, 9), (0, 20), (0, 20), (0, 20), (0, 20), (0, 20), (0, 20), (0, 20), (0, 20), (0, 2000), (2, 2000), (0, 8), (0, 8), (0, 8), (0, 8), (0, 16), (0, 16), (0, 16), (0, 16), (0, 320), (0, 20), (2, 16), (0, 22), (0, 22), (0, 22), (5, 1)]
def shG (nu k : Nat) : Nat × Nat := if k < 59 then shL.getD k (99, 0) else if k < 59 + 3 * nu then (if (k - 59) % 3 = 0 then (20, 0) else if (k - 59) % 3 = 1 then (2, 100) else (0, 100)) else (99, 0)
def rfL (k : Nat) : List (Option Nat) := match k with
  | 0 => [some 1, some 3, some 6, some 7, some 16, some 17]
  | 1 => [some 2]
  | 3 => [some 4, some 5]
  | 7 => [some 8, some 9, some 10, some 11, some 12, some 13, some 14, some 15]
  | 17 => [some 18, some 19, some 20, some 21, some 22, some 23, some 24, some 25, some 26]
  | 27 => [none, some 28, none, some 29, some 30, some 31, some 32, some 33, none, none, none, none, none, none, none, none, none, some 34, some 35, some 36, some 37, some 38, some 39, some 40, some 41, some 42, some 43, some 44, some 45, some 46, some 47, some 48, some 49, none, none, none, none, some 50, some 51, some 52, some 53, some 54, some 55, some 56, some 57]
  | _ => []
def rfG (nu k : Nat) (j : Int) : Option Nat :=
  if k < 59 then (if k = 6 then (if 0 ≤ j ∧ j < nu then some (59 + 3 * j.toNat) else none) else if 0 ≤ j then (rfL k).getD j.toNat none else none)
  else if k < 59 + 3 * nu then (if (k - 59) % 3 = 0 then (if j = 9 then some (k + 1) else if j = 10 then some (k + 2) else none) else none) else none
def SG (nu : Nat) : AS := (59 + 3 * nu, shG nu, rfG nu)
theorem sh_ump {nu u : Nat} (h : u < nu) : (SG nu).2.1 (59 + 3 * u) = (20, 0) := by
  show shG nu _ = _
  unfold shG
  rw [if_neg (by omega), if_pos (by omega), if_pos (by omega)]
theorem sh_away {nu u : Nat} (h : u < nu) : (SG nu).2.1 (60 + 3 * u) = (2, 100) := by
  show shG nu _ = _
  unfold shG
  rw [if_neg (by omega), if_pos (by omega), if_neg (by omega), if_pos (by omega)]
theorem sh_clubs {nu u : Nat} (h : u < nu) : (SG nu).2.1 (61 + 3 * u) = (0, 100) := by
  show shG nu _ = _
  unfold shG
  rw [if_neg (by omega), if_pos (by omega), if_neg (by omega), if_neg (by omega)]
theorem rf_ump {nu : Nat} {j : Int} (h0 : 0 ≤ j) (h1 : j < nu) : (SG nu).2.2 6 j = some (59 + 3 * j.toNat) := by
  show rfG nu 6 j = _
  unfold rfG
  rw [if_pos (by omega), if_pos rfl, if_pos ⟨h0, h1⟩]
theorem rf_umpN {nu : Nat} {j : Int} (h : ¬ (0 ≤ j ∧ j < nu)) : (SG nu).2.2 6 j = none := by
  show rfG nu 6 j = _
  unfold rfG
  rw [if_pos (by omega), if_pos rfl, if_neg h]
theorem rf_away {nu u : Nat} (h : u < nu) : (SG nu).2.2 (59 + 3 * u) 9 = some (60 + 3 * u) := by
  show rfG nu _ _ = _
  unfold rfG
  rw [if_neg (by omega), if_pos (by omega), if_pos (by omega), if_pos rfl]
  exact congrArg some (by omega)
theorem rf_clubs {nu u : Nat} (h : u < nu) : (SG nu).2.2 (59 + 3 * u) 10 = some (61 + 3 * u) := by
  show rfG nu _ _ = _
  unfold rfG
  rw [if_neg (by omega), if_pos (by omega), if_pos (by omega), if_neg (by omega), if_pos rfl]
  exact congrArg some (by omega)
theorem rf_game {nu : Nat} {j : Int} (h0 : 0 ≤ j) (h1 : j < 8) : (SG nu).2.2 7 j = some (8 + j.toNat) := by
  obtain ⟨n, rfl⟩ := Int.eq_ofNat_of_zero_le h0
  have h2 : n < 8 := by omega
  match n, h2 with
  | 0, _ => rfl
  | 1, _ => rfl
  | 2, _ => rfl
  | 3, _ => rfl
  | 4, _ => rfl
  | 5, _ => rfl
  | 6, _ => rfl
  | 7, _ => rfl
theorem iRm {x : Int} (h1 : -2147483648 ≤ x) (h2 : x < 2147483648) : iR x := ⟨h1, h2⟩
def rI (S : AS) (x : Int) (v : VV) : Option AV → AS → VV → Prop := fun r S2 v2 => r = some (ai x) ∧ S2 = S ∧ v2 = v
def rA (S : AS) (x : Option Nat) (v : VV) : Option AV → AS → VV → Prop := fun r S2 v2 => r = some (ar x) ∧ S2 = S ∧ v2 = v
def rV (S : AS) (v : VV) : Option AV → AS → VV → Prop := fun r S2 v2 => r = none ∧ S2 = S ∧ v2 = v
theorem rI_k {S : AS} {x : Int} {v : VV} {F : Option AV → AS → VV → Prop} (h : F (some (ai x)) S v) : ∀ r S2 v2, rI S x v r S2 v2 → F r S2 v2 := by
  intro r S2 v2 ⟨h1, h2, h3⟩
  subst h1; subst h2; subst h3
  exact h
theorem rA_k {S : AS} {x : Option Nat} {v : VV} {F : Option AV → AS → VV → Prop} (h : F (some (ar x)) S v) : ∀ r S2 v2, rA S x v r S2 v2 → F r S2 v2 := by
  intro r S2 v2 ⟨h1, h2, h3⟩
  subst h1; subst h2; subst h3
  exact h
theorem rV_k {S : AS} {v : VV} {F : Option AV → AS → VV → Prop} (h : F none S v) : ∀ r S2 v2, rV S v r S2 v2 → F r S2 v2 := by
  intro r S2 v2 ⟨h1, h2, h3⟩
  subst h1; subst h2; subst h3
  exact h
end
section
section GW
variable {l : Launch} {μ : MU} {Φ : Option AV → AS → VV → Prop} {c0 s0 : Nat} {S : AS} {pc : Nat} {ls : LL} {st : List AV} {v : VV}
theorem G_cVi {idx : Nat} {y : MethodName} {cc : ByteArray} {ret : Option FieldType} {maxL d2 mc2 ms2 n k ci : Nat} {as stk : List AV} {S2 : AS} {v2 : VV} {x : Int} (hd : decode μ.2.1 pc = .ok (.invokevirtual idx, 3)) (hs : (S.2.1 k).1 = 16 + ci) (hci : ci < 7) (hR : Rof ci = y.cls) (h2 : Ct l y cc ret maxL d2 mc2 ms2 (ar (some k) :: as) S v (rI S2 x v2)) (hm : MV μ.1.cls idx y cc ret maxL n) (hn : as.length = n) (hst : stk = as.reverse ++ ar (some k) :: st) (hdp : d2 + 1 ≤ μ.2.2.2.2.1) (hmx : Nat.ble maxL 18 = true) (hrm : Nat.ble (st.map acat).sum 8 = true) (hcl : c0 + mc2 ≤ μ.2.2.2.2.2.1) (hsl : s0 + ms2 ≤ μ.2.2.2.2.2.2.1) (kk : G l μ Φ (c0 + mc2) (s0 + ms2) S2 (pc + 3) ls (ai x :: st) v2) : G l μ Φ c0 s0 S pc ls stk v := by
  subst hn
  exact G_callV hd hm hs hci hR h2 hst hdp hmx hrm hcl hsl (rI_k (F := fun r S2 v2 => G l μ Φ (c0 + mc2) (s0 + ms2) S2 (pc + 3) ls (r.toList ++ st) v2) kk)
theorem G_cSi {idx : Nat} {y : MethodName} {cc : ByteArray} {ret : Option FieldType} {maxL d2 mc2 ms2 n : Nat} {as stk : List AV} {S2 : AS} {v2 : VV} {x : Int} (hd : decode μ.2.1 pc = .ok (.invokestatic idx, 3)) (h2 : Ct l y cc ret maxL d2 mc2 ms2 (as) S v (rI S2 x v2)) (hm : MS μ.1.cls idx y cc ret maxL n) (hn : as.length = n) (hst : stk = as.reverse ++ st) (hdp : d2 + 1 ≤ μ.2.2.2.2.1) (hmx : Nat.ble maxL 18 = true) (hrm : Nat.ble (st.map acat).sum 8 = true) (hcl : c0 + mc2 ≤ μ.2.2.2.2.2.1) (hsl : s0 + ms2 ≤ μ.2.2.2.2.2.2.1) (kk : G l μ Φ (c0 + mc2) (s0 + ms2) S2 (pc + 3) ls (ai x :: st) v2) : G l μ Φ c0 s0 S pc ls stk v := by
  subst hn
  exact G_callS hd hm h2 hst hdp hmx hrm hcl hsl (rI_k (F := fun r S2 v2 => G l μ Φ (c0 + mc2) (s0 + ms2) S2 (pc + 3) ls (r.toList ++ st) v2) kk)
theorem G_cVa {idx : Nat} {y : MethodName} {cc : ByteArray} {ret : Option FieldType} {maxL d2 mc2 ms2 n k ci : Nat} {as stk : List AV} {S2 : AS} {v2 : VV} {x : Option Nat} (hd : decode μ.2.1 pc = .ok (.invokevirtual idx, 3)) (hs : (S.2.1 k).1 = 16 + ci) (hci : ci < 7) (hR : Rof ci = y.cls) (h2 : Ct l y cc ret maxL d2 mc2 ms2 (ar (some k) :: as) S v (rA S2 x v2)) (hm : MV μ.1.cls idx y cc ret maxL n) (hn : as.length = n) (hst : stk = as.reverse ++ ar (some k) :: st) (hdp : d2 + 1 ≤ μ.2.2.2.2.1) (hmx : Nat.ble maxL 18 = true) (hrm : Nat.ble (st.map acat).sum 8 = true) (hcl : c0 + mc2 ≤ μ.2.2.2.2.2.1) (hsl : s0 + ms2 ≤ μ.2.2.2.2.2.2.1) (kk : G l μ Φ (c0 + mc2) (s0 + ms2) S2 (pc + 3) ls (ar x :: st) v2) : G l μ Φ c0 s0 S pc ls stk v := by
  subst hn
  exact G_callV hd hm hs hci hR h2 hst hdp hmx hrm hcl hsl (rA_k (F := fun r S2 v2 => G l μ Φ (c0 + mc2) (s0 + ms2) S2 (pc + 3) ls (r.toList ++ st) v2) kk)
theorem G_cSa {idx : Nat} {y : MethodName} {cc : ByteArray} {ret : Option FieldType} {maxL d2 mc2 ms2 n : Nat} {as stk : List AV} {S2 : AS} {v2 : VV} {x : Option Nat} (hd : decode μ.2.1 pc = .ok (.invokestatic idx, 3)) (h2 : Ct l y cc ret maxL d2 mc2 ms2 (as) S v (rA S2 x v2)) (hm : MS μ.1.cls idx y cc ret maxL n) (hn : as.length = n) (hst : stk = as.reverse ++ st) (hdp : d2 + 1 ≤ μ.2.2.2.2.1) (hmx : Nat.ble maxL 18 = true) (hrm : Nat.ble (st.map acat).sum 8 = true) (hcl : c0 + mc2 ≤ μ.2.2.2.2.2.1) (hsl : s0 + ms2 ≤ μ.2.2.2.2.2.2.1) (kk : G l μ Φ (c0 + mc2) (s0 + ms2) S2 (pc + 3) ls (ar x :: st) v2) : G l μ Φ c0 s0 S pc ls stk v := by
  subst hn
  exact G_callS hd hm h2 hst hdp hmx hrm hcl hsl (rA_k (F := fun r S2 v2 => G l μ Φ (c0 + mc2) (s0 + ms2) S2 (pc + 3) ls (r.toList ++ st) v2) kk)
theorem G_cVv {idx : Nat} {y : MethodName} {cc : ByteArray} {ret : Option FieldType} {maxL d2 mc2 ms2 n k ci : Nat} {as stk : List AV} {S2 : AS} {v2 : VV} (hd : decode μ.2.1 pc = .ok (.invokevirtual idx, 3)) (hs : (S.2.1 k).1 = 16 + ci) (hci : ci < 7) (hR : Rof ci = y.cls) (h2 : Ct l y cc ret maxL d2 mc2 ms2 (ar (some k) :: as) S v (rV S2 v2)) (hm : MV μ.1.cls idx y cc ret maxL n) (hn : as.length = n) (hst : stk = as.reverse ++ ar (some k) :: st) (hdp : d2 + 1 ≤ μ.2.2.2.2.1) (hmx : Nat.ble maxL 18 = true) (hrm : Nat.ble (st.map acat).sum 8 = true) (hcl : c0 + mc2 ≤ μ.2.2.2.2.2.1) (hsl : s0 + ms2 ≤ μ.2.2.2.2.2.2.1) (kk : G l μ Φ (c0 + mc2) (s0 + ms2) S2 (pc + 3) ls (st) v2) : G l μ Φ c0 s0 S pc ls stk v := by
  subst hn
  exact G_callV hd hm hs hci hR h2 hst hdp hmx hrm hcl hsl (rV_k (F := fun r S2 v2 => G l μ Φ (c0 + mc2) (s0 + ms2) S2 (pc + 3) ls (r.toList ++ st) v2) kk)
theorem G_cSv {idx : Nat} {y : MethodName} {cc : ByteArray} {ret : Option FieldType} {maxL d2 mc2 ms2 n : Nat} {as stk : List AV} {S2 : AS} {v2 : VV} (hd : decode μ.2.1 pc = .ok (.invokestatic idx, 3)) (h2 : Ct l y cc ret maxL d2 mc2 ms2 (as) S v (rV S2 v2)) (hm : MS μ.1.cls idx y cc ret maxL n) (hn : as.length = n) (hst : stk = as.reverse ++ st) (hdp : d2 + 1 ≤ μ.2.2.2.2.1) (hmx : Nat.ble maxL 18 = true) (hrm : Nat.ble (st.map acat).sum 8 = true) (hcl : c0 + mc2 ≤ μ.2.2.2.2.2.1) (hsl : s0 + ms2 ≤ μ.2.2.2.2.2.2.1) (kk : G l μ Φ (c0 + mc2) (s0 + ms2) S2 (pc + 3) ls (st) v2) : G l μ Φ c0 s0 S pc ls stk v := by
  subst hn
  exact G_callS hd hm h2 hst hdp hmx hrm hcl hsl (rV_k (F := fun r S2 v2 => G l μ Φ (c0 + mc2) (s0 + ms2) S2 (pc + 3) ls (r.toList ++ st) v2) kk)
theorem G_cIv {idx : Nat} {y : MethodName} {cc : ByteArray} {maxL d2 mc2 ms2 n k : Nat} {as stk : List AV} {S2 : AS} {v2 : VV} (hd : decode μ.2.1 pc = .ok (.invokespecial idx, 3)) (h2 : Ct l y cc none maxL d2 mc2 ms2 (ar (some k) :: as) S v (rV S2 v2)) (hm : MI μ.1.cls idx y cc maxL n) (hn : as.length = n) (hst : stk = as.reverse ++ ar (some k) :: st) (hdp : d2 + 1 ≤ μ.2.2.2.2.1) (hmx : Nat.ble maxL 18 = true) (hrm : Nat.ble (st.map acat).sum 8 = true) (hcl : c0 + mc2 ≤ μ.2.2.2.2.2.1) (hsl : s0 + ms2 ≤ μ.2.2.2.2.2.2.1) (kk : G l μ Φ (c0 + mc2) (s0 + ms2) S2 (pc + 3) ls (st) v2) : G l μ Φ c0 s0 S pc ls stk v := by
  subst hn
  exact G_callI hd hm h2 hst hdp hmx hrm hcl hsl (rV_k (F := fun r S2 v2 => G l μ Φ (c0 + mc2) (s0 + ms2) S2 (pc + 3) ls (r.toList ++ st) v2) kk)
theorem G_cNv {idx : Nat} {y : MethodName} {cc : ByteArray} {maxL d2 mc2 ms2 n k : Nat} {as stk : List AV} {S2 : AS} {v2 : VV} (hd : decode μ.2.1 pc = .ok (.invokespecial idx, 3)) (h2 : Ct l y cc none maxL d2 mc2 ms2 (ar (some k) :: as) S v (rV S2 v2)) (hm : MIN μ.1.cls idx y cc maxL n) (hn : as.length = n) (hst : stk = as.reverse ++ ar (some k) :: st) (hdp : d2 + 1 ≤ μ.2.2.2.2.1) (hmx : Nat.ble maxL 18 = true) (hrm : Nat.ble (st.map acat).sum 8 = true) (hcl : c0 + mc2 ≤ μ.2.2.2.2.2.1) (hsl : s0 + ms2 ≤ μ.2.2.2.2.2.2.1) (kk : G l μ Φ (c0 + mc2) (s0 + ms2) S2 (pc + 3) ls (st) v2) : G l μ Φ c0 s0 S pc ls stk v := by
  subst hn
  exact G_callIN hd hm h2 hst hdp hmx hrm hcl hsl (rV_k (F := fun r S2 v2 => G l μ Φ (c0 + mc2) (s0 + ms2) S2 (pc + 3) ls (r.toList ++ st) v2) kk)
theorem G_cVq {idx : Nat} {y : MethodName} {cc : ByteArray} {ret : Option FieldType} {maxL d2 mc2 ms2 n k ci : Nat} {as stk : List AV} {Φ2 : Option AV → AS → VV → Prop} (hd : decode μ.2.1 pc = .ok (.invokevirtual idx, 3)) (hs : (S.2.1 k).1 = 16 + ci) (hci : ci < 7) (hR : Rof ci = y.cls) (h2 : Ct l y cc ret maxL d2 mc2 ms2 (ar (some k) :: as) S v (Φ2)) (hm : MV μ.1.cls idx y cc ret maxL n) (hn : as.length = n) (hst : stk = as.reverse ++ ar (some k) :: st) (hdp : d2 + 1 ≤ μ.2.2.2.2.1) (hmx : Nat.ble maxL 18 = true) (hrm : Nat.ble (st.map acat).sum 8 = true) (hcl : c0 + mc2 ≤ μ.2.2.2.2.2.1) (hsl : s0 + ms2 ≤ μ.2.2.2.2.2.2.1) (kk : ∀ (r : Option AV) (S2 : AS) (v2 : VV), Φ2 r S2 v2 → G l μ Φ (c0 + mc2) (s0 + ms2) S2 (pc + 3) ls (r.toList ++ st) v2) : G l μ Φ c0 s0 S pc ls stk v := by
  subst hn
  exact G_callV hd hm hs hci hR h2 hst hdp hmx hrm hcl hsl kk
theorem G_cSq {idx : Nat} {y : MethodName} {cc : ByteArray} {ret : Option FieldType} {maxL d2 mc2 ms2 n : Nat} {as stk : List AV} {Φ2 : Option AV → AS → VV → Prop} (hd : decode μ.2.1 pc = .ok (.invokestatic idx, 3)) (h2 : Ct l y cc ret maxL d2 mc2 ms2 (as) S v (Φ2)) (hm : MS μ.1.cls idx y cc ret maxL n) (hn : as.length = n) (hst : stk = as.reverse ++ st) (hdp : d2 + 1 ≤ μ.2.2.2.2.1) (hmx : Nat.ble maxL 18 = true) (hrm : Nat.ble (st.map acat).sum 8 = true) (hcl : c0 + mc2 ≤ μ.2.2.2.2.2.1) (hsl : s0 + ms2 ≤ μ.2.2.2.2.2.2.1) (kk : ∀ (r : Option AV) (S2 : AS) (v2 : VV), Φ2 r S2 v2 → G l μ Φ (c0 + mc2) (s0 + ms2) S2 (pc + 3) ls (r.toList ++ st) v2) : G l μ Φ c0 s0 S pc ls stk v := by
  subst hn
  exact G_callS hd hm h2 hst hdp hmx hrm hcl hsl kk
theorem G_cIq {idx : Nat} {y : MethodName} {cc : ByteArray} {maxL d2 mc2 ms2 n k : Nat} {as stk : List AV} {Φ2 : Option AV → AS → VV → Prop} (hd : decode μ.2.1 pc = .ok (.invokespecial idx, 3)) (h2 : Ct l y cc none maxL d2 mc2 ms2 (ar (some k) :: as) S v (Φ2)) (hm : MI μ.1.cls idx y cc maxL n) (hn : as.length = n) (hst : stk = as.reverse ++ ar (some k) :: st) (hdp : d2 + 1 ≤ μ.2.2.2.2.1) (hmx : Nat.ble maxL 18 = true) (hrm : Nat.ble (st.map acat).sum 8 = true) (hcl : c0 + mc2 ≤ μ.2.2.2.2.2.1) (hsl : s0 + ms2 ≤ μ.2.2.2.2.2.2.1) (kk : ∀ (r : Option AV) (S2 : AS) (v2 : VV), Φ2 r S2 v2 → G l μ Φ (c0 + mc2) (s0 + ms2) S2 (pc + 3) ls (r.toList ++ st) v2) : G l μ Φ c0 s0 S pc ls stk v := by
  subst hn
  exact G_callI hd hm h2 hst hdp hmx hrm hcl hsl kk
theorem G_cNq {idx : Nat} {y : MethodName} {cc : ByteArray} {maxL d2 mc2 ms2 n k : Nat} {as stk : List AV} {Φ2 : Option AV → AS → VV → Prop} (hd : decode μ.2.1 pc = .ok (.invokespecial idx, 3)) (h2 : Ct l y cc none maxL d2 mc2 ms2 (ar (some k) :: as) S v (Φ2)) (hm : MIN μ.1.cls idx y cc maxL n) (hn : as.length = n) (hst : stk = as.reverse ++ ar (some k) :: st) (hdp : d2 + 1 ≤ μ.2.2.2.2.1) (hmx : Nat.ble maxL 18 = true) (hrm : Nat.ble (st.map acat).sum 8 = true) (hcl : c0 + mc2 ≤ μ.2.2.2.2.2.1) (hsl : s0 + ms2 ≤ μ.2.2.2.2.2.2.1) (kk : ∀ (r : Option AV) (S2 : AS) (v2 : VV), Φ2 r S2 v2 → G l μ Φ (c0 + mc2) (s0 + ms2) S2 (pc + 3) ls (r.toList ++ st) v2) : G l μ Φ c0 s0 S pc ls stk v := by
  subst hn
  exact G_callIN hd hm h2 hst hdp hmx hrm hcl hsl kk
theorem GI_eq {S2 : AS} {v2 : VV} {x y : Int} (h : x = y) (k : G l μ (rI S2 x v2) c0 s0 S pc ls st v) : G l μ (rI S2 y v2) c0 s0 S pc ls st v := h ▸ k
theorem GV_eq {S2 : AS} {v2 v3 : VV} (h : v2 = v3) (k : G l μ (rV S2 v2) c0 s0 S pc ls st v) : G l μ (rV S2 v3) c0 s0 S pc ls st v := h ▸ k
theorem G_at {v2 : VV} (h : v2 = v) (k : G l μ Φ c0 s0 S pc ls st v2) : G l μ Φ c0 s0 S pc ls st v := h ▸ k
theorem G_ls {ls2 : LL} (h : ls2 = ls) (k : G l μ Φ c0 s0 S pc ls2 st v) : G l μ Φ c0 s0 S pc ls st v := h ▸ k
theorem G_st {st2 : List AV} (h : st2 = st) (k : G l μ Φ c0 s0 S pc ls st2 v) : G l μ Φ c0 s0 S pc ls st v := h ▸ k
theorem G_mono {Φ2 : Option AV → AS → VV → Prop} (h : ∀ r S2 v2, Φ2 r S2 v2 → Φ r S2 v2) (k : G l μ Φ2 c0 s0 S pc ls st v) : G l μ Φ c0 s0 S pc ls st v := by
  intro p en s m args below meth c H locs D T ea A ad ad0 n0 lsC hC hS T2 hT X
  obtain ⟨t, a, o, b1, b2, ⟨⟨r, S2, v2, ad2, q1, q2, q3⟩, q4⟩, b4⟩ := k p en s m args below meth c H locs D T ea A ad ad0 n0 lsC hC hS T2 hT X
  exact ⟨t, a, o, b1, b2, ⟨⟨r, S2, v2, ad2, q1, h r S2 v2 q2, q3⟩, q4⟩, b4⟩
end GW
theorem up_get (v : VV) (k a : Nat) (j x b : Int) : up v k j x a b = if a = k ∧ b = j then x else v a b := rfl
def sumF (f : Int → Int) : Nat → Int → Int
  | 0, _ => 0
  | n + 1, i => f i + sumF f n (i + 1)
theorem sumF_bd {f : Int → Int} {lo hi : Int} (h : ∀ i, lo ≤ f i ∧ f i ≤ hi) (n : Nat) : ∀ i, n * lo ≤ sumF f n i ∧ sumF f n i ≤ n * hi := by
  induction n with
  | zero => intro i; simp [sumF]
  | succ n ih =>
    intro i
    have h1 := ih (i + 1)
    have h2 := h i
    rw [sumF]
    have e : ((n + 1 : Nat) : Int) = (n : Int) + 1 := by omega
    rw [e, Int.add_mul, Int.add_mul]
    omega
end
section
section GX
variable {l : Launch} {μ : MU} {Φ : Option AV → AS → VV → Prop} {c0 s0 : Nat} {S : AS} {pc : Nat} {ls : LL} {st : List AV} {v : VV}
theorem G_getIv {idx ci j k : Nat} (x : Int) (hd : decode μ.2.1 pc = .ok (.getfield idx, 3)) (hf : FL μ.1.cls idx ci j) {jj : Int} (hj : ((j : Nat) : Int) = jj) (hs : (S.2.1 k).1 = 16 + ci) (hi : Nat.blt (fk ci j) 3 = true) (hx : v k jj = x) (kk : G l μ Φ c0 s0 S (pc+3) ls (ai x :: st) v) : G l μ Φ c0 s0 S (pc) ls (ar (some k) :: st) v := by
  subst hx
  exact G_getI hd hf hj hs hi kk
theorem G_getRv {idx ci j k : Nat} (x : Option Nat) (hd : decode μ.2.1 pc = .ok (.getfield idx, 3)) (hf : FL μ.1.cls idx ci j) {jj : Int} (hj : ((j : Nat) : Int) = jj) (hs : (S.2.1 k).1 = 16 + ci) (hi : fk ci j = 3) (hx : S.2.2 k jj = x) (kk : G l μ Φ c0 s0 S (pc+3) ls (ar x :: st) v) : G l μ Φ c0 s0 S (pc) ls (ar (some k) :: st) v := by
  subst hx
  exact G_getR hd hf hj hs hi kk
theorem G_ialdv {k len : Nat} {i : Int} (x : Int) (hd : decode μ.2.1 pc = .ok (.iaload, 1)) (hs : S.2.1 k = (0, len)) (h0 : 0 ≤ i) (h1 : i < (len : Int)) (hx : v k i = x) (kk : G l μ Φ c0 s0 S (pc+1) ls (ai x :: st) v) : G l μ Φ c0 s0 S (pc) ls (ai i :: ar (some k) :: st) v := by
  subst hx
  exact G_iald hd hs h0 h1 kk
theorem G_zaldv {k len : Nat} {i : Int} (x : Int) (hd : decode μ.2.1 pc = .ok (.baload, 1)) (hs : S.2.1 k = (2, len)) (h0 : 0 ≤ i) (h1 : i < (len : Int)) (hx : v k i = x) (kk : G l μ Φ c0 s0 S (pc+1) ls (ai x :: st) v) : G l μ Φ c0 s0 S (pc) ls (ai i :: ar (some k) :: st) v := by
  subst hx
  exact G_zald hd hs h0 h1 kk
theorem G_aaldv {k len t : Nat} {C : String} {i : Int} (x : Option Nat) (hd : decode μ.2.1 pc = .ok (.aaload, 1)) (hs : S.2.1 k = (t, len)) (h0 : 0 ≤ i) (h1 : i < (len : Int)) (ht : (t = 3 ∧ C = "WicketBoard$Umpire") ∨ (t = 4 ∧ C = "WicketBoard$Game")) (hx : S.2.2 k i = x) (kk : G l μ Φ c0 s0 S (pc+1) ls (ar x :: st) v) : G l μ Φ c0 s0 S (pc) ls (ai i :: ar (some k) :: st) v := by
  subst hx
  exact G_aald hd hs h0 h1 ht kk
end GX
def rE (S : AS) (P : Int → Prop) (v : VV) : Option AV → AS → VV → Prop := fun r S2 v2 => ∃ x, r = some (ai x) ∧ P x ∧ S2 = S ∧ v2 = v
end
section
def fst (p : Int → Bool) : Nat → Int → Int
  | 0, _ => -1
  | n + 1, i => if p i then i else fst p n (i + 1)
theorem fst_no {p : Int → Bool} {n : Nat} {i : Int} (h : p i = false) : fst p (n + 1) i = fst p n (i + 1) := by simp [fst, h]
theorem fst_yes {p : Int → Bool} {n : Nat} {i : Int} (h : p i = true) : fst p (n + 1) i = i := by simp [fst, h]
def seatOfS (v : VV) (u : Int) : Int := fst (fun s => decide (v 48 s = u)) (2 * v 27 34).toNat 0
def lessS (a b : Int) : Int := if b < a then a - b else b - a
def milesS (v : VV) (u s : Int) : Int := lessS (v 34 u) (v 44 (s / 2)) + lessS (v 35 u) (v 45 (s / 2))
def costS (v : VV) (u s : Int) : Int := milesS v u s + v 29 3 * v 41 u
def filledS (v : VV) : Int := sumF (fun s => if v 48 s = -1 then 0 else 1) (2 * v 27 34).toNat 0
theorem up_id (v : VV) (k : Nat) (j : Int) : up v k j (v k j) = v := by
  funext a b
  unfold up
  split
  · rename_i h; rw [h.1, h.2]
  · rfl
set_option maxRecDepth 20000 in
set_option maxHeartbeats 1000000 in
theorem c_X6_thrown (l : Launch) (d nu : Nat) (v : VV)  : Ct l yX6_thrown cX6_thrown (some .int) 1 (d + 0) 0 0 [ar (some 27)] (SG nu) v (rI (SG nu) (v 27 0) v) := by
  refine Ct_of_G [some (ar (some 27))] (by decide) rfl rfl ?_
  refine G_aload_n dX6_thrown_0 rfl ?_
  refine G_getI (jj := 0) dX6_thrown_1 flX6_101 rfl rfl rfl ?_
  exact G_iret dX6_thrown_4 rfl rfl rfl ⟨rfl, rfl, rfl⟩
set_option maxRecDepth 20000 in
set_option maxHeartbeats 1000000 in
theorem c_X6_refuse (l : Launch) (d nu : Nat) (v : VV)  : Ct l yX6_refuse cX6_refuse (some .int) 1 (d + 0) 0 0 [ar (some 27)] (SG nu) v (rI (SG nu) (0) (up v 27 0 1)) := by
  refine Ct_of_G [some (ar (some 27))] (by decide) rfl rfl ?_
  refine G_aload_n dX6_refuse_0 rfl ?_
  refine G_iconst (n := 1) dX6_refuse_1 ⟨by decide, by decide⟩ ?_
  refine G_putI (jj := 0) dX6_refuse_2 flX6_101 rfl rfl rfl rfl ?_
  refine G_iconst (n := 0) dX6_refuse_5 ⟨by decide, by decide⟩ ?_
  exact G_iret dX6_refuse_6 rfl rfl rfl ⟨rfl, rfl, rfl⟩
set_option maxRecDepth 20000 in
set_option maxHeartbeats 1000000 in
theorem c_X6_isDigit (l : Launch) (d nu : Nat) (v : VV) (c : Int) : Ct l yX6_isDigit cX6_isDigit (some .boolean) 1 (d + 0) 0 0 [ai c] (SG nu) v (rI (SG nu) (if 48 ≤ c ∧ c ≤ 57 then 1 else 0) v) := by
  refine Ct_of_G [some (ai c)] (by decide) rfl rfl ?_
  refine G_iload_n dX6_isDigit_0 rfl ?_
  refine G_bipush (n := 48) dX6_isDigit_1 (by decide) ⟨by decide, by decide⟩ ?_
  refine G_icmp_lt 16 dX6_isDigit_3 (by decide) (fun h3 => ?_) (fun h3 => ?_)
  · refine G_iconst (n := 0) dX6_isDigit_16 ⟨by decide, by decide⟩ ?_
    exact G_zret dX6_isDigit_17 rfl (by omega) rfl rfl ⟨by first | (rw [if_pos (by omega)]) | (rw [if_neg (by omega)]), rfl, rfl⟩
  · refine G_iload_n dX6_isDigit_6 rfl ?_
    refine G_bipush (n := 57) dX6_isDigit_7 (by decide) ⟨by decide, by decide⟩ ?_
    refine G_icmp_gt 16 dX6_isDigit_9 (by decide) (fun h9 => ?_) (fun h9 => ?_)
    · refine G_iconst (n := 0) dX6_isDigit_16 ⟨by decide, by decide⟩ ?_
      exact G_zret dX6_isDigit_17 rfl (by omega) rfl rfl ⟨by first | (rw [if_pos (by omega)]) | (rw [if_neg (by omega)]), rfl, rfl⟩
    · refine G_iconst (n := 1) dX6_isDigit_12 ⟨by decide, by decide⟩ ?_
      refine G_goto 17 dX6_isDigit_13 (by decide) ?_
      exact G_zret dX6_isDigit_17 rfl (by omega) rfl rfl ⟨by first | (rw [if_pos (by omega)]) | (rw [if_neg (by omega)]), rfl, rfl⟩
set_option maxRecDepth 20000 in
set_option maxHeartbeats 1000000 in
theorem c_X6_isLetter (l : Launch) (d nu : Nat) (v : VV) (c : Int) : Ct l yX6_isLetter cX6_isLetter (some .boolean) 1 (d + 0) 0 0 [ai c] (SG nu) v (rI (SG nu) (if 97 ≤ c ∧ c ≤ 122 then 1 else 0) v) := by
  refine Ct_of_G [some (ai c)] (by decide) rfl rfl ?_
  refine G_iload_n dX6_isLetter_0 rfl ?_
  refine G_bipush (n := 97) dX6_isLetter_1 (by decide) ⟨by decide, by decide⟩ ?_
  refine G_icmp_lt 16 dX6_isLetter_3 (by decide) (fun h3 => ?_) (fun h3 => ?_)
  · refine G_iconst (n := 0) dX6_isLetter_16 ⟨by decide, by decide⟩ ?_
    exact G_zret dX6_isLetter_17 rfl (by omega) rfl rfl ⟨by first | (rw [if_pos (by omega)]) | (rw [if_neg (by omega)]), rfl, rfl⟩
  · refine G_iload_n dX6_isLetter_6 rfl ?_
    refine G_bipush (n := 122) dX6_isLetter_7 (by decide) ⟨by decide, by decide⟩ ?_
    refine G_icmp_gt 16 dX6_isLetter_9 (by decide) (fun h9 => ?_) (fun h9 => ?_)
    · refine G_iconst (n := 0) dX6_isLetter_16 ⟨by decide, by decide⟩ ?_
      exact G_zret dX6_isLetter_17 rfl (by omega) rfl rfl ⟨by first | (rw [if_pos (by omega)]) | (rw [if_neg (by omega)]), rfl, rfl⟩
    · refine G_iconst (n := 1) dX6_isLetter_12 ⟨by decide, by decide⟩ ?_
      refine G_goto 17 dX6_isLetter_13 (by decide) ?_
      exact G_zret dX6_isLetter_17 rfl (by omega) rfl rfl ⟨by first | (rw [if_pos (by omega)]) | (rw [if_neg (by omega)]), rfl, rfl⟩
set_option maxRecDepth 20000 in
set_option maxHeartbeats 1000000 in
theorem c_X6_isIn (l : Launch) (d nu : Nat) (v : VV) (x a b : Int) : Ct l yX6_isIn cX6_isIn (some .boolean) 3 (d + 0) 0 0 [ai x, ai a, ai b] (SG nu) v (rI (SG nu) (if a ≤ x ∧ x ≤ b then 1 else 0) v) := by
  refine Ct_of_G [some (ai x), some (ai a), some (ai b)] (by decide) rfl rfl ?_
  refine G_iload_n dX6_isIn_0 rfl ?_
  refine G_iload_n dX6_isIn_1 rfl ?_
  refine G_icmp_lt 14 dX6_isIn_2 (by decide) (fun h2 => ?_) (fun h2 => ?_)
  · refine G_iconst (n := 0) dX6_isIn_14 ⟨by decide, by decide⟩ ?_
    exact G_zret dX6_isIn_15 rfl (by omega) rfl rfl ⟨by first | (rw [if_pos (by omega)]) | (rw [if_neg (by omega)]), rfl, rfl⟩
  · refine G_iload_n dX6_isIn_5 rfl ?_
    refine G_iload_n dX6_isIn_6 rfl ?_
    refine G_icmp_gt 14 dX6_isIn_7 (by decide) (fun h7 => ?_) (fun h7 => ?_)
    · refine G_iconst (n := 0) dX6_isIn_14 ⟨by decide, by decide⟩ ?_
      exact G_zret dX6_isIn_15 rfl (by omega) rfl rfl ⟨by first | (rw [if_pos (by omega)]) | (rw [if_neg (by omega)]), rfl, rfl⟩
    · refine G_iconst (n := 1) dX6_isIn_10 ⟨by decide, by decide⟩ ?_
      refine G_goto 15 dX6_isIn_11 (by decide) ?_
      exact G_zret dX6_isIn_15 rfl (by omega) rfl rfl ⟨by first | (rw [if_pos (by omega)]) | (rw [if_neg (by omega)]), rfl, rfl⟩
set_option maxRecDepth 20000 in
set_option maxHeartbeats 1000000 in
theorem c_X6_isUmpire (l : Launch) (d nu : Nat) (v : VV) (u : Int) : Ct l yX6_isUmpire cX6_isUmpire (some .boolean) 2 (d + 0) 0 0 [ar (some 27), ai u] (SG nu) v (rI (SG nu) (if 0 ≤ u ∧ u < v 27 33 then 1 else 0) v) := by
  refine Ct_of_G [some (ar (some 27)), some (ai u)] (by decide) rfl rfl ?_
  refine G_iload_n dX6_isUmpire_0 rfl ?_
  refine G_if_lt 16 dX6_isUmpire_1 (by decide) (fun h1 => ?_) (fun h1 => ?_)
  · refine G_iconst (n := 0) dX6_isUmpire_16 ⟨by decide, by decide⟩ ?_
    exact G_zret dX6_isUmpire_17 rfl (by omega) rfl rfl ⟨by first | (rw [if_pos (by omega)]) | (rw [if_neg (by omega)]), rfl, rfl⟩
  · refine G_iload_n dX6_isUmpire_4 rfl ?_
    refine G_aload_n dX6_isUmpire_5 rfl ?_
    refine G_getI (jj := 33) dX6_isUmpire_6 flX6_181 rfl rfl rfl ?_
    refine G_icmp_ge 16 dX6_isUmpire_9 (by decide) (fun h9 => ?_) (fun h9 => ?_)
    · refine G_iconst (n := 0) dX6_isUmpire_16 ⟨by decide, by decide⟩ ?_
      exact G_zret dX6_isUmpire_17 rfl (by omega) rfl rfl ⟨by first | (rw [if_pos (by omega)]) | (rw [if_neg (by omega)]), rfl, rfl⟩
    · refine G_iconst (n := 1) dX6_isUmpire_12 ⟨by decide, by decide⟩ ?_
      refine G_goto 17 dX6_isUmpire_13 (by decide) ?_
      exact G_zret dX6_isUmpire_17 rfl (by omega) rfl rfl ⟨by first | (rw [if_pos (by omega)]) | (rw [if_neg (by omega)]), rfl, rfl⟩
set_option maxRecDepth 20000 in
set_option maxHeartbeats 1000000 in
theorem c_X6_isSeat (l : Launch) (d nu : Nat) (v : VV) (u : Int) (hg : 0 ≤ v 27 34 ∧ v 27 34 ≤ 8) : Ct l yX6_isSeat cX6_isSeat (some .boolean) 2 (d + 0) 0 0 [ar (some 27), ai u] (SG nu) v (rI (SG nu) (if 0 ≤ u ∧ u < 2 * v 27 34 then 1 else 0) v) := by
  refine Ct_of_G [some (ar (some 27)), some (ai u)] (by decide) rfl rfl ?_
  refine G_iload_n dX6_isSeat_0 rfl ?_
  refine G_if_lt 18 dX6_isSeat_1 (by decide) (fun h1 => ?_) (fun h1 => ?_)
  · refine G_iconst (n := 0) dX6_isSeat_18 ⟨by decide, by decide⟩ ?_
    exact G_zret dX6_isSeat_19 rfl (by omega) rfl rfl ⟨by first | (rw [if_pos (by omega)]) | (rw [if_neg (by omega)]), rfl, rfl⟩
  · refine G_iload_n dX6_isSeat_4 rfl ?_
    refine G_iconst (n := 2) dX6_isSeat_5 ⟨by decide, by decide⟩ ?_
    refine G_aload_n dX6_isSeat_6 rfl ?_
    refine G_getI (jj := 34) dX6_isSeat_7 flX6_184 rfl rfl rfl ?_
    refine G_imul dX6_isSeat_10 (iRm (by omega) (by omega)) ?_
    refine G_icmp_ge 18 dX6_isSeat_11 (by decide) (fun h11 => ?_) (fun h11 => ?_)
    · refine G_iconst (n := 0) dX6_isSeat_18 ⟨by decide, by decide⟩ ?_
      exact G_zret dX6_isSeat_19 rfl (by omega) rfl rfl ⟨by first | (rw [if_pos (by omega)]) | (rw [if_neg (by omega)]), rfl, rfl⟩
    · refine G_iconst (n := 1) dX6_isSeat_14 ⟨by decide, by decide⟩ ?_
      refine G_goto 19 dX6_isSeat_15 (by decide) ?_
      exact G_zret dX6_isSeat_19 rfl (by omega) rfl rfl ⟨by first | (rw [if_pos (by omega)]) | (rw [if_neg (by omega)]), rfl, rfl⟩
set_option maxRecDepth 20000 in
set_option maxHeartbeats 1000000 in
theorem c_X6_less (l : Launch) (d nu : Nat) (v : VV) (a b : Int) (ha : 0 ≤ a ∧ a ≤ 99) (hb : 0 ≤ b ∧ b ≤ 99) : Ct l yX6_less cX6_less (some .int) 2 (d + 0) 0 0 [ai a, ai b] (SG nu) v (rI (SG nu) (lessS a b) v) := by
  refine Ct_of_G [some (ai a), some (ai b)] (by decide) rfl rfl ?_
  refine G_iload_n dX6_less_0 rfl ?_
  refine G_iload_n dX6_less_1 rfl ?_
  refine G_icmp_le 11 dX6_less_2 (by decide) (fun h2 => ?_) (fun h2 => ?_)
  · refine G_iload_n dX6_less_11 rfl ?_
    refine G_iload_n dX6_less_12 rfl ?_
    refine G_isub dX6_less_13 (iRm (by omega) (by omega)) ?_
    exact G_iret dX6_less_14 rfl rfl rfl ⟨by unfold lessS; first | (rw [if_pos (by omega)]) | (rw [if_neg (by omega)]), rfl, rfl⟩
  · refine G_iload_n dX6_less_5 rfl ?_
    refine G_iload_n dX6_less_6 rfl ?_
    refine G_isub dX6_less_7 (iRm (by omega) (by omega)) ?_
    refine G_goto 14 dX6_less_8 (by decide) ?_
    exact G_iret dX6_less_14 rfl rfl rfl ⟨by unfold lessS; first | (rw [if_pos (by omega)]) | (rw [if_neg (by omega)]), rfl, rfl⟩
set_option maxRecDepth 20000 in
set_option maxHeartbeats 1000000 in
theorem c_X6_miles (l : Launch) (d nu : Nat) (v : VV) (u s : Int) (hu : 0 ≤ u ∧ u < 20) (hs : 0 ≤ s ∧ s < 16) (h1 : 0 ≤ v 34 u ∧ v 34 u ≤ 99) (h2 : 0 ≤ v 35 u ∧ v 35 u ≤ 99) (h3 : 0 ≤ v 44 (s / 2) ∧ v 44 (s / 2) ≤ 99) (h4 : 0 ≤ v 45 (s / 2) ∧ v 45 (s / 2) ≤ 99) : Ct l yX6_miles cX6_miles (some .int) 3 (d + 1) 0 0 [ar (some 27), ai u, ai s] (SG nu) v (rI (SG nu) (milesS v u s) v) := by
  refine Ct_of_G [some (ar (some 27)), some (ai u), some (ai s)] (by decide) rfl rfl ?_
  refine G_aload_n dX6_miles_0 rfl ?_
  refine G_getR (jj := 17) dX6_miles_1 flX6_28 rfl rfl rfl ?_
  refine G_iload_n dX6_miles_4 rfl ?_
  refine G_iald dX6_miles_5 rfl (by omega) (by omega) ?_
  refine G_aload_n dX6_miles_6 rfl ?_
  refine G_getR (jj := 27) dX6_miles_7 flX6_59 rfl rfl rfl ?_
  refine G_iload_n dX6_miles_10 rfl ?_
  refine G_iconst (n := 2) dX6_miles_11 ⟨by decide, by decide⟩ ?_
  refine G_idiv dX6_miles_12 (by omega) (by omega) ?_
  refine G_iald dX6_miles_13 rfl (by omega) (by omega) ?_
  refine G_cSi dX6_miles_14 (c_X6_less l (d + 0) nu v (v 34 u) (v 44 (s / 2)) h1 h3) mcX6_200 rfl rfl (by show _ ≤ d + 1; omega) rfl rfl (Nat.le_refl _) (Nat.le_refl _) ?_
  refine G_aload_n dX6_miles_17 rfl ?_
  refine G_getR (jj := 18) dX6_miles_18 flX6_31 rfl rfl rfl ?_
  refine G_iload_n dX6_miles_21 rfl ?_
  refine G_iald dX6_miles_22 rfl (by omega) (by omega) ?_
  refine G_aload_n dX6_miles_23 rfl ?_
  refine G_getR (jj := 28) dX6_miles_24 flX6_62 rfl rfl rfl ?_
  refine G_iload_n dX6_miles_27 rfl ?_
  refine G_iconst (n := 2) dX6_miles_28 ⟨by decide, by decide⟩ ?_
  refine G_idiv dX6_miles_29 (by omega) (by omega) ?_
  refine G_iald dX6_miles_30 rfl (by omega) (by omega) ?_
  refine G_cSi dX6_miles_31 (c_X6_less l (d + 0) nu v (v 35 u) (v 45 (s / 2)) h2 h4) mcX6_200 rfl rfl (by show _ ≤ d + 1; omega) rfl rfl (Nat.le_refl _) (Nat.le_refl _) ?_
  refine G_iadd dX6_miles_34 (iRm (by unfold lessS; split <;> split <;> omega) (by unfold lessS; split <;> split <;> omega)) ?_
  exact G_iret dX6_miles_35 rfl rfl rfl ⟨rfl, rfl, rfl⟩
set_option maxRecDepth 20000 in
set_option maxHeartbeats 1000000 in
theorem c_X6_seatOf (l : Launch) (d nu : Nat) (v : VV) (u : Int) (hg : 0 ≤ v 27 34 ∧ v 27 34 ≤ 8) : Ct l yX6_seatOf cX6_seatOf (some .int) 3 (d + 0) 0 0 [ar (some 27), ai u] (SG nu) v (rI (SG nu) (seatOfS v u) v) := by
  refine Ct_of_G [some (ar (some 27)), some (ai u), none] (by decide) rfl rfl ?_
  have loop : ∀ (n : Nat) (s : Int), 0 ≤ s → s + n = 2 * v 27 34 → G l (yX6_seatOf, cX6_seatOf, (some .int), 3, (d + 0), 0, 0, none) (rI (SG nu) (fst (fun s => decide (v 48 s = u)) n s) v) 0 0 (SG nu) 2 [some (ar (some 27)), some (ai u), some (ai s)] [] v := by
    intro n
    induction n using Nat.strongRecOn with
    | ind n ih =>
    intro s h0 h1
    refine G_iload_n dX6_seatOf_2 rfl ?_
    refine G_iconst (n := 2) dX6_seatOf_3 ⟨by decide, by decide⟩ ?_
    refine G_aload_n dX6_seatOf_4 rfl ?_
    refine G_getI (jj := 34) dX6_seatOf_5 flX6_184 rfl rfl rfl ?_
    refine G_imul dX6_seatOf_8 (iRm (by omega) (by omega)) ?_
    refine G_icmp_ge 30 dX6_seatOf_9 (by decide) (fun h9 => ?_) (fun h9 => ?_)
    · obtain rfl : n = 0 := by omega
      refine G_iconst (n := (-1)) dX6_seatOf_30 ⟨by decide, by decide⟩ ?_
      exact G_iret dX6_seatOf_31 rfl rfl rfl ⟨rfl, rfl, rfl⟩
    · obtain ⟨n, rfl⟩ : ∃ k, n = k + 1 := ⟨n - 1, by omega⟩
      refine G_aload_n dX6_seatOf_12 rfl ?_
      refine G_getR (jj := 31) dX6_seatOf_13 flX6_71 rfl rfl rfl ?_
      refine G_iload_n dX6_seatOf_16 rfl ?_
      refine G_iald dX6_seatOf_17 rfl (by omega) (by omega) ?_
      refine G_iload_n dX6_seatOf_18 rfl ?_
      refine G_icmp_ne 24 dX6_seatOf_19 (by decide) (fun h19 => ?_) (fun h19 => ?_)
      · rw [fst_no (by simpa using h19)]
        refine G_iinc dX6_seatOf_24 rfl (iRm (by omega) (by omega)) rfl rfl ?_
        refine G_goto 2 dX6_seatOf_27 (by decide) ?_
        exact ih n (by omega) (s + 1) (by omega) (by omega)
      · rw [fst_yes (by simpa using h19)]
        refine G_iload_n dX6_seatOf_22 rfl ?_
        exact G_iret dX6_seatOf_23 rfl rfl rfl ⟨rfl, rfl, rfl⟩
  refine G_iconst (n := 0) dX6_seatOf_0 ⟨by decide, by decide⟩ ?_
  refine G_istore_n dX6_seatOf_1 rfl rfl ?_
  exact loop _ 0 (by omega) (by omega)
set_option maxRecDepth 20000 in
set_option maxHeartbeats 1000000 in
theorem c_X6_filled (l : Launch) (d nu : Nat) (v : VV) (hg : 0 ≤ v 27 34 ∧ v 27 34 ≤ 8) : Ct l yX6_filled cX6_filled (some .int) 3 (d + 0) 0 0 [ar (some 27)] (SG nu) v (rI (SG nu) (filledS v) v) := by
  refine Ct_of_G [some (ar (some 27)), none, none] (by decide) rfl rfl ?_
  have loop : ∀ (n : Nat) (a s : Int), 0 ≤ s → s + n = 2 * v 27 34 → 0 ≤ a → a ≤ s → G l (yX6_filled, cX6_filled, (some .int), 3, (d + 0), 0, 0, none) (rI (SG nu) (a + sumF (fun s => if v 48 s = -1 then 0 else 1) n s) v) 0 0 (SG nu) 4 [some (ar (some 27)), some (ai a), some (ai s)] [] v := by
    intro n
    induction n using Nat.strongRecOn with
    | ind n ih =>
    intro a s h0 h1 h2 h3
    refine G_iload_n dX6_filled_4 rfl ?_
    refine G_iconst (n := 2) dX6_filled_5 ⟨by decide, by decide⟩ ?_
    refine G_aload_n dX6_filled_6 rfl ?_
    refine G_getI (jj := 34) dX6_filled_7 flX6_184 rfl rfl rfl ?_
    refine G_imul dX6_filled_10 (iRm (by omega) (by omega)) ?_
    refine G_icmp_ge 33 dX6_filled_11 (by decide) (fun h11 => ?_) (fun h11 => ?_)
    · obtain rfl : n = 0 := by omega
      refine G_iload_n dX6_filled_33 rfl ?_
      exact G_iret dX6_filled_34 rfl rfl rfl ⟨by rw [sumF, Int.add_zero], rfl, rfl⟩
    · obtain ⟨n, rfl⟩ : ∃ k, n = k + 1 := ⟨n - 1, by omega⟩
      refine G_aload_n dX6_filled_14 rfl ?_
      refine G_getR (jj := 31) dX6_filled_15 flX6_71 rfl rfl rfl ?_
      refine G_iload_n dX6_filled_18 rfl ?_
      refine G_iald dX6_filled_19 rfl (by omega) (by omega) ?_
      refine G_iconst (n := (-1)) dX6_filled_20 ⟨by decide, by decide⟩ ?_
      refine G_icmp_eq 27 dX6_filled_21 (by decide) (fun h21 => ?_) (fun h21 => ?_)
      · refine G_iinc dX6_filled_27 rfl (iRm (by omega) (by omega)) rfl rfl ?_
        refine G_goto 4 dX6_filled_30 (by decide) ?_
        exact GI_eq (by simp [sumF, h21]; try omega) (ih n (by omega) _ (s + 1) (by omega) (by omega) (by omega) (by omega))
      · refine G_iinc dX6_filled_24 rfl (iRm (by omega) (by omega)) rfl rfl ?_
        refine G_iinc dX6_filled_27 rfl (iRm (by omega) (by omega)) rfl rfl ?_
        refine G_goto 4 dX6_filled_30 (by decide) ?_
        exact GI_eq (by simp [sumF, h21]; try omega) (ih n (by omega) _ (s + 1) (by omega) (by omega) (by omega) (by omega))
  refine G_iconst (n := 0) dX6_filled_0 ⟨by decide, by decide⟩ ?_
  refine G_istore_n dX6_filled_1 rfl rfl ?_
  refine G_iconst (n := 0) dX6_filled_2 ⟨by decide, by decide⟩ ?_
  refine G_istore_n dX6_filled_3 rfl rfl ?_
  have e := loop (2 * v 27 34).toNat 0 0 (by omega) (by omega) (by omega) (by omega)
  rw [Int.zero_add] at e
  exact e
set_option maxRecDepth 20000 in
set_option maxHeartbeats 1000000 in
theorem c_X6_placeOf (l : Launch) (d nu : Nat) (v : VV) (s : Int) (hs : 0 ≤ s ∧ s < 16) : Ct l yX6_placeOf cX6_placeOf (some .int) 2 (d + 0) 0 0 [ar (some 27), ai s] (SG nu) v (rI (SG nu) (if v 48 s = -1 then 20 else v 48 s) v) := by
  refine Ct_of_G [some (ar (some 27)), some (ai s)] (by decide) rfl rfl ?_
  refine G_aload_n dX6_placeOf_0 rfl ?_
  refine G_getR (jj := 31) dX6_placeOf_1 flX6_71 rfl rfl rfl ?_
  refine G_iload_n dX6_placeOf_4 rfl ?_
  refine G_iald dX6_placeOf_5 rfl (by omega) (by omega) ?_
  refine G_iconst (n := (-1)) dX6_placeOf_6 ⟨by decide, by decide⟩ ?_
  refine G_icmp_ne 15 dX6_placeOf_7 (by decide) (fun h7 => ?_) (fun h7 => ?_)
  · refine G_aload_n dX6_placeOf_15 rfl ?_
    refine G_getR (jj := 31) dX6_placeOf_16 flX6_71 rfl rfl rfl ?_
    refine G_iload_n dX6_placeOf_19 rfl ?_
    refine G_iald dX6_placeOf_20 rfl (by omega) (by omega) ?_
    exact G_iret dX6_placeOf_21 rfl rfl rfl ⟨by first | (rw [if_pos (by omega)]) | (rw [if_neg (by omega)]), rfl, rfl⟩
  · refine G_bipush (n := 20) dX6_placeOf_10 (by decide) ⟨by decide, by decide⟩ ?_
    refine G_goto 21 dX6_placeOf_12 (by decide) ?_
    exact G_iret dX6_placeOf_21 rfl rfl rfl ⟨by first | (rw [if_pos (by omega)]) | (rw [if_neg (by omega)]), rfl, rfl⟩
set_option maxRecDepth 20000 in
set_option maxHeartbeats 1000000 in
theorem c_X6_pays (l : Launch) (d nu : Nat) (v : VV) (s : Int) (hs : 0 ≤ s ∧ s < 16) (hw : -1 ≤ v 48 s ∧ v 48 s < 20) : Ct l yX6_pays cX6_pays (some .int) 2 (d + 0) 0 0 [ar (some 27), ai s] (SG nu) v (rI (SG nu) (if v 48 s = -1 then 1000000 else v 52 (20 * s + v 48 s)) v) := by
  refine Ct_of_G [some (ar (some 27)), some (ai s)] (by decide) rfl rfl ?_
  refine G_aload_n dX6_pays_0 rfl ?_
  refine G_getR (jj := 31) dX6_pays_1 flX6_71 rfl rfl rfl ?_
  refine G_iload_n dX6_pays_4 rfl ?_
  refine G_iald dX6_pays_5 rfl (by omega) (by omega) ?_
  refine G_iconst (n := (-1)) dX6_pays_6 ⟨by decide, by decide⟩ ?_
  refine G_icmp_ne 15 dX6_pays_7 (by decide) (fun h7 => ?_) (fun h7 => ?_)
  · refine G_aload_n dX6_pays_15 rfl ?_
    refine G_getR (jj := 39) dX6_pays_16 flX6_83 rfl rfl rfl ?_
    refine G_bipush (n := 20) dX6_pays_19 (by decide) ⟨by decide, by decide⟩ ?_
    refine G_iload_n dX6_pays_21 rfl ?_
    refine G_imul dX6_pays_22 (iRm (by omega) (by omega)) ?_
    refine G_aload_n dX6_pays_23 rfl ?_
    refine G_getR (jj := 31) dX6_pays_24 flX6_71 rfl rfl rfl ?_
    refine G_iload_n dX6_pays_27 rfl ?_
    refine G_iald dX6_pays_28 rfl (by omega) (by omega) ?_
    refine G_iadd dX6_pays_29 (iRm (by omega) (by omega)) ?_
    refine G_iald dX6_pays_30 rfl (by omega) (by omega) ?_
    exact G_iret dX6_pays_31 rfl rfl rfl ⟨by first | (rw [if_pos (by omega)]) | (rw [if_neg (by omega)]), rfl, rfl⟩
  · refine G_ldc (n := 1000000) dX6_pays_10 (show Cond.constant RX6 217 (Int32.ofInt 1000000) ∈ lw_good by decide +kernel) ⟨by decide, by decide⟩ ?_
    refine G_goto 31 dX6_pays_12 (by decide) ?_
    exact G_iret dX6_pays_31 rfl rfl rfl ⟨by first | (rw [if_pos (by omega)]) | (rw [if_neg (by omega)]), rfl, rfl⟩
set_option maxRecDepth 20000 in
set_option maxHeartbeats 1000000 in
theorem c_X6_offer (l : Launch) (d nu : Nat) (v : VV) (to c a q : Int) (ht : 0 ≤ to ∧ to < 22) : Ct l yX6_offer cX6_offer none 5 (d + 0) 0 0 [ar (some 27), ai to, ai c, ai a, ai q] (SG nu) v (rV (SG nu) (if v 55 to ≤ c then v else up (up (up (up v 55 to c) 56 to a) 57 to q) 27 45 1)) := by
  refine Ct_of_G [some (ar (some 27)), some (ai to), some (ai c), some (ai a), some (ai q)] (by decide) rfl rfl ?_
  refine G_iload_n dX6_offer_0 rfl ?_
  refine G_aload_n dX6_offer_1 rfl ?_
  refine G_getR (jj := 42) dX6_offer_2 flX6_92 rfl rfl rfl ?_
  refine G_iload_n dX6_offer_5 rfl ?_
  refine G_iald dX6_offer_6 rfl (by omega) (by omega) ?_
  refine G_icmp_lt 11 dX6_offer_7 (by decide) (fun h7 => ?_) (fun h7 => ?_)
  · refine G_aload_n dX6_offer_11 rfl ?_
    refine G_getR (jj := 42) dX6_offer_12 flX6_92 rfl rfl rfl ?_
    refine G_iload_n dX6_offer_15 rfl ?_
    refine G_iload_n dX6_offer_16 rfl ?_
    refine G_iast dX6_offer_17 rfl (by omega) (by omega) ?_
    refine G_aload_n dX6_offer_18 rfl ?_
    refine G_getR (jj := 43) dX6_offer_19 flX6_95 rfl rfl rfl ?_
    refine G_iload_n dX6_offer_22 rfl ?_
    refine G_iload_n dX6_offer_23 rfl ?_
    refine G_iast dX6_offer_24 rfl (by omega) (by omega) ?_
    refine G_aload_n dX6_offer_25 rfl ?_
    refine G_getR (jj := 44) dX6_offer_26 flX6_98 rfl rfl rfl ?_
    refine G_iload_n dX6_offer_29 rfl ?_
    refine G_iload dX6_offer_30 rfl ?_
    refine G_iast dX6_offer_32 rfl (by omega) (by omega) ?_
    refine G_aload_n dX6_offer_33 rfl ?_
    refine G_iconst (n := 1) dX6_offer_34 ⟨by decide, by decide⟩ ?_
    refine G_putZ (jj := 45) dX6_offer_35 flX6_232 rfl rfl rfl rfl (by omega) ?_
    exact G_vret dX6_offer_38 rfl rfl rfl ⟨rfl, rfl, by first | (rw [if_pos (by omega)]) | (rw [if_neg (by omega)])⟩
  · exact G_vret dX6_offer_10 rfl rfl rfl ⟨rfl, rfl, by first | (rw [if_pos (by omega)]) | (rw [if_neg (by omega)])⟩
set_option maxRecDepth 20000 in
set_option maxHeartbeats 1000000 in
theorem c_X6_bad (l : Launch) (d nu : Nat) (v : VV) (k : Int) : Ct l yX6_bad cX6_bad (some .boolean) 2 (d + 0) 0 0 [ar (some 27), ai k] (SG nu) v (rI (SG nu) (0) (up (up v 27 13 (if v 27 11 = 1 then 1 else k)) 27 14 (v 27 10))) := by
  refine Ct_of_G [some (ar (some 27)), some (ai k)] (by decide) rfl rfl ?_
  refine G_aload_n dX6_bad_0 rfl ?_
  refine G_aload_n dX6_bad_1 rfl ?_
  refine G_getI (jj := 11) dX6_bad_2 flX6_121 rfl rfl rfl ?_
  refine G_iconst (n := 1) dX6_bad_5 ⟨by decide, by decide⟩ ?_
  refine G_icmp_ne 13 dX6_bad_6 (by decide) (fun h6 => ?_) (fun h6 => ?_)
  · refine G_iload_n dX6_bad_13 rfl ?_
    refine G_putI (jj := 13) dX6_bad_14 flX6_158 rfl rfl rfl rfl ?_
    refine G_aload_n dX6_bad_17 rfl ?_
    refine G_aload_n dX6_bad_18 rfl ?_
    refine G_getI (jj := 10) dX6_bad_19 flX6_118 rfl rfl rfl ?_
    refine G_putI (jj := 14) dX6_bad_22 flX6_161 rfl rfl rfl rfl ?_
    refine G_iconst (n := 0) dX6_bad_25 ⟨by decide, by decide⟩ ?_
    exact G_zret dX6_bad_26 rfl (by omega) rfl rfl ⟨rfl, rfl, by simp [up_get, *]⟩
  · refine G_iconst (n := 1) dX6_bad_9 ⟨by decide, by decide⟩ ?_
    refine G_goto 14 dX6_bad_10 (by decide) ?_
    refine G_putI (jj := 13) dX6_bad_14 flX6_158 rfl rfl rfl rfl ?_
    refine G_aload_n dX6_bad_17 rfl ?_
    refine G_aload_n dX6_bad_18 rfl ?_
    refine G_getI (jj := 10) dX6_bad_19 flX6_118 rfl rfl rfl ?_
    refine G_putI (jj := 14) dX6_bad_22 flX6_161 rfl rfl rfl rfl ?_
    refine G_iconst (n := 0) dX6_bad_25 ⟨by decide, by decide⟩ ?_
    exact G_zret dX6_bad_26 rfl (by omega) rfl rfl ⟨rfl, rfl, by simp [up_get, *]⟩
set_option maxRecDepth 20000 in
set_option maxHeartbeats 1000000 in
theorem c_X6_fault (l : Launch) (d nu : Nat) (v : VV)  : Ct l yX6_fault cX6_fault (some .int) 1 (d + 0) 0 0 [ar (some 27)] (SG nu) v (rI (SG nu) (v 27 13) (up v 27 0 0)) := by
  refine Ct_of_G [some (ar (some 27))] (by decide) rfl rfl ?_
  refine G_aload_n dX6_fault_0 rfl ?_
  refine G_iconst (n := 0) dX6_fault_1 ⟨by decide, by decide⟩ ?_
  refine G_putI (jj := 0) dX6_fault_2 flX6_101 rfl rfl rfl rfl ?_
  refine G_aload_n dX6_fault_5 rfl ?_
  refine G_getI (jj := 13) dX6_fault_6 flX6_158 rfl rfl rfl ?_
  exact G_iret dX6_fault_9 rfl rfl rfl ⟨rfl, rfl, rfl⟩
end
section
noncomputable def bP (p : Prop) : Int := @ite _ p (Classical.propDecidable p) 1 0
theorem bP_t {p : Prop} (h : p) : bP p = 1 := if_pos h
theorem bP_f {p : Prop} (h : ¬ p) : bP p = 0 := if_neg h
theorem bP_01 (p : Prop) : bP p = 0 ∨ bP p = 1 := by
  by_cases h : p
  · exact Or.inr (bP_t h)
  · exact Or.inl (bP_f h)
theorem bP_1 {p : Prop} : bP p = 1 ↔ p := by
  by_cases h : p
  · exact ⟨fun _ => h, fun _ => bP_t h⟩
  · exact ⟨fun e => by rw [bP_f h] at e; omega, fun z => absurd z h⟩
theorem bP_0 {p : Prop} : bP p = 0 ↔ ¬ p := by
  by_cases h : p
  · exact ⟨fun e => by rw [bP_t h] at e; omega, fun z => absurd h z⟩
  · exact ⟨fun _ => h, fun _ => bP_f h⟩
theorem bP_iR (p : Prop) : iR (bP p) := by rcases bP_01 p with h | h <;> rw [h] <;> exact ⟨by decide, by decide⟩
theorem bP_if (p : Prop) [Decidable p] : bP p = if p then 1 else 0 := by
  by_cases h : p
  · rw [bP_t h, if_pos h]
  · rw [bP_f h, if_neg h]
theorem bP_congr {p q : Prop} (h : p ↔ q) : bP p = bP q := by rw [propext h]
def bandI (x y : Int) : Int := (Int32.ofInt x &&& Int32.ofInt y).toInt
/-- an UMPIRE stood in each of the row weeks ahead -/
def rowP (v : VV) (u : Int) : Prop := v 29 0 ≤ v 27 35 ∧ ∀ r, 0 ≤ r → r < v 29 0 → v 42 (100 * u + v 27 35 - 1 - r) ≠ 0
def againP (v : VV) (u s : Int) : Prop := ∃ k, 1 ≤ k ∧ k ≤ v 29 1 ∧ k ≤ v 27 35 ∧ bandI (v 42 (100 * u + v 27 35 - k)) (v 46 (s / 2)) ≠ 0
def mayP (v : VV) (u s : Int) : Prop := v 43 (100 * u + v 27 35) = 0 ∧ bandI (v 37 u) (v 46 (s / 2)) = 0 ∧ v 36 u ≤ v 47 (s / 2) + s % 2 ∧ milesS v u s ≤ v 29 2 ∧ ¬ rowP v u ∧ ¬ againP v u s
/-- the bounds of the model's numbers -/
def RB (v : VV) : Prop := (1 ≤ v 29 0 ∧ v 29 0 ≤ 9) ∧ (0 ≤ v 29 1 ∧ v 29 1 ≤ 9) ∧ (0 ≤ v 29 2 ∧ v 29 2 ≤ 200) ∧ (0 ≤ v 29 3 ∧ v 29 3 ≤ 50) ∧ (0 ≤ v 29 4 ∧ v 29 4 ≤ 9) ∧ (0 ≤ v 29 5 ∧ v 29 5 ≤ 9) ∧ (1 ≤ v 29 6 ∧ v 29 6 ≤ 101) ∧ (0 ≤ v 29 7 ∧ v 29 7 ≤ 100) ∧ (1 ≤ v 29 8 ∧ v 29 8 ≤ 20)
def MBx (nu : Nat) (b : Int) (v : VV) : Prop := (nu ≤ 20 ∧ v 27 33 = nu) ∧ (0 ≤ v 27 34 ∧ v 27 34 ≤ 8) ∧ (0 ≤ v 27 35 ∧ v 27 35 ≤ 99) ∧ RB v ∧
  (∀ u : Int, 0 ≤ u → u < nu → (0 ≤ v 34 u ∧ v 34 u ≤ 99) ∧ (0 ≤ v 35 u ∧ v 35 u ≤ 99) ∧ (1 ≤ v 36 u ∧ v 36 u ≤ 4) ∧ (0 ≤ v 37 u ∧ v 37 u ≤ 4095) ∧ (0 ≤ v 41 u ∧ v 41 u ≤ b)) ∧
  (∀ g : Int, 0 ≤ g → g < v 27 34 → (0 ≤ v 44 g ∧ v 44 g ≤ 99) ∧ (0 ≤ v 45 g ∧ v 45 g ≤ 99) ∧ (1 ≤ v 46 g ∧ v 46 g ≤ 4095) ∧ (1 ≤ v 47 g ∧ v 47 g ≤ 4)) ∧
  (∀ s : Int, 0 ≤ s → s < 2 * v 27 34 → -1 ≤ v 48 s ∧ v 48 s < nu)
def MB (nu : Nat) (v : VV) : Prop := MBx nu (v 27 35) v
theorem lessS_bd {a b : Int} (ha : 0 ≤ a ∧ a ≤ 99) (hb : 0 ≤ b ∧ b ≤ 99) : 0 ≤ lessS a b ∧ lessS a b ≤ 99 := by unfold lessS; split <;> omega
theorem MB.miles {nu : Nat} {v : VV} (h : MB nu v) {u s : Int} (hu : 0 ≤ u ∧ u < nu) (hs : 0 ≤ s ∧ s < 2 * v 27 34) : 0 ≤ milesS v u s ∧ milesS v u s ≤ 198 := by
  have h1 := h.2.2.2.2.1 u hu.1 hu.2
  have h2 := h.2.2.2.2.2.1 (s / 2) (by omega) (by omega)
  have a := lessS_bd h1.1 h2.1
  have b := lessS_bd h1.2.1 h2.2.1
  unfold milesS
  omega
theorem mul_bd {a b x y : Int} (ha : 0 ≤ a ∧ a ≤ x) (hb : 0 ≤ b ∧ b ≤ y) : 0 ≤ a * b ∧ a * b ≤ x * y := ⟨Int.mul_nonneg ha.1 hb.1, Int.mul_le_mul ha.2 hb.2 hb.1 (by omega)⟩
theorem MB.cost {nu : Nat} {v : VV} (h : MB nu v) {u s : Int} (hu : 0 ≤ u ∧ u < nu) (hs : 0 ≤ s ∧ s < 2 * v 27 34) : 0 ≤ costS v u s ∧ costS v u s ≤ 5148 := by
  have h1 := (h.2.2.2.2.1 u hu.1 hu.2).2.2.2.2
  have h2 := h.miles hu hs
  have h3 := mul_bd h.2.2.2.1.2.2.2.1 (show 0 ≤ v 41 u ∧ v 41 u ≤ 99 from ⟨h1.1, by have := h.2.2.1; omega⟩)
  unfold costS
  omega
set_option maxRecDepth 20000 in
set_option maxHeartbeats 1000000 in
theorem c_X6_costOf (l : Launch) (d nu : Nat) (v : VV) (hB : MB nu v) (u s : Int) (hu : 0 ≤ u ∧ u < nu) (hs : 0 ≤ s ∧ s < 2 * v 27 34) : Ct l yX6_costOf cX6_costOf (some .int) 3 (d + 2) 0 0 [ar (some 27), ai u, ai s] (SG nu) v (rI (SG nu) (costS v u s) v) := by
  refine Ct_of_G [some (ar (some 27)), some (ai u), some (ai s)] (by decide) rfl rfl ?_
  have hn := hB.1
  have hgm := hB.2.1
  have hwk := hB.2.2.1
  have hrb := hB.2.2.2.1
  have hr0 := hrb.1
  have hr1 := hrb.2.1
  have hr2 := hrb.2.2.1
  have hr3 := hrb.2.2.2.1
  have hum := hB.2.2.2.2.1 u hu.1 hu.2
  have hga := hB.2.2.2.2.2.1 (s / 2) (by omega) (by omega)
  have hml := hB.miles hu hs
  have hmu := mul_bd hrb.2.2.2.1 (show 0 ≤ v 41 u ∧ v 41 u ≤ 99 from ⟨hum.2.2.2.2.1, by omega⟩)
  refine G_aload_n dX6_costOf_0 rfl ?_
  refine G_iload_n dX6_costOf_1 rfl ?_
  refine G_iload_n dX6_costOf_2 rfl ?_
  refine G_cVi (ci := 6) dX6_costOf_3 rfl (by decide) rfl (c_X6_miles l (d + 0) nu v u s (by omega) (by omega) hum.1 hum.2.1 hga.1 hga.2.1) mcX6_204 rfl rfl (by show _ ≤ d + 2; omega) rfl rfl (Nat.le_refl _) (Nat.le_refl _) ?_
  refine G_aload_n dX6_costOf_6 rfl ?_
  refine G_getR (jj := 3) dX6_costOf_7 flX6_13 rfl rfl rfl ?_
  refine G_iconst (n := 3) dX6_costOf_10 ⟨by decide, by decide⟩ ?_
  refine G_iald dX6_costOf_11 rfl (by omega) (by omega) ?_
  refine G_aload_n dX6_costOf_12 rfl ?_
  refine G_getR (jj := 24) dX6_costOf_13 flX6_49 rfl rfl rfl ?_
  refine G_iload_n dX6_costOf_16 rfl ?_
  refine G_iald dX6_costOf_17 rfl (by omega) (by omega) ?_
  refine G_imul dX6_costOf_18 (iRm (by omega) (by omega)) ?_
  refine G_iadd dX6_costOf_19 (iRm (by omega) (by omega)) ?_
  exact G_iret dX6_costOf_20 rfl rfl rfl ⟨rfl, rfl, rfl⟩

set_option maxRecDepth 20000 in
set_option maxHeartbeats 1000000 in
theorem c_X6_mayHave (l : Launch) (d nu : Nat) (v : VV) (hB : MB nu v) (u s : Int) (hu : 0 ≤ u ∧ u < nu) (hs : 0 ≤ s ∧ s < 2 * v 27 34) : Ct l yX6_mayHave cX6_mayHave (some .boolean) 6 (d + 2) 0 0 [ar (some 27), ai u, ai s] (SG nu) v (rI (SG nu) (bP (mayP v u s)) v) := by
  refine Ct_of_G [some (ar (some 27)), some (ai u), some (ai s), none, none, none] (by decide) rfl rfl ?_
  have hn := hB.1
  have hgm := hB.2.1
  have hwk := hB.2.2.1
  have hrb := hB.2.2.2.1
  have hr0 := hrb.1
  have hr1 := hrb.2.1
  have hr2 := hrb.2.2.1
  have hr3 := hrb.2.2.2.1
  have hum := hB.2.2.2.2.1 u hu.1 hu.2
  have hga := hB.2.2.2.2.2.1 (s / 2) (by omega) (by omega)
  have hml := hB.miles hu hs
  have loop2 : ∀ (n : Nat) (k : Int), 1 ≤ k → k + n = 20 → k ≤ 11 → (¬ againP v u s → mayP v u s) → (∀ j, 1 ≤ j → j < k → bandI (v 42 (100 * u + v 27 35 - j)) (v 46 (s / 2)) = 0) → (z : Int) → G l (yX6_mayHave, cX6_mayHave, (some .boolean), 6, (d + 2), 0, 0, none) (rI (SG nu) (bP (mayP v u s)) v) 0 0 (SG nu) 140 [some (ar (some 27)), some (ai u), some (ai s), some (ai (s / 2)), some (ai z), some (ai k)] [] v := by
    intro n
    induction n using Nat.strongRecOn with
    | ind n ih =>
    intro k h0 h1 h2 hm hj z
    refine G_iload dX6_mayHave_140 rfl ?_
    refine G_aload_n dX6_mayHave_142 rfl ?_
    refine G_getR (jj := 3) dX6_mayHave_143 flX6_13 rfl rfl rfl ?_
    refine G_iconst (n := 1) dX6_mayHave_146 ⟨by decide, by decide⟩ ?_
    refine G_iald dX6_mayHave_147 rfl (by omega) (by omega) ?_
    refine G_icmp_gt 195 dX6_mayHave_148 (by decide) (fun h148 => ?_) (fun h148 => ?_)
    · refine G_iconst (n := 1) dX6_mayHave_195 ⟨by decide, by decide⟩ ?_
      exact G_zret dX6_mayHave_196 rfl (by omega) rfl rfl ⟨congrArg (fun x => some (ai x)) (bP_t (hm (fun ⟨j, j1, j2, j3, j4⟩ => j4 (hj j j1 (by omega))))).symm, rfl, rfl⟩
    · refine G_iload dX6_mayHave_151 rfl ?_
      refine G_aload_n dX6_mayHave_153 rfl ?_
      refine G_getI (jj := 35) dX6_mayHave_154 flX6_194 rfl rfl rfl ?_
      refine G_icmp_gt 195 dX6_mayHave_157 (by decide) (fun h157 => ?_) (fun h157 => ?_)
      · refine G_iconst (n := 1) dX6_mayHave_195 ⟨by decide, by decide⟩ ?_
        exact G_zret dX6_mayHave_196 rfl (by omega) rfl rfl ⟨congrArg (fun x => some (ai x)) (bP_t (hm (fun ⟨j, j1, j2, j3, j4⟩ => j4 (hj j j1 (by omega))))).symm, rfl, rfl⟩
      · refine G_aload_n dX6_mayHave_160 rfl ?_
        refine G_getR (jj := 25) dX6_mayHave_161 flX6_52 rfl rfl rfl ?_
        refine G_bipush (n := 100) dX6_mayHave_164 (by decide) ⟨by decide, by decide⟩ ?_
        refine G_iload_n dX6_mayHave_166 rfl ?_
        refine G_imul dX6_mayHave_167 (iRm (by omega) (by omega)) ?_
        refine G_aload_n dX6_mayHave_168 rfl ?_
        refine G_getI (jj := 35) dX6_mayHave_169 flX6_194 rfl rfl rfl ?_
        refine G_iadd dX6_mayHave_172 (iRm (by omega) (by omega)) ?_
        refine G_iload dX6_mayHave_173 rfl ?_
        refine G_isub dX6_mayHave_175 (iRm (by omega) (by omega)) ?_
        refine G_iald dX6_mayHave_176 rfl (by omega) (by omega) ?_
        refine G_aload_n dX6_mayHave_177 rfl ?_
        refine G_getR (jj := 29) dX6_mayHave_178 flX6_65 rfl rfl rfl ?_
        refine G_iload_n dX6_mayHave_181 rfl ?_
        refine G_iald dX6_mayHave_182 rfl (by omega) (by omega) ?_
        refine G_iand (bandI (v 42 (100 * u + v 27 35 - k)) (v 46 (s / 2))) dX6_mayHave_183 rfl ?_
        refine G_if_eq 189 dX6_mayHave_184 (by decide) (fun h184 => ?_) (fun h184 => ?_)
        · refine G_iinc dX6_mayHave_189 rfl (iRm (by omega) (by omega)) rfl rfl ?_
          refine G_goto 140 dX6_mayHave_192 (by decide) ?_
          exact ih (n - 1) (by omega) (k + 1) (by omega) (by omega) (by omega) hm (fun j j1 j2 => by by_cases e : j = k; rw [e]; exact h184; exact hj j j1 (by omega)) z
        · refine G_iconst (n := 0) dX6_mayHave_187 ⟨by decide, by decide⟩ ?_
          exact G_zret dX6_mayHave_188 rfl (by omega) rfl rfl ⟨congrArg (fun x => some (ai x)) (bP_f (fun h => h.2.2.2.2.2 ⟨k, by omega, by omega, by omega, h184⟩)).symm, rfl, rfl⟩
  have K : ∀ k : Int, 0 ≤ k → k ≤ 9 → (k = v 29 0 ↔ rowP v u) → (¬ rowP v u → ¬ againP v u s → mayP v u s) → G l (yX6_mayHave, cX6_mayHave, (some .boolean), 6, (d + 2), 0, 0, none) (rI (SG nu) (bP (mayP v u s)) v) 0 0 (SG nu) 124 [some (ar (some 27)), some (ai u), some (ai s), some (ai (s / 2)), some (ai k), none] [] v := by
    intro k h0 h1 hk hm
    refine G_iload dX6_mayHave_124 rfl ?_
    refine G_aload_n dX6_mayHave_126 rfl ?_
    refine G_getR (jj := 3) dX6_mayHave_127 flX6_13 rfl rfl rfl ?_
    refine G_iconst (n := 0) dX6_mayHave_130 ⟨by decide, by decide⟩ ?_
    refine G_iald dX6_mayHave_131 rfl (by omega) (by omega) ?_
    refine G_icmp_ne 137 dX6_mayHave_132 (by decide) (fun h132 => ?_) (fun h132 => ?_)
    · refine G_iconst (n := 1) dX6_mayHave_137 ⟨by decide, by decide⟩ ?_
      refine G_istore dX6_mayHave_138 rfl rfl ?_
      exact loop2 19 1 (by omega) (by omega) (by omega) (hm (fun z => h132 (hk.mpr z))) (fun j j1 j2 => by omega) _
    · refine G_iconst (n := 0) dX6_mayHave_135 ⟨by decide, by decide⟩ ?_
      exact G_zret dX6_mayHave_136 rfl (by omega) rfl rfl ⟨congrArg (fun x => some (ai x)) (bP_f (fun h => h.2.2.2.2.1 (hk.mp h132))).symm, rfl, rfl⟩
  have loop1 : ∀ (n : Nat) (k : Int), 0 ≤ k → k + n = 20 → k ≤ v 29 0 → k ≤ v 27 35 → (¬ rowP v u → ¬ againP v u s → mayP v u s) → (∀ j, 0 ≤ j → j < k → v 42 (100 * u + v 27 35 - 1 - j) ≠ 0) → G l (yX6_mayHave, cX6_mayHave, (some .boolean), 6, (d + 2), 0, 0, none) (rI (SG nu) (bP (mayP v u s)) v) 0 0 (SG nu) 76 [some (ar (some 27)), some (ai u), some (ai s), some (ai (s / 2)), some (ai k), none] [] v := by
    intro n
    induction n using Nat.strongRecOn with
    | ind n ih =>
    intro k h0 h1 h2 h3 hm hj
    refine G_iload dX6_mayHave_76 rfl ?_
    refine G_aload_n dX6_mayHave_78 rfl ?_
    refine G_getR (jj := 3) dX6_mayHave_79 flX6_13 rfl rfl rfl ?_
    refine G_iconst (n := 0) dX6_mayHave_82 ⟨by decide, by decide⟩ ?_
    refine G_iald dX6_mayHave_83 rfl (by omega) (by omega) ?_
    refine G_icmp_ge 124 dX6_mayHave_84 (by decide) (fun h84 => ?_) (fun h84 => ?_)
    · refine K k (by omega) (by omega) ⟨fun e => ⟨by omega, fun j j1 j2 => hj j j1 (by omega)⟩, fun e => ?_⟩ hm
      have := e.1; omega
    · refine G_iload dX6_mayHave_87 rfl ?_
      refine G_aload_n dX6_mayHave_89 rfl ?_
      refine G_getI (jj := 35) dX6_mayHave_90 flX6_194 rfl rfl rfl ?_
      refine G_icmp_ge 124 dX6_mayHave_93 (by decide) (fun h93 => ?_) (fun h93 => ?_)
      · refine K k (by omega) (by omega) ⟨fun e => ⟨by omega, fun j j1 j2 => hj j j1 (by omega)⟩, fun e => ?_⟩ hm
        have := e.1; omega
      · refine G_aload_n dX6_mayHave_96 rfl ?_
        refine G_getR (jj := 25) dX6_mayHave_97 flX6_52 rfl rfl rfl ?_
        refine G_bipush (n := 100) dX6_mayHave_100 (by decide) ⟨by decide, by decide⟩ ?_
        refine G_iload_n dX6_mayHave_102 rfl ?_
        refine G_imul dX6_mayHave_103 (iRm (by omega) (by omega)) ?_
        refine G_aload_n dX6_mayHave_104 rfl ?_
        refine G_getI (jj := 35) dX6_mayHave_105 flX6_194 rfl rfl rfl ?_
        refine G_iadd dX6_mayHave_108 (iRm (by omega) (by omega)) ?_
        refine G_iconst (n := 1) dX6_mayHave_109 ⟨by decide, by decide⟩ ?_
        refine G_isub dX6_mayHave_110 (iRm (by omega) (by omega)) ?_
        refine G_iload dX6_mayHave_111 rfl ?_
        refine G_isub dX6_mayHave_113 (iRm (by omega) (by omega)) ?_
        refine G_iald dX6_mayHave_114 rfl (by omega) (by omega) ?_
        refine G_if_eq 124 dX6_mayHave_115 (by decide) (fun h115 => ?_) (fun h115 => ?_)
        · refine K k (by omega) (by omega) ⟨fun e => ⟨by omega, fun j j1 j2 => hj j j1 (by omega)⟩, fun e => ?_⟩ hm
          by_cases e2 : k = v 29 0
          · exact e2
          · exact absurd h115 (e.2 k (by omega) (by omega))
        · refine G_iinc dX6_mayHave_118 rfl (iRm (by omega) (by omega)) rfl rfl ?_
          refine G_goto 76 dX6_mayHave_121 (by decide) ?_
          exact ih (n - 1) (by omega) (k + 1) (by omega) (by omega) (by omega) (by omega) hm (fun j j1 j2 => by by_cases e : j = k; rw [e]; exact h115; exact hj j j1 (by omega))
  refine G_iload_n dX6_mayHave_0 rfl ?_
  refine G_iconst (n := 2) dX6_mayHave_1 ⟨by decide, by decide⟩ ?_
  refine G_idiv dX6_mayHave_2 (by omega) (by omega) ?_
  refine G_istore_n dX6_mayHave_3 rfl rfl ?_
  refine G_aload_n dX6_mayHave_4 rfl ?_
  refine G_getR (jj := 26) dX6_mayHave_5 flX6_55 rfl rfl rfl ?_
  refine G_bipush (n := 100) dX6_mayHave_8 (by decide) ⟨by decide, by decide⟩ ?_
  refine G_iload_n dX6_mayHave_10 rfl ?_
  refine G_imul dX6_mayHave_11 (iRm (by omega) (by omega)) ?_
  refine G_aload_n dX6_mayHave_12 rfl ?_
  refine G_getI (jj := 35) dX6_mayHave_13 flX6_194 rfl rfl rfl ?_
  refine G_iadd dX6_mayHave_16 (iRm (by omega) (by omega)) ?_
  refine G_zald dX6_mayHave_17 rfl (by omega) (by omega) ?_
  refine G_if_ne 71 dX6_mayHave_18 (by decide) (fun h18 => ?_) (fun h18 => ?_)
  · refine G_iconst (n := 0) dX6_mayHave_71 ⟨by decide, by decide⟩ ?_
    exact G_zret dX6_mayHave_72 rfl (by omega) rfl rfl ⟨congrArg (fun x => some (ai x)) (bP_f (fun h => by have h := h; unfold mayP at h; omega)).symm, rfl, rfl⟩
  · refine G_aload_n dX6_mayHave_21 rfl ?_
    refine G_getR (jj := 20) dX6_mayHave_22 flX6_37 rfl rfl rfl ?_
    refine G_iload_n dX6_mayHave_25 rfl ?_
    refine G_iald dX6_mayHave_26 rfl (by omega) (by omega) ?_
    refine G_aload_n dX6_mayHave_27 rfl ?_
    refine G_getR (jj := 29) dX6_mayHave_28 flX6_65 rfl rfl rfl ?_
    refine G_iload_n dX6_mayHave_31 rfl ?_
    refine G_iald dX6_mayHave_32 rfl (by omega) (by omega) ?_
    refine G_iand (bandI (v 37 u) (v 46 (s / 2))) dX6_mayHave_33 rfl ?_
    refine G_if_ne 71 dX6_mayHave_34 (by decide) (fun h34 => ?_) (fun h34 => ?_)
    · refine G_iconst (n := 0) dX6_mayHave_71 ⟨by decide, by decide⟩ ?_
      exact G_zret dX6_mayHave_72 rfl (by omega) rfl rfl ⟨congrArg (fun x => some (ai x)) (bP_f (fun h => by have h := h; unfold mayP at h; omega)).symm, rfl, rfl⟩
    · refine G_aload_n dX6_mayHave_37 rfl ?_
      refine G_getR (jj := 19) dX6_mayHave_38 flX6_34 rfl rfl rfl ?_
      refine G_iload_n dX6_mayHave_41 rfl ?_
      refine G_iald dX6_mayHave_42 rfl (by omega) (by omega) ?_
      refine G_aload_n dX6_mayHave_43 rfl ?_
      refine G_getR (jj := 30) dX6_mayHave_44 flX6_68 rfl rfl rfl ?_
      refine G_iload_n dX6_mayHave_47 rfl ?_
      refine G_iald dX6_mayHave_48 rfl (by omega) (by omega) ?_
      refine G_iload_n dX6_mayHave_49 rfl ?_
      refine G_iconst (n := 2) dX6_mayHave_50 ⟨by decide, by decide⟩ ?_
      refine G_irem dX6_mayHave_51 (by omega) (by omega) ?_
      refine G_iadd dX6_mayHave_52 (iRm (by omega) (by omega)) ?_
      refine G_icmp_gt 71 dX6_mayHave_53 (by decide) (fun h53 => ?_) (fun h53 => ?_)
      · refine G_iconst (n := 0) dX6_mayHave_71 ⟨by decide, by decide⟩ ?_
        exact G_zret dX6_mayHave_72 rfl (by omega) rfl rfl ⟨congrArg (fun x => some (ai x)) (bP_f (fun h => by have h := h; unfold mayP at h; omega)).symm, rfl, rfl⟩
      · refine G_aload_n dX6_mayHave_56 rfl ?_
        refine G_iload_n dX6_mayHave_57 rfl ?_
        refine G_iload_n dX6_mayHave_58 rfl ?_
        refine G_cVi (ci := 6) dX6_mayHave_59 rfl (by decide) rfl (c_X6_miles l (d + 0) nu v u s (by omega) (by omega) hum.1 hum.2.1 hga.1 hga.2.1) mcX6_204 rfl rfl (by show _ ≤ d + 2; omega) rfl rfl (Nat.le_refl _) (Nat.le_refl _) ?_
        refine G_aload_n dX6_mayHave_62 rfl ?_
        refine G_getR (jj := 3) dX6_mayHave_63 flX6_13 rfl rfl rfl ?_
        refine G_iconst (n := 2) dX6_mayHave_66 ⟨by decide, by decide⟩ ?_
        refine G_iald dX6_mayHave_67 rfl (by omega) (by omega) ?_
        refine G_icmp_le 73 dX6_mayHave_68 (by decide) (fun h68 => ?_) (fun h68 => ?_)
        · refine G_iconst (n := 0) dX6_mayHave_73 ⟨by decide, by decide⟩ ?_
          refine G_istore dX6_mayHave_74 rfl rfl ?_
          exact loop1 20 0 (by omega) (by omega) (by omega) (by omega) (fun a b => ⟨by omega, h34, by omega, h68, a, b⟩) (fun j j1 j2 => by omega)
        · refine G_iconst (n := 0) dX6_mayHave_71 ⟨by decide, by decide⟩ ?_
          exact G_zret dX6_mayHave_72 rfl (by omega) rfl rfl ⟨congrArg (fun x => some (ai x)) (bP_f (fun h => by have h := h; unfold mayP at h; omega)).symm, rfl, rfl⟩
end
section
set_option maxRecDepth 20000 in
set_option maxHeartbeats 1000000 in
theorem c_X6_may (l : Launch) (d nu : Nat) (v : VV) (w : VV) (hw : up v 27 0 0 = w) (hB : MB nu w) (u s : Int) : Ct l yX6_may cX6_may (some .boolean) 3 (d + 3) 0 0 [ar (some 27), ai u, ai s] (SG nu) v (rI (SG nu) (bP ((0 ≤ u ∧ u < nu) ∧ (0 ≤ s ∧ s < 2 * w 27 34) ∧ mayP w u s)) w) := by
  refine Ct_of_G [some (ar (some 27)), some (ai u), some (ai s)] (by decide) rfl rfl ?_
  have hn := hB.1
  have hgm := hB.2.1
  have hwk := hB.2.2.1
  refine G_aload_n dX6_may_0 rfl ?_
  refine G_iconst (n := 0) dX6_may_1 ⟨by decide, by decide⟩ ?_
  refine G_putI (jj := 0) dX6_may_2 flX6_101 rfl rfl rfl rfl ?_
  rw [hw]
  refine G_aload_n dX6_may_5 rfl ?_
  refine G_iload_n dX6_may_6 rfl ?_
  refine G_cVi (ci := 6) dX6_may_7 rfl (by decide) rfl (c_X6_isUmpire l (d + 2) nu w u) mcX6_191 rfl rfl (by show _ ≤ d + 3; omega) rfl rfl (Nat.le_refl _) (Nat.le_refl _) ?_
  refine G_if_eq 34 dX6_may_10 (by decide) (fun h10 => ?_) (fun h10 => ?_)
  · refine G_iconst (n := 0) dX6_may_34 ⟨by decide, by decide⟩ ?_
    exact G_zret dX6_may_35 rfl (by omega) rfl rfl ⟨congrArg (fun x => some (ai x)) (by first | exact (bP_t ⟨hu, hs, bP_1.mp (by rcases bP_01 (mayP w u s) with q | q; exact absurd q h27; exact q)⟩).symm | exact (bP_f (fun h => bP_0.mp h27 h.2.2)).symm | exact (bP_f (fun h => by omega)).symm), rfl, rfl⟩
  · have hu : 0 ≤ u ∧ u < nu := by omega
    refine G_aload_n dX6_may_13 rfl ?_
    refine G_iload_n dX6_may_14 rfl ?_
    refine G_cVi (ci := 6) dX6_may_15 rfl (by decide) rfl (c_X6_isSeat l (d + 2) nu w s hgm) mcX6_207 rfl rfl (by show _ ≤ d + 3; omega) rfl rfl (Nat.le_refl _) (Nat.le_refl _) ?_
    refine G_if_eq 34 dX6_may_18 (by decide) (fun h18 => ?_) (fun h18 => ?_)
    · refine G_iconst (n := 0) dX6_may_34 ⟨by decide, by decide⟩ ?_
      exact G_zret dX6_may_35 rfl (by omega) rfl rfl ⟨congrArg (fun x => some (ai x)) (by first | exact (bP_t ⟨hu, hs, bP_1.mp (by rcases bP_01 (mayP w u s) with q | q; exact absurd q h27; exact q)⟩).symm | exact (bP_f (fun h => bP_0.mp h27 h.2.2)).symm | exact (bP_f (fun h => by omega)).symm), rfl, rfl⟩
    · have hs : 0 ≤ s ∧ s < 2 * w 27 34 := by omega
      refine G_aload_n dX6_may_21 rfl ?_
      refine G_iload_n dX6_may_22 rfl ?_
      refine G_iload_n dX6_may_23 rfl ?_
      refine G_cVi (ci := 6) dX6_may_24 rfl (by decide) rfl (c_X6_mayHave l (d + 0) nu w hB u s hu hs) mcX6_210 rfl rfl (by show _ ≤ d + 3; omega) rfl rfl (Nat.le_refl _) (Nat.le_refl _) ?_
      refine G_if_eq 34 dX6_may_27 (by decide) (fun h27 => ?_) (fun h27 => ?_)
      · refine G_iconst (n := 0) dX6_may_34 ⟨by decide, by decide⟩ ?_
        exact G_zret dX6_may_35 rfl (by omega) rfl rfl ⟨congrArg (fun x => some (ai x)) (by first | exact (bP_t ⟨hu, hs, bP_1.mp (by rcases bP_01 (mayP w u s) with q | q; exact absurd q h27; exact q)⟩).symm | exact (bP_f (fun h => bP_0.mp h27 h.2.2)).symm | exact (bP_f (fun h => by omega)).symm), rfl, rfl⟩
      · refine G_iconst (n := 1) dX6_may_30 ⟨by decide, by decide⟩ ?_
        refine G_goto 35 dX6_may_31 (by decide) ?_
        exact G_zret dX6_may_35 rfl (by omega) rfl rfl ⟨congrArg (fun x => some (ai x)) (by first | exact (bP_t ⟨hu, hs, bP_1.mp (by rcases bP_01 (mayP w u s) with q | q; exact absurd q h27; exact q)⟩).symm | exact (bP_f (fun h => bP_0.mp h27 h.2.2)).symm | exact (bP_f (fun h => by omega)).symm), rfl, rfl⟩
set_option maxRecDepth 20000 in
set_option maxHeartbeats 1000000 in
theorem c_X6_cost (l : Launch) (d nu : Nat) (v : VV) (w : VV) (hw : up v 27 0 0 = w) (hB : MB nu w) (u s : Int) : Ct l yX6_cost cX6_cost (some .int) 3 (d + 3) 0 0 [ar (some 27), ai u, ai s] (SG nu) v (rI (SG nu) (if (0 ≤ u ∧ u < nu) ∧ (0 ≤ s ∧ s < 2 * w 27 34) then costS w u s else -1) w) := by
  refine Ct_of_G [some (ar (some 27)), some (ai u), some (ai s)] (by decide) rfl rfl ?_
  have hn := hB.1
  have hgm := hB.2.1
  have hwk := hB.2.2.1
  refine G_aload_n dX6_cost_0 rfl ?_
  refine G_iconst (n := 0) dX6_cost_1 ⟨by decide, by decide⟩ ?_
  refine G_putI (jj := 0) dX6_cost_2 flX6_101 rfl rfl rfl rfl ?_
  rw [hw]
  refine G_aload_n dX6_cost_5 rfl ?_
  refine G_iload_n dX6_cost_6 rfl ?_
  refine G_cVi (ci := 6) dX6_cost_7 rfl (by decide) rfl (c_X6_isUmpire l (d + 2) nu w u) mcX6_191 rfl rfl (by show _ ≤ d + 3; omega) rfl rfl (Nat.le_refl _) (Nat.le_refl _) ?_
  refine G_if_eq 30 dX6_cost_10 (by decide) (fun h10 => ?_) (fun h10 => ?_)
  · refine G_iconst (n := (-1)) dX6_cost_30 ⟨by decide, by decide⟩ ?_
    exact G_iret dX6_cost_31 rfl rfl rfl ⟨by first | (rw [if_pos (by omega)]) | (rw [if_neg (by omega)]), rfl, rfl⟩
  · have hu : 0 ≤ u ∧ u < nu := by omega
    refine G_aload_n dX6_cost_13 rfl ?_
    refine G_iload_n dX6_cost_14 rfl ?_
    refine G_cVi (ci := 6) dX6_cost_15 rfl (by decide) rfl (c_X6_isSeat l (d + 2) nu w s hgm) mcX6_207 rfl rfl (by show _ ≤ d + 3; omega) rfl rfl (Nat.le_refl _) (Nat.le_refl _) ?_
    refine G_if_eq 30 dX6_cost_18 (by decide) (fun h18 => ?_) (fun h18 => ?_)
    · refine G_iconst (n := (-1)) dX6_cost_30 ⟨by decide, by decide⟩ ?_
      exact G_iret dX6_cost_31 rfl rfl rfl ⟨by first | (rw [if_pos (by omega)]) | (rw [if_neg (by omega)]), rfl, rfl⟩
    · have hs : 0 ≤ s ∧ s < 2 * w 27 34 := by omega
      refine G_aload_n dX6_cost_21 rfl ?_
      refine G_iload_n dX6_cost_22 rfl ?_
      refine G_iload_n dX6_cost_23 rfl ?_
      refine G_cVi (ci := 6) dX6_cost_24 rfl (by decide) rfl (c_X6_costOf l (d + 0) nu w hB u s hu hs) mcX6_214 rfl rfl (by show _ ≤ d + 3; omega) rfl rfl (Nat.le_refl _) (Nat.le_refl _) ?_
      refine G_goto 31 dX6_cost_27 (by decide) ?_
      exact G_iret dX6_cost_31 rfl rfl rfl ⟨by first | (rw [if_pos (by omega)]) | (rw [if_neg (by omega)]), rfl, rfl⟩
set_option maxRecDepth 20000 in
set_option maxHeartbeats 1000000 in
theorem c_X6_seat (l : Launch) (d nu : Nat) (v : VV) (w : VV) (hw : up v 27 0 0 = w) (hB : MB nu w) (s : Int) : Ct l yX6_seat cX6_seat (some .int) 2 (d + 1) 0 0 [ar (some 27), ai s] (SG nu) v (rI (SG nu) (if 0 ≤ s ∧ s < 2 * w 27 34 then w 48 s else -1) w) := by
  refine Ct_of_G [some (ar (some 27)), some (ai s)] (by decide) rfl rfl ?_
  have hn := hB.1
  have hgm := hB.2.1
  have hwk := hB.2.2.1
  refine G_aload_n dX6_seat_0 rfl ?_
  refine G_iconst (n := 0) dX6_seat_1 ⟨by decide, by decide⟩ ?_
  refine G_putI (jj := 0) dX6_seat_2 flX6_101 rfl rfl rfl rfl ?_
  rw [hw]
  refine G_aload_n dX6_seat_5 rfl ?_
  refine G_iload_n dX6_seat_6 rfl ?_
  refine G_cVi (ci := 6) dX6_seat_7 rfl (by decide) rfl (c_X6_isSeat l (d + 0) nu w s hgm) mcX6_207 rfl rfl (by show _ ≤ d + 1; omega) rfl rfl (Nat.le_refl _) (Nat.le_refl _) ?_
  refine G_if_eq 22 dX6_seat_10 (by decide) (fun h10 => ?_) (fun h10 => ?_)
  · refine G_iconst (n := (-1)) dX6_seat_22 ⟨by decide, by decide⟩ ?_
    exact G_iret dX6_seat_23 rfl rfl rfl ⟨by first | (rw [if_pos (by omega)]) | (rw [if_neg (by omega)]), rfl, rfl⟩
  · refine G_aload_n dX6_seat_13 rfl ?_
    refine G_getR (jj := 31) dX6_seat_14 flX6_71 rfl rfl rfl ?_
    refine G_iload_n dX6_seat_17 rfl ?_
    refine G_iald dX6_seat_18 rfl (by omega) (by omega) ?_
    refine G_goto 23 dX6_seat_19 (by decide) ?_
    exact G_iret dX6_seat_23 rfl rfl rfl ⟨by first | (rw [if_pos (by omega)]) | (rw [if_neg (by omega)]), rfl, rfl⟩
set_option maxRecDepth 20000 in
set_option maxHeartbeats 1000000 in
theorem c_X6_rule (l : Launch) (d nu : Nat) (v : VV) (w : VV) (hw : up v 27 0 0 = w) (k : Int) : Ct l yX6_rule cX6_rule (some .int) 2 (d + 0) 0 0 [ar (some 27), ai k] (SG nu) v (rI (SG nu) (if 0 ≤ k ∧ k < 9 then w 29 k else -1) w) := by
  refine Ct_of_G [some (ar (some 27)), some (ai k)] (by decide) rfl rfl ?_
  refine G_aload_n dX6_rule_0 rfl ?_
  refine G_iconst (n := 0) dX6_rule_1 ⟨by decide, by decide⟩ ?_
  refine G_putI (jj := 0) dX6_rule_2 flX6_101 rfl rfl rfl rfl ?_
  rw [hw]
  refine G_iload_n dX6_rule_5 rfl ?_
  refine G_if_lt 15 dX6_rule_6 (by decide) (fun h6 => ?_) (fun h6 => ?_)
  · refine G_iconst (n := (-1)) dX6_rule_15 ⟨by decide, by decide⟩ ?_
    refine G_goto 25 dX6_rule_16 (by decide) ?_
    exact G_iret dX6_rule_25 rfl rfl rfl ⟨by first | (rw [if_pos (by omega)]) | (rw [if_neg (by omega)]), rfl, rfl⟩
  · refine G_iload_n dX6_rule_9 rfl ?_
    refine G_bipush (n := 9) dX6_rule_10 (by decide) ⟨by decide, by decide⟩ ?_
    refine G_icmp_lt 19 dX6_rule_12 (by decide) (fun h12 => ?_) (fun h12 => ?_)
    · refine G_aload_n dX6_rule_19 rfl ?_
      refine G_getR (jj := 3) dX6_rule_20 flX6_13 rfl rfl rfl ?_
      refine G_iload_n dX6_rule_23 rfl ?_
      refine G_iald dX6_rule_24 rfl (by omega) (by omega) ?_
      exact G_iret dX6_rule_25 rfl rfl rfl ⟨by first | (rw [if_pos (by omega)]) | (rw [if_neg (by omega)]), rfl, rfl⟩
    · refine G_iconst (n := (-1)) dX6_rule_15 ⟨by decide, by decide⟩ ?_
      refine G_goto 25 dX6_rule_16 (by decide) ?_
      exact G_iret dX6_rule_25 rfl rfl rfl ⟨by first | (rw [if_pos (by omega)]) | (rw [if_neg (by omega)]), rfl, rfl⟩
set_option maxRecDepth 20000 in
set_option maxHeartbeats 1000000 in
theorem c_X6_stood (l : Launch) (d nu : Nat) (v : VV) (w : VV) (hw : up v 27 0 0 = w) (hB : MB nu w) (u x : Int) : Ct l yX6_stood cX6_stood (some .int) 3 (d + 1) 0 0 [ar (some 27), ai u, ai x] (SG nu) v (rI (SG nu) (if (0 ≤ u ∧ u < nu) ∧ (0 ≤ x ∧ x < w 27 35) then w 42 (100 * u + x) else -1) w) := by
  refine Ct_of_G [some (ar (some 27)), some (ai u), some (ai x)] (by decide) rfl rfl ?_
  have hn := hB.1
  have hgm := hB.2.1
  have hwk := hB.2.2.1
  refine G_aload_n dX6_stood_0 rfl ?_
  refine G_iconst (n := 0) dX6_stood_1 ⟨by decide, by decide⟩ ?_
  refine G_putI (jj := 0) dX6_stood_2 flX6_101 rfl rfl rfl rfl ?_
  rw [hw]
  refine G_aload_n dX6_stood_5 rfl ?_
  refine G_iload_n dX6_stood_6 rfl ?_
  refine G_cVi (ci := 6) dX6_stood_7 rfl (by decide) rfl (c_X6_isUmpire l (d + 0) nu w u) mcX6_191 rfl rfl (by show _ ≤ d + 1; omega) rfl rfl (Nat.le_refl _) (Nat.le_refl _) ?_
  refine G_if_eq 41 dX6_stood_10 (by decide) (fun h10 => ?_) (fun h10 => ?_)
  · refine G_iconst (n := (-1)) dX6_stood_41 ⟨by decide, by decide⟩ ?_
    exact G_iret dX6_stood_42 rfl rfl rfl ⟨by first | (rw [if_pos (by omega)]) | (rw [if_neg (by omega)]), rfl, rfl⟩
  · have hu : 0 ≤ u ∧ u < nu := by omega
    refine G_iload_n dX6_stood_13 rfl ?_
    refine G_iconst (n := 0) dX6_stood_14 ⟨by decide, by decide⟩ ?_
    refine G_aload_n dX6_stood_15 rfl ?_
    refine G_getI (jj := 35) dX6_stood_16 flX6_194 rfl rfl rfl ?_
    refine G_iconst (n := 1) dX6_stood_19 ⟨by decide, by decide⟩ ?_
    refine G_isub dX6_stood_20 (iRm (by omega) (by omega)) ?_
    refine G_cSi dX6_stood_21 (c_X6_isIn l (d + 0) nu w x 0 (w 27 35 - 1)) mcX6_187 rfl rfl (by show _ ≤ d + 1; omega) rfl rfl (Nat.le_refl _) (Nat.le_refl _) ?_
    refine G_if_eq 41 dX6_stood_24 (by decide) (fun h24 => ?_) (fun h24 => ?_)
    · refine G_iconst (n := (-1)) dX6_stood_41 ⟨by decide, by decide⟩ ?_
      exact G_iret dX6_stood_42 rfl rfl rfl ⟨by first | (rw [if_pos (by omega)]) | (rw [if_neg (by omega)]), rfl, rfl⟩
    · refine G_aload_n dX6_stood_27 rfl ?_
      refine G_getR (jj := 25) dX6_stood_28 flX6_52 rfl rfl rfl ?_
      refine G_bipush (n := 100) dX6_stood_31 (by decide) ⟨by decide, by decide⟩ ?_
      refine G_iload_n dX6_stood_33 rfl ?_
      refine G_imul dX6_stood_34 (iRm (by omega) (by omega)) ?_
      refine G_iload_n dX6_stood_35 rfl ?_
      refine G_iadd dX6_stood_36 (iRm (by omega) (by omega)) ?_
      refine G_iald dX6_stood_37 rfl (by omega) (by omega) ?_
      refine G_goto 42 dX6_stood_38 (by decide) ?_
      exact G_iret dX6_stood_42 rfl rfl rfl ⟨by first | (rw [if_pos (by omega)]) | (rw [if_neg (by omega)]), rfl, rfl⟩
def countS (v : VV) (x : Int) : Int := if x = 0 then v 27 35 else if x = 1 then v 27 33 else if x = 2 then v 27 34 else if x = 3 then filledS v else if x = 4 then v 27 36 else if x = 5 then v 27 2 else -1
set_option maxRecDepth 20000 in
set_option maxHeartbeats 1000000 in
theorem c_X6_count (l : Launch) (d nu : Nat) (v : VV) (w : VV) (hw : up v 27 0 0 = w) (hB : MB nu w) (x : Int) : Ct l yX6_count cX6_count (some .int) 2 (d + 1) 0 0 [ar (some 27), ai x] (SG nu) v (rI (SG nu) (countS w x) w) := by
  refine Ct_of_G [some (ar (some 27)), some (ai x)] (by decide) rfl rfl ?_
  have hn := hB.1
  have hgm := hB.2.1
  have hwk := hB.2.2.1
  refine G_aload_n dX6_count_0 rfl ?_
  refine G_iconst (n := 0) dX6_count_1 ⟨by decide, by decide⟩ ?_
  refine G_putI (jj := 0) dX6_count_2 flX6_101 rfl rfl rfl rfl ?_
  rw [hw]
  refine G_iload_n dX6_count_5 rfl ?_
  rcases (show (x < 0 ∨ 5 < x) ∨ x = 0 ∨ x = 1 ∨ x = 2 ∨ x = 3 ∨ x = 4 ∨ x = 5 by omega) with hsw | rfl | rfl | rfl | rfl | rfl | rfl
  · refine G_tableOut 74 dX6_count_6 hsw (by decide) ?_
    refine G_iconst (n := (-1)) dX6_count_74 ⟨by decide, by decide⟩ ?_
    exact G_iret dX6_count_75 rfl rfl rfl ⟨by unfold countS; rw [if_neg (by omega), if_neg (by omega), if_neg (by omega), if_neg (by omega), if_neg (by omega), if_neg (by omega)], rfl, rfl⟩
  · refine G_tableIn 44 dX6_count_6 (by omega) (by omega) rfl (by decide) ?_
    refine G_aload_n dX6_count_44 rfl ?_
    refine G_getI (jj := 35) dX6_count_45 flX6_194 rfl rfl rfl ?_
    exact G_iret dX6_count_48 rfl rfl rfl ⟨by simp [countS], rfl, rfl⟩
  · refine G_tableIn 49 dX6_count_6 (by omega) (by omega) rfl (by decide) ?_
    refine G_aload_n dX6_count_49 rfl ?_
    refine G_getI (jj := 33) dX6_count_50 flX6_181 rfl rfl rfl ?_
    exact G_iret dX6_count_53 rfl rfl rfl ⟨by simp [countS], rfl, rfl⟩
  · refine G_tableIn 54 dX6_count_6 (by omega) (by omega) rfl (by decide) ?_
    refine G_aload_n dX6_count_54 rfl ?_
    refine G_getI (jj := 34) dX6_count_55 flX6_184 rfl rfl rfl ?_
    exact G_iret dX6_count_58 rfl rfl rfl ⟨by simp [countS], rfl, rfl⟩
  · refine G_tableIn 59 dX6_count_6 (by omega) (by omega) rfl (by decide) ?_
    refine G_aload_n dX6_count_59 rfl ?_
    refine G_cVi (ci := 6) dX6_count_60 rfl (by decide) rfl (c_X6_filled l (d + 0) nu w hgm) mcX6_256 rfl rfl (by show _ ≤ d + 1; omega) rfl rfl (Nat.le_refl _) (Nat.le_refl _) ?_
    exact G_iret dX6_count_63 rfl rfl rfl ⟨by simp [countS], rfl, rfl⟩
  · refine G_tableIn 64 dX6_count_6 (by omega) (by omega) rfl (by decide) ?_
    refine G_aload_n dX6_count_64 rfl ?_
    refine G_getI (jj := 36) dX6_count_65 flX6_250 rfl rfl rfl ?_
    exact G_iret dX6_count_68 rfl rfl rfl ⟨by simp [countS], rfl, rfl⟩
  · refine G_tableIn 69 dX6_count_6 (by omega) (by omega) rfl (by decide) ?_
    refine G_aload_n dX6_count_69 rfl ?_
    refine G_getI (jj := 2) dX6_count_70 flX6_105 rfl rfl rfl ?_
    exact G_iret dX6_count_73 rfl rfl rfl ⟨by simp [countS], rfl, rfl⟩
def togS (v : VV) : Int := sumF (fun s => if v 48 s = -1 then 0 else costS v (v 48 s) s) (2 * v 27 34).toNat 0
set_option maxRecDepth 20000 in
set_option maxHeartbeats 1000000 in
theorem c_X6_together (l : Launch) (d nu : Nat) (v : VV) (w : VV) (hw : up v 27 0 0 = w) (hB : MB nu w) : Ct l yX6_together cX6_together (some .int) 3 (d + 4) 0 0 [ar (some 27)] (SG nu) v (rI (SG nu) (togS w) w) := by
  refine Ct_of_G [some (ar (some 27)), none, none] (by decide) rfl rfl ?_
  have hn := hB.1
  have hgm := hB.2.1
  have hwk := hB.2.2.1
  have loop : ∀ (n : Nat) (a s : Int), 0 ≤ s → s + n = 2 * w 27 34 → 0 ≤ a → a ≤ s * 5148 → G l (yX6_together, cX6_together, (some .int), 3, (d + 4), 0, 0, none) (rI (SG nu) (a + sumF (fun s => if w 48 s = -1 then 0 else costS w (w 48 s) s) n s) w) 0 0 (SG nu) 9 [some (ar (some 27)), some (ai a), some (ai s)] [] w := by
    intro n
    induction n using Nat.strongRecOn with
    | ind n ih =>
    intro a s h0 h1 h2 h3
    refine G_iload_n dX6_together_9 rfl ?_
    refine G_iconst (n := 2) dX6_together_10 ⟨by decide, by decide⟩ ?_
    refine G_aload_n dX6_together_11 rfl ?_
    refine G_getI (jj := 34) dX6_together_12 flX6_184 rfl rfl rfl ?_
    refine G_imul dX6_together_15 (iRm (by omega) (by omega)) ?_
    refine G_icmp_ge 49 dX6_together_16 (by decide) (fun h16 => ?_) (fun h16 => ?_)
    · obtain rfl : n = 0 := by omega
      refine G_iload_n dX6_together_49 rfl ?_
      exact G_iret dX6_together_50 rfl rfl rfl ⟨by rw [sumF, Int.add_zero], rfl, rfl⟩
    · obtain ⟨n, rfl⟩ : ∃ k, n = k + 1 := ⟨n - 1, by omega⟩
      have hws := hB.2.2.2.2.2.2 s (by omega) (by omega)
      refine G_aload_n dX6_together_19 rfl ?_
      refine G_getR (jj := 31) dX6_together_20 flX6_71 rfl rfl rfl ?_
      refine G_iload_n dX6_together_23 rfl ?_
      refine G_iald dX6_together_24 rfl (by omega) (by omega) ?_
      refine G_iconst (n := (-1)) dX6_together_25 ⟨by decide, by decide⟩ ?_
      refine G_icmp_eq 43 dX6_together_26 (by decide) (fun h26 => ?_) (fun h26 => ?_)
      · refine G_iinc dX6_together_43 rfl (iRm (by omega) (by omega)) rfl rfl ?_
        refine G_goto 9 dX6_together_46 (by decide) ?_
        exact GI_eq (by simp [sumF, h26]; try omega) (ih n (by omega) _ (s + 1) (by omega) (by omega) (by omega) (by omega))
      · have hu : 0 ≤ w 48 s ∧ w 48 s < nu := by omega
        have hcs := hB.cost hu (s := s) (by omega)
        refine G_iload_n dX6_together_29 rfl ?_
        refine G_aload_n dX6_together_30 rfl ?_
        refine G_aload_n dX6_together_31 rfl ?_
        refine G_getR (jj := 31) dX6_together_32 flX6_71 rfl rfl rfl ?_
        refine G_iload_n dX6_together_35 rfl ?_
        refine G_iald dX6_together_36 rfl (by omega) (by omega) ?_
        refine G_iload_n dX6_together_37 rfl ?_
        refine G_cVi (ci := 6) dX6_together_38 rfl (by decide) rfl (c_X6_costOf l (d + 1) nu w hB (w 48 s) s hu (by omega)) mcX6_214 rfl rfl (by show _ ≤ d + 4; omega) rfl rfl (Nat.le_refl _) (Nat.le_refl _) ?_
        refine G_iadd dX6_together_41 (iRm (by omega) (by omega)) ?_
        refine G_istore_n dX6_together_42 rfl rfl ?_
        refine G_iinc dX6_together_43 rfl (iRm (by omega) (by omega)) rfl rfl ?_
        refine G_goto 9 dX6_together_46 (by decide) ?_
        exact GI_eq (by simp [sumF, h26]; try omega) (ih n (by omega) _ (s + 1) (by omega) (by omega) (by omega) (by omega))
  refine G_aload_n dX6_together_0 rfl ?_
  refine G_iconst (n := 0) dX6_together_1 ⟨by decide, by decide⟩ ?_
  refine G_putI (jj := 0) dX6_together_2 flX6_101 rfl rfl rfl rfl ?_
  rw [hw]
  refine G_iconst (n := 0) dX6_together_5 ⟨by decide, by decide⟩ ?_
  refine G_istore_n dX6_together_6 rfl rfl ?_
  refine G_iconst (n := 0) dX6_together_7 ⟨by decide, by decide⟩ ?_
  refine G_istore_n dX6_together_8 rfl rfl ?_
  have e := loop (2 * w 27 34).toNat 0 0 (by omega) (by omega) (by omega) (by omega)
  rw [Int.zero_add] at e
  exact e
def aboutS (v : VV) (u x : Int) : Int := if x = 0 then v 36 u else if x = 1 then seatOfS v u else if x = 2 then v 41 u else if x = 3 then v 38 u else if x = 4 then v 39 u else v 40 u
set_option maxRecDepth 20000 in
set_option maxHeartbeats 1000000 in
theorem c_X6_about (l : Launch) (d nu : Nat) (v : VV) (w : VV) (hw : up v 27 0 0 = w) (hB : MB nu w) (u x : Int) : Ct l yX6_about cX6_about (some .int) 3 (d + 1) 0 0 [ar (some 27), ai u, ai x] (SG nu) v (fun r S2 v2 => S2 = SG nu ∧ ((((0 ≤ u ∧ u < nu) ∧ (0 ≤ x ∧ x ≤ 5)) ∧ r = some (ai (aboutS w u x)) ∧ v2 = w) ∨ (¬ ((0 ≤ u ∧ u < nu) ∧ (0 ≤ x ∧ x ≤ 5)) ∧ r = some (ai 0) ∧ v2 = up v 27 0 1))) := by
  refine Ct_of_G [some (ar (some 27)), some (ai u), some (ai x)] (by decide) rfl rfl ?_
  have hn := hB.1
  have hgm := hB.2.1
  have hwk := hB.2.2.1
  have hn2 : v 27 33 = nu := by have := hB.1.2; rw [← hw] at this; exact this
  refine G_aload_n dX6_about_0 rfl ?_
  refine G_iload_n dX6_about_1 rfl ?_
  refine G_cVi (ci := 6) dX6_about_2 rfl (by decide) rfl (c_X6_isUmpire l (d + 0) nu v u) mcX6_191 rfl rfl (by show _ ≤ d + 1; omega) rfl rfl (Nat.le_refl _) (Nat.le_refl _) ?_
  refine G_if_eq 17 dX6_about_5 (by decide) (fun h5 => ?_) (fun h5 => ?_)
  · refine G_aload_n dX6_about_17 rfl ?_
    refine G_cVi (ci := 6) dX6_about_18 rfl (by decide) rfl (c_X6_refuse l (d + 0) nu v) mcX6_262 rfl rfl (by show _ ≤ d + 1; omega) rfl rfl (Nat.le_refl _) (Nat.le_refl _) ?_
    exact G_iret dX6_about_21 rfl rfl rfl ⟨rfl, Or.inr ⟨by omega, rfl, rfl⟩⟩
  · refine G_iload_n dX6_about_8 rfl ?_
    refine G_if_lt 17 dX6_about_9 (by decide) (fun h9 => ?_) (fun h9 => ?_)
    · refine G_aload_n dX6_about_17 rfl ?_
      refine G_cVi (ci := 6) dX6_about_18 rfl (by decide) rfl (c_X6_refuse l (d + 0) nu v) mcX6_262 rfl rfl (by show _ ≤ d + 1; omega) rfl rfl (Nat.le_refl _) (Nat.le_refl _) ?_
      exact G_iret dX6_about_21 rfl rfl rfl ⟨rfl, Or.inr ⟨by omega, rfl, rfl⟩⟩
    · refine G_iload_n dX6_about_12 rfl ?_
      refine G_iconst (n := 5) dX6_about_13 ⟨by decide, by decide⟩ ?_
      refine G_icmp_le 22 dX6_about_14 (by decide) (fun h14 => ?_) (fun h14 => ?_)
      · refine G_aload_n dX6_about_22 rfl ?_
        refine G_iconst (n := 0) dX6_about_23 ⟨by decide, by decide⟩ ?_
        refine G_putI (jj := 0) dX6_about_24 flX6_101 rfl rfl rfl rfl ?_
        rw [hw]
        refine G_iload_n dX6_about_27 rfl ?_
        rcases (show (x < 0 ∨ 4 < x) ∨ x = 0 ∨ x = 1 ∨ x = 2 ∨ x = 3 ∨ x = 4 by omega) with hsw | hsw | hsw | hsw | hsw | hsw
        · refine G_tableOut 98 dX6_about_28 hsw (by decide) ?_
          refine G_aload_n dX6_about_98 rfl ?_
          refine G_getR (jj := 23) dX6_about_99 flX6_46 rfl rfl rfl ?_
          refine G_iload_n dX6_about_102 rfl ?_
          refine G_iald dX6_about_103 rfl (by omega) (by omega) ?_
          exact G_iret dX6_about_104 rfl rfl rfl ⟨rfl, Or.inl ⟨by omega, by unfold aboutS; rw [if_neg (by omega), if_neg (by omega), if_neg (by omega), if_neg (by omega), if_neg (by omega)], rfl⟩⟩
        · refine G_tableIn 64 dX6_about_28 (by omega) (by omega) (by rw [hsw]; rfl) (by decide) ?_
          refine G_aload_n dX6_about_64 rfl ?_
          refine G_getR (jj := 19) dX6_about_65 flX6_34 rfl rfl rfl ?_
          refine G_iload_n dX6_about_68 rfl ?_
          refine G_iald dX6_about_69 rfl (by omega) (by omega) ?_
          exact G_iret dX6_about_70 rfl rfl rfl ⟨rfl, Or.inl ⟨by omega, by simp [aboutS, hsw], rfl⟩⟩
        · refine G_tableIn 71 dX6_about_28 (by omega) (by omega) (by rw [hsw]; rfl) (by decide) ?_
          refine G_aload_n dX6_about_71 rfl ?_
          refine G_iload_n dX6_about_72 rfl ?_
          refine G_cVi (ci := 6) dX6_about_73 rfl (by decide) rfl (c_X6_seatOf l (d + 0) nu w u hgm) mcX6_197 rfl rfl (by show _ ≤ d + 1; omega) rfl rfl (Nat.le_refl _) (Nat.le_refl _) ?_
          exact G_iret dX6_about_76 rfl rfl rfl ⟨rfl, Or.inl ⟨by omega, by simp [aboutS, hsw], rfl⟩⟩
        · refine G_tableIn 77 dX6_about_28 (by omega) (by omega) (by rw [hsw]; rfl) (by decide) ?_
          refine G_aload_n dX6_about_77 rfl ?_
          refine G_getR (jj := 24) dX6_about_78 flX6_49 rfl rfl rfl ?_
          refine G_iload_n dX6_about_81 rfl ?_
          refine G_iald dX6_about_82 rfl (by omega) (by omega) ?_
          exact G_iret dX6_about_83 rfl rfl rfl ⟨rfl, Or.inl ⟨by omega, by simp [aboutS, hsw], rfl⟩⟩
        · refine G_tableIn 84 dX6_about_28 (by omega) (by omega) (by rw [hsw]; rfl) (by decide) ?_
          refine G_aload_n dX6_about_84 rfl ?_
          refine G_getR (jj := 21) dX6_about_85 flX6_40 rfl rfl rfl ?_
          refine G_iload_n dX6_about_88 rfl ?_
          refine G_iald dX6_about_89 rfl (by omega) (by omega) ?_
          exact G_iret dX6_about_90 rfl rfl rfl ⟨rfl, Or.inl ⟨by omega, by simp [aboutS, hsw], rfl⟩⟩
        · refine G_tableIn 91 dX6_about_28 (by omega) (by omega) (by rw [hsw]; rfl) (by decide) ?_
          refine G_aload_n dX6_about_91 rfl ?_
          refine G_getR (jj := 22) dX6_about_92 flX6_43 rfl rfl rfl ?_
          refine G_iload_n dX6_about_95 rfl ?_
          refine G_iald dX6_about_96 rfl (by omega) (by omega) ?_
          exact G_iret dX6_about_97 rfl rfl rfl ⟨rfl, Or.inl ⟨by omega, by simp [aboutS, hsw], rfl⟩⟩
      · refine G_aload_n dX6_about_17 rfl ?_
        refine G_cVi (ci := 6) dX6_about_18 rfl (by decide) rfl (c_X6_refuse l (d + 0) nu v) mcX6_262 rfl rfl (by show _ ≤ d + 1; omega) rfl rfl (Nat.le_refl _) (Nat.le_refl _) ?_
        exact G_iret dX6_about_21 rfl rfl rfl ⟨rfl, Or.inr ⟨by omega, rfl, rfl⟩⟩
set_option maxRecDepth 20000 in
set_option maxHeartbeats 1000000 in
theorem c_X6_end (l : Launch) (d nu : Nat) (v : VV) (w : VV) (hw : up v 27 0 0 = w) (n : Int) : Ct l yX6_end cX6_end (some .boolean) 2 (d + 0) 0 0 [ar (some 27), ai n] (SG nu) v (rI (SG nu) (if 0 ≤ n ∧ n ≤ w 27 2 then 1 else 0) (if 0 ≤ n ∧ n ≤ w 27 2 then up w 27 2 n else w)) := by
  refine Ct_of_G [some (ar (some 27)), some (ai n)] (by decide) rfl rfl ?_
  refine G_aload_n dX6_end_0 rfl ?_
  refine G_iconst (n := 0) dX6_end_1 ⟨by decide, by decide⟩ ?_
  refine G_putI (jj := 0) dX6_end_2 flX6_101 rfl rfl rfl rfl ?_
  rw [hw]
  refine G_iload_n dX6_end_5 rfl ?_
  refine G_if_lt 17 dX6_end_6 (by decide) (fun h6 => ?_) (fun h6 => ?_)
  · refine G_iconst (n := 0) dX6_end_17 ⟨by decide, by decide⟩ ?_
    exact G_zret dX6_end_18 rfl (by omega) rfl rfl ⟨by rw [if_neg (by omega)], rfl, by rw [if_neg (by omega)]⟩
  · refine G_iload_n dX6_end_9 rfl ?_
    refine G_aload_n dX6_end_10 rfl ?_
    refine G_getI (jj := 2) dX6_end_11 flX6_105 rfl rfl rfl ?_
    refine G_icmp_le 19 dX6_end_14 (by decide) (fun h14 => ?_) (fun h14 => ?_)
    · refine G_aload_n dX6_end_19 rfl ?_
      refine G_iload_n dX6_end_20 rfl ?_
      refine G_putI (jj := 2) dX6_end_21 flX6_105 rfl rfl rfl rfl ?_
      refine G_iconst (n := 1) dX6_end_24 ⟨by decide, by decide⟩ ?_
      exact G_zret dX6_end_25 rfl (by omega) rfl rfl ⟨by rw [if_pos (by omega)], rfl, by rw [if_pos (by omega)]⟩
    · refine G_iconst (n := 0) dX6_end_17 ⟨by decide, by decide⟩ ?_
      exact G_zret dX6_end_18 rfl (by omega) rfl rfl ⟨by rw [if_neg (by omega)], rfl, by rw [if_neg (by omega)]⟩
def umpV (w : VV) (x y g b : Int) : VV := up (up (up (up (up w 34 (w 27 33) x) 35 (w 27 33) y) 36 (w 27 33) g) 37 (w 27 33) b) 27 33 (w 27 33 + 1)
set_option maxRecDepth 20000 in
set_option maxHeartbeats 1000000 in
theorem c_X6_umpire (l : Launch) (d nu : Nat) (v : VV) (w : VV) (hw : up v 27 0 0 = w) (hB : MB nu w) (x y g b : Int) : Ct l yX6_umpire cX6_umpire (some .int) 5 (d + 1) 0 0 [ar (some 27), ai x, ai y, ai g, ai b] (SG nu) v (rI (SG nu) (if w 27 33 ≠ 20 ∧ (0 ≤ x ∧ x ≤ 99) ∧ (0 ≤ y ∧ y ≤ 99) ∧ (1 ≤ g ∧ g ≤ 4) ∧ (0 ≤ b ∧ b ≤ 4095) then w 27 33 else -1) (if w 27 33 ≠ 20 ∧ (0 ≤ x ∧ x ≤ 99) ∧ (0 ≤ y ∧ y ≤ 99) ∧ (1 ≤ g ∧ g ≤ 4) ∧ (0 ≤ b ∧ b ≤ 4095) then umpV w x y g b else w)) := by
  refine Ct_of_G [some (ar (some 27)), some (ai x), some (ai y), some (ai g), some (ai b)] (by decide) rfl rfl ?_
  have hn := hB.1
  have hgm := hB.2.1
  have hwk := hB.2.2.1
  refine G_aload_n dX6_umpire_0 rfl ?_
  refine G_iconst (n := 0) dX6_umpire_1 ⟨by decide, by decide⟩ ?_
  refine G_putI (jj := 0) dX6_umpire_2 flX6_101 rfl rfl rfl rfl ?_
  rw [hw]
  refine G_aload_n dX6_umpire_5 rfl ?_
  refine G_getI (jj := 33) dX6_umpire_6 flX6_181 rfl rfl rfl ?_
  refine G_bipush (n := 20) dX6_umpire_9 (by decide) ⟨by decide, by decide⟩ ?_
  refine G_icmp_eq 55 dX6_umpire_11 (by decide) (fun h11 => ?_) (fun h11 => ?_)
  · refine G_iconst (n := (-1)) dX6_umpire_55 ⟨by decide, by decide⟩ ?_
    exact G_iret dX6_umpire_56 rfl rfl rfl ⟨by rw [if_neg (by omega)], rfl, by rw [if_neg (by omega)]⟩
  · refine G_iload_n dX6_umpire_14 rfl ?_
    refine G_iconst (n := 0) dX6_umpire_15 ⟨by decide, by decide⟩ ?_
    refine G_bipush (n := 99) dX6_umpire_16 (by decide) ⟨by decide, by decide⟩ ?_
    refine G_cSi dX6_umpire_18 (c_X6_isIn l (d + 0) nu w x 0 99) mcX6_187 rfl rfl (by show _ ≤ d + 1; omega) rfl rfl (Nat.le_refl _) (Nat.le_refl _) ?_
    refine G_if_eq 55 dX6_umpire_21 (by decide) (fun h21 => ?_) (fun h21 => ?_)
    · refine G_iconst (n := (-1)) dX6_umpire_55 ⟨by decide, by decide⟩ ?_
      exact G_iret dX6_umpire_56 rfl rfl rfl ⟨by rw [if_neg (by omega)], rfl, by rw [if_neg (by omega)]⟩
    · refine G_iload_n dX6_umpire_24 rfl ?_
      refine G_iconst (n := 0) dX6_umpire_25 ⟨by decide, by decide⟩ ?_
      refine G_bipush (n := 99) dX6_umpire_26 (by decide) ⟨by decide, by decide⟩ ?_
      refine G_cSi dX6_umpire_28 (c_X6_isIn l (d + 0) nu w y 0 99) mcX6_187 rfl rfl (by show _ ≤ d + 1; omega) rfl rfl (Nat.le_refl _) (Nat.le_refl _) ?_
      refine G_if_eq 55 dX6_umpire_31 (by decide) (fun h31 => ?_) (fun h31 => ?_)
      · refine G_iconst (n := (-1)) dX6_umpire_55 ⟨by decide, by decide⟩ ?_
        exact G_iret dX6_umpire_56 rfl rfl rfl ⟨by rw [if_neg (by omega)], rfl, by rw [if_neg (by omega)]⟩
      · refine G_iload_n dX6_umpire_34 rfl ?_
        refine G_iconst (n := 1) dX6_umpire_35 ⟨by decide, by decide⟩ ?_
        refine G_iconst (n := 4) dX6_umpire_36 ⟨by decide, by decide⟩ ?_
        refine G_cSi dX6_umpire_37 (c_X6_isIn l (d + 0) nu w g 1 4) mcX6_187 rfl rfl (by show _ ≤ d + 1; omega) rfl rfl (Nat.le_refl _) (Nat.le_refl _) ?_
        refine G_if_eq 55 dX6_umpire_40 (by decide) (fun h40 => ?_) (fun h40 => ?_)
        · refine G_iconst (n := (-1)) dX6_umpire_55 ⟨by decide, by decide⟩ ?_
          exact G_iret dX6_umpire_56 rfl rfl rfl ⟨by rw [if_neg (by omega)], rfl, by rw [if_neg (by omega)]⟩
        · refine G_iload dX6_umpire_43 rfl ?_
          refine G_iconst (n := 0) dX6_umpire_45 ⟨by decide, by decide⟩ ?_
          refine G_sipush (n := 4095) dX6_umpire_46 (by decide) ⟨by decide, by decide⟩ ?_
          refine G_cSi dX6_umpire_49 (c_X6_isIn l (d + 0) nu w b 0 4095) mcX6_187 rfl rfl (by show _ ≤ d + 1; omega) rfl rfl (Nat.le_refl _) (Nat.le_refl _) ?_
          refine G_if_ne 57 dX6_umpire_52 (by decide) (fun h52 => ?_) (fun h52 => ?_)
          · refine G_aload_n dX6_umpire_57 rfl ?_
            refine G_getR (jj := 17) dX6_umpire_58 flX6_28 rfl rfl rfl ?_
            refine G_aload_n dX6_umpire_61 rfl ?_
            refine G_getIv (w 27 33) (jj := 33) dX6_umpire_62 flX6_181 rfl rfl rfl rfl ?_
            refine G_iload_n dX6_umpire_65 rfl ?_
            refine G_iast dX6_umpire_66 rfl (by omega) (by omega) ?_
            refine G_aload_n dX6_umpire_67 rfl ?_
            refine G_getR (jj := 18) dX6_umpire_68 flX6_31 rfl rfl rfl ?_
            refine G_aload_n dX6_umpire_71 rfl ?_
            refine G_getIv (w 27 33) (jj := 33) dX6_umpire_72 flX6_181 rfl rfl rfl rfl ?_
            refine G_iload_n dX6_umpire_75 rfl ?_
            refine G_iast dX6_umpire_76 rfl (by omega) (by omega) ?_
            refine G_aload_n dX6_umpire_77 rfl ?_
            refine G_getR (jj := 19) dX6_umpire_78 flX6_34 rfl rfl rfl ?_
            refine G_aload_n dX6_umpire_81 rfl ?_
            refine G_getIv (w 27 33) (jj := 33) dX6_umpire_82 flX6_181 rfl rfl rfl rfl ?_
            refine G_iload_n dX6_umpire_85 rfl ?_
            refine G_iast dX6_umpire_86 rfl (by omega) (by omega) ?_
            refine G_aload_n dX6_umpire_87 rfl ?_
            refine G_getR (jj := 20) dX6_umpire_88 flX6_37 rfl rfl rfl ?_
            refine G_aload_n dX6_umpire_91 rfl ?_
            refine G_getIv (w 27 33) (jj := 33) dX6_umpire_92 flX6_181 rfl rfl rfl rfl ?_
            refine G_iload dX6_umpire_95 rfl ?_
            refine G_iast dX6_umpire_97 rfl (by omega) (by omega) ?_
            refine G_aload_n dX6_umpire_98 rfl ?_
            refine G_dup_a dX6_umpire_99 ?_
            refine G_getIv (w 27 33) (jj := 33) dX6_umpire_100 flX6_181 rfl rfl rfl rfl ?_
            refine G_iconst (n := 1) dX6_umpire_103 ⟨by decide, by decide⟩ ?_
            refine G_iadd dX6_umpire_104 (iRm (by omega) (by omega)) ?_
            refine G_putI (jj := 33) dX6_umpire_105 flX6_181 rfl rfl rfl rfl ?_
            refine G_aload_n dX6_umpire_108 rfl ?_
            refine G_getIv (w 27 33 + 1) (jj := 33) dX6_umpire_109 flX6_181 rfl rfl rfl rfl ?_
            refine G_iconst (n := 1) dX6_umpire_112 ⟨by decide, by decide⟩ ?_
            refine G_isub dX6_umpire_113 (iRm (by omega) (by omega)) ?_
            exact G_iret dX6_umpire_114 rfl rfl rfl ⟨by rw [if_pos (by omega)]; congr 2; omega, rfl, by rw [if_pos (by omega)]; rfl⟩
          · refine G_iconst (n := (-1)) dX6_umpire_55 ⟨by decide, by decide⟩ ?_
            exact G_iret dX6_umpire_56 rfl rfl rfl ⟨by rw [if_neg (by omega)], rfl, by rw [if_neg (by omega)]⟩
theorem fst_spec (p : Int → Bool) (n : Nat) : ∀ i, (fst p n i = -1 ∧ ∀ j, i ≤ j → j < i + n → p j = false) ∨ (i ≤ fst p n i ∧ fst p n i < i + n ∧ p (fst p n i) = true ∧ ∀ j, i ≤ j → j < fst p n i → p j = false) := by
  induction n with
  | zero => intro i; exact Or.inl ⟨rfl, fun j h1 h2 => by omega⟩
  | succ n ih =>
    intro i
    cases hp : p i with
    | true => rw [fst_yes hp]; exact Or.inr ⟨by omega, by omega, hp, fun j h1 h2 => by omega⟩
    | false =>
      rw [fst_no hp]
      rcases ih (i + 1) with ⟨h1, h2⟩ | ⟨h1, h2, h3, h4⟩
      · exact Or.inl ⟨h1, fun j j1 j2 => by by_cases e : j = i; rw [e]; exact hp; exact h2 j (by omega) (by omega)⟩
      · exact Or.inr ⟨by omega, by omega, h3, fun j j1 j2 => by by_cases e : j = i; rw [e]; exact hp; exact h4 j (by omega) (by omega)⟩
theorem seatOf_spec {v : VV} (u : Int) (hg : 0 ≤ v 27 34) : (seatOfS v u = -1 ∧ ∀ s, 0 ≤ s → s < 2 * v 27 34 → v 48 s ≠ u) ∨ (0 ≤ seatOfS v u ∧ seatOfS v u < 2 * v 27 34 ∧ v 48 (seatOfS v u) = u ∧ ∀ s, 0 ≤ s → s < seatOfS v u → v 48 s ≠ u) := by
  rcases fst_spec (fun s => decide (v 48 s = u)) (2 * v 27 34).toNat 0 with ⟨h1, h2⟩ | ⟨h1, h2, h3, h4⟩
  · exact Or.inl ⟨h1, fun s s1 s2 => by simpa using h2 s s1 (by omega)⟩
  · exact Or.inr ⟨h1, by unfold seatOfS; omega, of_decide_eq_true h3, fun s s1 s2 => by simpa using h4 s s1 s2⟩
/-- who has no SEAT and MAY have s -/
def candP (v : VV) (u s : Int) : Prop := seatOfS v u = -1 ∧ mayP v u s
/-- of the UMPIRES below n: the cheapest of these -/
def spU (v : VV) (s n b : Int) : Prop := (b = -1 ∧ ∀ u, 0 ≤ u → u < n → ¬ candP v u s) ∨ (0 ≤ b ∧ b < n ∧ candP v b s ∧ ∀ u, 0 ≤ u → u < n → candP v u s → costS v b s ≤ costS v u s ∧ (costS v u s = costS v b s → b ≤ u))
theorem spU_no {v : VV} {s n b : Int} (h : spU v s n b) (hc : ¬ candP v n s) : spU v s (n + 1) b := by
  rcases h with ⟨h1, h2⟩ | ⟨h1, h2, h3, h4⟩
  · exact Or.inl ⟨h1, fun u u1 u2 => by by_cases e : u = n; rw [e]; exact hc; exact h2 u u1 (by omega)⟩
  · exact Or.inr ⟨h1, by omega, h3, fun u u1 u2 => by by_cases e : u = n; rw [e]; exact fun z => absurd z hc; exact h4 u u1 (by omega)⟩
theorem spU_first {v : VV} {s n : Int} (hn : 0 ≤ n) (h : spU v s n (-1)) (hc : candP v n s) : spU v s (n + 1) n := by
  rcases h with ⟨h1, h2⟩ | ⟨h1, h2, h3, h4⟩
  · exact Or.inr ⟨hn, by omega, hc, fun u u1 u2 => by by_cases e : u = n; rw [e]; exact fun _ => ⟨by omega, by omega⟩; exact fun z => absurd z (h2 u u1 (by omega))⟩
  · omega
theorem spU_keep {v : VV} {s n b : Int} (h : spU v s n b) (hb : b ≠ -1) (hc : costS v b s ≤ costS v n s) : spU v s (n + 1) b := by
  rcases h with ⟨h1, h2⟩ | ⟨h1, h2, h3, h4⟩
  · exact absurd h1 hb
  · exact Or.inr ⟨h1, by omega, h3, fun u u1 u2 => by by_cases e : u = n; rw [e]; exact fun _ => ⟨hc, by omega⟩; exact h4 u u1 (by omega)⟩
theorem spU_new {v : VV} {s n b : Int} (hn : 0 ≤ n) (h : spU v s n b) (hb : b ≠ -1) (hcn : candP v n s) (hc : costS v n s < costS v b s) : spU v s (n + 1) n := by
  rcases h with ⟨h1, h2⟩ | ⟨h1, h2, h3, h4⟩
  · exact absurd h1 hb
  · refine Or.inr ⟨hn, by omega, hcn, fun u u1 u2 => ?_⟩
    by_cases e : u = n
    · rw [e]; exact fun _ => ⟨by omega, by omega⟩
    · intro z
      have := (h4 u u1 (by omega) z).1
      exact ⟨by omega, by omega⟩
theorem spU_one {v : VV} {s n b c : Int} (h : spU v s n b) (h2 : spU v s n c) : b = c := by
  rcases h with ⟨h1, h3⟩ | ⟨h1, h3, h4, h5⟩ <;> rcases h2 with ⟨g1, g3⟩ | ⟨g1, g3, g4, g5⟩
  · omega
  · exact absurd g4 (h3 c g1 g3)
  · exact absurd h4 (g3 b h1 h3)
  · have a := h5 c g1 g3 g4
    have b2 := g5 b h1 h3 h4
    have : costS v b s = costS v c s := by omega
    have e1 := a.2 this.symm
    have e2 := b2.2 this
    omega
set_option maxRecDepth 20000 in
set_option maxHeartbeats 1000000 in
theorem c_X6_spare (l : Launch) (d nu : Nat) (v : VV) (hB : MB nu v) (s : Int) (hs : 0 ≤ s ∧ s < 2 * v 27 34) : Ct l yX6_spare cX6_spare (some .int) 4 (d + 4) 0 0 [ar (some 27), ai s] (SG nu) v (rE (SG nu) (spU v s nu) v) := by
  refine Ct_of_G [some (ar (some 27)), some (ai s), none, none] (by decide) rfl rfl ?_
  have hn := hB.1
  have hgm := hB.2.1
  have hwk := hB.2.2.1
  have loop : ∀ (n : Nat) (b u : Int), 0 ≤ u → u + n = nu → -1 ≤ b ∧ b < nu → spU v s u b → G l (yX6_spare, cX6_spare, (some .int), 4, (d + 4), 0, 0, none) (rE (SG nu) (spU v s nu) v) 0 0 (SG nu) 4 [some (ar (some 27)), some (ai s), some (ai b), some (ai u)] [] v := by
    intro n
    induction n using Nat.strongRecOn with
    | ind n ih =>
    intro b u h0 h1 h2 hq
    refine G_iload_n dX6_spare_4 rfl ?_
    refine G_aload_n dX6_spare_5 rfl ?_
    refine G_getI (jj := 33) dX6_spare_6 flX6_181 rfl rfl rfl ?_
    refine G_icmp_ge 58 dX6_spare_9 (by decide) (fun h9 => ?_) (fun h9 => ?_)
    · obtain rfl : u = nu := by omega
      refine G_iload_n dX6_spare_58 rfl ?_
      exact G_iret dX6_spare_59 rfl rfl rfl ⟨b, rfl, hq, rfl, rfl⟩
    · have hcu := hB.cost (u := u) (s := s) (by omega) hs
      refine G_aload_n dX6_spare_12 rfl ?_
      refine G_iload_n dX6_spare_13 rfl ?_
      refine G_cVi (ci := 6) dX6_spare_14 rfl (by decide) rfl (c_X6_seatOf l (d + 3) nu v u hgm) mcX6_197 rfl rfl (by show _ ≤ d + 4; omega) rfl rfl (Nat.le_refl _) (Nat.le_refl _) ?_
      refine G_iconst (n := (-1)) dX6_spare_17 ⟨by decide, by decide⟩ ?_
      refine G_icmp_ne 52 dX6_spare_18 (by decide) (fun h18 => ?_) (fun h18 => ?_)
      · refine G_iinc dX6_spare_52 rfl (iRm (by omega) (by omega)) rfl rfl ?_
        refine G_goto 4 dX6_spare_55 (by decide) ?_
        exact ih (n - 1) (by omega) _ (u + 1) (by omega) (by omega) (by omega) (spU_no hq (fun z => h18 z.1))
      · refine G_aload_n dX6_spare_21 rfl ?_
        refine G_iload_n dX6_spare_22 rfl ?_
        refine G_iload_n dX6_spare_23 rfl ?_
        refine G_cVi (ci := 6) dX6_spare_24 rfl (by decide) rfl (c_X6_mayHave l (d + 1) nu v hB u s (by omega) hs) mcX6_210 rfl rfl (by show _ ≤ d + 4; omega) rfl rfl (Nat.le_refl _) (Nat.le_refl _) ?_
        refine G_if_eq 52 dX6_spare_27 (by decide) (fun h27 => ?_) (fun h27 => ?_)
        · refine G_iinc dX6_spare_52 rfl (iRm (by omega) (by omega)) rfl rfl ?_
          refine G_goto 4 dX6_spare_55 (by decide) ?_
          exact ih (n - 1) (by omega) _ (u + 1) (by omega) (by omega) (by omega) (spU_no hq (fun z => bP_0.mp h27 z.2))
        · have hm : mayP v u s := bP_1.mp (by rcases bP_01 (mayP v u s) with q | q; exact absurd q h27; exact q)
          refine G_iload_n dX6_spare_30 rfl ?_
          refine G_iconst (n := (-1)) dX6_spare_31 ⟨by decide, by decide⟩ ?_
          refine G_icmp_eq 50 dX6_spare_32 (by decide) (fun h32 => ?_) (fun h32 => ?_)
          · refine G_iload_n dX6_spare_50 rfl ?_
            refine G_istore_n dX6_spare_51 rfl rfl ?_
            refine G_iinc dX6_spare_52 rfl (iRm (by omega) (by omega)) rfl rfl ?_
            refine G_goto 4 dX6_spare_55 (by decide) ?_
            exact ih (n - 1) (by omega) _ (u + 1) (by omega) (by omega) (by omega) (spU_first h0 (h32 ▸ hq) ⟨h18, hm⟩)
          · refine G_aload_n dX6_spare_35 rfl ?_
            refine G_iload_n dX6_spare_36 rfl ?_
            refine G_iload_n dX6_spare_37 rfl ?_
            refine G_cVi (ci := 6) dX6_spare_38 rfl (by decide) rfl (c_X6_costOf l (d + 1) nu v hB u s (by omega) hs) mcX6_214 rfl rfl (by show _ ≤ d + 4; omega) rfl rfl (Nat.le_refl _) (Nat.le_refl _) ?_
            refine G_aload_n dX6_spare_41 rfl ?_
            refine G_iload_n dX6_spare_42 rfl ?_
            refine G_iload_n dX6_spare_43 rfl ?_
            refine G_cVi (ci := 6) dX6_spare_44 rfl (by decide) rfl (c_X6_costOf l (d + 1) nu v hB b s (by omega) hs) mcX6_214 rfl rfl (by show _ ≤ d + 4; omega) rfl rfl (Nat.le_refl _) (Nat.le_refl _) ?_
            refine G_icmp_ge 52 dX6_spare_47 (by decide) (fun h47 => ?_) (fun h47 => ?_)
            · refine G_iinc dX6_spare_52 rfl (iRm (by omega) (by omega)) rfl rfl ?_
              refine G_goto 4 dX6_spare_55 (by decide) ?_
              exact ih (n - 1) (by omega) _ (u + 1) (by omega) (by omega) (by omega) (spU_keep hq h32 h47)
            · refine G_iload_n dX6_spare_50 rfl ?_
              refine G_istore_n dX6_spare_51 rfl rfl ?_
              refine G_iinc dX6_spare_52 rfl (iRm (by omega) (by omega)) rfl rfl ?_
              refine G_goto 4 dX6_spare_55 (by decide) ?_
              exact ih (n - 1) (by omega) _ (u + 1) (by omega) (by omega) (by omega) (spU_new h0 hq h32 ⟨h18, hm⟩ (by omega))
  refine G_iconst (n := (-1)) dX6_spare_0 ⟨by decide, by decide⟩ ?_
  refine G_istore_n dX6_spare_1 rfl rfl ?_
  refine G_iconst (n := 0) dX6_spare_2 ⟨by decide, by decide⟩ ?_
  refine G_istore_n dX6_spare_3 rfl rfl ?_
  exact loop nu (-1) 0 (by omega) (by omega) (by omega) (Or.inl ⟨rfl, fun u u1 u2 => by omega⟩)
end
section
def shlI (x y : Int) : Int := (Int32.ofInt x <<< (Int32.ofInt y &&& 31)).toInt
def shrI (x y : Int) : Int := (Int32.ofInt x >>> (Int32.ofInt y &&& 31)).toInt
def borI (x y : Int) : Int := (Int32.ofInt x ||| Int32.ofInt y).toInt
def ushrI (x y : Int) : Int := ((Int32.ofInt x).toUInt32 >>> ((Int32.ofInt y).toUInt32 &&& Int32.toUInt32 31)).toInt32.toInt
def btI (x k : Int) : Int := bandI (ushrI x k) 255
def comeL (x : Int) : Nat → Int → VV → VV
  | 0, _, v => v
  | n + 1, k, v => comeL x n (k - 8) (up (up v 28 (v 27 2) (btI x k)) 27 2 (v 27 2 + 1))
def comeV (v : VV) (x : Int) : VV := comeL x 4 24 v
theorem comeV_len (v : VV) (x : Int) : comeV v x 27 2 = v 27 2 + 4 := by
  show v 27 2 + 1 + 1 + 1 + 1 = _
  omega
def feedV (w : VV) (a b c d e : Int) : VV := comeV (comeV (comeV (comeV (comeV w a) b) c) d) e
set_option maxRecDepth 20000 in
set_option maxHeartbeats 1000000 in
theorem c_X6_come (l : Launch) (d nu : Nat) (v : VV) (x : Int) (hx : iR x) (ht : 0 ≤ v 27 2 ∧ v 27 2 ≤ 176) : Ct l yX6_come cX6_come none 3 (d + 0) 0 0 [ar (some 27), ai x] (SG nu) v (rV (SG nu) (comeV v x)) := by
  refine Ct_of_G [some (ar (some 27)), some (ai x), none] (by decide) rfl rfl ?_
  have loop : ∀ (n : Nat) (k : Int) (z : VV), k = 8 * n - 8 → 0 ≤ z 27 2 → z 27 2 + n ≤ 180 → G l (yX6_come, cX6_come, none, 3, (d + 0), 0, 0, none) (rV (SG nu) (comeL x n k z)) 0 0 (SG nu) 3 [some (ar (some 27)), some (ai x), some (ai k)] [] z := by
    intro n
    induction n with
    | zero =>
      intro k z h0 h1 h2
      refine G_iload_n dX6_come_3 rfl ?_
      refine G_if_lt 39 dX6_come_4 (by decide) (fun h4 => ?_) (fun h4 => by omega)
      exact G_vret dX6_come_39 rfl rfl rfl ⟨rfl, rfl, rfl⟩
    | succ n ih =>
    intro k z h0 h1 h2
    refine G_iload_n dX6_come_3 rfl ?_
    refine G_if_lt 39 dX6_come_4 (by decide) (fun h4 => by omega) (fun h4 => ?_)
    refine G_aload_n dX6_come_7 rfl ?_
    refine G_getR (jj := 1) dX6_come_8 flX6_7 rfl rfl rfl ?_
    refine G_aload_n dX6_come_11 rfl ?_
    refine G_getI (jj := 2) dX6_come_12 flX6_105 rfl rfl rfl ?_
    refine G_iload_n dX6_come_15 rfl ?_
    refine G_iload_n dX6_come_16 rfl ?_
    refine G_iushr (ushrI x k) dX6_come_17 rfl ?_
    refine G_sipush (n := 255) dX6_come_18 (by decide) ⟨by decide, by decide⟩ ?_
    refine G_iand (btI x k) dX6_come_21 rfl ?_
    refine G_iast dX6_come_22 rfl (by omega) (by omega) ?_
    refine G_aload_n dX6_come_23 rfl ?_
    refine G_dup_a dX6_come_24 ?_
    refine G_getIv (z 27 2) (jj := 2) dX6_come_25 flX6_105 rfl rfl rfl rfl ?_
    refine G_iconst (n := 1) dX6_come_28 ⟨by decide, by decide⟩ ?_
    refine G_iadd dX6_come_29 (iRm (by omega) (by omega)) ?_
    refine G_putI (jj := 2) dX6_come_30 flX6_105 rfl rfl rfl rfl ?_
    refine G_iinc dX6_come_33 rfl (iRm (by omega) (by omega)) rfl rfl ?_
    refine G_goto 3 dX6_come_36 (by decide) ?_
    exact ih (k + -8) (up (up z 28 (z 27 2) (btI x k)) 27 2 (z 27 2 + 1)) (by omega) (by simp [up_get]; omega) (by simp [up_get]; omega)
  refine G_bipush (n := 24) dX6_come_0 (by decide) ⟨by decide, by decide⟩ ?_
  refine G_istore_n dX6_come_2 rfl rfl ?_
  exact loop 4 24 v (by omega) (by omega) (by omega)
set_option maxRecDepth 20000 in
set_option maxHeartbeats 1000000 in
theorem c_X6_feed (l : Launch) (d nu : Nat) (v : VV) (w : VV) (hw : up v 27 0 0 = w) (a b c q e : Int) (ha : iR a) (hb : iR b) (hc : iR c) (hq : iR q) (he : iR e) (ht : 0 ≤ w 27 2 ∧ w 27 2 ≤ 180) : Ct l yX6_feed cX6_feed (some .int) 6 (d + 1) 0 0 [ar (some 27), ai a, ai b, ai c, ai q, ai e] (SG nu) v (rI (SG nu) (if w 27 2 + 20 ≤ 180 then w 27 2 + 20 else -1) (if w 27 2 + 20 ≤ 180 then feedV w a b c q e else w)) := by
  refine Ct_of_G [some (ar (some 27)), some (ai a), some (ai b), some (ai c), some (ai q), some (ai e)] (by decide) rfl rfl ?_
  refine G_aload_n dX6_feed_0 rfl ?_
  refine G_iconst (n := 0) dX6_feed_1 ⟨by decide, by decide⟩ ?_
  refine G_putI (jj := 0) dX6_feed_2 flX6_101 rfl rfl rfl rfl ?_
  rw [hw]
  refine G_aload_n dX6_feed_5 rfl ?_
  refine G_getI (jj := 2) dX6_feed_6 flX6_105 rfl rfl rfl ?_
  refine G_bipush (n := 20) dX6_feed_9 (by decide) ⟨by decide, by decide⟩ ?_
  refine G_iadd dX6_feed_11 (iRm (by omega) (by omega)) ?_
  refine G_sipush (n := 180) dX6_feed_12 (by decide) ⟨by decide, by decide⟩ ?_
  refine G_icmp_le 20 dX6_feed_15 (by decide) (fun h15 => ?_) (fun h15 => ?_)
  · refine G_aload_n dX6_feed_20 rfl ?_
    refine G_iload_n dX6_feed_21 rfl ?_
    refine G_cVv (ci := 6) dX6_feed_22 rfl (by decide) rfl (c_X6_come l (d + 0) nu (w) a ha (by first | omega | (simp only [comeV_len]; omega))) mcX6_108 rfl rfl (by show _ ≤ d + 1; omega) rfl rfl (Nat.le_refl _) (Nat.le_refl _) ?_
    refine G_aload_n dX6_feed_25 rfl ?_
    refine G_iload_n dX6_feed_26 rfl ?_
    refine G_cVv (ci := 6) dX6_feed_27 rfl (by decide) rfl (c_X6_come l (d + 0) nu (comeV (w) a) b hb (by first | omega | (simp only [comeV_len]; omega))) mcX6_108 rfl rfl (by show _ ≤ d + 1; omega) rfl rfl (Nat.le_refl _) (Nat.le_refl _) ?_
    refine G_aload_n dX6_feed_30 rfl ?_
    refine G_iload_n dX6_feed_31 rfl ?_
    refine G_cVv (ci := 6) dX6_feed_32 rfl (by decide) rfl (c_X6_come l (d + 0) nu (comeV (comeV (w) a) b) c hc (by first | omega | (simp only [comeV_len]; omega))) mcX6_108 rfl rfl (by show _ ≤ d + 1; omega) rfl rfl (Nat.le_refl _) (Nat.le_refl _) ?_
    refine G_aload_n dX6_feed_35 rfl ?_
    refine G_iload dX6_feed_36 rfl ?_
    refine G_cVv (ci := 6) dX6_feed_38 rfl (by decide) rfl (c_X6_come l (d + 0) nu (comeV (comeV (comeV (w) a) b) c) q hq (by first | omega | (simp only [comeV_len]; omega))) mcX6_108 rfl rfl (by show _ ≤ d + 1; omega) rfl rfl (Nat.le_refl _) (Nat.le_refl _) ?_
    refine G_aload_n dX6_feed_41 rfl ?_
    refine G_iload dX6_feed_42 rfl ?_
    refine G_cVv (ci := 6) dX6_feed_44 rfl (by decide) rfl (c_X6_come l (d + 0) nu (comeV (comeV (comeV (comeV (w) a) b) c) q) e he (by first | omega | (simp only [comeV_len]; omega))) mcX6_108 rfl rfl (by show _ ≤ d + 1; omega) rfl rfl (Nat.le_refl _) (Nat.le_refl _) ?_
    refine G_aload_n dX6_feed_47 rfl ?_
    refine G_getI (jj := 2) dX6_feed_48 flX6_105 rfl rfl rfl ?_
    exact G_iret dX6_feed_51 rfl rfl rfl ⟨by rw [if_pos (by omega)]; congr 2; simp only [comeV_len]; omega, rfl, by rw [if_pos (by omega)]; rfl⟩
  · refine G_iconst (n := (-1)) dX6_feed_18 ⟨by decide, by decide⟩ ?_
    exact G_iret dX6_feed_19 rfl rfl rfl ⟨by rw [if_neg (by omega)], rfl, by rw [if_neg (by omega)]⟩
set_option maxRecDepth 20000 in
set_option maxHeartbeats 1000000 in
theorem c_X6_away (l : Launch) (d nu : Nat) (v : VV) (w : VV) (hw : up v 27 0 0 = w) (hB : MB nu w) (u x b : Int) (hb : b = 0 ∨ b = 1) : Ct l yX6_away cX6_away (some .boolean) 4 (d + 1) 0 0 [ar (some 27), ai u, ai x, ai b] (SG nu) v (rI (SG nu) (if (0 ≤ u ∧ u < nu) ∧ (w 27 35 ≤ x ∧ x ≤ 99) ∧ ¬ (x = w 27 35 ∧ seatOfS w u ≠ -1) ∧ w 43 (100 * u + x) ≠ b then 1 else 0) (if (0 ≤ u ∧ u < nu) ∧ (w 27 35 ≤ x ∧ x ≤ 99) ∧ ¬ (x = w 27 35 ∧ seatOfS w u ≠ -1) ∧ w 43 (100 * u + x) ≠ b then up w 43 (100 * u + x) b else w)) := by
  refine Ct_of_G [some (ar (some 27)), some (ai u), some (ai x), some (ai b)] (by decide) rfl rfl ?_
  have hn := hB.1
  have hgm := hB.2.1
  have hwk := hB.2.2.1
  refine G_aload_n dX6_away_0 rfl ?_
  refine G_iconst (n := 0) dX6_away_1 ⟨by decide, by decide⟩ ?_
  refine G_putI (jj := 0) dX6_away_2 flX6_101 rfl rfl rfl rfl ?_
  rw [hw]
  refine G_aload_n dX6_away_5 rfl ?_
  refine G_iload_n dX6_away_6 rfl ?_
  refine G_cVi (ci := 6) dX6_away_7 rfl (by decide) rfl (c_X6_isUmpire l (d + 0) nu w u) mcX6_191 rfl rfl (by show _ ≤ d + 1; omega) rfl rfl (Nat.le_refl _) (Nat.le_refl _) ?_
  refine G_if_eq 58 dX6_away_10 (by decide) (fun h10 => ?_) (fun h10 => ?_)
  · refine G_iconst (n := 0) dX6_away_58 ⟨by decide, by decide⟩ ?_
    exact G_zret dX6_away_59 rfl (by omega) rfl rfl ⟨by rw [if_neg (by omega)], rfl, by rw [if_neg (by omega)]⟩
  · refine G_iload_n dX6_away_13 rfl ?_
    refine G_aload_n dX6_away_14 rfl ?_
    refine G_getI (jj := 35) dX6_away_15 flX6_194 rfl rfl rfl ?_
    refine G_bipush (n := 99) dX6_away_18 (by decide) ⟨by decide, by decide⟩ ?_
    refine G_cSi dX6_away_20 (c_X6_isIn l (d + 0) nu w x (w 27 35) 99) mcX6_187 rfl rfl (by show _ ≤ d + 1; omega) rfl rfl (Nat.le_refl _) (Nat.le_refl _) ?_
    refine G_if_eq 58 dX6_away_23 (by decide) (fun h23 => ?_) (fun h23 => ?_)
    · refine G_iconst (n := 0) dX6_away_58 ⟨by decide, by decide⟩ ?_
      exact G_zret dX6_away_59 rfl (by omega) rfl rfl ⟨by rw [if_neg (by omega)], rfl, by rw [if_neg (by omega)]⟩
    · refine G_iload_n dX6_away_26 rfl ?_
      refine G_aload_n dX6_away_27 rfl ?_
      refine G_getI (jj := 35) dX6_away_28 flX6_194 rfl rfl rfl ?_
      refine G_icmp_ne 43 dX6_away_31 (by decide) (fun h31 => ?_) (fun h31 => ?_)
      · refine G_aload_n dX6_away_43 rfl ?_
        refine G_getR (jj := 26) dX6_away_44 flX6_55 rfl rfl rfl ?_
        refine G_bipush (n := 100) dX6_away_47 (by decide) ⟨by decide, by decide⟩ ?_
        refine G_iload_n dX6_away_49 rfl ?_
        refine G_imul dX6_away_50 (iRm (by omega) (by omega)) ?_
        refine G_iload_n dX6_away_51 rfl ?_
        refine G_iadd dX6_away_52 (iRm (by omega) (by omega)) ?_
        refine G_zald dX6_away_53 rfl (by omega) (by omega) ?_
        refine G_iload_n dX6_away_54 rfl ?_
        refine G_icmp_ne 60 dX6_away_55 (by decide) (fun h55 => ?_) (fun h55 => ?_)
        · refine G_aload_n dX6_away_60 rfl ?_
          refine G_getR (jj := 26) dX6_away_61 flX6_55 rfl rfl rfl ?_
          refine G_bipush (n := 100) dX6_away_64 (by decide) ⟨by decide, by decide⟩ ?_
          refine G_iload_n dX6_away_66 rfl ?_
          refine G_imul dX6_away_67 (iRm (by omega) (by omega)) ?_
          refine G_iload_n dX6_away_68 rfl ?_
          refine G_iadd dX6_away_69 (iRm (by omega) (by omega)) ?_
          refine G_iload_n dX6_away_70 rfl ?_
          refine G_zast dX6_away_71 rfl (by omega) (by omega) hb ?_
          refine G_iconst (n := 1) dX6_away_72 ⟨by decide, by decide⟩ ?_
          exact G_zret dX6_away_73 rfl (by omega) rfl rfl ⟨by rw [if_pos (by omega)], rfl, by rw [if_pos (by omega)]⟩
        · refine G_iconst (n := 0) dX6_away_58 ⟨by decide, by decide⟩ ?_
          exact G_zret dX6_away_59 rfl (by omega) rfl rfl ⟨by rw [if_neg (by omega)], rfl, by rw [if_neg (by omega)]⟩
      · refine G_aload_n dX6_away_34 rfl ?_
        refine G_iload_n dX6_away_35 rfl ?_
        refine G_cVi (ci := 6) dX6_away_36 rfl (by decide) rfl (c_X6_seatOf l (d + 0) nu w u hgm) mcX6_197 rfl rfl (by show _ ≤ d + 1; omega) rfl rfl (Nat.le_refl _) (Nat.le_refl _) ?_
        refine G_iconst (n := (-1)) dX6_away_39 ⟨by decide, by decide⟩ ?_
        refine G_icmp_ne 58 dX6_away_40 (by decide) (fun h40 => ?_) (fun h40 => ?_)
        · refine G_iconst (n := 0) dX6_away_58 ⟨by decide, by decide⟩ ?_
          exact G_zret dX6_away_59 rfl (by omega) rfl rfl ⟨by rw [if_neg (by omega)], rfl, by rw [if_neg (by omega)]⟩
        · refine G_aload_n dX6_away_43 rfl ?_
          refine G_getR (jj := 26) dX6_away_44 flX6_55 rfl rfl rfl ?_
          refine G_bipush (n := 100) dX6_away_47 (by decide) ⟨by decide, by decide⟩ ?_
          refine G_iload_n dX6_away_49 rfl ?_
          refine G_imul dX6_away_50 (iRm (by omega) (by omega)) ?_
          refine G_iload_n dX6_away_51 rfl ?_
          refine G_iadd dX6_away_52 (iRm (by omega) (by omega)) ?_
          refine G_zald dX6_away_53 rfl (by omega) (by omega) ?_
          refine G_iload_n dX6_away_54 rfl ?_
          refine G_icmp_ne 60 dX6_away_55 (by decide) (fun h55 => ?_) (fun h55 => ?_)
          · refine G_aload_n dX6_away_60 rfl ?_
            refine G_getR (jj := 26) dX6_away_61 flX6_55 rfl rfl rfl ?_
            refine G_bipush (n := 100) dX6_away_64 (by decide) ⟨by decide, by decide⟩ ?_
            refine G_iload_n dX6_away_66 rfl ?_
            refine G_imul dX6_away_67 (iRm (by omega) (by omega)) ?_
            refine G_iload_n dX6_away_68 rfl ?_
            refine G_iadd dX6_away_69 (iRm (by omega) (by omega)) ?_
            refine G_iload_n dX6_away_70 rfl ?_
            refine G_zast dX6_away_71 rfl (by omega) (by omega) hb ?_
            refine G_iconst (n := 1) dX6_away_72 ⟨by decide, by decide⟩ ?_
            exact G_zret dX6_away_73 rfl (by omega) rfl rfl ⟨by rw [if_pos (by omega)], rfl, by rw [if_pos (by omega)]⟩
          · refine G_iconst (n := 0) dX6_away_58 ⟨by decide, by decide⟩ ?_
            exact G_zret dX6_away_59 rfl (by omega) rfl rfl ⟨by rw [if_neg (by omega)], rfl, by rw [if_neg (by omega)]⟩
def gmL : Nat → Int → VV → VV
  | 0, _, v => v
  | n + 1, s, v => gmL n (s + 1) (up (up v 48 s (-1)) 49 s 0)
def clubsI (a b : Int) : Int := borI (shlI 1 a) (shlI 1 b)
def gameW (w : VV) (x y a b g : Int) : VV := up (up (up (up w 44 (w 27 34) x) 45 (w 27 34) y) 46 (w 27 34) (clubsI a b)) 47 (w 27 34) g
def gameV (w : VV) (x y a b g : Int) : VV := up (gmL 2 (2 * w 27 34) (gameW w x y a b g)) 27 34 (w 27 34 + 1)
set_option maxRecDepth 20000 in
set_option maxHeartbeats 1000000 in
theorem c_X6_game (l : Launch) (d nu : Nat) (v : VV) (w : VV) (hw : up v 27 0 0 = w) (hB : MB nu w) (x y a b g : Int) : Ct l yX6_game cX6_game (some .int) 7 (d + 1) 0 0 [ar (some 27), ai x, ai y, ai a, ai b, ai g] (SG nu) v (rI (SG nu) (if w 27 34 ≠ 8 ∧ (0 ≤ x ∧ x ≤ 99) ∧ (0 ≤ y ∧ y ≤ 99) ∧ (0 ≤ a ∧ a ≤ 11) ∧ (0 ≤ b ∧ b ≤ 11) ∧ a ≠ b ∧ (1 ≤ g ∧ g ≤ 4) then w 27 34 else -1) (if w 27 34 ≠ 8 ∧ (0 ≤ x ∧ x ≤ 99) ∧ (0 ≤ y ∧ y ≤ 99) ∧ (0 ≤ a ∧ a ≤ 11) ∧ (0 ≤ b ∧ b ≤ 11) ∧ a ≠ b ∧ (1 ≤ g ∧ g ≤ 4) then gameV w x y a b g else w)) := by
  refine Ct_of_G [some (ar (some 27)), some (ai x), some (ai y), some (ai a), some (ai b), some (ai g), none] (by decide) rfl rfl ?_
  have hn := hB.1
  have hgm := hB.2.1
  have hwk := hB.2.2.1
  have loop : ∀ (n : Nat) (s : Int) (z : VV), z 27 34 = w 27 34 → w 27 34 < 8 → 0 ≤ s → s + n = 2 * w 27 34 + 2 → G l (yX6_game, cX6_game, (some .int), 7, (d + 1), 0, 0, none) (rI (SG nu) (w 27 34) (up (gmL n s z) 27 34 (w 27 34 + 1))) 0 0 (SG nu) 129 [some (ar (some 27)), some (ai x), some (ai y), some (ai a), some (ai b), some (ai g), some (ai s)] [] z := by
    intro n
    induction n using Nat.strongRecOn with
    | ind n ih =>
    intro s z hz h8 h0 h1
    refine G_iload dX6_game_129 rfl ?_
    refine G_iconst (n := 2) dX6_game_131 ⟨by decide, by decide⟩ ?_
    refine G_aload_n dX6_game_132 rfl ?_
    refine G_getIv (w 27 34) (jj := 34) dX6_game_133 flX6_184 rfl rfl rfl hz ?_
    refine G_imul dX6_game_136 (iRm (by omega) (by omega)) ?_
    refine G_iconst (n := 2) dX6_game_137 ⟨by decide, by decide⟩ ?_
    refine G_iadd dX6_game_138 (iRm (by omega) (by omega)) ?_
    refine G_icmp_ge 164 dX6_game_139 (by decide) (fun h139 => ?_) (fun h139 => ?_)
    · obtain rfl : n = 0 := by omega
      refine G_aload_n dX6_game_164 rfl ?_
      refine G_dup_a dX6_game_165 ?_
      refine G_getIv (w 27 34) (jj := 34) dX6_game_166 flX6_184 rfl rfl rfl hz ?_
      refine G_iconst (n := 1) dX6_game_169 ⟨by decide, by decide⟩ ?_
      refine G_iadd dX6_game_170 (iRm (by omega) (by omega)) ?_
      refine G_putI (jj := 34) dX6_game_171 flX6_184 rfl rfl rfl rfl ?_
      refine G_aload_n dX6_game_174 rfl ?_
      refine G_getIv (w 27 34 + 1) (jj := 34) dX6_game_175 flX6_184 rfl rfl rfl rfl ?_
      refine G_iconst (n := 1) dX6_game_178 ⟨by decide, by decide⟩ ?_
      refine G_isub dX6_game_179 (iRm (by omega) (by omega)) ?_
      exact G_iret dX6_game_180 rfl rfl rfl ⟨by congr 2; omega, rfl, rfl⟩
    · obtain ⟨n, rfl⟩ : ∃ k, n = k + 1 := ⟨n - 1, by omega⟩
      refine G_aload_n dX6_game_142 rfl ?_
      refine G_getR (jj := 31) dX6_game_143 flX6_71 rfl rfl rfl ?_
      refine G_iload dX6_game_146 rfl ?_
      refine G_iconst (n := (-1)) dX6_game_148 ⟨by decide, by decide⟩ ?_
      refine G_iast dX6_game_149 rfl (by omega) (by omega) ?_
      refine G_aload_n dX6_game_150 rfl ?_
      refine G_getR (jj := 32) dX6_game_151 flX6_74 rfl rfl rfl ?_
      refine G_iload dX6_game_154 rfl ?_
      refine G_iconst (n := 0) dX6_game_156 ⟨by decide, by decide⟩ ?_
      refine G_iast dX6_game_157 rfl (by omega) (by omega) ?_
      refine G_iinc dX6_game_158 rfl (iRm (by omega) (by omega)) rfl rfl ?_
      refine G_goto 129 dX6_game_161 (by decide) ?_
      exact ih n (by omega) (s + 1) (up (up z 48 s (-1)) 49 s 0) (by simp [up_get]; exact hz) h8 (by omega) (by omega)
  refine G_aload_n dX6_game_0 rfl ?_
  refine G_iconst (n := 0) dX6_game_1 ⟨by decide, by decide⟩ ?_
  refine G_putI (jj := 0) dX6_game_2 flX6_101 rfl rfl rfl rfl ?_
  rw [hw]
  refine G_aload_n dX6_game_5 rfl ?_
  refine G_getI (jj := 34) dX6_game_6 flX6_184 rfl rfl rfl ?_
  refine G_bipush (n := 8) dX6_game_9 (by decide) ⟨by decide, by decide⟩ ?_
  refine G_icmp_eq 71 dX6_game_11 (by decide) (fun h11 => ?_) (fun h11 => ?_)
  · refine G_iconst (n := (-1)) dX6_game_71 ⟨by decide, by decide⟩ ?_
    exact G_iret dX6_game_72 rfl rfl rfl ⟨by rw [if_neg (by omega)], rfl, by rw [if_neg (by omega)]⟩
  · refine G_iload_n dX6_game_14 rfl ?_
    refine G_iconst (n := 0) dX6_game_15 ⟨by decide, by decide⟩ ?_
    refine G_bipush (n := 99) dX6_game_16 (by decide) ⟨by decide, by decide⟩ ?_
    refine G_cSi dX6_game_18 (c_X6_isIn l (d + 0) nu w x 0 99) mcX6_187 rfl rfl (by show _ ≤ d + 1; omega) rfl rfl (Nat.le_refl _) (Nat.le_refl _) ?_
    refine G_if_eq 71 dX6_game_21 (by decide) (fun h21 => ?_) (fun h21 => ?_)
    · refine G_iconst (n := (-1)) dX6_game_71 ⟨by decide, by decide⟩ ?_
      exact G_iret dX6_game_72 rfl rfl rfl ⟨by rw [if_neg (by omega)], rfl, by rw [if_neg (by omega)]⟩
    · refine G_iload_n dX6_game_24 rfl ?_
      refine G_iconst (n := 0) dX6_game_25 ⟨by decide, by decide⟩ ?_
      refine G_bipush (n := 99) dX6_game_26 (by decide) ⟨by decide, by decide⟩ ?_
      refine G_cSi dX6_game_28 (c_X6_isIn l (d + 0) nu w y 0 99) mcX6_187 rfl rfl (by show _ ≤ d + 1; omega) rfl rfl (Nat.le_refl _) (Nat.le_refl _) ?_
      refine G_if_eq 71 dX6_game_31 (by decide) (fun h31 => ?_) (fun h31 => ?_)
      · refine G_iconst (n := (-1)) dX6_game_71 ⟨by decide, by decide⟩ ?_
        exact G_iret dX6_game_72 rfl rfl rfl ⟨by rw [if_neg (by omega)], rfl, by rw [if_neg (by omega)]⟩
      · refine G_iload_n dX6_game_34 rfl ?_
        refine G_iconst (n := 0) dX6_game_35 ⟨by decide, by decide⟩ ?_
        refine G_bipush (n := 11) dX6_game_36 (by decide) ⟨by decide, by decide⟩ ?_
        refine G_cSi dX6_game_38 (c_X6_isIn l (d + 0) nu w a 0 11) mcX6_187 rfl rfl (by show _ ≤ d + 1; omega) rfl rfl (Nat.le_refl _) (Nat.le_refl _) ?_
        refine G_if_eq 71 dX6_game_41 (by decide) (fun h41 => ?_) (fun h41 => ?_)
        · refine G_iconst (n := (-1)) dX6_game_71 ⟨by decide, by decide⟩ ?_
          exact G_iret dX6_game_72 rfl rfl rfl ⟨by rw [if_neg (by omega)], rfl, by rw [if_neg (by omega)]⟩
        · refine G_iload dX6_game_44 rfl ?_
          refine G_iconst (n := 0) dX6_game_46 ⟨by decide, by decide⟩ ?_
          refine G_bipush (n := 11) dX6_game_47 (by decide) ⟨by decide, by decide⟩ ?_
          refine G_cSi dX6_game_49 (c_X6_isIn l (d + 0) nu w b 0 11) mcX6_187 rfl rfl (by show _ ≤ d + 1; omega) rfl rfl (Nat.le_refl _) (Nat.le_refl _) ?_
          refine G_if_eq 71 dX6_game_52 (by decide) (fun h52 => ?_) (fun h52 => ?_)
          · refine G_iconst (n := (-1)) dX6_game_71 ⟨by decide, by decide⟩ ?_
            exact G_iret dX6_game_72 rfl rfl rfl ⟨by rw [if_neg (by omega)], rfl, by rw [if_neg (by omega)]⟩
          · refine G_iload_n dX6_game_55 rfl ?_
            refine G_iload dX6_game_56 rfl ?_
            refine G_icmp_eq 71 dX6_game_58 (by decide) (fun h58 => ?_) (fun h58 => ?_)
            · refine G_iconst (n := (-1)) dX6_game_71 ⟨by decide, by decide⟩ ?_
              exact G_iret dX6_game_72 rfl rfl rfl ⟨by rw [if_neg (by omega)], rfl, by rw [if_neg (by omega)]⟩
            · refine G_iload dX6_game_61 rfl ?_
              refine G_iconst (n := 1) dX6_game_63 ⟨by decide, by decide⟩ ?_
              refine G_iconst (n := 4) dX6_game_64 ⟨by decide, by decide⟩ ?_
              refine G_cSi dX6_game_65 (c_X6_isIn l (d + 0) nu w g 1 4) mcX6_187 rfl rfl (by show _ ≤ d + 1; omega) rfl rfl (Nat.le_refl _) (Nat.le_refl _) ?_
              refine G_if_ne 73 dX6_game_68 (by decide) (fun h68 => ?_) (fun h68 => ?_)
              · refine G_aload_n dX6_game_73 rfl ?_
                refine G_getR (jj := 27) dX6_game_74 flX6_59 rfl rfl rfl ?_
                refine G_aload_n dX6_game_77 rfl ?_
                refine G_getIv (w 27 34) (jj := 34) dX6_game_78 flX6_184 rfl rfl rfl rfl ?_
                refine G_iload_n dX6_game_81 rfl ?_
                refine G_iast dX6_game_82 rfl (by omega) (by omega) ?_
                refine G_aload_n dX6_game_83 rfl ?_
                refine G_getR (jj := 28) dX6_game_84 flX6_62 rfl rfl rfl ?_
                refine G_aload_n dX6_game_87 rfl ?_
                refine G_getIv (w 27 34) (jj := 34) dX6_game_88 flX6_184 rfl rfl rfl rfl ?_
                refine G_iload_n dX6_game_91 rfl ?_
                refine G_iast dX6_game_92 rfl (by omega) (by omega) ?_
                refine G_aload_n dX6_game_93 rfl ?_
                refine G_getR (jj := 29) dX6_game_94 flX6_65 rfl rfl rfl ?_
                refine G_aload_n dX6_game_97 rfl ?_
                refine G_getIv (w 27 34) (jj := 34) dX6_game_98 flX6_184 rfl rfl rfl rfl ?_
                refine G_iconst (n := 1) dX6_game_101 ⟨by decide, by decide⟩ ?_
                refine G_iload_n dX6_game_102 rfl ?_
                refine G_ishl (shlI 1 a) dX6_game_103 rfl ?_
                refine G_iconst (n := 1) dX6_game_104 ⟨by decide, by decide⟩ ?_
                refine G_iload dX6_game_105 rfl ?_
                refine G_ishl (shlI 1 b) dX6_game_107 rfl ?_
                refine G_ior (clubsI a b) dX6_game_108 rfl ?_
                refine G_iast dX6_game_109 rfl (by omega) (by omega) ?_
                refine G_aload_n dX6_game_110 rfl ?_
                refine G_getR (jj := 30) dX6_game_111 flX6_68 rfl rfl rfl ?_
                refine G_aload_n dX6_game_114 rfl ?_
                refine G_getIv (w 27 34) (jj := 34) dX6_game_115 flX6_184 rfl rfl rfl rfl ?_
                refine G_iload dX6_game_118 rfl ?_
                refine G_iast dX6_game_120 rfl (by omega) (by omega) ?_
                refine G_iconst (n := 2) dX6_game_121 ⟨by decide, by decide⟩ ?_
                refine G_aload_n dX6_game_122 rfl ?_
                refine G_getIv (w 27 34) (jj := 34) dX6_game_123 flX6_184 rfl rfl rfl rfl ?_
                refine G_imul dX6_game_126 (iRm (by omega) (by omega)) ?_
                refine G_istore dX6_game_127 rfl rfl ?_
                have hok : w 27 34 ≠ 8 ∧ (0 ≤ x ∧ x ≤ 99) ∧ (0 ≤ y ∧ y ≤ 99) ∧ (0 ≤ a ∧ a ≤ 11) ∧ (0 ≤ b ∧ b ≤ 11) ∧ a ≠ b ∧ (1 ≤ g ∧ g ≤ 4) := by omega
                rw [if_pos hok, if_pos hok]
                exact loop 2 (2 * w 27 34) (gameW w x y a b g) rfl (by omega) (by omega) (by omega)
              · refine G_iconst (n := (-1)) dX6_game_71 ⟨by decide, by decide⟩ ?_
                exact G_iret dX6_game_72 rfl rfl rfl ⟨by rw [if_neg (by omega)], rfl, by rw [if_neg (by omega)]⟩
/-- the counts of MARKS; t: how many calls there were -/
def CB (nu : Nat) (t : Int) (v : VV) : Prop := (0 ≤ t ∧ t ≤ 1000) ∧ (0 ≤ v 27 36 ∧ v 27 36 ≤ t) ∧ ∀ u : Int, 0 ≤ u → u < nu → (0 ≤ v 38 u ∧ v 38 u ≤ t) ∧ (0 ≤ v 39 u ∧ v 39 u ≤ 9 * t) ∧ (0 ≤ v 40 u ∧ v 40 u ≤ 900 * t)
def markN (w : VV) (b : Int) : Int := if b = 0 then w 29 5 else w 29 4
def markV (w : VV) (s c q b : Int) : VV := up (up (up (up (up w 49 s (borI (w 49 s) (shlI 1 c))) 38 (w 48 s) (w 38 (w 48 s) + 1)) 39 (w 48 s) (w 39 (w 48 s) + markN w b)) 40 (w 48 s) (w 40 (w 48 s) + markN w b * q)) 27 36 (w 27 36 + 1)
set_option maxRecDepth 20000 in
set_option maxHeartbeats 1000000 in
theorem c_X6_mark (l : Launch) (d nu : Nat) (v : VV) (w : VV) (hw : up v 27 0 0 = w) (hB : MB nu w) (t : Int) (hcb : CB nu t w) (s c q b : Int) (hb : b = 0 ∨ b = 1) : Ct l yX6_mark cX6_mark (some .boolean) 7 (d + 1) 0 0 [ar (some 27), ai s, ai c, ai q, ai b] (SG nu) v (rI (SG nu) (if (0 ≤ s ∧ s < 2 * w 27 34) ∧ w 48 s ≠ -1 ∧ (0 ≤ c ∧ c ≤ 1) ∧ (0 ≤ q ∧ q ≤ 100) ∧ bandI (shrI (w 49 s) c) 1 ≠ 1 then 1 else 0) (if (0 ≤ s ∧ s < 2 * w 27 34) ∧ w 48 s ≠ -1 ∧ (0 ≤ c ∧ c ≤ 1) ∧ (0 ≤ q ∧ q ≤ 100) ∧ bandI (shrI (w 49 s) c) 1 ≠ 1 then markV w s c q b else w)) := by
  refine Ct_of_G [some (ar (some 27)), some (ai s), some (ai c), some (ai q), some (ai b), none, none] (by decide) rfl rfl ?_
  have hn := hB.1
  have hgm := hB.2.1
  have hwk := hB.2.2.1
  have hr4 := hB.2.2.2.1.2.2.2.2.1
  have hr5 := hB.2.2.2.1.2.2.2.2.2.1
  have ht := hcb.1
  have hmn := hcb.2.1
  have fin : ∀ N : Int, N = markN w b → (0 ≤ s ∧ s < 2 * w 27 34) → w 48 s ≠ -1 → (0 ≤ q ∧ q ≤ 100) → G l (yX6_mark, cX6_mark, (some .boolean), 7, (d + 1), 0, 0, none) (rI (SG nu) 1 (markV w s c q b)) 0 0 (SG nu) 83 [some (ar (some 27)), some (ai s), some (ai c), some (ai q), some (ai b), some (ai (w 48 s)), some (ai N)] [] w := by
    intro N hN hs hw1 hq
    have hN2 : 0 ≤ N ∧ N ≤ 9 := by rw [hN]; unfold markN; split <;> omega
    have hws := hB.2.2.2.2.2.2 s (by omega) (by omega)
    have hct := hcb.2.2 (w 48 s) (by omega) (by omega)
    have hmu := mul_bd hN2 hq
    refine G_aload_n dX6_mark_83 rfl ?_
    refine G_getR (jj := 32) dX6_mark_84 flX6_74 rfl rfl rfl ?_
    refine G_iload_n dX6_mark_87 rfl ?_
    refine G_dup2 dX6_mark_88 ?_
    refine G_iald dX6_mark_89 rfl (by omega) (by omega) ?_
    refine G_iconst (n := 1) dX6_mark_90 ⟨by decide, by decide⟩ ?_
    refine G_iload_n dX6_mark_91 rfl ?_
    refine G_ishl (shlI 1 c) dX6_mark_92 rfl ?_
    refine G_ior (borI (w 49 s) (shlI 1 c)) dX6_mark_93 rfl ?_
    refine G_iast dX6_mark_94 rfl (by omega) (by omega) ?_
    refine G_aload_n dX6_mark_95 rfl ?_
    refine G_getR (jj := 21) dX6_mark_96 flX6_40 rfl rfl rfl ?_
    refine G_iload dX6_mark_99 rfl ?_
    refine G_dup2 dX6_mark_101 ?_
    refine G_ialdv (w 38 (w 48 s)) dX6_mark_102 rfl (by omega) (by omega) rfl ?_
    refine G_iconst (n := 1) dX6_mark_103 ⟨by decide, by decide⟩ ?_
    refine G_iadd dX6_mark_104 (iRm (by omega) (by omega)) ?_
    refine G_iast dX6_mark_105 rfl (by omega) (by omega) ?_
    refine G_aload_n dX6_mark_106 rfl ?_
    refine G_getR (jj := 22) dX6_mark_107 flX6_43 rfl rfl rfl ?_
    refine G_iload dX6_mark_110 rfl ?_
    refine G_dup2 dX6_mark_112 ?_
    refine G_ialdv (w 39 (w 48 s)) dX6_mark_113 rfl (by omega) (by omega) rfl ?_
    refine G_iload dX6_mark_114 rfl ?_
    refine G_iadd dX6_mark_116 (iRm (by omega) (by omega)) ?_
    refine G_iast dX6_mark_117 rfl (by omega) (by omega) ?_
    refine G_aload_n dX6_mark_118 rfl ?_
    refine G_getR (jj := 23) dX6_mark_119 flX6_46 rfl rfl rfl ?_
    refine G_iload dX6_mark_122 rfl ?_
    refine G_dup2 dX6_mark_124 ?_
    refine G_ialdv (w 40 (w 48 s)) dX6_mark_125 rfl (by omega) (by omega) rfl ?_
    refine G_iload dX6_mark_126 rfl ?_
    refine G_iload_n dX6_mark_128 rfl ?_
    refine G_imul dX6_mark_129 (iRm (by omega) (by omega)) ?_
    refine G_iadd dX6_mark_130 (iRm (by omega) (by omega)) ?_
    refine G_iast dX6_mark_131 rfl (by omega) (by omega) ?_
    refine G_aload_n dX6_mark_132 rfl ?_
    refine G_dup_a dX6_mark_133 ?_
    refine G_getIv (w 27 36) (jj := 36) dX6_mark_134 flX6_250 rfl rfl rfl rfl ?_
    refine G_iconst (n := 1) dX6_mark_137 ⟨by decide, by decide⟩ ?_
    refine G_iadd dX6_mark_138 (iRm (by omega) (by omega)) ?_
    refine G_putI (jj := 36) dX6_mark_139 flX6_250 rfl rfl rfl rfl ?_
    refine G_iconst (n := 1) dX6_mark_142 ⟨by decide, by decide⟩ ?_
    exact G_zret dX6_mark_143 rfl (by omega) rfl rfl ⟨rfl, rfl, by rw [hN]; rfl⟩
  have tail : (0 ≤ s ∧ s < 2 * w 27 34) → w 48 s ≠ -1 → (0 ≤ q ∧ q ≤ 100) → G l (yX6_mark, cX6_mark, (some .boolean), 7, (d + 1), 0, 0, none) (rI (SG nu) 1 (markV w s c q b)) 0 0 (SG nu) 66 [some (ar (some 27)), some (ai s), some (ai c), some (ai q), some (ai b), some (ai (w 48 s)), none] [] w := by
    intro hs hw1 hq
    refine G_aload_n dX6_mark_66 rfl ?_
    refine G_getR (jj := 3) dX6_mark_67 flX6_13 rfl rfl rfl ?_
    refine G_iload dX6_mark_70 rfl ?_
    refine G_if_eq 79 dX6_mark_72 (by decide) (fun h72 => ?_) (fun h72 => ?_)
    · refine G_iconst (n := 5) dX6_mark_79 ⟨by decide, by decide⟩ ?_
      refine G_iald dX6_mark_80 rfl (by omega) (by omega) ?_
      refine G_istore dX6_mark_81 rfl rfl ?_
      exact fin _ (by unfold markN; first | rw [if_pos h72] | rw [if_neg h72]) hs hw1 hq
    · refine G_iconst (n := 4) dX6_mark_75 ⟨by decide, by decide⟩ ?_
      refine G_goto 80 dX6_mark_76 (by decide) ?_
      refine G_iald dX6_mark_80 rfl (by omega) (by omega) ?_
      refine G_istore dX6_mark_81 rfl rfl ?_
      exact fin _ (by unfold markN; first | rw [if_pos h72] | rw [if_neg h72]) hs hw1 hq
  refine G_aload_n dX6_mark_0 rfl ?_
  refine G_iconst (n := 0) dX6_mark_1 ⟨by decide, by decide⟩ ?_
  refine G_putI (jj := 0) dX6_mark_2 flX6_101 rfl rfl rfl rfl ?_
  rw [hw]
  refine G_aload_n dX6_mark_5 rfl ?_
  refine G_iload_n dX6_mark_6 rfl ?_
  refine G_cVi (ci := 6) dX6_mark_7 rfl (by decide) rfl (c_X6_isSeat l (d + 0) nu w s hgm) mcX6_207 rfl rfl (by show _ ≤ d + 1; omega) rfl rfl (Nat.le_refl _) (Nat.le_refl _) ?_
  refine G_if_eq 56 dX6_mark_10 (by decide) (fun h10 => ?_) (fun h10 => ?_)
  · refine G_iconst (n := 0) dX6_mark_56 ⟨by decide, by decide⟩ ?_
    exact G_zret dX6_mark_57 rfl (by omega) rfl rfl ⟨by rw [if_neg (by omega)], rfl, by rw [if_neg (by omega)]⟩
  · refine G_aload_n dX6_mark_13 rfl ?_
    refine G_getR (jj := 31) dX6_mark_14 flX6_71 rfl rfl rfl ?_
    refine G_iload_n dX6_mark_17 rfl ?_
    refine G_iald dX6_mark_18 rfl (by omega) (by omega) ?_
    refine G_iconst (n := (-1)) dX6_mark_19 ⟨by decide, by decide⟩ ?_
    refine G_icmp_eq 56 dX6_mark_20 (by decide) (fun h20 => ?_) (fun h20 => ?_)
    · refine G_iconst (n := 0) dX6_mark_56 ⟨by decide, by decide⟩ ?_
      exact G_zret dX6_mark_57 rfl (by omega) rfl rfl ⟨by rw [if_neg (by omega)], rfl, by rw [if_neg (by omega)]⟩
    · refine G_iload_n dX6_mark_23 rfl ?_
      refine G_iconst (n := 0) dX6_mark_24 ⟨by decide, by decide⟩ ?_
      refine G_iconst (n := 1) dX6_mark_25 ⟨by decide, by decide⟩ ?_
      refine G_cSi dX6_mark_26 (c_X6_isIn l (d + 0) nu w c 0 1) mcX6_187 rfl rfl (by show _ ≤ d + 1; omega) rfl rfl (Nat.le_refl _) (Nat.le_refl _) ?_
      refine G_if_eq 56 dX6_mark_29 (by decide) (fun h29 => ?_) (fun h29 => ?_)
      · refine G_iconst (n := 0) dX6_mark_56 ⟨by decide, by decide⟩ ?_
        exact G_zret dX6_mark_57 rfl (by omega) rfl rfl ⟨by rw [if_neg (by omega)], rfl, by rw [if_neg (by omega)]⟩
      · refine G_iload_n dX6_mark_32 rfl ?_
        refine G_iconst (n := 0) dX6_mark_33 ⟨by decide, by decide⟩ ?_
        refine G_bipush (n := 100) dX6_mark_34 (by decide) ⟨by decide, by decide⟩ ?_
        refine G_cSi dX6_mark_36 (c_X6_isIn l (d + 0) nu w q 0 100) mcX6_187 rfl rfl (by show _ ≤ d + 1; omega) rfl rfl (Nat.le_refl _) (Nat.le_refl _) ?_
        refine G_if_eq 56 dX6_mark_39 (by decide) (fun h39 => ?_) (fun h39 => ?_)
        · refine G_iconst (n := 0) dX6_mark_56 ⟨by decide, by decide⟩ ?_
          exact G_zret dX6_mark_57 rfl (by omega) rfl rfl ⟨by rw [if_neg (by omega)], rfl, by rw [if_neg (by omega)]⟩
        · refine G_aload_n dX6_mark_42 rfl ?_
          refine G_getR (jj := 32) dX6_mark_43 flX6_74 rfl rfl rfl ?_
          refine G_iload_n dX6_mark_46 rfl ?_
          refine G_iald dX6_mark_47 rfl (by omega) (by omega) ?_
          refine G_iload_n dX6_mark_48 rfl ?_
          refine G_ishr (shrI (w 49 s) c) dX6_mark_49 rfl ?_
          refine G_iconst (n := 1) dX6_mark_50 ⟨by decide, by decide⟩ ?_
          refine G_iand (bandI (shrI (w 49 s) c) 1) dX6_mark_51 rfl ?_
          refine G_iconst (n := 1) dX6_mark_52 ⟨by decide, by decide⟩ ?_
          refine G_icmp_ne 58 dX6_mark_53 (by decide) (fun h53 => ?_) (fun h53 => ?_)
          · refine G_aload_n dX6_mark_58 rfl ?_
            refine G_getR (jj := 31) dX6_mark_59 flX6_71 rfl rfl rfl ?_
            refine G_iload_n dX6_mark_62 rfl ?_
            refine G_iald dX6_mark_63 rfl (by omega) (by omega) ?_
            refine G_istore dX6_mark_64 rfl rfl ?_
            have hok : (0 ≤ s ∧ s < 2 * w 27 34) ∧ w 48 s ≠ -1 ∧ (0 ≤ c ∧ c ≤ 1) ∧ (0 ≤ q ∧ q ≤ 100) ∧ bandI (shrI (w 49 s) c) 1 ≠ 1 := by omega
            rw [if_pos hok, if_pos hok]
            exact tail (by omega) (by omega) (by omega)
          · refine G_iconst (n := 0) dX6_mark_56 ⟨by decide, by decide⟩ ?_
            exact G_zret dX6_mark_57 rfl (by omega) rfl rfl ⟨by rw [if_neg (by omega)], rfl, by rw [if_neg (by omega)]⟩
def st1 (v : VV) (s : Int) : VV := if v 48 s = -1 then v else up (up v 42 (100 * v 48 s + v 27 35) (v 46 (s / 2))) 41 (v 48 s) (v 41 (v 48 s) + 1)
def stL : Nat → Int → VV → VV
  | 0, _, v => v
  | n + 1, s, v => stL n (s + 1) (st1 v s)
def clr (v : VV) (u : Int) : VV := up (up (up v 38 u 0) 39 u 0) 40 u 0
def rg1 (v : VV) (u : Int) : VV := if v 38 u < v 29 8 ∨ v 39 u = 0 then v else if v 29 6 * v 39 u ≤ v 40 u ∧ 1 < v 36 u then clr (up v 36 u (v 36 u - 1)) u else if v 40 u ≤ v 29 7 * v 39 u ∧ v 36 u < 4 then clr (up v 36 u (v 36 u + 1)) u else v
def rgL : Nat → Int → VV → VV
  | 0, _, v => v
  | n + 1, u, v => rgL n (u + 1) (rg1 v u)
def nextV (w : VV) (nu : Nat) : VV := up (up (up (rgL nu 0 (stL (2 * w 27 34).toNat 0 w)) 27 34 0) 27 36 0) 27 35 (w 27 35 + 1)
theorem clr_get (v : VV) (u : Int) (k : Nat) (j : Int) : clr v u k j = if (k = 38 ∨ k = 39 ∨ k = 40) ∧ j = u then 0 else v k j := by
  unfold clr
  simp only [up_get]
  by_cases h : j = u
  · by_cases h1 : k = 38
    · simp [h, h1]
    · by_cases h2 : k = 39
      · simp [h, h2]
      · by_cases h3 : k = 40
        · simp [h, h3]
        · simp [h, h1, h2, h3]
  · simp [h]
def RGok (nu : Nat) (t : Int) (z : VV) : Prop := ∀ x : Int, 0 ≤ x → x < nu → (1 ≤ z 36 x ∧ z 36 x ≤ 4) ∧ (0 ≤ z 38 x ∧ z 38 x ≤ t) ∧ (0 ≤ z 39 x ∧ z 39 x ≤ 9 * t) ∧ (0 ≤ z 40 x ∧ z 40 x ≤ 900 * t)
theorem RGok_step {nu : Nat} {t : Int} {z : VV} {u g : Int} (ht : 0 ≤ t) (h : RGok nu t z) (hg : 1 ≤ g ∧ g ≤ 4) : RGok nu t (clr (up z 36 u g) u) := by
  intro x x1 x2
  have a := h x x1 x2
  simp only [clr_get, up_get]
  by_cases e : x = u
  · subst e; simp; omega
  · simp [e]; omega
end
section
set_option maxRecDepth 20000 in
set_option maxHeartbeats 1000000 in
theorem c_X6_next (l : Launch) (d nu : Nat) (v : VV) (w : VV) (hw : up v 27 0 0 = w) (hB : MB nu w) (t : Int) (hcb : CB nu t w) : Ct l yX6_next cX6_next (some .int) 3 (d + 0) 0 0 [ar (some 27)] (SG nu) v (rI (SG nu) (if w 27 35 = 99 then -1 else w 27 35 + 1) (if w 27 35 = 99 then w else nextV w nu)) := by
  refine Ct_of_G [some (ar (some 27)), none, none] (by decide) rfl rfl ?_
  have hn := hB.1
  have hgm := hB.2.1
  have hwk := hB.2.2.1
  have hrb := hB.2.2.2.1
  have ht := hcb.1
  have loopB : ∀ (n : Nat) (u : Int) (z : VV) (Z : Option AV), z 27 = w 27 → z 29 = w 29 → 0 ≤ u → u + n = nu → RGok nu t z → w 27 35 < 99 → G l (yX6_next, cX6_next, (some .int), 3, (d + 0), 0, 0, none) (rI (SG nu) (w 27 35 + 1) (up (up (up (rgL n u z) 27 34 0) 27 36 0) 27 35 (w 27 35 + 1))) 0 0 (SG nu) 91 [some (ar (some 27)), some (ai u), Z] [] z := by
    intro n
    induction n using Nat.strongRecOn with
    | ind n ih =>
    intro u z Z hz27 hz29 h0 h1 hz h99
    have e33 : z 27 33 = nu := by rw [hz27]; exact hn.2
    refine G_iload_n dX6_next_91 rfl ?_
    refine G_aload_n dX6_next_92 rfl ?_
    refine G_getIv ((nu : Int)) (jj := 33) dX6_next_93 flX6_181 rfl rfl rfl e33 ?_
    refine G_icmp_ge 253 dX6_next_96 (by decide) (fun h96 => ?_) (fun h96 => ?_)
    · obtain rfl : n = 0 := by omega
      refine G_aload_n dX6_next_253 rfl ?_
      refine G_iconst (n := 0) dX6_next_254 ⟨by decide, by decide⟩ ?_
      refine G_putI (jj := 34) dX6_next_255 flX6_184 rfl rfl rfl rfl ?_
      refine G_aload_n dX6_next_258 rfl ?_
      refine G_iconst (n := 0) dX6_next_259 ⟨by decide, by decide⟩ ?_
      refine G_putI (jj := 36) dX6_next_260 flX6_250 rfl rfl rfl rfl ?_
      refine G_aload_n dX6_next_263 rfl ?_
      refine G_dup_a dX6_next_264 ?_
      refine G_getIv (w 27 35) (jj := 35) dX6_next_265 flX6_194 rfl rfl rfl (by simp [up_get, hz27]) ?_
      refine G_iconst (n := 1) dX6_next_268 ⟨by decide, by decide⟩ ?_
      refine G_iadd dX6_next_269 (iRm (by omega) (by omega)) ?_
      refine G_putI (jj := 35) dX6_next_270 flX6_194 rfl rfl rfl rfl ?_
      refine G_aload_n dX6_next_273 rfl ?_
      refine G_getIv (w 27 35 + 1) (jj := 35) dX6_next_274 flX6_194 rfl rfl rfl (up_self _ _ _ _) ?_
      exact G_iret dX6_next_277 rfl rfl rfl ⟨rfl, rfl, rfl⟩
    · obtain ⟨n, rfl⟩ : ∃ k, n = k + 1 := ⟨n - 1, by omega⟩
      have hu := hz u h0 (by omega)
      have hr6 : 1 ≤ z 29 6 ∧ z 29 6 ≤ 101 := by rw [hz29]; exact hrb.2.2.2.2.2.2.1
      have hr7 : 0 ≤ z 29 7 ∧ z 29 7 ≤ 100 := by rw [hz29]; exact hrb.2.2.2.2.2.2.2.1
      have hm6 := mul_bd (show 0 ≤ z 29 6 ∧ z 29 6 ≤ 101 by omega) hu.2.2.1
      have hm7 := mul_bd hr7 hu.2.2.1
      show G l (yX6_next, cX6_next, (some .int), 3, (d + 0), 0, 0, none) (rI (SG nu) (w 27 35 + 1) (up (up (up (rgL n (u + 1) (rg1 z u)) 27 34 0) 27 36 0) 27 35 (w 27 35 + 1))) 0 0 (SG nu) 99 [some (ar (some 27)), some (ai u), Z] [] z
      have K : ∀ (g : Int), (1 ≤ g ∧ g ≤ 4) → ((¬ g = z 36 u → rg1 z u = clr (up z 36 u g) u) ∧ (g = z 36 u → rg1 z u = z)) → G l (yX6_next, cX6_next, (some .int), 3, (d + 0), 0, 0, none) (rI (SG nu) (w 27 35 + 1) (up (up (up (rgL n (u + 1) (rg1 z u)) 27 34 0) 27 36 0) 27 35 (w 27 35 + 1))) 0 0 (SG nu) 213 [some (ar (some 27)), some (ai u), some (ai (z 36 u))] [] (up z 36 u g) := by
        intro g hg hg2
        refine G_aload_n dX6_next_213 rfl ?_
        refine G_getR (jj := 19) dX6_next_214 flX6_34 rfl rfl rfl ?_
        refine G_iload_n dX6_next_217 rfl ?_
        refine G_ialdv (g) dX6_next_218 rfl (by omega) (by omega) (up_self _ _ _ _) ?_
        refine G_iload_n dX6_next_219 rfl ?_
        refine G_icmp_ne 226 dX6_next_220 (by decide) (fun h220 => ?_) (fun h220 => ?_)
        · refine G_aload_n dX6_next_226 rfl ?_
          refine G_getR (jj := 21) dX6_next_227 flX6_40 rfl rfl rfl ?_
          refine G_iload_n dX6_next_230 rfl ?_
          refine G_iconst (n := 0) dX6_next_231 ⟨by decide, by decide⟩ ?_
          refine G_iast dX6_next_232 rfl (by omega) (by omega) ?_
          refine G_aload_n dX6_next_233 rfl ?_
          refine G_getR (jj := 22) dX6_next_234 flX6_43 rfl rfl rfl ?_
          refine G_iload_n dX6_next_237 rfl ?_
          refine G_iconst (n := 0) dX6_next_238 ⟨by decide, by decide⟩ ?_
          refine G_iast dX6_next_239 rfl (by omega) (by omega) ?_
          refine G_aload_n dX6_next_240 rfl ?_
          refine G_getR (jj := 23) dX6_next_241 flX6_46 rfl rfl rfl ?_
          refine G_iload_n dX6_next_244 rfl ?_
          refine G_iconst (n := 0) dX6_next_245 ⟨by decide, by decide⟩ ?_
          refine G_iast dX6_next_246 rfl (by omega) (by omega) ?_
          refine G_iinc dX6_next_247 rfl (iRm (by omega) (by omega)) rfl rfl ?_
          refine G_goto 91 dX6_next_250 (by decide) ?_
          rw [(hg2.1 h220)]
          exact ih n (by omega) (u + 1) _ _ (by funext b; exact congrFun hz27 b) (by funext b; exact congrFun hz29 b) (by omega) (by omega) (RGok_step (by omega) hz hg) h99
        · refine G_goto 247 dX6_next_223 (by decide) ?_
          refine G_iinc dX6_next_247 rfl (iRm (by omega) (by omega)) rfl rfl ?_
          refine G_goto 91 dX6_next_250 (by decide) ?_
          rw [hg2.2 h220]
          refine G_at (show z = up z 36 u g by rw [h220]; exact (up_id z 36 u).symm) ?_
          exact ih n (by omega) (u + 1) z _ hz27 hz29 (by omega) (by omega) hz h99
      refine G_aload_n dX6_next_99 rfl ?_
      refine G_getR (jj := 21) dX6_next_100 flX6_40 rfl rfl rfl ?_
      refine G_iload_n dX6_next_103 rfl ?_
      refine G_iald dX6_next_104 rfl (by omega) (by omega) ?_
      refine G_aload_n dX6_next_105 rfl ?_
      refine G_getR (jj := 3) dX6_next_106 flX6_13 rfl rfl rfl ?_
      refine G_bipush (n := 8) dX6_next_109 (by decide) ⟨by decide, by decide⟩ ?_
      refine G_iald dX6_next_111 rfl (by omega) (by omega) ?_
      refine G_icmp_lt 247 dX6_next_112 (by decide) (fun h112 => ?_) (fun h112 => ?_)
      · refine G_iinc dX6_next_247 rfl (iRm (by omega) (by omega)) rfl rfl ?_
        refine G_goto 91 dX6_next_250 (by decide) ?_
        rw [show rg1 z u = z by unfold rg1; rw [if_pos (by omega)]]
        exact ih n (by omega) (u + 1) z _ hz27 hz29 (by omega) (by omega) hz h99
      · refine G_aload_n dX6_next_115 rfl ?_
        refine G_getR (jj := 22) dX6_next_116 flX6_43 rfl rfl rfl ?_
        refine G_iload_n dX6_next_119 rfl ?_
        refine G_iald dX6_next_120 rfl (by omega) (by omega) ?_
        refine G_if_ne 127 dX6_next_121 (by decide) (fun h121 => ?_) (fun h121 => ?_)
        · refine G_aload_n dX6_next_127 rfl ?_
          refine G_getR (jj := 19) dX6_next_128 flX6_34 rfl rfl rfl ?_
          refine G_iload_n dX6_next_131 rfl ?_
          refine G_iald dX6_next_132 rfl (by omega) (by omega) ?_
          refine G_istore_n dX6_next_133 rfl rfl ?_
          refine G_aload_n dX6_next_134 rfl ?_
          refine G_getR (jj := 23) dX6_next_135 flX6_46 rfl rfl rfl ?_
          refine G_iload_n dX6_next_138 rfl ?_
          refine G_iald dX6_next_139 rfl (by omega) (by omega) ?_
          refine G_aload_n dX6_next_140 rfl ?_
          refine G_getR (jj := 3) dX6_next_141 flX6_13 rfl rfl rfl ?_
          refine G_bipush (n := 6) dX6_next_144 (by decide) ⟨by decide, by decide⟩ ?_
          refine G_iald dX6_next_146 rfl (by omega) (by omega) ?_
          refine G_aload_n dX6_next_147 rfl ?_
          refine G_getR (jj := 22) dX6_next_148 flX6_43 rfl rfl rfl ?_
          refine G_iload_n dX6_next_151 rfl ?_
          refine G_iald dX6_next_152 rfl (by omega) (by omega) ?_
          refine G_imul dX6_next_153 (iRm (by omega) (by omega)) ?_
          refine G_icmp_lt 175 dX6_next_154 (by decide) (fun h154 => ?_) (fun h154 => ?_)
          · refine G_aload_n dX6_next_175 rfl ?_
            refine G_getR (jj := 23) dX6_next_176 flX6_46 rfl rfl rfl ?_
            refine G_iload_n dX6_next_179 rfl ?_
            refine G_iald dX6_next_180 rfl (by omega) (by omega) ?_
            refine G_aload_n dX6_next_181 rfl ?_
            refine G_getR (jj := 3) dX6_next_182 flX6_13 rfl rfl rfl ?_
            refine G_bipush (n := 7) dX6_next_185 (by decide) ⟨by decide, by decide⟩ ?_
            refine G_iald dX6_next_187 rfl (by omega) (by omega) ?_
            refine G_aload_n dX6_next_188 rfl ?_
            refine G_getR (jj := 22) dX6_next_189 flX6_43 rfl rfl rfl ?_
            refine G_iload_n dX6_next_192 rfl ?_
            refine G_iald dX6_next_193 rfl (by omega) (by omega) ?_
            refine G_imul dX6_next_194 (iRm (by omega) (by omega)) ?_
            refine G_icmp_gt 213 dX6_next_195 (by decide) (fun h195 => ?_) (fun h195 => ?_)
            · refine G_at (up_id z 36 u) ?_
              exact K (z 36 u) (by omega) ⟨fun q => absurd rfl q, fun _ => by unfold rg1; rw [if_neg (by omega), if_neg (by omega), if_neg (by omega)]⟩
            · refine G_iload_n dX6_next_198 rfl ?_
              refine G_iconst (n := 4) dX6_next_199 ⟨by decide, by decide⟩ ?_
              refine G_icmp_ge 213 dX6_next_200 (by decide) (fun h200 => ?_) (fun h200 => ?_)
              · refine G_at (up_id z 36 u) ?_
                exact K (z 36 u) (by omega) ⟨fun q => absurd rfl q, fun _ => by unfold rg1; rw [if_neg (by omega), if_neg (by omega), if_neg (by omega)]⟩
              · refine G_aload_n dX6_next_203 rfl ?_
                refine G_getR (jj := 19) dX6_next_204 flX6_34 rfl rfl rfl ?_
                refine G_iload_n dX6_next_207 rfl ?_
                refine G_dup2 dX6_next_208 ?_
                refine G_iald dX6_next_209 rfl (by omega) (by omega) ?_
                refine G_iconst (n := 1) dX6_next_210 ⟨by decide, by decide⟩ ?_
                refine G_iadd dX6_next_211 (iRm (by omega) (by omega)) ?_
                refine G_iast dX6_next_212 rfl (by omega) (by omega) ?_
                exact K (z 36 u + 1) (by omega) ⟨fun _ => by unfold rg1; rw [if_neg (by omega), if_neg (by omega), if_pos (by omega)], fun q => by omega⟩
          · refine G_iload_n dX6_next_157 rfl ?_
            refine G_iconst (n := 1) dX6_next_158 ⟨by decide, by decide⟩ ?_
            refine G_icmp_le 175 dX6_next_159 (by decide) (fun h159 => ?_) (fun h159 => ?_)
            · refine G_aload_n dX6_next_175 rfl ?_
              refine G_getR (jj := 23) dX6_next_176 flX6_46 rfl rfl rfl ?_
              refine G_iload_n dX6_next_179 rfl ?_
              refine G_iald dX6_next_180 rfl (by omega) (by omega) ?_
              refine G_aload_n dX6_next_181 rfl ?_
              refine G_getR (jj := 3) dX6_next_182 flX6_13 rfl rfl rfl ?_
              refine G_bipush (n := 7) dX6_next_185 (by decide) ⟨by decide, by decide⟩ ?_
              refine G_iald dX6_next_187 rfl (by omega) (by omega) ?_
              refine G_aload_n dX6_next_188 rfl ?_
              refine G_getR (jj := 22) dX6_next_189 flX6_43 rfl rfl rfl ?_
              refine G_iload_n dX6_next_192 rfl ?_
              refine G_iald dX6_next_193 rfl (by omega) (by omega) ?_
              refine G_imul dX6_next_194 (iRm (by omega) (by omega)) ?_
              refine G_icmp_gt 213 dX6_next_195 (by decide) (fun h195 => ?_) (fun h195 => ?_)
              · refine G_at (up_id z 36 u) ?_
                exact K (z 36 u) (by omega) ⟨fun q => absurd rfl q, fun _ => by unfold rg1; rw [if_neg (by omega), if_neg (by omega), if_neg (by omega)]⟩
              · refine G_iload_n dX6_next_198 rfl ?_
                refine G_iconst (n := 4) dX6_next_199 ⟨by decide, by decide⟩ ?_
                refine G_icmp_ge 213 dX6_next_200 (by decide) (fun h200 => ?_) (fun h200 => ?_)
                · refine G_at (up_id z 36 u) ?_
                  exact K (z 36 u) (by omega) ⟨fun q => absurd rfl q, fun _ => by unfold rg1; rw [if_neg (by omega), if_neg (by omega), if_neg (by omega)]⟩
                · refine G_aload_n dX6_next_203 rfl ?_
                  refine G_getR (jj := 19) dX6_next_204 flX6_34 rfl rfl rfl ?_
                  refine G_iload_n dX6_next_207 rfl ?_
                  refine G_dup2 dX6_next_208 ?_
                  refine G_iald dX6_next_209 rfl (by omega) (by omega) ?_
                  refine G_iconst (n := 1) dX6_next_210 ⟨by decide, by decide⟩ ?_
                  refine G_iadd dX6_next_211 (iRm (by omega) (by omega)) ?_
                  refine G_iast dX6_next_212 rfl (by omega) (by omega) ?_
                  exact K (z 36 u + 1) (by omega) ⟨fun _ => by unfold rg1; rw [if_neg (by omega), if_neg (by omega), if_pos (by omega)], fun q => by omega⟩
            · refine G_aload_n dX6_next_162 rfl ?_
              refine G_getR (jj := 19) dX6_next_163 flX6_34 rfl rfl rfl ?_
              refine G_iload_n dX6_next_166 rfl ?_
              refine G_dup2 dX6_next_167 ?_
              refine G_iald dX6_next_168 rfl (by omega) (by omega) ?_
              refine G_iconst (n := 1) dX6_next_169 ⟨by decide, by decide⟩ ?_
              refine G_isub dX6_next_170 (iRm (by omega) (by omega)) ?_
              refine G_iast dX6_next_171 rfl (by omega) (by omega) ?_
              refine G_goto 213 dX6_next_172 (by decide) ?_
              exact K (z 36 u - 1) (by omega) ⟨fun _ => by unfold rg1; rw [if_neg (by omega), if_pos (by omega)], fun q => by omega⟩
        · refine G_goto 247 dX6_next_124 (by decide) ?_
          refine G_iinc dX6_next_247 rfl (iRm (by omega) (by omega)) rfl rfl ?_
          refine G_goto 91 dX6_next_250 (by decide) ?_
          rw [show rg1 z u = z by unfold rg1; rw [if_pos (by omega)]]
          exact ih n (by omega) (u + 1) z _ hz27 hz29 (by omega) (by omega) hz h99
  have loopA : ∀ (n : Nat) (s : Int) (z : VV), (∀ k, k ≠ 41 → k ≠ 42 → z k = w k) → (∀ x : Int, 0 ≤ x → x < nu → 0 ≤ z 41 x ∧ z 41 x ≤ 99 + s) → 0 ≤ s → s + n = 2 * w 27 34 → w 27 35 < 99 → G l (yX6_next, cX6_next, (some .int), 3, (d + 0), 0, 0, none) (rI (SG nu) (w 27 35 + 1) (up (up (up (rgL nu 0 (stL n s z)) 27 34 0) 27 36 0) 27 35 (w 27 35 + 1))) 0 0 (SG nu) 18 [some (ar (some 27)), some (ai s), none] [] z := by
    intro n
    induction n using Nat.strongRecOn with
    | ind n ih =>
    intro s z hz h41 h0 h1 h99
    have z27 := hz 27 (by decide) (by decide)
    have z48 := hz 48 (by decide) (by decide)
    have e34 : z 27 34 = w 27 34 := by rw [z27]
    have e35 : z 27 35 = w 27 35 := by rw [z27]
    refine G_iload_n dX6_next_18 rfl ?_
    refine G_iconst (n := 2) dX6_next_19 ⟨by decide, by decide⟩ ?_
    refine G_aload_n dX6_next_20 rfl ?_
    refine G_getIv (w 27 34) (jj := 34) dX6_next_21 flX6_184 rfl rfl rfl e34 ?_
    refine G_imul dX6_next_24 (iRm (by omega) (by omega)) ?_
    refine G_icmp_ge 89 dX6_next_25 (by decide) (fun h25 => ?_) (fun h25 => ?_)
    · obtain rfl : n = 0 := by omega
      refine G_iconst (n := 0) dX6_next_89 ⟨by decide, by decide⟩ ?_
      refine G_istore_n dX6_next_90 rfl rfl ?_
      exact loopB nu 0 z _ z27 (hz 29 (by decide) (by decide)) (by omega) (by omega) (fun x x1 x2 => by rw [hz 36 (by decide) (by decide), hz 38 (by decide) (by decide), hz 39 (by decide) (by decide), hz 40 (by decide) (by decide)]; have a := hB.2.2.2.2.1 x x1 x2; have b := hcb.2.2 x x1 x2; exact ⟨a.2.2.1, b⟩) h99
    · obtain ⟨n, rfl⟩ : ∃ k, n = k + 1 := ⟨n - 1, by omega⟩
      have hws : -1 ≤ z 48 s ∧ z 48 s < nu := by rw [z48]; exact hB.2.2.2.2.2.2 s (by omega) (by omega)
      refine G_aload_n dX6_next_28 rfl ?_
      refine G_getR (jj := 31) dX6_next_29 flX6_71 rfl rfl rfl ?_
      refine G_iload_n dX6_next_32 rfl ?_
      refine G_iald dX6_next_33 rfl (by omega) (by omega) ?_
      refine G_iconst (n := (-1)) dX6_next_34 ⟨by decide, by decide⟩ ?_
      refine G_icmp_ne 41 dX6_next_35 (by decide) (fun h35 => ?_) (fun h35 => ?_)
      · have h4 := h41 (z 48 s) (by omega) (by omega)
        refine G_aload_n dX6_next_41 rfl ?_
        refine G_getR (jj := 25) dX6_next_42 flX6_52 rfl rfl rfl ?_
        refine G_bipush (n := 100) dX6_next_45 (by decide) ⟨by decide, by decide⟩ ?_
        refine G_aload_n dX6_next_47 rfl ?_
        refine G_getR (jj := 31) dX6_next_48 flX6_71 rfl rfl rfl ?_
        refine G_iload_n dX6_next_51 rfl ?_
        refine G_iald dX6_next_52 rfl (by omega) (by omega) ?_
        refine G_imul dX6_next_53 (iRm (by omega) (by omega)) ?_
        refine G_aload_n dX6_next_54 rfl ?_
        refine G_getI (jj := 35) dX6_next_55 flX6_194 rfl rfl rfl ?_
        refine G_iadd dX6_next_58 (iRm (by omega) (by omega)) ?_
        refine G_aload_n dX6_next_59 rfl ?_
        refine G_getR (jj := 29) dX6_next_60 flX6_65 rfl rfl rfl ?_
        refine G_iload_n dX6_next_63 rfl ?_
        refine G_iconst (n := 2) dX6_next_64 ⟨by decide, by decide⟩ ?_
        refine G_idiv dX6_next_65 (by omega) (by omega) ?_
        refine G_iald dX6_next_66 rfl (by omega) (by omega) ?_
        refine G_iast dX6_next_67 rfl (by omega) (by omega) ?_
        refine G_aload_n dX6_next_68 rfl ?_
        refine G_getR (jj := 24) dX6_next_69 flX6_49 rfl rfl rfl ?_
        refine G_aload_n dX6_next_72 rfl ?_
        refine G_getR (jj := 31) dX6_next_73 flX6_71 rfl rfl rfl ?_
        refine G_iload_n dX6_next_76 rfl ?_
        refine G_ialdv (z 48 s) dX6_next_77 rfl (by omega) (by omega) rfl ?_
        refine G_dup2 dX6_next_78 ?_
        refine G_ialdv (z 41 (z 48 s)) dX6_next_79 rfl (by omega) (by omega) rfl ?_
        refine G_iconst (n := 1) dX6_next_80 ⟨by decide, by decide⟩ ?_
        refine G_iadd dX6_next_81 (iRm (by omega) (by omega)) ?_
        refine G_iast dX6_next_82 rfl (by omega) (by omega) ?_
        refine G_iinc dX6_next_83 rfl (iRm (by omega) (by omega)) rfl rfl ?_
        refine G_goto 18 dX6_next_86 (by decide) ?_
        rw [show stL (n + 1) s z = stL n (s + 1) (up (up z 42 (100 * z 48 s + z 27 35) (z 46 (s / 2))) 41 (z 48 s) (z 41 (z 48 s) + 1)) by rw [stL, st1, if_neg h35]]
        refine ih n (by omega) (s + 1) _ (fun k k1 k2 => ?_) (fun x x1 x2 => ?_) (by omega) (by omega) h99
        · rw [up_ne k1, up_ne k2]; exact hz k k1 k2
        · have a := h41 x x1 x2
          by_cases e : x = z 48 s
          · simp [up_get, e]; omega
          · simp [up_get, e]; omega
      · refine G_goto 83 dX6_next_38 (by decide) ?_
        refine G_iinc dX6_next_83 rfl (iRm (by omega) (by omega)) rfl rfl ?_
        refine G_goto 18 dX6_next_86 (by decide) ?_
        rw [show stL (n + 1) s z = stL n (s + 1) z by rw [stL, st1, if_pos h35]]
        exact ih n (by omega) (s + 1) z hz (fun x x1 x2 => by have a := h41 x x1 x2; omega) (by omega) (by omega) h99
  refine G_aload_n dX6_next_0 rfl ?_
  refine G_iconst (n := 0) dX6_next_1 ⟨by decide, by decide⟩ ?_
  refine G_putI (jj := 0) dX6_next_2 flX6_101 rfl rfl rfl rfl ?_
  rw [hw]
  refine G_aload_n dX6_next_5 rfl ?_
  refine G_getI (jj := 35) dX6_next_6 flX6_194 rfl rfl rfl ?_
  refine G_bipush (n := 99) dX6_next_9 (by decide) ⟨by decide, by decide⟩ ?_
  refine G_icmp_ne 16 dX6_next_11 (by decide) (fun h11 => ?_) (fun h11 => ?_)
  · refine G_iconst (n := 0) dX6_next_16 ⟨by decide, by decide⟩ ?_
    refine G_istore_n dX6_next_17 rfl rfl ?_
    rw [if_neg h11, if_neg h11]
    exact loopA (2 * w 27 34).toNat 0 w (fun _ _ _ => rfl) (fun x x1 x2 => by have a := (hB.2.2.2.2.1 x x1 x2).2.2.2.2; omega) (by omega) (by omega) (by omega)
  · refine G_iconst (n := (-1)) dX6_next_14 ⟨by decide, by decide⟩ ?_
    exact G_iret dX6_next_15 rfl rfl rfl ⟨by rw [if_pos h11], rfl, by rw [if_pos h11]⟩
end
section
/-- SEAT t can be left for s, at this change of COST -/
def mval (nu : Nat) (z : VV) (s t c : Int) : Prop := z 48 t ≠ -1 ∧ mayP z (z 48 t) s ∧ ∃ x, x ≠ -1 ∧ spU z t nu x ∧ c = costS z (z 48 t) s + costS z x t - costS z (z 48 t) t
theorem mval_one {nu : Nat} {z : VV} {s t c e : Int} (h : mval nu z s t c) (h2 : mval nu z s t e) : c = e := by
  obtain ⟨-, -, x, -, h1, h3⟩ := h
  obtain ⟨-, -, y, -, g1, g3⟩ := h2
  rw [h3, g3, spU_one h1 g1]
def mvU (nu : Nat) (z : VV) (s n C t : Int) : Prop := (t = -1 ∧ C = 100000000 ∧ ∀ q c, 0 ≤ q → q < n → ¬ mval nu z s q c) ∨ (0 ≤ t ∧ t < n ∧ mval nu z s t C ∧ ∀ q c, 0 ≤ q → q < n → mval nu z s q c → C ≤ c ∧ (c = C → t ≤ q))
theorem mvU_no {nu : Nat} {z : VV} {s n C t : Int} (h : mvU nu z s n C t) (hc : ∀ c, ¬ mval nu z s n c) : mvU nu z s (n + 1) C t := by
  rcases h with ⟨h1, h2, h3⟩ | ⟨h1, h2, h3, h4⟩
  · exact Or.inl ⟨h1, h2, fun q c q1 q2 => by by_cases e : q = n; rw [e]; exact hc c; exact h3 q c q1 (by omega)⟩
  · exact Or.inr ⟨h1, by omega, h3, fun q c q1 q2 => by by_cases e : q = n; rw [e]; exact fun z => absurd z (hc c); exact h4 q c q1 (by omega)⟩
theorem mvU_keep {nu : Nat} {z : VV} {s n C t c : Int} (h : mvU nu z s n C t) (hm : mval nu z s n c) (hc : C ≤ c) (hc2 : c < 100000000) : mvU nu z s (n + 1) C t := by
  rcases h with ⟨h1, h2, h3⟩ | ⟨h1, h2, h3, h4⟩
  · omega
  · exact Or.inr ⟨h1, by omega, h3, fun q e q1 q2 => by
      by_cases e2 : q = n
      · rw [e2]; exact fun z => by rw [mval_one z hm]; omega
      · exact h4 q e q1 (by omega)⟩
theorem mvU_new {nu : Nat} {z : VV} {s n C t c : Int} (hn : 0 ≤ n) (h : mvU nu z s n C t) (hm : mval nu z s n c) (hc : c < C) : mvU nu z s (n + 1) c n := by
  rcases h with ⟨h1, h2, h3⟩ | ⟨h1, h2, h3, h4⟩
  · exact Or.inr ⟨hn, by omega, hm, fun q e q1 q2 => by
      by_cases e2 : q = n
      · rw [e2]; exact fun z => by rw [mval_one z hm]; omega
      · exact fun z => absurd z (h3 q e q1 (by omega))⟩
  · exact Or.inr ⟨hn, by omega, hm, fun q e q1 q2 => by
      by_cases e2 : q = n
      · rw [e2]; exact fun z => by rw [mval_one z hm]; omega
      · exact fun z => by have := (h4 q e q1 (by omega) z).1; omega⟩
theorem mvU_one {nu : Nat} {z : VV} {s n C t C2 t2 : Int} (h : mvU nu z s n C t) (h2 : mvU nu z s n C2 t2) : t = t2 := by
  rcases h with ⟨h1, h3, h4⟩ | ⟨h1, h3, h4, h5⟩ <;> rcases h2 with ⟨g1, g3, g4⟩ | ⟨g1, g3, g4, g5⟩
  · omega
  · exact absurd g4 (h4 t2 C2 g1 g3)
  · exact absurd h4 (g4 t C h1 h3)
  · have a := h5 t2 C2 g1 g3 g4
    have b := g5 t C h1 h3 h4
    have : C2 = C := by omega
    have e1 := a.2 this
    have e2 := b.2 this.symm
    omega
/-- what off leaves ahead of filling -/
def offZ (w : VV) (u s : Int) : VV := up (up w 43 (100 * u + w 27 35) 1) 48 s (-1)
/-- the SEAT s of z is filled: r tells how, v2 is the world behind it -/
def offF (nu : Nat) (z : VV) (s r : Int) (v2 : VV) : Prop := ∃ b, spU z s nu b ∧ ((b ≠ -1 ∧ r = 1 ∧ v2 = up z 48 s b) ∨ (b = -1 ∧ ∃ C t, mvU nu z s (2 * z 27 34) C t ∧ ((t = -1 ∧ r = 0 ∧ v2 = z) ∨ (t ≠ -1 ∧ r = 2 ∧ ∃ x, x ≠ -1 ∧ spU z t nu x ∧ v2 = up (up z 48 s (z 48 t)) 48 t x))))
def offOk (nu : Nat) (w : VV) (u : Int) : Prop := (0 ≤ u ∧ u < nu) ∧ seatOfS w u ≠ -1 ∧ w 27 36 ≤ 0
def offP (nu : Nat) (w : VV) (u r : Int) (v2 : VV) : Prop := (¬ offOk nu w u ∧ r = -1 ∧ v2 = w) ∨ (offOk nu w u ∧ offF nu (offZ w u (seatOfS w u)) (seatOfS w u) r v2)
theorem MB_offZ {nu : Nat} {w : VV} (h : MB nu w) (u s : Int) : MB nu (offZ w u s) := by
  refine ⟨h.1, h.2.1, h.2.2.1, h.2.2.2.1, h.2.2.2.2.1, h.2.2.2.2.2.1, fun q q1 q2 => ?_⟩
  have a := h.2.2.2.2.2.2 q q1 q2
  unfold offZ
  simp only [up_get]
  by_cases e : q = s
  · simp [e]; omega
  · simp [e]; exact a
set_option maxRecDepth 20000 in
set_option maxHeartbeats 1000000 in
theorem c_X6_off (l : Launch) (d nu : Nat) (v : VV) (w : VV) (hw : up v 27 0 0 = w) (hB : MB nu w) (u : Int) : Ct l yX6_off cX6_off (some .int) 10 (d + 5) 0 0 [ar (some 27), ai u] (SG nu) v (fun r S2 v2 => ∃ x, r = some (ai x) ∧ S2 = SG nu ∧ offP nu w u x v2) := by
  refine Ct_of_G [some (ar (some 27)), some (ai u), none, none, none, none, none, none, none, none] (by decide) rfl rfl ?_
  have hn := hB.1
  have hgm := hB.2.1
  have hwk := hB.2.2.1
  have hso := seatOf_spec (v := w) u hgm.1
  have loop : ∀ (z : VV) (hz : MB nu z) (s : Int) (hs : 0 ≤ s ∧ s < 2 * z 27 34) (hb : spU z s nu (-1)) (hp : ∀ x v2, offF nu z s x v2 → ∃ y, some (ai x) = some (ai y) ∧ SG nu = SG nu ∧ offP nu w u y v2) (n : Nat) (C t q : Int) (Z7 Z8 Z9 : Option AV), 0 ≤ q → q + n = 2 * z 27 34 → mvU nu z s q C t → (-20000 ≤ C ∧ C ≤ 100000000) → G l (yX6_off, cX6_off, (some .int), 10, (d + 5), 0, 0, none) (fun r S2 v2 => ∃ x, r = some (ai x) ∧ S2 = SG nu ∧ offP nu w u x v2) 0 0 (SG nu) 89 [some (ar (some 27)), some (ai u), some (ai s), some (ai (-1)), some (ai C), some (ai t), some (ai q), Z7, Z8, Z9] [] z := by
    intro z hz s hs hb hp n
    induction n using Nat.strongRecOn with
    | ind n ih =>
    intro C t q Z7 Z8 Z9 h0 h1 hq hC
    have hnz := hz.1
    have hgz := hz.2.1
    refine G_iload dX6_off_89 rfl ?_
    refine G_iconst (n := 2) dX6_off_91 ⟨by decide, by decide⟩ ?_
    refine G_aload_n dX6_off_92 rfl ?_
    refine G_getI (jj := 34) dX6_off_93 flX6_184 rfl rfl rfl ?_
    refine G_imul dX6_off_96 (iRm (by omega) (by omega)) ?_
    refine G_icmp_ge 196 dX6_off_97 (by decide) (fun h97 => ?_) (fun h97 => ?_)
    · obtain rfl : q = 2 * z 27 34 := by omega
      refine G_iload dX6_off_196 rfl ?_
      refine G_iconst (n := (-1)) dX6_off_198 ⟨by decide, by decide⟩ ?_
      refine G_icmp_ne 204 dX6_off_199 (by decide) (fun h199 => ?_) (fun h199 => ?_)
      · have ht2 : 0 ≤ t ∧ t < 2 * z 27 34 := by rcases hq with ⟨e, -⟩ | ⟨e1, e2, -⟩; exact absurd e h199; exact ⟨e1, e2⟩
        refine G_aload_n dX6_off_204 rfl ?_
        refine G_iload dX6_off_205 rfl ?_
        refine G_cVq (ci := 6) dX6_off_207 rfl (by decide) rfl (c_X6_spare l (d + 0) nu z hz t ht2) mcX6_259 rfl rfl (by show _ ≤ d + 5; omega) rfl rfl (Nat.le_refl _) (Nat.le_refl _) (fun r S2 v2 hq9 => ?_)
        obtain ⟨x, rfl, hx, rfl, rfl⟩ := hq9
        have hx1 : x ≠ -1 := by
          rcases hq with ⟨e, -⟩ | ⟨-, -, ⟨-, -, y, y1, y2, -⟩, -⟩
          · exact absurd e h199
          · rw [spU_one hx y2]; exact y1
        refine G_istore dX6_off_210 rfl rfl ?_
        refine G_aload_n dX6_off_212 rfl ?_
        refine G_getR (jj := 31) dX6_off_213 flX6_71 rfl rfl rfl ?_
        refine G_iload_n dX6_off_216 rfl ?_
        refine G_aload_n dX6_off_217 rfl ?_
        refine G_getR (jj := 31) dX6_off_218 flX6_71 rfl rfl rfl ?_
        refine G_iload dX6_off_221 rfl ?_
        refine G_iald dX6_off_223 rfl (by omega) (by omega) ?_
        refine G_iast dX6_off_224 rfl (by omega) (by omega) ?_
        refine G_aload_n dX6_off_225 rfl ?_
        refine G_getR (jj := 31) dX6_off_226 flX6_71 rfl rfl rfl ?_
        refine G_iload dX6_off_229 rfl ?_
        refine G_iload dX6_off_231 rfl ?_
        refine G_iast dX6_off_233 rfl (by omega) (by omega) ?_
        refine G_iconst (n := 2) dX6_off_234 ⟨by decide, by decide⟩ ?_
        exact G_iret dX6_off_235 rfl rfl rfl (hp 2 _ ⟨-1, hb, Or.inr ⟨rfl, C, t, hq, Or.inr ⟨h199, rfl, x, hx1, hx, rfl⟩⟩⟩)
      · refine G_iconst (n := 0) dX6_off_202 ⟨by decide, by decide⟩ ?_
        exact G_iret dX6_off_203 rfl rfl rfl (hp 0 z ⟨-1, hb, Or.inr ⟨rfl, C, t, hq, Or.inl ⟨h199, rfl, rfl⟩⟩⟩)
    · have hwq := hz.2.2.2.2.2.2 q h0 (by omega)
      refine G_aload_n dX6_off_100 rfl ?_
      refine G_getR (jj := 31) dX6_off_101 flX6_71 rfl rfl rfl ?_
      refine G_iload dX6_off_104 rfl ?_
      refine G_iald dX6_off_106 rfl (by omega) (by omega) ?_
      refine G_istore dX6_off_107 rfl rfl ?_
      refine G_iload dX6_off_109 rfl ?_
      refine G_iconst (n := (-1)) dX6_off_111 ⟨by decide, by decide⟩ ?_
      refine G_icmp_eq 190 dX6_off_112 (by decide) (fun h112 => ?_) (fun h112 => ?_)
      · refine G_iinc dX6_off_190 rfl (iRm (by omega) (by omega)) rfl rfl ?_
        refine G_goto 89 dX6_off_193 (by decide) ?_
        exact ih (n - 1) (by omega) _ _ (q + 1) _ _ _ (by omega) (by omega) (mvU_no hq (fun c h => h.1 h112)) (by omega)
      · have hv : 0 ≤ z 48 q ∧ z 48 q < nu := by omega
        have hc1 := hz.cost hv hs
        have hc3 := hz.cost hv (s := q) (by omega)
        refine G_aload_n dX6_off_115 rfl ?_
        refine G_iload dX6_off_116 rfl ?_
        refine G_iload_n dX6_off_118 rfl ?_
        refine G_cVi (ci := 6) dX6_off_119 rfl (by decide) rfl (c_X6_mayHave l (d + 2) nu z hz (z 48 q) s hv hs) mcX6_210 rfl rfl (by show _ ≤ d + 5; omega) rfl rfl (Nat.le_refl _) (Nat.le_refl _) ?_
        refine G_if_ne 128 dX6_off_122 (by decide) (fun h122 => ?_) (fun h122 => ?_)
        · have hmt : mayP z (z 48 q) s := bP_1.mp (by rcases bP_01 (mayP z (z 48 q) s) with e | e; exact absurd e h122; exact e)
          refine G_aload_n dX6_off_128 rfl ?_
          refine G_iload dX6_off_129 rfl ?_
          refine G_cVq (ci := 6) dX6_off_131 rfl (by decide) rfl (c_X6_spare l (d + 0) nu z hz q (by omega)) mcX6_259 rfl rfl (by show _ ≤ d + 5; omega) rfl rfl (Nat.le_refl _) (Nat.le_refl _) (fun r S2 v2 hq9 => ?_)
          obtain ⟨x, rfl, hx, rfl, rfl⟩ := hq9
          refine G_istore dX6_off_134 rfl rfl ?_
          refine G_iload dX6_off_136 rfl ?_
          refine G_iconst (n := (-1)) dX6_off_138 ⟨by decide, by decide⟩ ?_
          refine G_icmp_ne 145 dX6_off_139 (by decide) (fun h139 => ?_) (fun h139 => ?_)
          · have hxx : 0 ≤ x ∧ x < nu := by rcases hx with ⟨e, -⟩ | ⟨e1, e2, -⟩; exact absurd e h139; exact ⟨e1, e2⟩
            have hc2 := hz.cost hxx (s := q) (by omega)
            refine G_aload_n dX6_off_145 rfl ?_
            refine G_iload dX6_off_146 rfl ?_
            refine G_iload_n dX6_off_148 rfl ?_
            refine G_cVi (ci := 6) dX6_off_149 rfl (by decide) rfl (c_X6_costOf l (d + 2) nu v2 hz (v2 48 q) s hv hs) mcX6_214 rfl rfl (by show _ ≤ d + 5; omega) rfl rfl (Nat.le_refl _) (Nat.le_refl _) ?_
            refine G_aload_n dX6_off_152 rfl ?_
            refine G_iload dX6_off_153 rfl ?_
            refine G_iload dX6_off_155 rfl ?_
            refine G_cVi (ci := 6) dX6_off_157 rfl (by decide) rfl (c_X6_costOf l (d + 2) nu v2 hz x q hxx (by omega)) mcX6_214 rfl rfl (by show _ ≤ d + 5; omega) rfl rfl (Nat.le_refl _) (Nat.le_refl _) ?_
            refine G_iadd dX6_off_160 (iRm (by omega) (by omega)) ?_
            refine G_aload_n dX6_off_161 rfl ?_
            refine G_iload dX6_off_162 rfl ?_
            refine G_iload dX6_off_164 rfl ?_
            refine G_cVi (ci := 6) dX6_off_166 rfl (by decide) rfl (c_X6_costOf l (d + 2) nu v2 hz (v2 48 q) q hv (by omega)) mcX6_214 rfl rfl (by show _ ≤ d + 5; omega) rfl rfl (Nat.le_refl _) (Nat.le_refl _) ?_
            refine G_isub dX6_off_169 (iRm (by omega) (by omega)) ?_
            refine G_istore dX6_off_170 rfl rfl ?_
            refine G_iload dX6_off_172 rfl ?_
            refine G_iload dX6_off_174 rfl ?_
            refine G_icmp_lt 182 dX6_off_176 (by decide) (fun h176 => ?_) (fun h176 => ?_)
            · refine G_iload dX6_off_182 rfl ?_
              refine G_istore dX6_off_184 rfl rfl ?_
              refine G_iload dX6_off_186 rfl ?_
              refine G_istore dX6_off_188 rfl rfl ?_
              refine G_iinc dX6_off_190 rfl (iRm (by omega) (by omega)) rfl rfl ?_
              refine G_goto 89 dX6_off_193 (by decide) ?_
              exact ih (n - 1) (by omega) _ _ (q + 1) _ _ _ (by omega) (by omega) (mvU_new h0 hq ⟨h112, hmt, x, h139, hx, rfl⟩ h176) (by omega)
            · refine G_goto 190 dX6_off_179 (by decide) ?_
              refine G_iinc dX6_off_190 rfl (iRm (by omega) (by omega)) rfl rfl ?_
              refine G_goto 89 dX6_off_193 (by decide) ?_
              exact ih (n - 1) (by omega) _ _ (q + 1) _ _ _ (by omega) (by omega) (mvU_keep hq ⟨h112, hmt, x, h139, hx, rfl⟩ (by omega) (by omega)) (by omega)
          · refine G_goto 190 dX6_off_142 (by decide) ?_
            refine G_iinc dX6_off_190 rfl (iRm (by omega) (by omega)) rfl rfl ?_
            refine G_goto 89 dX6_off_193 (by decide) ?_
            exact ih (n - 1) (by omega) _ _ (q + 1) _ _ _ (by omega) (by omega) (mvU_no hq (fun c h => by obtain ⟨-, -, y, y1, y2, -⟩ := h; exact y1 ((spU_one y2 hx).trans h139))) (by omega)
        · refine G_goto 190 dX6_off_125 (by decide) ?_
          refine G_iinc dX6_off_190 rfl (iRm (by omega) (by omega)) rfl rfl ?_
          refine G_goto 89 dX6_off_193 (by decide) ?_
          exact ih (n - 1) (by omega) _ _ (q + 1) _ _ _ (by omega) (by omega) (mvU_no hq (fun c h => bP_0.mp h122 h.2.1)) (by omega)
  have tail : offOk nu w u → (0 ≤ seatOfS w u ∧ seatOfS w u < 2 * w 27 34) → G l (yX6_off, cX6_off, (some .int), 10, (d + 5), 0, 0, none) (fun r S2 v2 => ∃ x, r = some (ai x) ∧ S2 = SG nu ∧ offP nu w u x v2) 0 0 (SG nu) 37 [some (ar (some 27)), some (ai u), some (ai (seatOfS w u)), none, none, none, none, none, none, none] [] w := by
    intro ho hs
    have ho1 := ho.1
    refine G_aload_n dX6_off_37 rfl ?_
    refine G_getR (jj := 26) dX6_off_38 flX6_55 rfl rfl rfl ?_
    refine G_bipush (n := 100) dX6_off_41 (by decide) ⟨by decide, by decide⟩ ?_
    refine G_iload_n dX6_off_43 rfl ?_
    refine G_imul dX6_off_44 (iRm (by omega) (by omega)) ?_
    refine G_aload_n dX6_off_45 rfl ?_
    refine G_getI (jj := 35) dX6_off_46 flX6_194 rfl rfl rfl ?_
    refine G_iadd dX6_off_49 (iRm (by omega) (by omega)) ?_
    refine G_iconst (n := 1) dX6_off_50 ⟨by decide, by decide⟩ ?_
    refine G_zast dX6_off_51 rfl (by omega) (by omega) (Or.inr rfl) ?_
    refine G_aload_n dX6_off_52 rfl ?_
    refine G_getR (jj := 31) dX6_off_53 flX6_71 rfl rfl rfl ?_
    refine G_iload_n dX6_off_56 rfl ?_
    refine G_iconst (n := (-1)) dX6_off_57 ⟨by decide, by decide⟩ ?_
    refine G_iast dX6_off_58 rfl (by omega) (by omega) ?_
    have hz : MB nu (offZ w u (seatOfS w u)) := MB_offZ hB u _
    have hs : 0 ≤ seatOfS w u ∧ seatOfS w u < 2 * (offZ w u (seatOfS w u)) 27 34 := hs
    have hp : ∀ x v2, offF nu (offZ w u (seatOfS w u)) (seatOfS w u) x v2 → ∃ y, some (ai x) = some (ai y) ∧ SG nu = SG nu ∧ offP nu w u y v2 := fun x v2 h => ⟨x, rfl, rfl, Or.inr ⟨ho, h⟩⟩
    change G _ _ _ _ _ _ _ _ _ (offZ w u (seatOfS w u))
    generalize hs9 : seatOfS w u = s at hz hs hp ⊢
    generalize offZ w u s = z at hz hs hp ⊢
    have hnz := hz.1
    have hgz := hz.2.1
    refine G_aload_n dX6_off_59 rfl ?_
    refine G_iload_n dX6_off_60 rfl ?_
    refine G_cVq (ci := 6) dX6_off_61 rfl (by decide) rfl (c_X6_spare l (d + 0) nu z hz s hs) mcX6_259 rfl rfl (by show _ ≤ d + 5; omega) rfl rfl (Nat.le_refl _) (Nat.le_refl _) (fun r S2 v2 hq9 => ?_)
    obtain ⟨b, rfl, hb, rfl, rfl⟩ := hq9
    refine G_istore_n dX6_off_64 rfl rfl ?_
    refine G_iload_n dX6_off_65 rfl ?_
    refine G_iconst (n := (-1)) dX6_off_66 ⟨by decide, by decide⟩ ?_
    refine G_icmp_eq 79 dX6_off_67 (by decide) (fun h67 => ?_) (fun h67 => ?_)
    · refine G_ldc (n := 100000000) dX6_off_79 (show Cond.constant RX6 218 (Int32.ofInt 100000000) ∈ lw_good by decide +kernel) ⟨by decide, by decide⟩ ?_
      refine G_istore dX6_off_81 rfl rfl ?_
      refine G_iconst (n := (-1)) dX6_off_83 ⟨by decide, by decide⟩ ?_
      refine G_istore dX6_off_84 rfl rfl ?_
      refine G_iconst (n := 0) dX6_off_86 ⟨by decide, by decide⟩ ?_
      refine G_istore dX6_off_87 rfl rfl ?_
      subst h67
      exact loop v2 hz s hs hb hp (2 * v2 27 34).toNat 100000000 (-1) 0 _ _ _ (by omega) (by omega) (Or.inl ⟨rfl, rfl, fun q c q1 q2 => by omega⟩) (by omega)
    · refine G_aload_n dX6_off_70 rfl ?_
      refine G_getR (jj := 31) dX6_off_71 flX6_71 rfl rfl rfl ?_
      refine G_iload_n dX6_off_74 rfl ?_
      refine G_iload_n dX6_off_75 rfl ?_
      refine G_iast dX6_off_76 rfl (by omega) (by omega) ?_
      refine G_iconst (n := 1) dX6_off_77 ⟨by decide, by decide⟩ ?_
      exact G_iret dX6_off_78 rfl rfl rfl (hp 1 _ ⟨b, hb, Or.inl ⟨h67, rfl, rfl⟩⟩)
  refine G_aload_n dX6_off_0 rfl ?_
  refine G_iconst (n := 0) dX6_off_1 ⟨by decide, by decide⟩ ?_
  refine G_putI (jj := 0) dX6_off_2 flX6_101 rfl rfl rfl rfl ?_
  rw [hw]
  refine G_aload_n dX6_off_5 rfl ?_
  refine G_iload_n dX6_off_6 rfl ?_
  refine G_cVi (ci := 6) dX6_off_7 rfl (by decide) rfl (c_X6_isUmpire l (d + 4) nu w u) mcX6_191 rfl rfl (by show _ ≤ d + 5; omega) rfl rfl (Nat.le_refl _) (Nat.le_refl _) ?_
  refine G_if_eq 21 dX6_off_10 (by decide) (fun h10 => ?_) (fun h10 => ?_)
  · refine G_iconst (n := (-1)) dX6_off_21 ⟨by decide, by decide⟩ ?_
    refine G_istore_n dX6_off_22 rfl rfl ?_
    refine G_iload_n dX6_off_23 rfl ?_
    refine G_iconst (n := (-1)) dX6_off_24 ⟨by decide, by decide⟩ ?_
    refine G_icmp_eq 35 dX6_off_25 (by decide) (fun h25 => ?_) (fun h25 => ?_)
    · refine G_iconst (n := (-1)) dX6_off_35 ⟨by decide, by decide⟩ ?_
      exact G_iret dX6_off_36 rfl rfl rfl ⟨-1, rfl, rfl, Or.inl ⟨by unfold offOk; omega, rfl, rfl⟩⟩
    · refine G_aload_n dX6_off_28 rfl ?_
      refine G_getI (jj := 36) dX6_off_29 flX6_250 rfl rfl rfl ?_
      refine G_if_le 37 dX6_off_32 (by decide) (fun h32 => ?_) (fun h32 => ?_)
      · omega
      · refine G_iconst (n := (-1)) dX6_off_35 ⟨by decide, by decide⟩ ?_
        exact G_iret dX6_off_36 rfl rfl rfl ⟨-1, rfl, rfl, Or.inl ⟨by unfold offOk; omega, rfl, rfl⟩⟩
  · refine G_aload_n dX6_off_13 rfl ?_
    refine G_iload_n dX6_off_14 rfl ?_
    refine G_cVi (ci := 6) dX6_off_15 rfl (by decide) rfl (c_X6_seatOf l (d + 4) nu w u hgm) mcX6_197 rfl rfl (by show _ ≤ d + 5; omega) rfl rfl (Nat.le_refl _) (Nat.le_refl _) ?_
    refine G_goto 22 dX6_off_18 (by decide) ?_
    refine G_istore_n dX6_off_22 rfl rfl ?_
    refine G_iload_n dX6_off_23 rfl ?_
    refine G_iconst (n := (-1)) dX6_off_24 ⟨by decide, by decide⟩ ?_
    refine G_icmp_eq 35 dX6_off_25 (by decide) (fun h25 => ?_) (fun h25 => ?_)
    · refine G_iconst (n := (-1)) dX6_off_35 ⟨by decide, by decide⟩ ?_
      exact G_iret dX6_off_36 rfl rfl rfl ⟨-1, rfl, rfl, Or.inl ⟨by unfold offOk; omega, rfl, rfl⟩⟩
    · refine G_aload_n dX6_off_28 rfl ?_
      refine G_getI (jj := 36) dX6_off_29 flX6_250 rfl rfl rfl ?_
      refine G_if_le 37 dX6_off_32 (by decide) (fun h32 => ?_) (fun h32 => ?_)
      · have ho : offOk nu w u := by unfold offOk; omega
        exact tail ho (by omega)
      · refine G_iconst (n := (-1)) dX6_off_35 ⟨by decide, by decide⟩ ?_
        exact G_iret dX6_off_36 rfl rfl rfl ⟨-1, rfl, rfl, Or.inl ⟨by unfold offOk; omega, rfl, rfl⟩⟩
end
section
section GY
variable {l : Launch} {μ : MU} {Φ : Option AV → AS → VV → Prop} {c0 s0 : Nat} {S : AS} {pc : Nat} {ls : LL} {st : List AV} {v : VV}
theorem G_iaddW {x y : Int} (z : Int) (hd : decode μ.2.1 pc = .ok (.iadd, 1)) (hz : (Int32.ofInt x + Int32.ofInt y).toInt = z) (k : G l μ Φ c0 s0 S (pc+1) ls (ai z :: st) v) : G l μ Φ c0 s0 S (pc) ls (ai y :: ai x :: st) v := by
  intro p en s m args below meth c H locs D T ea A ad ad0 n0 lsC hC hS
  subst hz
  refine lv_iadd hC.1 hC.2.1 hd ?_
  have k2 := k p en s m args below meth c _ _ D T ea A _ ad0 n0 _ hC (hS.stk fun h => RAs_cons.mpr ⟨iR_of _, (RAs_cons.mp (RAs_cons.mp h).2).2⟩)
  rwa [List.map_cons, show tr ad ea (ai (Int32.ofInt x + Int32.ofInt y).toInt) = .int (Int32.ofInt x + Int32.ofInt y) from congrArg Value.int (Int32.ofInt_toInt _)] at k2
theorem G_isubW {x y : Int} (z : Int) (hd : decode μ.2.1 pc = .ok (.isub, 1)) (hz : (Int32.ofInt x - Int32.ofInt y).toInt = z) (k : G l μ Φ c0 s0 S (pc+1) ls (ai z :: st) v) : G l μ Φ c0 s0 S (pc) ls (ai y :: ai x :: st) v := by
  intro p en s m args below meth c H locs D T ea A ad ad0 n0 lsC hC hS
  subst hz
  refine lv_isub hC.1 hC.2.1 hd ?_
  have k2 := k p en s m args below meth c _ _ D T ea A _ ad0 n0 _ hC (hS.stk fun h => RAs_cons.mpr ⟨iR_of _, (RAs_cons.mp (RAs_cons.mp h).2).2⟩)
  rwa [List.map_cons, show tr ad ea (ai (Int32.ofInt x - Int32.ofInt y).toInt) = .int (Int32.ofInt x - Int32.ofInt y) from congrArg Value.int (Int32.ofInt_toInt _)] at k2
theorem G_ineg {x : Int} (hd : decode μ.2.1 pc = .ok (.ineg, 1)) (hr : iR (-x)) (k : G l μ Φ c0 s0 S (pc+1) ls (ai (-x) :: st) v) : G l μ Φ c0 s0 S (pc) ls (ai x :: st) v := by
  intro p en s m args below meth c H locs D T ea A ad ad0 n0 lsC hC hS
  refine lv_ineg hC.1 hC.2.1 hd ?_
  rw [← Int32.ofInt_neg]
  exact k p en s m args below meth c _ _ D T ea A _ ad0 n0 _ hC (hS.stk fun h => RAs_cons.mpr ⟨hr, (RAs_cons.mp h).2⟩)
theorem G_mabs {idx : Nat} {x : Int} (hd : decode μ.2.1 pc = .ok (.invokestatic idx, 3)) (hm : MS μ.1.cls idx yJ9_abs_0f7a4 cJ9_abs_0f7a4 (some .int) 1 1) (hx : -2147483648 < x ∧ x < 2147483648) (hdp : 1 ≤ μ.2.2.2.2.1) (hrm : Nat.ble (st.map acat).sum 8 = true) (hc : Nat.ble c0 μ.2.2.2.2.2.1 = true) (hs : Nat.ble s0 μ.2.2.2.2.2.2.1 = true) (k : G l μ Φ c0 s0 S (pc+3) ls (ai (if 0 ≤ x then x else -x) :: st) v) : G l μ Φ c0 s0 S (pc) ls (ai x :: st) v := by
  intro p en s m args below meth c H locs D T ea A ad ad0 n0 lsC hC hS
  have hrm := Nat.le_of_ble_eq_true hrm
  have hts := hC.2.2.2.2.2.2.2.1
  have hx9 : iR x := hS.top
  have e : (if 0 ≤ Int32.ofInt x then Int32.ofInt x else 0 - Int32.ofInt x) = Int32.ofInt (if 0 ≤ x then x else -x) := by
    have a : (0 : Int32) ≤ Int32.ofInt x ↔ 0 ≤ x := iR_le iR_0 hx9
    by_cases h : 0 ≤ x
    · rw [if_pos h, if_pos (a.mpr h)]
    · rw [if_neg h, if_neg (fun z => h (a.mp z)), show (0 : Int32) = Int32.ofInt 0 from rfl, ← Int32.ofInt_sub, Int.zero_sub]
  have hr : iR (if 0 ≤ x then x else -x) := by split <;> exact ⟨by omega, by omega⟩
  refine va_mabs hC.1 hC.2.1 (hC.2.2.1.trans hS.lr.1.symm) hC.2.2.2.2.2.2.1 (hts _ hm.1.1) (hts _ hm.1.2.1) (hts _ hm.1.2.2.1) (hts _ hm.1.2.2.2) hdp (by rw [acat_sum]; show _ ≤ 37 * _ + 11; omega) (Nat.le_of_ble_eq_true hc) (Nat.le_of_ble_eq_true hs) hd ?_
  have k2 := k p en s m args below meth c _ _ D T ea A _ ad0 n0 _ hC (hS.stk fun h => RAs_cons.mpr ⟨hr, (RAs_cons.mp h).2⟩)
  rw [e]
  exact k2
theorem G_mmin {idx : Nat} {x y : Int} (hd : decode μ.2.1 pc = .ok (.invokestatic idx, 3)) (hm : MS μ.1.cls idx yJ9_min_7cf53 cJ9_min_7cf53 (some .int) 2 2) (hdp : 1 ≤ μ.2.2.2.2.1) (hrm : Nat.ble (st.map acat).sum 8 = true) (hc : Nat.ble c0 μ.2.2.2.2.2.1 = true) (hs : Nat.ble s0 μ.2.2.2.2.2.2.1 = true) (k : G l μ Φ c0 s0 S (pc+3) ls (ai (if y < x then y else x) :: st) v) : G l μ Φ c0 s0 S (pc) ls (ai y :: ai x :: st) v := by
  intro p en s m args below meth c H locs D T ea A ad ad0 n0 lsC hC hS
  have hrm := Nat.le_of_ble_eq_true hrm
  have hts := hC.2.2.2.2.2.2.2.1
  have hy9 : iR y := hS.top
  have hx9 : iR x := hS.two
  have e : (if Int32.ofInt y < Int32.ofInt x then Int32.ofInt y else Int32.ofInt x) = Int32.ofInt (if y < x then y else x) := by
    have a := iR_lt hy9 hx9
    by_cases h : y < x
    · rw [if_pos h, if_pos (a.mpr h)]
    · rw [if_neg h, if_neg (fun z => h (a.mp z))]
  have hr : iR (if y < x then y else x) := by split; exact hy9; exact hx9
  refine va_mmin hC.1 hC.2.1 (hC.2.2.1.trans hS.lr.1.symm) hC.2.2.2.2.2.2.1 (hts _ hm.1.1) (hts _ hm.1.2.1) (hts _ hm.1.2.2.1) (hts _ hm.1.2.2.2) hdp (by rw [acat_sum]; show _ ≤ 37 * _ + 11; omega) (Nat.le_of_ble_eq_true hc) (Nat.le_of_ble_eq_true hs) hd ?_
  have k2 := k p en s m args below meth c _ _ D T ea A _ ad0 n0 _ hC (hS.stk fun h => RAs_cons.mpr ⟨hr, (RAs_cons.mp (RAs_cons.mp h).2).2⟩)
  rw [e]
  exact k2
theorem G_mmax {idx : Nat} {x y : Int} (hd : decode μ.2.1 pc = .ok (.invokestatic idx, 3)) (hm : MS μ.1.cls idx yJ9_max_7cf53 cJ9_max_7cf53 (some .int) 2 2) (hdp : 1 ≤ μ.2.2.2.2.1) (hrm : Nat.ble (st.map acat).sum 8 = true) (hc : Nat.ble c0 μ.2.2.2.2.2.1 = true) (hs : Nat.ble s0 μ.2.2.2.2.2.2.1 = true) (k : G l μ Φ c0 s0 S (pc+3) ls (ai (if x < y then y else x) :: st) v) : G l μ Φ c0 s0 S (pc) ls (ai y :: ai x :: st) v := by
  intro p en s m args below meth c H locs D T ea A ad ad0 n0 lsC hC hS
  have hrm := Nat.le_of_ble_eq_true hrm
  have hts := hC.2.2.2.2.2.2.2.1
  have hy9 : iR y := hS.top
  have hx9 : iR x := hS.two
  have e : (if Int32.ofInt x < Int32.ofInt y then Int32.ofInt y else Int32.ofInt x) = Int32.ofInt (if x < y then y else x) := by
    have a := iR_lt hx9 hy9
    by_cases h : x < y
    · rw [if_pos h, if_pos (a.mpr h)]
    · rw [if_neg h, if_neg (fun z => h (a.mp z))]
  have hr : iR (if x < y then y else x) := by split; exact hy9; exact hx9
  refine va_mmax hC.1 hC.2.1 (hC.2.2.1.trans hS.lr.1.symm) hC.2.2.2.2.2.2.1 (hts _ hm.1.1) (hts _ hm.1.2.1) (hts _ hm.1.2.2.1) (hts _ hm.1.2.2.2) hdp (by rw [acat_sum]; show _ ≤ 37 * _ + 11; omega) (Nat.le_of_ble_eq_true hc) (Nat.le_of_ble_eq_true hs) hd ?_
  have k2 := k p en s m args below meth c _ _ D T ea A _ ad0 n0 _ hC (hS.stk fun h => RAs_cons.mpr ⟨hr, (RAs_cons.mp (RAs_cons.mp h).2).2⟩)
  rw [e]
  exact k2
end GY
def usI (x : Int32) (k : Int) : Int32 := (x.toUInt32 >>> ((Int32.ofInt k).toUInt32 &&& Int32.toUInt32 31)).toInt32
def bc1 (x : Int32) : Int32 := x - (usI x 1 &&& 1431655765)
def bc2 (x : Int32) : Int32 := (x &&& 858993459) + (usI x 2 &&& 858993459)
def bc3 (x : Int32) : Int32 := (x + usI x 4) &&& 252645135
def bc4 (x : Int32) : Int32 := x + usI x 8
def bc5 (x : Int32) : Int32 := x + usI x 16
def bcI (x : Int) : Int := (bc5 (bc4 (bc3 (bc2 (bc1 (Int32.ofInt x))))) &&& 63).toInt
set_option maxRecDepth 20000 in
set_option maxHeartbeats 1000000 in
theorem c_J6_bitCount_0f7a4 (l : Launch) (d nu : Nat) (v : VV) (x : Int) : Ct l yJ6_bitCount_0f7a4 cJ6_bitCount_0f7a4 (some .int) 1 (d + 0) 0 0 [ai x] (SG nu) v (rI (SG nu) (bcI x) v) := by
  refine Ct_of_G [some (ai x)] (by decide) rfl rfl ?_
  refine G_iload_n dJ6_bitCount_0f7a4_0 rfl ?_
  refine G_iload_n dJ6_bitCount_0f7a4_1 rfl ?_
  refine G_iconst (n := 1) dJ6_bitCount_0f7a4_2 ⟨by decide, by decide⟩ ?_
  refine G_iushr (usI (Int32.ofInt x) 1).toInt dJ6_bitCount_0f7a4_3 rfl ?_
  refine G_ldcw (n := 1431655765) dJ6_bitCount_0f7a4_4 (show Cond.constant RJ6 265 (Int32.ofInt 1431655765) ∈ lw_good by decide +kernel) ⟨by decide, by decide⟩ ?_
  refine G_iand (usI (Int32.ofInt x) 1 &&& 1431655765).toInt dJ6_bitCount_0f7a4_7 (by simp only [Int32.ofInt_toInt]; rfl) ?_
  refine G_isubW (bc1 (Int32.ofInt x)).toInt dJ6_bitCount_0f7a4_8 (by simp only [Int32.ofInt_toInt]; rfl) ?_
  refine G_istore_n dJ6_bitCount_0f7a4_9 rfl rfl ?_
  refine G_iload_n dJ6_bitCount_0f7a4_10 rfl ?_
  refine G_ldcw (n := 858993459) dJ6_bitCount_0f7a4_11 (show Cond.constant RJ6 266 (Int32.ofInt 858993459) ∈ lw_good by decide +kernel) ⟨by decide, by decide⟩ ?_
  refine G_iand ((bc1 (Int32.ofInt x)) &&& 858993459).toInt dJ6_bitCount_0f7a4_14 (by simp only [Int32.ofInt_toInt]; rfl) ?_
  refine G_iload_n dJ6_bitCount_0f7a4_15 rfl ?_
  refine G_iconst (n := 2) dJ6_bitCount_0f7a4_16 ⟨by decide, by decide⟩ ?_
  refine G_iushr (usI (bc1 (Int32.ofInt x)) 2).toInt dJ6_bitCount_0f7a4_17 (by simp only [Int32.ofInt_toInt]; rfl) ?_
  refine G_ldcw (n := 858993459) dJ6_bitCount_0f7a4_18 (show Cond.constant RJ6 266 (Int32.ofInt 858993459) ∈ lw_good by decide +kernel) ⟨by decide, by decide⟩ ?_
  refine G_iand (usI (bc1 (Int32.ofInt x)) 2 &&& 858993459).toInt dJ6_bitCount_0f7a4_21 (by simp only [Int32.ofInt_toInt]; rfl) ?_
  refine G_iaddW (bc2 (bc1 (Int32.ofInt x))).toInt dJ6_bitCount_0f7a4_22 (by simp only [Int32.ofInt_toInt]; rfl) ?_
  refine G_istore_n dJ6_bitCount_0f7a4_23 rfl rfl ?_
  refine G_iload_n dJ6_bitCount_0f7a4_24 rfl ?_
  refine G_iload_n dJ6_bitCount_0f7a4_25 rfl ?_
  refine G_iconst (n := 4) dJ6_bitCount_0f7a4_26 ⟨by decide, by decide⟩ ?_
  refine G_iushr (usI (bc2 (bc1 (Int32.ofInt x))) 4).toInt dJ6_bitCount_0f7a4_27 (by simp only [Int32.ofInt_toInt]; rfl) ?_
  refine G_iaddW ((bc2 (bc1 (Int32.ofInt x))) + usI (bc2 (bc1 (Int32.ofInt x))) 4).toInt dJ6_bitCount_0f7a4_28 (by simp only [Int32.ofInt_toInt]) ?_
  refine G_ldcw (n := 252645135) dJ6_bitCount_0f7a4_29 (show Cond.constant RJ6 267 (Int32.ofInt 252645135) ∈ lw_good by decide +kernel) ⟨by decide, by decide⟩ ?_
  refine G_iand (bc3 (bc2 (bc1 (Int32.ofInt x)))).toInt dJ6_bitCount_0f7a4_32 (by simp only [Int32.ofInt_toInt]; rfl) ?_
  refine G_istore_n dJ6_bitCount_0f7a4_33 rfl rfl ?_
  refine G_iload_n dJ6_bitCount_0f7a4_34 rfl ?_
  refine G_iload_n dJ6_bitCount_0f7a4_35 rfl ?_
  refine G_bipush (n := 8) dJ6_bitCount_0f7a4_36 (by decide) ⟨by decide, by decide⟩ ?_
  refine G_iushr (usI (bc3 (bc2 (bc1 (Int32.ofInt x)))) 8).toInt dJ6_bitCount_0f7a4_38 (by simp only [Int32.ofInt_toInt]; rfl) ?_
  refine G_iaddW (bc4 (bc3 (bc2 (bc1 (Int32.ofInt x))))).toInt dJ6_bitCount_0f7a4_39 (by simp only [Int32.ofInt_toInt]; rfl) ?_
  refine G_istore_n dJ6_bitCount_0f7a4_40 rfl rfl ?_
  refine G_iload_n dJ6_bitCount_0f7a4_41 rfl ?_
  refine G_iload_n dJ6_bitCount_0f7a4_42 rfl ?_
  refine G_bipush (n := 16) dJ6_bitCount_0f7a4_43 (by decide) ⟨by decide, by decide⟩ ?_
  refine G_iushr (usI (bc4 (bc3 (bc2 (bc1 (Int32.ofInt x))))) 16).toInt dJ6_bitCount_0f7a4_45 (by simp only [Int32.ofInt_toInt]; rfl) ?_
  refine G_iaddW (bc5 (bc4 (bc3 (bc2 (bc1 (Int32.ofInt x)))))).toInt dJ6_bitCount_0f7a4_46 (by simp only [Int32.ofInt_toInt]; rfl) ?_
  refine G_istore_n dJ6_bitCount_0f7a4_47 rfl rfl ?_
  refine G_iload_n dJ6_bitCount_0f7a4_48 rfl ?_
  refine G_bipush (n := 63) dJ6_bitCount_0f7a4_49 (by decide) ⟨by decide, by decide⟩ ?_
  refine G_iand (bcI x) dJ6_bitCount_0f7a4_51 (by simp only [Int32.ofInt_toInt]; rfl) ?_
  exact G_iret dJ6_bitCount_0f7a4_52 rfl rfl rfl ⟨rfl, rfl, rfl⟩
end
section
def cIn (v : VV) (n : Nat) (w : Int) : Int := if 0 ≤ w ∧ w ≤ 99 then v (61 + 3 * n) w else 0
set_option maxRecDepth 20000 in
set_option maxHeartbeats 1000000 in
theorem c_X4_isAway (l : Launch) (d nu : Nat) (v : VV) (n : Nat) (hn : n < nu) (w : Int) (hz : ∀ j, v (60 + 3 * n) j = 0 ∨ v (60 + 3 * n) j = 1) : Ct l yX4_isAway cX4_isAway (some .boolean) 2 (d + 0) 0 0 [ar (some (59 + 3 * n)), ai w] (SG nu) v (rI (SG nu) (if 0 ≤ w ∧ w ≤ 99 then v (60 + 3 * n) w else 0) v) := by
  refine Ct_of_G [some (ar (some (59 + 3 * n))), some (ai w)] (by decide) rfl rfl ?_
  refine G_iload_n dX4_isAway_0 rfl ?_
  refine G_if_lt 23 dX4_isAway_1 (by decide) (fun h1 => ?_) (fun h1 => ?_)
  · refine G_iconst (n := 0) dX4_isAway_23 ⟨by decide, by decide⟩ ?_
    exact G_zret dX4_isAway_24 rfl (by omega) rfl rfl ⟨by have := hz w; first | (rw [if_pos (by omega)]; congr 2; omega) | (rw [if_neg (by omega)]), rfl, rfl⟩
  · refine G_iload_n dX4_isAway_4 rfl ?_
    refine G_bipush (n := 99) dX4_isAway_5 (by decide) ⟨by decide, by decide⟩ ?_
    refine G_icmp_gt 23 dX4_isAway_7 (by decide) (fun h7 => ?_) (fun h7 => ?_)
    · refine G_iconst (n := 0) dX4_isAway_23 ⟨by decide, by decide⟩ ?_
      exact G_zret dX4_isAway_24 rfl (by omega) rfl rfl ⟨by have := hz w; first | (rw [if_pos (by omega)]; congr 2; omega) | (rw [if_neg (by omega)]), rfl, rfl⟩
    · refine G_aload_n dX4_isAway_10 rfl ?_
      refine G_getRv (some (60 + 3 * n)) (jj := 9) dX4_isAway_11 flX4_15 rfl (by rw [sh_ump hn]) rfl (rf_away hn) ?_
      refine G_iload_n dX4_isAway_14 rfl ?_
      refine G_zald dX4_isAway_15 (sh_away hn) (by omega) (by omega) ?_
      refine G_if_eq 23 dX4_isAway_16 (by decide) (fun h16 => ?_) (fun h16 => ?_)
      · refine G_iconst (n := 0) dX4_isAway_23 ⟨by decide, by decide⟩ ?_
        exact G_zret dX4_isAway_24 rfl (by omega) rfl rfl ⟨by have := hz w; first | (rw [if_pos (by omega)]; congr 2; omega) | (rw [if_neg (by omega)]), rfl, rfl⟩
      · refine G_iconst (n := 1) dX4_isAway_19 ⟨by decide, by decide⟩ ?_
        refine G_goto 24 dX4_isAway_20 (by decide) ?_
        exact G_zret dX4_isAway_24 rfl (by omega) rfl rfl ⟨by have := hz w; first | (rw [if_pos (by omega)]; congr 2; omega) | (rw [if_neg (by omega)]), rfl, rfl⟩
set_option maxRecDepth 20000 in
set_option maxHeartbeats 1000000 in
theorem c_X4_setAway (l : Launch) (d nu : Nat) (v : VV) (n : Nat) (hn : n < nu) (w b : Int) (hb : b = 0 ∨ b = 1) : Ct l yX4_setAway cX4_setAway (some .boolean) 3 (d + 0) 0 0 [ar (some (59 + 3 * n)), ai w, ai b] (SG nu) v (rI (SG nu) (if (0 ≤ w ∧ w ≤ 99) ∧ v (60 + 3 * n) w ≠ b then 1 else 0) (if (0 ≤ w ∧ w ≤ 99) ∧ v (60 + 3 * n) w ≠ b then up v (60 + 3 * n) w b else v)) := by
  refine Ct_of_G [some (ar (some (59 + 3 * n))), some (ai w), some (ai b)] (by decide) rfl rfl ?_
  refine G_iload_n dX4_setAway_0 rfl ?_
  refine G_if_lt 20 dX4_setAway_1 (by decide) (fun h1 => ?_) (fun h1 => ?_)
  · refine G_iconst (n := 0) dX4_setAway_20 ⟨by decide, by decide⟩ ?_
    exact G_zret dX4_setAway_21 rfl (by omega) rfl rfl ⟨by rw [if_neg (by omega)], rfl, by rw [if_neg (by omega)]⟩
  · refine G_iload_n dX4_setAway_4 rfl ?_
    refine G_bipush (n := 99) dX4_setAway_5 (by decide) ⟨by decide, by decide⟩ ?_
    refine G_icmp_gt 20 dX4_setAway_7 (by decide) (fun h7 => ?_) (fun h7 => ?_)
    · refine G_iconst (n := 0) dX4_setAway_20 ⟨by decide, by decide⟩ ?_
      exact G_zret dX4_setAway_21 rfl (by omega) rfl rfl ⟨by rw [if_neg (by omega)], rfl, by rw [if_neg (by omega)]⟩
    · refine G_aload_n dX4_setAway_10 rfl ?_
      refine G_getRv (some (60 + 3 * n)) (jj := 9) dX4_setAway_11 flX4_15 rfl (by rw [sh_ump hn]) rfl (rf_away hn) ?_
      refine G_iload_n dX4_setAway_14 rfl ?_
      refine G_zald dX4_setAway_15 (sh_away hn) (by omega) (by omega) ?_
      refine G_iload_n dX4_setAway_16 rfl ?_
      refine G_icmp_ne 22 dX4_setAway_17 (by decide) (fun h17 => ?_) (fun h17 => ?_)
      · refine G_aload_n dX4_setAway_22 rfl ?_
        refine G_getRv (some (60 + 3 * n)) (jj := 9) dX4_setAway_23 flX4_15 rfl (by rw [sh_ump hn]) rfl (rf_away hn) ?_
        refine G_iload_n dX4_setAway_26 rfl ?_
        refine G_iload_n dX4_setAway_27 rfl ?_
        refine G_zast dX4_setAway_28 (sh_away hn) (by omega) (by omega) hb ?_
        refine G_iconst (n := 1) dX4_setAway_29 ⟨by decide, by decide⟩ ?_
        exact G_zret dX4_setAway_30 rfl (by omega) rfl rfl ⟨by rw [if_pos (by omega)], rfl, by rw [if_pos (by omega)]⟩
      · refine G_iconst (n := 0) dX4_setAway_20 ⟨by decide, by decide⟩ ?_
        exact G_zret dX4_setAway_21 rfl (by omega) rfl rfl ⟨by rw [if_neg (by omega)], rfl, by rw [if_neg (by omega)]⟩
set_option maxRecDepth 20000 in
set_option maxHeartbeats 1000000 in
theorem c_X4_clubsIn (l : Launch) (d nu : Nat) (v : VV) (n : Nat) (hn : n < nu) (w : Int) : Ct l yX4_clubsIn cX4_clubsIn (some .int) 2 (d + 0) 0 0 [ar (some (59 + 3 * n)), ai w] (SG nu) v (rI (SG nu) (cIn v n w) v) := by
  refine Ct_of_G [some (ar (some (59 + 3 * n))), some (ai w)] (by decide) rfl rfl ?_
  refine G_iload_n dX4_clubsIn_0 rfl ?_
  refine G_if_lt 19 dX4_clubsIn_1 (by decide) (fun h1 => ?_) (fun h1 => ?_)
  · refine G_iconst (n := 0) dX4_clubsIn_19 ⟨by decide, by decide⟩ ?_
    exact G_iret dX4_clubsIn_20 rfl rfl rfl ⟨by unfold cIn; first | (rw [if_pos (by omega)]) | (rw [if_neg (by omega)]), rfl, rfl⟩
  · refine G_iload_n dX4_clubsIn_4 rfl ?_
    refine G_bipush (n := 99) dX4_clubsIn_5 (by decide) ⟨by decide, by decide⟩ ?_
    refine G_icmp_gt 19 dX4_clubsIn_7 (by decide) (fun h7 => ?_) (fun h7 => ?_)
    · refine G_iconst (n := 0) dX4_clubsIn_19 ⟨by decide, by decide⟩ ?_
      exact G_iret dX4_clubsIn_20 rfl rfl rfl ⟨by unfold cIn; first | (rw [if_pos (by omega)]) | (rw [if_neg (by omega)]), rfl, rfl⟩
    · refine G_aload_n dX4_clubsIn_10 rfl ?_
      refine G_getRv (some (61 + 3 * n)) (jj := 10) dX4_clubsIn_11 flX4_19 rfl (by rw [sh_ump hn]) rfl (rf_clubs hn) ?_
      refine G_iload_n dX4_clubsIn_14 rfl ?_
      refine G_iald dX4_clubsIn_15 (sh_clubs hn) (by omega) (by omega) ?_
      refine G_goto 20 dX4_clubsIn_16 (by decide) ?_
      exact G_iret dX4_clubsIn_20 rfl rfl rfl ⟨by unfold cIn; first | (rw [if_pos (by omega)]) | (rw [if_neg (by omega)]), rfl, rfl⟩
set_option maxRecDepth 20000 in
set_option maxHeartbeats 1000000 in
theorem c_X4_stand (l : Launch) (d nu : Nat) (v : VV) (n : Nat) (hn : n < nu) (w c : Int) (hw : 0 ≤ w ∧ w ≤ 99) (h5 : 0 ≤ v (59 + 3 * n) 5 ∧ v (59 + 3 * n) 5 ≤ 1000) : Ct l yX4_stand cX4_stand none 3 (d + 0) 0 0 [ar (some (59 + 3 * n)), ai w, ai c] (SG nu) v (rV (SG nu) (up (up v (61 + 3 * n) w c) (59 + 3 * n) 5 (v (59 + 3 * n) 5 + 1))) := by
  refine Ct_of_G [some (ar (some (59 + 3 * n))), some (ai w), some (ai c)] (by decide) rfl rfl ?_
  refine G_iload_n dX4_stand_0 rfl ?_
  refine G_if_lt 27 dX4_stand_1 (by decide) (fun h1 => by omega) (fun h1 => ?_)
  refine G_iload_n dX4_stand_4 rfl ?_
  refine G_bipush (n := 99) dX4_stand_5 (by decide) ⟨by decide, by decide⟩ ?_
  refine G_icmp_gt 27 dX4_stand_7 (by decide) (fun h7 => by omega) (fun h7 => ?_)
  refine G_aload_n dX4_stand_10 rfl ?_
  refine G_getRv (some (61 + 3 * n)) (jj := 10) dX4_stand_11 flX4_19 rfl (by rw [sh_ump hn]) rfl (rf_clubs hn) ?_
  refine G_iload_n dX4_stand_14 rfl ?_
  refine G_iload_n dX4_stand_15 rfl ?_
  refine G_iast dX4_stand_16 (sh_clubs hn) (by omega) (by omega) ?_
  refine G_aload_n dX4_stand_17 rfl ?_
  refine G_dup_a dX4_stand_18 ?_
  refine G_getIv (v (59 + 3 * n) 5) (jj := 5) dX4_stand_19 flX4_35 rfl (by rw [sh_ump hn]) rfl (by rw [up_ne (by omega)]) ?_
  refine G_iconst (n := 1) dX4_stand_22 ⟨by decide, by decide⟩ ?_
  refine G_iadd dX4_stand_23 (iRm (by omega) (by omega)) ?_
  refine G_putI (jj := 5) dX4_stand_24 flX4_35 rfl rfl (by rw [sh_ump hn]) rfl ?_
  exact G_vret dX4_stand_27 rfl rfl rfl ⟨rfl, rfl, rfl⟩
set_option maxRecDepth 20000 in
set_option maxHeartbeats 1000000 in
theorem c_X4_addMarks (l : Launch) (d nu : Nat) (v : VV) (n : Nat) (hn : n < nu) (q t : Int) (hq : 0 ≤ q ∧ q ≤ 100) (ht : 0 ≤ t ∧ t ≤ 9) (h6 : 0 ≤ v (59 + 3 * n) 6 ∧ v (59 + 3 * n) 6 ≤ 1000) (h7 : 0 ≤ v (59 + 3 * n) 7 ∧ v (59 + 3 * n) 7 ≤ 9000) (h8 : 0 ≤ v (59 + 3 * n) 8 ∧ v (59 + 3 * n) 8 ≤ 900000) : Ct l yX4_addMarks cX4_addMarks none 3 (d + 0) 0 0 [ar (some (59 + 3 * n)), ai q, ai t] (SG nu) v (rV (SG nu) (up (up (up v (59 + 3 * n) 6 (v (59 + 3 * n) 6 + 1)) (59 + 3 * n) 7 (v (59 + 3 * n) 7 + t)) (59 + 3 * n) 8 (v (59 + 3 * n) 8 + q * t))) := by
  refine Ct_of_G [some (ar (some (59 + 3 * n))), some (ai q), some (ai t)] (by decide) rfl rfl ?_
  have hmu := mul_bd hq ht
  refine G_aload_n dX4_addMarks_0 rfl ?_
  refine G_dup_a dX4_addMarks_1 ?_
  refine G_getI (jj := 6) dX4_addMarks_2 flX4_42 rfl (by rw [sh_ump hn]) rfl ?_
  refine G_iconst (n := 1) dX4_addMarks_5 ⟨by decide, by decide⟩ ?_
  refine G_iadd dX4_addMarks_6 (iRm (by omega) (by omega)) ?_
  refine G_putI (jj := 6) dX4_addMarks_7 flX4_42 rfl rfl (by rw [sh_ump hn]) rfl ?_
  refine G_aload_n dX4_addMarks_10 rfl ?_
  refine G_dup_a dX4_addMarks_11 ?_
  refine G_getIv (v (59 + 3 * n) 7) (jj := 7) dX4_addMarks_12 flX4_45 rfl (by rw [sh_ump hn]) rfl (up_nj (by decide)) ?_
  refine G_iload_n dX4_addMarks_15 rfl ?_
  refine G_iadd dX4_addMarks_16 (iRm (by omega) (by omega)) ?_
  refine G_putI (jj := 7) dX4_addMarks_17 flX4_45 rfl rfl (by rw [sh_ump hn]) rfl ?_
  refine G_aload_n dX4_addMarks_20 rfl ?_
  refine G_dup_a dX4_addMarks_21 ?_
  refine G_getIv (v (59 + 3 * n) 8) (jj := 8) dX4_addMarks_22 flX4_48 rfl (by rw [sh_ump hn]) rfl (by rw [up_nj (by decide), up_nj (by decide)]) ?_
  refine G_iload_n dX4_addMarks_25 rfl ?_
  refine G_iload_n dX4_addMarks_26 rfl ?_
  refine G_imul dX4_addMarks_27 (iRm (by omega) (by omega)) ?_
  refine G_iadd dX4_addMarks_28 (iRm (by omega) (by omega)) ?_
  refine G_putI (jj := 8) dX4_addMarks_29 flX4_48 rfl rfl (by rw [sh_ump hn]) rfl ?_
  exact G_vret dX4_addMarks_32 rfl rfl rfl ⟨rfl, rfl, rfl⟩
set_option maxRecDepth 20000 in
set_option maxHeartbeats 1000000 in
theorem c_X4_giveGrade (l : Launch) (d nu : Nat) (v : VV) (n : Nat) (hn : n < nu) (g : Int) : Ct l yX4_giveGrade cX4_giveGrade none 2 (d + 0) 0 0 [ar (some (59 + 3 * n)), ai g] (SG nu) v (rV (SG nu) (up (up (up (up v (59 + 3 * n) 3 g) (59 + 3 * n) 6 0) (59 + 3 * n) 7 0) (59 + 3 * n) 8 0)) := by
  refine Ct_of_G [some (ar (some (59 + 3 * n))), some (ai g)] (by decide) rfl rfl ?_
  refine G_aload_n dX4_giveGrade_0 rfl ?_
  refine G_iload_n dX4_giveGrade_1 rfl ?_
  refine G_putI (jj := 3) dX4_giveGrade_2 flX4_29 rfl rfl (by rw [sh_ump hn]) rfl ?_
  refine G_aload_n dX4_giveGrade_5 rfl ?_
  refine G_iconst (n := 0) dX4_giveGrade_6 ⟨by decide, by decide⟩ ?_
  refine G_putI (jj := 6) dX4_giveGrade_7 flX4_42 rfl rfl (by rw [sh_ump hn]) rfl ?_
  refine G_aload_n dX4_giveGrade_10 rfl ?_
  refine G_iconst (n := 0) dX4_giveGrade_11 ⟨by decide, by decide⟩ ?_
  refine G_putI (jj := 7) dX4_giveGrade_12 flX4_45 rfl rfl (by rw [sh_ump hn]) rfl ?_
  refine G_aload_n dX4_giveGrade_15 rfl ?_
  refine G_iconst (n := 0) dX4_giveGrade_16 ⟨by decide, by decide⟩ ?_
  refine G_putI (jj := 8) dX4_giveGrade_17 flX4_48 rfl rfl (by rw [sh_ump hn]) rfl ?_
  exact G_vret dX4_giveGrade_20 rfl rfl rfl ⟨rfl, rfl, rfl⟩
set_option maxRecDepth 20000 in
set_option maxHeartbeats 1000000 in
theorem c_X4_stoodInAll (l : Launch) (d nu : Nat) (v : VV) (n : Nat) (hn : n < nu) (w k : Int) (hw : 0 ≤ w ∧ w ≤ 99) (hk : 0 ≤ k ∧ k ≤ 9) : Ct l yX4_stoodInAll cX4_stoodInAll (some .boolean) 4 (d + 1) 0 0 [ar (some (59 + 3 * n)), ai w, ai k] (SG nu) v (rI (SG nu) (bP (k ≤ w ∧ ∀ j, w - k ≤ j → j < w → cIn v n j ≠ 0)) v) := by
  refine Ct_of_G [some (ar (some (59 + 3 * n))), some (ai w), some (ai k), none] (by decide) rfl rfl ?_
  have loop : ∀ (N : Nat) (j : Int), j + N = w → k ≤ w → w - k ≤ j → (∀ i, w - k ≤ i → i < j → cIn v n i ≠ 0) → G l (yX4_stoodInAll, cX4_stoodInAll, (some .boolean), 4, (d + 1), 0, 0, none) (rI (SG nu) (bP (k ≤ w ∧ ∀ j, w - k ≤ j → j < w → cIn v n j ≠ 0)) v) 0 0 (SG nu) 11 [some (ar (some (59 + 3 * n))), some (ai w), some (ai k), some (ai j)] [] v := by
    intro N
    induction N using Nat.strongRecOn with
    | ind N ih =>
    intro j h1 hkw h2 hj
    refine G_iload_n dX4_stoodInAll_11 rfl ?_
    refine G_iload_n dX4_stoodInAll_12 rfl ?_
    refine G_icmp_ge 32 dX4_stoodInAll_13 (by decide) (fun h13 => ?_) (fun h13 => ?_)
    · refine G_iconst (n := 1) dX4_stoodInAll_32 ⟨by decide, by decide⟩ ?_
      exact G_zret dX4_stoodInAll_33 rfl (by omega) rfl rfl ⟨congrArg (fun x => some (ai x)) (bP_t ⟨hkw, fun i i1 i2 => hj i i1 (by omega)⟩).symm, rfl, rfl⟩
    · refine G_aload_n dX4_stoodInAll_16 rfl ?_
      refine G_iload_n dX4_stoodInAll_17 rfl ?_
      refine G_cVi (ci := 4) dX4_stoodInAll_18 (by rw [sh_ump hn]) (by decide) rfl (c_X4_clubsIn l (d + 0) nu v n hn j) mcX4_38 rfl rfl (by show _ ≤ d + 1; omega) rfl rfl (Nat.le_refl _) (Nat.le_refl _) ?_
      refine G_if_ne 26 dX4_stoodInAll_21 (by decide) (fun h21 => ?_) (fun h21 => ?_)
      · refine G_iinc dX4_stoodInAll_26 rfl (iRm (by omega) (by omega)) rfl rfl ?_
        refine G_goto 11 dX4_stoodInAll_29 (by decide) ?_
        exact ih (N - 1) (by omega) (j + 1) (by omega) hkw (by omega) (fun i i1 i2 => by by_cases e : i = j; rw [e]; exact h21; exact hj i i1 (by omega))
      · refine G_iconst (n := 0) dX4_stoodInAll_24 ⟨by decide, by decide⟩ ?_
        exact G_zret dX4_stoodInAll_25 rfl (by omega) rfl rfl ⟨congrArg (fun x => some (ai x)) (bP_f (fun h => h.2 j (by omega) (by omega) h21)).symm, rfl, rfl⟩
  refine G_iload_n dX4_stoodInAll_0 rfl ?_
  refine G_iload_n dX4_stoodInAll_1 rfl ?_
  refine G_icmp_ge 7 dX4_stoodInAll_2 (by decide) (fun h2 => ?_) (fun h2 => ?_)
  · refine G_iload_n dX4_stoodInAll_7 rfl ?_
    refine G_iload_n dX4_stoodInAll_8 rfl ?_
    refine G_isub dX4_stoodInAll_9 (iRm (by omega) (by omega)) ?_
    refine G_istore_n dX4_stoodInAll_10 rfl rfl ?_
    exact loop k.toNat (w - k) (by omega) (by omega) (by omega) (fun j j1 j2 => by omega)
  · refine G_iconst (n := 0) dX4_stoodInAll_5 ⟨by decide, by decide⟩ ?_
    exact G_zret dX4_stoodInAll_6 rfl (by omega) rfl rfl ⟨congrArg (fun x => some (ai x)) (bP_f (fun h => by omega)).symm, rfl, rfl⟩
set_option maxRecDepth 20000 in
set_option maxHeartbeats 1000000 in
theorem c_X4_stoodWith (l : Launch) (d nu : Nat) (v : VV) (n : Nat) (hn : n < nu) (c w k : Int) (hw : 0 ≤ w ∧ w ≤ 99) (hk : 0 ≤ k ∧ k ≤ 9) : Ct l yX4_stoodWith cX4_stoodWith (some .boolean) 5 (d + 1) 0 0 [ar (some (59 + 3 * n)), ai c, ai w, ai k] (SG nu) v (rI (SG nu) (bP (∃ j, w - k ≤ j ∧ j < w ∧ bandI (cIn v n j) c ≠ 0)) v) := by
  refine Ct_of_G [some (ar (some (59 + 3 * n))), some (ai c), some (ai w), some (ai k), none] (by decide) rfl rfl ?_
  have loop : ∀ (N : Nat) (j : Int), j + N = w → w - k ≤ j → (∀ i, w - k ≤ i → i < j → bandI (cIn v n i) c = 0) → G l (yX4_stoodWith, cX4_stoodWith, (some .boolean), 5, (d + 1), 0, 0, none) (rI (SG nu) (bP (∃ j, w - k ≤ j ∧ j < w ∧ bandI (cIn v n j) c ≠ 0)) v) 0 0 (SG nu) 5 [some (ar (some (59 + 3 * n))), some (ai c), some (ai w), some (ai k), some (ai j)] [] v := by
    intro N
    induction N using Nat.strongRecOn with
    | ind N ih =>
    intro j h1 h2 hj
    refine G_iload dX4_stoodWith_5 rfl ?_
    refine G_iload_n dX4_stoodWith_7 rfl ?_
    refine G_icmp_ge 30 dX4_stoodWith_8 (by decide) (fun h8 => ?_) (fun h8 => ?_)
    · refine G_iconst (n := 0) dX4_stoodWith_30 ⟨by decide, by decide⟩ ?_
      exact G_zret dX4_stoodWith_31 rfl (by omega) rfl rfl ⟨congrArg (fun x => some (ai x)) (bP_f (fun ⟨i, i1, i2, i3⟩ => i3 (hj i i1 (by omega)))).symm, rfl, rfl⟩
    · refine G_aload_n dX4_stoodWith_11 rfl ?_
      refine G_iload dX4_stoodWith_12 rfl ?_
      refine G_cVi (ci := 4) dX4_stoodWith_14 (by rw [sh_ump hn]) (by decide) rfl (c_X4_clubsIn l (d + 0) nu v n hn j) mcX4_38 rfl rfl (by show _ ≤ d + 1; omega) rfl rfl (Nat.le_refl _) (Nat.le_refl _) ?_
      refine G_iload_n dX4_stoodWith_17 rfl ?_
      refine G_iand (bandI (cIn v n j) c) dX4_stoodWith_18 rfl ?_
      refine G_if_eq 24 dX4_stoodWith_19 (by decide) (fun h19 => ?_) (fun h19 => ?_)
      · refine G_iinc dX4_stoodWith_24 rfl (iRm (by omega) (by omega)) rfl rfl ?_
        refine G_goto 5 dX4_stoodWith_27 (by decide) ?_
        exact ih (N - 1) (by omega) (j + 1) (by omega) (by omega) (fun i i1 i2 => by by_cases e : i = j; rw [e]; exact h19; exact hj i i1 (by omega))
      · refine G_iconst (n := 1) dX4_stoodWith_22 ⟨by decide, by decide⟩ ?_
        exact G_zret dX4_stoodWith_23 rfl (by omega) rfl rfl ⟨congrArg (fun x => some (ai x)) (bP_t ⟨j, by omega, by omega, h19⟩).symm, rfl, rfl⟩
  refine G_iload_n dX4_stoodWith_0 rfl ?_
  refine G_iload_n dX4_stoodWith_1 rfl ?_
  refine G_isub dX4_stoodWith_2 (iRm (by omega) (by omega)) ?_
  refine G_istore dX4_stoodWith_3 rfl rfl ?_
  exact loop k.toNat (w - k) (by omega) (by omega) (fun j j1 j2 => by omega)
theorem sh_game {nu g : Nat} (h : g < 8) : (SG nu).2.1 (8 + g) = (16, 0) := by
  match g, h with
  | 0, _ => rfl
  | 1, _ => rfl
  | 2, _ => rfl
  | 3, _ => rfl
  | 4, _ => rfl
  | 5, _ => rfl
  | 6, _ => rfl
  | 7, _ => rfl
def absS (a b : Int) : Int := if 0 ≤ a - b then a - b else -(a - b)
theorem absS_less (a b : Int) : absS b a = lessS a b := by unfold absS lessS; split <;> split <;> omega
set_option maxRecDepth 20000 in
set_option maxHeartbeats 1000000 in
theorem c_X0_set (l : Launch) (d nu : Nat) (v : VV) (g : Nat) (hg : g < 8) (x y c e : Int) : Ct l yX0_set cX0_set none 5 (d + 0) 0 0 [ar (some (8 + g)), ai x, ai y, ai c, ai e] (SG nu) v (rV (SG nu) (up (up (up (up v (8 + g) 0 x) (8 + g) 1 y) (8 + g) 2 c) (8 + g) 3 e)) := by
  refine Ct_of_G [some (ar (some (8 + g))), some (ai x), some (ai y), some (ai c), some (ai e)] (by decide) rfl rfl ?_
  refine G_aload_n dX0_set_0 rfl ?_
  refine G_iload_n dX0_set_1 rfl ?_
  refine G_putI (jj := 0) dX0_set_2 flX0_7 rfl rfl (by rw [sh_game hg]) rfl ?_
  refine G_aload_n dX0_set_5 rfl ?_
  refine G_iload_n dX0_set_6 rfl ?_
  refine G_putI (jj := 1) dX0_set_7 flX0_13 rfl rfl (by rw [sh_game hg]) rfl ?_
  refine G_aload_n dX0_set_10 rfl ?_
  refine G_iload_n dX0_set_11 rfl ?_
  refine G_putI (jj := 2) dX0_set_12 flX0_16 rfl rfl (by rw [sh_game hg]) rfl ?_
  refine G_aload_n dX0_set_15 rfl ?_
  refine G_iload dX0_set_16 rfl ?_
  refine G_putI (jj := 3) dX0_set_18 flX0_19 rfl rfl (by rw [sh_game hg]) rfl ?_
  exact G_vret dX0_set_21 rfl rfl rfl ⟨rfl, rfl, rfl⟩
set_option maxRecDepth 20000 in
set_option maxHeartbeats 1000000 in
theorem c_X0_milesTo (l : Launch) (d nu : Nat) (v : VV) (g : Nat) (hg : g < 8) (n : Nat) (hn : n < nu) (h1 : 0 ≤ v (8 + g) 0 ∧ v (8 + g) 0 ≤ 99) (h2 : 0 ≤ v (8 + g) 1 ∧ v (8 + g) 1 ≤ 99) (h3 : 0 ≤ v (59 + 3 * n) 0 ∧ v (59 + 3 * n) 0 ≤ 99) (h4 : 0 ≤ v (59 + 3 * n) 1 ∧ v (59 + 3 * n) 1 ≤ 99) : Ct l yX0_milesTo cX0_milesTo (some .int) 2 (d + 1) 0 0 [ar (some (8 + g)), ar (some (59 + 3 * n))] (SG nu) v (rI (SG nu) (absS (v (8 + g) 0) (v (59 + 3 * n) 0) + absS (v (8 + g) 1) (v (59 + 3 * n) 1)) v) := by
  refine Ct_of_G [some (ar (some (8 + g))), some (ar (some (59 + 3 * n)))] (by decide) rfl rfl ?_
  refine G_aload_n dX0_milesTo_0 rfl ?_
  refine G_getI (jj := 0) dX0_milesTo_1 flX0_7 rfl (by rw [sh_game hg]) rfl ?_
  refine G_aload_n dX0_milesTo_4 rfl ?_
  refine G_getI (jj := 0) dX0_milesTo_5 flX0_22 rfl (by rw [sh_ump hn]) rfl ?_
  refine G_isub dX0_milesTo_8 (iRm (by omega) (by omega)) ?_
  refine G_mabs dX0_milesTo_9 mcX0_25 (by omega) (by show 1 ≤ d + _; omega) rfl rfl rfl ?_
  refine G_aload_n dX0_milesTo_12 rfl ?_
  refine G_getI (jj := 1) dX0_milesTo_13 flX0_13 rfl (by rw [sh_game hg]) rfl ?_
  refine G_aload_n dX0_milesTo_16 rfl ?_
  refine G_getI (jj := 1) dX0_milesTo_17 flX0_31 rfl (by rw [sh_ump hn]) rfl ?_
  refine G_isub dX0_milesTo_20 (iRm (by omega) (by omega)) ?_
  refine G_mabs dX0_milesTo_21 mcX0_25 (by omega) (by show 1 ≤ d + _; omega) rfl rfl rfl ?_
  refine G_iadd dX0_milesTo_24 (iRm (by omega) (by omega)) ?_
  exact G_iret dX0_milesTo_25 rfl rfl rfl ⟨rfl, rfl, rfl⟩
end
section
/-! THE SIMULATION: the board's cells of v against the model's cells of z -/
def SC (nu : Nat) (v z : VV) : Prop := v 0 6 = nu ∧ v 0 7 = z 27 34 ∧ v 0 8 = z 27 35
def SU (nu : Nat) (v z : VV) : Prop := ∀ n : Nat, n < nu → v (59 + 3 * n) 0 = z 34 n ∧ v (59 + 3 * n) 1 = z 35 n ∧ v (59 + 3 * n) 2 = z 37 n ∧ v (59 + 3 * n) 3 = z 36 n ∧ v (59 + 3 * n) 5 = z 41 n ∧ v (59 + 3 * n) 6 = z 38 n ∧ v (59 + 3 * n) 7 = z 39 n ∧ v (59 + 3 * n) 8 = z 40 n
def SW (nu : Nat) (v z : VV) : Prop := ∀ n : Nat, n < nu → ∀ w : Int, 0 ≤ w → w ≤ 99 → v (60 + 3 * n) w = z 43 (100 * n + w) ∧ v (61 + 3 * n) w = z 42 (100 * n + w)
def SX (v z : VV) : Prop := ∀ g : Nat, (g : Int) < z 27 34 → v (8 + g) 0 = z 44 g ∧ v (8 + g) 1 = z 45 g ∧ v (8 + g) 2 = z 46 g ∧ v (8 + g) 3 = z 47 g
def INJ (z : VV) : Prop := ∀ s t : Int, 0 ≤ s → s < 2 * z 27 34 → 0 ≤ t → t < 2 * z 27 34 → z 48 s = z 48 t → z 48 s ≠ -1 → s = t
def SH (nu : Nat) (v z : VV) : Prop := (∀ s : Int, 0 ≤ s → s < 16 → v 16 s = if s < 2 * z 27 34 then z 48 s else -1) ∧ (∀ n : Nat, n < nu → v (59 + 3 * n) 4 = seatOfS z n) ∧ INJ z
def SR (v z : VV) : Prop := ∀ k : Int, 0 ≤ k → k < 9 → v 4 k = z 29 k
def ST (v z : VV) : Prop := v 3 5 = z 27 13 ∧ v 1 1 = z 27 2 ∧ (0 ≤ z 27 2 ∧ z 27 2 ≤ 180) ∧ ∀ i : Int, 0 ≤ i → i < z 27 2 → (0 ≤ z 28 i ∧ z 28 i ≤ 255) ∧ v 2 i = if z 28 i < 128 then z 28 i else z 28 i - 256
/-- the bits of the MARKS given -/
def gvN (v : VV) : Nat := (Int32.ofInt (v 0 9)).toBitVec.toNat
def bitct (x : Nat) : Nat → Nat
  | 0 => 0
  | n + 1 => bitct x n + (if x.testBit n then 1 else 0)
def SK (v z : VV) : Prop := (∀ s : Int, 0 ≤ s → s < 2 * z 27 34 → ∀ c : Int, 0 ≤ c → c ≤ 1 → ((gvN v).testBit (2 * s + c).toNat = true ↔ bandI (shrI (z 49 s) c) 1 = 1)) ∧ (∀ i : Nat, 4 * z 27 34 ≤ i → (gvN v).testBit i = false) ∧ z 27 36 = bitct (gvN v) 32
def Simx (nu : Nat) (b : Int) (v z : VV) : Prop := MBx nu b z ∧ SC nu v z ∧ SU nu v z ∧ SW nu v z ∧ SX v z ∧ SH nu v z ∧ SR v z ∧ ST v z ∧ SK v z
def Sim (nu : Nat) (v z : VV) : Prop := Simx nu (z 27 35) v z
theorem seat_at {z : VV} (hi : INJ z) (hg : 0 ≤ z 27 34) {s u : Int} (h0 : 0 ≤ s) (h1 : s < 2 * z 27 34) (hu : u ≠ -1) (h : z 48 s = u) : seatOfS z u = s := by
  rcases seatOf_spec (v := z) u hg with ⟨-, h3⟩ | ⟨h3, h4, h5, -⟩
  · exact absurd h (h3 s h0 h1)
  · exact (hi s _ h0 h1 h3 h4 (h.trans h5.symm) (by rw [h]; exact hu)).symm
theorem seat_no {z : VV} (hg : 0 ≤ z 27 34) {u : Int} (h : ∀ s, 0 ≤ s → s < 2 * z 27 34 → z 48 s ≠ u) : seatOfS z u = -1 := by
  rcases seatOf_spec (v := z) u hg with ⟨h3, -⟩ | ⟨h3, h4, h5, -⟩
  · exact h3
  · exact absurd h5 (h _ h3 h4)
theorem bandI_0 (c : Int) : bandI 0 c = 0 := by
  unfold bandI
  rw [show (Int32.ofInt 0 &&& Int32.ofInt c) = 0 from by rw [show Int32.ofInt 0 = 0 from rfl, Int32.zero_and]]
  rfl
theorem cIn_z {nu : Nat} {v z : VV} (h : SW nu v z) {n : Nat} (hn : n < nu) {w : Int} (h0 : 0 ≤ w) (h1 : w ≤ 99) : cIn v n w = z 42 (100 * n + w) := by
  unfold cIn
  rw [if_pos ⟨h0, h1⟩]
  exact (h n hn w h0 h1).2
theorem row_iff {nu : Nat} {v z : VV} (h : Sim nu v z) {n : Nat} (hn : n < nu) : (z 29 0 ≤ z 27 35 ∧ ∀ j, z 27 35 - z 29 0 ≤ j → j < z 27 35 → cIn v n j ≠ 0) ↔ rowP z n := by
  have hw := h.1.2.2.1
  have hr := h.1.2.2.2.1.1
  constructor
  · rintro ⟨h1, h2⟩
    refine ⟨h1, fun r r0 r1 => ?_⟩
    have a := h2 (z 27 35 - 1 - r) (by omega) (by omega)
    rw [cIn_z h.2.2.2.1 hn (by omega) (by omega)] at a
    rw [show 100 * (n : Int) + z 27 35 - 1 - r = 100 * n + (z 27 35 - 1 - r) by omega]
    exact a
  · rintro ⟨h1, h2⟩
    refine ⟨h1, fun j j0 j1 => ?_⟩
    have a := h2 (z 27 35 - 1 - j) (by omega) (by omega)
    rw [cIn_z h.2.2.2.1 hn (by omega) (by omega)]
    rw [show 100 * (n : Int) + z 27 35 - 1 - (z 27 35 - 1 - j) = 100 * n + j by omega] at a
    exact a
theorem again_iff {nu : Nat} {v z : VV} (h : Sim nu v z) {n : Nat} (hn : n < nu) {s : Int} : (∃ j, z 27 35 - z 29 1 ≤ j ∧ j < z 27 35 ∧ bandI (cIn v n j) (z 46 (s / 2)) ≠ 0) ↔ againP z n s := by
  have hw := h.1.2.2.1
  have hr := h.1.2.2.2.1.2.1
  constructor
  · rintro ⟨j, h1, h2, h3⟩
    have h0 : 0 ≤ j := by
      by_cases q : j < 0
      · exfalso
        apply h3
        unfold cIn
        rw [if_neg (by omega), bandI_0]
      · omega
    rw [cIn_z h.2.2.2.1 hn h0 (by omega)] at h3
    refine ⟨z 27 35 - j, by omega, by omega, by omega, ?_⟩
    rw [show 100 * (n : Int) + z 27 35 - (z 27 35 - j) = 100 * n + j by omega]
    exact h3
  · rintro ⟨k, h1, h2, h3, h4⟩
    refine ⟨z 27 35 - k, by omega, by omega, ?_⟩
    rw [cIn_z h.2.2.2.1 hn (by omega) (by omega), show 100 * (n : Int) + (z 27 35 - k) = 100 * n + z 27 35 - k by omega]
    exact h4
/-- who sits there: nobody, or an UMPIRE's number -/
def hold (v : VV) (nu : Nat) (s : Int) : Option Nat := if (0 ≤ s ∧ s < 2 * v 0 7) ∧ (0 ≤ v 16 s ∧ v 16 s < nu) then some (59 + 3 * (v 16 s).toNat) else none
set_option maxRecDepth 20000 in
set_option maxHeartbeats 1000000 in
theorem c_X5_isPlace (l : Launch) (d nu : Nat) (v : VV) (x y : Int) : Ct l yX5_isPlace cX5_isPlace (some .boolean) 2 (d + 0) 0 0 [ai x, ai y] (SG nu) v (rI (SG nu) (if (0 ≤ x ∧ x ≤ 99) ∧ (0 ≤ y ∧ y ≤ 99) then 1 else 0) v) := by
  refine Ct_of_G [some (ai x), some (ai y)] (by decide) rfl rfl ?_
  refine G_iload_n dX5_isPlace_0 rfl ?_
  refine G_if_lt 24 dX5_isPlace_1 (by decide) (fun h1 => ?_) (fun h1 => ?_)
  · refine G_iconst (n := 0) dX5_isPlace_24 ⟨by decide, by decide⟩ ?_
    exact G_zret dX5_isPlace_25 rfl (by omega) rfl rfl ⟨by first | (rw [if_pos (by omega)]) | (rw [if_neg (by omega)]), rfl, rfl⟩
  · refine G_iload_n dX5_isPlace_4 rfl ?_
    refine G_bipush (n := 99) dX5_isPlace_5 (by decide) ⟨by decide, by decide⟩ ?_
    refine G_icmp_gt 24 dX5_isPlace_7 (by decide) (fun h7 => ?_) (fun h7 => ?_)
    · refine G_iconst (n := 0) dX5_isPlace_24 ⟨by decide, by decide⟩ ?_
      exact G_zret dX5_isPlace_25 rfl (by omega) rfl rfl ⟨by first | (rw [if_pos (by omega)]) | (rw [if_neg (by omega)]), rfl, rfl⟩
    · refine G_iload_n dX5_isPlace_10 rfl ?_
      refine G_if_lt 24 dX5_isPlace_11 (by decide) (fun h11 => ?_) (fun h11 => ?_)
      · refine G_iconst (n := 0) dX5_isPlace_24 ⟨by decide, by decide⟩ ?_
        exact G_zret dX5_isPlace_25 rfl (by omega) rfl rfl ⟨by first | (rw [if_pos (by omega)]) | (rw [if_neg (by omega)]), rfl, rfl⟩
      · refine G_iload_n dX5_isPlace_14 rfl ?_
        refine G_bipush (n := 99) dX5_isPlace_15 (by decide) ⟨by decide, by decide⟩ ?_
        refine G_icmp_gt 24 dX5_isPlace_17 (by decide) (fun h17 => ?_) (fun h17 => ?_)
        · refine G_iconst (n := 0) dX5_isPlace_24 ⟨by decide, by decide⟩ ?_
          exact G_zret dX5_isPlace_25 rfl (by omega) rfl rfl ⟨by first | (rw [if_pos (by omega)]) | (rw [if_neg (by omega)]), rfl, rfl⟩
        · refine G_iconst (n := 1) dX5_isPlace_20 ⟨by decide, by decide⟩ ?_
          refine G_goto 25 dX5_isPlace_21 (by decide) ?_
          exact G_zret dX5_isPlace_25 rfl (by omega) rfl rfl ⟨by first | (rw [if_pos (by omega)]) | (rw [if_neg (by omega)]), rfl, rfl⟩
set_option maxRecDepth 20000 in
set_option maxHeartbeats 1000000 in
theorem c_X5_isGrade (l : Launch) (d nu : Nat) (v : VV) (x : Int) : Ct l yX5_isGrade cX5_isGrade (some .boolean) 1 (d + 0) 0 0 [ai x] (SG nu) v (rI (SG nu) (if 1 ≤ x ∧ x ≤ 4 then 1 else 0) v) := by
  refine Ct_of_G [some (ai x)] (by decide) rfl rfl ?_
  refine G_iload_n dX5_isGrade_0 rfl ?_
  refine G_iconst (n := 1) dX5_isGrade_1 ⟨by decide, by decide⟩ ?_
  refine G_icmp_lt 14 dX5_isGrade_2 (by decide) (fun h2 => ?_) (fun h2 => ?_)
  · refine G_iconst (n := 0) dX5_isGrade_14 ⟨by decide, by decide⟩ ?_
    exact G_zret dX5_isGrade_15 rfl (by omega) rfl rfl ⟨by first | (rw [if_pos (by omega)]) | (rw [if_neg (by omega)]), rfl, rfl⟩
  · refine G_iload_n dX5_isGrade_5 rfl ?_
    refine G_iconst (n := 4) dX5_isGrade_6 ⟨by decide, by decide⟩ ?_
    refine G_icmp_gt 14 dX5_isGrade_7 (by decide) (fun h7 => ?_) (fun h7 => ?_)
    · refine G_iconst (n := 0) dX5_isGrade_14 ⟨by decide, by decide⟩ ?_
      exact G_zret dX5_isGrade_15 rfl (by omega) rfl rfl ⟨by first | (rw [if_pos (by omega)]) | (rw [if_neg (by omega)]), rfl, rfl⟩
    · refine G_iconst (n := 1) dX5_isGrade_10 ⟨by decide, by decide⟩ ?_
      refine G_goto 15 dX5_isGrade_11 (by decide) ?_
      exact G_zret dX5_isGrade_15 rfl (by omega) rfl rfl ⟨by first | (rw [if_pos (by omega)]) | (rw [if_neg (by omega)]), rfl, rfl⟩
set_option maxRecDepth 20000 in
set_option maxHeartbeats 1000000 in
theorem c_X5_isClub (l : Launch) (d nu : Nat) (v : VV) (x : Int) : Ct l yX5_isClub cX5_isClub (some .boolean) 1 (d + 0) 0 0 [ai x] (SG nu) v (rI (SG nu) (if 0 ≤ x ∧ x ≤ 11 then 1 else 0) v) := by
  refine Ct_of_G [some (ai x)] (by decide) rfl rfl ?_
  refine G_iload_n dX5_isClub_0 rfl ?_
  refine G_if_lt 14 dX5_isClub_1 (by decide) (fun h1 => ?_) (fun h1 => ?_)
  · refine G_iconst (n := 0) dX5_isClub_14 ⟨by decide, by decide⟩ ?_
    exact G_zret dX5_isClub_15 rfl (by omega) rfl rfl ⟨by first | (rw [if_pos (by omega)]) | (rw [if_neg (by omega)]), rfl, rfl⟩
  · refine G_iload_n dX5_isClub_4 rfl ?_
    refine G_bipush (n := 12) dX5_isClub_5 (by decide) ⟨by decide, by decide⟩ ?_
    refine G_icmp_ge 14 dX5_isClub_7 (by decide) (fun h7 => ?_) (fun h7 => ?_)
    · refine G_iconst (n := 0) dX5_isClub_14 ⟨by decide, by decide⟩ ?_
      exact G_zret dX5_isClub_15 rfl (by omega) rfl rfl ⟨by first | (rw [if_pos (by omega)]) | (rw [if_neg (by omega)]), rfl, rfl⟩
    · refine G_iconst (n := 1) dX5_isClub_10 ⟨by decide, by decide⟩ ?_
      refine G_goto 15 dX5_isClub_11 (by decide) ?_
      exact G_zret dX5_isClub_15 rfl (by omega) rfl rfl ⟨by first | (rw [if_pos (by omega)]) | (rw [if_neg (by omega)]), rfl, rfl⟩
set_option maxRecDepth 20000 in
set_option maxHeartbeats 1000000 in
theorem c_X5_isSeat (l : Launch) (d nu : Nat) (v : VV) (hg : 0 ≤ v 0 7 ∧ v 0 7 ≤ 8) (s : Int) : Ct l yX5_isSeat cX5_isSeat (some .boolean) 2 (d + 0) 0 0 [ar (some 0), ai s] (SG nu) v (rI (SG nu) (if 0 ≤ s ∧ s < 2 * v 0 7 then 1 else 0) v) := by
  refine Ct_of_G [some (ar (some 0)), some (ai s)] (by decide) rfl rfl ?_
  refine G_iload_n dX5_isSeat_0 rfl ?_
  refine G_if_lt 24 dX5_isSeat_1 (by decide) (fun h1 => ?_) (fun h1 => ?_)
  · refine G_iconst (n := 0) dX5_isSeat_24 ⟨by decide, by decide⟩ ?_
    exact G_zret dX5_isSeat_25 rfl (by omega) rfl rfl ⟨by first | (rw [if_pos (by omega)]) | (rw [if_neg (by omega)]), rfl, rfl⟩
  · refine G_iload_n dX5_isSeat_4 rfl ?_
    refine G_iconst (n := 2) dX5_isSeat_5 ⟨by decide, by decide⟩ ?_
    refine G_aload_n dX5_isSeat_6 rfl ?_
    refine G_getI (jj := 7) dX5_isSeat_7 flX5_101 rfl rfl rfl ?_
    refine G_imul dX5_isSeat_10 (iRm (by omega) (by omega)) ?_
    refine G_icmp_ge 24 dX5_isSeat_11 (by decide) (fun h11 => ?_) (fun h11 => ?_)
    · refine G_iconst (n := 0) dX5_isSeat_24 ⟨by decide, by decide⟩ ?_
      exact G_zret dX5_isSeat_25 rfl (by omega) rfl rfl ⟨by first | (rw [if_pos (by omega)]) | (rw [if_neg (by omega)]), rfl, rfl⟩
    · refine G_iload_n dX5_isSeat_14 rfl ?_
      refine G_bipush (n := 16) dX5_isSeat_15 (by decide) ⟨by decide, by decide⟩ ?_
      refine G_icmp_ge 24 dX5_isSeat_17 (by decide) (fun h17 => by omega) (fun h17 => ?_)
      refine G_iconst (n := 1) dX5_isSeat_20 ⟨by decide, by decide⟩ ?_
      refine G_goto 25 dX5_isSeat_21 (by decide) ?_
      exact G_zret dX5_isSeat_25 rfl (by omega) rfl rfl ⟨by first | (rw [if_pos (by omega)]) | (rw [if_neg (by omega)]), rfl, rfl⟩
set_option maxRecDepth 20000 in
set_option maxHeartbeats 1000000 in
theorem c_X5_umpireAt (l : Launch) (d nu : Nat) (v : VV) (hu : v 0 6 = nu ∧ nu ≤ 20) (u : Int) : Ct l yX5_umpireAt cX5_umpireAt (some (.object "WicketBoard$Umpire")) 2 (d + 0) 0 0 [ar (some 0), ai u] (SG nu) v (rA (SG nu) (if 0 ≤ u ∧ u < nu then some (59 + 3 * u.toNat) else none) v) := by
  refine Ct_of_G [some (ar (some 0)), some (ai u)] (by decide) rfl rfl ?_
  refine G_iload_n dX5_umpireAt_0 rfl ?_
  refine G_if_lt 27 dX5_umpireAt_1 (by decide) (fun h1 => ?_) (fun h1 => ?_)
  · refine G_null dX5_umpireAt_27 ?_
    exact G_aret dX5_umpireAt_28 rfl (Or.inl ⟨_, rfl⟩) rfl rfl ⟨by first | (rw [if_pos (by omega)]) | (rw [if_neg (by omega)]), rfl, rfl⟩
  · refine G_iload_n dX5_umpireAt_4 rfl ?_
    refine G_aload_n dX5_umpireAt_5 rfl ?_
    refine G_getI (jj := 6) dX5_umpireAt_6 flX5_73 rfl rfl rfl ?_
    refine G_icmp_ge 27 dX5_umpireAt_9 (by decide) (fun h9 => ?_) (fun h9 => ?_)
    · refine G_null dX5_umpireAt_27 ?_
      exact G_aret dX5_umpireAt_28 rfl (Or.inl ⟨_, rfl⟩) rfl rfl ⟨by first | (rw [if_pos (by omega)]) | (rw [if_neg (by omega)]), rfl, rfl⟩
    · refine G_iload_n dX5_umpireAt_12 rfl ?_
      refine G_bipush (n := 20) dX5_umpireAt_13 (by decide) ⟨by decide, by decide⟩ ?_
      refine G_icmp_ge 27 dX5_umpireAt_15 (by decide) (fun h15 => by omega) (fun h15 => ?_)
      refine G_aload_n dX5_umpireAt_18 rfl ?_
      refine G_getR (jj := 2) dX5_umpireAt_19 flX5_25 rfl rfl rfl ?_
      refine G_iload_n dX5_umpireAt_22 rfl ?_
      refine G_aaldv (some (59 + 3 * u.toNat)) dX5_umpireAt_23 rfl (by omega) (by omega) (Or.inl ⟨rfl, rfl⟩) (rf_ump (by omega) (by omega)) ?_
      refine G_goto 28 dX5_umpireAt_24 (by decide) ?_
      exact G_aret dX5_umpireAt_28 rfl (Or.inl ⟨_, rfl⟩) rfl rfl ⟨by first | (rw [if_pos (by omega)]) | (rw [if_neg (by omega)]), rfl, rfl⟩
set_option maxRecDepth 20000 in
set_option maxHeartbeats 1000000 in
theorem c_X5_holderOf (l : Launch) (d nu : Nat) (v : VV) (hu : v 0 6 = nu ∧ nu ≤ 20) (hg : 0 ≤ v 0 7 ∧ v 0 7 ≤ 8) (s : Int) : Ct l yX5_holderOf cX5_holderOf (some (.object "WicketBoard$Umpire")) 2 (d + 1) 0 0 [ar (some 0), ai s] (SG nu) v (rA (SG nu) (hold v nu s) v) := by
  refine Ct_of_G [some (ar (some 0)), some (ai s)] (by decide) rfl rfl ?_
  refine G_aload_n dX5_holderOf_0 rfl ?_
  refine G_iload_n dX5_holderOf_1 rfl ?_
  refine G_cVi (ci := 5) dX5_holderOf_2 rfl (by decide) rfl (c_X5_isSeat l (d + 0) nu v hg s) mcX5_150 rfl rfl (by show _ ≤ d + 1; omega) rfl rfl (Nat.le_refl _) (Nat.le_refl _) ?_
  refine G_if_eq 21 dX5_holderOf_5 (by decide) (fun h5 => ?_) (fun h5 => ?_)
  · refine G_null dX5_holderOf_21 ?_
    exact G_aret dX5_holderOf_22 rfl (Or.inl ⟨_, rfl⟩) rfl rfl ⟨by unfold hold; first | (rw [if_neg (by omega)]) | (simp [show 0 ≤ s ∧ s < 2 * v 0 7 by omega]), rfl, rfl⟩
  · refine G_aload_n dX5_holderOf_8 rfl ?_
    refine G_aload_n dX5_holderOf_9 rfl ?_
    refine G_getR (jj := 4) dX5_holderOf_10 flX5_36 rfl rfl rfl ?_
    refine G_iload_n dX5_holderOf_13 rfl ?_
    refine G_iald dX5_holderOf_14 rfl (by omega) (by omega) ?_
    refine G_cVa (ci := 5) dX5_holderOf_15 rfl (by decide) rfl (c_X5_umpireAt l (d + 0) nu v hu (v 16 s)) mcX5_87 rfl rfl (by show _ ≤ d + 1; omega) rfl rfl (Nat.le_refl _) (Nat.le_refl _) ?_
    refine G_goto 22 dX5_holderOf_18 (by decide) ?_
    exact G_aret dX5_holderOf_22 rfl (Or.inl ⟨_, rfl⟩) rfl rfl ⟨by unfold hold; first | (rw [if_neg (by omega)]) | (simp [show 0 ≤ s ∧ s < 2 * v 0 7 by omega]), rfl, rfl⟩
set_option maxRecDepth 20000 in
set_option maxHeartbeats 1000000 in
theorem c_X5_gameOf (l : Launch) (d nu : Nat) (v : VV) (hg : 0 ≤ v 0 7 ∧ v 0 7 ≤ 8) (s : Int) : Ct l yX5_gameOf cX5_gameOf (some (.object "WicketBoard$Game")) 2 (d + 1) 0 0 [ar (some 0), ai s] (SG nu) v (rA (SG nu) (if 0 ≤ s ∧ s < 2 * v 0 7 then some (8 + (s / 2).toNat) else none) v) := by
  refine Ct_of_G [some (ar (some 0)), some (ai s)] (by decide) rfl rfl ?_
  refine G_aload_n dX5_gameOf_0 rfl ?_
  refine G_iload_n dX5_gameOf_1 rfl ?_
  refine G_cVi (ci := 5) dX5_gameOf_2 rfl (by decide) rfl (c_X5_isSeat l (d + 0) nu v hg s) mcX5_150 rfl rfl (by show _ ≤ d + 1; omega) rfl rfl (Nat.le_refl _) (Nat.le_refl _) ?_
  refine G_if_eq 19 dX5_gameOf_5 (by decide) (fun h5 => ?_) (fun h5 => ?_)
  · refine G_null dX5_gameOf_19 ?_
    exact G_aret dX5_gameOf_20 rfl (Or.inl ⟨_, rfl⟩) rfl rfl ⟨by first | (rw [if_pos (by omega)]) | (rw [if_neg (by omega)]), rfl, rfl⟩
  · refine G_aload_n dX5_gameOf_8 rfl ?_
    refine G_getR (jj := 3) dX5_gameOf_9 flX5_31 rfl rfl rfl ?_
    refine G_iload_n dX5_gameOf_12 rfl ?_
    refine G_iconst (n := 2) dX5_gameOf_13 ⟨by decide, by decide⟩ ?_
    refine G_idiv dX5_gameOf_14 (by omega) (by omega) ?_
    refine G_aaldv (some (8 + (s / 2).toNat)) dX5_gameOf_15 rfl (by omega) (by omega) (Or.inr ⟨rfl, rfl⟩) (rf_game (by omega) (by omega)) ?_
    refine G_goto 20 dX5_gameOf_16 (by decide) ?_
    exact G_aret dX5_gameOf_20 rfl (Or.inl ⟨_, rfl⟩) rfl rfl ⟨by first | (rw [if_pos (by omega)]) | (rw [if_neg (by omega)]), rfl, rfl⟩
set_option maxRecDepth 20000 in
set_option maxHeartbeats 1000000 in
theorem c_X1_value (l : Launch) (d nu : Nat) (v : VV) (k : Int) : Ct l yX1_value cX1_value (some .int) 2 (d + 0) 0 0 [ar (some 3), ai k] (SG nu) v (rI (SG nu) (if 0 ≤ k ∧ k < 9 then v 4 k else -1) v) := by
  refine Ct_of_G [some (ar (some 3)), some (ai k)] (by decide) rfl rfl ?_
  refine G_iload_n dX1_value_0 rfl ?_
  refine G_if_lt 19 dX1_value_1 (by decide) (fun h1 => ?_) (fun h1 => ?_)
  · refine G_iconst (n := (-1)) dX1_value_19 ⟨by decide, by decide⟩ ?_
    exact G_iret dX1_value_20 rfl rfl rfl ⟨by first | (rw [if_pos (by omega)]) | (rw [if_neg (by omega)]), rfl, rfl⟩
  · refine G_iload_n dX1_value_4 rfl ?_
    refine G_bipush (n := 9) dX1_value_5 (by decide) ⟨by decide, by decide⟩ ?_
    refine G_icmp_ge 19 dX1_value_7 (by decide) (fun h7 => ?_) (fun h7 => ?_)
    · refine G_iconst (n := (-1)) dX1_value_19 ⟨by decide, by decide⟩ ?_
      exact G_iret dX1_value_20 rfl rfl rfl ⟨by first | (rw [if_pos (by omega)]) | (rw [if_neg (by omega)]), rfl, rfl⟩
    · refine G_aload_n dX1_value_10 rfl ?_
      refine G_getR (jj := 0) dX1_value_11 flX1_11 rfl rfl rfl ?_
      refine G_iload_n dX1_value_14 rfl ?_
      refine G_iald dX1_value_15 rfl (by omega) (by omega) ?_
      refine G_goto 20 dX1_value_16 (by decide) ?_
      exact G_iret dX1_value_20 rfl rfl rfl ⟨by first | (rw [if_pos (by omega)]) | (rw [if_neg (by omega)]), rfl, rfl⟩
end
section
theorem RV_z {nu : Nat} {v : VV} (h : RV (SG nu) v) {n : Nat} (hn : n < nu) (j : Int) : v (60 + 3 * n) j = 0 ∨ v (60 + 3 * n) j = 1 := by
  have a := h (60 + 3 * n) (by show _ < 59 + 3 * nu; omega) j
  unfold skd at a
  rw [sh_away hn] at a
  exact a
theorem hold_some {nu : Nat} {b : Int} {v z : VV} (h : Simx nu b v z) {s : Int} (h0 : 0 ≤ s) (h1 : s < 2 * z 27 34) (hw : z 48 s ≠ -1) : (0 ≤ z 48 s ∧ z 48 s < nu) ∧ v 16 s = z 48 s ∧ hold v nu s = some (59 + 3 * (z 48 s).toNat) := by
  have a := h.1.2.2.2.2.2.2 s h0 h1
  have b9 := h.2.1
  have c := h.2.2.2.2.2.1.1 s h0 (by have := h.1.2.1; omega)
  rw [if_pos h1] at c
  refine ⟨by omega, c, ?_⟩
  unfold hold
  rw [c, if_pos ⟨⟨h0, by have := b9.2.1; omega⟩, by omega, by omega⟩]
theorem hold_none {nu : Nat} {b : Int} {v z : VV} (h : Simx nu b v z) {s : Int} (h0 : 0 ≤ s) (h1 : s < 2 * z 27 34) (hw : z 48 s = -1) : v 16 s = -1 ∧ hold v nu s = none := by
  have c := h.2.2.2.2.2.1.1 s h0 (by have := h.1.2.1; omega)
  rw [if_pos h1] at c
  refine ⟨by omega, ?_⟩
  unfold hold
  rw [c, if_neg (by omega)]
theorem hold_out {nu : Nat} {b : Int} {v z : VV} (h : Simx nu b v z) {s : Int} (h1 : ¬ (0 ≤ s ∧ s < 2 * z 27 34)) : hold v nu s = none := by
  unfold hold
  have b9 := h.2.1.2.1
  rw [if_neg (by omega)]
theorem miles_z {nu : Nat} {v z : VV} (h : Sim nu v z) {n : Nat} (hn : n < nu) {s : Int} (hs : 0 ≤ s ∧ s < 2 * z 27 34) : absS (v (8 + (s / 2).toNat) 0) (v (59 + 3 * n) 0) + absS (v (8 + (s / 2).toNat) 1) (v (59 + 3 * n) 1) = milesS z n s := by
  have a := h.2.2.1 n hn
  have b := h.2.2.2.2.1 (s / 2).toNat (by omega)
  have e : (((s / 2).toNat : Nat) : Int) = s / 2 := by omega
  rw [e] at b
  rw [a.1, a.2.1, b.1, b.2.1, absS_less, absS_less]
  rfl
set_option maxRecDepth 20000 in
set_option maxHeartbeats 1000000 in
theorem c_X5_fits (l : Launch) (d nu : Nat) (v : VV) (z : VV) (hS : Sim nu v z) (n : Nat) (hn : n < nu) (s : Int) (hs : 0 ≤ s ∧ s < 2 * z 27 34) : Ct l yX5_fits cX5_fits (some .boolean) 4 (d + 3) 0 0 [ar (some 0), ar (some (59 + 3 * n)), ai s] (SG nu) v (rI (SG nu) (bP (mayP z n s)) v) := by
  refine Ct_of_G [some (ar (some 0)), some (ar (some (59 + 3 * n))), some (ai s), none] (by decide) rfl rfl ?_
  have hMB : MB nu z := hS.1
  have hnn := hMB.1
  have hgm := hMB.2.1
  have hwk := hMB.2.2.1
  have hc := hS.2.1
  have hc6 := hc.1
  have hc7 := hc.2.1
  have hc8 := hc.2.2
  have hg0 : 0 ≤ v 0 7 ∧ v 0 7 ≤ 8 := by omega
  have hu0 : v 0 6 = nu ∧ nu ≤ 20 := ⟨hc6, hnn.1⟩
  have hU := hS.2.2.1 n hn
  have hUB := hMB.2.2.2.2.1 n (by omega) (by omega)
  have hG := hS.2.2.2.2.1 (s / 2).toNat (by omega)
  have hgt : (((s / 2).toNat : Nat) : Int) = s / 2 := by omega
  rw [hgt] at hG
  have hGB := hMB.2.2.2.2.2.1 (s / 2) (by omega) (by omega)
  have hg8 : (s / 2).toNat < 8 := by omega
  have hR := hS.2.2.2.2.2.2.1
  have hRB := hMB.2.2.2.1
  have hr0 := hRB.1
  have hr1 := hRB.2.1
  have hr2 := hRB.2.2.1
  have hr3 := hRB.2.2.2.1
  have e40 := hR 0 (by omega) (by omega)
  have e41 := hR 1 (by omega) (by omega)
  have e42 := hR 2 (by omega) (by omega)
  have e43 := hR 3 (by omega) (by omega)
  refine G_fact (fun _ hRV _ _ => ?_)
  have hA : v (60 + 3 * n) (v 0 8) = z 43 (100 * n + z 27 35) := by rw [hc8]; exact (hS.2.2.2.1 n hn (z 27 35) (by omega) (by omega)).1
  refine G_aload_n dX5_fits_0 rfl ?_
  refine G_iload_n dX5_fits_1 rfl ?_
  refine G_cVa (ci := 5) dX5_fits_2 rfl (by decide) rfl ((by have q := c_X5_gameOf l (d + 1) nu v hg0 s; rwa [if_pos (show 0 ≤ s ∧ s < 2 * v 0 7 by omega)] at q)) mcX5_198 rfl rfl (by show _ ≤ d + 3; omega) rfl rfl (Nat.le_refl _) (Nat.le_refl _) ?_
  refine G_astore_n dX5_fits_5 rfl rfl ?_
  refine G_aload_n dX5_fits_6 rfl ?_
  refine G_ifnullS dX5_fits_7 ?_
  refine G_aload_n dX5_fits_10 rfl ?_
  refine G_ifnonnullS 16 dX5_fits_11 (by decide) ?_
  refine G_aload_n dX5_fits_16 rfl ?_
  refine G_aload_n dX5_fits_17 rfl ?_
  refine G_getI (jj := 8) dX5_fits_18 flX5_91 rfl rfl rfl ?_
  refine G_cVi (ci := 4) dX5_fits_21 (by rw [sh_ump hn]) (by decide) rfl (c_X4_isAway l (d + 2) nu v n hn (v 0 8) (RV_z hRV hn)) mcX5_202 rfl rfl (by show _ ≤ d + 3; omega) rfl rfl (Nat.le_refl _) (Nat.le_refl _) ?_
  rw [if_pos (show 0 ≤ v 0 8 ∧ v 0 8 ≤ 99 by omega), hA]
  refine G_if_ne 116 dX5_fits_24 (by decide) (fun h24 => ?_) (fun h24 => ?_)
  · have k1 : ¬ mayP z n s := fun h => h24 h.1
    refine G_iconst (n := 0) dX5_fits_116 ⟨by decide, by decide⟩ ?_
    exact G_zret dX5_fits_117 rfl (by omega) rfl rfl ⟨congrArg (fun x => some (ai x)) (by first | exact (bP_t k2).symm | exact (bP_f k1).symm), rfl, rfl⟩
  · refine G_aload_n dX5_fits_27 rfl ?_
    refine G_getIv (z 37 n) (jj := 2) dX5_fits_28 flX5_205 rfl (by rw [sh_ump hn]) rfl hU.2.2.1 ?_
    refine G_aload_n dX5_fits_31 rfl ?_
    refine G_getNI (jj := 2) dX5_fits_32 flX5_208 rfl (by rw [sh_game hg8]) rfl ?_
    rw [hG.2.2.1]
    refine G_iand (bandI (z 37 n) (z 46 (s / 2))) dX5_fits_35 rfl ?_
    refine G_if_ne 116 dX5_fits_36 (by decide) (fun h36 => ?_) (fun h36 => ?_)
    · have k1 : ¬ mayP z n s := fun h => h36 h.2.1
      refine G_iconst (n := 0) dX5_fits_116 ⟨by decide, by decide⟩ ?_
      exact G_zret dX5_fits_117 rfl (by omega) rfl rfl ⟨congrArg (fun x => some (ai x)) (by first | exact (bP_t k2).symm | exact (bP_f k1).symm), rfl, rfl⟩
    · refine G_aload_n dX5_fits_39 rfl ?_
      refine G_getIv (z 36 n) (jj := 3) dX5_fits_40 flX5_173 rfl (by rw [sh_ump hn]) rfl hU.2.2.2.1 ?_
      refine G_aload_n dX5_fits_43 rfl ?_
      refine G_getNI (jj := 3) dX5_fits_44 flX5_211 rfl (by rw [sh_game hg8]) rfl ?_
      rw [hG.2.2.2]
      refine G_iload_n dX5_fits_47 rfl ?_
      refine G_iconst (n := 2) dX5_fits_48 ⟨by decide, by decide⟩ ?_
      refine G_irem dX5_fits_49 (by omega) (by omega) ?_
      refine G_iadd dX5_fits_50 (iRm (by omega) (by omega)) ?_
      refine G_icmp_gt 116 dX5_fits_51 (by decide) (fun h51 => ?_) (fun h51 => ?_)
      · have k1 : ¬ mayP z n s := fun h => by have := h.2.2.1; omega
        refine G_iconst (n := 0) dX5_fits_116 ⟨by decide, by decide⟩ ?_
        exact G_zret dX5_fits_117 rfl (by omega) rfl rfl ⟨congrArg (fun x => some (ai x)) (by first | exact (bP_t k2).symm | exact (bP_f k1).symm), rfl, rfl⟩
      · refine G_aload_n dX5_fits_54 rfl ?_
        refine G_aload_n dX5_fits_55 rfl ?_
        refine G_cVi (ci := 0) dX5_fits_56 (by rw [sh_game hg8]) (by decide) rfl (c_X0_milesTo l (d + 1) nu v (s / 2).toNat hg8 n hn (by omega) (by omega) (by omega) (by omega)) mcX5_214 rfl rfl (by show _ ≤ d + 3; omega) rfl rfl (Nat.le_refl _) (Nat.le_refl _) ?_
        rw [miles_z hS hn hs]
        refine G_aload_n dX5_fits_59 rfl ?_
        refine G_getR (jj := 1) dX5_fits_60 flX5_19 rfl rfl rfl ?_
        refine G_iconst (n := 2) dX5_fits_63 ⟨by decide, by decide⟩ ?_
        refine G_cVi (ci := 1) dX5_fits_64 rfl (by decide) rfl (c_X1_value l (d + 2) nu v 2) mcX5_69 rfl rfl (by show _ ≤ d + 3; omega) rfl rfl (Nat.le_refl _) (Nat.le_refl _) ?_
        rw [if_pos (by decide)]
        rw [e42]
        refine G_icmp_gt 116 dX5_fits_67 (by decide) (fun h67 => ?_) (fun h67 => ?_)
        · have k1 : ¬ mayP z n s := fun h => by have := h.2.2.2.1; omega
          refine G_iconst (n := 0) dX5_fits_116 ⟨by decide, by decide⟩ ?_
          exact G_zret dX5_fits_117 rfl (by omega) rfl rfl ⟨congrArg (fun x => some (ai x)) (by first | exact (bP_t k2).symm | exact (bP_f k1).symm), rfl, rfl⟩
        · refine G_aload_n dX5_fits_70 rfl ?_
          refine G_aload_n dX5_fits_71 rfl ?_
          refine G_getIv (z 27 35) (jj := 8) dX5_fits_72 flX5_91 rfl rfl rfl hc8 ?_
          refine G_aload_n dX5_fits_75 rfl ?_
          refine G_getR (jj := 1) dX5_fits_76 flX5_19 rfl rfl rfl ?_
          refine G_iconst (n := 0) dX5_fits_79 ⟨by decide, by decide⟩ ?_
          refine G_cVi (ci := 1) dX5_fits_80 rfl (by decide) rfl (c_X1_value l (d + 2) nu v 0) mcX5_69 rfl rfl (by show _ ≤ d + 3; omega) rfl rfl (Nat.le_refl _) (Nat.le_refl _) ?_
          rw [if_pos (by decide)]
          rw [e40]
          refine G_cVi (ci := 4) dX5_fits_83 (by rw [sh_ump hn]) (by decide) rfl (c_X4_stoodInAll l (d + 1) nu v n hn (z 27 35) (z 29 0) (by omega) (by omega)) mcX5_218 rfl rfl (by show _ ≤ d + 3; omega) rfl rfl (Nat.le_refl _) (Nat.le_refl _) ?_
          rw [bP_congr (row_iff hS hn)]
          refine G_if_ne 116 dX5_fits_86 (by decide) (fun h86 => ?_) (fun h86 => ?_)
          · have k1 : ¬ mayP z n s := fun h => h86 (bP_f h.2.2.2.2.1)
            refine G_iconst (n := 0) dX5_fits_116 ⟨by decide, by decide⟩ ?_
            exact G_zret dX5_fits_117 rfl (by omega) rfl rfl ⟨congrArg (fun x => some (ai x)) (by first | exact (bP_t k2).symm | exact (bP_f k1).symm), rfl, rfl⟩
          · refine G_aload_n dX5_fits_89 rfl ?_
            refine G_aload_n dX5_fits_90 rfl ?_
            refine G_getNI (jj := 2) dX5_fits_91 flX5_208 rfl (by rw [sh_game hg8]) rfl ?_
            rw [hG.2.2.1]
            refine G_aload_n dX5_fits_94 rfl ?_
            refine G_getIv (z 27 35) (jj := 8) dX5_fits_95 flX5_91 rfl rfl rfl hc8 ?_
            refine G_aload_n dX5_fits_98 rfl ?_
            refine G_getR (jj := 1) dX5_fits_99 flX5_19 rfl rfl rfl ?_
            refine G_iconst (n := 1) dX5_fits_102 ⟨by decide, by decide⟩ ?_
            refine G_cVi (ci := 1) dX5_fits_103 rfl (by decide) rfl (c_X1_value l (d + 2) nu v 1) mcX5_69 rfl rfl (by show _ ≤ d + 3; omega) rfl rfl (Nat.le_refl _) (Nat.le_refl _) ?_
            rw [if_pos (by decide)]
            rw [e41]
            refine G_cVi (ci := 4) dX5_fits_106 (by rw [sh_ump hn]) (by decide) rfl (c_X4_stoodWith l (d + 1) nu v n hn (z 46 (s / 2)) (z 27 35) (z 29 1) (by omega) (by omega)) mcX5_221 rfl rfl (by show _ ≤ d + 3; omega) rfl rfl (Nat.le_refl _) (Nat.le_refl _) ?_
            rw [bP_congr (again_iff hS hn)]
            refine G_if_ne 116 dX5_fits_109 (by decide) (fun h109 => ?_) (fun h109 => ?_)
            · have k1 : ¬ mayP z n s := fun h => h109 (bP_f h.2.2.2.2.2)
              refine G_iconst (n := 0) dX5_fits_116 ⟨by decide, by decide⟩ ?_
              exact G_zret dX5_fits_117 rfl (by omega) rfl rfl ⟨congrArg (fun x => some (ai x)) (by first | exact (bP_t k2).symm | exact (bP_f k1).symm), rfl, rfl⟩
            · have k2 : mayP z n s := ⟨h24, h36, by omega, by omega, bP_0.mp h86, bP_0.mp h109⟩
              refine G_iconst (n := 1) dX5_fits_112 ⟨by decide, by decide⟩ ?_
              refine G_goto 117 dX5_fits_113 (by decide) ?_
              exact G_zret dX5_fits_117 rfl (by omega) rfl rfl ⟨congrArg (fun x => some (ai x)) (by first | exact (bP_t k2).symm | exact (bP_f k1).symm), rfl, rfl⟩
set_option maxRecDepth 20000 in
set_option maxHeartbeats 1000000 in
theorem c_X5_fitsO (l : Launch) (d nu : Nat) (v : VV) (z : VV) (hS : Sim nu v z) (n : Nat) (hn : n < nu) (s : Int) (hs : ¬ (0 ≤ s ∧ s < 2 * z 27 34)) : Ct l yX5_fits cX5_fits (some .boolean) 4 (d + 3) 0 0 [ar (some 0), ar (some (59 + 3 * n)), ai s] (SG nu) v (rI (SG nu) (0) v) := by
  refine Ct_of_G [some (ar (some 0)), some (ar (some (59 + 3 * n))), some (ai s), none] (by decide) rfl rfl ?_
  have hMB : MB nu z := hS.1
  have hnn := hMB.1
  have hgm := hMB.2.1
  have hwk := hMB.2.2.1
  have hc := hS.2.1
  have hc6 := hc.1
  have hc7 := hc.2.1
  have hc8 := hc.2.2
  have hg0 : 0 ≤ v 0 7 ∧ v 0 7 ≤ 8 := by omega
  have hu0 : v 0 6 = nu ∧ nu ≤ 20 := ⟨hc6, hnn.1⟩
  refine G_aload_n dX5_fits_0 rfl ?_
  refine G_iload_n dX5_fits_1 rfl ?_
  refine G_cVa (ci := 5) dX5_fits_2 rfl (by decide) rfl ((by have q := c_X5_gameOf l (d + 1) nu v hg0 s; rwa [if_neg (show ¬ (0 ≤ s ∧ s < 2 * v 0 7) by omega)] at q)) mcX5_198 rfl rfl (by show _ ≤ d + 3; omega) rfl rfl (Nat.le_refl _) (Nat.le_refl _) ?_
  refine G_astore_n dX5_fits_5 rfl rfl ?_
  refine G_aload_n dX5_fits_6 rfl ?_
  refine G_ifnullS dX5_fits_7 ?_
  refine G_aload_n dX5_fits_10 rfl ?_
  refine G_ifnonnullN dX5_fits_11 ?_
  refine G_iconst (n := 0) dX5_fits_14 ⟨by decide, by decide⟩ ?_
  exact G_zret dX5_fits_15 rfl (by omega) rfl rfl ⟨rfl, rfl, rfl⟩
set_option maxRecDepth 20000 in
set_option maxHeartbeats 1000000 in
theorem c_X5_fitsN (l : Launch) (d nu : Nat) (v : VV) (z : VV) (hS : Sim nu v z) (s : Int) : Ct l yX5_fits cX5_fits (some .boolean) 4 (d + 3) 0 0 [ar (some 0), ar none, ai s] (SG nu) v (rI (SG nu) (0) v) := by
  refine Ct_of_G [some (ar (some 0)), some (ar none), some (ai s), none] (by decide) rfl rfl ?_
  have hMB : MB nu z := hS.1
  have hnn := hMB.1
  have hgm := hMB.2.1
  have hwk := hMB.2.2.1
  have hc := hS.2.1
  have hc6 := hc.1
  have hc7 := hc.2.1
  have hc8 := hc.2.2
  have hg0 : 0 ≤ v 0 7 ∧ v 0 7 ≤ 8 := by omega
  have hu0 : v 0 6 = nu ∧ nu ≤ 20 := ⟨hc6, hnn.1⟩
  refine G_aload_n dX5_fits_0 rfl ?_
  refine G_iload_n dX5_fits_1 rfl ?_
  refine G_cVa (ci := 5) dX5_fits_2 rfl (by decide) rfl (c_X5_gameOf l (d + 1) nu v hg0 s) mcX5_198 rfl rfl (by show _ ≤ d + 3; omega) rfl rfl (Nat.le_refl _) (Nat.le_refl _) ?_
  refine G_astore_n dX5_fits_5 rfl rfl ?_
  refine G_aload_n dX5_fits_6 rfl ?_
  refine G_ifnullN 14 dX5_fits_7 (by decide) ?_
  refine G_iconst (n := 0) dX5_fits_14 ⟨by decide, by decide⟩ ?_
  exact G_zret dX5_fits_15 rfl (by omega) rfl rfl ⟨rfl, rfl, rfl⟩
set_option maxRecDepth 20000 in
set_option maxHeartbeats 1000000 in
theorem c_X5_price (l : Launch) (d nu : Nat) (v : VV) (z : VV) (hS : Sim nu v z) (n : Nat) (hn : n < nu) (s : Int) (hs : 0 ≤ s ∧ s < 2 * z 27 34) : Ct l yX5_price cX5_price (some .int) 4 (d + 3) 0 0 [ar (some 0), ar (some (59 + 3 * n)), ai s] (SG nu) v (rI (SG nu) (costS z n s) v) := by
  refine Ct_of_G [some (ar (some 0)), some (ar (some (59 + 3 * n))), some (ai s), none] (by decide) rfl rfl ?_
  have hMB : MB nu z := hS.1
  have hnn := hMB.1
  have hgm := hMB.2.1
  have hwk := hMB.2.2.1
  have hc := hS.2.1
  have hc6 := hc.1
  have hc7 := hc.2.1
  have hc8 := hc.2.2
  have hg0 : 0 ≤ v 0 7 ∧ v 0 7 ≤ 8 := by omega
  have hu0 : v 0 6 = nu ∧ nu ≤ 20 := ⟨hc6, hnn.1⟩
  have hU := hS.2.2.1 n hn
  have hUB := hMB.2.2.2.2.1 n (by omega) (by omega)
  have hG := hS.2.2.2.2.1 (s / 2).toNat (by omega)
  have hgt : (((s / 2).toNat : Nat) : Int) = s / 2 := by omega
  rw [hgt] at hG
  have hGB := hMB.2.2.2.2.2.1 (s / 2) (by omega) (by omega)
  have hg8 : (s / 2).toNat < 8 := by omega
  have hR := hS.2.2.2.2.2.2.1
  have hRB := hMB.2.2.2.1
  have hr0 := hRB.1
  have hr1 := hRB.2.1
  have hr2 := hRB.2.2.1
  have hr3 := hRB.2.2.2.1
  have e40 := hR 0 (by omega) (by omega)
  have e41 := hR 1 (by omega) (by omega)
  have e42 := hR 2 (by omega) (by omega)
  have e43 := hR 3 (by omega) (by omega)
  have hmu := mul_bd hr3 (show 0 ≤ z 41 n ∧ z 41 n ≤ 99 by omega)
  have hml := hMB.miles (u := n) (by omega) hs
  refine G_aload_n dX5_price_0 rfl ?_
  refine G_iload_n dX5_price_1 rfl ?_
  refine G_cVa (ci := 5) dX5_price_2 rfl (by decide) rfl ((by have q := c_X5_gameOf l (d + 1) nu v hg0 s; rwa [if_pos (show 0 ≤ s ∧ s < 2 * v 0 7 by omega)] at q)) mcX5_198 rfl rfl (by show _ ≤ d + 3; omega) rfl rfl (Nat.le_refl _) (Nat.le_refl _) ?_
  refine G_astore_n dX5_price_5 rfl rfl ?_
  refine G_aload_n dX5_price_6 rfl ?_
  refine G_ifnullS dX5_price_7 ?_
  refine G_aload_n dX5_price_10 rfl ?_
  refine G_ifnonnullS 16 dX5_price_11 (by decide) ?_
  refine G_aload_n dX5_price_16 rfl ?_
  refine G_aload_n dX5_price_17 rfl ?_
  refine G_cVi (ci := 0) dX5_price_18 (by rw [sh_game hg8]) (by decide) rfl (c_X0_milesTo l (d + 1) nu v (s / 2).toNat hg8 n hn (by omega) (by omega) (by omega) (by omega)) mcX5_214 rfl rfl (by show _ ≤ d + 3; omega) rfl rfl (Nat.le_refl _) (Nat.le_refl _) ?_
  rw [miles_z hS hn hs]
  refine G_aload_n dX5_price_21 rfl ?_
  refine G_getR (jj := 1) dX5_price_22 flX5_19 rfl rfl rfl ?_
  refine G_iconst (n := 3) dX5_price_25 ⟨by decide, by decide⟩ ?_
  refine G_cVi (ci := 1) dX5_price_26 rfl (by decide) rfl (c_X1_value l (d + 2) nu v 3) mcX5_69 rfl rfl (by show _ ≤ d + 3; omega) rfl rfl (Nat.le_refl _) (Nat.le_refl _) ?_
  rw [if_pos (by decide)]
  rw [e43]
  refine G_aload_n dX5_price_29 rfl ?_
  refine G_getIv (z 41 n) (jj := 5) dX5_price_30 flX5_176 rfl (by rw [sh_ump hn]) rfl hU.2.2.2.2.1 ?_
  refine G_imul dX5_price_33 (iRm (by omega) (by omega)) ?_
  refine G_iadd dX5_price_34 (iRm (by omega) (by omega)) ?_
  exact G_iret dX5_price_35 rfl rfl rfl ⟨rfl, rfl, rfl⟩
set_option maxRecDepth 20000 in
set_option maxHeartbeats 1000000 in
theorem c_X5_priceO (l : Launch) (d nu : Nat) (v : VV) (z : VV) (hS : Sim nu v z) (n : Nat) (hn : n < nu) (s : Int) (hs : ¬ (0 ≤ s ∧ s < 2 * z 27 34)) : Ct l yX5_price cX5_price (some .int) 4 (d + 3) 0 0 [ar (some 0), ar (some (59 + 3 * n)), ai s] (SG nu) v (rI (SG nu) (-1) v) := by
  refine Ct_of_G [some (ar (some 0)), some (ar (some (59 + 3 * n))), some (ai s), none] (by decide) rfl rfl ?_
  have hMB : MB nu z := hS.1
  have hnn := hMB.1
  have hgm := hMB.2.1
  have hwk := hMB.2.2.1
  have hc := hS.2.1
  have hc6 := hc.1
  have hc7 := hc.2.1
  have hc8 := hc.2.2
  have hg0 : 0 ≤ v 0 7 ∧ v 0 7 ≤ 8 := by omega
  have hu0 : v 0 6 = nu ∧ nu ≤ 20 := ⟨hc6, hnn.1⟩
  refine G_aload_n dX5_price_0 rfl ?_
  refine G_iload_n dX5_price_1 rfl ?_
  refine G_cVa (ci := 5) dX5_price_2 rfl (by decide) rfl ((by have q := c_X5_gameOf l (d + 1) nu v hg0 s; rwa [if_neg (show ¬ (0 ≤ s ∧ s < 2 * v 0 7) by omega)] at q)) mcX5_198 rfl rfl (by show _ ≤ d + 3; omega) rfl rfl (Nat.le_refl _) (Nat.le_refl _) ?_
  refine G_astore_n dX5_price_5 rfl rfl ?_
  refine G_aload_n dX5_price_6 rfl ?_
  refine G_ifnullS dX5_price_7 ?_
  refine G_aload_n dX5_price_10 rfl ?_
  refine G_ifnonnullN dX5_price_11 ?_
  refine G_iconst (n := (-1)) dX5_price_14 ⟨by decide, by decide⟩ ?_
  exact G_iret dX5_price_15 rfl rfl rfl ⟨rfl, rfl, rfl⟩
set_option maxRecDepth 20000 in
set_option maxHeartbeats 1000000 in
theorem c_X5_priceN (l : Launch) (d nu : Nat) (v : VV) (z : VV) (hS : Sim nu v z) (s : Int) : Ct l yX5_price cX5_price (some .int) 4 (d + 3) 0 0 [ar (some 0), ar none, ai s] (SG nu) v (rI (SG nu) (-1) v) := by
  refine Ct_of_G [some (ar (some 0)), some (ar none), some (ai s), none] (by decide) rfl rfl ?_
  have hMB : MB nu z := hS.1
  have hnn := hMB.1
  have hgm := hMB.2.1
  have hwk := hMB.2.2.1
  have hc := hS.2.1
  have hc6 := hc.1
  have hc7 := hc.2.1
  have hc8 := hc.2.2
  have hg0 : 0 ≤ v 0 7 ∧ v 0 7 ≤ 8 := by omega
  have hu0 : v 0 6 = nu ∧ nu ≤ 20 := ⟨hc6, hnn.1⟩
  refine G_aload_n dX5_price_0 rfl ?_
  refine G_iload_n dX5_price_1 rfl ?_
  refine G_cVa (ci := 5) dX5_price_2 rfl (by decide) rfl (c_X5_gameOf l (d + 1) nu v hg0 s) mcX5_198 rfl rfl (by show _ ≤ d + 3; omega) rfl rfl (Nat.le_refl _) (Nat.le_refl _) ?_
  refine G_astore_n dX5_price_5 rfl rfl ?_
  refine G_aload_n dX5_price_6 rfl ?_
  refine G_ifnullN 14 dX5_price_7 (by decide) ?_
  refine G_iconst (n := (-1)) dX5_price_14 ⟨by decide, by decide⟩ ?_
  exact G_iret dX5_price_15 rfl rfl rfl ⟨rfl, rfl, rfl⟩
end
section
/-! one change of the board, and the same of the model -/
theorem up_c {v : VV} {k a : Nat} {j x b : Int} (h : a ≠ k) : up v k j x a b = v a b := by rw [up_ne h]
theorem seat_clear {z : VV} (hi : INJ z) (hg : 0 ≤ z 27 34) {s : Int} (h0 : 0 ≤ s) (h1 : s < 2 * z 27 34) (u : Int) (hu : 0 ≤ u) : seatOfS (up z 48 s (-1)) u = if z 48 s = u then -1 else seatOfS z u := by
  split
  · rename_i he
    refine seat_no (z := up z 48 s (-1)) hg (fun t t0 t1 => ?_)
    have t1 : t < 2 * z 27 34 := t1
    rw [up_get]
    by_cases e : t = s
    · rw [if_pos ⟨rfl, e⟩]; omega
    · rw [if_neg (fun q => e q.2)]
      intro q
      exact e (hi t s t0 t1 h0 h1 (q.trans he.symm) (by rw [q]; omega))
  · rename_i he
    rcases seatOf_spec (v := z) u hg with ⟨h3, h4⟩ | ⟨h3, h4, h5, h6⟩
    · rw [h3]
      refine seat_no (z := up z 48 s (-1)) hg (fun t t0 t1 => ?_)
      rw [up_get]
      by_cases e : t = s
      · rw [if_pos ⟨rfl, e⟩]; omega
      · rw [if_neg (fun q => e q.2)]
        exact h4 t t0 t1
    · have hne : seatOfS z u ≠ s := fun q => he (by rw [← q]; exact h5)
      refine seat_at (z := up z 48 s (-1)) ?_ hg h3 h4 (by omega) (by rw [up_nj hne]; exact h5)
      intro a b a0 a1 b0 b1 hab hn
      have a1 : a < 2 * z 27 34 := a1
      have b1 : b < 2 * z 27 34 := b1
      rw [up_get, up_get] at hab
      rw [up_get] at hn
      by_cases ea : a = s
      · simp [ea] at hn
      · by_cases eb : b = s
        · simp [ea, eb] at hab hn; omega
        · simp [ea, eb] at hab hn
          exact hi a b a0 a1 b0 b1 hab hn
theorem INJ_clear {z : VV} (hi : INJ z) (s : Int) : INJ (up z 48 s (-1)) := by
  intro a b a0 a1 b0 b1 hab hn
  have a1 : a < 2 * z 27 34 := a1
  have b1 : b < 2 * z 27 34 := b1
  rw [up_get, up_get] at hab
  rw [up_get] at hn
  by_cases ea : a = s
  · simp [ea] at hn
  · by_cases eb : b = s
    · simp [ea, eb] at hab hn; omega
    · simp [ea, eb] at hab hn
      exact hi a b a0 a1 b0 b1 hab hn

theorem Simx_clear {nu : Nat} {b : Int} {v z : VV} (h : Simx nu b v z) {s : Int} {n : Nat} (h0 : 0 ≤ s) (h1 : s < 2 * z 27 34) (hn : n < nu) (hw : z 48 s = n) : Simx nu b (up (up v (59 + 3 * n) 4 (-1)) 16 s (-1)) (up z 48 s (-1)) := by
  obtain ⟨hM, hC, hU, hW, hX, hH, hR, hT, hK⟩ := h
  refine ⟨⟨hM.1, hM.2.1, hM.2.2.1, hM.2.2.2.1, hM.2.2.2.2.1, hM.2.2.2.2.2.1, fun q q0 q1 => ?_⟩, ?_, ?_, ?_, ?_, ⟨?_, ?_, INJ_clear hH.2.2 s⟩, ?_, ?_, ?_⟩
  · have := hM.2.2.2.2.2.2 q q0 q1
    rw [up_get]; split <;> omega
  · unfold SC; simp only [up_c (show 0 ≠ 16 by omega), up_c (show 0 ≠ 59 + 3 * n by omega)]; exact hC
  · intro k hk
    have a := hU k hk
    simp only [up_c (show 59 + 3 * k ≠ 16 by omega), up_nj (show (0 : Int) ≠ 4 by decide), up_nj (show (1 : Int) ≠ 4 by decide), up_nj (show (2 : Int) ≠ 4 by decide), up_nj (show (3 : Int) ≠ 4 by decide), up_nj (show (5 : Int) ≠ 4 by decide), up_nj (show (6 : Int) ≠ 4 by decide), up_nj (show (7 : Int) ≠ 4 by decide), up_nj (show (8 : Int) ≠ 4 by decide)]
    exact a
  · intro k hk w w0 w1
    simp only [up_c (show 60 + 3 * k ≠ 16 by omega), up_c (show 60 + 3 * k ≠ 59 + 3 * n by omega), up_c (show 61 + 3 * k ≠ 16 by omega), up_c (show 61 + 3 * k ≠ 59 + 3 * n by omega)]
    exact hW k hk w w0 w1
  · intro g hg
    have g8 : (g : Int) < 8 := by have := hM.2.1; have hg : (g : Int) < z 27 34 := hg; omega
    simp only [up_c (show 8 + g ≠ 16 by omega), up_c (show 8 + g ≠ 59 + 3 * n by omega)]
    exact hX g hg
  · intro t t0 t1
    have a := hH.1 t t0 t1
    show _ = if t < 2 * z 27 34 then up z 48 s (-1) 48 t else -1
    by_cases e : t = s
    · subst e; rw [up_self, up_self, if_pos h1]
    · rw [up_nj e, up_nj e, up_c (by omega)]; exact a
  · intro k hk
    have a := hH.2.1 k hk
    rw [up_c (by omega), seat_clear hH.2.2 hM.2.1.1 h0 h1 k (by omega), up_get]
    by_cases e : k = n
    · subst e; rw [if_pos ⟨rfl, rfl⟩, if_pos hw]
    · rw [if_neg (by omega), if_neg (by omega)]; exact a
  · intro k k0 k1
    simp only [up_c (show 4 ≠ 16 by omega), up_c (show 4 ≠ 59 + 3 * n by omega)]; exact hR k k0 k1
  · unfold ST; simp only [up_c (show 3 ≠ 16 by omega), up_c (show 3 ≠ 59 + 3 * n by omega), up_c (show 1 ≠ 16 by omega), up_c (show 1 ≠ 59 + 3 * n by omega), up_c (show 2 ≠ 16 by omega), up_c (show 2 ≠ 59 + 3 * n by omega)]; exact hT
  · unfold SK gvN; simp only [up_c (show 0 ≠ 16 by omega), up_c (show 0 ≠ 59 + 3 * n by omega)]; exact hK
theorem INJ_fill {z : VV} (hi : INJ z) {s u : Int} (hf : ∀ t, 0 ≤ t → t < 2 * z 27 34 → z 48 t ≠ u) : INJ (up z 48 s u) := by
  intro a b a0 a1 b0 b1 hab hn
  have a1 : a < 2 * z 27 34 := a1
  have b1 : b < 2 * z 27 34 := b1
  rw [up_get, up_get] at hab
  rw [up_get] at hn
  by_cases ea : a = s
  · by_cases eb : b = s
    · omega
    · simp [ea, eb] at hab; exact absurd hab.symm (hf b b0 b1)
  · by_cases eb : b = s
    · simp [ea, eb] at hab; exact absurd hab (hf a a0 a1)
    · simp [ea, eb] at hab hn
      exact hi a b a0 a1 b0 b1 hab hn
theorem seat_fill {z : VV} (hi : INJ z) (hg : 0 ≤ z 27 34) {s u : Int} (h0 : 0 ≤ s) (h1 : s < 2 * z 27 34) (hw : z 48 s = -1) (hu : 0 ≤ u) (hf : ∀ t, 0 ≤ t → t < 2 * z 27 34 → z 48 t ≠ u) (x : Int) (hx : 0 ≤ x) : seatOfS (up z 48 s u) x = if x = u then s else seatOfS z x := by
  have hI := INJ_fill (s := s) hi hf
  split
  · rename_i he
    exact seat_at (z := up z 48 s u) hI hg h0 h1 (by omega) (by rw [up_self, he])
  · rename_i he
    rcases seatOf_spec (v := z) x hg with ⟨h3, h4⟩ | ⟨h3, h4, h5, h6⟩
    · rw [h3]
      refine seat_no (z := up z 48 s u) hg (fun t t0 t1 => ?_)
      rw [up_get]
      by_cases e : t = s
      · rw [if_pos ⟨rfl, e⟩]; omega
      · rw [if_neg (fun q => e q.2)]; exact h4 t t0 t1
    · have hne : seatOfS z x ≠ s := fun q => by rw [q, hw] at h5; omega
      exact seat_at (z := up z 48 s u) hI hg h3 h4 (by omega) (by rw [up_nj hne]; exact h5)

theorem Simx_fill {nu : Nat} {b : Int} {v z : VV} (h : Simx nu b v z) {s : Int} {n : Nat} (h0 : 0 ≤ s) (h1 : s < 2 * z 27 34) (hn : n < nu) (hw : z 48 s = -1) (hf : seatOfS z n = -1) : Simx nu b (up (up v (59 + 3 * n) 4 s) 16 s n) (up z 48 s n) := by
  obtain ⟨hM, hC, hU, hW, hX, hH, hR, hT, hK⟩ := h
  have hff : ∀ t, 0 ≤ t → t < 2 * z 27 34 → z 48 t ≠ n := by
    rcases seatOf_spec (v := z) n hM.2.1.1 with ⟨-, h4⟩ | ⟨h3, -⟩
    · exact h4
    · omega
  refine ⟨⟨hM.1, hM.2.1, hM.2.2.1, hM.2.2.2.1, hM.2.2.2.2.1, hM.2.2.2.2.2.1, fun q q0 q1 => ?_⟩, ?_, ?_, ?_, ?_, ⟨?_, ?_, INJ_fill hH.2.2 hff⟩, ?_, ?_, ?_⟩
  · have := hM.2.2.2.2.2.2 q q0 q1
    rw [up_get]; split <;> omega
  · unfold SC; simp only [up_c (show 0 ≠ 16 by omega), up_c (show 0 ≠ 59 + 3 * n by omega)]; exact hC
  · intro k hk
    have a := hU k hk
    simp only [up_c (show 59 + 3 * k ≠ 16 by omega), up_nj (show (0 : Int) ≠ 4 by decide), up_nj (show (1 : Int) ≠ 4 by decide), up_nj (show (2 : Int) ≠ 4 by decide), up_nj (show (3 : Int) ≠ 4 by decide), up_nj (show (5 : Int) ≠ 4 by decide), up_nj (show (6 : Int) ≠ 4 by decide), up_nj (show (7 : Int) ≠ 4 by decide), up_nj (show (8 : Int) ≠ 4 by decide)]
    exact a
  · intro k hk w w0 w1
    simp only [up_c (show 60 + 3 * k ≠ 16 by omega), up_c (show 60 + 3 * k ≠ 59 + 3 * n by omega), up_c (show 61 + 3 * k ≠ 16 by omega), up_c (show 61 + 3 * k ≠ 59 + 3 * n by omega)]
    exact hW k hk w w0 w1
  · intro g hg
    have g8 : (g : Int) < 8 := by have := hM.2.1; have hg : (g : Int) < z 27 34 := hg; omega
    simp only [up_c (show 8 + g ≠ 16 by omega), up_c (show 8 + g ≠ 59 + 3 * n by omega)]
    exact hX g hg
  · intro t t0 t1
    have a := hH.1 t t0 t1
    show _ = if t < 2 * z 27 34 then up z 48 s n 48 t else -1
    by_cases e : t = s
    · subst e; rw [up_self, up_self, if_pos h1]
    · rw [up_nj e, up_nj e, up_c (by omega)]; exact a
  · intro k hk
    have a := hH.2.1 k hk
    rw [up_c (by omega), seat_fill hH.2.2 hM.2.1.1 h0 h1 hw (by omega) hff k (by omega), up_get]
    by_cases e : k = n
    · subst e; rw [if_pos ⟨rfl, rfl⟩, if_pos rfl]
    · rw [if_neg (by omega), if_neg (by omega)]; exact a
  · intro k k0 k1
    simp only [up_c (show 4 ≠ 16 by omega), up_c (show 4 ≠ 59 + 3 * n by omega)]; exact hR k k0 k1
  · unfold ST; simp only [up_c (show 3 ≠ 16 by omega), up_c (show 3 ≠ 59 + 3 * n by omega), up_c (show 1 ≠ 16 by omega), up_c (show 1 ≠ 59 + 3 * n by omega), up_c (show 2 ≠ 16 by omega), up_c (show 2 ≠ 59 + 3 * n by omega)]; exact hT
  · unfold SK gvN; simp only [up_c (show 0 ≠ 16 by omega), up_c (show 0 ≠ 59 + 3 * n by omega)]; exact hK
theorem Simx_away {nu : Nat} {b : Int} {v z : VV} (h : Simx nu b v z) {n : Nat} (hn : n < nu) {w x : Int} (w0 : 0 ≤ w) (w1 : w ≤ 99) : Simx nu b (up v (60 + 3 * n) w x) (up z 43 (100 * n + w) x) := by
  obtain ⟨hM, hC, hU, hW, hX, hH, hR, hT, hK⟩ := h
  refine ⟨hM, ?_, ?_, ?_, ?_, ⟨?_, ?_, hH.2.2⟩, ?_, ?_, ?_⟩
  · unfold SC; simp only [up_c (show 0 ≠ 60 + 3 * n by omega)]; exact hC
  · intro k hk
    simp only [up_c (show 59 + 3 * k ≠ 60 + 3 * n by omega)]
    exact hU k hk
  · intro k hk y y0 y1
    have a := hW k hk y y0 y1
    rw [up_c (show 61 + 3 * k ≠ 60 + 3 * n by omega)]
    show _ ∧ _ = z 42 (100 * k + y)
    rw [up_get, up_get]
    by_cases e : k = n ∧ y = w
    · obtain ⟨e1, e2⟩ := e; subst e1; subst e2; rw [if_pos ⟨rfl, rfl⟩, if_pos ⟨rfl, rfl⟩]; exact ⟨rfl, a.2⟩
    · rw [if_neg (by omega), if_neg (by omega)]; exact a
  · intro g hg
    have g8 : (g : Int) < 8 := by have := hM.2.1; have hg : (g : Int) < z 27 34 := hg; omega
    simp only [up_c (show 8 + g ≠ 60 + 3 * n by omega)]
    exact hX g hg
  · intro t t0 t1
    simp only [up_c (show 16 ≠ 60 + 3 * n by omega)]; exact hH.1 t t0 t1
  · intro k hk
    simp only [up_c (show 59 + 3 * k ≠ 60 + 3 * n by omega)]; exact hH.2.1 k hk
  · intro k k0 k1
    simp only [up_c (show 4 ≠ 60 + 3 * n by omega)]; exact hR k k0 k1
  · unfold ST; simp only [up_c (show 3 ≠ 60 + 3 * n by omega), up_c (show 1 ≠ 60 + 3 * n by omega), up_c (show 2 ≠ 60 + 3 * n by omega)]; exact hT
  · unfold SK gvN; simp only [up_c (show 0 ≠ 60 + 3 * n by omega)]; exact hK
end
section
def KP (v v2 : VV) : Prop := ∀ k, k < 59 → k ≠ 16 → v2 k = v k
theorem KP.tr {a b c : VV} (h : KP a b) (h2 : KP b c) : KP a c := fun k k1 k2 => (h2 k k1 k2).trans (h k k1 k2)
theorem KP.rf {a : VV} : KP a a := fun _ _ _ => rfl
set_option maxRecDepth 20000 in
set_option maxHeartbeats 1000000 in
theorem c_X5_clearSeat (l : Launch) (d nu : Nat) (v : VV) (b : Int) (z : VV) (hS : Simx nu b v z) (s : Int) (hs : 0 ≤ s ∧ s < 2 * z 27 34) : Ct l yX5_clearSeat cX5_clearSeat none 3 (d + 2) 0 0 [ar (some 0), ai s] (SG nu) v (fun r S2 v2 => r = none ∧ S2 = SG nu ∧ Simx nu b v2 (up z 48 s (-1)) ∧ KP v v2) := by
  refine Ct_of_G [some (ar (some 0)), some (ai s), none] (by decide) rfl rfl ?_
  have hMB : MBx nu b z := hS.1
  have hnn := hMB.1
  have hgm := hMB.2.1
  have hwk := hMB.2.2.1
  have hc6 := hS.2.1.1
  have hc7 := hS.2.1.2.1
  have hc8 := hS.2.1.2.2
  have hg0 : 0 ≤ v 0 7 ∧ v 0 7 ≤ 8 := by omega
  have hu0 : v 0 6 = nu ∧ nu ≤ 20 := ⟨hc6, hnn.1⟩
  refine G_aload_n dX5_clearSeat_0 rfl ?_
  refine G_iload_n dX5_clearSeat_1 rfl ?_
  refine G_cVa (ci := 5) dX5_clearSeat_2 rfl (by decide) rfl (c_X5_holderOf l (d + 0) nu v hu0 hg0 s) mcX5_153 rfl rfl (by show _ ≤ d + 2; omega) rfl rfl (Nat.le_refl _) (Nat.le_refl _) ?_
  by_cases hw : z 48 s = -1
  · rw [(hold_none hS hs.1 hs.2 hw).2]
    have e9 : up z 48 s (-1) = z := by rw [← hw]; exact up_id z 48 s
    rw [e9]
    refine G_astore_n dX5_clearSeat_5 rfl rfl ?_
    refine G_aload_n dX5_clearSeat_6 rfl ?_
    refine G_ifnullN 22 dX5_clearSeat_7 (by decide) ?_
    exact G_vret dX5_clearSeat_22 rfl rfl rfl ⟨rfl, rfl, hS, KP.rf⟩
  · obtain ⟨hx1, hx2, hx3⟩ := hold_some hS hs.1 hs.2 hw
    rw [hx3]
    have hn : (z 48 s).toNat < nu := by omega
    refine G_astore_n dX5_clearSeat_5 rfl rfl ?_
    refine G_aload_n dX5_clearSeat_6 rfl ?_
    refine G_ifnullS dX5_clearSeat_7 ?_
    refine G_aload_n dX5_clearSeat_10 rfl ?_
    refine G_iconst (n := (-1)) dX5_clearSeat_11 ⟨by decide, by decide⟩ ?_
    refine G_putI (jj := 4) dX5_clearSeat_12 flX5_94 rfl rfl (by rw [sh_ump hn]) rfl ?_
    refine G_aload_n dX5_clearSeat_15 rfl ?_
    refine G_getR (jj := 4) dX5_clearSeat_16 flX5_36 rfl rfl rfl ?_
    refine G_iload_n dX5_clearSeat_19 rfl ?_
    refine G_iconst (n := (-1)) dX5_clearSeat_20 ⟨by decide, by decide⟩ ?_
    refine G_iast dX5_clearSeat_21 rfl (by omega) (by omega) ?_
    exact G_vret dX5_clearSeat_22 rfl rfl rfl ⟨rfl, rfl, Simx_clear hS hs.1 hs.2 hn (by omega), fun k k1 k2 => by rw [up_ne k2, up_ne (by omega)]⟩
set_option maxRecDepth 20000 in
set_option maxHeartbeats 1000000 in
theorem c_X5_fillSeat (l : Launch) (d nu : Nat) (v : VV) (b : Int) (z : VV) (hS : Simx nu b v z) (s u : Int) (hs : 0 ≤ s ∧ s < 2 * z 27 34) (hw : z 48 s = -1) (hu : u = -1 ∨ ((0 ≤ u ∧ u < nu) ∧ seatOfS z u = -1)) : Ct l yX5_fillSeat cX5_fillSeat none 4 (d + 1) 0 0 [ar (some 0), ai s, ai u] (SG nu) v (fun r S2 v2 => r = none ∧ S2 = SG nu ∧ Simx nu b v2 (up z 48 s u) ∧ KP v v2) := by
  refine Ct_of_G [some (ar (some 0)), some (ai s), some (ai u), none] (by decide) rfl rfl ?_
  have hMB : MBx nu b z := hS.1
  have hnn := hMB.1
  have hgm := hMB.2.1
  have hwk := hMB.2.2.1
  have hc6 := hS.2.1.1
  have hc7 := hS.2.1.2.1
  have hc8 := hS.2.1.2.2
  have hg0 : 0 ≤ v 0 7 ∧ v 0 7 ≤ 8 := by omega
  have hu0 : v 0 6 = nu ∧ nu ≤ 20 := ⟨hc6, hnn.1⟩
  refine G_aload_n dX5_fillSeat_0 rfl ?_
  refine G_iload_n dX5_fillSeat_1 rfl ?_
  refine G_cVa (ci := 5) dX5_fillSeat_2 rfl (by decide) rfl (c_X5_umpireAt l (d + 0) nu v hu0 u) mcX5_87 rfl rfl (by show _ ≤ d + 1; omega) rfl rfl (Nat.le_refl _) (Nat.le_refl _) ?_
  by_cases hu1 : u = -1
  · rw [if_neg (by omega)]
    have e9 : up z 48 s u = z := by rw [hu1, ← hw]; exact up_id z 48 s
    rw [e9]
    refine G_astore_n dX5_fillSeat_5 rfl rfl ?_
    refine G_aload_n dX5_fillSeat_6 rfl ?_
    refine G_ifnullN 30 dX5_fillSeat_7 (by decide) ?_
    exact G_vret dX5_fillSeat_30 rfl rfl rfl ⟨rfl, rfl, hS, KP.rf⟩
  · rw [if_pos (by omega)]
    have hn : u.toNat < nu := by omega
    have hu2 : ((u.toNat : Nat) : Int) = u := by omega
    have hu3 : seatOfS z u = -1 := by rcases hu with q | q; exact absurd q hu1; exact q.2
    refine G_astore_n dX5_fillSeat_5 rfl rfl ?_
    refine G_aload_n dX5_fillSeat_6 rfl ?_
    refine G_ifnullS dX5_fillSeat_7 ?_
    refine G_aload_n dX5_fillSeat_10 rfl ?_
    refine G_iload_n dX5_fillSeat_11 rfl ?_
    refine G_cVi (ci := 5) dX5_fillSeat_12 rfl (by decide) rfl (c_X5_isSeat l (d + 0) nu v hg0 s) mcX5_150 rfl rfl (by show _ ≤ d + 1; omega) rfl rfl (Nat.le_refl _) (Nat.le_refl _) ?_
    refine G_if_eq 30 dX5_fillSeat_15 (by decide) (fun h15 => by omega) (fun h15 => ?_)
    refine G_aload_n dX5_fillSeat_18 rfl ?_
    refine G_iload_n dX5_fillSeat_19 rfl ?_
    refine G_putI (jj := 4) dX5_fillSeat_20 flX5_94 rfl rfl (by rw [sh_ump hn]) rfl ?_
    refine G_aload_n dX5_fillSeat_23 rfl ?_
    refine G_getR (jj := 4) dX5_fillSeat_24 flX5_36 rfl rfl rfl ?_
    refine G_iload_n dX5_fillSeat_27 rfl ?_
    refine G_iload_n dX5_fillSeat_28 rfl ?_
    refine G_iast dX5_fillSeat_29 rfl (by omega) (by omega) ?_
    exact G_vret dX5_fillSeat_30 rfl rfl rfl ⟨rfl, rfl, by have q := Simx_fill hS hs.1 hs.2 hn hw (by rw [hu2]; exact hu3); rw [hu2] at q; exact q, fun k k1 k2 => by rw [up_ne k2, up_ne (by omega)]⟩
set_option maxRecDepth 20000 in
set_option maxHeartbeats 1000000 in
theorem c_X5_cheapestFree (l : Launch) (d nu : Nat) (v : VV) (z : VV) (hS : Sim nu v z) (s : Int) (hs : 0 ≤ s ∧ s < 2 * z 27 34) : Ct l yX5_cheapestFree cX5_cheapestFree (some .int) 7 (d + 4) 0 0 [ar (some 0), ai s] (SG nu) v (rE (SG nu) (spU z s nu) v) := by
  refine Ct_of_G [some (ar (some 0)), some (ai s), none, none, none, none, none] (by decide) rfl rfl ?_
  have hMB : MB nu z := hS.1
  have hnn := hMB.1
  have hgm := hMB.2.1
  have hwk := hMB.2.2.1
  have hc6 := hS.2.1.1
  have hc7 := hS.2.1.2.1
  have hc8 := hS.2.1.2.2
  have hg0 : 0 ≤ v 0 7 ∧ v 0 7 ≤ 8 := by omega
  have hu0 : v 0 6 = nu ∧ nu ≤ 20 := ⟨hc6, hnn.1⟩
  have loop : ∀ (N : Nat) (b c u : Int) (Z5 Z6 : Option AV), 0 ≤ u → u + N = nu → -1 ≤ b ∧ b < nu → spU z s u b → (b ≠ -1 → c = costS z b s) → G l (yX5_cheapestFree, cX5_cheapestFree, (some .int), 7, (d + 4), 0, 0, none) (rE (SG nu) (spU z s nu) v) 0 0 (SG nu) 7 [some (ar (some 0)), some (ai s), some (ai b), some (ai c), some (ai u), Z5, Z6] [] v := by
    intro N
    induction N using Nat.strongRecOn with
    | ind N ih =>
    intro b c u Z5 Z6 h0 h1 h2 hq hl
    refine G_iload dX5_cheapestFree_7 rfl ?_
    refine G_aload_n dX5_cheapestFree_9 rfl ?_
    refine G_getI (jj := 6) dX5_cheapestFree_10 flX5_73 rfl rfl rfl ?_
    refine G_icmp_ge 80 dX5_cheapestFree_13 (by decide) (fun h13 => ?_) (fun h13 => ?_)
    · obtain rfl : u = nu := by omega
      refine G_iload_n dX5_cheapestFree_80 rfl ?_
      exact G_iret dX5_cheapestFree_81 rfl rfl rfl ⟨b, rfl, hq, rfl, rfl⟩
    · have hn : u.toNat < nu := by omega
      have hun : ((u.toNat : Nat) : Int) = u := by omega
      have hpl := hS.2.2.2.2.2.1.2.1 u.toNat hn
      rw [hun] at hpl
      refine G_aload_n dX5_cheapestFree_16 rfl ?_
      refine G_iload dX5_cheapestFree_17 rfl ?_
      refine G_cVa (ci := 5) dX5_cheapestFree_19 rfl (by decide) rfl ((by have q := c_X5_umpireAt l (d + 3) nu v hu0 u; rwa [if_pos (show 0 ≤ u ∧ u < nu by omega)] at q)) mcX5_87 rfl rfl (by show _ ≤ d + 4; omega) rfl rfl (Nat.le_refl _) (Nat.le_refl _) ?_
      refine G_astore dX5_cheapestFree_22 rfl rfl ?_
      refine G_aload dX5_cheapestFree_24 rfl ?_
      refine G_ifnullS dX5_cheapestFree_26 ?_
      refine G_aload dX5_cheapestFree_29 rfl ?_
      refine G_getIv (seatOfS z u) (jj := 4) dX5_cheapestFree_31 flX5_94 rfl (by rw [sh_ump hn]) rfl hpl ?_
      refine G_iconst (n := (-1)) dX5_cheapestFree_34 ⟨by decide, by decide⟩ ?_
      refine G_icmp_ne 74 dX5_cheapestFree_35 (by decide) (fun h35 => ?_) (fun h35 => ?_)
      · refine G_iinc dX5_cheapestFree_74 rfl (iRm (by omega) (by omega)) rfl rfl ?_
        refine G_goto 7 dX5_cheapestFree_77 (by decide) ?_
        exact ih (N - 1) (by omega) _ _ (u + 1) _ _ (by omega) (by omega) (by omega) (spU_no hq (fun y => h35 y.1)) hl
      · refine G_aload_n dX5_cheapestFree_38 rfl ?_
        refine G_aload dX5_cheapestFree_39 rfl ?_
        refine G_iload_n dX5_cheapestFree_41 rfl ?_
        refine G_cVi (ci := 5) dX5_cheapestFree_42 rfl (by decide) rfl (c_X5_fits l (d + 0) nu v z hS u.toNat hn s hs) mcX5_110 rfl rfl (by show _ ≤ d + 4; omega) rfl rfl (Nat.le_refl _) (Nat.le_refl _) ?_
        refine G_if_eq 74 dX5_cheapestFree_45 (by decide) (fun h45 => ?_) (fun h45 => ?_)
        · refine G_iinc dX5_cheapestFree_74 rfl (iRm (by omega) (by omega)) rfl rfl ?_
          refine G_goto 7 dX5_cheapestFree_77 (by decide) ?_
          exact ih (N - 1) (by omega) _ _ (u + 1) _ _ (by omega) (by omega) (by omega) (spU_no hq (fun y => bP_0.mp h45 (hun ▸ y.2))) hl
        · have hm : mayP z u s := by rw [← hun]; exact bP_1.mp (by rcases bP_01 (mayP z u.toNat s) with q | q; exact absurd q h45; exact q)
          refine G_aload_n dX5_cheapestFree_48 rfl ?_
          refine G_aload dX5_cheapestFree_49 rfl ?_
          refine G_iload_n dX5_cheapestFree_51 rfl ?_
          refine G_cVi (ci := 5) dX5_cheapestFree_52 rfl (by decide) rfl (c_X5_price l (d + 0) nu v z hS u.toNat hn s hs) mcX5_114 rfl rfl (by show _ ≤ d + 4; omega) rfl rfl (Nat.le_refl _) (Nat.le_refl _) ?_
          rw [hun]
          refine G_istore dX5_cheapestFree_55 rfl rfl ?_
          refine G_iload_n dX5_cheapestFree_57 rfl ?_
          refine G_iconst (n := (-1)) dX5_cheapestFree_58 ⟨by decide, by decide⟩ ?_
          refine G_icmp_eq 68 dX5_cheapestFree_59 (by decide) (fun h59 => ?_) (fun h59 => ?_)
          · refine G_iload dX5_cheapestFree_68 rfl ?_
            refine G_istore_n dX5_cheapestFree_70 rfl rfl ?_
            refine G_iload dX5_cheapestFree_71 rfl ?_
            refine G_istore_n dX5_cheapestFree_73 rfl rfl ?_
            refine G_iinc dX5_cheapestFree_74 rfl (iRm (by omega) (by omega)) rfl rfl ?_
            refine G_goto 7 dX5_cheapestFree_77 (by decide) ?_
            exact ih (N - 1) (by omega) _ _ (u + 1) _ _ (by omega) (by omega) (by omega) (spU_first h0 (h59 ▸ hq) ⟨h35, hm⟩) (fun _ => rfl)
          · refine G_iload dX5_cheapestFree_62 rfl ?_
            refine G_iload_n dX5_cheapestFree_64 rfl ?_
            refine G_icmp_ge 74 dX5_cheapestFree_65 (by decide) (fun h65 => ?_) (fun h65 => ?_)
            · refine G_iinc dX5_cheapestFree_74 rfl (iRm (by omega) (by omega)) rfl rfl ?_
              refine G_goto 7 dX5_cheapestFree_77 (by decide) ?_
              exact ih (N - 1) (by omega) _ _ (u + 1) _ _ (by omega) (by omega) (by omega) (spU_keep hq h59 (by rw [hl h59] at h65; exact h65)) hl
            · refine G_iload dX5_cheapestFree_68 rfl ?_
              refine G_istore_n dX5_cheapestFree_70 rfl rfl ?_
              refine G_iload dX5_cheapestFree_71 rfl ?_
              refine G_istore_n dX5_cheapestFree_73 rfl rfl ?_
              refine G_iinc dX5_cheapestFree_74 rfl (iRm (by omega) (by omega)) rfl rfl ?_
              refine G_goto 7 dX5_cheapestFree_77 (by decide) ?_
              exact ih (N - 1) (by omega) _ _ (u + 1) _ _ (by omega) (by omega) (by omega) (spU_new h0 hq h59 ⟨h35, hm⟩ (by rw [hl h59] at h65; omega)) (fun _ => rfl)
  refine G_iconst (n := (-1)) dX5_cheapestFree_0 ⟨by decide, by decide⟩ ?_
  refine G_istore_n dX5_cheapestFree_1 rfl rfl ?_
  refine G_iconst (n := 0) dX5_cheapestFree_2 ⟨by decide, by decide⟩ ?_
  refine G_istore_n dX5_cheapestFree_3 rfl rfl ?_
  refine G_iconst (n := 0) dX5_cheapestFree_4 ⟨by decide, by decide⟩ ?_
  refine G_istore dX5_cheapestFree_5 rfl rfl ?_
  exact loop nu (-1) 0 0 none none (by omega) (by omega) (by omega) (Or.inl ⟨rfl, fun u u1 u2 => by omega⟩) (fun q => absurd rfl q)
end
