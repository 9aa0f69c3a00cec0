section
-- ===== PART A: goes FIRST, ahead of the names: the tables' words, and 'selects' of the private methods out of them =====
/-- a private method of a class that the tables say can be made, by its rows of tables_1 -/
def lw_okq (q : MethodName × Nat) : Prop := (q.1.cls ≠ "java/lang/invoke/MethodHandle" ∧ q.1.cls ≠ "java/lang/invoke/VarHandle") ∧ Cond.instantiable q.1.cls q.2 ∈ tables_1 ∧ Cond.privateMethod q.1 ∈ tables_1 ∧ Cond.instanceMethod q.1 ∈ tables_1
theorem lw_p0 : lw_okq (⟨"CardBowl", "feedNumber", "(I)V"⟩, 10) := ⟨⟨by decide +kernel, by decide +kernel⟩, List.mem_of_getElem? (i := 21) (by decide +kernel), List.mem_of_getElem? (i := 479) (by decide +kernel), List.mem_of_getElem? (i := 480) (by decide +kernel)⟩
theorem lw_p1 : lw_okq (⟨"CardBowl$Reader", "advance", "()V"⟩, 10) := ⟨⟨by decide +kernel, by decide +kernel⟩, List.mem_of_getElem? (i := 29) (by decide +kernel), List.mem_of_getElem? (i := 509) (by decide +kernel), List.mem_of_getElem? (i := 510) (by decide +kernel)⟩
theorem lw_p2 : lw_okq (⟨"CardBowl$Reader", "takeWord", "()V"⟩, 10) := ⟨⟨by decide +kernel, by decide +kernel⟩, List.mem_of_getElem? (i := 29) (by decide +kernel), List.mem_of_getElem? (i := 513) (by decide +kernel), List.mem_of_getElem? (i := 514) (by decide +kernel)⟩
theorem lw_p3 : lw_okq (⟨"CardBowl$Reader", "takeNumber", "()V"⟩, 10) := ⟨⟨by decide +kernel, by decide +kernel⟩, List.mem_of_getElem? (i := 29) (by decide +kernel), List.mem_of_getElem? (i := 517) (by decide +kernel), List.mem_of_getElem? (i := 518) (by decide +kernel)⟩
theorem lw_p4 : lw_okq (⟨"CardBowl$Reader", "among", "(Ljava/lang/String;)I"⟩, 10) := ⟨⟨by decide +kernel, by decide +kernel⟩, List.mem_of_getElem? (i := 29) (by decide +kernel), List.mem_of_getElem? (i := 523) (by decide +kernel), List.mem_of_getElem? (i := 524) (by decide +kernel)⟩
theorem lw_p5 : lw_okq (⟨"CardBowl$Reader", "readOwes", "(I)V"⟩, 10) := ⟨⟨by decide +kernel, by decide +kernel⟩, List.mem_of_getElem? (i := 29) (by decide +kernel), List.mem_of_getElem? (i := 575) (by decide +kernel), List.mem_of_getElem? (i := 576) (by decide +kernel)⟩
theorem lw_p6 : lw_okq (⟨"CardBowl$Reader", "refuse", "(I)V"⟩, 10) := ⟨⟨by decide +kernel, by decide +kernel⟩, List.mem_of_getElem? (i := 29) (by decide +kernel), List.mem_of_getElem? (i := 579) (by decide +kernel), List.mem_of_getElem? (i := 580) (by decide +kernel)⟩
theorem lw_p7 : lw_okq (⟨"CardBowl$Reader", "choice", "(Ljava/lang/String;)I"⟩, 10) := ⟨⟨by decide +kernel, by decide +kernel⟩, List.mem_of_getElem? (i := 29) (by decide +kernel), List.mem_of_getElem? (i := 584) (by decide +kernel), List.mem_of_getElem? (i := 585) (by decide +kernel)⟩
theorem lw_p8 : lw_okq (⟨"CardBowl$Reader", "number", "(II)I"⟩, 10) := ⟨⟨by decide +kernel, by decide +kernel⟩, List.mem_of_getElem? (i := 29) (by decide +kernel), List.mem_of_getElem? (i := 590) (by decide +kernel), List.mem_of_getElem? (i := 591) (by decide +kernel)⟩
theorem lw_p9 : lw_okq (⟨"CardBowl$Reader", "takes", "(Ljava/lang/String;)Z"⟩, 10) := ⟨⟨by decide +kernel, by decide +kernel⟩, List.mem_of_getElem? (i := 29) (by decide +kernel), List.mem_of_getElem? (i := 595) (by decide +kernel), List.mem_of_getElem? (i := 596) (by decide +kernel)⟩
theorem lw_p10 : lw_okq (⟨"CardBowl$Reader", "readTests", "()V"⟩, 10) := ⟨⟨by decide +kernel, by decide +kernel⟩, List.mem_of_getElem? (i := 29) (by decide +kernel), List.mem_of_getElem? (i := 599) (by decide +kernel), List.mem_of_getElem? (i := 600) (by decide +kernel)⟩
theorem lw_p11 : lw_okq (⟨"CardBowl$Reader", "readOther", "(I)V"⟩, 10) := ⟨⟨by decide +kernel, by decide +kernel⟩, List.mem_of_getElem? (i := 29) (by decide +kernel), List.mem_of_getElem? (i := 609) (by decide +kernel), List.mem_of_getElem? (i := 610) (by decide +kernel)⟩
theorem lw_p12 : lw_okq (⟨"CardBowl$Reader", "readHouse", "()V"⟩, 10) := ⟨⟨by decide +kernel, by decide +kernel⟩, List.mem_of_getElem? (i := 29) (by decide +kernel), List.mem_of_getElem? (i := 613) (by decide +kernel), List.mem_of_getElem? (i := 614) (by decide +kernel)⟩
theorem lw_p13 : lw_okq (⟨"CardBowl$Reader", "readKnow", "()V"⟩, 10) := ⟨⟨by decide +kernel, by decide +kernel⟩, List.mem_of_getElem? (i := 29) (by decide +kernel), List.mem_of_getElem? (i := 623) (by decide +kernel), List.mem_of_getElem? (i := 624) (by decide +kernel)⟩
theorem lw_p14 : lw_okq (⟨"CardBowl$Reader", "closeLine", "()V"⟩, 10) := ⟨⟨by decide +kernel, by decide +kernel⟩, List.mem_of_getElem? (i := 29) (by decide +kernel), List.mem_of_getElem? (i := 627) (by decide +kernel), List.mem_of_getElem? (i := 628) (by decide +kernel)⟩
theorem lw_p15 : lw_okq (⟨"CardBowl", "forget", "()V"⟩, 10) := ⟨⟨by decide +kernel, by decide +kernel⟩, List.mem_of_getElem? (i := 21) (by decide +kernel), List.mem_of_getElem? (i := 653) (by decide +kernel), List.mem_of_getElem? (i := 654) (by decide +kernel)⟩
def lw_privs_1 : List (MethodName × Nat) := [(⟨"CardBowl", "feedNumber", "(I)V"⟩, 10), (⟨"CardBowl$Reader", "advance", "()V"⟩, 10), (⟨"CardBowl$Reader", "takeWord", "()V"⟩, 10), (⟨"CardBowl$Reader", "takeNumber", "()V"⟩, 10), (⟨"CardBowl$Reader", "among", "(Ljava/lang/String;)I"⟩, 10), (⟨"CardBowl$Reader", "readOwes", "(I)V"⟩, 10), (⟨"CardBowl$Reader", "refuse", "(I)V"⟩, 10), (⟨"CardBowl$Reader", "choice", "(Ljava/lang/String;)I"⟩, 10), (⟨"CardBowl$Reader", "number", "(II)I"⟩, 10), (⟨"CardBowl$Reader", "takes", "(Ljava/lang/String;)Z"⟩, 10), (⟨"CardBowl$Reader", "readTests", "()V"⟩, 10), (⟨"CardBowl$Reader", "readOther", "(I)V"⟩, 10), (⟨"CardBowl$Reader", "readHouse", "()V"⟩, 10), (⟨"CardBowl$Reader", "readKnow", "()V"⟩, 10), (⟨"CardBowl$Reader", "closeLine", "()V"⟩, 10), (⟨"CardBowl", "forget", "()V"⟩, 10)]
theorem lw_r1 : ∀ q ∈ lw_privs_1, lw_okq q := List.forall_mem_cons.mpr ⟨lw_p0, List.forall_mem_cons.mpr ⟨lw_p1, List.forall_mem_cons.mpr ⟨lw_p2, List.forall_mem_cons.mpr ⟨lw_p3, List.forall_mem_cons.mpr ⟨lw_p4, List.forall_mem_cons.mpr ⟨lw_p5, List.forall_mem_cons.mpr ⟨lw_p6, List.forall_mem_cons.mpr ⟨lw_p7, List.forall_mem_cons.mpr ⟨lw_p8, List.forall_mem_cons.mpr ⟨lw_p9, List.forall_mem_cons.mpr ⟨lw_p10, List.forall_mem_cons.mpr ⟨lw_p11, List.forall_mem_cons.mpr ⟨lw_p12, List.forall_mem_cons.mpr ⟨lw_p13, List.forall_mem_cons.mpr ⟨lw_p14, List.forall_mem_cons.mpr ⟨lw_p15, fun _ h => absurd h List.not_mem_nil⟩⟩⟩⟩⟩⟩⟩⟩⟩⟩⟩⟩⟩⟩⟩⟩
theorem lw_p16 : lw_okq (⟨"CardBowl", "isDeed", "(III)Z"⟩, 10) := ⟨⟨by decide +kernel, by decide +kernel⟩, List.mem_of_getElem? (i := 21) (by decide +kernel), List.mem_of_getElem? (i := 669) (by decide +kernel), List.mem_of_getElem? (i := 670) (by decide +kernel)⟩
theorem lw_p17 : lw_okq (⟨"CardBowl$State", "isOpenTo", "(II)Z"⟩, 8) := ⟨⟨by decide +kernel, by decide +kernel⟩, List.mem_of_getElem? (i := 194) (by decide +kernel), List.mem_of_getElem? (i := 689) (by decide +kernel), List.mem_of_getElem? (i := 690) (by decide +kernel)⟩
theorem lw_p18 : lw_okq (⟨"CardBowl$State", "deal", "(LCardBowl$Debts;LCardBowl$Code;IIIII)I"⟩, 8) := ⟨⟨by decide +kernel, by decide +kernel⟩, List.mem_of_getElem? (i := 194) (by decide +kernel), List.mem_of_getElem? (i := 723) (by decide +kernel), List.mem_of_getElem? (i := 724) (by decide +kernel)⟩
theorem lw_p19 : lw_okq (⟨"CardBowl$Debts", "move", "(II)V"⟩, 8) := ⟨⟨by decide +kernel, by decide +kernel⟩, List.mem_of_getElem? (i := 204) (by decide +kernel), List.mem_of_getElem? (i := 735) (by decide +kernel), List.mem_of_getElem? (i := 736) (by decide +kernel)⟩
theorem lw_p20 : lw_okq (⟨"CardBowl$Code", "holds", "(I)Z"⟩, 10) := ⟨⟨by decide +kernel, by decide +kernel⟩, List.mem_of_getElem? (i := 112) (by decide +kernel), List.mem_of_getElem? (i := 743) (by decide +kernel), List.mem_of_getElem? (i := 744) (by decide +kernel)⟩
theorem lw_p21 : lw_okq (⟨"CardBowl$Code", "partOf", "(I)I"⟩, 10) := ⟨⟨by decide +kernel, by decide +kernel⟩, List.mem_of_getElem? (i := 112) (by decide +kernel), List.mem_of_getElem? (i := 748) (by decide +kernel), List.mem_of_getElem? (i := 749) (by decide +kernel)⟩
theorem lw_p22 : lw_okq (⟨"CardBowl$Code", "bounded", "(J)J"⟩, 10) := ⟨⟨by decide +kernel, by decide +kernel⟩, List.mem_of_getElem? (i := 112) (by decide +kernel), List.mem_of_getElem? (i := 752) (by decide +kernel), List.mem_of_getElem? (i := 753) (by decide +kernel)⟩
theorem lw_p23 : lw_okq (⟨"CardBowl", "isOuting", "(II)Z"⟩, 10) := ⟨⟨by decide +kernel, by decide +kernel⟩, List.mem_of_getElem? (i := 21) (by decide +kernel), List.mem_of_getElem? (i := 841) (by decide +kernel), List.mem_of_getElem? (i := 842) (by decide +kernel)⟩
theorem lw_p24 : lw_okq (⟨"CardBowl$Rounds", "lookAtSpots", "(LCardBowl$State;I)V"⟩, 17) := ⟨⟨by decide +kernel, by decide +kernel⟩, List.mem_of_getElem? (i := 312) (by decide +kernel), List.mem_of_getElem? (i := 850) (by decide +kernel), List.mem_of_getElem? (i := 851) (by decide +kernel)⟩
theorem lw_p25 : lw_okq (⟨"CardBowl$Rounds", "lookAt", "(LCardBowl$State;II)V"⟩, 17) := ⟨⟨by decide +kernel, by decide +kernel⟩, List.mem_of_getElem? (i := 312) (by decide +kernel), List.mem_of_getElem? (i := 854) (by decide +kernel), List.mem_of_getElem? (i := 855) (by decide +kernel)⟩
theorem lw_p26 : lw_okq (⟨"CardBowl$Rounds", "openSpots", "(LCardBowl$State;I)I"⟩, 17) := ⟨⟨by decide +kernel, by decide +kernel⟩, List.mem_of_getElem? (i := 312) (by decide +kernel), List.mem_of_getElem? (i := 868) (by decide +kernel), List.mem_of_getElem? (i := 869) (by decide +kernel)⟩
theorem lw_p27 : lw_okq (⟨"CardBowl$Rounds", "reckonMinutes", "(II)V"⟩, 17) := ⟨⟨by decide +kernel, by decide +kernel⟩, List.mem_of_getElem? (i := 312) (by decide +kernel), List.mem_of_getElem? (i := 875) (by decide +kernel), List.mem_of_getElem? (i := 876) (by decide +kernel)⟩
theorem lw_p28 : lw_okq (⟨"CardBowl$Rounds", "arrival", "(III)I"⟩, 17) := ⟨⟨by decide +kernel, by decide +kernel⟩, List.mem_of_getElem? (i := 312) (by decide +kernel), List.mem_of_getElem? (i := 879) (by decide +kernel), List.mem_of_getElem? (i := 880) (by decide +kernel)⟩
theorem lw_p29 : lw_okq (⟨"CardBowl$Rounds", "seen", "(II)I"⟩, 17) := ⟨⟨by decide +kernel, by decide +kernel⟩, List.mem_of_getElem? (i := 312) (by decide +kernel), List.mem_of_getElem? (i := 884) (by decide +kernel), List.mem_of_getElem? (i := 885) (by decide +kernel)⟩
theorem lw_p30 : lw_okq (⟨"CardBowl$Rounds", "bestSet", "(LCardBowl$State;I)I"⟩, 17) := ⟨⟨by decide +kernel, by decide +kernel⟩, List.mem_of_getElem? (i := 312) (by decide +kernel), List.mem_of_getElem? (i := 891) (by decide +kernel), List.mem_of_getElem? (i := 892) (by decide +kernel)⟩
theorem lw_p31 : lw_okq (⟨"CardBowl$Rounds", "reckonLatest", "(II)V"⟩, 17) := ⟨⟨by decide +kernel, by decide +kernel⟩, List.mem_of_getElem? (i := 312) (by decide +kernel), List.mem_of_getElem? (i := 902) (by decide +kernel), List.mem_of_getElem? (i := 903) (by decide +kernel)⟩
def lw_privs_2 : List (MethodName × Nat) := [(⟨"CardBowl", "isDeed", "(III)Z"⟩, 10), (⟨"CardBowl$State", "isOpenTo", "(II)Z"⟩, 8), (⟨"CardBowl$State", "deal", "(LCardBowl$Debts;LCardBowl$Code;IIIII)I"⟩, 8), (⟨"CardBowl$Debts", "move", "(II)V"⟩, 8), (⟨"CardBowl$Code", "holds", "(I)Z"⟩, 10), (⟨"CardBowl$Code", "partOf", "(I)I"⟩, 10), (⟨"CardBowl$Code", "bounded", "(J)J"⟩, 10), (⟨"CardBowl", "isOuting", "(II)Z"⟩, 10), (⟨"CardBowl$Rounds", "lookAtSpots", "(LCardBowl$State;I)V"⟩, 17), (⟨"CardBowl$Rounds", "lookAt", "(LCardBowl$State;II)V"⟩, 17), (⟨"CardBowl$Rounds", "openSpots", "(LCardBowl$State;I)I"⟩, 17), (⟨"CardBowl$Rounds", "reckonMinutes", "(II)V"⟩, 17), (⟨"CardBowl$Rounds", "arrival", "(III)I"⟩, 17), (⟨"CardBowl$Rounds", "seen", "(II)I"⟩, 17), (⟨"CardBowl$Rounds", "bestSet", "(LCardBowl$State;I)I"⟩, 17), (⟨"CardBowl$Rounds", "reckonLatest", "(II)V"⟩, 17)]
theorem lw_r2 : ∀ q ∈ lw_privs_2, lw_okq q := List.forall_mem_cons.mpr ⟨lw_p16, List.forall_mem_cons.mpr ⟨lw_p17, List.forall_mem_cons.mpr ⟨lw_p18, List.forall_mem_cons.mpr ⟨lw_p19, List.forall_mem_cons.mpr ⟨lw_p20, List.forall_mem_cons.mpr ⟨lw_p21, List.forall_mem_cons.mpr ⟨lw_p22, List.forall_mem_cons.mpr ⟨lw_p23, List.forall_mem_cons.mpr ⟨lw_p24, List.forall_mem_cons.mpr ⟨lw_p25, List.forall_mem_cons.mpr ⟨lw_p26, List.forall_mem_cons.mpr ⟨lw_p27, List.forall_mem_cons.mpr ⟨lw_p28, List.forall_mem_cons.mpr ⟨lw_p29, List.forall_mem_cons.mpr ⟨lw_p30, List.forall_mem_cons.mpr ⟨lw_p31, fun _ h => absurd h List.not_mem_nil⟩⟩⟩⟩⟩⟩⟩⟩⟩⟩⟩⟩⟩⟩⟩⟩
theorem lw_p32 : lw_okq (⟨"CardBowl$Rounds", "latest", "(II)I"⟩, 17) := ⟨⟨by decide +kernel, by decide +kernel⟩, List.mem_of_getElem? (i := 312) (by decide +kernel), List.mem_of_getElem? (i := 906) (by decide +kernel), List.mem_of_getElem? (i := 907) (by decide +kernel)⟩
theorem lw_p33 : lw_okq (⟨"CardBowl$Rounds", "putInOrder", "(II)V"⟩, 17) := ⟨⟨by decide +kernel, by decide +kernel⟩, List.mem_of_getElem? (i := 312) (by decide +kernel), List.mem_of_getElem? (i := 910) (by decide +kernel), List.mem_of_getElem? (i := 911) (by decide +kernel)⟩
theorem lw_p34 : lw_okq (⟨"CardBowl$Rounds", "gatherDeadlines", "(LCardBowl$State;I)V"⟩, 17) := ⟨⟨by decide +kernel, by decide +kernel⟩, List.mem_of_getElem? (i := 312) (by decide +kernel), List.mem_of_getElem? (i := 940) (by decide +kernel), List.mem_of_getElem? (i := 941) (by decide +kernel)⟩
theorem lw_p35 : lw_okq (⟨"CardBowl$Rounds", "inTime", "(I)I"⟩, 17) := ⟨⟨by decide +kernel, by decide +kernel⟩, List.mem_of_getElem? (i := 312) (by decide +kernel), List.mem_of_getElem? (i := 945) (by decide +kernel), List.mem_of_getElem? (i := 946) (by decide +kernel)⟩
theorem lw_p36 : lw_okq (⟨"CardBowl$Rounds", "addDay", "(II)V"⟩, 17) := ⟨⟨by decide +kernel, by decide +kernel⟩, List.mem_of_getElem? (i := 312) (by decide +kernel), List.mem_of_getElem? (i := 949) (by decide +kernel), List.mem_of_getElem? (i := 950) (by decide +kernel)⟩
theorem lw_p37 : lw_okq (⟨"CardBowl$Rounds", "canBeSeen", "(LCardBowl$State;III)Z"⟩, 17) := ⟨⟨by decide +kernel, by decide +kernel⟩, List.mem_of_getElem? (i := 312) (by decide +kernel), List.mem_of_getElem? (i := 961) (by decide +kernel), List.mem_of_getElem? (i := 962) (by decide +kernel)⟩
theorem lw_p38 : lw_okq (⟨"CardBowl$Ways", "gather", "(LCardBowl$State;II)V"⟩, 11) := ⟨⟨by decide +kernel, by decide +kernel⟩, List.mem_of_getElem? (i := 375) (by decide +kernel), List.mem_of_getElem? (i := 979) (by decide +kernel), List.mem_of_getElem? (i := 980) (by decide +kernel)⟩
theorem lw_p39 : lw_okq (⟨"CardBowl$Ways", "linksOf", "(LCardBowl$State;I)I"⟩, 11) := ⟨⟨by decide +kernel, by decide +kernel⟩, List.mem_of_getElem? (i := 375) (by decide +kernel), List.mem_of_getElem? (i := 983) (by decide +kernel), List.mem_of_getElem? (i := 984) (by decide +kernel)⟩
theorem lw_p40 : lw_okq (⟨"CardBowl$Ways", "search", "(LCardBowl$State;II)V"⟩, 11) := ⟨⟨by decide +kernel, by decide +kernel⟩, List.mem_of_getElem? (i := 375) (by decide +kernel), List.mem_of_getElem? (i := 987) (by decide +kernel), List.mem_of_getElem? (i := 988) (by decide +kernel)⟩
theorem lw_p41 : lw_okq (⟨"CardBowl$Ways", "tell", "(II)V"⟩, 11) := ⟨⟨by decide +kernel, by decide +kernel⟩, List.mem_of_getElem? (i := 375) (by decide +kernel), List.mem_of_getElem? (i := 991) (by decide +kernel), List.mem_of_getElem? (i := 992) (by decide +kernel)⟩
theorem lw_p42 : lw_okq (⟨"CardBowl", "filledSlots", "()I"⟩, 10) := ⟨⟨by decide +kernel, by decide +kernel⟩, List.mem_of_getElem? (i := 21) (by decide +kernel), List.mem_of_getElem? (i := 1074) (by decide +kernel), List.mem_of_getElem? (i := 1075) (by decide +kernel)⟩
theorem lw_p43 : lw_okq (⟨"CardBowlModel", "advance", "()V"⟩, 41) := ⟨⟨by decide +kernel, by decide +kernel⟩, List.mem_of_getElem? (i := 1128) (by decide +kernel), List.mem_of_getElem? (i := 1287) (by decide +kernel), List.mem_of_getElem? (i := 1288) (by decide +kernel)⟩
theorem lw_p44 : lw_okq (⟨"CardBowlModel", "see", "(I)I"⟩, 41) := ⟨⟨by decide +kernel, by decide +kernel⟩, List.mem_of_getElem? (i := 1128) (by decide +kernel), List.mem_of_getElem? (i := 1291) (by decide +kernel), List.mem_of_getElem? (i := 1292) (by decide +kernel)⟩
theorem lw_p45 : lw_okq (⟨"CardBowlModel", "good", "()Z"⟩, 41) := ⟨⟨by decide +kernel, by decide +kernel⟩, List.mem_of_getElem? (i := 1128) (by decide +kernel), List.mem_of_getElem? (i := 1300) (by decide +kernel), List.mem_of_getElem? (i := 1301) (by decide +kernel)⟩
theorem lw_p46 : lw_okq (⟨"CardBowlModel", "readLine", "()V"⟩, 41) := ⟨⟨by decide +kernel, by decide +kernel⟩, List.mem_of_getElem? (i := 1128) (by decide +kernel), List.mem_of_getElem? (i := 1304) (by decide +kernel), List.mem_of_getElem? (i := 1305) (by decide +kernel)⟩
theorem lw_p47 : lw_okq (⟨"CardBowlModel", "payingHere", "()I"⟩, 41) := ⟨⟨by decide +kernel, by decide +kernel⟩, List.mem_of_getElem? (i := 1128) (by decide +kernel), List.mem_of_getElem? (i := 1308) (by decide +kernel), List.mem_of_getElem? (i := 1309) (by decide +kernel)⟩
def lw_privs_3 : List (MethodName × Nat) := [(⟨"CardBowl$Rounds", "latest", "(II)I"⟩, 17), (⟨"CardBowl$Rounds", "putInOrder", "(II)V"⟩, 17), (⟨"CardBowl$Rounds", "gatherDeadlines", "(LCardBowl$State;I)V"⟩, 17), (⟨"CardBowl$Rounds", "inTime", "(I)I"⟩, 17), (⟨"CardBowl$Rounds", "addDay", "(II)V"⟩, 17), (⟨"CardBowl$Rounds", "canBeSeen", "(LCardBowl$State;III)Z"⟩, 17), (⟨"CardBowl$Ways", "gather", "(LCardBowl$State;II)V"⟩, 11), (⟨"CardBowl$Ways", "linksOf", "(LCardBowl$State;I)I"⟩, 11), (⟨"CardBowl$Ways", "search", "(LCardBowl$State;II)V"⟩, 11), (⟨"CardBowl$Ways", "tell", "(II)V"⟩, 11), (⟨"CardBowl", "filledSlots", "()I"⟩, 10), (⟨"CardBowlModel", "advance", "()V"⟩, 41), (⟨"CardBowlModel", "see", "(I)I"⟩, 41), (⟨"CardBowlModel", "good", "()Z"⟩, 41), (⟨"CardBowlModel", "readLine", "()V"⟩, 41), (⟨"CardBowlModel", "payingHere", "()I"⟩, 41)]
theorem lw_r3 : ∀ q ∈ lw_privs_3, lw_okq q := List.forall_mem_cons.mpr ⟨lw_p32, List.forall_mem_cons.mpr ⟨lw_p33, List.forall_mem_cons.mpr ⟨lw_p34, List.forall_mem_cons.mpr ⟨lw_p35, List.forall_mem_cons.mpr ⟨lw_p36, List.forall_mem_cons.mpr ⟨lw_p37, List.forall_mem_cons.mpr ⟨lw_p38, List.forall_mem_cons.mpr ⟨lw_p39, List.forall_mem_cons.mpr ⟨lw_p40, List.forall_mem_cons.mpr ⟨lw_p41, List.forall_mem_cons.mpr ⟨lw_p42, List.forall_mem_cons.mpr ⟨lw_p43, List.forall_mem_cons.mpr ⟨lw_p44, List.forall_mem_cons.mpr ⟨lw_p45, List.forall_mem_cons.mpr ⟨lw_p46, List.forall_mem_cons.mpr ⟨lw_p47, fun _ h => absurd h List.not_mem_nil⟩⟩⟩⟩⟩⟩⟩⟩⟩⟩⟩⟩⟩⟩⟩⟩
theorem lw_p48 : lw_okq (⟨"CardBowlModel", "is", "(Ljava/lang/String;)Z"⟩, 41) := ⟨⟨by decide +kernel, by decide +kernel⟩, List.mem_of_getElem? (i := 1128) (by decide +kernel), List.mem_of_getElem? (i := 1313) (by decide +kernel), List.mem_of_getElem? (i := 1314) (by decide +kernel)⟩
theorem lw_p49 : lw_okq (⟨"CardBowlModel", "errs", "(I)V"⟩, 41) := ⟨⟨by decide +kernel, by decide +kernel⟩, List.mem_of_getElem? (i := 1128) (by decide +kernel), List.mem_of_getElem? (i := 1326) (by decide +kernel), List.mem_of_getElem? (i := 1327) (by decide +kernel)⟩
theorem lw_p50 : lw_okq (⟨"CardBowlModel", "readOwes", "()V"⟩, 41) := ⟨⟨by decide +kernel, by decide +kernel⟩, List.mem_of_getElem? (i := 1128) (by decide +kernel), List.mem_of_getElem? (i := 1330) (by decide +kernel), List.mem_of_getElem? (i := 1331) (by decide +kernel)⟩
theorem lw_p51 : lw_okq (⟨"CardBowlModel", "taken", "(I)I"⟩, 41) := ⟨⟨by decide +kernel, by decide +kernel⟩, List.mem_of_getElem? (i := 1128) (by decide +kernel), List.mem_of_getElem? (i := 1334) (by decide +kernel), List.mem_of_getElem? (i := 1335) (by decide +kernel)⟩
theorem lw_p52 : lw_okq (⟨"CardBowlModel", "needs", "(Ljava/lang/String;)V"⟩, 41) := ⟨⟨by decide +kernel, by decide +kernel⟩, List.mem_of_getElem? (i := 1128) (by decide +kernel), List.mem_of_getElem? (i := 1339) (by decide +kernel), List.mem_of_getElem? (i := 1340) (by decide +kernel)⟩
theorem lw_p53 : lw_okq (⟨"CardBowlModel", "takes", "(Ljava/lang/String;)Z"⟩, 41) := ⟨⟨by decide +kernel, by decide +kernel⟩, List.mem_of_getElem? (i := 1128) (by decide +kernel), List.mem_of_getElem? (i := 1343) (by decide +kernel), List.mem_of_getElem? (i := 1344) (by decide +kernel)⟩
theorem lw_p54 : lw_okq (⟨"CardBowlModel", "told", "(Ljava/lang/String;II)I"⟩, 41) := ⟨⟨by decide +kernel, by decide +kernel⟩, List.mem_of_getElem? (i := 1128) (by decide +kernel), List.mem_of_getElem? (i := 1348) (by decide +kernel), List.mem_of_getElem? (i := 1349) (by decide +kernel)⟩
theorem lw_p55 : lw_okq (⟨"CardBowlModel", "number", "(II)I"⟩, 41) := ⟨⟨by decide +kernel, by decide +kernel⟩, List.mem_of_getElem? (i := 1128) (by decide +kernel), List.mem_of_getElem? (i := 1352) (by decide +kernel), List.mem_of_getElem? (i := 1353) (by decide +kernel)⟩
theorem lw_p56 : lw_okq (⟨"CardBowlModel", "readTest", "()V"⟩, 41) := ⟨⟨by decide +kernel, by decide +kernel⟩, List.mem_of_getElem? (i := 1128) (by decide +kernel), List.mem_of_getElem? (i := 1357) (by decide +kernel), List.mem_of_getElem? (i := 1358) (by decide +kernel)⟩
theorem lw_p57 : lw_okq (⟨"CardBowlModel", "readSum", "(I)V"⟩, 41) := ⟨⟨by decide +kernel, by decide +kernel⟩, List.mem_of_getElem? (i := 1128) (by decide +kernel), List.mem_of_getElem? (i := 1361) (by decide +kernel), List.mem_of_getElem? (i := 1362) (by decide +kernel)⟩
theorem lw_p58 : lw_okq (⟨"CardBowlModel", "readPart", "(I)V"⟩, 41) := ⟨⟨by decide +kernel, by decide +kernel⟩, List.mem_of_getElem? (i := 1128) (by decide +kernel), List.mem_of_getElem? (i := 1365) (by decide +kernel), List.mem_of_getElem? (i := 1366) (by decide +kernel)⟩
theorem lw_p59 : lw_okq (⟨"CardBowlModel", "readHouse", "()V"⟩, 41) := ⟨⟨by decide +kernel, by decide +kernel⟩, List.mem_of_getElem? (i := 1128) (by decide +kernel), List.mem_of_getElem? (i := 1381) (by decide +kernel), List.mem_of_getElem? (i := 1382) (by decide +kernel)⟩
theorem lw_p60 : lw_okq (⟨"CardBowlModel", "dayHere", "()I"⟩, 41) := ⟨⟨by decide +kernel, by decide +kernel⟩, List.mem_of_getElem? (i := 1128) (by decide +kernel), List.mem_of_getElem? (i := 1388) (by decide +kernel), List.mem_of_getElem? (i := 1389) (by decide +kernel)⟩
theorem lw_p61 : lw_okq (⟨"CardBowlModel", "readKnow", "()V"⟩, 41) := ⟨⟨by decide +kernel, by decide +kernel⟩, List.mem_of_getElem? (i := 1128) (by decide +kernel), List.mem_of_getElem? (i := 1401) (by decide +kernel), List.mem_of_getElem? (i := 1402) (by decide +kernel)⟩
theorem lw_p62 : lw_okq (⟨"CardBowlModel", "ofHouse", "(II)I"⟩, 41) := ⟨⟨by decide +kernel, by decide +kernel⟩, List.mem_of_getElem? (i := 1128) (by decide +kernel), List.mem_of_getElem? (i := 1405) (by decide +kernel), List.mem_of_getElem? (i := 1406) (by decide +kernel)⟩
theorem lw_p63 : lw_okq (⟨"CardBowlModel", "today", "()I"⟩, 41) := ⟨⟨by decide +kernel, by decide +kernel⟩, List.mem_of_getElem? (i := 1128) (by decide +kernel), List.mem_of_getElem? (i := 1414) (by decide +kernel), List.mem_of_getElem? (i := 1415) (by decide +kernel)⟩
def lw_privs_4 : List (MethodName × Nat) := [(⟨"CardBowlModel", "is", "(Ljava/lang/String;)Z"⟩, 41), (⟨"CardBowlModel", "errs", "(I)V"⟩, 41), (⟨"CardBowlModel", "readOwes", "()V"⟩, 41), (⟨"CardBowlModel", "taken", "(I)I"⟩, 41), (⟨"CardBowlModel", "needs", "(Ljava/lang/String;)V"⟩, 41), (⟨"CardBowlModel", "takes", "(Ljava/lang/String;)Z"⟩, 41), (⟨"CardBowlModel", "told", "(Ljava/lang/String;II)I"⟩, 41), (⟨"CardBowlModel", "number", "(II)I"⟩, 41), (⟨"CardBowlModel", "readTest", "()V"⟩, 41), (⟨"CardBowlModel", "readSum", "(I)V"⟩, 41), (⟨"CardBowlModel", "readPart", "(I)V"⟩, 41), (⟨"CardBowlModel", "readHouse", "()V"⟩, 41), (⟨"CardBowlModel", "dayHere", "()I"⟩, 41), (⟨"CardBowlModel", "readKnow", "()V"⟩, 41), (⟨"CardBowlModel", "ofHouse", "(II)I"⟩, 41), (⟨"CardBowlModel", "today", "()I"⟩, 41)]
theorem lw_r4 : ∀ q ∈ lw_privs_4, lw_okq q := List.forall_mem_cons.mpr ⟨lw_p48, List.forall_mem_cons.mpr ⟨lw_p49, List.forall_mem_cons.mpr ⟨lw_p50, List.forall_mem_cons.mpr ⟨lw_p51, List.forall_mem_cons.mpr ⟨lw_p52, List.forall_mem_cons.mpr ⟨lw_p53, List.forall_mem_cons.mpr ⟨lw_p54, List.forall_mem_cons.mpr ⟨lw_p55, List.forall_mem_cons.mpr ⟨lw_p56, List.forall_mem_cons.mpr ⟨lw_p57, List.forall_mem_cons.mpr ⟨lw_p58, List.forall_mem_cons.mpr ⟨lw_p59, List.forall_mem_cons.mpr ⟨lw_p60, List.forall_mem_cons.mpr ⟨lw_p61, List.forall_mem_cons.mpr ⟨lw_p62, List.forall_mem_cons.mpr ⟨lw_p63, fun _ h => absurd h List.not_mem_nil⟩⟩⟩⟩⟩⟩⟩⟩⟩⟩⟩⟩⟩⟩⟩⟩
theorem lw_p64 : lw_okq (⟨"CardBowlModel", "areTwo", "(II)Z"⟩, 41) := ⟨⟨by decide +kernel, by decide +kernel⟩, List.mem_of_getElem? (i := 1128) (by decide +kernel), List.mem_of_getElem? (i := 1422) (by decide +kernel), List.mem_of_getElem? (i := 1423) (by decide +kernel)⟩
theorem lw_p65 : lw_okq (⟨"CardBowlModel", "isHouse", "(I)Z"⟩, 41) := ⟨⟨by decide +kernel, by decide +kernel⟩, List.mem_of_getElem? (i := 1128) (by decide +kernel), List.mem_of_getElem? (i := 1426) (by decide +kernel), List.mem_of_getElem? (i := 1427) (by decide +kernel)⟩
theorem lw_p66 : lw_okq (⟨"CardBowlModel", "barsOf", "(III)I"⟩, 41) := ⟨⟨by decide +kernel, by decide +kernel⟩, List.mem_of_getElem? (i := 1128) (by decide +kernel), List.mem_of_getElem? (i := 1434) (by decide +kernel), List.mem_of_getElem? (i := 1435) (by decide +kernel)⟩
theorem lw_p67 : lw_okq (⟨"CardBowlModel", "isThere", "(II)Z"⟩, 41) := ⟨⟨by decide +kernel, by decide +kernel⟩, List.mem_of_getElem? (i := 1128) (by decide +kernel), List.mem_of_getElem? (i := 1438) (by decide +kernel), List.mem_of_getElem? (i := 1439) (by decide +kernel)⟩
theorem lw_p68 : lw_okq (⟨"CardBowlModel", "areKnown", "(II)Z"⟩, 41) := ⟨⟨by decide +kernel, by decide +kernel⟩, List.mem_of_getElem? (i := 1128) (by decide +kernel), List.mem_of_getElem? (i := 1442) (by decide +kernel), List.mem_of_getElem? (i := 1443) (by decide +kernel)⟩
theorem lw_p69 : lw_okq (⟨"CardBowlModel", "isNew", "(I)Z"⟩, 41) := ⟨⟨by decide +kernel, by decide +kernel⟩, List.mem_of_getElem? (i := 1128) (by decide +kernel), List.mem_of_getElem? (i := 1449) (by decide +kernel), List.mem_of_getElem? (i := 1450) (by decide +kernel)⟩
theorem lw_p70 : lw_okq (⟨"CardBowlModel", "isIntroduced", "(II)Z"⟩, 41) := ⟨⟨by decide +kernel, by decide +kernel⟩, List.mem_of_getElem? (i := 1128) (by decide +kernel), List.mem_of_getElem? (i := 1453) (by decide +kernel), List.mem_of_getElem? (i := 1454) (by decide +kernel)⟩
theorem lw_p71 : lw_okq (⟨"CardBowlModel", "notes", "(III)I"⟩, 41) := ⟨⟨by decide +kernel, by decide +kernel⟩, List.mem_of_getElem? (i := 1128) (by decide +kernel), List.mem_of_getElem? (i := 1468) (by decide +kernel), List.mem_of_getElem? (i := 1469) (by decide +kernel)⟩
theorem lw_p72 : lw_okq (⟨"CardBowlModel", "goes", "(IIII)I"⟩, 41) := ⟨⟨by decide +kernel, by decide +kernel⟩, List.mem_of_getElem? (i := 1128) (by decide +kernel), List.mem_of_getElem? (i := 1472) (by decide +kernel), List.mem_of_getElem? (i := 1473) (by decide +kernel)⟩
theorem lw_p73 : lw_okq (⟨"CardBowlModel", "meets", "(II)V"⟩, 41) := ⟨⟨by decide +kernel, by decide +kernel⟩, List.mem_of_getElem? (i := 1128) (by decide +kernel), List.mem_of_getElem? (i := 1476) (by decide +kernel), List.mem_of_getElem? (i := 1477) (by decide +kernel)⟩
theorem lw_p74 : lw_okq (⟨"CardBowlModel", "pays", "(III)I"⟩, 41) := ⟨⟨by decide +kernel, by decide +kernel⟩, List.mem_of_getElem? (i := 1128) (by decide +kernel), List.mem_of_getElem? (i := 1480) (by decide +kernel), List.mem_of_getElem? (i := 1481) (by decide +kernel)⟩
theorem lw_p75 : lw_okq (⟨"CardBowlModel", "ofDebt", "(II)I"⟩, 41) := ⟨⟨by decide +kernel, by decide +kernel⟩, List.mem_of_getElem? (i := 1128) (by decide +kernel), List.mem_of_getElem? (i := 1484) (by decide +kernel), List.mem_of_getElem? (i := 1485) (by decide +kernel)⟩
theorem lw_p76 : lw_okq (⟨"CardBowlModel", "drops", "(I)V"⟩, 41) := ⟨⟨by decide +kernel, by decide +kernel⟩, List.mem_of_getElem? (i := 1128) (by decide +kernel), List.mem_of_getElem? (i := 1488) (by decide +kernel), List.mem_of_getElem? (i := 1489) (by decide +kernel)⟩
theorem lw_p77 : lw_okq (⟨"CardBowlModel", "lineFor", "(IIIZI)I"⟩, 41) := ⟨⟨by decide +kernel, by decide +kernel⟩, List.mem_of_getElem? (i := 1128) (by decide +kernel), List.mem_of_getElem? (i := 1492) (by decide +kernel), List.mem_of_getElem? (i := 1493) (by decide +kernel)⟩
theorem lw_p78 : lw_okq (⟨"CardBowlModel", "debtsOf", "(I)I"⟩, 41) := ⟨⟨by decide +kernel, by decide +kernel⟩, List.mem_of_getElem? (i := 1128) (by decide +kernel), List.mem_of_getElem? (i := 1496) (by decide +kernel), List.mem_of_getElem? (i := 1497) (by decide +kernel)⟩
theorem lw_p79 : lw_okq (⟨"CardBowlModel", "testHolds", "(I)Z"⟩, 41) := ⟨⟨by decide +kernel, by decide +kernel⟩, List.mem_of_getElem? (i := 1128) (by decide +kernel), List.mem_of_getElem? (i := 1500) (by decide +kernel), List.mem_of_getElem? (i := 1501) (by decide +kernel)⟩
def lw_privs_5 : List (MethodName × Nat) := [(⟨"CardBowlModel", "areTwo", "(II)Z"⟩, 41), (⟨"CardBowlModel", "isHouse", "(I)Z"⟩, 41), (⟨"CardBowlModel", "barsOf", "(III)I"⟩, 41), (⟨"CardBowlModel", "isThere", "(II)Z"⟩, 41), (⟨"CardBowlModel", "areKnown", "(II)Z"⟩, 41), (⟨"CardBowlModel", "isNew", "(I)Z"⟩, 41), (⟨"CardBowlModel", "isIntroduced", "(II)Z"⟩, 41), (⟨"CardBowlModel", "notes", "(III)I"⟩, 41), (⟨"CardBowlModel", "goes", "(IIII)I"⟩, 41), (⟨"CardBowlModel", "meets", "(II)V"⟩, 41), (⟨"CardBowlModel", "pays", "(III)I"⟩, 41), (⟨"CardBowlModel", "ofDebt", "(II)I"⟩, 41), (⟨"CardBowlModel", "drops", "(I)V"⟩, 41), (⟨"CardBowlModel", "lineFor", "(IIIZI)I"⟩, 41), (⟨"CardBowlModel", "debtsOf", "(I)I"⟩, 41), (⟨"CardBowlModel", "testHolds", "(I)Z"⟩, 41)]
theorem lw_r5 : ∀ q ∈ lw_privs_5, lw_okq q := List.forall_mem_cons.mpr ⟨lw_p64, List.forall_mem_cons.mpr ⟨lw_p65, List.forall_mem_cons.mpr ⟨lw_p66, List.forall_mem_cons.mpr ⟨lw_p67, List.forall_mem_cons.mpr ⟨lw_p68, List.forall_mem_cons.mpr ⟨lw_p69, List.forall_mem_cons.mpr ⟨lw_p70, List.forall_mem_cons.mpr ⟨lw_p71, List.forall_mem_cons.mpr ⟨lw_p72, List.forall_mem_cons.mpr ⟨lw_p73, List.forall_mem_cons.mpr ⟨lw_p74, List.forall_mem_cons.mpr ⟨lw_p75, List.forall_mem_cons.mpr ⟨lw_p76, List.forall_mem_cons.mpr ⟨lw_p77, List.forall_mem_cons.mpr ⟨lw_p78, List.forall_mem_cons.mpr ⟨lw_p79, fun _ h => absurd h List.not_mem_nil⟩⟩⟩⟩⟩⟩⟩⟩⟩⟩⟩⟩⟩⟩⟩⟩
theorem lw_p80 : lw_okq (⟨"CardBowlModel", "partOf", "(I)J"⟩, 41) := ⟨⟨by decide +kernel, by decide +kernel⟩, List.mem_of_getElem? (i := 1128) (by decide +kernel), List.mem_of_getElem? (i := 1504) (by decide +kernel), List.mem_of_getElem? (i := 1505) (by decide +kernel)⟩
theorem lw_p81 : lw_okq (⟨"CardBowlModel", "owesAlready", "(III)Z"⟩, 41) := ⟨⟨by decide +kernel, by decide +kernel⟩, List.mem_of_getElem? (i := 1128) (by decide +kernel), List.mem_of_getElem? (i := 1510) (by decide +kernel), List.mem_of_getElem? (i := 1511) (by decide +kernel)⟩
theorem lw_p82 : lw_okq (⟨"CardBowlModel", "comes", "(IIIII)V"⟩, 41) := ⟨⟨by decide +kernel, by decide +kernel⟩, List.mem_of_getElem? (i := 1128) (by decide +kernel), List.mem_of_getElem? (i := 1514) (by decide +kernel), List.mem_of_getElem? (i := 1515) (by decide +kernel)⟩
theorem lw_p83 : lw_okq (⟨"CardBowlModel", "placeOf", "(II)I"⟩, 41) := ⟨⟨by decide +kernel, by decide +kernel⟩, List.mem_of_getElem? (i := 1128) (by decide +kernel), List.mem_of_getElem? (i := 1541) (by decide +kernel), List.mem_of_getElem? (i := 1542) (by decide +kernel)⟩
theorem lw_p84 : lw_okq (⟨"CardBowlModel", "slightsOf", "(I)I"⟩, 41) := ⟨⟨by decide +kernel, by decide +kernel⟩, List.mem_of_getElem? (i := 1128) (by decide +kernel), List.mem_of_getElem? (i := 1549) (by decide +kernel), List.mem_of_getElem? (i := 1550) (by decide +kernel)⟩
theorem lw_p85 : lw_okq (⟨"CardBowlModel", "isRound", "(II)Z"⟩, 41) := ⟨⟨by decide +kernel, by decide +kernel⟩, List.mem_of_getElem? (i := 1128) (by decide +kernel), List.mem_of_getElem? (i := 1565) (by decide +kernel), List.mem_of_getElem? (i := 1566) (by decide +kernel)⟩
theorem lw_p86 : lw_okq (⟨"CardBowlModel", "rounds", "(II)V"⟩, 41) := ⟨⟨by decide +kernel, by decide +kernel⟩, List.mem_of_getElem? (i := 1128) (by decide +kernel), List.mem_of_getElem? (i := 1570) (by decide +kernel), List.mem_of_getElem? (i := 1571) (by decide +kernel)⟩
theorem lw_p87 : lw_okq (⟨"CardBowlModel", "lists", "(I)V"⟩, 41) := ⟨⟨by decide +kernel, by decide +kernel⟩, List.mem_of_getElem? (i := 1128) (by decide +kernel), List.mem_of_getElem? (i := 1574) (by decide +kernel), List.mem_of_getElem? (i := 1575) (by decide +kernel)⟩
theorem lw_p88 : lw_okq (⟨"CardBowlModel", "weighs", "(I)V"⟩, 41) := ⟨⟨by decide +kernel, by decide +kernel⟩, List.mem_of_getElem? (i := 1128) (by decide +kernel), List.mem_of_getElem? (i := 1578) (by decide +kernel), List.mem_of_getElem? (i := 1579) (by decide +kernel)⟩
theorem lw_p89 : lw_okq (⟨"CardBowlModel", "goesThrough", "(IIII)V"⟩, 41) := ⟨⟨by decide +kernel, by decide +kernel⟩, List.mem_of_getElem? (i := 1128) (by decide +kernel), List.mem_of_getElem? (i := 1582) (by decide +kernel), List.mem_of_getElem? (i := 1583) (by decide +kernel)⟩
theorem lw_p90 : lw_okq (⟨"CardBowlModel", "seen", "(IIII)I"⟩, 41) := ⟨⟨by decide +kernel, by decide +kernel⟩, List.mem_of_getElem? (i := 1128) (by decide +kernel), List.mem_of_getElem? (i := 1586) (by decide +kernel), List.mem_of_getElem? (i := 1587) (by decide +kernel)⟩
theorem lw_p91 : lw_okq (⟨"CardBowlModel", "minutes", "(II)I"⟩, 41) := ⟨⟨by decide +kernel, by decide +kernel⟩, List.mem_of_getElem? (i := 1128) (by decide +kernel), List.mem_of_getElem? (i := 1590) (by decide +kernel), List.mem_of_getElem? (i := 1591) (by decide +kernel)⟩
theorem lw_p92 : lw_okq (⟨"CardBowlModel", "overOf", "(I)I"⟩, 41) := ⟨⟨by decide +kernel, by decide +kernel⟩, List.mem_of_getElem? (i := 1128) (by decide +kernel), List.mem_of_getElem? (i := 1596) (by decide +kernel), List.mem_of_getElem? (i := 1597) (by decide +kernel)⟩
theorem lw_p93 : lw_okq (⟨"CardBowlModel", "rowOf", "(II)V"⟩, 41) := ⟨⟨by decide +kernel, by decide +kernel⟩, List.mem_of_getElem? (i := 1128) (by decide +kernel), List.mem_of_getElem? (i := 1608) (by decide +kernel), List.mem_of_getElem? (i := 1609) (by decide +kernel)⟩
theorem lw_p94 : lw_okq (⟨"CardBowlModel", "listsTen", "(I)V"⟩, 41) := ⟨⟨by decide +kernel, by decide +kernel⟩, List.mem_of_getElem? (i := 1128) (by decide +kernel), List.mem_of_getElem? (i := 1620) (by decide +kernel), List.mem_of_getElem? (i := 1621) (by decide +kernel)⟩
theorem lw_p95 : lw_okq (⟨"CardBowlModel", "covers", "(II)I"⟩, 41) := ⟨⟨by decide +kernel, by decide +kernel⟩, List.mem_of_getElem? (i := 1128) (by decide +kernel), List.mem_of_getElem? (i := 1624) (by decide +kernel), List.mem_of_getElem? (i := 1625) (by decide +kernel)⟩
def lw_privs_6 : List (MethodName × Nat) := [(⟨"CardBowlModel", "partOf", "(I)J"⟩, 41), (⟨"CardBowlModel", "owesAlready", "(III)Z"⟩, 41), (⟨"CardBowlModel", "comes", "(IIIII)V"⟩, 41), (⟨"CardBowlModel", "placeOf", "(II)I"⟩, 41), (⟨"CardBowlModel", "slightsOf", "(I)I"⟩, 41), (⟨"CardBowlModel", "isRound", "(II)Z"⟩, 41), (⟨"CardBowlModel", "rounds", "(II)V"⟩, 41), (⟨"CardBowlModel", "lists", "(I)V"⟩, 41), (⟨"CardBowlModel", "weighs", "(I)V"⟩, 41), (⟨"CardBowlModel", "goesThrough", "(IIII)V"⟩, 41), (⟨"CardBowlModel", "seen", "(IIII)I"⟩, 41), (⟨"CardBowlModel", "minutes", "(II)I"⟩, 41), (⟨"CardBowlModel", "overOf", "(I)I"⟩, 41), (⟨"CardBowlModel", "rowOf", "(II)V"⟩, 41), (⟨"CardBowlModel", "listsTen", "(I)V"⟩, 41), (⟨"CardBowlModel", "covers", "(II)I"⟩, 41)]
theorem lw_r6 : ∀ q ∈ lw_privs_6, lw_okq q := List.forall_mem_cons.mpr ⟨lw_p80, List.forall_mem_cons.mpr ⟨lw_p81, List.forall_mem_cons.mpr ⟨lw_p82, List.forall_mem_cons.mpr ⟨lw_p83, List.forall_mem_cons.mpr ⟨lw_p84, List.forall_mem_cons.mpr ⟨lw_p85, List.forall_mem_cons.mpr ⟨lw_p86, List.forall_mem_cons.mpr ⟨lw_p87, List.forall_mem_cons.mpr ⟨lw_p88, List.forall_mem_cons.mpr ⟨lw_p89, List.forall_mem_cons.mpr ⟨lw_p90, List.forall_mem_cons.mpr ⟨lw_p91, List.forall_mem_cons.mpr ⟨lw_p92, List.forall_mem_cons.mpr ⟨lw_p93, List.forall_mem_cons.mpr ⟨lw_p94, List.forall_mem_cons.mpr ⟨lw_p95, fun _ h => absurd h List.not_mem_nil⟩⟩⟩⟩⟩⟩⟩⟩⟩⟩⟩⟩⟩⟩⟩⟩
theorem lw_p96 : lw_okq (⟨"CardBowlModel", "finds", "(II)Z"⟩, 41) := ⟨⟨by decide +kernel, by decide +kernel⟩, List.mem_of_getElem? (i := 1128) (by decide +kernel), List.mem_of_getElem? (i := 1636) (by decide +kernel), List.mem_of_getElem? (i := 1637) (by decide +kernel)⟩
theorem lw_p97 : lw_okq (⟨"CardBowlModel", "walks", "(I)V"⟩, 41) := ⟨⟨by decide +kernel, by decide +kernel⟩, List.mem_of_getElem? (i := 1128) (by decide +kernel), List.mem_of_getElem? (i := 1640) (by decide +kernel), List.mem_of_getElem? (i := 1641) (by decide +kernel)⟩
theorem lw_p98 : lw_okq (⟨"CardBowlModel", "hangs", "(III)I"⟩, 41) := ⟨⟨by decide +kernel, by decide +kernel⟩, List.mem_of_getElem? (i := 1128) (by decide +kernel), List.mem_of_getElem? (i := 1652) (by decide +kernel), List.mem_of_getElem? (i := 1653) (by decide +kernel)⟩
theorem lw_p99 : lw_okq (⟨"CardBowlModel", "callsAll", "()V"⟩, 41) := ⟨⟨by decide +kernel, by decide +kernel⟩, List.mem_of_getElem? (i := 1128) (by decide +kernel), List.mem_of_getElem? (i := 1668) (by decide +kernel), List.mem_of_getElem? (i := 1669) (by decide +kernel)⟩
theorem lw_p100 : lw_okq (⟨"CardBowlModel", "ringOf", "(I)I"⟩, 41) := ⟨⟨by decide +kernel, by decide +kernel⟩, List.mem_of_getElem? (i := 1128) (by decide +kernel), List.mem_of_getElem? (i := 1672) (by decide +kernel), List.mem_of_getElem? (i := 1673) (by decide +kernel)⟩
theorem lw_p101 : lw_okq (⟨"CardBowlModel", "comesTo", "(I)I"⟩, 41) := ⟨⟨by decide +kernel, by decide +kernel⟩, List.mem_of_getElem? (i := 1128) (by decide +kernel), List.mem_of_getElem? (i := 1676) (by decide +kernel), List.mem_of_getElem? (i := 1677) (by decide +kernel)⟩
def lw_privs_7 : List (MethodName × Nat) := [(⟨"CardBowlModel", "finds", "(II)Z"⟩, 41), (⟨"CardBowlModel", "walks", "(I)V"⟩, 41), (⟨"CardBowlModel", "hangs", "(III)I"⟩, 41), (⟨"CardBowlModel", "callsAll", "()V"⟩, 41), (⟨"CardBowlModel", "ringOf", "(I)I"⟩, 41), (⟨"CardBowlModel", "comesTo", "(I)I"⟩, 41)]
theorem lw_r7 : ∀ q ∈ lw_privs_7, lw_okq q := List.forall_mem_cons.mpr ⟨lw_p96, List.forall_mem_cons.mpr ⟨lw_p97, List.forall_mem_cons.mpr ⟨lw_p98, List.forall_mem_cons.mpr ⟨lw_p99, List.forall_mem_cons.mpr ⟨lw_p100, List.forall_mem_cons.mpr ⟨lw_p101, fun _ h => absurd h List.not_mem_nil⟩⟩⟩⟩⟩⟩
def lw_privs : List (MethodName × Nat) := lw_privs_1 ++ (lw_privs_2 ++ (lw_privs_3 ++ (lw_privs_4 ++ (lw_privs_5 ++ (lw_privs_6 ++ (lw_privs_7))))))
def lw_tbl : List Cond := k2_sels lw_privs ++ tables_1
theorem lw_privs_ok : ∀ q ∈ lw_privs, lw_okq q := by
  show ∀ q ∈ lw_privs_1 ++ (lw_privs_2 ++ (lw_privs_3 ++ (lw_privs_4 ++ (lw_privs_5 ++ (lw_privs_6 ++ (lw_privs_7)))))), lw_okq q
  exact List.forall_mem_append.mpr ⟨lw_r1, List.forall_mem_append.mpr ⟨lw_r2, List.forall_mem_append.mpr ⟨lw_r3, List.forall_mem_append.mpr ⟨lw_r4, List.forall_mem_append.mpr ⟨lw_r5, List.forall_mem_append.mpr ⟨lw_r6, lw_r7⟩⟩⟩⟩⟩⟩
end
section
/-! ===== BEGIN words of one list among another's, by their places ===== -/
theorem goodIn_r {big : List Cond} (ws : List Cond) (ps : List Nat) (hp : ws = ps.filterMap (fun i => big[i]?)) (h : ws.all goodWord = true) : GoodIn big ws := by
  intro w hw
  have h1 := List.all_eq_true.mp h w hw
  rw [hp] at hw
  obtain ⟨i, -, hi⟩ := List.mem_filterMap.mp hw
  have hm : w ∈ big := by first | exact List.mem_of_getElem? hi | exact List.getElem?_mem hi
  exact ⟨hm, good_of_word h1⟩
theorem goodIn_app {big a b : List Cond} (ha : GoodIn big a) (hb : GoodIn big b) : GoodIn big (a ++ b) := fun w h => (List.mem_append.mp h).elim (ha w) (hb w)
theorem goodIn_ca {big a b : List Cond} {c : Cond} (ha : GoodIn big (c :: a)) (hb : GoodIn big b) : GoodIn big (c :: (a ++ b)) := fun w h => (List.mem_cons.mp h).elim (fun e => ha w (List.mem_cons.mpr (Or.inl e))) (fun h => (List.mem_append.mp h).elim (fun h => ha w (List.mem_cons.mpr (Or.inr h))) (hb w))
theorem goodIn_sub {big ws : List Cond} (hm : ∀ w ∈ ws, w ∈ big) (h : ws.all goodWord = true) : GoodIn big ws := fun w hw => ⟨hm w hw, good_of_word (List.all_eq_true.mp h w hw)⟩
/-! ===== END ===== -/

/-! ===== BEGIN printed: names, fields, word lists, decode rows ===== -/
def RX0 : String := "CardBowl$Code"
def TX0 : u_T := fun k => match k with
  | 0 => ("CardBowl$Code", "lines", "I", false)
  | 1 => ("CardBowl$Code", "used", "I", false)
  | 2 => ("CardBowl$Code", "paying", "[I", true)
  | 3 => ("CardBowl$Code", "kind", "[I", true)
  | 4 => ("CardBowl$Code", "within", "[I", true)
  | 5 => ("CardBowl$Code", "start", "[I", true)
  | 6 => ("CardBowl$Code", "stop", "[I", true)
  | 7 => ("CardBowl$Code", "tests", "[I", true)
  | 8 => ("CardBowl$Code", "facts", "[I", true)
  | _ => ("CardBowl$Code", "beyond", "Z", false)
def tyX0 : Nat → FieldType := fun k => match k with
  | 0 => .int
  | 1 => .int
  | 2 => .array .int
  | 3 => .array .int
  | 4 => .array .int
  | 5 => .array .int
  | 6 => .array .int
  | 7 => .array .int
  | 8 => .array .int
  | _ => .boolean
abbrev wsX00 : List Cond := u_ws RX0 TX0 10
theorem nmX0 : ∀ a, a < 10 → ∀ b, b < 10 → a ≠ b → (TX0 a).2.1 ≠ (TX0 b).2.1 := by decide +kernel
theorem tyX0_ok : ∀ k, k < 10 → parseFieldDescriptor (TX0 k).2.2.1 = some (tyX0 k) := by decide +kernel
abbrev cX0_init : ByteArray := prog_2_method_1_code
def yX0_init : MethodName := ⟨RX0, "<init>", "()V"⟩
abbrev cX0_clear : ByteArray := prog_2_method_2_code
def yX0_clear : MethodName := ⟨RX0, "clear", "()V"⟩
abbrev cX0_copy : ByteArray := prog_2_method_3_code
def yX0_copy : MethodName := ⟨RX0, "copy", "(LCardBowl$Code;)V"⟩
abbrev cX0_put : ByteArray := prog_2_method_4_code
def yX0_put : MethodName := ⟨RX0, "put", "(I)V"⟩
abbrev cX0_lineFor : ByteArray := prog_2_method_5_code
def yX0_lineFor : MethodName := ⟨RX0, "lineFor", "(IIIIII)I"⟩
abbrev cX0_holds : ByteArray := prog_2_method_6_code
def yX0_holds : MethodName := ⟨RX0, "holds", "(I)Z"⟩
abbrev cX0_compares : ByteArray := prog_2_method_7_code
def yX0_compares : MethodName := ⟨RX0, "compares", "(JIJ)Z"⟩
abbrev cX0_partOf : ByteArray := prog_2_method_8_code
def yX0_partOf : MethodName := ⟨RX0, "partOf", "(I)I"⟩
abbrev cX0_bounded : ByteArray := prog_2_method_9_code
def yX0_bounded : MethodName := ⟨RX0, "bounded", "(J)J"⟩
def RX1 : String := "CardBowl$Debts"
def TX1 : u_T := fun k => match k with
  | 0 => ("CardBowl$Debts", "size", "I", false)
  | 1 => ("CardBowl$Debts", "debtor", "[I", true)
  | 2 => ("CardBowl$Debts", "creditor", "[I", true)
  | 3 => ("CardBowl$Debts", "kind", "[I", true)
  | 4 => ("CardBowl$Debts", "due", "[I", true)
  | 5 => ("CardBowl$Debts", "came", "[I", true)
  | 6 => ("CardBowl$Debts", "open", "[I", true)
  | _ => ("CardBowl$Debts", "kinds", "[I", true)
def tyX1 : Nat → FieldType := fun k => match k with
  | 0 => .int
  | 1 => .array .int
  | 2 => .array .int
  | 3 => .array .int
  | 4 => .array .int
  | 5 => .array .int
  | 6 => .array .int
  | _ => .array .int
abbrev wsX10 : List Cond := u_ws RX1 TX1 8
theorem nmX1 : ∀ a, a < 8 → ∀ b, b < 8 → a ≠ b → (TX1 a).2.1 ≠ (TX1 b).2.1 := by decide +kernel
theorem tyX1_ok : ∀ k, k < 8 → parseFieldDescriptor (TX1 k).2.2.1 = some (tyX1 k) := by decide +kernel
abbrev cX1_init : ByteArray := prog_3_method_1_code
def yX1_init : MethodName := ⟨RX1, "<init>", "()V"⟩
abbrev cX1_clear : ByteArray := prog_3_method_2_code
def yX1_clear : MethodName := ⟨RX1, "clear", "()V"⟩
abbrev cX1_copy : ByteArray := prog_3_method_3_code
def yX1_copy : MethodName := ⟨RX1, "copy", "(LCardBowl$Debts;)V"⟩
abbrev cX1_kindsOf : ByteArray := prog_3_method_4_code
def yX1_kindsOf : MethodName := ⟨RX1, "kindsOf", "(II)I"⟩
abbrev cX1_add : ByteArray := prog_3_method_5_code
def yX1_add : MethodName := ⟨RX1, "add", "(IIIII)V"⟩
abbrev cX1_settle : ByteArray := prog_3_method_6_code
def yX1_settle : MethodName := ⟨RX1, "settle", "(III)I"⟩
abbrev cX1_move : ByteArray := prog_3_method_7_code
def yX1_move : MethodName := ⟨RX1, "move", "(II)V"⟩
abbrev cX1_nth : ByteArray := prog_3_method_8_code
def yX1_nth : MethodName := ⟨RX1, "nth", "(II)I"⟩
abbrev cX1_overdue : ByteArray := prog_3_method_9_code
def yX1_overdue : MethodName := ⟨RX1, "overdue", "(I)I"⟩
abbrev cX1_overdueTo : ByteArray := prog_3_method_10_code
def yX1_overdueTo : MethodName := ⟨RX1, "overdueTo", "(II)I"⟩
def RX2 : String := "CardBowl$Deeds"
def TX2 : u_T := fun k => match k with
  | 0 => ("CardBowl$Deeds", "size", "I", false)
  | 1 => ("CardBowl$Deeds", "who", "[I", true)
  | 2 => ("CardBowl$Deeds", "whom", "[I", true)
  | 3 => ("CardBowl$Deeds", "what", "[I", true)
  | _ => ("CardBowl$Deeds", "day", "[I", true)
def tyX2 : Nat → FieldType := fun k => match k with
  | 0 => .int
  | 1 => .array .int
  | 2 => .array .int
  | 3 => .array .int
  | _ => .array .int
abbrev wsX20 : List Cond := u_ws RX2 TX2 5
theorem nmX2 : ∀ a, a < 5 → ∀ b, b < 5 → a ≠ b → (TX2 a).2.1 ≠ (TX2 b).2.1 := by decide +kernel
theorem tyX2_ok : ∀ k, k < 5 → parseFieldDescriptor (TX2 k).2.2.1 = some (tyX2 k) := by decide +kernel
abbrev cX2_init : ByteArray := prog_4_method_1_code
def yX2_init : MethodName := ⟨RX2, "<init>", "()V"⟩
abbrev cX2_copy : ByteArray := prog_4_method_2_code
def yX2_copy : MethodName := ⟨RX2, "copy", "(LCardBowl$Deeds;)V"⟩
abbrev cX2_isFull : ByteArray := prog_4_method_3_code
def yX2_isFull : MethodName := ⟨RX2, "isFull", "()Z"⟩
abbrev cX2_add : ByteArray := prog_4_method_4_code
def yX2_add : MethodName := ⟨RX2, "add", "(IIII)V"⟩
abbrev cX2_callsBy : ByteArray := prog_4_method_5_code
def yX2_callsBy : MethodName := ⟨RX2, "callsBy", "(I)I"⟩
abbrev cX2_callsTo : ByteArray := prog_4_method_6_code
def yX2_callsTo : MethodName := ⟨RX2, "callsTo", "(I)I"⟩
def RX3 : String := "CardBowl$Reader"
def TX3 : u_T := fun k => match k with
  | 0 => ("CardBowl$Reader", "town", "LCardBowl$Town;", true)
  | 1 => ("CardBowl$Reader", "code", "LCardBowl$Code;", true)
  | 2 => ("CardBowl$Reader", "fault", "I", false)
  | 3 => ("CardBowl$Reader", "place", "I", false)
  | 4 => ("CardBowl$Reader", "text", "[B", false)
  | 5 => ("CardBowl$Reader", "size", "I", false)
  | 6 => ("CardBowl$Reader", "begin", "I", false)
  | 7 => ("CardBowl$Reader", "next", "I", false)
  | 8 => ("CardBowl$Reader", "kind", "I", false)
  | _ => ("CardBowl$Reader", "value", "I", false)
def tyX3 : Nat → FieldType := fun k => match k with
  | 0 => .object "CardBowl$Town"
  | 1 => .object "CardBowl$Code"
  | 2 => .int
  | 3 => .int
  | 4 => .array .byte
  | 5 => .int
  | 6 => .int
  | 7 => .int
  | 8 => .int
  | _ => .int
abbrev wsX30 : List Cond := u_ws RX3 TX3 10
theorem nmX3 : ∀ a, a < 10 → ∀ b, b < 10 → a ≠ b → (TX3 a).2.1 ≠ (TX3 b).2.1 := by decide +kernel
theorem tyX3_ok : ∀ k, k < 10 → parseFieldDescriptor (TX3 k).2.2.1 = some (tyX3 k) := by decide +kernel
abbrev cX3_init : ByteArray := prog_5_method_1_code
def yX3_init : MethodName := ⟨RX3, "<init>", "()V"⟩
abbrev cX3_read : ByteArray := prog_5_method_2_code
def yX3_read : MethodName := ⟨RX3, "read", "([BI)V"⟩
abbrev cX3_readOther : ByteArray := prog_5_method_3_code
def yX3_readOther : MethodName := ⟨RX3, "readOther", "(I)V"⟩
abbrev cX3_closeLine : ByteArray := prog_5_method_4_code
def yX3_closeLine : MethodName := ⟨RX3, "closeLine", "()V"⟩
abbrev cX3_readHouse : ByteArray := prog_5_method_5_code
def yX3_readHouse : MethodName := ⟨RX3, "readHouse", "()V"⟩
abbrev cX3_readKnow : ByteArray := prog_5_method_6_code
def yX3_readKnow : MethodName := ⟨RX3, "readKnow", "()V"⟩
abbrev cX3_readOwes : ByteArray := prog_5_method_7_code
def yX3_readOwes : MethodName := ⟨RX3, "readOwes", "(I)V"⟩
abbrev cX3_readTests : ByteArray := prog_5_method_8_code
def yX3_readTests : MethodName := ⟨RX3, "readTests", "()V"⟩
abbrev cX3_choice : ByteArray := prog_5_method_9_code
def yX3_choice : MethodName := ⟨RX3, "choice", "(Ljava/lang/String;)I"⟩
abbrev cX3_takes : ByteArray := prog_5_method_10_code
def yX3_takes : MethodName := ⟨RX3, "takes", "(Ljava/lang/String;)Z"⟩
abbrev cX3_number : ByteArray := prog_5_method_11_code
def yX3_number : MethodName := ⟨RX3, "number", "(II)I"⟩
abbrev cX3_refuse : ByteArray := prog_5_method_12_code
def yX3_refuse : MethodName := ⟨RX3, "refuse", "(I)V"⟩
abbrev cX3_advance : ByteArray := prog_5_method_13_code
def yX3_advance : MethodName := ⟨RX3, "advance", "()V"⟩
abbrev cX3_takeWord : ByteArray := prog_5_method_14_code
def yX3_takeWord : MethodName := ⟨RX3, "takeWord", "()V"⟩
abbrev cX3_takeNumber : ByteArray := prog_5_method_15_code
def yX3_takeNumber : MethodName := ⟨RX3, "takeNumber", "()V"⟩
abbrev cX3_among : ByteArray := prog_5_method_16_code
def yX3_among : MethodName := ⟨RX3, "among", "(Ljava/lang/String;)I"⟩
def RX4 : String := "CardBowl$Rounds"
def TX4 : u_T := fun k => match k with
  | 0 => ("CardBowl$Rounds", "planned", "Z", false)
  | 1 => ("CardBowl$Rounds", "bestWorth", "I", false)
  | 2 => ("CardBowl$Rounds", "bestOver", "I", false)
  | 3 => ("CardBowl$Rounds", "length", "I", false)
  | 4 => ("CardBowl$Rounds", "order", "[I", true)
  | 5 => ("CardBowl$Rounds", "owner", "I", false)
  | 6 => ("CardBowl$Rounds", "weekday", "I", false)
  | 7 => ("CardBowl$Rounds", "spots", "I", false)
  | 8 => ("CardBowl$Rounds", "spot", "[I", true)
  | 9 => ("CardBowl$Rounds", "deadline", "[I", true)
  | 10 => ("CardBowl$Rounds", "opens", "[I", true)
  | 11 => ("CardBowl$Rounds", "closes", "[I", true)
  | 12 => ("CardBowl$Rounds", "stays", "[I", true)
  | 13 => ("CardBowl$Rounds", "apart", "[I", true)
  | 14 => ("CardBowl$Rounds", "minute", "[I", true)
  | 15 => ("CardBowl$Rounds", "soonest", "[I", true)
  | _ => ("CardBowl$Rounds", "sums", "[I", true)
def tyX4 : Nat → FieldType := fun k => match k with
  | 0 => .boolean
  | 1 => .int
  | 2 => .int
  | 3 => .int
  | 4 => .array .int
  | 5 => .int
  | 6 => .int
  | 7 => .int
  | 8 => .array .int
  | 9 => .array .int
  | 10 => .array .int
  | 11 => .array .int
  | 12 => .array .int
  | 13 => .array .int
  | 14 => .array .int
  | 15 => .array .int
  | _ => .array .int
abbrev wsX40 : List Cond := u_ws RX4 TX4 17
theorem nmX4 : ∀ a, a < 17 → ∀ b, b < 17 → a ≠ b → (TX4 a).2.1 ≠ (TX4 b).2.1 := by decide +kernel
theorem tyX4_ok : ∀ k, k < 17 → parseFieldDescriptor (TX4 k).2.2.1 = some (tyX4 k) := by decide +kernel
abbrev cX4_init : ByteArray := prog_6_method_1_code
def yX4_init : MethodName := ⟨RX4, "<init>", "()V"⟩
abbrev cX4_plan : ByteArray := prog_6_method_2_code
def yX4_plan : MethodName := ⟨RX4, "plan", "(LCardBowl$State;II)V"⟩
abbrev cX4_lookAtSpots : ByteArray := prog_6_method_3_code
def yX4_lookAtSpots : MethodName := ⟨RX4, "lookAtSpots", "(LCardBowl$State;I)V"⟩
abbrev cX4_lookAt : ByteArray := prog_6_method_4_code
def yX4_lookAt : MethodName := ⟨RX4, "lookAt", "(LCardBowl$State;II)V"⟩
abbrev cX4_isByCall : ByteArray := prog_6_method_5_code
def yX4_isByCall : MethodName := ⟨RX4, "isByCall", "(LCardBowl$State;II)Z"⟩
abbrev cX4_isAtHome : ByteArray := prog_6_method_6_code
def yX4_isAtHome : MethodName := ⟨RX4, "isAtHome", "(LCardBowl$State;III)Z"⟩
abbrev cX4_openSpots : ByteArray := prog_6_method_7_code
def yX4_openSpots : MethodName := ⟨RX4, "openSpots", "(LCardBowl$State;I)I"⟩
abbrev cX4_seen : ByteArray := prog_6_method_8_code
def yX4_seen : MethodName := ⟨RX4, "seen", "(II)I"⟩
abbrev cX4_reckonMinutes : ByteArray := prog_6_method_9_code
def yX4_reckonMinutes : MethodName := ⟨RX4, "reckonMinutes", "(II)V"⟩
abbrev cX4_arrival : ByteArray := prog_6_method_10_code
def yX4_arrival : MethodName := ⟨RX4, "arrival", "(III)I"⟩
abbrev cX4_bestSet : ByteArray := prog_6_method_11_code
def yX4_bestSet : MethodName := ⟨RX4, "bestSet", "(LCardBowl$State;I)I"⟩
abbrev cX4_worthOf : ByteArray := prog_6_method_12_code
def yX4_worthOf : MethodName := ⟨RX4, "worthOf", "(I)I"⟩
abbrev cX4_reckonLatest : ByteArray := prog_6_method_13_code
def yX4_reckonLatest : MethodName := ⟨RX4, "reckonLatest", "(II)V"⟩
abbrev cX4_latest : ByteArray := prog_6_method_14_code
def yX4_latest : MethodName := ⟨RX4, "latest", "(II)I"⟩
abbrev cX4_putInOrder : ByteArray := prog_6_method_15_code
def yX4_putInOrder : MethodName := ⟨RX4, "putInOrder", "(II)V"⟩
abbrev cX4_canWalk : ByteArray := prog_6_method_16_code
def yX4_canWalk : MethodName := ⟨RX4, "canWalk", "(LCardBowl$State;IILCardBowl$Slot;)Z"⟩
abbrev cX4_fewestDays : ByteArray := prog_6_method_17_code
def yX4_fewestDays : MethodName := ⟨RX4, "fewestDays", "(LCardBowl$State;I)I"⟩
abbrev cX4_gatherDeadlines : ByteArray := prog_6_method_18_code
def yX4_gatherDeadlines : MethodName := ⟨RX4, "gatherDeadlines", "(LCardBowl$State;I)V"⟩
abbrev cX4_inTime : ByteArray := prog_6_method_19_code
def yX4_inTime : MethodName := ⟨RX4, "inTime", "(I)I"⟩
abbrev cX4_addDay : ByteArray := prog_6_method_20_code
def yX4_addDay : MethodName := ⟨RX4, "addDay", "(II)V"⟩
abbrev cX4_lostBits : ByteArray := prog_6_method_21_code
def yX4_lostBits : MethodName := ⟨RX4, "lostBits", "(LCardBowl$State;I)I"⟩
abbrev cX4_canBeSeen : ByteArray := prog_6_method_22_code
def yX4_canBeSeen : MethodName := ⟨RX4, "canBeSeen", "(LCardBowl$State;III)Z"⟩
def RX5 : String := "CardBowl$Slot"
def TX5 : u_T := fun k => match k with
  | 0 => ("CardBowl$Slot", "filled", "Z", false)
  | 1 => ("CardBowl$Slot", "width", "I", false)
  | 2 => ("CardBowl$Slot", "size", "I", false)
  | _ => ("CardBowl$Slot", "numbers", "[J", true)
def tyX5 : Nat → FieldType := fun k => match k with
  | 0 => .boolean
  | 1 => .int
  | 2 => .int
  | _ => .array .long
abbrev wsX50 : List Cond := u_ws RX5 TX5 4
theorem nmX5 : ∀ a, a < 4 → ∀ b, b < 4 → a ≠ b → (TX5 a).2.1 ≠ (TX5 b).2.1 := by decide +kernel
theorem tyX5_ok : ∀ k, k < 4 → parseFieldDescriptor (TX5 k).2.2.1 = some (tyX5 k) := by decide +kernel
abbrev cX5_init : ByteArray := prog_7_method_1_code
def yX5_init : MethodName := ⟨RX5, "<init>", "()V"⟩
abbrev cX5_lay : ByteArray := prog_7_method_2_code
def yX5_lay : MethodName := ⟨RX5, "lay", "(II)V"⟩
abbrev cX5_cut : ByteArray := prog_7_method_3_code
def yX5_cut : MethodName := ⟨RX5, "cut", "(J)J"⟩
abbrev cX5_small : ByteArray := prog_7_method_4_code
def yX5_small : MethodName := ⟨RX5, "small", "(I)I"⟩
abbrev cX5_hasRun : ByteArray := prog_7_method_5_code
def yX5_hasRun : MethodName := ⟨RX5, "hasRun", "(II)Z"⟩
def RX6 : String := "CardBowl$State"
def TX6 : u_T := fun k => match k with
  | 0 => ("CardBowl$State", "town", "LCardBowl$Town;", true)
  | 1 => ("CardBowl$State", "code", "LCardBowl$Code;", true)
  | 2 => ("CardBowl$State", "debts", "LCardBowl$Debts;", true)
  | 3 => ("CardBowl$State", "deeds", "LCardBowl$Deeds;", true)
  | 4 => ("CardBowl$State", "knows", "[I", true)
  | 5 => ("CardBowl$State", "day", "I", false)
  | 6 => ("CardBowl$State", "paid", "I", false)
  | _ => ("CardBowl$State", "follows", "[I", true)
def tyX6 : Nat → FieldType := fun k => match k with
  | 0 => .object "CardBowl$Town"
  | 1 => .object "CardBowl$Code"
  | 2 => .object "CardBowl$Debts"
  | 3 => .object "CardBowl$Deeds"
  | 4 => .array .int
  | 5 => .int
  | 6 => .int
  | _ => .array .int
abbrev wsX60 : List Cond := u_ws RX6 TX6 8
theorem nmX6 : ∀ a, a < 8 → ∀ b, b < 8 → a ≠ b → (TX6 a).2.1 ≠ (TX6 b).2.1 := by decide +kernel
theorem tyX6_ok : ∀ k, k < 8 → parseFieldDescriptor (TX6 k).2.2.1 = some (tyX6 k) := by decide +kernel
abbrev cX6_init : ByteArray := prog_8_method_1_code
def yX6_init : MethodName := ⟨RX6, "<init>", "()V"⟩
abbrev cX6_begin : ByteArray := prog_8_method_2_code
def yX6_begin : MethodName := ⟨RX6, "begin", "(LCardBowl$Town;LCardBowl$Code;)V"⟩
abbrev cX6_copy : ByteArray := prog_8_method_3_code
def yX6_copy : MethodName := ⟨RX6, "copy", "(LCardBowl$State;)V"⟩
abbrev cX6_knew : ByteArray := prog_8_method_4_code
def yX6_knew : MethodName := ⟨RX6, "knew", "(II)I"⟩
abbrev cX6_acquaint : ByteArray := prog_8_method_5_code
def yX6_acquaint : MethodName := ⟨RX6, "acquaint", "([III)V"⟩
abbrev cX6_barrier : ByteArray := prog_8_method_6_code
def yX6_barrier : MethodName := ⟨RX6, "barrier", "(III)I"⟩
abbrev cX6_isOpenTo : ByteArray := prog_8_method_7_code
def yX6_isOpenTo : MethodName := ⟨RX6, "isOpenTo", "(II)Z"⟩
abbrev cX6_act : ByteArray := prog_8_method_8_code
def yX6_act : MethodName := ⟨RX6, "act", "(III)I"⟩
abbrev cX6_chance : ByteArray := prog_8_method_9_code
def yX6_chance : MethodName := ⟨RX6, "chance", "(II)I"⟩
abbrev cX6_deal : ByteArray := prog_8_method_10_code
def yX6_deal : MethodName := ⟨RX6, "deal", "(LCardBowl$Debts;LCardBowl$Code;IIIII)I"⟩
abbrev cX6_isOwed : ByteArray := prog_8_method_11_code
def yX6_isOwed : MethodName := ⟨RX6, "isOwed", "(LCardBowl$Debts;III)Z"⟩
abbrev cX6_wouldMake : ByteArray := prog_8_method_12_code
def yX6_wouldMake : MethodName := ⟨RX6, "wouldMake", "(III)I"⟩
abbrev cX6_replay : ByteArray := prog_8_method_13_code
def yX6_replay : MethodName := ⟨RX6, "replay", "(LCardBowl$Code;LCardBowl$Debts;[I)V"⟩
abbrev cX6_hanging : ByteArray := prog_8_method_14_code
def yX6_hanging : MethodName := ⟨RX6, "hanging", "(II)I"⟩
abbrev cX6_holdsTogether : ByteArray := prog_8_method_15_code
def yX6_holdsTogether : MethodName := ⟨RX6, "holdsTogether", "(II)Z"⟩
abbrev cX6_canDrop : ByteArray := prog_8_method_16_code
def yX6_canDrop : MethodName := ⟨RX6, "canDrop", "(II)Z"⟩
abbrev cX6_followCalls : ByteArray := prog_8_method_17_code
def yX6_followCalls : MethodName := ⟨RX6, "followCalls", "()V"⟩
abbrev cX6_ringBits : ByteArray := prog_8_method_18_code
def yX6_ringBits : MethodName := ⟨RX6, "ringBits", "(I)I"⟩
def RX7 : String := "CardBowl$Town"
def TX7 : u_T := fun k => match k with
  | 0 => ("CardBowl$Town", "houses", "I", false)
  | 1 => ("CardBowl$Town", "fresh", "I", false)
  | 2 => ("CardBowl$Town", "introducers", "I", false)
  | 3 => ("CardBowl$Town", "x", "[I", true)
  | 4 => ("CardBowl$Town", "y", "[I", true)
  | 5 => ("CardBowl$Town", "rank", "[I", true)
  | 6 => ("CardBowl$Town", "weekday", "[I", true)
  | 7 => ("CardBowl$Town", "from", "[I", true)
  | 8 => ("CardBowl$Town", "to", "[I", true)
  | 9 => ("CardBowl$Town", "came", "[I", true)
  | 10 => ("CardBowl$Town", "bride", "[I", true)
  | _ => ("CardBowl$Town", "told", "[I", true)
def tyX7 : Nat → FieldType := fun k => match k with
  | 0 => .int
  | 1 => .int
  | 2 => .int
  | 3 => .array .int
  | 4 => .array .int
  | 5 => .array .int
  | 6 => .array .int
  | 7 => .array .int
  | 8 => .array .int
  | 9 => .array .int
  | 10 => .array .int
  | _ => .array .int
abbrev wsX70 : List Cond := u_ws RX7 TX7 12
theorem nmX7 : ∀ a, a < 12 → ∀ b, b < 12 → a ≠ b → (TX7 a).2.1 ≠ (TX7 b).2.1 := by decide +kernel
theorem tyX7_ok : ∀ k, k < 12 → parseFieldDescriptor (TX7 k).2.2.1 = some (tyX7 k) := by decide +kernel
abbrev cX7_init : ByteArray := prog_9_method_1_code
def yX7_init : MethodName := ⟨RX7, "<init>", "()V"⟩
abbrev cX7_clear : ByteArray := prog_9_method_2_code
def yX7_clear : MethodName := ⟨RX7, "clear", "()V"⟩
abbrev cX7_copy : ByteArray := prog_9_method_3_code
def yX7_copy : MethodName := ⟨RX7, "copy", "(LCardBowl$Town;)V"⟩
abbrev cX7_has : ByteArray := prog_9_method_4_code
def yX7_has : MethodName := ⟨RX7, "has", "(I)Z"⟩
abbrev cX7_hasPair : ByteArray := prog_9_method_5_code
def yX7_hasPair : MethodName := ⟨RX7, "hasPair", "(II)Z"⟩
abbrev cX7_minutes : ByteArray := prog_9_method_6_code
def yX7_minutes : MethodName := ⟨RX7, "minutes", "(II)I"⟩
abbrev cX7_isThere : ByteArray := prog_9_method_7_code
def yX7_isThere : MethodName := ⟨RX7, "isThere", "(II)Z"⟩
abbrev cX7_isNew : ByteArray := prog_9_method_8_code
def yX7_isNew : MethodName := ⟨RX7, "isNew", "(II)Z"⟩
abbrev cX7_waits : ByteArray := prog_9_method_9_code
def yX7_waits : MethodName := ⟨RX7, "waits", "(II)Z"⟩
def RX8 : String := "CardBowl$Ways"
def TX8 : u_T := fun k => match k with
  | 0 => ("CardBowl$Ways", "sought", "Z", false)
  | 1 => ("CardBowl$Ways", "length", "I", false)
  | 2 => ("CardBowl$Ways", "calls", "[I", true)
  | 3 => ("CardBowl$Ways", "caller", "I", false)
  | 4 => ("CardBowl$Ways", "goal", "I", false)
  | 5 => ("CardBowl$Ways", "between", "I", false)
  | 6 => ("CardBowl$Ways", "house", "[I", true)
  | 7 => ("CardBowl$Ways", "friends", "[I", true)
  | 8 => ("CardBowl$Ways", "links", "[I", true)
  | 9 => ("CardBowl$Ways", "queue", "[I", true)
  | _ => ("CardBowl$Ways", "latest", "[I", true)
def tyX8 : Nat → FieldType := fun k => match k with
  | 0 => .boolean
  | 1 => .int
  | 2 => .array .int
  | 3 => .int
  | 4 => .int
  | 5 => .int
  | 6 => .array .int
  | 7 => .array .int
  | 8 => .array .int
  | 9 => .array .int
  | _ => .array .int
abbrev wsX80 : List Cond := u_ws RX8 TX8 11
theorem nmX8 : ∀ a, a < 11 → ∀ b, b < 11 → a ≠ b → (TX8 a).2.1 ≠ (TX8 b).2.1 := by decide +kernel
theorem tyX8_ok : ∀ k, k < 11 → parseFieldDescriptor (TX8 k).2.2.1 = some (tyX8 k) := by decide +kernel
abbrev cX8_init : ByteArray := prog_10_method_1_code
def yX8_init : MethodName := ⟨RX8, "<init>", "()V"⟩
abbrev cX8_seek : ByteArray := prog_10_method_2_code
def yX8_seek : MethodName := ⟨RX8, "seek", "(LCardBowl$State;II)V"⟩
abbrev cX8_everyoneToKnow : ByteArray := prog_10_method_3_code
def yX8_everyoneToKnow : MethodName := ⟨RX8, "everyoneToKnow", "(LCardBowl$State;I)I"⟩
abbrev cX8_gather : ByteArray := prog_10_method_4_code
def yX8_gather : MethodName := ⟨RX8, "gather", "(LCardBowl$State;II)V"⟩
abbrev cX8_linksOf : ByteArray := prog_10_method_5_code
def yX8_linksOf : MethodName := ⟨RX8, "linksOf", "(LCardBowl$State;I)I"⟩
abbrev cX8_search : ByteArray := prog_10_method_6_code
def yX8_search : MethodName := ⟨RX8, "search", "(LCardBowl$State;II)V"⟩
abbrev cX8_tell : ByteArray := prog_10_method_7_code
def yX8_tell : MethodName := ⟨RX8, "tell", "(II)V"⟩
def RX9 : String := "CardBowl"
def TX9 : u_T := fun k => match k with
  | 0 => ("CardBowl", "tape", "[B", true)
  | 1 => ("CardBowl", "tapeSize", "I", false)
  | 2 => ("CardBowl", "reader", "LCardBowl$Reader;", true)
  | 3 => ("CardBowl", "state", "LCardBowl$State;", true)
  | 4 => ("CardBowl", "images", "[LCardBowl$State;", true)
  | 5 => ("CardBowl", "slots", "[LCardBowl$Slot;", true)
  | 6 => ("CardBowl", "rounds", "LCardBowl$Rounds;", true)
  | 7 => ("CardBowl", "ways", "LCardBowl$Ways;", true)
  | 8 => ("CardBowl", "otherDebts", "LCardBowl$Debts;", true)
  | _ => ("CardBowl", "otherKnows", "[I", true)
def tyX9 : Nat → FieldType := fun k => match k with
  | 0 => .array .byte
  | 1 => .int
  | 2 => .object "CardBowl$Reader"
  | 3 => .object "CardBowl$State"
  | 4 => .array (.object "CardBowl$State")
  | 5 => .array (.object "CardBowl$Slot")
  | 6 => .object "CardBowl$Rounds"
  | 7 => .object "CardBowl$Ways"
  | 8 => .object "CardBowl$Debts"
  | _ => .array .int
abbrev wsX90 : List Cond := u_ws RX9 TX9 10
theorem nmX9 : ∀ a, a < 10 → ∀ b, b < 10 → a ≠ b → (TX9 a).2.1 ≠ (TX9 b).2.1 := by decide +kernel
theorem tyX9_ok : ∀ k, k < 10 → parseFieldDescriptor (TX9 k).2.2.1 = some (tyX9 k) := by decide +kernel
abbrev cX9_init : ByteArray := prog_1_method_1_code
def yX9_init : MethodName := ⟨RX9, "<init>", "()V"⟩
abbrev cX9_feed : ByteArray := prog_1_method_2_code
def yX9_feed : MethodName := ⟨RX9, "feed", "(IIIII)I"⟩
abbrev cX9_end : ByteArray := prog_1_method_3_code
def yX9_end : MethodName := ⟨RX9, "end", "(I)I"⟩
abbrev cX9_town : ByteArray := prog_1_method_4_code
def yX9_town : MethodName := ⟨RX9, "town", "()I"⟩
abbrev cX9_fault : ByteArray := prog_1_method_5_code
def yX9_fault : MethodName := ⟨RX9, "fault", "(I)I"⟩
abbrev cX9_days : ByteArray := prog_1_method_6_code
def yX9_days : MethodName := ⟨RX9, "days", "(I)I"⟩
abbrev cX9_bars : ByteArray := prog_1_method_7_code
def yX9_bars : MethodName := ⟨RX9, "bars", "(III)I"⟩
abbrev cX9_does : ByteArray := prog_1_method_8_code
def yX9_does : MethodName := ⟨RX9, "does", "(III)I"⟩
abbrev cX9_meet : ByteArray := prog_1_method_9_code
def yX9_meet : MethodName := ⟨RX9, "meet", "(II)I"⟩
abbrev cX9_done : ByteArray := prog_1_method_10_code
def yX9_done : MethodName := ⟨RX9, "done", "(I)I"⟩
abbrev cX9_known : ByteArray := prog_1_method_11_code
def yX9_known : MethodName := ⟨RX9, "known", "(II)I"⟩
abbrev cX9_debts : ByteArray := prog_1_method_12_code
def yX9_debts : MethodName := ⟨RX9, "debts", "(I)I"⟩
abbrev cX9_debt : ByteArray := prog_1_method_13_code
def yX9_debt : MethodName := ⟨RX9, "debt", "(III)I"⟩
abbrev cX9_slights : ByteArray := prog_1_method_14_code
def yX9_slights : MethodName := ⟨RX9, "slights", "(I)I"⟩
abbrev cX9_first : ByteArray := prog_1_method_15_code
def yX9_first : MethodName := ⟨RX9, "first", "()I"⟩
abbrev cX9_owes : ByteArray := prog_1_method_16_code
def yX9_owes : MethodName := ⟨RX9, "owes", "(III)I"⟩
abbrev cX9_worth : ByteArray := prog_1_method_17_code
def yX9_worth : MethodName := ⟨RX9, "worth", "(II)I"⟩
abbrev cX9_round : ByteArray := prog_1_method_18_code
def yX9_round : MethodName := ⟨RX9, "round", "(III)I"⟩
abbrev cX9_over : ByteArray := prog_1_method_19_code
def yX9_over : MethodName := ⟨RX9, "over", "(II)I"⟩
abbrev cX9_may : ByteArray := prog_1_method_20_code
def yX9_may : MethodName := ⟨RX9, "may", "(III)I"⟩
abbrev cX9_fewest : ByteArray := prog_1_method_21_code
def yX9_fewest : MethodName := ⟨RX9, "fewest", "(I)I"⟩
abbrev cX9_lost : ByteArray := prog_1_method_22_code
def yX9_lost : MethodName := ⟨RX9, "lost", "(I)I"⟩
abbrev cX9_soon : ByteArray := prog_1_method_23_code
def yX9_soon : MethodName := ⟨RX9, "soon", "(II)I"⟩
abbrev cX9_path : ByteArray := prog_1_method_24_code
def yX9_path : MethodName := ⟨RX9, "path", "(III)I"⟩
abbrev cX9_reach : ByteArray := prog_1_method_25_code
def yX9_reach : MethodName := ⟨RX9, "reach", "(I)I"⟩
abbrev cX9_drop : ByteArray := prog_1_method_26_code
def yX9_drop : MethodName := ⟨RX9, "drop", "(I)I"⟩
abbrev cX9_tie : ByteArray := prog_1_method_27_code
def yX9_tie : MethodName := ⟨RX9, "tie", "(II)I"⟩
abbrev cX9_rings : ByteArray := prog_1_method_28_code
def yX9_rings : MethodName := ⟨RX9, "rings", "()I"⟩
abbrev cX9_ring : ByteArray := prog_1_method_29_code
def yX9_ring : MethodName := ⟨RX9, "ring", "(I)I"⟩
abbrev cX9_house : ByteArray := prog_1_method_30_code
def yX9_house : MethodName := ⟨RX9, "house", "(II)I"⟩
abbrev cX9_beside : ByteArray := prog_1_method_31_code
def yX9_beside : MethodName := ⟨RX9, "beside", "(I)I"⟩
abbrev cX9_count : ByteArray := prog_1_method_32_code
def yX9_count : MethodName := ⟨RX9, "count", "(I)I"⟩
abbrev cX9_keep : ByteArray := prog_1_method_33_code
def yX9_keep : MethodName := ⟨RX9, "keep", "(I)I"⟩
abbrev cX9_back : ByteArray := prog_1_method_34_code
def yX9_back : MethodName := ⟨RX9, "back", "(I)I"⟩
abbrev cX9_row : ByteArray := prog_1_method_35_code
def yX9_row : MethodName := ⟨RX9, "row", "(III)I"⟩
abbrev cX9_write : ByteArray := prog_1_method_36_code
def yX9_write : MethodName := ⟨RX9, "write", "(IIJ)I"⟩
abbrev cX9_paste : ByteArray := prog_1_method_37_code
def yX9_paste : MethodName := ⟨RX9, "paste", "(IIIII)I"⟩
abbrev cX9_feedNumber : ByteArray := prog_1_method_38_code
def yX9_feedNumber : MethodName := ⟨RX9, "feedNumber", "(I)V"⟩
abbrev cX9_forget : ByteArray := prog_1_method_39_code
def yX9_forget : MethodName := ⟨RX9, "forget", "()V"⟩
abbrev cX9_isDeed : ByteArray := prog_1_method_40_code
def yX9_isDeed : MethodName := ⟨RX9, "isDeed", "(III)Z"⟩
abbrev cX9_isOuting : ByteArray := prog_1_method_41_code
def yX9_isOuting : MethodName := ⟨RX9, "isOuting", "(II)Z"⟩
abbrev cX9_isSlot : ByteArray := prog_1_method_42_code
def yX9_isSlot : MethodName := ⟨RX9, "isSlot", "(I)Z"⟩
abbrev cX9_isImage : ByteArray := prog_1_method_43_code
def yX9_isImage : MethodName := ⟨RX9, "isImage", "(I)Z"⟩
abbrev cX9_filledSlots : ByteArray := prog_1_method_44_code
def yX9_filledSlots : MethodName := ⟨RX9, "filledSlots", "()I"⟩
def RX10 : String := "CardBowlModel"
def TX10 : u_T := fun k => match k with
  | 0 => ("CardBowlModel", "thrown", "I", false)
  | 1 => ("CardBowlModel", "world", "[I", true)
  | 2 => ("CardBowlModel", "images", "[I", true)
  | 3 => ("CardBowlModel", "hasImage", "[Z", true)
  | 4 => ("CardBowlModel", "tape", "[B", true)
  | 5 => ("CardBowlModel", "taped", "I", false)
  | 6 => ("CardBowlModel", "five", "[I", true)
  | 7 => ("CardBowlModel", "size", "I", false)
  | 8 => ("CardBowlModel", "at", "I", false)
  | 9 => ("CardBowlModel", "from", "I", false)
  | 10 => ("CardBowlModel", "token", "I", false)
  | 11 => ("CardBowlModel", "value", "I", false)
  | 12 => ("CardBowlModel", "faultKind", "I", false)
  | 13 => ("CardBowlModel", "faultPlace", "I", false)
  | 14 => ("CardBowlModel", "fresh", "[I", true)
  | 15 => ("CardBowlModel", "parts", "[I", true)
  | 16 => ("CardBowlModel", "houses", "[I", true)
  | 17 => ("CardBowlModel", "houseMany", "I", false)
  | 18 => ("CardBowlModel", "worthOf", "[I", true)
  | 19 => ("CardBowlModel", "byCall", "[Z", true)
  | 20 => ("CardBowlModel", "over", "[I", true)
  | 21 => ("CardBowlModel", "bestSet", "I", false)
  | 22 => ("CardBowlModel", "bestOver", "I", false)
  | 23 => ("CardBowlModel", "bestWorth", "I", false)
  | 24 => ("CardBowlModel", "row", "[I", true)
  | 25 => ("CardBowlModel", "tenDebts", "[I", true)
  | 26 => ("CardBowlModel", "tenMany", "I", false)
  | 27 => ("CardBowlModel", "fewestBy", "[I", true)
  | 28 => ("CardBowlModel", "covered", "[I", true)
  | 29 => ("CardBowlModel", "queue", "[I", true)
  | 30 => ("CardBowlModel", "cameBy", "[I", true)
  | 31 => ("CardBowlModel", "parent", "[I", true)
  | 32 => ("CardBowlModel", "met", "[Z", true)
  | 33 => ("CardBowlModel", "calls", "[I", true)
  | 34 => ("CardBowlModel", "callMany", "I", false)
  | 35 => ("CardBowlModel", "calledOn", "[I", true)
  | 36 => ("CardBowlModel", "saved", "[I", true)
  | 37 => ("CardBowlModel", "many", "[I", true)
  | 38 => ("CardBowlModel", "width", "[I", true)
  | 39 => ("CardBowlModel", "numbers", "[J", true)
  | _ => ("CardBowlModel", "moving", "[J", true)
def tyX10 : Nat → FieldType := fun k => match k with
  | 0 => .int
  | 1 => .array .int
  | 2 => .array .int
  | 3 => .array .boolean
  | 4 => .array .byte
  | 5 => .int
  | 6 => .array .int
  | 7 => .int
  | 8 => .int
  | 9 => .int
  | 10 => .int
  | 11 => .int
  | 12 => .int
  | 13 => .int
  | 14 => .array .int
  | 15 => .array .int
  | 16 => .array .int
  | 17 => .int
  | 18 => .array .int
  | 19 => .array .boolean
  | 20 => .array .int
  | 21 => .int
  | 22 => .int
  | 23 => .int
  | 24 => .array .int
  | 25 => .array .int
  | 26 => .int
  | 27 => .array .int
  | 28 => .array .int
  | 29 => .array .int
  | 30 => .array .int
  | 31 => .array .int
  | 32 => .array .boolean
  | 33 => .array .int
  | 34 => .int
  | 35 => .array .int
  | 36 => .array .int
  | 37 => .array .int
  | 38 => .array .int
  | 39 => .array .long
  | _ => .array .long
abbrev wsX100 : List Cond := u_ws RX10 TX10 41
theorem nmX10 : ∀ a, a < 41 → ∀ b, b < 41 → a ≠ b → (TX10 a).2.1 ≠ (TX10 b).2.1 := by decide +kernel
theorem tyX10_ok : ∀ k, k < 41 → parseFieldDescriptor (TX10 k).2.2.1 = some (tyX10 k) := by decide +kernel
abbrev cX10_in : ByteArray := prog_12_method_2_code
def yX10_in : MethodName := ⟨RX10, "in", "(JJJ)Z"⟩
abbrev cX10_holds : ByteArray := prog_12_method_3_code
def yX10_holds : MethodName := ⟨RX10, "holds", "(II)Z"⟩
abbrev cX10_ones : ByteArray := prog_12_method_4_code
def yX10_ones : MethodName := ⟨RX10, "ones", "(I)I"⟩
abbrev cX10_init : ByteArray := prog_12_method_5_code
def yX10_init : MethodName := ⟨RX10, "<init>", "()V"⟩
abbrev cX10_keep : ByteArray := prog_12_method_6_code
def yX10_keep : MethodName := ⟨RX10, "keep", "(I)I"⟩
abbrev cX10_back : ByteArray := prog_12_method_7_code
def yX10_back : MethodName := ⟨RX10, "back", "(I)I"⟩
abbrev cX10_ofHouse : ByteArray := prog_12_method_8_code
def yX10_ofHouse : MethodName := ⟨RX10, "ofHouse", "(II)I"⟩
abbrev cX10_ofDebt : ByteArray := prog_12_method_9_code
def yX10_ofDebt : MethodName := ⟨RX10, "ofDebt", "(II)I"⟩
abbrev cX10_isHouse : ByteArray := prog_12_method_10_code
def yX10_isHouse : MethodName := ⟨RX10, "isHouse", "(I)Z"⟩
abbrev cX10_areTwo : ByteArray := prog_12_method_11_code
def yX10_areTwo : MethodName := ⟨RX10, "areTwo", "(II)Z"⟩
abbrev cX10_today : ByteArray := prog_12_method_12_code
def yX10_today : MethodName := ⟨RX10, "today", "()I"⟩
abbrev cX10_feed : ByteArray := prog_12_method_13_code
def yX10_feed : MethodName := ⟨RX10, "feed", "(IIIII)I"⟩
abbrev cX10_end : ByteArray := prog_12_method_14_code
def yX10_end : MethodName := ⟨RX10, "end", "(I)I"⟩
abbrev cX10_see : ByteArray := prog_12_method_15_code
def yX10_see : MethodName := ⟨RX10, "see", "(I)I"⟩
abbrev cX10_advance : ByteArray := prog_12_method_16_code
def yX10_advance : MethodName := ⟨RX10, "advance", "()V"⟩
abbrev cX10_good : ByteArray := prog_12_method_17_code
def yX10_good : MethodName := ⟨RX10, "good", "()Z"⟩
abbrev cX10_errs : ByteArray := prog_12_method_18_code
def yX10_errs : MethodName := ⟨RX10, "errs", "(I)V"⟩
abbrev cX10_is : ByteArray := prog_12_method_19_code
def yX10_is : MethodName := ⟨RX10, "is", "(Ljava/lang/String;)Z"⟩
abbrev cX10_takes : ByteArray := prog_12_method_20_code
def yX10_takes : MethodName := ⟨RX10, "takes", "(Ljava/lang/String;)Z"⟩
abbrev cX10_needs : ByteArray := prog_12_method_21_code
def yX10_needs : MethodName := ⟨RX10, "needs", "(Ljava/lang/String;)V"⟩
abbrev cX10_number : ByteArray := prog_12_method_22_code
def yX10_number : MethodName := ⟨RX10, "number", "(II)I"⟩
abbrev cX10_told : ByteArray := prog_12_method_23_code
def yX10_told : MethodName := ⟨RX10, "told", "(Ljava/lang/String;II)I"⟩
abbrev cX10_fault : ByteArray := prog_12_method_24_code
def yX10_fault : MethodName := ⟨RX10, "fault", "(I)I"⟩
abbrev cX10_dayHere : ByteArray := prog_12_method_25_code
def yX10_dayHere : MethodName := ⟨RX10, "dayHere", "()I"⟩
abbrev cX10_payingHere : ByteArray := prog_12_method_26_code
def yX10_payingHere : MethodName := ⟨RX10, "payingHere", "()I"⟩
abbrev cX10_taken : ByteArray := prog_12_method_27_code
def yX10_taken : MethodName := ⟨RX10, "taken", "(I)I"⟩
abbrev cX10_readHouse : ByteArray := prog_12_method_28_code
def yX10_readHouse : MethodName := ⟨RX10, "readHouse", "()V"⟩
abbrev cX10_readKnow : ByteArray := prog_12_method_29_code
def yX10_readKnow : MethodName := ⟨RX10, "readKnow", "()V"⟩
abbrev cX10_readPart : ByteArray := prog_12_method_30_code
def yX10_readPart : MethodName := ⟨RX10, "readPart", "(I)V"⟩
abbrev cX10_readSum : ByteArray := prog_12_method_31_code
def yX10_readSum : MethodName := ⟨RX10, "readSum", "(I)V"⟩
abbrev cX10_readTest : ByteArray := prog_12_method_32_code
def yX10_readTest : MethodName := ⟨RX10, "readTest", "()V"⟩
abbrev cX10_readOwes : ByteArray := prog_12_method_33_code
def yX10_readOwes : MethodName := ⟨RX10, "readOwes", "()V"⟩
abbrev cX10_readLine : ByteArray := prog_12_method_34_code
def yX10_readLine : MethodName := ⟨RX10, "readLine", "()V"⟩
abbrev cX10_town : ByteArray := prog_12_method_35_code
def yX10_town : MethodName := ⟨RX10, "town", "()I"⟩
abbrev cX10_days : ByteArray := prog_12_method_36_code
def yX10_days : MethodName := ⟨RX10, "days", "(I)I"⟩
abbrev cX10_isThere : ByteArray := prog_12_method_37_code
def yX10_isThere : MethodName := ⟨RX10, "isThere", "(II)Z"⟩
abbrev cX10_isNew : ByteArray := prog_12_method_38_code
def yX10_isNew : MethodName := ⟨RX10, "isNew", "(I)Z"⟩
abbrev cX10_areKnown : ByteArray := prog_12_method_39_code
def yX10_areKnown : MethodName := ⟨RX10, "areKnown", "(II)Z"⟩
abbrev cX10_isIntroduced : ByteArray := prog_12_method_40_code
def yX10_isIntroduced : MethodName := ⟨RX10, "isIntroduced", "(II)Z"⟩
abbrev cX10_barsOf : ByteArray := prog_12_method_41_code
def yX10_barsOf : MethodName := ⟨RX10, "barsOf", "(III)I"⟩
abbrev cX10_isPaying : ByteArray := prog_12_method_42_code
def yX10_isPaying : MethodName := ⟨RX10, "isPaying", "(I)Z"⟩
abbrev cX10_bars : ByteArray := prog_12_method_43_code
def yX10_bars : MethodName := ⟨RX10, "bars", "(III)I"⟩
abbrev cX10_known : ByteArray := prog_12_method_44_code
def yX10_known : MethodName := ⟨RX10, "known", "(II)I"⟩
abbrev cX10_debtsOf : ByteArray := prog_12_method_45_code
def yX10_debtsOf : MethodName := ⟨RX10, "debtsOf", "(I)I"⟩
abbrev cX10_drops : ByteArray := prog_12_method_46_code
def yX10_drops : MethodName := ⟨RX10, "drops", "(I)V"⟩
abbrev cX10_pays : ByteArray := prog_12_method_47_code
def yX10_pays : MethodName := ⟨RX10, "pays", "(III)I"⟩
abbrev cX10_owesAlready : ByteArray := prog_12_method_48_code
def yX10_owesAlready : MethodName := ⟨RX10, "owesAlready", "(III)Z"⟩
abbrev cX10_partOf : ByteArray := prog_12_method_49_code
def yX10_partOf : MethodName := ⟨RX10, "partOf", "(I)J"⟩
abbrev cX10_testHolds : ByteArray := prog_12_method_50_code
def yX10_testHolds : MethodName := ⟨RX10, "testHolds", "(I)Z"⟩
abbrev cX10_lineFor : ByteArray := prog_12_method_51_code
def yX10_lineFor : MethodName := ⟨RX10, "lineFor", "(IIIZI)I"⟩
abbrev cX10_comes : ByteArray := prog_12_method_52_code
def yX10_comes : MethodName := ⟨RX10, "comes", "(IIIII)V"⟩
abbrev cX10_meets : ByteArray := prog_12_method_53_code
def yX10_meets : MethodName := ⟨RX10, "meets", "(II)V"⟩
abbrev cX10_goes : ByteArray := prog_12_method_54_code
def yX10_goes : MethodName := ⟨RX10, "goes", "(IIII)I"⟩
abbrev cX10_notes : ByteArray := prog_12_method_55_code
def yX10_notes : MethodName := ⟨RX10, "notes", "(III)I"⟩
abbrev cX10_does : ByteArray := prog_12_method_56_code
def yX10_does : MethodName := ⟨RX10, "does", "(III)I"⟩
abbrev cX10_meet : ByteArray := prog_12_method_57_code
def yX10_meet : MethodName := ⟨RX10, "meet", "(II)I"⟩
abbrev cX10_done : ByteArray := prog_12_method_58_code
def yX10_done : MethodName := ⟨RX10, "done", "(I)I"⟩
abbrev cX10_debts : ByteArray := prog_12_method_59_code
def yX10_debts : MethodName := ⟨RX10, "debts", "(I)I"⟩
abbrev cX10_placeOf : ByteArray := prog_12_method_60_code
def yX10_placeOf : MethodName := ⟨RX10, "placeOf", "(II)I"⟩
abbrev cX10_debt : ByteArray := prog_12_method_61_code
def yX10_debt : MethodName := ⟨RX10, "debt", "(III)I"⟩
abbrev cX10_slightsOf : ByteArray := prog_12_method_62_code
def yX10_slightsOf : MethodName := ⟨RX10, "slightsOf", "(I)I"⟩
abbrev cX10_slights : ByteArray := prog_12_method_63_code
def yX10_slights : MethodName := ⟨RX10, "slights", "(I)I"⟩
abbrev cX10_first : ByteArray := prog_12_method_64_code
def yX10_first : MethodName := ⟨RX10, "first", "()I"⟩
abbrev cX10_owes : ByteArray := prog_12_method_65_code
def yX10_owes : MethodName := ⟨RX10, "owes", "(III)I"⟩
abbrev cX10_weighs : ByteArray := prog_12_method_66_code
def yX10_weighs : MethodName := ⟨RX10, "weighs", "(I)V"⟩
abbrev cX10_lists : ByteArray := prog_12_method_67_code
def yX10_lists : MethodName := ⟨RX10, "lists", "(I)V"⟩
abbrev cX10_minutes : ByteArray := prog_12_method_68_code
def yX10_minutes : MethodName := ⟨RX10, "minutes", "(II)I"⟩
abbrev cX10_seen : ByteArray := prog_12_method_69_code
def yX10_seen : MethodName := ⟨RX10, "seen", "(IIII)I"⟩
abbrev cX10_goesThrough : ByteArray := prog_12_method_70_code
def yX10_goesThrough : MethodName := ⟨RX10, "goesThrough", "(IIII)V"⟩
abbrev cX10_overOf : ByteArray := prog_12_method_71_code
def yX10_overOf : MethodName := ⟨RX10, "overOf", "(I)I"⟩
abbrev cX10_rounds : ByteArray := prog_12_method_72_code
def yX10_rounds : MethodName := ⟨RX10, "rounds", "(II)V"⟩
abbrev cX10_isRound : ByteArray := prog_12_method_73_code
def yX10_isRound : MethodName := ⟨RX10, "isRound", "(II)Z"⟩
abbrev cX10_worth : ByteArray := prog_12_method_74_code
def yX10_worth : MethodName := ⟨RX10, "worth", "(II)I"⟩
abbrev cX10_over : ByteArray := prog_12_method_75_code
def yX10_over : MethodName := ⟨RX10, "over", "(II)I"⟩
abbrev cX10_rowOf : ByteArray := prog_12_method_76_code
def yX10_rowOf : MethodName := ⟨RX10, "rowOf", "(II)V"⟩
abbrev cX10_round : ByteArray := prog_12_method_77_code
def yX10_round : MethodName := ⟨RX10, "round", "(III)I"⟩
abbrev cX10_may : ByteArray := prog_12_method_78_code
def yX10_may : MethodName := ⟨RX10, "may", "(III)I"⟩
abbrev cX10_listsTen : ByteArray := prog_12_method_79_code
def yX10_listsTen : MethodName := ⟨RX10, "listsTen", "(I)V"⟩
abbrev cX10_covers : ByteArray := prog_12_method_80_code
def yX10_covers : MethodName := ⟨RX10, "covers", "(II)I"⟩
abbrev cX10_fewest : ByteArray := prog_12_method_81_code
def yX10_fewest : MethodName := ⟨RX10, "fewest", "(I)I"⟩
abbrev cX10_lost : ByteArray := prog_12_method_82_code
def yX10_lost : MethodName := ⟨RX10, "lost", "(I)I"⟩
abbrev cX10_finds : ByteArray := prog_12_method_83_code
def yX10_finds : MethodName := ⟨RX10, "finds", "(II)Z"⟩
abbrev cX10_walks : ByteArray := prog_12_method_84_code
def yX10_walks : MethodName := ⟨RX10, "walks", "(I)V"⟩
abbrev cX10_soon : ByteArray := prog_12_method_85_code
def yX10_soon : MethodName := ⟨RX10, "soon", "(II)I"⟩
abbrev cX10_path : ByteArray := prog_12_method_86_code
def yX10_path : MethodName := ⟨RX10, "path", "(III)I"⟩
abbrev cX10_hangs : ByteArray := prog_12_method_87_code
def yX10_hangs : MethodName := ⟨RX10, "hangs", "(III)I"⟩
abbrev cX10_reach : ByteArray := prog_12_method_88_code
def yX10_reach : MethodName := ⟨RX10, "reach", "(I)I"⟩
abbrev cX10_drop : ByteArray := prog_12_method_89_code
def yX10_drop : MethodName := ⟨RX10, "drop", "(I)I"⟩
abbrev cX10_tie : ByteArray := prog_12_method_90_code
def yX10_tie : MethodName := ⟨RX10, "tie", "(II)I"⟩
abbrev cX10_callsAll : ByteArray := prog_12_method_91_code
def yX10_callsAll : MethodName := ⟨RX10, "callsAll", "()V"⟩
abbrev cX10_comesTo : ByteArray := prog_12_method_92_code
def yX10_comesTo : MethodName := ⟨RX10, "comesTo", "(I)I"⟩
abbrev cX10_ringOf : ByteArray := prog_12_method_93_code
def yX10_ringOf : MethodName := ⟨RX10, "ringOf", "(I)I"⟩
abbrev cX10_ring : ByteArray := prog_12_method_94_code
def yX10_ring : MethodName := ⟨RX10, "ring", "(I)I"⟩
abbrev cX10_rings : ByteArray := prog_12_method_95_code
def yX10_rings : MethodName := ⟨RX10, "rings", "()I"⟩
abbrev cX10_house : ByteArray := prog_12_method_96_code
def yX10_house : MethodName := ⟨RX10, "house", "(II)I"⟩
abbrev cX10_beside : ByteArray := prog_12_method_97_code
def yX10_beside : MethodName := ⟨RX10, "beside", "(I)I"⟩
abbrev cX10_count : ByteArray := prog_12_method_98_code
def yX10_count : MethodName := ⟨RX10, "count", "(I)I"⟩
abbrev cX10_isSlot : ByteArray := prog_12_method_99_code
def yX10_isSlot : MethodName := ⟨RX10, "isSlot", "(I)Z"⟩
abbrev cX10_cut : ByteArray := prog_12_method_100_code
def yX10_cut : MethodName := ⟨RX10, "cut", "(JI)J"⟩
abbrev cX10_row : ByteArray := prog_12_method_101_code
def yX10_row : MethodName := ⟨RX10, "row", "(III)I"⟩
abbrev cX10_write : ByteArray := prog_12_method_102_code
def yX10_write : MethodName := ⟨RX10, "write", "(IIJ)I"⟩
abbrev cX10_paste : ByteArray := prog_12_method_103_code
def yX10_paste : MethodName := ⟨RX10, "paste", "(IIIII)I"⟩
def RJx145de : String := "java/io/Serializable"
def TJx145de : u_T := fun k => match k with
  | _ => ("", "", "", false)
def tyJx145de : Nat → FieldType := fun k => match k with
  | _ => .int
abbrev wsJx145de0 : List Cond := u_ws RJx145de TJx145de 0
theorem nmJx145de : ∀ a, a < 0 → ∀ b, b < 0 → a ≠ b → (TJx145de a).2.1 ≠ (TJx145de b).2.1 := by decide +kernel
theorem tyJx145de_ok : ∀ k, k < 0 → parseFieldDescriptor (TJx145de k).2.2.1 = some (tyJx145de k) := by decide +kernel
def RJx9f9b0 : String := "java/lang/CharSequence"
def TJx9f9b0 : u_T := fun k => match k with
  | _ => ("", "", "", false)
def tyJx9f9b0 : Nat → FieldType := fun k => match k with
  | _ => .int
abbrev wsJx9f9b00 : List Cond := u_ws RJx9f9b0 TJx9f9b0 0
theorem nmJx9f9b0 : ∀ a, a < 0 → ∀ b, b < 0 → a ≠ b → (TJx9f9b0 a).2.1 ≠ (TJx9f9b0 b).2.1 := by decide +kernel
theorem tyJx9f9b0_ok : ∀ k, k < 0 → parseFieldDescriptor (TJx9f9b0 k).2.2.1 = some (tyJx9f9b0 k) := by decide +kernel
def RJxb160c : String := "java/lang/Comparable"
def TJxb160c : u_T := fun k => match k with
  | _ => ("", "", "", false)
def tyJxb160c : Nat → FieldType := fun k => match k with
  | _ => .int
abbrev wsJxb160c0 : List Cond := u_ws RJxb160c TJxb160c 0
theorem nmJxb160c : ∀ a, a < 0 → ∀ b, b < 0 → a ≠ b → (TJxb160c a).2.1 ≠ (TJxb160c b).2.1 := by decide +kernel
theorem tyJxb160c_ok : ∀ k, k < 0 → parseFieldDescriptor (TJxb160c k).2.2.1 = some (tyJxb160c k) := by decide +kernel
def RJ6 : String := "java/lang/Integer"
def TJ6 : u_T := fun k => match k with
  | _ => ("", "", "", false)
def tyJ6 : Nat → FieldType := fun k => match k with
  | _ => .int
abbrev wsJ60 : List Cond := u_ws RJ6 TJ6 0
theorem nmJ6 : ∀ a, a < 0 → ∀ b, b < 0 → a ≠ b → (TJ6 a).2.1 ≠ (TJ6 b).2.1 := by decide +kernel
theorem tyJ6_ok : ∀ k, k < 0 → parseFieldDescriptor (TJ6 k).2.2.1 = some (tyJ6 k) := by decide +kernel
abbrev cJ6_numberOfTrailingZeros_0f7a4 : ByteArray := prog_13_method_48_code
def yJ6_numberOfTrailingZeros_0f7a4 : MethodName := ⟨RJ6, "numberOfTrailingZeros", "(I)I"⟩
abbrev cJ6_bitCount_0f7a4 : ByteArray := prog_13_method_49_code
def yJ6_bitCount_0f7a4 : MethodName := ⟨RJ6, "bitCount", "(I)I"⟩
def RJ9 : String := "java/lang/Math"
def TJ9 : u_T := fun k => match k with
  | _ => ("", "", "", false)
def tyJ9 : Nat → FieldType := fun k => match k with
  | _ => .int
abbrev wsJ90 : List Cond := u_ws RJ9 TJ9 0
theorem nmJ9 : ∀ a, a < 0 → ∀ b, b < 0 → a ≠ b → (TJ9 a).2.1 ≠ (TJ9 b).2.1 := by decide +kernel
theorem tyJ9_ok : ∀ k, k < 0 → parseFieldDescriptor (TJ9 k).2.2.1 = some (tyJ9 k) := by decide +kernel
abbrev cJ9_abs_0f7a4 : ByteArray := prog_14_method_59_code
def yJ9_abs_0f7a4 : MethodName := ⟨RJ9, "abs", "(I)I"⟩
abbrev cJ9_max_7cf53 : ByteArray := prog_14_method_65_code
def yJ9_max_7cf53 : MethodName := ⟨RJ9, "max", "(II)I"⟩
abbrev cJ9_min_7cf53 : ByteArray := prog_14_method_69_code
def yJ9_min_7cf53 : MethodName := ⟨RJ9, "min", "(II)I"⟩
def RJ0 : String := "java/lang/String"
def TJ0 : u_T := fun k => match k with
  | _ => ("", "", "", false)
def tyJ0 : Nat → FieldType := fun k => match k with
  | _ => .int
abbrev wsJ00 : List Cond := u_ws RJ0 TJ0 0
theorem nmJ0 : ∀ a, a < 0 → ∀ b, b < 0 → a ≠ b → (TJ0 a).2.1 ≠ (TJ0 b).2.1 := by decide +kernel
theorem tyJ0_ok : ∀ k, k < 0 → parseFieldDescriptor (TJ0 k).2.2.1 = some (tyJ0 k) := by decide +kernel
abbrev cJ0_length_8abf5 : ByteArray := prog_15_method_54_code
def yJ0_length_8abf5 : MethodName := ⟨RJ0, "length", "()I"⟩
abbrev cJ0_charAt_5068e : ByteArray := prog_15_method_56_code
def yJ0_charAt_5068e : MethodName := ⟨RJ0, "charAt", "(I)C"⟩
abbrev cJ0_coder_7d493 : ByteArray := prog_15_method_152_code
def yJ0_coder_7d493 : MethodName := ⟨RJ0, "coder", "()B"⟩
abbrev cJ0_isLatin1_aae02 : ByteArray := prog_15_method_154_code
def yJ0_isLatin1_aae02 : MethodName := ⟨RJ0, "isLatin1", "()Z"⟩
abbrev cJ0_checkIndex_df160 : ByteArray := prog_15_method_155_code
def yJ0_checkIndex_df160 : MethodName := ⟨RJ0, "checkIndex", "(II)V"⟩
def RJ1 : String := "java/lang/StringLatin1"
def TJ1 : u_T := fun k => match k with
  | _ => ("", "", "", false)
def tyJ1 : Nat → FieldType := fun k => match k with
  | _ => .int
abbrev wsJ10 : List Cond := u_ws RJ1 TJ1 0
theorem nmJ1 : ∀ a, a < 0 → ∀ b, b < 0 → a ≠ b → (TJ1 a).2.1 ≠ (TJ1 b).2.1 := by decide +kernel
theorem tyJ1_ok : ∀ k, k < 0 → parseFieldDescriptor (TJ1 k).2.2.1 = some (tyJ1 k) := by decide +kernel
abbrev cJ1_charAt_3b067 : ByteArray := prog_16_method_2_code
def yJ1_charAt_3b067 : MethodName := ⟨RJ1, "charAt", "([BI)C"⟩
def RJ2 : String := "java/lang/StringUTF16"
def TJ2 : u_T := fun k => match k with
  | _ => ("", "", "", false)
def tyJ2 : Nat → FieldType := fun k => match k with
  | _ => .int
abbrev wsJ20 : List Cond := u_ws RJ2 TJ2 0
theorem nmJ2 : ∀ a, a < 0 → ∀ b, b < 0 → a ≠ b → (TJ2 a).2.1 ≠ (TJ2 b).2.1 := by decide +kernel
theorem tyJ2_ok : ∀ k, k < 0 → parseFieldDescriptor (TJ2 k).2.2.1 = some (tyJ2 k) := by decide +kernel
abbrev cJ2_getChar_3b067 : ByteArray := prog_17_method_5_code
def yJ2_getChar_3b067 : MethodName := ⟨RJ2, "getChar", "([BI)C"⟩
abbrev cJ2_length_9d52b : ByteArray := prog_17_method_6_code
def yJ2_length_9d52b : MethodName := ⟨RJ2, "length", "([B)I"⟩
abbrev cJ2_charAt_3b067 : ByteArray := prog_17_method_83_code
def yJ2_charAt_3b067 : MethodName := ⟨RJ2, "charAt", "([BI)C"⟩
abbrev cJ2_checkIndex_2214a : ByteArray := prog_17_method_91_code
def yJ2_checkIndex_2214a : MethodName := ⟨RJ2, "checkIndex", "(I[B)V"⟩
def RJ10 : String := "java/lang/System"
def TJ10 : u_T := fun k => match k with
  | _ => ("", "", "", false)
def tyJ10 : Nat → FieldType := fun k => match k with
  | _ => .int
abbrev wsJ100 : List Cond := u_ws RJ10 TJ10 0
theorem nmJ10 : ∀ a, a < 0 → ∀ b, b < 0 → a ≠ b → (TJ10 a).2.1 ≠ (TJ10 b).2.1 := by decide +kernel
theorem tyJ10_ok : ∀ k, k < 0 → parseFieldDescriptor (TJ10 k).2.2.1 = some (tyJ10 k) := by decide +kernel
def RJxfd54e : String := "java/lang/constant/Constable"
def TJxfd54e : u_T := fun k => match k with
  | _ => ("", "", "", false)
def tyJxfd54e : Nat → FieldType := fun k => match k with
  | _ => .int
abbrev wsJxfd54e0 : List Cond := u_ws RJxfd54e TJxfd54e 0
theorem nmJxfd54e : ∀ a, a < 0 → ∀ b, b < 0 → a ≠ b → (TJxfd54e a).2.1 ≠ (TJxfd54e b).2.1 := by decide +kernel
theorem tyJxfd54e_ok : ∀ k, k < 0 → parseFieldDescriptor (TJxfd54e k).2.2.1 = some (tyJxfd54e k) := by decide +kernel
def RJx3cf43 : String := "java/lang/constant/ConstantDesc"
def TJx3cf43 : u_T := fun k => match k with
  | _ => ("", "", "", false)
def tyJx3cf43 : Nat → FieldType := fun k => match k with
  | _ => .int
abbrev wsJx3cf430 : List Cond := u_ws RJx3cf43 TJx3cf43 0
theorem nmJx3cf43 : ∀ a, a < 0 → ∀ b, b < 0 → a ≠ b → (TJx3cf43 a).2.1 ≠ (TJx3cf43 b).2.1 := by decide +kernel
theorem tyJx3cf43_ok : ∀ k, k < 0 → parseFieldDescriptor (TJx3cf43 k).2.2.1 = some (tyJx3cf43 k) := by decide +kernel
def RJ7 : String := "java/util/Arrays"
def TJ7 : u_T := fun k => match k with
  | _ => ("", "", "", false)
def tyJ7 : Nat → FieldType := fun k => match k with
  | _ => .int
abbrev wsJ70 : List Cond := u_ws RJ7 TJ7 0
theorem nmJ7 : ∀ a, a < 0 → ∀ b, b < 0 → a ≠ b → (TJ7 a).2.1 ≠ (TJ7 b).2.1 := by decide +kernel
theorem tyJ7_ok : ∀ k, k < 0 → parseFieldDescriptor (TJ7 k).2.2.1 = some (tyJ7 k) := by decide +kernel
abbrev cJ7_fill_d0a16 : ByteArray := prog_19_method_101_code
def yJ7_fill_d0a16 : MethodName := ⟨RJ7, "fill", "([JJ)V"⟩
abbrev cJ7_fill_53178 : ByteArray := prog_19_method_103_code
def yJ7_fill_53178 : MethodName := ⟨RJ7, "fill", "([II)V"⟩
def RJ3 : String := "jdk/internal/util/Preconditions"
def TJ3 : u_T := fun k => match k with
  | _ => ("", "", "", false)
def tyJ3 : Nat → FieldType := fun k => match k with
  | _ => .int
abbrev wsJ30 : List Cond := u_ws RJ3 TJ3 0
theorem nmJ3 : ∀ a, a < 0 → ∀ b, b < 0 → a ≠ b → (TJ3 a).2.1 ≠ (TJ3 b).2.1 := by decide +kernel
theorem tyJ3_ok : ∀ k, k < 0 → parseFieldDescriptor (TJ3 k).2.2.1 = some (tyJ3 k) := by decide +kernel
abbrev cJ3_checkIndex_8e157 : ByteArray := prog_20_method_11_code
def yJ3_checkIndex_8e157 : MethodName := ⟨RJ3, "checkIndex", "(IILjava/util/function/BiFunction;)I"⟩
def RL : String := "CardBowlLaw"
abbrev cL_law : ByteArray := code
def yL_law : MethodName := ⟨RL, "law", "([I)Z"⟩
def wsX0_init : List Cond := .code yX0_init cX0_init 1 none :: ([.methodLink RX0 3 objectInit, .instanceMethod objectInit, .code objectInit ⟨#[0xb1]⟩ 1 none, .arrayClass .int, .fieldLink RX0 9 "CardBowl$Code" "paying" "[I", .fieldLink RX0 15 "CardBowl$Code" "kind" "[I", .fieldLink RX0 18 "CardBowl$Code" "within" "[I", .fieldLink RX0 21 "CardBowl$Code" "start" "[I", .fieldLink RX0 24 "CardBowl$Code" "stop" "[I", .fieldLink RX0 27 "CardBowl$Code" "tests" "[I", .fieldLink RX0 30 "CardBowl$Code" "facts" "[I"] ++ wsX00)
def wsX0_clear : List Cond := .code yX0_clear cX0_clear 1 none :: ([.fieldLink RX0 33 "CardBowl$Code" "lines" "I", .fieldLink RX0 37 "CardBowl$Code" "used" "I"] ++ wsX00)
def wsX0_copy : List Cond := .code yX0_copy cX0_copy 2 none :: ([.fieldLink RX0 33 "CardBowl$Code" "lines" "I", .fieldLink RX0 37 "CardBowl$Code" "used" "I", .fieldLink RX0 9 "CardBowl$Code" "paying" "[I", .methodLink RX0 40 arraycopyName, .native arraycopyName, .static arraycopyName, .initialized "java/lang/System", .fieldLink RX0 15 "CardBowl$Code" "kind" "[I", .fieldLink RX0 18 "CardBowl$Code" "within" "[I", .fieldLink RX0 21 "CardBowl$Code" "start" "[I", .fieldLink RX0 24 "CardBowl$Code" "stop" "[I", .fieldLink RX0 27 "CardBowl$Code" "tests" "[I"] ++ wsX00)
def wsX1_init : List Cond := .code yX1_init cX1_init 1 none :: ([.methodLink RX1 3 objectInit, .instanceMethod objectInit, .code objectInit ⟨#[0xb1]⟩ 1 none, .arrayClass .int, .fieldLink RX1 9 "CardBowl$Debts" "debtor" "[I", .fieldLink RX1 15 "CardBowl$Debts" "creditor" "[I", .fieldLink RX1 18 "CardBowl$Debts" "kind" "[I", .fieldLink RX1 21 "CardBowl$Debts" "due" "[I", .fieldLink RX1 24 "CardBowl$Debts" "came" "[I", .fieldLink RX1 27 "CardBowl$Debts" "open" "[I", .fieldLink RX1 30 "CardBowl$Debts" "kinds" "[I"] ++ wsX10)
def wsJ7_fill_53178 : List Cond := .code yJ7_fill_53178 cJ7_fill_53178 4 none :: ([])
def wsX1_clear : List Cond := .code yX1_clear cX1_clear 1 none :: ([.fieldLink RX1 33 "CardBowl$Debts" "size" "I", .fieldLink RX1 27 "CardBowl$Debts" "open" "[I", .fieldLink RX1 30 "CardBowl$Debts" "kinds" "[I", .methodLink RX1 37 yJ7_fill_53178, .static yJ7_fill_53178, .initialized RJ7, .code yJ7_fill_53178 cJ7_fill_53178 4 none] ++ wsX10)
def wsX1_copy : List Cond := .code yX1_copy cX1_copy 2 none :: ([.fieldLink RX1 33 "CardBowl$Debts" "size" "I", .fieldLink RX1 9 "CardBowl$Debts" "debtor" "[I", .methodLink RX1 43 arraycopyName, .native arraycopyName, .static arraycopyName, .initialized "java/lang/System", .fieldLink RX1 15 "CardBowl$Debts" "creditor" "[I", .fieldLink RX1 18 "CardBowl$Debts" "kind" "[I", .fieldLink RX1 21 "CardBowl$Debts" "due" "[I", .fieldLink RX1 24 "CardBowl$Debts" "came" "[I", .fieldLink RX1 27 "CardBowl$Debts" "open" "[I", .fieldLink RX1 30 "CardBowl$Debts" "kinds" "[I"] ++ wsX10)
def wsX1_overdue : List Cond := .code yX1_overdue cX1_overdue 4 (some .int) :: ([.fieldLink RX1 33 "CardBowl$Debts" "size" "I", .fieldLink RX1 21 "CardBowl$Debts" "due" "[I"] ++ wsX10)
def wsX2_init : List Cond := .code yX2_init cX2_init 1 none :: ([.methodLink RX2 3 objectInit, .instanceMethod objectInit, .code objectInit ⟨#[0xb1]⟩ 1 none, .arrayClass .int, .fieldLink RX2 9 "CardBowl$Deeds" "who" "[I", .fieldLink RX2 15 "CardBowl$Deeds" "whom" "[I", .fieldLink RX2 18 "CardBowl$Deeds" "what" "[I", .fieldLink RX2 21 "CardBowl$Deeds" "day" "[I"] ++ wsX20)
def wsX2_copy : List Cond := .code yX2_copy cX2_copy 2 none :: ([.fieldLink RX2 24 "CardBowl$Deeds" "size" "I", .fieldLink RX2 9 "CardBowl$Deeds" "who" "[I", .methodLink RX2 28 arraycopyName, .native arraycopyName, .static arraycopyName, .initialized "java/lang/System", .fieldLink RX2 15 "CardBowl$Deeds" "whom" "[I", .fieldLink RX2 18 "CardBowl$Deeds" "what" "[I", .fieldLink RX2 21 "CardBowl$Deeds" "day" "[I"] ++ wsX20)
def wsX7_init : List Cond := .code yX7_init cX7_init 1 none :: ([.methodLink RX7 3 objectInit, .instanceMethod objectInit, .code objectInit ⟨#[0xb1]⟩ 1 none, .fieldLink RX7 11 "CardBowl$Town" "introducers" "I", .arrayClass .int, .fieldLink RX7 15 "CardBowl$Town" "x" "[I", .fieldLink RX7 19 "CardBowl$Town" "y" "[I", .fieldLink RX7 22 "CardBowl$Town" "rank" "[I", .fieldLink RX7 25 "CardBowl$Town" "weekday" "[I", .fieldLink RX7 28 "CardBowl$Town" "from" "[I", .fieldLink RX7 31 "CardBowl$Town" "to" "[I", .fieldLink RX7 34 "CardBowl$Town" "came" "[I", .fieldLink RX7 37 "CardBowl$Town" "bride" "[I", .fieldLink RX7 40 "CardBowl$Town" "told" "[I"] ++ wsX70)
def wsX3_init_r1 : List Cond := [Cond.methodLink RX3 3 objectInit, Cond.instanceMethod objectInit, Cond.code objectInit ⟨#[0xb1]⟩ 1 none, Cond.classLink RX3 9 RX7, Cond.instantiable RX7 12, Cond.initialized RX7, Cond.fieldLink RX3 12 "CardBowl$Reader" "town" "LCardBowl$Town;", Cond.classLink RX3 18 RX0, Cond.instantiable RX0 10, Cond.initialized RX0, Cond.fieldLink RX3 21 "CardBowl$Reader" "code" "LCardBowl$Code;", Cond.fieldLink RX3 25 "CardBowl$Reader" "place" "I", Cond.instanceMethod yX7_init, Cond.code yX7_init cX7_init 1 none, Cond.methodLink RX7 3 objectInit, Cond.fieldLink RX7 11 "CardBowl$Town" "introducers" "I", Cond.arrayClass .int, Cond.fieldLink RX7 15 "CardBowl$Town" "x" "[I", Cond.fieldLink RX7 19 "CardBowl$Town" "y" "[I", Cond.fieldLink RX7 22 "CardBowl$Town" "rank" "[I", Cond.fieldLink RX7 25 "CardBowl$Town" "weekday" "[I", Cond.fieldLink RX7 28 "CardBowl$Town" "from" "[I", Cond.fieldLink RX7 31 "CardBowl$Town" "to" "[I", Cond.fieldLink RX7 34 "CardBowl$Town" "came" "[I"]
def wsX3_init_r2 : List Cond := [Cond.fieldLink RX7 37 "CardBowl$Town" "bride" "[I", Cond.fieldLink RX7 40 "CardBowl$Town" "told" "[I", Cond.instanceMethod yX0_init, Cond.code yX0_init cX0_init 1 none, Cond.methodLink RX0 3 objectInit, Cond.fieldLink RX0 9 "CardBowl$Code" "paying" "[I", Cond.fieldLink RX0 15 "CardBowl$Code" "kind" "[I", Cond.fieldLink RX0 18 "CardBowl$Code" "within" "[I", Cond.fieldLink RX0 21 "CardBowl$Code" "start" "[I", Cond.fieldLink RX0 24 "CardBowl$Code" "stop" "[I", Cond.fieldLink RX0 27 "CardBowl$Code" "tests" "[I", Cond.fieldLink RX0 30 "CardBowl$Code" "facts" "[I"]
def wsX3_init : List Cond := .code yX3_init cX3_init 1 none :: ((wsX3_init_r1 ++ wsX3_init_r2) ++ wsX70 ++ wsX30 ++ wsX00)
def wsX7_clear : List Cond := .code yX7_clear cX7_clear 1 none :: ([.fieldLink RX7 43 "CardBowl$Town" "houses" "I", .fieldLink RX7 46 "CardBowl$Town" "fresh" "I", .fieldLink RX7 11 "CardBowl$Town" "introducers" "I", .fieldLink RX7 40 "CardBowl$Town" "told" "[I", .methodLink RX7 49 yJ7_fill_53178, .static yJ7_fill_53178, .initialized RJ7, .code yJ7_fill_53178 cJ7_fill_53178 4 none] ++ wsX70)
def wsX3_advance : List Cond := .code yX3_advance cX3_advance 1 none :: ([.fieldLink RX3 42 "CardBowl$Reader" "next" "I", .fieldLink RX3 39 "CardBowl$Reader" "size" "I", .fieldLink RX3 29 "CardBowl$Reader" "text" "[B", .fieldLink RX3 179 "CardBowl$Reader" "begin" "I", .fieldLink RX3 55 "CardBowl$Reader" "kind" "I", .methodLink RX3 182 yX3_takeWord, .instanceMethod yX3_takeWord, .selects RX3 yX3_takeWord yX3_takeWord, .initialized RX3, .code yX3_takeWord cX3_takeWord 1 none, .methodLink RX3 185 yX3_takeNumber, .instanceMethod yX3_takeNumber, .selects RX3 yX3_takeNumber yX3_takeNumber, .code yX3_takeNumber cX3_takeNumber 1 none, .fieldLink RX3 136 "CardBowl$Reader" "value" "I", .constant RX3 188 (1000000), .methodLink RX3 33 Lib.Math.min.name, .static Lib.Math.min.name, .initialized "java/lang/Math", .code Lib.Math.min.name Lib.Math.min.code 2 (some .int)] ++ wsX30)
def wsX3_read_r1 : List Cond := [Cond.fieldLink RX3 29 "CardBowl$Reader" "text" "[B", Cond.methodLink RX3 33 Lib.Math.min.name, Cond.static Lib.Math.min.name, Cond.initialized "java/lang/Math", Cond.code Lib.Math.min.name Lib.Math.min.code 2 (some .int), Cond.fieldLink RX3 39 "CardBowl$Reader" "size" "I", Cond.fieldLink RX3 42 "CardBowl$Reader" "next" "I", Cond.fieldLink RX3 45 "CardBowl$Reader" "fault" "I", Cond.fieldLink RX3 25 "CardBowl$Reader" "place" "I", Cond.fieldLink RX3 12 "CardBowl$Reader" "town" "LCardBowl$Town;", Cond.fieldLink RX3 21 "CardBowl$Reader" "code" "LCardBowl$Code;", Cond.fieldLink RX3 55 "CardBowl$Reader" "kind" "I", Cond.methodLink RX3 48 yX7_clear, Cond.instanceMethod yX7_clear, Cond.selects RX7 yX7_clear yX7_clear, Cond.initialized RX7, Cond.code yX7_clear cX7_clear 1 none, Cond.fieldLink RX7 43 "CardBowl$Town" "houses" "I", Cond.fieldLink RX7 46 "CardBowl$Town" "fresh" "I", Cond.fieldLink RX7 11 "CardBowl$Town" "introducers" "I", Cond.fieldLink RX7 40 "CardBowl$Town" "told" "[I", Cond.methodLink RX7 49 yJ7_fill_53178, Cond.static yJ7_fill_53178, Cond.initialized RJ7]
def wsX3_read_r2 : List Cond := [Cond.code yJ7_fill_53178 cJ7_fill_53178 4 none, Cond.methodLink RX3 51 yX0_clear, Cond.instanceMethod yX0_clear, Cond.selects RX0 yX0_clear yX0_clear, Cond.initialized RX0, Cond.code yX0_clear cX0_clear 1 none, Cond.fieldLink RX0 33 "CardBowl$Code" "lines" "I", Cond.fieldLink RX0 37 "CardBowl$Code" "used" "I", Cond.methodLink RX3 52 yX3_advance, Cond.instanceMethod yX3_advance, Cond.selects RX3 yX3_advance yX3_advance, Cond.initialized RX3, Cond.code yX3_advance cX3_advance 1 none, Cond.fieldLink RX3 179 "CardBowl$Reader" "begin" "I", Cond.methodLink RX3 182 yX3_takeWord, Cond.instanceMethod yX3_takeWord, Cond.selects RX3 yX3_takeWord yX3_takeWord, Cond.code yX3_takeWord cX3_takeWord 1 none, Cond.methodLink RX3 185 yX3_takeNumber, Cond.instanceMethod yX3_takeNumber, Cond.selects RX3 yX3_takeNumber yX3_takeNumber, Cond.code yX3_takeNumber cX3_takeNumber 1 none, Cond.fieldLink RX3 136 "CardBowl$Reader" "value" "I", Cond.constant RX3 188 (1000000)]
def wsX3_read_r3 : List Cond := [Cond.methodLink RX3 60 yX3_among, Cond.instanceMethod yX3_among, Cond.selects RX3 yX3_among yX3_among, Cond.code yX3_among cX3_among 7 (some .int), Cond.methodLink RX3 189 yJ0_length_8abf5, Cond.instanceMethod yJ0_length_8abf5, Cond.selects RJ0 yJ0_length_8abf5 yJ0_length_8abf5, Cond.initialized RJ0, Cond.code yJ0_length_8abf5 cJ0_length_8abf5 1 (some .int), Cond.fieldLink RJ0 9 "java/lang/String" "value" "[B", Cond.methodLink RJ0 335 yJ0_coder_7d493, Cond.instanceMethod yJ0_coder_7d493, Cond.selects RJ0 yJ0_coder_7d493 yJ0_coder_7d493, Cond.code yJ0_coder_7d493 cJ0_coder_7d493 1 (some .byte), Cond.fieldLink RJ0 38 "java/lang/String" "COMPACT_STRINGS" "Z", Cond.fieldLink RJ0 15 "java/lang/String" "coder" "B", Cond.methodLink RX3 195 yJ0_charAt_5068e, Cond.instanceMethod yJ0_charAt_5068e, Cond.selects RJ0 yJ0_charAt_5068e yJ0_charAt_5068e, Cond.code yJ0_charAt_5068e cJ0_charAt_5068e 2 (some .char), Cond.methodLink RJ0 492 yJ0_isLatin1_aae02, Cond.instanceMethod yJ0_isLatin1_aae02, Cond.selects RJ0 yJ0_isLatin1_aae02 yJ0_isLatin1_aae02, Cond.code yJ0_isLatin1_aae02 cJ0_isLatin1_aae02 1 (some .boolean)]
def wsX3_read_r4 : List Cond := [Cond.methodLink RJ0 495 yJ1_charAt_3b067, Cond.static yJ1_charAt_3b067, Cond.initialized RJ1, Cond.code yJ1_charAt_3b067 cJ1_charAt_3b067 2 (some .char), Cond.methodLink RJ1 9 yJ0_checkIndex_df160, Cond.static yJ0_checkIndex_df160, Cond.code yJ0_checkIndex_df160 cJ0_checkIndex_df160 2 none, Cond.fieldLink RJ0 1053 "jdk/internal/util/Preconditions" "SIOOBE_FORMATTER" "Ljava/util/function/BiFunction;", Cond.methodLink RJ0 1059 yJ3_checkIndex_8e157, Cond.static yJ3_checkIndex_8e157, Cond.initialized RJ3, Cond.code yJ3_checkIndex_8e157 cJ3_checkIndex_8e157 3 (some .int), Cond.methodLink RJ0 498 yJ2_charAt_3b067, Cond.static yJ2_charAt_3b067, Cond.initialized RJ2, Cond.code yJ2_charAt_3b067 cJ2_charAt_3b067 2 (some .char), Cond.methodLink RJ2 67 yJ2_checkIndex_2214a, Cond.static yJ2_checkIndex_2214a, Cond.code yJ2_checkIndex_2214a cJ2_checkIndex_2214a 2 none, Cond.methodLink RJ2 48 yJ2_length_9d52b, Cond.static yJ2_length_9d52b, Cond.code yJ2_length_9d52b cJ2_length_9d52b 1 (some .int), Cond.methodLink RJ2 414 yJ0_checkIndex_df160, Cond.methodLink RJ2 71 yJ2_getChar_3b067]
def wsX3_read_r5 : List Cond := [Cond.static yJ2_getChar_3b067, Cond.code yJ2_getChar_3b067 cJ2_getChar_3b067 2 (some .char), Cond.fieldLink RJ2 44 "java/lang/StringUTF16" "$assertionsDisabled" "Z", Cond.fieldLink RJ2 59 "java/lang/StringUTF16" "HI_BYTE_SHIFT" "I", Cond.fieldLink RJ2 63 "java/lang/StringUTF16" "LO_BYTE_SHIFT" "I", Cond.methodLink RX3 64 yX3_readOwes, Cond.instanceMethod yX3_readOwes, Cond.selects RX3 yX3_readOwes yX3_readOwes, Cond.code yX3_readOwes cX3_readOwes 3 none, Cond.fieldLink RX3 142 "CardBowl$Code" "lines" "I", Cond.fieldLink RX3 147 "CardBowl$Code" "paying" "[I", Cond.fieldLink RX3 150 "CardBowl$Code" "kind" "[I", Cond.fieldLink RX3 156 "CardBowl$Code" "within" "[I", Cond.fieldLink RX3 158 "CardBowl$Code" "start" "[I", Cond.fieldLink RX3 161 "CardBowl$Code" "used" "I", Cond.fieldLink RX3 169 "CardBowl$Code" "stop" "[I", Cond.methodLink RX3 89 yX3_refuse, Cond.instanceMethod yX3_refuse, Cond.selects RX3 yX3_refuse yX3_refuse, Cond.code yX3_refuse cX3_refuse 2 none, Cond.methodLink RX3 97 yX3_choice, Cond.instanceMethod yX3_choice, Cond.selects RX3 yX3_choice yX3_choice, Cond.code yX3_choice cX3_choice 3 (some .int)]
def wsX3_read_r6 : List Cond := [Cond.methodLink RX3 80 yX3_number, Cond.instanceMethod yX3_number, Cond.selects RX3 yX3_number yX3_number, Cond.code yX3_number cX3_number 4 (some .int), Cond.methodLink RX3 128 yX3_takes, Cond.instanceMethod yX3_takes, Cond.selects RX3 yX3_takes yX3_takes, Cond.code yX3_takes cX3_takes 2 (some .boolean), Cond.methodLink RX3 166 yX3_readTests, Cond.instanceMethod yX3_readTests, Cond.selects RX3 yX3_readTests yX3_readTests, Cond.code yX3_readTests cX3_readTests 7 none, Cond.methodLink RX3 174 yX0_put, Cond.instanceMethod yX0_put, Cond.selects RX0 yX0_put yX0_put, Cond.code yX0_put cX0_put 2 none, Cond.fieldLink RX0 27 "CardBowl$Code" "tests" "[I", Cond.methodLink RX3 68 yX3_readOther, Cond.instanceMethod yX3_readOther, Cond.selects RX3 yX3_readOther yX3_readOther, Cond.code yX3_readOther cX3_readOther 2 none, Cond.fieldLink RX3 83 "CardBowl$Town" "fresh" "I", Cond.fieldLink RX3 86 "CardBowl$Town" "introducers" "I", Cond.methodLink RX3 74 yX3_readHouse]
def wsX3_read_r7 : List Cond := [Cond.instanceMethod yX3_readHouse, Cond.selects RX3 yX3_readHouse yX3_readHouse, Cond.code yX3_readHouse cX3_readHouse 2 none, Cond.fieldLink RX3 92 "CardBowl$Town" "houses" "I", Cond.fieldLink RX3 100 "CardBowl$Town" "x" "[I", Cond.fieldLink RX3 104 "CardBowl$Town" "y" "[I", Cond.fieldLink RX3 109 "CardBowl$Town" "rank" "[I", Cond.fieldLink RX3 113 "CardBowl$Town" "weekday" "[I", Cond.fieldLink RX3 118 "CardBowl$Town" "from" "[I", Cond.fieldLink RX3 121 "CardBowl$Town" "to" "[I", Cond.fieldLink RX3 124 "CardBowl$Town" "came" "[I", Cond.fieldLink RX3 132 "CardBowl$Town" "bride" "[I", Cond.methodLink RX3 77 yX3_readKnow, Cond.instanceMethod yX3_readKnow, Cond.selects RX3 yX3_readKnow yX3_readKnow, Cond.code yX3_readKnow cX3_readKnow 3 none, Cond.fieldLink RX3 139 "CardBowl$Town" "told" "[I", Cond.methodLink RX3 71 yX3_closeLine, Cond.instanceMethod yX3_closeLine, Cond.selects RX3 yX3_closeLine yX3_closeLine, Cond.code yX3_closeLine cX3_closeLine 1 none]
def wsX3_read : List Cond := .code yX3_read cX3_read 5 none :: ((wsX3_read_r1 ++ (wsX3_read_r2 ++ (wsX3_read_r3 ++ (wsX3_read_r4 ++ (wsX3_read_r5 ++ (wsX3_read_r6 ++ wsX3_read_r7)))))) ++ wsX30 ++ wsX70 ++ wsX00)
def wsX4_init : List Cond := .code yX4_init cX4_init 1 none :: ([.methodLink RX4 5 objectInit, .instanceMethod objectInit, .code objectInit ⟨#[0xb1]⟩ 1 none, .arrayClass .int, .fieldLink RX4 11 "CardBowl$Rounds" "order" "[I", .fieldLink RX4 15 "CardBowl$Rounds" "owner" "I", .fieldLink RX4 19 "CardBowl$Rounds" "weekday" "I", .fieldLink RX4 22 "CardBowl$Rounds" "spot" "[I", .fieldLink RX4 25 "CardBowl$Rounds" "deadline" "[I", .fieldLink RX4 28 "CardBowl$Rounds" "opens" "[I", .fieldLink RX4 31 "CardBowl$Rounds" "closes" "[I", .fieldLink RX4 34 "CardBowl$Rounds" "stays" "[I", .fieldLink RX4 37 "CardBowl$Rounds" "apart" "[I", .fieldLink RX4 40 "CardBowl$Rounds" "minute" "[I", .fieldLink RX4 43 "CardBowl$Rounds" "soonest" "[I", .fieldLink RX4 46 "CardBowl$Rounds" "sums" "[I"] ++ wsX40)
def wsX7_has : List Cond := .code yX7_has cX7_has 2 (some .boolean) :: ([.fieldLink RX7 43 "CardBowl$Town" "houses" "I"] ++ wsX70)
def wsX5_init : List Cond := .code yX5_init cX5_init 1 none :: ([.methodLink RX5 3 objectInit, .instanceMethod objectInit, .code objectInit ⟨#[0xb1]⟩ 1 none, .arrayClass .long, .fieldLink RX5 9 "CardBowl$Slot" "numbers" "[J"] ++ wsX50)
def wsJ7_fill_d0a16 : List Cond := .code yJ7_fill_d0a16 cJ7_fill_d0a16 5 none :: ([])
def wsX5_lay : List Cond := .code yX5_lay cX5_lay 3 none :: ([.fieldLink RX5 15 "CardBowl$Slot" "filled" "Z", .fieldLink RX5 19 "CardBowl$Slot" "width" "I", .fieldLink RX5 23 "CardBowl$Slot" "size" "I", .fieldLink RX5 9 "CardBowl$Slot" "numbers" "[J", .methodLink RX5 26 yJ7_fill_d0a16, .static yJ7_fill_d0a16, .initialized RJ7, .code yJ7_fill_d0a16 cJ7_fill_d0a16 5 none] ++ wsX50)
def wsX6_init_r1 : List Cond := [Cond.methodLink RX6 3 objectInit, Cond.instanceMethod objectInit, Cond.code objectInit ⟨#[0xb1]⟩ 1 none, Cond.classLink RX6 9 RX7, Cond.instantiable RX7 12, Cond.initialized RX7, Cond.fieldLink RX6 12 "CardBowl$State" "town" "LCardBowl$Town;", Cond.classLink RX6 18 RX0, Cond.instantiable RX0 10, Cond.initialized RX0, Cond.fieldLink RX6 21 "CardBowl$State" "code" "LCardBowl$Code;", Cond.classLink RX6 25 RX1, Cond.instantiable RX1 8, Cond.initialized RX1, Cond.fieldLink RX6 28 "CardBowl$State" "debts" "LCardBowl$Debts;", Cond.classLink RX6 32 RX2, Cond.instantiable RX2 5, Cond.initialized RX2, Cond.fieldLink RX6 35 "CardBowl$State" "deeds" "LCardBowl$Deeds;", Cond.arrayClass .int, Cond.fieldLink RX6 39 "CardBowl$State" "knows" "[I", Cond.fieldLink RX6 43 "CardBowl$State" "follows" "[I", Cond.instanceMethod yX7_init, Cond.code yX7_init cX7_init 1 none]
def wsX6_init_r2 : List Cond := [Cond.methodLink RX7 3 objectInit, Cond.fieldLink RX7 11 "CardBowl$Town" "introducers" "I", Cond.fieldLink RX7 15 "CardBowl$Town" "x" "[I", Cond.fieldLink RX7 19 "CardBowl$Town" "y" "[I", Cond.fieldLink RX7 22 "CardBowl$Town" "rank" "[I", Cond.fieldLink RX7 25 "CardBowl$Town" "weekday" "[I", Cond.fieldLink RX7 28 "CardBowl$Town" "from" "[I", Cond.fieldLink RX7 31 "CardBowl$Town" "to" "[I", Cond.fieldLink RX7 34 "CardBowl$Town" "came" "[I", Cond.fieldLink RX7 37 "CardBowl$Town" "bride" "[I", Cond.fieldLink RX7 40 "CardBowl$Town" "told" "[I", Cond.instanceMethod yX0_init, Cond.code yX0_init cX0_init 1 none, Cond.methodLink RX0 3 objectInit, Cond.fieldLink RX0 9 "CardBowl$Code" "paying" "[I", Cond.fieldLink RX0 15 "CardBowl$Code" "kind" "[I", Cond.fieldLink RX0 18 "CardBowl$Code" "within" "[I", Cond.fieldLink RX0 21 "CardBowl$Code" "start" "[I", Cond.fieldLink RX0 24 "CardBowl$Code" "stop" "[I", Cond.fieldLink RX0 27 "CardBowl$Code" "tests" "[I", Cond.fieldLink RX0 30 "CardBowl$Code" "facts" "[I", Cond.instanceMethod yX1_init, Cond.code yX1_init cX1_init 1 none, Cond.methodLink RX1 3 objectInit]
def wsX6_init_r3 : List Cond := [Cond.fieldLink RX1 9 "CardBowl$Debts" "debtor" "[I", Cond.fieldLink RX1 15 "CardBowl$Debts" "creditor" "[I", Cond.fieldLink RX1 18 "CardBowl$Debts" "kind" "[I", Cond.fieldLink RX1 21 "CardBowl$Debts" "due" "[I", Cond.fieldLink RX1 24 "CardBowl$Debts" "came" "[I", Cond.fieldLink RX1 27 "CardBowl$Debts" "open" "[I", Cond.fieldLink RX1 30 "CardBowl$Debts" "kinds" "[I", Cond.instanceMethod yX2_init, Cond.code yX2_init cX2_init 1 none, Cond.methodLink RX2 3 objectInit, Cond.fieldLink RX2 9 "CardBowl$Deeds" "who" "[I", Cond.fieldLink RX2 15 "CardBowl$Deeds" "whom" "[I", Cond.fieldLink RX2 18 "CardBowl$Deeds" "what" "[I", Cond.fieldLink RX2 21 "CardBowl$Deeds" "day" "[I"]
def wsX6_init : List Cond := .code yX6_init cX6_init 1 none :: ((wsX6_init_r1 ++ (wsX6_init_r2 ++ wsX6_init_r3)) ++ wsX70 ++ wsX60 ++ wsX00 ++ wsX10 ++ wsX20)
def wsX7_copy : List Cond := .code yX7_copy cX7_copy 2 none :: ([.fieldLink RX7 43 "CardBowl$Town" "houses" "I", .fieldLink RX7 46 "CardBowl$Town" "fresh" "I", .fieldLink RX7 11 "CardBowl$Town" "introducers" "I", .fieldLink RX7 15 "CardBowl$Town" "x" "[I", .methodLink RX7 55 arraycopyName, .native arraycopyName, .static arraycopyName, .initialized "java/lang/System", .fieldLink RX7 19 "CardBowl$Town" "y" "[I", .fieldLink RX7 22 "CardBowl$Town" "rank" "[I", .fieldLink RX7 25 "CardBowl$Town" "weekday" "[I", .fieldLink RX7 28 "CardBowl$Town" "from" "[I", .fieldLink RX7 31 "CardBowl$Town" "to" "[I", .fieldLink RX7 34 "CardBowl$Town" "came" "[I", .fieldLink RX7 37 "CardBowl$Town" "bride" "[I", .fieldLink RX7 40 "CardBowl$Town" "told" "[I"] ++ wsX70)
def wsX6_begin_r1 : List Cond := [Cond.fieldLink RX6 12 "CardBowl$State" "town" "LCardBowl$Town;", Cond.fieldLink RX6 21 "CardBowl$State" "code" "LCardBowl$Code;", Cond.fieldLink RX6 28 "CardBowl$State" "debts" "LCardBowl$Debts;", Cond.fieldLink RX6 35 "CardBowl$State" "deeds" "LCardBowl$Deeds;", Cond.fieldLink RX6 56 "CardBowl$Deeds" "size" "I", Cond.fieldLink RX6 60 "CardBowl$Town" "told" "[I", Cond.fieldLink RX6 39 "CardBowl$State" "knows" "[I", Cond.methodLink RX6 63 arraycopyName, Cond.native arraycopyName, Cond.static arraycopyName, Cond.initialized "java/lang/System", Cond.fieldLink RX6 69 "CardBowl$State" "day" "I", Cond.fieldLink RX6 72 "CardBowl$State" "paid" "I", Cond.methodLink RX6 46 yX7_copy, Cond.instanceMethod yX7_copy, Cond.selects RX7 yX7_copy yX7_copy, Cond.initialized RX7, Cond.code yX7_copy cX7_copy 2 none, Cond.fieldLink RX7 43 "CardBowl$Town" "houses" "I", Cond.fieldLink RX7 46 "CardBowl$Town" "fresh" "I", Cond.fieldLink RX7 11 "CardBowl$Town" "introducers" "I", Cond.fieldLink RX7 15 "CardBowl$Town" "x" "[I", Cond.methodLink RX7 55 arraycopyName, Cond.fieldLink RX7 19 "CardBowl$Town" "y" "[I"]
def wsX6_begin_r2 : List Cond := [Cond.fieldLink RX7 22 "CardBowl$Town" "rank" "[I", Cond.fieldLink RX7 25 "CardBowl$Town" "weekday" "[I", Cond.fieldLink RX7 28 "CardBowl$Town" "from" "[I", Cond.fieldLink RX7 31 "CardBowl$Town" "to" "[I", Cond.fieldLink RX7 34 "CardBowl$Town" "came" "[I", Cond.fieldLink RX7 37 "CardBowl$Town" "bride" "[I", Cond.fieldLink RX7 40 "CardBowl$Town" "told" "[I", Cond.methodLink RX6 50 yX0_copy, Cond.instanceMethod yX0_copy, Cond.selects RX0 yX0_copy yX0_copy, Cond.initialized RX0, Cond.code yX0_copy cX0_copy 2 none, Cond.fieldLink RX0 33 "CardBowl$Code" "lines" "I", Cond.fieldLink RX0 37 "CardBowl$Code" "used" "I", Cond.fieldLink RX0 9 "CardBowl$Code" "paying" "[I", Cond.methodLink RX0 40 arraycopyName, Cond.fieldLink RX0 15 "CardBowl$Code" "kind" "[I", Cond.fieldLink RX0 18 "CardBowl$Code" "within" "[I", Cond.fieldLink RX0 21 "CardBowl$Code" "start" "[I", Cond.fieldLink RX0 24 "CardBowl$Code" "stop" "[I", Cond.fieldLink RX0 27 "CardBowl$Code" "tests" "[I", Cond.methodLink RX6 53 yX1_clear, Cond.instanceMethod yX1_clear, Cond.selects RX1 yX1_clear yX1_clear]
def wsX6_begin_r3 : List Cond := [Cond.initialized RX1, Cond.code yX1_clear cX1_clear 1 none, Cond.fieldLink RX1 33 "CardBowl$Debts" "size" "I", Cond.fieldLink RX1 27 "CardBowl$Debts" "open" "[I", Cond.fieldLink RX1 30 "CardBowl$Debts" "kinds" "[I", Cond.methodLink RX1 37 yJ7_fill_53178, Cond.static yJ7_fill_53178, Cond.initialized RJ7, Cond.code yJ7_fill_53178 cJ7_fill_53178 4 none]
def wsX6_begin : List Cond := .code yX6_begin cX6_begin 3 none :: ((wsX6_begin_r1 ++ (wsX6_begin_r2 ++ wsX6_begin_r3)) ++ wsX60 ++ wsX20 ++ wsX70 ++ wsX00 ++ wsX10)
def wsX6_copy_r1 : List Cond := [Cond.fieldLink RX6 12 "CardBowl$State" "town" "LCardBowl$Town;", Cond.fieldLink RX6 21 "CardBowl$State" "code" "LCardBowl$Code;", Cond.fieldLink RX6 28 "CardBowl$State" "debts" "LCardBowl$Debts;", Cond.fieldLink RX6 35 "CardBowl$State" "deeds" "LCardBowl$Deeds;", Cond.fieldLink RX6 39 "CardBowl$State" "knows" "[I", Cond.methodLink RX6 63 arraycopyName, Cond.native arraycopyName, Cond.static arraycopyName, Cond.initialized "java/lang/System", Cond.fieldLink RX6 69 "CardBowl$State" "day" "I", Cond.fieldLink RX6 72 "CardBowl$State" "paid" "I", Cond.methodLink RX6 46 yX7_copy, Cond.instanceMethod yX7_copy, Cond.selects RX7 yX7_copy yX7_copy, Cond.initialized RX7, Cond.code yX7_copy cX7_copy 2 none, Cond.fieldLink RX7 43 "CardBowl$Town" "houses" "I", Cond.fieldLink RX7 46 "CardBowl$Town" "fresh" "I", Cond.fieldLink RX7 11 "CardBowl$Town" "introducers" "I", Cond.fieldLink RX7 15 "CardBowl$Town" "x" "[I", Cond.methodLink RX7 55 arraycopyName, Cond.fieldLink RX7 19 "CardBowl$Town" "y" "[I", Cond.fieldLink RX7 22 "CardBowl$Town" "rank" "[I", Cond.fieldLink RX7 25 "CardBowl$Town" "weekday" "[I"]
def wsX6_copy_r2 : List Cond := [Cond.fieldLink RX7 28 "CardBowl$Town" "from" "[I", Cond.fieldLink RX7 31 "CardBowl$Town" "to" "[I", Cond.fieldLink RX7 34 "CardBowl$Town" "came" "[I", Cond.fieldLink RX7 37 "CardBowl$Town" "bride" "[I", Cond.fieldLink RX7 40 "CardBowl$Town" "told" "[I", Cond.methodLink RX6 50 yX0_copy, Cond.instanceMethod yX0_copy, Cond.selects RX0 yX0_copy yX0_copy, Cond.initialized RX0, Cond.code yX0_copy cX0_copy 2 none, Cond.fieldLink RX0 33 "CardBowl$Code" "lines" "I", Cond.fieldLink RX0 37 "CardBowl$Code" "used" "I", Cond.fieldLink RX0 9 "CardBowl$Code" "paying" "[I", Cond.methodLink RX0 40 arraycopyName, Cond.fieldLink RX0 15 "CardBowl$Code" "kind" "[I", Cond.fieldLink RX0 18 "CardBowl$Code" "within" "[I", Cond.fieldLink RX0 21 "CardBowl$Code" "start" "[I", Cond.fieldLink RX0 24 "CardBowl$Code" "stop" "[I", Cond.fieldLink RX0 27 "CardBowl$Code" "tests" "[I", Cond.methodLink RX6 75 yX1_copy, Cond.instanceMethod yX1_copy, Cond.selects RX1 yX1_copy yX1_copy, Cond.initialized RX1, Cond.code yX1_copy cX1_copy 2 none]
def wsX6_copy_r3 : List Cond := [Cond.fieldLink RX1 33 "CardBowl$Debts" "size" "I", Cond.fieldLink RX1 9 "CardBowl$Debts" "debtor" "[I", Cond.methodLink RX1 43 arraycopyName, Cond.fieldLink RX1 15 "CardBowl$Debts" "creditor" "[I", Cond.fieldLink RX1 18 "CardBowl$Debts" "kind" "[I", Cond.fieldLink RX1 21 "CardBowl$Debts" "due" "[I", Cond.fieldLink RX1 24 "CardBowl$Debts" "came" "[I", Cond.fieldLink RX1 27 "CardBowl$Debts" "open" "[I", Cond.fieldLink RX1 30 "CardBowl$Debts" "kinds" "[I", Cond.methodLink RX6 78 yX2_copy, Cond.instanceMethod yX2_copy, Cond.selects RX2 yX2_copy yX2_copy, Cond.initialized RX2, Cond.code yX2_copy cX2_copy 2 none, Cond.fieldLink RX2 24 "CardBowl$Deeds" "size" "I", Cond.fieldLink RX2 9 "CardBowl$Deeds" "who" "[I", Cond.methodLink RX2 28 arraycopyName, Cond.fieldLink RX2 15 "CardBowl$Deeds" "whom" "[I", Cond.fieldLink RX2 18 "CardBowl$Deeds" "what" "[I", Cond.fieldLink RX2 21 "CardBowl$Deeds" "day" "[I"]
def wsX6_copy : List Cond := .code yX6_copy cX6_copy 2 none :: ((wsX6_copy_r1 ++ (wsX6_copy_r2 ++ wsX6_copy_r3)) ++ wsX60 ++ wsX70 ++ wsX00 ++ wsX10 ++ wsX20)
def wsX6_followCalls : List Cond := .code yX6_followCalls cX6_followCalls 3 none :: ([.fieldLink RX6 43 "CardBowl$State" "follows" "[I", .fieldLink RX6 35 "CardBowl$State" "deeds" "LCardBowl$Deeds;", .fieldLink RX6 56 "CardBowl$Deeds" "size" "I", .fieldLink RX6 163 "CardBowl$Deeds" "what" "[I", .fieldLink RX6 157 "CardBowl$Deeds" "who" "[I", .fieldLink RX6 160 "CardBowl$Deeds" "whom" "[I"] ++ wsX60 ++ wsX20)
def wsX7_hasPair : List Cond := .code yX7_hasPair cX7_hasPair 3 (some .boolean) :: ([.methodLink RX7 61 yX7_has, .instanceMethod yX7_has, .selects RX7 yX7_has yX7_has, .initialized RX7, .code yX7_has cX7_has 2 (some .boolean), .fieldLink RX7 43 "CardBowl$Town" "houses" "I"] ++ wsX70)
def wsX8_init : List Cond := .code yX8_init cX8_init 1 none :: ([.methodLink RX8 5 objectInit, .instanceMethod objectInit, .code objectInit ⟨#[0xb1]⟩ 1 none, .arrayClass .int, .fieldLink RX8 11 "CardBowl$Ways" "calls" "[I", .fieldLink RX8 15 "CardBowl$Ways" "caller" "I", .fieldLink RX8 19 "CardBowl$Ways" "goal" "I", .fieldLink RX8 22 "CardBowl$Ways" "house" "[I", .fieldLink RX8 25 "CardBowl$Ways" "friends" "[I", .fieldLink RX8 28 "CardBowl$Ways" "links" "[I", .fieldLink RX8 31 "CardBowl$Ways" "queue" "[I", .fieldLink RX8 34 "CardBowl$Ways" "latest" "[I"] ++ wsX80)
def wsX9_init_r1 : List Cond := [Cond.methodLink RX9 1 objectInit, Cond.instanceMethod objectInit, Cond.code objectInit ⟨#[0xb1]⟩ 1 none, Cond.arrayClass .byte, Cond.fieldLink RX9 9 "CardBowl" "tape" "[B", Cond.classLink RX9 13 RX3, Cond.instantiable RX3 10, Cond.initialized RX3, Cond.fieldLink RX9 16 "CardBowl" "reader" "LCardBowl$Reader;", Cond.classLink RX9 20 RX6, Cond.instantiable RX6 8, Cond.initialized RX6, Cond.fieldLink RX9 23 "CardBowl" "state" "LCardBowl$State;", Cond.fieldLink RX9 27 "CardBowl" "images" "[LCardBowl$State;", Cond.classLink RX9 31 RX5, Cond.fieldLink RX9 33 "CardBowl" "slots" "[LCardBowl$Slot;", Cond.classLink RX9 37 RX4, Cond.instantiable RX4 17, Cond.initialized RX4, Cond.fieldLink RX9 40 "CardBowl" "rounds" "LCardBowl$Rounds;", Cond.classLink RX9 44 RX8, Cond.instantiable RX8 11, Cond.initialized RX8, Cond.fieldLink RX9 47 "CardBowl" "ways" "LCardBowl$Ways;"]
def wsX9_init_r2 : List Cond := [Cond.classLink RX9 51 RX1, Cond.instantiable RX1 8, Cond.initialized RX1, Cond.fieldLink RX9 54 "CardBowl" "otherDebts" "LCardBowl$Debts;", Cond.arrayClass .int, Cond.fieldLink RX9 58 "CardBowl" "otherKnows" "[I", Cond.instantiable RX5 4, Cond.initialized RX5, Cond.instanceMethod yX3_init, Cond.code yX3_init cX3_init 1 none, Cond.methodLink RX3 3 objectInit, Cond.classLink RX3 9 RX7, Cond.instantiable RX7 12, Cond.initialized RX7, Cond.fieldLink RX3 12 "CardBowl$Reader" "town" "LCardBowl$Town;", Cond.classLink RX3 18 RX0, Cond.instantiable RX0 10, Cond.initialized RX0, Cond.fieldLink RX3 21 "CardBowl$Reader" "code" "LCardBowl$Code;", Cond.fieldLink RX3 25 "CardBowl$Reader" "place" "I", Cond.instanceMethod yX7_init, Cond.code yX7_init cX7_init 1 none, Cond.methodLink RX7 3 objectInit, Cond.fieldLink RX7 11 "CardBowl$Town" "introducers" "I"]
def wsX9_init_r3 : List Cond := [Cond.fieldLink RX7 15 "CardBowl$Town" "x" "[I", Cond.fieldLink RX7 19 "CardBowl$Town" "y" "[I", Cond.fieldLink RX7 22 "CardBowl$Town" "rank" "[I", Cond.fieldLink RX7 25 "CardBowl$Town" "weekday" "[I", Cond.fieldLink RX7 28 "CardBowl$Town" "from" "[I", Cond.fieldLink RX7 31 "CardBowl$Town" "to" "[I", Cond.fieldLink RX7 34 "CardBowl$Town" "came" "[I", Cond.fieldLink RX7 37 "CardBowl$Town" "bride" "[I", Cond.fieldLink RX7 40 "CardBowl$Town" "told" "[I", Cond.instanceMethod yX0_init, Cond.code yX0_init cX0_init 1 none, Cond.methodLink RX0 3 objectInit, Cond.fieldLink RX0 9 "CardBowl$Code" "paying" "[I", Cond.fieldLink RX0 15 "CardBowl$Code" "kind" "[I", Cond.fieldLink RX0 18 "CardBowl$Code" "within" "[I", Cond.fieldLink RX0 21 "CardBowl$Code" "start" "[I", Cond.fieldLink RX0 24 "CardBowl$Code" "stop" "[I", Cond.fieldLink RX0 27 "CardBowl$Code" "tests" "[I", Cond.fieldLink RX0 30 "CardBowl$Code" "facts" "[I", Cond.instanceMethod yX6_init, Cond.code yX6_init cX6_init 1 none, Cond.methodLink RX6 3 objectInit, Cond.classLink RX6 9 RX7, Cond.fieldLink RX6 12 "CardBowl$State" "town" "LCardBowl$Town;"]
def wsX9_init_r4 : List Cond := [Cond.classLink RX6 18 RX0, Cond.fieldLink RX6 21 "CardBowl$State" "code" "LCardBowl$Code;", Cond.classLink RX6 25 RX1, Cond.fieldLink RX6 28 "CardBowl$State" "debts" "LCardBowl$Debts;", Cond.classLink RX6 32 RX2, Cond.instantiable RX2 5, Cond.initialized RX2, Cond.fieldLink RX6 35 "CardBowl$State" "deeds" "LCardBowl$Deeds;", Cond.fieldLink RX6 39 "CardBowl$State" "knows" "[I", Cond.fieldLink RX6 43 "CardBowl$State" "follows" "[I", Cond.instanceMethod yX1_init, Cond.code yX1_init cX1_init 1 none, Cond.methodLink RX1 3 objectInit, Cond.fieldLink RX1 9 "CardBowl$Debts" "debtor" "[I", Cond.fieldLink RX1 15 "CardBowl$Debts" "creditor" "[I", Cond.fieldLink RX1 18 "CardBowl$Debts" "kind" "[I", Cond.fieldLink RX1 21 "CardBowl$Debts" "due" "[I", Cond.fieldLink RX1 24 "CardBowl$Debts" "came" "[I", Cond.fieldLink RX1 27 "CardBowl$Debts" "open" "[I", Cond.fieldLink RX1 30 "CardBowl$Debts" "kinds" "[I", Cond.instanceMethod yX2_init, Cond.code yX2_init cX2_init 1 none, Cond.methodLink RX2 3 objectInit, Cond.fieldLink RX2 9 "CardBowl$Deeds" "who" "[I"]
def wsX9_init_r5 : List Cond := [Cond.fieldLink RX2 15 "CardBowl$Deeds" "whom" "[I", Cond.fieldLink RX2 18 "CardBowl$Deeds" "what" "[I", Cond.fieldLink RX2 21 "CardBowl$Deeds" "day" "[I", Cond.instanceMethod yX4_init, Cond.code yX4_init cX4_init 1 none, Cond.methodLink RX4 5 objectInit, Cond.fieldLink RX4 11 "CardBowl$Rounds" "order" "[I", Cond.fieldLink RX4 15 "CardBowl$Rounds" "owner" "I", Cond.fieldLink RX4 19 "CardBowl$Rounds" "weekday" "I", Cond.fieldLink RX4 22 "CardBowl$Rounds" "spot" "[I", Cond.fieldLink RX4 25 "CardBowl$Rounds" "deadline" "[I", Cond.fieldLink RX4 28 "CardBowl$Rounds" "opens" "[I", Cond.fieldLink RX4 31 "CardBowl$Rounds" "closes" "[I", Cond.fieldLink RX4 34 "CardBowl$Rounds" "stays" "[I", Cond.fieldLink RX4 37 "CardBowl$Rounds" "apart" "[I", Cond.fieldLink RX4 40 "CardBowl$Rounds" "minute" "[I", Cond.fieldLink RX4 43 "CardBowl$Rounds" "soonest" "[I", Cond.fieldLink RX4 46 "CardBowl$Rounds" "sums" "[I", Cond.instanceMethod yX8_init, Cond.code yX8_init cX8_init 1 none, Cond.methodLink RX8 5 objectInit, Cond.fieldLink RX8 11 "CardBowl$Ways" "calls" "[I", Cond.fieldLink RX8 15 "CardBowl$Ways" "caller" "I", Cond.fieldLink RX8 19 "CardBowl$Ways" "goal" "I"]
def wsX9_init_r6 : List Cond := [Cond.fieldLink RX8 22 "CardBowl$Ways" "house" "[I", Cond.fieldLink RX8 25 "CardBowl$Ways" "friends" "[I", Cond.fieldLink RX8 28 "CardBowl$Ways" "links" "[I", Cond.fieldLink RX8 31 "CardBowl$Ways" "queue" "[I", Cond.fieldLink RX8 34 "CardBowl$Ways" "latest" "[I", Cond.instanceMethod yX5_init, Cond.code yX5_init cX5_init 1 none, Cond.methodLink RX5 3 objectInit, Cond.arrayClass .long, Cond.fieldLink RX5 9 "CardBowl$Slot" "numbers" "[J"]
def wsX9_init : List Cond := .code yX9_init cX9_init 2 none :: ((wsX9_init_r1 ++ (wsX9_init_r2 ++ (wsX9_init_r3 ++ (wsX9_init_r4 ++ (wsX9_init_r5 ++ wsX9_init_r6))))) ++ wsX90 ++ wsX30 ++ wsX60 ++ wsX40 ++ wsX80 ++ wsX10 ++ wsX50 ++ wsX70 ++ wsX00 ++ wsX20)
def wsX9_feedNumber : List Cond := .code yX9_feedNumber cX9_feedNumber 3 none :: ([.fieldLink RX9 63 "CardBowl" "tapeSize" "I", .fieldLink RX9 9 "CardBowl" "tape" "[B"] ++ wsX90)
def wsX9_feed : List Cond := .code yX9_feed cX9_feed 6 (some .int) :: ([.fieldLink RX9 63 "CardBowl" "tapeSize" "I", .methodLink RX9 67 yX9_feedNumber, .instanceMethod yX9_feedNumber, .selects RX9 yX9_feedNumber yX9_feedNumber, .initialized RX9, .code yX9_feedNumber cX9_feedNumber 3 none, .fieldLink RX9 9 "CardBowl" "tape" "[B"] ++ wsX90)
def wsX9_end : List Cond := .code yX9_end cX9_end 2 (some .int) :: ([.fieldLink RX9 63 "CardBowl" "tapeSize" "I"] ++ wsX90)
def wsX9_forget : List Cond := .code yX9_forget cX9_forget 1 none :: ([.fieldLink RX9 40 "CardBowl" "rounds" "LCardBowl$Rounds;", .fieldLink RX9 330 "CardBowl$Rounds" "planned" "Z", .fieldLink RX9 47 "CardBowl" "ways" "LCardBowl$Ways;", .fieldLink RX9 333 "CardBowl$Ways" "sought" "Z"] ++ wsX90 ++ wsX40 ++ wsX80)
def wsX9_town_r1 : List Cond := [Cond.fieldLink RX9 16 "CardBowl" "reader" "LCardBowl$Reader;", Cond.fieldLink RX9 9 "CardBowl" "tape" "[B", Cond.fieldLink RX9 63 "CardBowl" "tapeSize" "I", Cond.fieldLink RX9 75 "CardBowl$Reader" "fault" "I", Cond.fieldLink RX9 23 "CardBowl" "state" "LCardBowl$State;", Cond.fieldLink RX9 78 "CardBowl$Reader" "town" "LCardBowl$Town;", Cond.fieldLink RX9 82 "CardBowl$Reader" "code" "LCardBowl$Code;", Cond.fieldLink RX9 93 "CardBowl$State" "town" "LCardBowl$Town;", Cond.fieldLink RX9 94 "CardBowl$Town" "houses" "I", Cond.methodLink RX9 71 yX3_read, Cond.instanceMethod yX3_read, Cond.selects RX3 yX3_read yX3_read, Cond.initialized RX3, Cond.code yX3_read cX3_read 5 none, Cond.fieldLink RX3 29 "CardBowl$Reader" "text" "[B", Cond.methodLink RX3 33 Lib.Math.min.name, Cond.static Lib.Math.min.name, Cond.initialized "java/lang/Math", Cond.code Lib.Math.min.name Lib.Math.min.code 2 (some .int), Cond.fieldLink RX3 39 "CardBowl$Reader" "size" "I", Cond.fieldLink RX3 42 "CardBowl$Reader" "next" "I", Cond.fieldLink RX3 45 "CardBowl$Reader" "fault" "I", Cond.fieldLink RX3 25 "CardBowl$Reader" "place" "I", Cond.fieldLink RX3 12 "CardBowl$Reader" "town" "LCardBowl$Town;"]
def wsX9_town_r2 : List Cond := [Cond.fieldLink RX3 21 "CardBowl$Reader" "code" "LCardBowl$Code;", Cond.fieldLink RX3 55 "CardBowl$Reader" "kind" "I", Cond.methodLink RX3 48 yX7_clear, Cond.instanceMethod yX7_clear, Cond.selects RX7 yX7_clear yX7_clear, Cond.initialized RX7, Cond.code yX7_clear cX7_clear 1 none, Cond.fieldLink RX7 43 "CardBowl$Town" "houses" "I", Cond.fieldLink RX7 46 "CardBowl$Town" "fresh" "I", Cond.fieldLink RX7 11 "CardBowl$Town" "introducers" "I", Cond.fieldLink RX7 40 "CardBowl$Town" "told" "[I", Cond.methodLink RX7 49 yJ7_fill_53178, Cond.static yJ7_fill_53178, Cond.initialized RJ7, Cond.code yJ7_fill_53178 cJ7_fill_53178 4 none, Cond.methodLink RX3 51 yX0_clear, Cond.instanceMethod yX0_clear, Cond.selects RX0 yX0_clear yX0_clear, Cond.initialized RX0, Cond.code yX0_clear cX0_clear 1 none, Cond.fieldLink RX0 33 "CardBowl$Code" "lines" "I", Cond.fieldLink RX0 37 "CardBowl$Code" "used" "I", Cond.methodLink RX3 52 yX3_advance, Cond.instanceMethod yX3_advance]
def wsX9_town_r3 : List Cond := [Cond.selects RX3 yX3_advance yX3_advance, Cond.code yX3_advance cX3_advance 1 none, Cond.fieldLink RX3 179 "CardBowl$Reader" "begin" "I", Cond.methodLink RX3 182 yX3_takeWord, Cond.instanceMethod yX3_takeWord, Cond.selects RX3 yX3_takeWord yX3_takeWord, Cond.code yX3_takeWord cX3_takeWord 1 none, Cond.methodLink RX3 185 yX3_takeNumber, Cond.instanceMethod yX3_takeNumber, Cond.selects RX3 yX3_takeNumber yX3_takeNumber, Cond.code yX3_takeNumber cX3_takeNumber 1 none, Cond.fieldLink RX3 136 "CardBowl$Reader" "value" "I", Cond.constant RX3 188 (1000000), Cond.methodLink RX3 60 yX3_among, Cond.instanceMethod yX3_among, Cond.selects RX3 yX3_among yX3_among, Cond.code yX3_among cX3_among 7 (some .int), Cond.methodLink RX3 189 yJ0_length_8abf5, Cond.instanceMethod yJ0_length_8abf5, Cond.selects RJ0 yJ0_length_8abf5 yJ0_length_8abf5, Cond.initialized RJ0, Cond.code yJ0_length_8abf5 cJ0_length_8abf5 1 (some .int), Cond.fieldLink RJ0 9 "java/lang/String" "value" "[B", Cond.methodLink RJ0 335 yJ0_coder_7d493]
def wsX9_town_r4 : List Cond := [Cond.instanceMethod yJ0_coder_7d493, Cond.selects RJ0 yJ0_coder_7d493 yJ0_coder_7d493, Cond.code yJ0_coder_7d493 cJ0_coder_7d493 1 (some .byte), Cond.fieldLink RJ0 38 "java/lang/String" "COMPACT_STRINGS" "Z", Cond.fieldLink RJ0 15 "java/lang/String" "coder" "B", Cond.methodLink RX3 195 yJ0_charAt_5068e, Cond.instanceMethod yJ0_charAt_5068e, Cond.selects RJ0 yJ0_charAt_5068e yJ0_charAt_5068e, Cond.code yJ0_charAt_5068e cJ0_charAt_5068e 2 (some .char), Cond.methodLink RJ0 492 yJ0_isLatin1_aae02, Cond.instanceMethod yJ0_isLatin1_aae02, Cond.selects RJ0 yJ0_isLatin1_aae02 yJ0_isLatin1_aae02, Cond.code yJ0_isLatin1_aae02 cJ0_isLatin1_aae02 1 (some .boolean), Cond.methodLink RJ0 495 yJ1_charAt_3b067, Cond.static yJ1_charAt_3b067, Cond.initialized RJ1, Cond.code yJ1_charAt_3b067 cJ1_charAt_3b067 2 (some .char), Cond.methodLink RJ1 9 yJ0_checkIndex_df160, Cond.static yJ0_checkIndex_df160, Cond.code yJ0_checkIndex_df160 cJ0_checkIndex_df160 2 none, Cond.fieldLink RJ0 1053 "jdk/internal/util/Preconditions" "SIOOBE_FORMATTER" "Ljava/util/function/BiFunction;", Cond.methodLink RJ0 1059 yJ3_checkIndex_8e157, Cond.static yJ3_checkIndex_8e157, Cond.initialized RJ3]
def wsX9_town_r5 : List Cond := [Cond.code yJ3_checkIndex_8e157 cJ3_checkIndex_8e157 3 (some .int), Cond.methodLink RJ0 498 yJ2_charAt_3b067, Cond.static yJ2_charAt_3b067, Cond.initialized RJ2, Cond.code yJ2_charAt_3b067 cJ2_charAt_3b067 2 (some .char), Cond.methodLink RJ2 67 yJ2_checkIndex_2214a, Cond.static yJ2_checkIndex_2214a, Cond.code yJ2_checkIndex_2214a cJ2_checkIndex_2214a 2 none, Cond.methodLink RJ2 48 yJ2_length_9d52b, Cond.static yJ2_length_9d52b, Cond.code yJ2_length_9d52b cJ2_length_9d52b 1 (some .int), Cond.methodLink RJ2 414 yJ0_checkIndex_df160, Cond.methodLink RJ2 71 yJ2_getChar_3b067, Cond.static yJ2_getChar_3b067, Cond.code yJ2_getChar_3b067 cJ2_getChar_3b067 2 (some .char), Cond.fieldLink RJ2 44 "java/lang/StringUTF16" "$assertionsDisabled" "Z", Cond.fieldLink RJ2 59 "java/lang/StringUTF16" "HI_BYTE_SHIFT" "I", Cond.fieldLink RJ2 63 "java/lang/StringUTF16" "LO_BYTE_SHIFT" "I", Cond.methodLink RX3 64 yX3_readOwes, Cond.instanceMethod yX3_readOwes, Cond.selects RX3 yX3_readOwes yX3_readOwes, Cond.code yX3_readOwes cX3_readOwes 3 none, Cond.fieldLink RX3 142 "CardBowl$Code" "lines" "I", Cond.fieldLink RX3 147 "CardBowl$Code" "paying" "[I"]
def wsX9_town_r6 : List Cond := [Cond.fieldLink RX3 150 "CardBowl$Code" "kind" "[I", Cond.fieldLink RX3 156 "CardBowl$Code" "within" "[I", Cond.fieldLink RX3 158 "CardBowl$Code" "start" "[I", Cond.fieldLink RX3 161 "CardBowl$Code" "used" "I", Cond.fieldLink RX3 169 "CardBowl$Code" "stop" "[I", Cond.methodLink RX3 89 yX3_refuse, Cond.instanceMethod yX3_refuse, Cond.selects RX3 yX3_refuse yX3_refuse, Cond.code yX3_refuse cX3_refuse 2 none, Cond.methodLink RX3 97 yX3_choice, Cond.instanceMethod yX3_choice, Cond.selects RX3 yX3_choice yX3_choice, Cond.code yX3_choice cX3_choice 3 (some .int), Cond.methodLink RX3 80 yX3_number, Cond.instanceMethod yX3_number, Cond.selects RX3 yX3_number yX3_number, Cond.code yX3_number cX3_number 4 (some .int), Cond.methodLink RX3 128 yX3_takes, Cond.instanceMethod yX3_takes, Cond.selects RX3 yX3_takes yX3_takes, Cond.code yX3_takes cX3_takes 2 (some .boolean), Cond.methodLink RX3 166 yX3_readTests, Cond.instanceMethod yX3_readTests, Cond.selects RX3 yX3_readTests yX3_readTests]
def wsX9_town_r7 : List Cond := [Cond.code yX3_readTests cX3_readTests 7 none, Cond.methodLink RX3 174 yX0_put, Cond.instanceMethod yX0_put, Cond.selects RX0 yX0_put yX0_put, Cond.code yX0_put cX0_put 2 none, Cond.fieldLink RX0 27 "CardBowl$Code" "tests" "[I", Cond.methodLink RX3 68 yX3_readOther, Cond.instanceMethod yX3_readOther, Cond.selects RX3 yX3_readOther yX3_readOther, Cond.code yX3_readOther cX3_readOther 2 none, Cond.fieldLink RX3 83 "CardBowl$Town" "fresh" "I", Cond.fieldLink RX3 86 "CardBowl$Town" "introducers" "I", Cond.methodLink RX3 74 yX3_readHouse, Cond.instanceMethod yX3_readHouse, Cond.selects RX3 yX3_readHouse yX3_readHouse, Cond.code yX3_readHouse cX3_readHouse 2 none, Cond.fieldLink RX3 92 "CardBowl$Town" "houses" "I", Cond.fieldLink RX3 100 "CardBowl$Town" "x" "[I", Cond.fieldLink RX3 104 "CardBowl$Town" "y" "[I", Cond.fieldLink RX3 109 "CardBowl$Town" "rank" "[I", Cond.fieldLink RX3 113 "CardBowl$Town" "weekday" "[I", Cond.fieldLink RX3 118 "CardBowl$Town" "from" "[I", Cond.fieldLink RX3 121 "CardBowl$Town" "to" "[I", Cond.fieldLink RX3 124 "CardBowl$Town" "came" "[I"]
def wsX9_town_r8 : List Cond := [Cond.fieldLink RX3 132 "CardBowl$Town" "bride" "[I", Cond.methodLink RX3 77 yX3_readKnow, Cond.instanceMethod yX3_readKnow, Cond.selects RX3 yX3_readKnow yX3_readKnow, Cond.code yX3_readKnow cX3_readKnow 3 none, Cond.fieldLink RX3 139 "CardBowl$Town" "told" "[I", Cond.methodLink RX3 71 yX3_closeLine, Cond.instanceMethod yX3_closeLine, Cond.selects RX3 yX3_closeLine yX3_closeLine, Cond.code yX3_closeLine cX3_closeLine 1 none, Cond.methodLink RX9 86 yX6_begin, Cond.instanceMethod yX6_begin, Cond.selects RX6 yX6_begin yX6_begin, Cond.initialized RX6, Cond.code yX6_begin cX6_begin 3 none, Cond.fieldLink RX6 12 "CardBowl$State" "town" "LCardBowl$Town;", Cond.fieldLink RX6 21 "CardBowl$State" "code" "LCardBowl$Code;", Cond.fieldLink RX6 28 "CardBowl$State" "debts" "LCardBowl$Debts;", Cond.fieldLink RX6 35 "CardBowl$State" "deeds" "LCardBowl$Deeds;", Cond.fieldLink RX6 56 "CardBowl$Deeds" "size" "I", Cond.fieldLink RX6 60 "CardBowl$Town" "told" "[I", Cond.fieldLink RX6 39 "CardBowl$State" "knows" "[I", Cond.methodLink RX6 63 arraycopyName, Cond.native arraycopyName]
def wsX9_town_r9 : List Cond := [Cond.static arraycopyName, Cond.initialized "java/lang/System", Cond.fieldLink RX6 69 "CardBowl$State" "day" "I", Cond.fieldLink RX6 72 "CardBowl$State" "paid" "I", Cond.methodLink RX6 46 yX7_copy, Cond.instanceMethod yX7_copy, Cond.selects RX7 yX7_copy yX7_copy, Cond.code yX7_copy cX7_copy 2 none, Cond.fieldLink RX7 15 "CardBowl$Town" "x" "[I", Cond.methodLink RX7 55 arraycopyName, Cond.fieldLink RX7 19 "CardBowl$Town" "y" "[I", Cond.fieldLink RX7 22 "CardBowl$Town" "rank" "[I", Cond.fieldLink RX7 25 "CardBowl$Town" "weekday" "[I", Cond.fieldLink RX7 28 "CardBowl$Town" "from" "[I", Cond.fieldLink RX7 31 "CardBowl$Town" "to" "[I", Cond.fieldLink RX7 34 "CardBowl$Town" "came" "[I", Cond.fieldLink RX7 37 "CardBowl$Town" "bride" "[I", Cond.methodLink RX6 50 yX0_copy, Cond.instanceMethod yX0_copy, Cond.selects RX0 yX0_copy yX0_copy, Cond.code yX0_copy cX0_copy 2 none, Cond.fieldLink RX0 9 "CardBowl$Code" "paying" "[I", Cond.methodLink RX0 40 arraycopyName, Cond.fieldLink RX0 15 "CardBowl$Code" "kind" "[I"]
def wsX9_town_r10 : List Cond := [Cond.fieldLink RX0 18 "CardBowl$Code" "within" "[I", Cond.fieldLink RX0 21 "CardBowl$Code" "start" "[I", Cond.fieldLink RX0 24 "CardBowl$Code" "stop" "[I", Cond.methodLink RX6 53 yX1_clear, Cond.instanceMethod yX1_clear, Cond.selects RX1 yX1_clear yX1_clear, Cond.initialized RX1, Cond.code yX1_clear cX1_clear 1 none, Cond.fieldLink RX1 33 "CardBowl$Debts" "size" "I", Cond.fieldLink RX1 27 "CardBowl$Debts" "open" "[I", Cond.fieldLink RX1 30 "CardBowl$Debts" "kinds" "[I", Cond.methodLink RX1 37 yJ7_fill_53178, Cond.methodLink RX9 90 yX9_forget, Cond.instanceMethod yX9_forget, Cond.selects RX9 yX9_forget yX9_forget, Cond.initialized RX9, Cond.code yX9_forget cX9_forget 1 none, Cond.fieldLink RX9 40 "CardBowl" "rounds" "LCardBowl$Rounds;", Cond.fieldLink RX9 330 "CardBowl$Rounds" "planned" "Z", Cond.fieldLink RX9 47 "CardBowl" "ways" "LCardBowl$Ways;", Cond.fieldLink RX9 333 "CardBowl$Ways" "sought" "Z"]
def wsX9_town : List Cond := .code yX9_town cX9_town 1 (some .int) :: ((wsX9_town_r1 ++ (wsX9_town_r2 ++ (wsX9_town_r3 ++ (wsX9_town_r4 ++ (wsX9_town_r5 ++ (wsX9_town_r6 ++ (wsX9_town_r7 ++ (wsX9_town_r8 ++ (wsX9_town_r9 ++ wsX9_town_r10))))))))) ++ wsX90 ++ wsX30 ++ wsX60 ++ wsX70 ++ wsX00 ++ wsX20 ++ wsX10 ++ wsX40 ++ wsX80)
def wsX9_fault : List Cond := .code yX9_fault cX9_fault 2 (some .int) :: ([.fieldLink RX9 16 "CardBowl" "reader" "LCardBowl$Reader;", .fieldLink RX9 75 "CardBowl$Reader" "fault" "I", .fieldLink RX9 99 "CardBowl$Reader" "place" "I"] ++ wsX90 ++ wsX30)
def wsX9_days : List Cond := .code yX9_days cX9_days 2 (some .int) :: ([.fieldLink RX9 23 "CardBowl" "state" "LCardBowl$State;", .fieldLink RX9 102 "CardBowl$State" "day" "I", .methodLink RX9 90 yX9_forget, .instanceMethod yX9_forget, .selects RX9 yX9_forget yX9_forget, .initialized RX9, .code yX9_forget cX9_forget 1 none, .fieldLink RX9 40 "CardBowl" "rounds" "LCardBowl$Rounds;", .fieldLink RX9 330 "CardBowl$Rounds" "planned" "Z", .fieldLink RX9 47 "CardBowl" "ways" "LCardBowl$Ways;", .fieldLink RX9 333 "CardBowl$Ways" "sought" "Z"] ++ wsX90 ++ wsX60 ++ wsX40 ++ wsX80)
def wsX9_isDeed : List Cond := .code yX9_isDeed cX9_isDeed 4 (some .boolean) :: ([.fieldLink RX9 23 "CardBowl" "state" "LCardBowl$State;", .fieldLink RX9 93 "CardBowl$State" "town" "LCardBowl$Town;", .methodLink RX9 126 yX7_hasPair, .instanceMethod yX7_hasPair, .selects RX7 yX7_hasPair yX7_hasPair, .initialized RX7, .code yX7_hasPair cX7_hasPair 3 (some .boolean), .methodLink RX7 61 yX7_has, .instanceMethod yX7_has, .selects RX7 yX7_has yX7_has, .code yX7_has cX7_has 2 (some .boolean), .fieldLink RX7 43 "CardBowl$Town" "houses" "I"] ++ wsX90 ++ wsX60 ++ wsX70)
def wsX9_bars_r1 : List Cond := [Cond.fieldLink RX9 23 "CardBowl" "state" "LCardBowl$State;", Cond.methodLink RX9 105 yX9_isDeed, Cond.instanceMethod yX9_isDeed, Cond.selects RX9 yX9_isDeed yX9_isDeed, Cond.initialized RX9, Cond.code yX9_isDeed cX9_isDeed 4 (some .boolean), Cond.fieldLink RX9 93 "CardBowl$State" "town" "LCardBowl$Town;", Cond.methodLink RX9 126 yX7_hasPair, Cond.instanceMethod yX7_hasPair, Cond.selects RX7 yX7_hasPair yX7_hasPair, Cond.initialized RX7, Cond.code yX7_hasPair cX7_hasPair 3 (some .boolean), Cond.methodLink RX7 61 yX7_has, Cond.instanceMethod yX7_has, Cond.selects RX7 yX7_has yX7_has, Cond.code yX7_has cX7_has 2 (some .boolean), Cond.fieldLink RX7 43 "CardBowl$Town" "houses" "I", Cond.methodLink RX9 109 yX6_barrier, Cond.instanceMethod yX6_barrier, Cond.selects RX6 yX6_barrier yX6_barrier, Cond.initialized RX6, Cond.code yX6_barrier cX6_barrier 4 (some .int), Cond.fieldLink RX6 12 "CardBowl$State" "town" "LCardBowl$Town;", Cond.fieldLink RX6 69 "CardBowl$State" "day" "I"]
def wsX9_bars_r2 : List Cond := [Cond.fieldLink RX6 88 "CardBowl$Town" "weekday" "[I", Cond.methodLink RX6 81 yX7_isThere, Cond.instanceMethod yX7_isThere, Cond.selects RX7 yX7_isThere yX7_isThere, Cond.code yX7_isThere cX7_isThere 3 (some .boolean), Cond.fieldLink RX7 34 "CardBowl$Town" "came" "[I", Cond.methodLink RX6 85 yX6_isOpenTo, Cond.instanceMethod yX6_isOpenTo, Cond.selects RX6 yX6_isOpenTo yX6_isOpenTo, Cond.code yX6_isOpenTo cX6_isOpenTo 3 (some .boolean), Cond.fieldLink RX6 39 "CardBowl$State" "knows" "[I", Cond.fieldLink RX6 107 "CardBowl$Town" "introducers" "I", Cond.methodLink RX6 94 yX6_knew, Cond.instanceMethod yX6_knew, Cond.selects RX6 yX6_knew yX6_knew, Cond.code yX6_knew cX6_knew 3 (some .int), Cond.methodLink RX6 98 yX7_isNew, Cond.instanceMethod yX7_isNew, Cond.selects RX7 yX7_isNew yX7_isNew, Cond.code yX7_isNew cX7_isNew 3 (some .boolean), Cond.fieldLink RX7 46 "CardBowl$Town" "fresh" "I", Cond.methodLink RX6 101 yJ6_bitCount_0f7a4, Cond.static yJ6_bitCount_0f7a4, Cond.initialized RJ6]
def wsX9_bars_r3 : List Cond := [Cond.code yJ6_bitCount_0f7a4 cJ6_bitCount_0f7a4 1 (some .int), Cond.constant RJ6 265 (1431655765), Cond.constant RJ6 266 (858993459), Cond.constant RJ6 267 (252645135), Cond.methodLink RX6 91 yX7_waits, Cond.instanceMethod yX7_waits, Cond.selects RX7 yX7_waits yX7_waits, Cond.code yX7_waits cX7_waits 3 (some .boolean), Cond.fieldLink RX7 37 "CardBowl$Town" "bride" "[I"]
def wsX9_bars : List Cond := .code yX9_bars cX9_bars 4 (some .int) :: ((wsX9_bars_r1 ++ (wsX9_bars_r2 ++ wsX9_bars_r3)) ++ wsX90 ++ wsX60 ++ wsX70)
def wsX9_does_r1 : List Cond := [Cond.fieldLink RX9 23 "CardBowl" "state" "LCardBowl$State;", Cond.fieldLink RX9 113 "CardBowl$State" "deeds" "LCardBowl$Deeds;", Cond.methodLink RX9 105 yX9_isDeed, Cond.instanceMethod yX9_isDeed, Cond.selects RX9 yX9_isDeed yX9_isDeed, Cond.initialized RX9, Cond.code yX9_isDeed cX9_isDeed 4 (some .boolean), Cond.fieldLink RX9 93 "CardBowl$State" "town" "LCardBowl$Town;", Cond.methodLink RX9 126 yX7_hasPair, Cond.instanceMethod yX7_hasPair, Cond.selects RX7 yX7_hasPair yX7_hasPair, Cond.initialized RX7, Cond.code yX7_hasPair cX7_hasPair 3 (some .boolean), Cond.methodLink RX7 61 yX7_has, Cond.instanceMethod yX7_has, Cond.selects RX7 yX7_has yX7_has, Cond.code yX7_has cX7_has 2 (some .boolean), Cond.fieldLink RX7 43 "CardBowl$Town" "houses" "I", Cond.methodLink RX9 109 yX6_barrier, Cond.instanceMethod yX6_barrier, Cond.selects RX6 yX6_barrier yX6_barrier, Cond.initialized RX6, Cond.code yX6_barrier cX6_barrier 4 (some .int), Cond.fieldLink RX6 12 "CardBowl$State" "town" "LCardBowl$Town;"]
def wsX9_does_r2 : List Cond := [Cond.fieldLink RX6 69 "CardBowl$State" "day" "I", Cond.fieldLink RX6 88 "CardBowl$Town" "weekday" "[I", Cond.methodLink RX6 81 yX7_isThere, Cond.instanceMethod yX7_isThere, Cond.selects RX7 yX7_isThere yX7_isThere, Cond.code yX7_isThere cX7_isThere 3 (some .boolean), Cond.fieldLink RX7 34 "CardBowl$Town" "came" "[I", Cond.methodLink RX6 85 yX6_isOpenTo, Cond.instanceMethod yX6_isOpenTo, Cond.selects RX6 yX6_isOpenTo yX6_isOpenTo, Cond.code yX6_isOpenTo cX6_isOpenTo 3 (some .boolean), Cond.fieldLink RX6 39 "CardBowl$State" "knows" "[I", Cond.fieldLink RX6 107 "CardBowl$Town" "introducers" "I", Cond.methodLink RX6 94 yX6_knew, Cond.instanceMethod yX6_knew, Cond.selects RX6 yX6_knew yX6_knew, Cond.code yX6_knew cX6_knew 3 (some .int), Cond.methodLink RX6 98 yX7_isNew, Cond.instanceMethod yX7_isNew, Cond.selects RX7 yX7_isNew yX7_isNew, Cond.code yX7_isNew cX7_isNew 3 (some .boolean), Cond.fieldLink RX7 46 "CardBowl$Town" "fresh" "I", Cond.methodLink RX6 101 yJ6_bitCount_0f7a4, Cond.static yJ6_bitCount_0f7a4]
def wsX9_does_r3 : List Cond := [Cond.initialized RJ6, Cond.code yJ6_bitCount_0f7a4 cJ6_bitCount_0f7a4 1 (some .int), Cond.constant RJ6 265 (1431655765), Cond.constant RJ6 266 (858993459), Cond.constant RJ6 267 (252645135), Cond.methodLink RX6 91 yX7_waits, Cond.instanceMethod yX7_waits, Cond.selects RX7 yX7_waits yX7_waits, Cond.code yX7_waits cX7_waits 3 (some .boolean), Cond.fieldLink RX7 37 "CardBowl$Town" "bride" "[I", Cond.methodLink RX9 117 yX2_isFull, Cond.instanceMethod yX2_isFull, Cond.selects RX2 yX2_isFull yX2_isFull, Cond.initialized RX2, Cond.code yX2_isFull cX2_isFull 1 (some .boolean), Cond.fieldLink RX2 24 "CardBowl$Deeds" "size" "I", Cond.methodLink RX9 90 yX9_forget, Cond.instanceMethod yX9_forget, Cond.selects RX9 yX9_forget yX9_forget, Cond.code yX9_forget cX9_forget 1 none, Cond.fieldLink RX9 40 "CardBowl" "rounds" "LCardBowl$Rounds;", Cond.fieldLink RX9 330 "CardBowl$Rounds" "planned" "Z", Cond.fieldLink RX9 47 "CardBowl" "ways" "LCardBowl$Ways;", Cond.fieldLink RX9 333 "CardBowl$Ways" "sought" "Z"]
def wsX9_does_r4 : List Cond := [Cond.methodLink RX9 123 yX6_act, Cond.instanceMethod yX6_act, Cond.selects RX6 yX6_act yX6_act, Cond.code yX6_act cX6_act 5 (some .int), Cond.fieldLink RX6 28 "CardBowl$State" "debts" "LCardBowl$Debts;", Cond.fieldLink RX6 21 "CardBowl$State" "code" "LCardBowl$Code;", Cond.fieldLink RX6 72 "CardBowl$State" "paid" "I", Cond.fieldLink RX6 35 "CardBowl$State" "deeds" "LCardBowl$Deeds;", Cond.methodLink RX6 110 yX6_deal, Cond.instanceMethod yX6_deal, Cond.selects RX6 yX6_deal yX6_deal, Cond.code yX6_deal cX6_deal 10 (some .int), Cond.fieldLink RX6 126 "CardBowl$Town" "rank" "[I", Cond.fieldLink RX6 129 "CardBowl$Debts" "open" "[I", Cond.fieldLink RX6 136 "CardBowl$Code" "kind" "[I", Cond.fieldLink RX6 143 "CardBowl$Code" "within" "[I", Cond.methodLink RX6 146 Lib.Math.min.name, Cond.static Lib.Math.min.name, Cond.initialized "java/lang/Math", Cond.code Lib.Math.min.name Lib.Math.min.code 2 (some .int), Cond.methodLink RX6 122 yX1_settle, Cond.instanceMethod yX1_settle, Cond.selects RX1 yX1_settle yX1_settle, Cond.initialized RX1]
def wsX9_does_r5 : List Cond := [Cond.code yX1_settle cX1_settle 7 (some .int), Cond.fieldLink RX1 33 "CardBowl$Debts" "size" "I", Cond.fieldLink RX1 9 "CardBowl$Debts" "debtor" "[I", Cond.fieldLink RX1 15 "CardBowl$Debts" "creditor" "[I", Cond.fieldLink RX1 18 "CardBowl$Debts" "kind" "[I", Cond.fieldLink RX1 27 "CardBowl$Debts" "open" "[I", Cond.fieldLink RX1 30 "CardBowl$Debts" "kinds" "[I", Cond.methodLink RX1 49 yX1_kindsOf, Cond.instanceMethod yX1_kindsOf, Cond.selects RX1 yX1_kindsOf yX1_kindsOf, Cond.code yX1_kindsOf cX1_kindsOf 3 (some .int), Cond.methodLink RX1 53 yX1_move, Cond.instanceMethod yX1_move, Cond.selects RX1 yX1_move yX1_move, Cond.code yX1_move cX1_move 3 none, Cond.fieldLink RX1 21 "CardBowl$Debts" "due" "[I", Cond.fieldLink RX1 24 "CardBowl$Debts" "came" "[I", Cond.methodLink RX6 132 yX0_lineFor, Cond.instanceMethod yX0_lineFor, Cond.selects RX0 yX0_lineFor yX0_lineFor, Cond.initialized RX0, Cond.code yX0_lineFor cX0_lineFor 8 (some .int), Cond.fieldLink RX0 30 "CardBowl$Code" "facts" "[I", Cond.fieldLink RX0 33 "CardBowl$Code" "lines" "I"]
def wsX9_does_r6 : List Cond := [Cond.fieldLink RX0 9 "CardBowl$Code" "paying" "[I", Cond.methodLink RX0 46 yX0_holds, Cond.instanceMethod yX0_holds, Cond.selects RX0 yX0_holds yX0_holds, Cond.code yX0_holds cX0_holds 13 (some .boolean), Cond.fieldLink RX0 24 "CardBowl$Code" "stop" "[I", Cond.methodLink RX0 50 Lib.Math.min.name, Cond.fieldLink RX0 56 "CardBowl$Code" "beyond" "Z", Cond.fieldLink RX0 21 "CardBowl$Code" "start" "[I", Cond.fieldLink RX0 27 "CardBowl$Code" "tests" "[I", Cond.methodLink RX0 60 yX0_partOf, Cond.instanceMethod yX0_partOf, Cond.selects RX0 yX0_partOf yX0_partOf, Cond.code yX0_partOf cX0_partOf 2 (some .int), Cond.methodLink RX0 64 yX0_bounded, Cond.instanceMethod yX0_bounded, Cond.selects RX0 yX0_bounded yX0_bounded, Cond.code yX0_bounded cX0_bounded 3 (some .long), Cond.constantLong RX0 72 (1000000000), Cond.constantLong RX0 74 (-1000000000), Cond.methodLink RX0 68 yX0_compares, Cond.static yX0_compares, Cond.code yX0_compares cX0_compares 5 (some .boolean), Cond.methodLink RX6 139 yX6_isOwed]
def wsX9_does_r7 : List Cond := [Cond.static yX6_isOwed, Cond.code yX6_isOwed cX6_isOwed 4 (some .boolean), Cond.methodLink RX6 154 yX1_kindsOf, Cond.methodLink RX6 151 yX1_add, Cond.instanceMethod yX1_add, Cond.selects RX1 yX1_add yX1_add, Cond.code yX1_add cX1_add 6 none, Cond.methodLink RX6 114 yX2_add, Cond.instanceMethod yX2_add, Cond.selects RX2 yX2_add yX2_add, Cond.code yX2_add cX2_add 5 none, Cond.fieldLink RX2 9 "CardBowl$Deeds" "who" "[I", Cond.fieldLink RX2 15 "CardBowl$Deeds" "whom" "[I", Cond.fieldLink RX2 18 "CardBowl$Deeds" "what" "[I", Cond.fieldLink RX2 21 "CardBowl$Deeds" "day" "[I", Cond.methodLink RX6 118 yX6_acquaint, Cond.static yX6_acquaint, Cond.code yX6_acquaint cX6_acquaint 3 none]
def wsX9_does : List Cond := .code yX9_does cX9_does 4 (some .int) :: ((wsX9_does_r1 ++ (wsX9_does_r2 ++ (wsX9_does_r3 ++ (wsX9_does_r4 ++ (wsX9_does_r5 ++ (wsX9_does_r6 ++ wsX9_does_r7)))))) ++ wsX90 ++ wsX60 ++ wsX70 ++ wsX20 ++ wsX40 ++ wsX80 ++ wsX10 ++ wsX00)
def wsX9_meet_r1 : List Cond := [Cond.fieldLink RX9 23 "CardBowl" "state" "LCardBowl$State;", Cond.fieldLink RX9 93 "CardBowl$State" "town" "LCardBowl$Town;", Cond.fieldLink RX9 113 "CardBowl$State" "deeds" "LCardBowl$Deeds;", Cond.methodLink RX9 126 yX7_hasPair, Cond.instanceMethod yX7_hasPair, Cond.selects RX7 yX7_hasPair yX7_hasPair, Cond.initialized RX7, Cond.code yX7_hasPair cX7_hasPair 3 (some .boolean), Cond.methodLink RX7 61 yX7_has, Cond.instanceMethod yX7_has, Cond.selects RX7 yX7_has yX7_has, Cond.code yX7_has cX7_has 2 (some .boolean), Cond.fieldLink RX7 43 "CardBowl$Town" "houses" "I", Cond.methodLink RX9 117 yX2_isFull, Cond.instanceMethod yX2_isFull, Cond.selects RX2 yX2_isFull yX2_isFull, Cond.initialized RX2, Cond.code yX2_isFull cX2_isFull 1 (some .boolean), Cond.fieldLink RX2 24 "CardBowl$Deeds" "size" "I", Cond.methodLink RX9 90 yX9_forget, Cond.instanceMethod yX9_forget, Cond.selects RX9 yX9_forget yX9_forget, Cond.initialized RX9, Cond.code yX9_forget cX9_forget 1 none]
def wsX9_meet_r2 : List Cond := [Cond.fieldLink RX9 40 "CardBowl" "rounds" "LCardBowl$Rounds;", Cond.fieldLink RX9 330 "CardBowl$Rounds" "planned" "Z", Cond.fieldLink RX9 47 "CardBowl" "ways" "LCardBowl$Ways;", Cond.fieldLink RX9 333 "CardBowl$Ways" "sought" "Z", Cond.methodLink RX9 130 yX6_chance, Cond.instanceMethod yX6_chance, Cond.selects RX6 yX6_chance yX6_chance, Cond.initialized RX6, Cond.code yX6_chance cX6_chance 4 (some .int), Cond.fieldLink RX6 39 "CardBowl$State" "knows" "[I", Cond.fieldLink RX6 35 "CardBowl$State" "deeds" "LCardBowl$Deeds;", Cond.fieldLink RX6 69 "CardBowl$State" "day" "I", Cond.methodLink RX6 94 yX6_knew, Cond.instanceMethod yX6_knew, Cond.selects RX6 yX6_knew yX6_knew, Cond.code yX6_knew cX6_knew 3 (some .int), Cond.methodLink RX6 118 yX6_acquaint, Cond.static yX6_acquaint, Cond.code yX6_acquaint cX6_acquaint 3 none, Cond.methodLink RX6 114 yX2_add, Cond.instanceMethod yX2_add, Cond.selects RX2 yX2_add yX2_add, Cond.code yX2_add cX2_add 5 none, Cond.fieldLink RX2 9 "CardBowl$Deeds" "who" "[I"]
def wsX9_meet_r3 : List Cond := [Cond.fieldLink RX2 15 "CardBowl$Deeds" "whom" "[I", Cond.fieldLink RX2 18 "CardBowl$Deeds" "what" "[I", Cond.fieldLink RX2 21 "CardBowl$Deeds" "day" "[I"]
def wsX9_meet : List Cond := .code yX9_meet cX9_meet 3 (some .int) :: ((wsX9_meet_r1 ++ (wsX9_meet_r2 ++ wsX9_meet_r3)) ++ wsX90 ++ wsX60 ++ wsX70 ++ wsX20 ++ wsX40 ++ wsX80)
def wsX9_isSlot : List Cond := .code yX9_isSlot cX9_isSlot 1 (some .boolean) :: ([])
def wsX9_done_r1 : List Cond := [Cond.fieldLink RX9 33 "CardBowl" "slots" "[LCardBowl$Slot;", Cond.fieldLink RX9 138 "CardBowl$Slot" "filled" "Z", Cond.fieldLink RX9 142 "CardBowl$Slot" "size" "I", Cond.methodLink RX9 134 yX9_isSlot, Cond.static yX9_isSlot, Cond.initialized RX9, Cond.code yX9_isSlot cX9_isSlot 1 (some .boolean), Cond.methodLink RX9 145 yX5_small, Cond.instanceMethod yX5_small, Cond.selects RX5 yX5_small yX5_small, Cond.initialized RX5, Cond.code yX5_small cX5_small 2 (some .int), Cond.fieldLink RX5 23 "CardBowl$Slot" "size" "I", Cond.fieldLink RX5 9 "CardBowl$Slot" "numbers" "[J", Cond.constantLong RX5 32 (16), Cond.methodLink RX9 149 yX9_meet, Cond.instanceMethod yX9_meet, Cond.selects RX9 yX9_meet yX9_meet, Cond.code yX9_meet cX9_meet 3 (some .int), Cond.fieldLink RX9 23 "CardBowl" "state" "LCardBowl$State;", Cond.fieldLink RX9 93 "CardBowl$State" "town" "LCardBowl$Town;", Cond.fieldLink RX9 113 "CardBowl$State" "deeds" "LCardBowl$Deeds;", Cond.methodLink RX9 126 yX7_hasPair, Cond.instanceMethod yX7_hasPair]
def wsX9_done_r2 : List Cond := [Cond.selects RX7 yX7_hasPair yX7_hasPair, Cond.initialized RX7, Cond.code yX7_hasPair cX7_hasPair 3 (some .boolean), Cond.methodLink RX7 61 yX7_has, Cond.instanceMethod yX7_has, Cond.selects RX7 yX7_has yX7_has, Cond.code yX7_has cX7_has 2 (some .boolean), Cond.fieldLink RX7 43 "CardBowl$Town" "houses" "I", Cond.methodLink RX9 117 yX2_isFull, Cond.instanceMethod yX2_isFull, Cond.selects RX2 yX2_isFull yX2_isFull, Cond.initialized RX2, Cond.code yX2_isFull cX2_isFull 1 (some .boolean), Cond.fieldLink RX2 24 "CardBowl$Deeds" "size" "I", Cond.methodLink RX9 90 yX9_forget, Cond.instanceMethod yX9_forget, Cond.selects RX9 yX9_forget yX9_forget, Cond.code yX9_forget cX9_forget 1 none, Cond.fieldLink RX9 40 "CardBowl" "rounds" "LCardBowl$Rounds;", Cond.fieldLink RX9 330 "CardBowl$Rounds" "planned" "Z", Cond.fieldLink RX9 47 "CardBowl" "ways" "LCardBowl$Ways;", Cond.fieldLink RX9 333 "CardBowl$Ways" "sought" "Z", Cond.methodLink RX9 130 yX6_chance, Cond.instanceMethod yX6_chance]
def wsX9_done_r3 : List Cond := [Cond.selects RX6 yX6_chance yX6_chance, Cond.initialized RX6, Cond.code yX6_chance cX6_chance 4 (some .int), Cond.fieldLink RX6 39 "CardBowl$State" "knows" "[I", Cond.fieldLink RX6 35 "CardBowl$State" "deeds" "LCardBowl$Deeds;", Cond.fieldLink RX6 69 "CardBowl$State" "day" "I", Cond.methodLink RX6 94 yX6_knew, Cond.instanceMethod yX6_knew, Cond.selects RX6 yX6_knew yX6_knew, Cond.code yX6_knew cX6_knew 3 (some .int), Cond.methodLink RX6 118 yX6_acquaint, Cond.static yX6_acquaint, Cond.code yX6_acquaint cX6_acquaint 3 none, Cond.methodLink RX6 114 yX2_add, Cond.instanceMethod yX2_add, Cond.selects RX2 yX2_add yX2_add, Cond.code yX2_add cX2_add 5 none, Cond.fieldLink RX2 9 "CardBowl$Deeds" "who" "[I", Cond.fieldLink RX2 15 "CardBowl$Deeds" "whom" "[I", Cond.fieldLink RX2 18 "CardBowl$Deeds" "what" "[I", Cond.fieldLink RX2 21 "CardBowl$Deeds" "day" "[I", Cond.methodLink RX9 152 yX9_does, Cond.instanceMethod yX9_does, Cond.selects RX9 yX9_does yX9_does]
def wsX9_done_r4 : List Cond := [Cond.code yX9_does cX9_does 4 (some .int), Cond.methodLink RX9 105 yX9_isDeed, Cond.instanceMethod yX9_isDeed, Cond.selects RX9 yX9_isDeed yX9_isDeed, Cond.code yX9_isDeed cX9_isDeed 4 (some .boolean), Cond.methodLink RX9 109 yX6_barrier, Cond.instanceMethod yX6_barrier, Cond.selects RX6 yX6_barrier yX6_barrier, Cond.code yX6_barrier cX6_barrier 4 (some .int), Cond.fieldLink RX6 12 "CardBowl$State" "town" "LCardBowl$Town;", Cond.fieldLink RX6 88 "CardBowl$Town" "weekday" "[I", Cond.methodLink RX6 81 yX7_isThere, Cond.instanceMethod yX7_isThere, Cond.selects RX7 yX7_isThere yX7_isThere, Cond.code yX7_isThere cX7_isThere 3 (some .boolean), Cond.fieldLink RX7 34 "CardBowl$Town" "came" "[I", Cond.methodLink RX6 85 yX6_isOpenTo, Cond.instanceMethod yX6_isOpenTo, Cond.selects RX6 yX6_isOpenTo yX6_isOpenTo, Cond.code yX6_isOpenTo cX6_isOpenTo 3 (some .boolean), Cond.fieldLink RX6 107 "CardBowl$Town" "introducers" "I", Cond.methodLink RX6 98 yX7_isNew, Cond.instanceMethod yX7_isNew, Cond.selects RX7 yX7_isNew yX7_isNew]
def wsX9_done_r5 : List Cond := [Cond.code yX7_isNew cX7_isNew 3 (some .boolean), Cond.fieldLink RX7 46 "CardBowl$Town" "fresh" "I", Cond.methodLink RX6 101 yJ6_bitCount_0f7a4, Cond.static yJ6_bitCount_0f7a4, Cond.initialized RJ6, Cond.code yJ6_bitCount_0f7a4 cJ6_bitCount_0f7a4 1 (some .int), Cond.constant RJ6 265 (1431655765), Cond.constant RJ6 266 (858993459), Cond.constant RJ6 267 (252645135), Cond.methodLink RX6 91 yX7_waits, Cond.instanceMethod yX7_waits, Cond.selects RX7 yX7_waits yX7_waits, Cond.code yX7_waits cX7_waits 3 (some .boolean), Cond.fieldLink RX7 37 "CardBowl$Town" "bride" "[I", Cond.methodLink RX9 123 yX6_act, Cond.instanceMethod yX6_act, Cond.selects RX6 yX6_act yX6_act, Cond.code yX6_act cX6_act 5 (some .int), Cond.fieldLink RX6 28 "CardBowl$State" "debts" "LCardBowl$Debts;", Cond.fieldLink RX6 21 "CardBowl$State" "code" "LCardBowl$Code;", Cond.fieldLink RX6 72 "CardBowl$State" "paid" "I", Cond.methodLink RX6 110 yX6_deal, Cond.instanceMethod yX6_deal, Cond.selects RX6 yX6_deal yX6_deal]
def wsX9_done_r6 : List Cond := [Cond.code yX6_deal cX6_deal 10 (some .int), Cond.fieldLink RX6 126 "CardBowl$Town" "rank" "[I", Cond.fieldLink RX6 129 "CardBowl$Debts" "open" "[I", Cond.fieldLink RX6 136 "CardBowl$Code" "kind" "[I", Cond.fieldLink RX6 143 "CardBowl$Code" "within" "[I", Cond.methodLink RX6 146 Lib.Math.min.name, Cond.static Lib.Math.min.name, Cond.initialized "java/lang/Math", Cond.code Lib.Math.min.name Lib.Math.min.code 2 (some .int), Cond.methodLink RX6 122 yX1_settle, Cond.instanceMethod yX1_settle, Cond.selects RX1 yX1_settle yX1_settle, Cond.initialized RX1, Cond.code yX1_settle cX1_settle 7 (some .int), Cond.fieldLink RX1 33 "CardBowl$Debts" "size" "I", Cond.fieldLink RX1 9 "CardBowl$Debts" "debtor" "[I", Cond.fieldLink RX1 15 "CardBowl$Debts" "creditor" "[I", Cond.fieldLink RX1 18 "CardBowl$Debts" "kind" "[I", Cond.fieldLink RX1 27 "CardBowl$Debts" "open" "[I", Cond.fieldLink RX1 30 "CardBowl$Debts" "kinds" "[I", Cond.methodLink RX1 49 yX1_kindsOf, Cond.instanceMethod yX1_kindsOf, Cond.selects RX1 yX1_kindsOf yX1_kindsOf, Cond.code yX1_kindsOf cX1_kindsOf 3 (some .int)]
def wsX9_done_r7 : List Cond := [Cond.methodLink RX1 53 yX1_move, Cond.instanceMethod yX1_move, Cond.selects RX1 yX1_move yX1_move, Cond.code yX1_move cX1_move 3 none, Cond.fieldLink RX1 21 "CardBowl$Debts" "due" "[I", Cond.fieldLink RX1 24 "CardBowl$Debts" "came" "[I", Cond.methodLink RX6 132 yX0_lineFor, Cond.instanceMethod yX0_lineFor, Cond.selects RX0 yX0_lineFor yX0_lineFor, Cond.initialized RX0, Cond.code yX0_lineFor cX0_lineFor 8 (some .int), Cond.fieldLink RX0 30 "CardBowl$Code" "facts" "[I", Cond.fieldLink RX0 33 "CardBowl$Code" "lines" "I", Cond.fieldLink RX0 9 "CardBowl$Code" "paying" "[I", Cond.methodLink RX0 46 yX0_holds, Cond.instanceMethod yX0_holds, Cond.selects RX0 yX0_holds yX0_holds, Cond.code yX0_holds cX0_holds 13 (some .boolean), Cond.fieldLink RX0 24 "CardBowl$Code" "stop" "[I", Cond.methodLink RX0 50 Lib.Math.min.name, Cond.fieldLink RX0 56 "CardBowl$Code" "beyond" "Z", Cond.fieldLink RX0 21 "CardBowl$Code" "start" "[I", Cond.fieldLink RX0 27 "CardBowl$Code" "tests" "[I", Cond.methodLink RX0 60 yX0_partOf]
def wsX9_done_r8 : List Cond := [Cond.instanceMethod yX0_partOf, Cond.selects RX0 yX0_partOf yX0_partOf, Cond.code yX0_partOf cX0_partOf 2 (some .int), Cond.methodLink RX0 64 yX0_bounded, Cond.instanceMethod yX0_bounded, Cond.selects RX0 yX0_bounded yX0_bounded, Cond.code yX0_bounded cX0_bounded 3 (some .long), Cond.constantLong RX0 72 (1000000000), Cond.constantLong RX0 74 (-1000000000), Cond.methodLink RX0 68 yX0_compares, Cond.static yX0_compares, Cond.code yX0_compares cX0_compares 5 (some .boolean), Cond.methodLink RX6 139 yX6_isOwed, Cond.static yX6_isOwed, Cond.code yX6_isOwed cX6_isOwed 4 (some .boolean), Cond.methodLink RX6 154 yX1_kindsOf, Cond.methodLink RX6 151 yX1_add, Cond.instanceMethod yX1_add, Cond.selects RX1 yX1_add yX1_add, Cond.code yX1_add cX1_add 6 none]
def wsX9_done : List Cond := .code yX9_done cX9_done 9 (some .int) :: ((wsX9_done_r1 ++ (wsX9_done_r2 ++ (wsX9_done_r3 ++ (wsX9_done_r4 ++ (wsX9_done_r5 ++ (wsX9_done_r6 ++ (wsX9_done_r7 ++ wsX9_done_r8))))))) ++ wsX90 ++ wsX50 ++ wsX60 ++ wsX70 ++ wsX20 ++ wsX40 ++ wsX80 ++ wsX10 ++ wsX00)
def wsX9_known : List Cond := .code yX9_known cX9_known 3 (some .int) :: ([.fieldLink RX9 23 "CardBowl" "state" "LCardBowl$State;", .fieldLink RX9 93 "CardBowl$State" "town" "LCardBowl$Town;", .methodLink RX9 126 yX7_hasPair, .instanceMethod yX7_hasPair, .selects RX7 yX7_hasPair yX7_hasPair, .initialized RX7, .code yX7_hasPair cX7_hasPair 3 (some .boolean), .methodLink RX7 61 yX7_has, .instanceMethod yX7_has, .selects RX7 yX7_has yX7_has, .code yX7_has cX7_has 2 (some .boolean), .fieldLink RX7 43 "CardBowl$Town" "houses" "I", .methodLink RX9 155 yX6_knew, .instanceMethod yX6_knew, .selects RX6 yX6_knew yX6_knew, .initialized RX6, .code yX6_knew cX6_knew 3 (some .int), .fieldLink RX6 39 "CardBowl$State" "knows" "[I"] ++ wsX90 ++ wsX60 ++ wsX70)
def wsX9_debts : List Cond := .code yX9_debts cX9_debts 2 (some .int) :: ([.fieldLink RX9 23 "CardBowl" "state" "LCardBowl$State;", .fieldLink RX9 93 "CardBowl$State" "town" "LCardBowl$Town;", .fieldLink RX9 161 "CardBowl$State" "debts" "LCardBowl$Debts;", .fieldLink RX9 164 "CardBowl$Debts" "open" "[I", .methodLink RX9 158 yX7_has, .instanceMethod yX7_has, .selects RX7 yX7_has yX7_has, .initialized RX7, .code yX7_has cX7_has 2 (some .boolean), .fieldLink RX7 43 "CardBowl$Town" "houses" "I"] ++ wsX90 ++ wsX60 ++ wsX10 ++ wsX70)
def wsX9_debt : List Cond := .code yX9_debt cX9_debt 5 (some .int) :: ([.fieldLink RX9 23 "CardBowl" "state" "LCardBowl$State;", .fieldLink RX9 93 "CardBowl$State" "town" "LCardBowl$Town;", .fieldLink RX9 161 "CardBowl$State" "debts" "LCardBowl$Debts;", .fieldLink RX9 170 "CardBowl$Debts" "creditor" "[I", .fieldLink RX9 173 "CardBowl$Debts" "kind" "[I", .fieldLink RX9 176 "CardBowl$Debts" "due" "[I", .fieldLink RX9 179 "CardBowl$Debts" "came" "[I", .methodLink RX9 158 yX7_has, .instanceMethod yX7_has, .selects RX7 yX7_has yX7_has, .initialized RX7, .code yX7_has cX7_has 2 (some .boolean), .fieldLink RX7 43 "CardBowl$Town" "houses" "I", .methodLink RX9 167 yX1_nth, .instanceMethod yX1_nth, .selects RX1 yX1_nth yX1_nth, .initialized RX1, .code yX1_nth cX1_nth 5 (some .int), .fieldLink RX1 27 "CardBowl$Debts" "open" "[I", .fieldLink RX1 33 "CardBowl$Debts" "size" "I", .fieldLink RX1 9 "CardBowl$Debts" "debtor" "[I"] ++ wsX90 ++ wsX60 ++ wsX10 ++ wsX70)
def wsX9_slights : List Cond := .code yX9_slights cX9_slights 2 (some .int) :: ([.fieldLink RX9 23 "CardBowl" "state" "LCardBowl$State;", .fieldLink RX9 93 "CardBowl$State" "town" "LCardBowl$Town;", .fieldLink RX9 161 "CardBowl$State" "debts" "LCardBowl$Debts;", .fieldLink RX9 102 "CardBowl$State" "day" "I", .methodLink RX9 158 yX7_has, .instanceMethod yX7_has, .selects RX7 yX7_has yX7_has, .initialized RX7, .code yX7_has cX7_has 2 (some .boolean), .fieldLink RX7 43 "CardBowl$Town" "houses" "I", .methodLink RX9 182 yX1_overdueTo, .instanceMethod yX1_overdueTo, .selects RX1 yX1_overdueTo yX1_overdueTo, .initialized RX1, .code yX1_overdueTo cX1_overdueTo 5 (some .int), .fieldLink RX1 33 "CardBowl$Debts" "size" "I", .fieldLink RX1 15 "CardBowl$Debts" "creditor" "[I", .fieldLink RX1 21 "CardBowl$Debts" "due" "[I"] ++ wsX90 ++ wsX60 ++ wsX70 ++ wsX10)
def wsX9_first : List Cond := .code yX9_first cX9_first 6 (some .int) :: ([.fieldLink RX9 23 "CardBowl" "state" "LCardBowl$State;", .fieldLink RX9 93 "CardBowl$State" "town" "LCardBowl$Town;", .fieldLink RX9 94 "CardBowl$Town" "houses" "I", .fieldLink RX9 161 "CardBowl$State" "debts" "LCardBowl$Debts;", .fieldLink RX9 102 "CardBowl$State" "day" "I", .fieldLink RX9 185 "CardBowl$Town" "rank" "[I", .methodLink RX9 182 yX1_overdueTo, .instanceMethod yX1_overdueTo, .selects RX1 yX1_overdueTo yX1_overdueTo, .initialized RX1, .code yX1_overdueTo cX1_overdueTo 5 (some .int), .fieldLink RX1 33 "CardBowl$Debts" "size" "I", .fieldLink RX1 15 "CardBowl$Debts" "creditor" "[I", .fieldLink RX1 21 "CardBowl$Debts" "due" "[I"] ++ wsX90 ++ wsX60 ++ wsX70 ++ wsX10)
def wsX9_owes_r1 : List Cond := [Cond.fieldLink RX9 23 "CardBowl" "state" "LCardBowl$State;", Cond.methodLink RX9 105 yX9_isDeed, Cond.instanceMethod yX9_isDeed, Cond.selects RX9 yX9_isDeed yX9_isDeed, Cond.initialized RX9, Cond.code yX9_isDeed cX9_isDeed 4 (some .boolean), Cond.fieldLink RX9 93 "CardBowl$State" "town" "LCardBowl$Town;", Cond.methodLink RX9 126 yX7_hasPair, Cond.instanceMethod yX7_hasPair, Cond.selects RX7 yX7_hasPair yX7_hasPair, Cond.initialized RX7, Cond.code yX7_hasPair cX7_hasPair 3 (some .boolean), Cond.methodLink RX7 61 yX7_has, Cond.instanceMethod yX7_has, Cond.selects RX7 yX7_has yX7_has, Cond.code yX7_has cX7_has 2 (some .boolean), Cond.fieldLink RX7 43 "CardBowl$Town" "houses" "I", Cond.methodLink RX9 188 yX6_wouldMake, Cond.instanceMethod yX6_wouldMake, Cond.selects RX6 yX6_wouldMake yX6_wouldMake, Cond.initialized RX6, Cond.code yX6_wouldMake cX6_wouldMake 5 (some .int), Cond.fieldLink RX6 21 "CardBowl$State" "code" "LCardBowl$Code;", Cond.fieldLink RX6 12 "CardBowl$State" "town" "LCardBowl$Town;"]
def wsX9_owes_r2 : List Cond := [Cond.fieldLink RX6 126 "CardBowl$Town" "rank" "[I", Cond.fieldLink RX6 28 "CardBowl$State" "debts" "LCardBowl$Debts;", Cond.fieldLink RX6 129 "CardBowl$Debts" "open" "[I", Cond.fieldLink RX6 69 "CardBowl$State" "day" "I", Cond.fieldLink RX6 136 "CardBowl$Code" "kind" "[I", Cond.methodLink RX6 94 yX6_knew, Cond.instanceMethod yX6_knew, Cond.selects RX6 yX6_knew yX6_knew, Cond.code yX6_knew cX6_knew 3 (some .int), Cond.fieldLink RX6 39 "CardBowl$State" "knows" "[I", Cond.methodLink RX6 132 yX0_lineFor, Cond.instanceMethod yX0_lineFor, Cond.selects RX0 yX0_lineFor yX0_lineFor, Cond.initialized RX0, Cond.code yX0_lineFor cX0_lineFor 8 (some .int), Cond.fieldLink RX0 30 "CardBowl$Code" "facts" "[I", Cond.fieldLink RX0 33 "CardBowl$Code" "lines" "I", Cond.fieldLink RX0 9 "CardBowl$Code" "paying" "[I", Cond.methodLink RX0 46 yX0_holds, Cond.instanceMethod yX0_holds, Cond.selects RX0 yX0_holds yX0_holds, Cond.code yX0_holds cX0_holds 13 (some .boolean), Cond.fieldLink RX0 24 "CardBowl$Code" "stop" "[I", Cond.methodLink RX0 50 Lib.Math.min.name]
def wsX9_owes_r3 : List Cond := [Cond.static Lib.Math.min.name, Cond.initialized "java/lang/Math", Cond.code Lib.Math.min.name Lib.Math.min.code 2 (some .int), Cond.fieldLink RX0 56 "CardBowl$Code" "beyond" "Z", Cond.fieldLink RX0 21 "CardBowl$Code" "start" "[I", Cond.fieldLink RX0 27 "CardBowl$Code" "tests" "[I", Cond.methodLink RX0 60 yX0_partOf, Cond.instanceMethod yX0_partOf, Cond.selects RX0 yX0_partOf yX0_partOf, Cond.code yX0_partOf cX0_partOf 2 (some .int), Cond.methodLink RX0 64 yX0_bounded, Cond.instanceMethod yX0_bounded, Cond.selects RX0 yX0_bounded yX0_bounded, Cond.code yX0_bounded cX0_bounded 3 (some .long), Cond.constantLong RX0 72 (1000000000), Cond.constantLong RX0 74 (-1000000000), Cond.methodLink RX0 68 yX0_compares, Cond.static yX0_compares, Cond.code yX0_compares cX0_compares 5 (some .boolean), Cond.methodLink RX6 139 yX6_isOwed, Cond.static yX6_isOwed, Cond.code yX6_isOwed cX6_isOwed 4 (some .boolean), Cond.methodLink RX6 154 yX1_kindsOf, Cond.instanceMethod yX1_kindsOf]
def wsX9_owes_r4 : List Cond := [Cond.selects RX1 yX1_kindsOf yX1_kindsOf, Cond.initialized RX1, Cond.code yX1_kindsOf cX1_kindsOf 3 (some .int), Cond.fieldLink RX1 30 "CardBowl$Debts" "kinds" "[I"]
def wsX9_owes : List Cond := .code yX9_owes cX9_owes 4 (some .int) :: ((wsX9_owes_r1 ++ (wsX9_owes_r2 ++ (wsX9_owes_r3 ++ wsX9_owes_r4))) ++ wsX90 ++ wsX60 ++ wsX70 ++ wsX10 ++ wsX00)
def wsX9_isOuting : List Cond := .code yX9_isOuting cX9_isOuting 3 (some .boolean) :: ([.fieldLink RX9 23 "CardBowl" "state" "LCardBowl$State;", .fieldLink RX9 93 "CardBowl$State" "town" "LCardBowl$Town;", .fieldLink RX9 102 "CardBowl$State" "day" "I", .methodLink RX9 158 yX7_has, .instanceMethod yX7_has, .selects RX7 yX7_has yX7_has, .initialized RX7, .code yX7_has cX7_has 2 (some .boolean), .fieldLink RX7 43 "CardBowl$Town" "houses" "I"] ++ wsX90 ++ wsX60 ++ wsX70)
def wsX9_worth_r1 : List Cond := [Cond.fieldLink RX9 40 "CardBowl" "rounds" "LCardBowl$Rounds;", Cond.fieldLink RX9 23 "CardBowl" "state" "LCardBowl$State;", Cond.fieldLink RX9 198 "CardBowl$Rounds" "bestWorth" "I", Cond.methodLink RX9 191 yX9_isOuting, Cond.instanceMethod yX9_isOuting, Cond.selects RX9 yX9_isOuting yX9_isOuting, Cond.initialized RX9, Cond.code yX9_isOuting cX9_isOuting 3 (some .boolean), Cond.fieldLink RX9 93 "CardBowl$State" "town" "LCardBowl$Town;", Cond.fieldLink RX9 102 "CardBowl$State" "day" "I", Cond.methodLink RX9 158 yX7_has, Cond.instanceMethod yX7_has, Cond.selects RX7 yX7_has yX7_has, Cond.initialized RX7, Cond.code yX7_has cX7_has 2 (some .boolean), Cond.fieldLink RX7 43 "CardBowl$Town" "houses" "I", Cond.methodLink RX9 194 yX4_plan, Cond.instanceMethod yX4_plan, Cond.selects RX4 yX4_plan yX4_plan, Cond.initialized RX4, Cond.code yX4_plan cX4_plan 5 none, Cond.fieldLink RX4 49 "CardBowl$Rounds" "planned" "Z", Cond.fieldLink RX4 15 "CardBowl$Rounds" "owner" "I", Cond.fieldLink RX4 19 "CardBowl$Rounds" "weekday" "I"]
def wsX9_worth_r2 : List Cond := [Cond.fieldLink RX4 53 "CardBowl$Rounds" "spots" "I", Cond.fieldLink RX4 56 "CardBowl$State" "town" "LCardBowl$Town;", Cond.fieldLink RX4 62 "CardBowl$Town" "houses" "I", Cond.fieldLink RX4 67 "CardBowl$State" "debts" "LCardBowl$Debts;", Cond.fieldLink RX4 22 "CardBowl$Rounds" "spot" "[I", Cond.fieldLink RX4 92 "CardBowl$Rounds" "bestOver" "I", Cond.methodLink RX4 71 yX1_kindsOf, Cond.instanceMethod yX1_kindsOf, Cond.selects RX1 yX1_kindsOf yX1_kindsOf, Cond.initialized RX1, Cond.code yX1_kindsOf cX1_kindsOf 3 (some .int), Cond.fieldLink RX1 30 "CardBowl$Debts" "kinds" "[I", Cond.methodLink RX4 77 yX4_lookAtSpots, Cond.instanceMethod yX4_lookAtSpots, Cond.selects RX4 yX4_lookAtSpots yX4_lookAtSpots, Cond.code yX4_lookAtSpots cX4_lookAtSpots 6 none, Cond.fieldLink RX4 37 "CardBowl$Rounds" "apart" "[I", Cond.methodLink RX4 101 yX4_lookAt, Cond.instanceMethod yX4_lookAt, Cond.selects RX4 yX4_lookAt yX4_lookAt, Cond.code yX4_lookAt cX4_lookAt 5 none, Cond.fieldLink RX4 28 "CardBowl$Rounds" "opens" "[I", Cond.fieldLink RX4 112 "CardBowl$Town" "from" "[I", Cond.fieldLink RX4 31 "CardBowl$Rounds" "closes" "[I"]
def wsX9_worth_r3 : List Cond := [Cond.fieldLink RX4 115 "CardBowl$Town" "to" "[I", Cond.fieldLink RX4 34 "CardBowl$Rounds" "stays" "[I", Cond.methodLink RX4 108 yX4_isByCall, Cond.static yX4_isByCall, Cond.code yX4_isByCall cX4_isByCall 3 (some .boolean), Cond.methodLink RX4 105 yX7_minutes, Cond.instanceMethod yX7_minutes, Cond.selects RX7 yX7_minutes yX7_minutes, Cond.code yX7_minutes cX7_minutes 3 (some .int), Cond.fieldLink RX7 15 "CardBowl$Town" "x" "[I", Cond.methodLink RX7 65 Lib.Math.abs.name, Cond.static Lib.Math.abs.name, Cond.initialized "java/lang/Math", Cond.code Lib.Math.abs.name Lib.Math.abs.code 1 (some .int), Cond.fieldLink RX7 19 "CardBowl$Town" "y" "[I", Cond.methodLink RX4 81 yX4_openSpots, Cond.instanceMethod yX4_openSpots, Cond.selects RX4 yX4_openSpots yX4_openSpots, Cond.code yX4_openSpots cX4_openSpots 5 (some .int), Cond.methodLink RX4 120 yX4_isAtHome, Cond.static yX4_isAtHome, Cond.code yX4_isAtHome cX4_isAtHome 4 (some .boolean), Cond.fieldLink RX4 118 "CardBowl$Town" "weekday" "[I", Cond.methodLink RX4 85 yX4_reckonMinutes]
def wsX9_worth_r4 : List Cond := [Cond.instanceMethod yX4_reckonMinutes, Cond.selects RX4 yX4_reckonMinutes yX4_reckonMinutes, Cond.code yX4_reckonMinutes cX4_reckonMinutes 8 none, Cond.fieldLink RX4 43 "CardBowl$Rounds" "soonest" "[I", Cond.fieldLink RX4 40 "CardBowl$Rounds" "minute" "[I", Cond.methodLink RX4 136 Lib.Math.min.name, Cond.static Lib.Math.min.name, Cond.code Lib.Math.min.name Lib.Math.min.code 2 (some .int), Cond.methodLink RX4 129 yX4_arrival, Cond.instanceMethod yX4_arrival, Cond.selects RX4 yX4_arrival yX4_arrival, Cond.code yX4_arrival cX4_arrival 7 (some .int), Cond.methodLink RX4 133 yX4_seen, Cond.instanceMethod yX4_seen, Cond.selects RX4 yX4_seen yX4_seen, Cond.code yX4_seen cX4_seen 4 (some .int), Cond.methodLink RX4 124 Lib.Math.max.name, Cond.static Lib.Math.max.name, Cond.code Lib.Math.max.name Lib.Math.max.code 2 (some .int), Cond.methodLink RX4 89 yX4_bestSet, Cond.instanceMethod yX4_bestSet, Cond.selects RX4 yX4_bestSet yX4_bestSet, Cond.code yX4_bestSet cX4_bestSet 8 (some .int), Cond.fieldLink RX4 139 "CardBowl$Rounds" "bestWorth" "I"]
def wsX9_worth_r5 : List Cond := [Cond.fieldLink RX4 46 "CardBowl$Rounds" "sums" "[I", Cond.methodLink RX4 142 yJ6_numberOfTrailingZeros_0f7a4, Cond.static yJ6_numberOfTrailingZeros_0f7a4, Cond.initialized RJ6, Cond.code yJ6_numberOfTrailingZeros_0f7a4 cJ6_numberOfTrailingZeros_0f7a4 2 (some .int), Cond.constant RJ6 264 (65536), Cond.methodLink RX4 148 yX4_worthOf, Cond.static yX4_worthOf, Cond.code yX4_worthOf cX4_worthOf 3 (some .int), Cond.methodLink RX4 95 yX4_reckonLatest, Cond.instanceMethod yX4_reckonLatest, Cond.selects RX4 yX4_reckonLatest yX4_reckonLatest, Cond.code yX4_reckonLatest cX4_reckonLatest 5 none, Cond.methodLink RX4 151 yX4_latest, Cond.instanceMethod yX4_latest, Cond.selects RX4 yX4_latest yX4_latest, Cond.code yX4_latest cX4_latest 8 (some .int), Cond.methodLink RX4 98 yX4_putInOrder, Cond.instanceMethod yX4_putInOrder, Cond.selects RX4 yX4_putInOrder yX4_putInOrder, Cond.code yX4_putInOrder cX4_putInOrder 10 none, Cond.fieldLink RX4 154 "CardBowl$Rounds" "length" "I", Cond.fieldLink RX4 11 "CardBowl$Rounds" "order" "[I"]
def wsX9_worth : List Cond := .code yX9_worth cX9_worth 3 (some .int) :: ((wsX9_worth_r1 ++ (wsX9_worth_r2 ++ (wsX9_worth_r3 ++ (wsX9_worth_r4 ++ wsX9_worth_r5)))) ++ wsX90 ++ wsX40 ++ wsX60 ++ wsX70 ++ wsX10)
def wsX9_round_r1 : List Cond := [Cond.fieldLink RX9 40 "CardBowl" "rounds" "LCardBowl$Rounds;", Cond.fieldLink RX9 23 "CardBowl" "state" "LCardBowl$State;", Cond.fieldLink RX9 201 "CardBowl$Rounds" "length" "I", Cond.fieldLink RX9 204 "CardBowl$Rounds" "order" "[I", Cond.methodLink RX9 191 yX9_isOuting, Cond.instanceMethod yX9_isOuting, Cond.selects RX9 yX9_isOuting yX9_isOuting, Cond.initialized RX9, Cond.code yX9_isOuting cX9_isOuting 3 (some .boolean), Cond.fieldLink RX9 93 "CardBowl$State" "town" "LCardBowl$Town;", Cond.fieldLink RX9 102 "CardBowl$State" "day" "I", Cond.methodLink RX9 158 yX7_has, Cond.instanceMethod yX7_has, Cond.selects RX7 yX7_has yX7_has, Cond.initialized RX7, Cond.code yX7_has cX7_has 2 (some .boolean), Cond.fieldLink RX7 43 "CardBowl$Town" "houses" "I", Cond.methodLink RX9 194 yX4_plan, Cond.instanceMethod yX4_plan, Cond.selects RX4 yX4_plan yX4_plan, Cond.initialized RX4, Cond.code yX4_plan cX4_plan 5 none, Cond.fieldLink RX4 49 "CardBowl$Rounds" "planned" "Z", Cond.fieldLink RX4 15 "CardBowl$Rounds" "owner" "I"]
def wsX9_round_r2 : List Cond := [Cond.fieldLink RX4 19 "CardBowl$Rounds" "weekday" "I", Cond.fieldLink RX4 53 "CardBowl$Rounds" "spots" "I", Cond.fieldLink RX4 56 "CardBowl$State" "town" "LCardBowl$Town;", Cond.fieldLink RX4 62 "CardBowl$Town" "houses" "I", Cond.fieldLink RX4 67 "CardBowl$State" "debts" "LCardBowl$Debts;", Cond.fieldLink RX4 22 "CardBowl$Rounds" "spot" "[I", Cond.fieldLink RX4 92 "CardBowl$Rounds" "bestOver" "I", Cond.methodLink RX4 71 yX1_kindsOf, Cond.instanceMethod yX1_kindsOf, Cond.selects RX1 yX1_kindsOf yX1_kindsOf, Cond.initialized RX1, Cond.code yX1_kindsOf cX1_kindsOf 3 (some .int), Cond.fieldLink RX1 30 "CardBowl$Debts" "kinds" "[I", Cond.methodLink RX4 77 yX4_lookAtSpots, Cond.instanceMethod yX4_lookAtSpots, Cond.selects RX4 yX4_lookAtSpots yX4_lookAtSpots, Cond.code yX4_lookAtSpots cX4_lookAtSpots 6 none, Cond.fieldLink RX4 37 "CardBowl$Rounds" "apart" "[I", Cond.methodLink RX4 101 yX4_lookAt, Cond.instanceMethod yX4_lookAt, Cond.selects RX4 yX4_lookAt yX4_lookAt, Cond.code yX4_lookAt cX4_lookAt 5 none, Cond.fieldLink RX4 28 "CardBowl$Rounds" "opens" "[I", Cond.fieldLink RX4 112 "CardBowl$Town" "from" "[I"]
def wsX9_round_r3 : List Cond := [Cond.fieldLink RX4 31 "CardBowl$Rounds" "closes" "[I", Cond.fieldLink RX4 115 "CardBowl$Town" "to" "[I", Cond.fieldLink RX4 34 "CardBowl$Rounds" "stays" "[I", Cond.methodLink RX4 108 yX4_isByCall, Cond.static yX4_isByCall, Cond.code yX4_isByCall cX4_isByCall 3 (some .boolean), Cond.methodLink RX4 105 yX7_minutes, Cond.instanceMethod yX7_minutes, Cond.selects RX7 yX7_minutes yX7_minutes, Cond.code yX7_minutes cX7_minutes 3 (some .int), Cond.fieldLink RX7 15 "CardBowl$Town" "x" "[I", Cond.methodLink RX7 65 Lib.Math.abs.name, Cond.static Lib.Math.abs.name, Cond.initialized "java/lang/Math", Cond.code Lib.Math.abs.name Lib.Math.abs.code 1 (some .int), Cond.fieldLink RX7 19 "CardBowl$Town" "y" "[I", Cond.methodLink RX4 81 yX4_openSpots, Cond.instanceMethod yX4_openSpots, Cond.selects RX4 yX4_openSpots yX4_openSpots, Cond.code yX4_openSpots cX4_openSpots 5 (some .int), Cond.methodLink RX4 120 yX4_isAtHome, Cond.static yX4_isAtHome, Cond.code yX4_isAtHome cX4_isAtHome 4 (some .boolean), Cond.fieldLink RX4 118 "CardBowl$Town" "weekday" "[I"]
def wsX9_round_r4 : List Cond := [Cond.methodLink RX4 85 yX4_reckonMinutes, Cond.instanceMethod yX4_reckonMinutes, Cond.selects RX4 yX4_reckonMinutes yX4_reckonMinutes, Cond.code yX4_reckonMinutes cX4_reckonMinutes 8 none, Cond.fieldLink RX4 43 "CardBowl$Rounds" "soonest" "[I", Cond.fieldLink RX4 40 "CardBowl$Rounds" "minute" "[I", Cond.methodLink RX4 136 Lib.Math.min.name, Cond.static Lib.Math.min.name, Cond.code Lib.Math.min.name Lib.Math.min.code 2 (some .int), Cond.methodLink RX4 129 yX4_arrival, Cond.instanceMethod yX4_arrival, Cond.selects RX4 yX4_arrival yX4_arrival, Cond.code yX4_arrival cX4_arrival 7 (some .int), Cond.methodLink RX4 133 yX4_seen, Cond.instanceMethod yX4_seen, Cond.selects RX4 yX4_seen yX4_seen, Cond.code yX4_seen cX4_seen 4 (some .int), Cond.methodLink RX4 124 Lib.Math.max.name, Cond.static Lib.Math.max.name, Cond.code Lib.Math.max.name Lib.Math.max.code 2 (some .int), Cond.methodLink RX4 89 yX4_bestSet, Cond.instanceMethod yX4_bestSet, Cond.selects RX4 yX4_bestSet yX4_bestSet, Cond.code yX4_bestSet cX4_bestSet 8 (some .int)]
def wsX9_round_r5 : List Cond := [Cond.fieldLink RX4 139 "CardBowl$Rounds" "bestWorth" "I", Cond.fieldLink RX4 46 "CardBowl$Rounds" "sums" "[I", Cond.methodLink RX4 142 yJ6_numberOfTrailingZeros_0f7a4, Cond.static yJ6_numberOfTrailingZeros_0f7a4, Cond.initialized RJ6, Cond.code yJ6_numberOfTrailingZeros_0f7a4 cJ6_numberOfTrailingZeros_0f7a4 2 (some .int), Cond.constant RJ6 264 (65536), Cond.methodLink RX4 148 yX4_worthOf, Cond.static yX4_worthOf, Cond.code yX4_worthOf cX4_worthOf 3 (some .int), Cond.methodLink RX4 95 yX4_reckonLatest, Cond.instanceMethod yX4_reckonLatest, Cond.selects RX4 yX4_reckonLatest yX4_reckonLatest, Cond.code yX4_reckonLatest cX4_reckonLatest 5 none, Cond.methodLink RX4 151 yX4_latest, Cond.instanceMethod yX4_latest, Cond.selects RX4 yX4_latest yX4_latest, Cond.code yX4_latest cX4_latest 8 (some .int), Cond.methodLink RX4 98 yX4_putInOrder, Cond.instanceMethod yX4_putInOrder, Cond.selects RX4 yX4_putInOrder yX4_putInOrder, Cond.code yX4_putInOrder cX4_putInOrder 10 none, Cond.fieldLink RX4 154 "CardBowl$Rounds" "length" "I", Cond.fieldLink RX4 11 "CardBowl$Rounds" "order" "[I"]
def wsX9_round : List Cond := .code yX9_round cX9_round 4 (some .int) :: ((wsX9_round_r1 ++ (wsX9_round_r2 ++ (wsX9_round_r3 ++ (wsX9_round_r4 ++ wsX9_round_r5)))) ++ wsX90 ++ wsX40 ++ wsX60 ++ wsX70 ++ wsX10)
def wsX9_over_r1 : List Cond := [Cond.fieldLink RX9 40 "CardBowl" "rounds" "LCardBowl$Rounds;", Cond.fieldLink RX9 23 "CardBowl" "state" "LCardBowl$State;", Cond.fieldLink RX9 207 "CardBowl$Rounds" "bestOver" "I", Cond.methodLink RX9 191 yX9_isOuting, Cond.instanceMethod yX9_isOuting, Cond.selects RX9 yX9_isOuting yX9_isOuting, Cond.initialized RX9, Cond.code yX9_isOuting cX9_isOuting 3 (some .boolean), Cond.fieldLink RX9 93 "CardBowl$State" "town" "LCardBowl$Town;", Cond.fieldLink RX9 102 "CardBowl$State" "day" "I", Cond.methodLink RX9 158 yX7_has, Cond.instanceMethod yX7_has, Cond.selects RX7 yX7_has yX7_has, Cond.initialized RX7, Cond.code yX7_has cX7_has 2 (some .boolean), Cond.fieldLink RX7 43 "CardBowl$Town" "houses" "I", Cond.methodLink RX9 194 yX4_plan, Cond.instanceMethod yX4_plan, Cond.selects RX4 yX4_plan yX4_plan, Cond.initialized RX4, Cond.code yX4_plan cX4_plan 5 none, Cond.fieldLink RX4 49 "CardBowl$Rounds" "planned" "Z", Cond.fieldLink RX4 15 "CardBowl$Rounds" "owner" "I", Cond.fieldLink RX4 19 "CardBowl$Rounds" "weekday" "I"]
def wsX9_over_r2 : List Cond := [Cond.fieldLink RX4 53 "CardBowl$Rounds" "spots" "I", Cond.fieldLink RX4 56 "CardBowl$State" "town" "LCardBowl$Town;", Cond.fieldLink RX4 62 "CardBowl$Town" "houses" "I", Cond.fieldLink RX4 67 "CardBowl$State" "debts" "LCardBowl$Debts;", Cond.fieldLink RX4 22 "CardBowl$Rounds" "spot" "[I", Cond.fieldLink RX4 92 "CardBowl$Rounds" "bestOver" "I", Cond.methodLink RX4 71 yX1_kindsOf, Cond.instanceMethod yX1_kindsOf, Cond.selects RX1 yX1_kindsOf yX1_kindsOf, Cond.initialized RX1, Cond.code yX1_kindsOf cX1_kindsOf 3 (some .int), Cond.fieldLink RX1 30 "CardBowl$Debts" "kinds" "[I", Cond.methodLink RX4 77 yX4_lookAtSpots, Cond.instanceMethod yX4_lookAtSpots, Cond.selects RX4 yX4_lookAtSpots yX4_lookAtSpots, Cond.code yX4_lookAtSpots cX4_lookAtSpots 6 none, Cond.fieldLink RX4 37 "CardBowl$Rounds" "apart" "[I", Cond.methodLink RX4 101 yX4_lookAt, Cond.instanceMethod yX4_lookAt, Cond.selects RX4 yX4_lookAt yX4_lookAt, Cond.code yX4_lookAt cX4_lookAt 5 none, Cond.fieldLink RX4 28 "CardBowl$Rounds" "opens" "[I", Cond.fieldLink RX4 112 "CardBowl$Town" "from" "[I", Cond.fieldLink RX4 31 "CardBowl$Rounds" "closes" "[I"]
def wsX9_over_r3 : List Cond := [Cond.fieldLink RX4 115 "CardBowl$Town" "to" "[I", Cond.fieldLink RX4 34 "CardBowl$Rounds" "stays" "[I", Cond.methodLink RX4 108 yX4_isByCall, Cond.static yX4_isByCall, Cond.code yX4_isByCall cX4_isByCall 3 (some .boolean), Cond.methodLink RX4 105 yX7_minutes, Cond.instanceMethod yX7_minutes, Cond.selects RX7 yX7_minutes yX7_minutes, Cond.code yX7_minutes cX7_minutes 3 (some .int), Cond.fieldLink RX7 15 "CardBowl$Town" "x" "[I", Cond.methodLink RX7 65 Lib.Math.abs.name, Cond.static Lib.Math.abs.name, Cond.initialized "java/lang/Math", Cond.code Lib.Math.abs.name Lib.Math.abs.code 1 (some .int), Cond.fieldLink RX7 19 "CardBowl$Town" "y" "[I", Cond.methodLink RX4 81 yX4_openSpots, Cond.instanceMethod yX4_openSpots, Cond.selects RX4 yX4_openSpots yX4_openSpots, Cond.code yX4_openSpots cX4_openSpots 5 (some .int), Cond.methodLink RX4 120 yX4_isAtHome, Cond.static yX4_isAtHome, Cond.code yX4_isAtHome cX4_isAtHome 4 (some .boolean), Cond.fieldLink RX4 118 "CardBowl$Town" "weekday" "[I", Cond.methodLink RX4 85 yX4_reckonMinutes]
def wsX9_over_r4 : List Cond := [Cond.instanceMethod yX4_reckonMinutes, Cond.selects RX4 yX4_reckonMinutes yX4_reckonMinutes, Cond.code yX4_reckonMinutes cX4_reckonMinutes 8 none, Cond.fieldLink RX4 43 "CardBowl$Rounds" "soonest" "[I", Cond.fieldLink RX4 40 "CardBowl$Rounds" "minute" "[I", Cond.methodLink RX4 136 Lib.Math.min.name, Cond.static Lib.Math.min.name, Cond.code Lib.Math.min.name Lib.Math.min.code 2 (some .int), Cond.methodLink RX4 129 yX4_arrival, Cond.instanceMethod yX4_arrival, Cond.selects RX4 yX4_arrival yX4_arrival, Cond.code yX4_arrival cX4_arrival 7 (some .int), Cond.methodLink RX4 133 yX4_seen, Cond.instanceMethod yX4_seen, Cond.selects RX4 yX4_seen yX4_seen, Cond.code yX4_seen cX4_seen 4 (some .int), Cond.methodLink RX4 124 Lib.Math.max.name, Cond.static Lib.Math.max.name, Cond.code Lib.Math.max.name Lib.Math.max.code 2 (some .int), Cond.methodLink RX4 89 yX4_bestSet, Cond.instanceMethod yX4_bestSet, Cond.selects RX4 yX4_bestSet yX4_bestSet, Cond.code yX4_bestSet cX4_bestSet 8 (some .int), Cond.fieldLink RX4 139 "CardBowl$Rounds" "bestWorth" "I"]
def wsX9_over_r5 : List Cond := [Cond.fieldLink RX4 46 "CardBowl$Rounds" "sums" "[I", Cond.methodLink RX4 142 yJ6_numberOfTrailingZeros_0f7a4, Cond.static yJ6_numberOfTrailingZeros_0f7a4, Cond.initialized RJ6, Cond.code yJ6_numberOfTrailingZeros_0f7a4 cJ6_numberOfTrailingZeros_0f7a4 2 (some .int), Cond.constant RJ6 264 (65536), Cond.methodLink RX4 148 yX4_worthOf, Cond.static yX4_worthOf, Cond.code yX4_worthOf cX4_worthOf 3 (some .int), Cond.methodLink RX4 95 yX4_reckonLatest, Cond.instanceMethod yX4_reckonLatest, Cond.selects RX4 yX4_reckonLatest yX4_reckonLatest, Cond.code yX4_reckonLatest cX4_reckonLatest 5 none, Cond.methodLink RX4 151 yX4_latest, Cond.instanceMethod yX4_latest, Cond.selects RX4 yX4_latest yX4_latest, Cond.code yX4_latest cX4_latest 8 (some .int), Cond.methodLink RX4 98 yX4_putInOrder, Cond.instanceMethod yX4_putInOrder, Cond.selects RX4 yX4_putInOrder yX4_putInOrder, Cond.code yX4_putInOrder cX4_putInOrder 10 none, Cond.fieldLink RX4 154 "CardBowl$Rounds" "length" "I", Cond.fieldLink RX4 11 "CardBowl$Rounds" "order" "[I"]
def wsX9_over : List Cond := .code yX9_over cX9_over 3 (some .int) :: ((wsX9_over_r1 ++ (wsX9_over_r2 ++ (wsX9_over_r3 ++ (wsX9_over_r4 ++ wsX9_over_r5)))) ++ wsX90 ++ wsX40 ++ wsX60 ++ wsX70 ++ wsX10)
def wsX9_may_r1 : List Cond := [Cond.fieldLink RX9 33 "CardBowl" "slots" "[LCardBowl$Slot;", Cond.fieldLink RX9 138 "CardBowl$Slot" "filled" "Z", Cond.fieldLink RX9 40 "CardBowl" "rounds" "LCardBowl$Rounds;", Cond.fieldLink RX9 23 "CardBowl" "state" "LCardBowl$State;", Cond.methodLink RX9 134 yX9_isSlot, Cond.static yX9_isSlot, Cond.initialized RX9, Cond.code yX9_isSlot cX9_isSlot 1 (some .boolean), Cond.methodLink RX9 191 yX9_isOuting, Cond.instanceMethod yX9_isOuting, Cond.selects RX9 yX9_isOuting yX9_isOuting, Cond.code yX9_isOuting cX9_isOuting 3 (some .boolean), Cond.fieldLink RX9 93 "CardBowl$State" "town" "LCardBowl$Town;", Cond.fieldLink RX9 102 "CardBowl$State" "day" "I", Cond.methodLink RX9 158 yX7_has, Cond.instanceMethod yX7_has, Cond.selects RX7 yX7_has yX7_has, Cond.initialized RX7, Cond.code yX7_has cX7_has 2 (some .boolean), Cond.fieldLink RX7 43 "CardBowl$Town" "houses" "I", Cond.methodLink RX9 210 yX4_canWalk, Cond.instanceMethod yX4_canWalk, Cond.selects RX4 yX4_canWalk yX4_canWalk, Cond.initialized RX4]
def wsX9_may_r2 : List Cond := [Cond.code yX4_canWalk cX4_canWalk 10 (some .boolean), Cond.fieldLink RX4 157 "CardBowl$Slot" "size" "I", Cond.fieldLink RX4 56 "CardBowl$State" "town" "LCardBowl$Town;", Cond.fieldLink RX4 67 "CardBowl$State" "debts" "LCardBowl$Debts;", Cond.methodLink RX4 162 yX5_small, Cond.instanceMethod yX5_small, Cond.selects RX5 yX5_small yX5_small, Cond.initialized RX5, Cond.code yX5_small cX5_small 2 (some .int), Cond.fieldLink RX5 23 "CardBowl$Slot" "size" "I", Cond.fieldLink RX5 9 "CardBowl$Slot" "numbers" "[J", Cond.constantLong RX5 32 (16), Cond.methodLink RX4 165 yX7_has, Cond.methodLink RX4 71 yX1_kindsOf, Cond.instanceMethod yX1_kindsOf, Cond.selects RX1 yX1_kindsOf yX1_kindsOf, Cond.initialized RX1, Cond.code yX1_kindsOf cX1_kindsOf 3 (some .int), Cond.fieldLink RX1 30 "CardBowl$Debts" "kinds" "[I", Cond.methodLink RX4 120 yX4_isAtHome, Cond.static yX4_isAtHome, Cond.code yX4_isAtHome cX4_isAtHome 4 (some .boolean), Cond.fieldLink RX4 118 "CardBowl$Town" "weekday" "[I", Cond.methodLink RX4 108 yX4_isByCall]
def wsX9_may_r3 : List Cond := [Cond.static yX4_isByCall, Cond.code yX4_isByCall cX4_isByCall 3 (some .boolean), Cond.methodLink RX4 101 yX4_lookAt, Cond.instanceMethod yX4_lookAt, Cond.selects RX4 yX4_lookAt yX4_lookAt, Cond.code yX4_lookAt cX4_lookAt 5 none, Cond.fieldLink RX4 28 "CardBowl$Rounds" "opens" "[I", Cond.fieldLink RX4 112 "CardBowl$Town" "from" "[I", Cond.fieldLink RX4 31 "CardBowl$Rounds" "closes" "[I", Cond.fieldLink RX4 115 "CardBowl$Town" "to" "[I", Cond.fieldLink RX4 34 "CardBowl$Rounds" "stays" "[I", Cond.methodLink RX4 105 yX7_minutes, Cond.instanceMethod yX7_minutes, Cond.selects RX7 yX7_minutes yX7_minutes, Cond.code yX7_minutes cX7_minutes 3 (some .int), Cond.fieldLink RX7 15 "CardBowl$Town" "x" "[I", Cond.methodLink RX7 65 Lib.Math.abs.name, Cond.static Lib.Math.abs.name, Cond.initialized "java/lang/Math", Cond.code Lib.Math.abs.name Lib.Math.abs.code 1 (some .int), Cond.fieldLink RX7 19 "CardBowl$Town" "y" "[I", Cond.methodLink RX4 133 yX4_seen, Cond.instanceMethod yX4_seen, Cond.selects RX4 yX4_seen yX4_seen]
def wsX9_may_r4 : List Cond := [Cond.code yX4_seen cX4_seen 4 (some .int), Cond.methodLink RX4 124 Lib.Math.max.name, Cond.static Lib.Math.max.name, Cond.code Lib.Math.max.name Lib.Math.max.code 2 (some .int)]
def wsX9_may : List Cond := .code yX9_may cX9_may 5 (some .int) :: ((wsX9_may_r1 ++ (wsX9_may_r2 ++ (wsX9_may_r3 ++ wsX9_may_r4))) ++ wsX90 ++ wsX50 ++ wsX60 ++ wsX70 ++ wsX10 ++ wsX40)
def wsX9_fewest_r1 : List Cond := [Cond.fieldLink RX9 23 "CardBowl" "state" "LCardBowl$State;", Cond.fieldLink RX9 93 "CardBowl$State" "town" "LCardBowl$Town;", Cond.fieldLink RX9 40 "CardBowl" "rounds" "LCardBowl$Rounds;", Cond.methodLink RX9 158 yX7_has, Cond.instanceMethod yX7_has, Cond.selects RX7 yX7_has yX7_has, Cond.initialized RX7, Cond.code yX7_has cX7_has 2 (some .boolean), Cond.fieldLink RX7 43 "CardBowl$Town" "houses" "I", Cond.methodLink RX9 214 yX4_fewestDays, Cond.instanceMethod yX4_fewestDays, Cond.selects RX4 yX4_fewestDays yX4_fewestDays, Cond.initialized RX4, Cond.code yX4_fewestDays cX4_fewestDays 5 (some .int), Cond.fieldLink RX4 49 "CardBowl$Rounds" "planned" "Z", Cond.fieldLink RX4 15 "CardBowl$Rounds" "owner" "I", Cond.fieldLink RX4 53 "CardBowl$Rounds" "spots" "I", Cond.fieldLink RX4 46 "CardBowl$Rounds" "sums" "[I", Cond.fieldLink RX4 172 "CardBowl$State" "day" "I", Cond.methodLink RX4 169 yX4_gatherDeadlines, Cond.instanceMethod yX4_gatherDeadlines, Cond.selects RX4 yX4_gatherDeadlines yX4_gatherDeadlines, Cond.code yX4_gatherDeadlines cX4_gatherDeadlines 7 none, Cond.fieldLink RX4 67 "CardBowl$State" "debts" "LCardBowl$Debts;"]
def wsX9_fewest_r2 : List Cond := [Cond.fieldLink RX4 22 "CardBowl$Rounds" "spot" "[I", Cond.fieldLink RX4 184 "CardBowl$Debts" "creditor" "[I", Cond.fieldLink RX4 25 "CardBowl$Rounds" "deadline" "[I", Cond.fieldLink RX4 187 "CardBowl$Debts" "due" "[I", Cond.methodLink RX4 136 Lib.Math.min.name, Cond.static Lib.Math.min.name, Cond.initialized "java/lang/Math", Cond.code Lib.Math.min.name Lib.Math.min.code 2 (some .int), Cond.methodLink RX4 181 yX1_nth, Cond.instanceMethod yX1_nth, Cond.selects RX1 yX1_nth yX1_nth, Cond.initialized RX1, Cond.code yX1_nth cX1_nth 5 (some .int), Cond.fieldLink RX1 27 "CardBowl$Debts" "open" "[I", Cond.fieldLink RX1 33 "CardBowl$Debts" "size" "I", Cond.fieldLink RX1 9 "CardBowl$Debts" "debtor" "[I", Cond.methodLink RX4 77 yX4_lookAtSpots, Cond.instanceMethod yX4_lookAtSpots, Cond.selects RX4 yX4_lookAtSpots yX4_lookAtSpots, Cond.code yX4_lookAtSpots cX4_lookAtSpots 6 none, Cond.fieldLink RX4 37 "CardBowl$Rounds" "apart" "[I", Cond.fieldLink RX4 56 "CardBowl$State" "town" "LCardBowl$Town;", Cond.methodLink RX4 101 yX4_lookAt, Cond.instanceMethod yX4_lookAt]
def wsX9_fewest_r3 : List Cond := [Cond.selects RX4 yX4_lookAt yX4_lookAt, Cond.code yX4_lookAt cX4_lookAt 5 none, Cond.fieldLink RX4 28 "CardBowl$Rounds" "opens" "[I", Cond.fieldLink RX4 112 "CardBowl$Town" "from" "[I", Cond.fieldLink RX4 31 "CardBowl$Rounds" "closes" "[I", Cond.fieldLink RX4 115 "CardBowl$Town" "to" "[I", Cond.fieldLink RX4 34 "CardBowl$Rounds" "stays" "[I", Cond.methodLink RX4 108 yX4_isByCall, Cond.static yX4_isByCall, Cond.code yX4_isByCall cX4_isByCall 3 (some .boolean), Cond.methodLink RX4 71 yX1_kindsOf, Cond.instanceMethod yX1_kindsOf, Cond.selects RX1 yX1_kindsOf yX1_kindsOf, Cond.code yX1_kindsOf cX1_kindsOf 3 (some .int), Cond.fieldLink RX1 30 "CardBowl$Debts" "kinds" "[I", Cond.methodLink RX4 105 yX7_minutes, Cond.instanceMethod yX7_minutes, Cond.selects RX7 yX7_minutes yX7_minutes, Cond.code yX7_minutes cX7_minutes 3 (some .int), Cond.fieldLink RX7 15 "CardBowl$Town" "x" "[I", Cond.methodLink RX7 65 Lib.Math.abs.name, Cond.static Lib.Math.abs.name, Cond.code Lib.Math.abs.name Lib.Math.abs.code 1 (some .int), Cond.fieldLink RX7 19 "CardBowl$Town" "y" "[I"]
def wsX9_fewest_r4 : List Cond := [Cond.methodLink RX4 85 yX4_reckonMinutes, Cond.instanceMethod yX4_reckonMinutes, Cond.selects RX4 yX4_reckonMinutes yX4_reckonMinutes, Cond.code yX4_reckonMinutes cX4_reckonMinutes 8 none, Cond.fieldLink RX4 43 "CardBowl$Rounds" "soonest" "[I", Cond.fieldLink RX4 40 "CardBowl$Rounds" "minute" "[I", Cond.methodLink RX4 129 yX4_arrival, Cond.instanceMethod yX4_arrival, Cond.selects RX4 yX4_arrival yX4_arrival, Cond.code yX4_arrival cX4_arrival 7 (some .int), Cond.methodLink RX4 133 yX4_seen, Cond.instanceMethod yX4_seen, Cond.selects RX4 yX4_seen yX4_seen, Cond.code yX4_seen cX4_seen 4 (some .int), Cond.methodLink RX4 124 Lib.Math.max.name, Cond.static Lib.Math.max.name, Cond.code Lib.Math.max.name Lib.Math.max.code 2 (some .int), Cond.methodLink RX4 81 yX4_openSpots, Cond.instanceMethod yX4_openSpots, Cond.selects RX4 yX4_openSpots yX4_openSpots, Cond.code yX4_openSpots cX4_openSpots 5 (some .int), Cond.methodLink RX4 120 yX4_isAtHome, Cond.static yX4_isAtHome, Cond.code yX4_isAtHome cX4_isAtHome 4 (some .boolean)]
def wsX9_fewest_r5 : List Cond := [Cond.fieldLink RX4 118 "CardBowl$Town" "weekday" "[I", Cond.methodLink RX4 175 yX4_inTime, Cond.instanceMethod yX4_inTime, Cond.selects RX4 yX4_inTime yX4_inTime, Cond.code yX4_inTime cX4_inTime 4 (some .int), Cond.methodLink RX4 178 yX4_addDay, Cond.instanceMethod yX4_addDay, Cond.selects RX4 yX4_addDay yX4_addDay, Cond.code yX4_addDay cX4_addDay 6 none]
def wsX9_fewest : List Cond := .code yX9_fewest cX9_fewest 2 (some .int) :: ((wsX9_fewest_r1 ++ (wsX9_fewest_r2 ++ (wsX9_fewest_r3 ++ (wsX9_fewest_r4 ++ wsX9_fewest_r5)))) ++ wsX90 ++ wsX60 ++ wsX70 ++ wsX40 ++ wsX10)
def wsX9_lost_r1 : List Cond := [Cond.fieldLink RX9 23 "CardBowl" "state" "LCardBowl$State;", Cond.fieldLink RX9 93 "CardBowl$State" "town" "LCardBowl$Town;", Cond.fieldLink RX9 40 "CardBowl" "rounds" "LCardBowl$Rounds;", Cond.methodLink RX9 158 yX7_has, Cond.instanceMethod yX7_has, Cond.selects RX7 yX7_has yX7_has, Cond.initialized RX7, Cond.code yX7_has cX7_has 2 (some .boolean), Cond.fieldLink RX7 43 "CardBowl$Town" "houses" "I", Cond.methodLink RX9 218 yX4_lostBits, Cond.instanceMethod yX4_lostBits, Cond.selects RX4 yX4_lostBits yX4_lostBits, Cond.initialized RX4, Cond.code yX4_lostBits cX4_lostBits 6 (some .int), Cond.fieldLink RX4 67 "CardBowl$State" "debts" "LCardBowl$Debts;", Cond.fieldLink RX4 184 "CardBowl$Debts" "creditor" "[I", Cond.fieldLink RX4 187 "CardBowl$Debts" "due" "[I", Cond.methodLink RX4 181 yX1_nth, Cond.instanceMethod yX1_nth, Cond.selects RX1 yX1_nth yX1_nth, Cond.initialized RX1, Cond.code yX1_nth cX1_nth 5 (some .int), Cond.fieldLink RX1 27 "CardBowl$Debts" "open" "[I", Cond.fieldLink RX1 33 "CardBowl$Debts" "size" "I"]
def wsX9_lost_r2 : List Cond := [Cond.fieldLink RX1 9 "CardBowl$Debts" "debtor" "[I", Cond.methodLink RX4 190 yX4_canBeSeen, Cond.instanceMethod yX4_canBeSeen, Cond.selects RX4 yX4_canBeSeen yX4_canBeSeen, Cond.code yX4_canBeSeen cX4_canBeSeen 6 (some .boolean), Cond.fieldLink RX4 56 "CardBowl$State" "town" "LCardBowl$Town;", Cond.fieldLink RX4 172 "CardBowl$State" "day" "I", Cond.methodLink RX4 101 yX4_lookAt, Cond.instanceMethod yX4_lookAt, Cond.selects RX4 yX4_lookAt yX4_lookAt, Cond.code yX4_lookAt cX4_lookAt 5 none, Cond.fieldLink RX4 28 "CardBowl$Rounds" "opens" "[I", Cond.fieldLink RX4 112 "CardBowl$Town" "from" "[I", Cond.fieldLink RX4 31 "CardBowl$Rounds" "closes" "[I", Cond.fieldLink RX4 115 "CardBowl$Town" "to" "[I", Cond.fieldLink RX4 34 "CardBowl$Rounds" "stays" "[I", Cond.methodLink RX4 108 yX4_isByCall, Cond.static yX4_isByCall, Cond.code yX4_isByCall cX4_isByCall 3 (some .boolean), Cond.methodLink RX4 71 yX1_kindsOf, Cond.instanceMethod yX1_kindsOf, Cond.selects RX1 yX1_kindsOf yX1_kindsOf, Cond.code yX1_kindsOf cX1_kindsOf 3 (some .int), Cond.fieldLink RX1 30 "CardBowl$Debts" "kinds" "[I"]
def wsX9_lost_r3 : List Cond := [Cond.methodLink RX4 105 yX7_minutes, Cond.instanceMethod yX7_minutes, Cond.selects RX7 yX7_minutes yX7_minutes, Cond.code yX7_minutes cX7_minutes 3 (some .int), Cond.fieldLink RX7 15 "CardBowl$Town" "x" "[I", Cond.methodLink RX7 65 Lib.Math.abs.name, Cond.static Lib.Math.abs.name, Cond.initialized "java/lang/Math", Cond.code Lib.Math.abs.name Lib.Math.abs.code 1 (some .int), Cond.fieldLink RX7 19 "CardBowl$Town" "y" "[I", Cond.methodLink RX4 133 yX4_seen, Cond.instanceMethod yX4_seen, Cond.selects RX4 yX4_seen yX4_seen, Cond.code yX4_seen cX4_seen 4 (some .int), Cond.methodLink RX4 124 Lib.Math.max.name, Cond.static Lib.Math.max.name, Cond.code Lib.Math.max.name Lib.Math.max.code 2 (some .int), Cond.methodLink RX4 120 yX4_isAtHome, Cond.static yX4_isAtHome, Cond.code yX4_isAtHome cX4_isAtHome 4 (some .boolean), Cond.fieldLink RX4 118 "CardBowl$Town" "weekday" "[I"]
def wsX9_lost : List Cond := .code yX9_lost cX9_lost 2 (some .int) :: ((wsX9_lost_r1 ++ (wsX9_lost_r2 ++ wsX9_lost_r3)) ++ wsX90 ++ wsX60 ++ wsX70 ++ wsX10 ++ wsX40)
def wsX9_soon_r1 : List Cond := [Cond.fieldLink RX9 23 "CardBowl" "state" "LCardBowl$State;", Cond.fieldLink RX9 93 "CardBowl$State" "town" "LCardBowl$Town;", Cond.fieldLink RX9 47 "CardBowl" "ways" "LCardBowl$Ways;", Cond.fieldLink RX9 224 "CardBowl$Ways" "length" "I", Cond.methodLink RX9 126 yX7_hasPair, Cond.instanceMethod yX7_hasPair, Cond.selects RX7 yX7_hasPair yX7_hasPair, Cond.initialized RX7, Cond.code yX7_hasPair cX7_hasPair 3 (some .boolean), Cond.methodLink RX7 61 yX7_has, Cond.instanceMethod yX7_has, Cond.selects RX7 yX7_has yX7_has, Cond.code yX7_has cX7_has 2 (some .boolean), Cond.fieldLink RX7 43 "CardBowl$Town" "houses" "I", Cond.methodLink RX9 221 yX8_seek, Cond.instanceMethod yX8_seek, Cond.selects RX8 yX8_seek yX8_seek, Cond.initialized RX8, Cond.code yX8_seek cX8_seek 5 none, Cond.fieldLink RX8 37 "CardBowl$Ways" "sought" "Z", Cond.fieldLink RX8 15 "CardBowl$Ways" "caller" "I", Cond.fieldLink RX8 19 "CardBowl$Ways" "goal" "I", Cond.fieldLink RX8 41 "CardBowl$Ways" "length" "I", Cond.fieldLink RX8 54 "CardBowl$State" "knows" "[I"]
def wsX9_soon_r2 : List Cond := [Cond.methodLink RX8 44 yX6_knew, Cond.instanceMethod yX6_knew, Cond.selects RX6 yX6_knew yX6_knew, Cond.initialized RX6, Cond.code yX6_knew cX6_knew 3 (some .int), Cond.fieldLink RX6 39 "CardBowl$State" "knows" "[I", Cond.methodLink RX8 50 yX8_everyoneToKnow, Cond.static yX8_everyoneToKnow, Cond.code yX8_everyoneToKnow cX8_everyoneToKnow 7 (some .int), Cond.fieldLink RX8 64 "CardBowl$State" "town" "LCardBowl$Town;", Cond.fieldLink RX8 68 "CardBowl$Town" "houses" "I", Cond.fieldLink RX8 73 "CardBowl$State" "day" "I", Cond.fieldLink RX8 86 "CardBowl$Town" "introducers" "I", Cond.methodLink RX8 76 yX7_isThere, Cond.instanceMethod yX7_isThere, Cond.selects RX7 yX7_isThere yX7_isThere, Cond.code yX7_isThere cX7_isThere 3 (some .boolean), Cond.fieldLink RX7 34 "CardBowl$Town" "came" "[I", Cond.methodLink RX8 80 yJ6_bitCount_0f7a4, Cond.static yJ6_bitCount_0f7a4, Cond.initialized RJ6, Cond.code yJ6_bitCount_0f7a4 cJ6_bitCount_0f7a4 1 (some .int), Cond.constant RJ6 265 (1431655765), Cond.constant RJ6 266 (858993459)]
def wsX9_soon_r3 : List Cond := [Cond.constant RJ6 267 (252645135), Cond.methodLink RX8 57 yX8_gather, Cond.instanceMethod yX8_gather, Cond.selects RX8 yX8_gather yX8_gather, Cond.code yX8_gather cX8_gather 5 none, Cond.fieldLink RX8 89 "CardBowl$Ways" "between" "I", Cond.fieldLink RX8 22 "CardBowl$Ways" "house" "[I", Cond.fieldLink RX8 25 "CardBowl$Ways" "friends" "[I", Cond.fieldLink RX8 28 "CardBowl$Ways" "links" "[I", Cond.methodLink RX8 92 yX8_linksOf, Cond.instanceMethod yX8_linksOf, Cond.selects RX8 yX8_linksOf yX8_linksOf, Cond.code yX8_linksOf cX8_linksOf 5 (some .int), Cond.methodLink RX8 61 yX8_search, Cond.instanceMethod yX8_search, Cond.selects RX8 yX8_search yX8_search, Cond.code yX8_search cX8_search 13 none, Cond.fieldLink RX8 34 "CardBowl$Ways" "latest" "[I", Cond.fieldLink RX8 31 "CardBowl$Ways" "queue" "[I", Cond.methodLink RX8 95 yX8_tell, Cond.instanceMethod yX8_tell, Cond.selects RX8 yX8_tell yX8_tell, Cond.code yX8_tell cX8_tell 6 none, Cond.fieldLink RX8 11 "CardBowl$Ways" "calls" "[I"]
def wsX9_soon : List Cond := .code yX9_soon cX9_soon 3 (some .int) :: ((wsX9_soon_r1 ++ (wsX9_soon_r2 ++ wsX9_soon_r3)) ++ wsX90 ++ wsX60 ++ wsX80 ++ wsX70)
def wsX9_path_r1 : List Cond := [Cond.fieldLink RX9 23 "CardBowl" "state" "LCardBowl$State;", Cond.fieldLink RX9 93 "CardBowl$State" "town" "LCardBowl$Town;", Cond.fieldLink RX9 47 "CardBowl" "ways" "LCardBowl$Ways;", Cond.fieldLink RX9 224 "CardBowl$Ways" "length" "I", Cond.fieldLink RX9 225 "CardBowl$Ways" "calls" "[I", Cond.methodLink RX9 126 yX7_hasPair, Cond.instanceMethod yX7_hasPair, Cond.selects RX7 yX7_hasPair yX7_hasPair, Cond.initialized RX7, Cond.code yX7_hasPair cX7_hasPair 3 (some .boolean), Cond.methodLink RX7 61 yX7_has, Cond.instanceMethod yX7_has, Cond.selects RX7 yX7_has yX7_has, Cond.code yX7_has cX7_has 2 (some .boolean), Cond.fieldLink RX7 43 "CardBowl$Town" "houses" "I", Cond.methodLink RX9 221 yX8_seek, Cond.instanceMethod yX8_seek, Cond.selects RX8 yX8_seek yX8_seek, Cond.initialized RX8, Cond.code yX8_seek cX8_seek 5 none, Cond.fieldLink RX8 37 "CardBowl$Ways" "sought" "Z", Cond.fieldLink RX8 15 "CardBowl$Ways" "caller" "I", Cond.fieldLink RX8 19 "CardBowl$Ways" "goal" "I", Cond.fieldLink RX8 41 "CardBowl$Ways" "length" "I"]
def wsX9_path_r2 : List Cond := [Cond.fieldLink RX8 54 "CardBowl$State" "knows" "[I", Cond.methodLink RX8 44 yX6_knew, Cond.instanceMethod yX6_knew, Cond.selects RX6 yX6_knew yX6_knew, Cond.initialized RX6, Cond.code yX6_knew cX6_knew 3 (some .int), Cond.fieldLink RX6 39 "CardBowl$State" "knows" "[I", Cond.methodLink RX8 50 yX8_everyoneToKnow, Cond.static yX8_everyoneToKnow, Cond.code yX8_everyoneToKnow cX8_everyoneToKnow 7 (some .int), Cond.fieldLink RX8 64 "CardBowl$State" "town" "LCardBowl$Town;", Cond.fieldLink RX8 68 "CardBowl$Town" "houses" "I", Cond.fieldLink RX8 73 "CardBowl$State" "day" "I", Cond.fieldLink RX8 86 "CardBowl$Town" "introducers" "I", Cond.methodLink RX8 76 yX7_isThere, Cond.instanceMethod yX7_isThere, Cond.selects RX7 yX7_isThere yX7_isThere, Cond.code yX7_isThere cX7_isThere 3 (some .boolean), Cond.fieldLink RX7 34 "CardBowl$Town" "came" "[I", Cond.methodLink RX8 80 yJ6_bitCount_0f7a4, Cond.static yJ6_bitCount_0f7a4, Cond.initialized RJ6, Cond.code yJ6_bitCount_0f7a4 cJ6_bitCount_0f7a4 1 (some .int), Cond.constant RJ6 265 (1431655765)]
def wsX9_path_r3 : List Cond := [Cond.constant RJ6 266 (858993459), Cond.constant RJ6 267 (252645135), Cond.methodLink RX8 57 yX8_gather, Cond.instanceMethod yX8_gather, Cond.selects RX8 yX8_gather yX8_gather, Cond.code yX8_gather cX8_gather 5 none, Cond.fieldLink RX8 89 "CardBowl$Ways" "between" "I", Cond.fieldLink RX8 22 "CardBowl$Ways" "house" "[I", Cond.fieldLink RX8 25 "CardBowl$Ways" "friends" "[I", Cond.fieldLink RX8 28 "CardBowl$Ways" "links" "[I", Cond.methodLink RX8 92 yX8_linksOf, Cond.instanceMethod yX8_linksOf, Cond.selects RX8 yX8_linksOf yX8_linksOf, Cond.code yX8_linksOf cX8_linksOf 5 (some .int), Cond.methodLink RX8 61 yX8_search, Cond.instanceMethod yX8_search, Cond.selects RX8 yX8_search yX8_search, Cond.code yX8_search cX8_search 13 none, Cond.fieldLink RX8 34 "CardBowl$Ways" "latest" "[I", Cond.fieldLink RX8 31 "CardBowl$Ways" "queue" "[I", Cond.methodLink RX8 95 yX8_tell, Cond.instanceMethod yX8_tell, Cond.selects RX8 yX8_tell yX8_tell, Cond.code yX8_tell cX8_tell 6 none]
def wsX9_path_r4 : List Cond := [Cond.fieldLink RX8 11 "CardBowl$Ways" "calls" "[I"]
def wsX9_path : List Cond := .code yX9_path cX9_path 4 (some .int) :: ((wsX9_path_r1 ++ (wsX9_path_r2 ++ (wsX9_path_r3 ++ wsX9_path_r4))) ++ wsX90 ++ wsX60 ++ wsX80 ++ wsX70)
def wsX9_reach : List Cond := .code yX9_reach cX9_reach 2 (some .int) :: ([.fieldLink RX9 23 "CardBowl" "state" "LCardBowl$State;", .fieldLink RX9 93 "CardBowl$State" "town" "LCardBowl$Town;", .methodLink RX9 158 yX7_has, .instanceMethod yX7_has, .selects RX7 yX7_has yX7_has, .initialized RX7, .code yX7_has cX7_has 2 (some .boolean), .fieldLink RX7 43 "CardBowl$Town" "houses" "I", .methodLink RX9 228 yX6_hanging, .instanceMethod yX6_hanging, .selects RX6 yX6_hanging yX6_hanging, .initialized RX6, .code yX6_hanging cX6_hanging 8 (some .int), .fieldLink RX6 39 "CardBowl$State" "knows" "[I"] ++ wsX90 ++ wsX60 ++ wsX70)
def wsX9_drop_r1 : List Cond := [Cond.fieldLink RX9 23 "CardBowl" "state" "LCardBowl$State;", Cond.fieldLink RX9 93 "CardBowl$State" "town" "LCardBowl$Town;", Cond.fieldLink RX9 94 "CardBowl$Town" "houses" "I", Cond.fieldLink RX9 185 "CardBowl$Town" "rank" "[I", Cond.methodLink RX9 158 yX7_has, Cond.instanceMethod yX7_has, Cond.selects RX7 yX7_has yX7_has, Cond.initialized RX7, Cond.code yX7_has cX7_has 2 (some .boolean), Cond.fieldLink RX7 43 "CardBowl$Town" "houses" "I", Cond.methodLink RX9 231 yX6_canDrop, Cond.instanceMethod yX6_canDrop, Cond.selects RX6 yX6_canDrop yX6_canDrop, Cond.initialized RX6, Cond.code yX6_canDrop cX6_canDrop 3 (some .boolean), Cond.fieldLink RX6 28 "CardBowl$State" "debts" "LCardBowl$Debts;", Cond.methodLink RX6 94 yX6_knew, Cond.instanceMethod yX6_knew, Cond.selects RX6 yX6_knew yX6_knew, Cond.code yX6_knew cX6_knew 3 (some .int), Cond.fieldLink RX6 39 "CardBowl$State" "knows" "[I", Cond.methodLink RX6 154 yX1_kindsOf, Cond.instanceMethod yX1_kindsOf, Cond.selects RX1 yX1_kindsOf yX1_kindsOf]
def wsX9_drop_r2 : List Cond := [Cond.initialized RX1, Cond.code yX1_kindsOf cX1_kindsOf 3 (some .int), Cond.fieldLink RX1 30 "CardBowl$Debts" "kinds" "[I", Cond.methodLink RX6 171 yX6_holdsTogether, Cond.instanceMethod yX6_holdsTogether, Cond.selects RX6 yX6_holdsTogether yX6_holdsTogether, Cond.code yX6_holdsTogether cX6_holdsTogether 3 (some .boolean), Cond.methodLink RX6 168 yX6_hanging, Cond.instanceMethod yX6_hanging, Cond.selects RX6 yX6_hanging yX6_hanging, Cond.code yX6_hanging cX6_hanging 8 (some .int)]
def wsX9_drop : List Cond := .code yX9_drop cX9_drop 5 (some .int) :: ((wsX9_drop_r1 ++ wsX9_drop_r2) ++ wsX90 ++ wsX60 ++ wsX70 ++ wsX10)
def wsX9_tie_r1 : List Cond := [Cond.fieldLink RX9 23 "CardBowl" "state" "LCardBowl$State;", Cond.fieldLink RX9 93 "CardBowl$State" "town" "LCardBowl$Town;", Cond.methodLink RX9 126 yX7_hasPair, Cond.instanceMethod yX7_hasPair, Cond.selects RX7 yX7_hasPair yX7_hasPair, Cond.initialized RX7, Cond.code yX7_hasPair cX7_hasPair 3 (some .boolean), Cond.methodLink RX7 61 yX7_has, Cond.instanceMethod yX7_has, Cond.selects RX7 yX7_has yX7_has, Cond.code yX7_has cX7_has 2 (some .boolean), Cond.fieldLink RX7 43 "CardBowl$Town" "houses" "I", Cond.methodLink RX9 155 yX6_knew, Cond.instanceMethod yX6_knew, Cond.selects RX6 yX6_knew yX6_knew, Cond.initialized RX6, Cond.code yX6_knew cX6_knew 3 (some .int), Cond.fieldLink RX6 39 "CardBowl$State" "knows" "[I", Cond.methodLink RX9 234 yX6_holdsTogether, Cond.instanceMethod yX6_holdsTogether, Cond.selects RX6 yX6_holdsTogether yX6_holdsTogether, Cond.code yX6_holdsTogether cX6_holdsTogether 3 (some .boolean), Cond.methodLink RX6 168 yX6_hanging, Cond.instanceMethod yX6_hanging]
def wsX9_tie_r2 : List Cond := [Cond.selects RX6 yX6_hanging yX6_hanging, Cond.code yX6_hanging cX6_hanging 8 (some .int)]
def wsX9_tie : List Cond := .code yX9_tie cX9_tie 3 (some .int) :: ((wsX9_tie_r1 ++ wsX9_tie_r2) ++ wsX90 ++ wsX60 ++ wsX70)
def wsX9_rings_r1 : List Cond := [Cond.fieldLink RX9 23 "CardBowl" "state" "LCardBowl$State;", Cond.fieldLink RX9 93 "CardBowl$State" "town" "LCardBowl$Town;", Cond.fieldLink RX9 94 "CardBowl$Town" "houses" "I", Cond.methodLink RX9 237 yX6_followCalls, Cond.instanceMethod yX6_followCalls, Cond.selects RX6 yX6_followCalls yX6_followCalls, Cond.initialized RX6, Cond.code yX6_followCalls cX6_followCalls 3 none, Cond.fieldLink RX6 43 "CardBowl$State" "follows" "[I", Cond.fieldLink RX6 35 "CardBowl$State" "deeds" "LCardBowl$Deeds;", Cond.fieldLink RX6 56 "CardBowl$Deeds" "size" "I", Cond.fieldLink RX6 163 "CardBowl$Deeds" "what" "[I", Cond.fieldLink RX6 157 "CardBowl$Deeds" "who" "[I", Cond.fieldLink RX6 160 "CardBowl$Deeds" "whom" "[I", Cond.methodLink RX9 240 yX6_ringBits, Cond.instanceMethod yX6_ringBits, Cond.selects RX6 yX6_ringBits yX6_ringBits, Cond.code yX6_ringBits cX6_ringBits 4 (some .int), Cond.methodLink RX6 101 yJ6_bitCount_0f7a4, Cond.static yJ6_bitCount_0f7a4, Cond.initialized RJ6, Cond.code yJ6_bitCount_0f7a4 cJ6_bitCount_0f7a4 1 (some .int), Cond.constant RJ6 265 (1431655765), Cond.constant RJ6 266 (858993459)]
def wsX9_rings_r2 : List Cond := [Cond.constant RJ6 267 (252645135), Cond.methodLink RX9 243 yJ6_numberOfTrailingZeros_0f7a4, Cond.static yJ6_numberOfTrailingZeros_0f7a4, Cond.code yJ6_numberOfTrailingZeros_0f7a4 cJ6_numberOfTrailingZeros_0f7a4 2 (some .int), Cond.constant RJ6 264 (65536)]
def wsX9_rings : List Cond := .code yX9_rings cX9_rings 4 (some .int) :: ((wsX9_rings_r1 ++ wsX9_rings_r2) ++ wsX90 ++ wsX60 ++ wsX70 ++ wsX20)
def wsX9_ring_r1 : List Cond := [Cond.fieldLink RX9 23 "CardBowl" "state" "LCardBowl$State;", Cond.fieldLink RX9 93 "CardBowl$State" "town" "LCardBowl$Town;", Cond.methodLink RX9 158 yX7_has, Cond.instanceMethod yX7_has, Cond.selects RX7 yX7_has yX7_has, Cond.initialized RX7, Cond.code yX7_has cX7_has 2 (some .boolean), Cond.fieldLink RX7 43 "CardBowl$Town" "houses" "I", Cond.methodLink RX9 237 yX6_followCalls, Cond.instanceMethod yX6_followCalls, Cond.selects RX6 yX6_followCalls yX6_followCalls, Cond.initialized RX6, Cond.code yX6_followCalls cX6_followCalls 3 none, Cond.fieldLink RX6 43 "CardBowl$State" "follows" "[I", Cond.fieldLink RX6 35 "CardBowl$State" "deeds" "LCardBowl$Deeds;", Cond.fieldLink RX6 56 "CardBowl$Deeds" "size" "I", Cond.fieldLink RX6 163 "CardBowl$Deeds" "what" "[I", Cond.fieldLink RX6 157 "CardBowl$Deeds" "who" "[I", Cond.fieldLink RX6 160 "CardBowl$Deeds" "whom" "[I", Cond.methodLink RX9 240 yX6_ringBits, Cond.instanceMethod yX6_ringBits, Cond.selects RX6 yX6_ringBits yX6_ringBits, Cond.code yX6_ringBits cX6_ringBits 4 (some .int), Cond.methodLink RX6 101 yJ6_bitCount_0f7a4]
def wsX9_ring_r2 : List Cond := [Cond.static yJ6_bitCount_0f7a4, Cond.initialized RJ6, Cond.code yJ6_bitCount_0f7a4 cJ6_bitCount_0f7a4 1 (some .int), Cond.constant RJ6 265 (1431655765), Cond.constant RJ6 266 (858993459), Cond.constant RJ6 267 (252645135)]
def wsX9_ring : List Cond := .code yX9_ring cX9_ring 2 (some .int) :: ((wsX9_ring_r1 ++ wsX9_ring_r2) ++ wsX90 ++ wsX60 ++ wsX70 ++ wsX20)
def wsX9_house_r1 : List Cond := [Cond.fieldLink RX9 23 "CardBowl" "state" "LCardBowl$State;", Cond.fieldLink RX9 93 "CardBowl$State" "town" "LCardBowl$Town;", Cond.constant RX9 248 (-2000000000), Cond.fieldLink RX9 249 "CardBowl$Town" "x" "[I", Cond.fieldLink RX9 252 "CardBowl$Town" "y" "[I", Cond.fieldLink RX9 185 "CardBowl$Town" "rank" "[I", Cond.fieldLink RX9 255 "CardBowl$Town" "weekday" "[I", Cond.fieldLink RX9 258 "CardBowl$Town" "from" "[I", Cond.fieldLink RX9 261 "CardBowl$Town" "to" "[I", Cond.fieldLink RX9 264 "CardBowl$Town" "came" "[I", Cond.fieldLink RX9 113 "CardBowl$State" "deeds" "LCardBowl$Deeds;", Cond.methodLink RX9 158 yX7_has, Cond.instanceMethod yX7_has, Cond.selects RX7 yX7_has yX7_has, Cond.initialized RX7, Cond.code yX7_has cX7_has 2 (some .boolean), Cond.fieldLink RX7 43 "CardBowl$Town" "houses" "I", Cond.methodLink RX9 265 yX2_callsBy, Cond.instanceMethod yX2_callsBy, Cond.selects RX2 yX2_callsBy yX2_callsBy, Cond.initialized RX2, Cond.code yX2_callsBy cX2_callsBy 4 (some .int), Cond.fieldLink RX2 24 "CardBowl$Deeds" "size" "I", Cond.fieldLink RX2 18 "CardBowl$Deeds" "what" "[I"]
def wsX9_house_r2 : List Cond := [Cond.fieldLink RX2 9 "CardBowl$Deeds" "who" "[I", Cond.methodLink RX9 268 yX2_callsTo, Cond.instanceMethod yX2_callsTo, Cond.selects RX2 yX2_callsTo yX2_callsTo, Cond.code yX2_callsTo cX2_callsTo 4 (some .int), Cond.fieldLink RX2 15 "CardBowl$Deeds" "whom" "[I"]
def wsX9_house : List Cond := .code yX9_house cX9_house 3 (some .int) :: ((wsX9_house_r1 ++ wsX9_house_r2) ++ wsX90 ++ wsX60 ++ wsX70 ++ wsX20)
def wsX9_isImage : List Cond := .code yX9_isImage cX9_isImage 1 (some .boolean) :: ([])
def wsX9_beside_r1 : List Cond := [Cond.fieldLink RX9 27 "CardBowl" "images" "[LCardBowl$State;", Cond.fieldLink RX9 23 "CardBowl" "state" "LCardBowl$State;", Cond.fieldLink RX9 274 "CardBowl$State" "code" "LCardBowl$Code;", Cond.fieldLink RX9 54 "CardBowl" "otherDebts" "LCardBowl$Debts;", Cond.fieldLink RX9 58 "CardBowl" "otherKnows" "[I", Cond.fieldLink RX9 279 "CardBowl$Debts" "size" "I", Cond.methodLink RX9 271 yX9_isImage, Cond.static yX9_isImage, Cond.initialized RX9, Cond.code yX9_isImage cX9_isImage 1 (some .boolean), Cond.methodLink RX9 275 yX6_replay, Cond.instanceMethod yX6_replay, Cond.selects RX6 yX6_replay yX6_replay, Cond.initialized RX6, Cond.code yX6_replay cX6_replay 8 none, Cond.fieldLink RX6 12 "CardBowl$State" "town" "LCardBowl$Town;", Cond.fieldLink RX6 60 "CardBowl$Town" "told" "[I", Cond.methodLink RX6 63 arraycopyName, Cond.native arraycopyName, Cond.static arraycopyName, Cond.initialized "java/lang/System", Cond.fieldLink RX6 35 "CardBowl$State" "deeds" "LCardBowl$Deeds;", Cond.fieldLink RX6 56 "CardBowl$Deeds" "size" "I", Cond.fieldLink RX6 157 "CardBowl$Deeds" "who" "[I"]
def wsX9_beside_r2 : List Cond := [Cond.fieldLink RX6 160 "CardBowl$Deeds" "whom" "[I", Cond.fieldLink RX6 163 "CardBowl$Deeds" "what" "[I", Cond.fieldLink RX6 166 "CardBowl$Deeds" "day" "[I", Cond.methodLink RX6 53 yX1_clear, Cond.instanceMethod yX1_clear, Cond.selects RX1 yX1_clear yX1_clear, Cond.initialized RX1, Cond.code yX1_clear cX1_clear 1 none, Cond.fieldLink RX1 33 "CardBowl$Debts" "size" "I", Cond.fieldLink RX1 27 "CardBowl$Debts" "open" "[I", Cond.fieldLink RX1 30 "CardBowl$Debts" "kinds" "[I", Cond.methodLink RX1 37 yJ7_fill_53178, Cond.static yJ7_fill_53178, Cond.initialized RJ7, Cond.code yJ7_fill_53178 cJ7_fill_53178 4 none, Cond.methodLink RX6 110 yX6_deal, Cond.instanceMethod yX6_deal, Cond.selects RX6 yX6_deal yX6_deal, Cond.code yX6_deal cX6_deal 10 (some .int), Cond.fieldLink RX6 126 "CardBowl$Town" "rank" "[I", Cond.fieldLink RX6 129 "CardBowl$Debts" "open" "[I", Cond.fieldLink RX6 136 "CardBowl$Code" "kind" "[I", Cond.fieldLink RX6 143 "CardBowl$Code" "within" "[I", Cond.methodLink RX6 146 Lib.Math.min.name]
def wsX9_beside_r3 : List Cond := [Cond.static Lib.Math.min.name, Cond.initialized "java/lang/Math", Cond.code Lib.Math.min.name Lib.Math.min.code 2 (some .int), Cond.methodLink RX6 122 yX1_settle, Cond.instanceMethod yX1_settle, Cond.selects RX1 yX1_settle yX1_settle, Cond.code yX1_settle cX1_settle 7 (some .int), Cond.fieldLink RX1 9 "CardBowl$Debts" "debtor" "[I", Cond.fieldLink RX1 15 "CardBowl$Debts" "creditor" "[I", Cond.fieldLink RX1 18 "CardBowl$Debts" "kind" "[I", Cond.methodLink RX1 49 yX1_kindsOf, Cond.instanceMethod yX1_kindsOf, Cond.selects RX1 yX1_kindsOf yX1_kindsOf, Cond.code yX1_kindsOf cX1_kindsOf 3 (some .int), Cond.methodLink RX1 53 yX1_move, Cond.instanceMethod yX1_move, Cond.selects RX1 yX1_move yX1_move, Cond.code yX1_move cX1_move 3 none, Cond.fieldLink RX1 21 "CardBowl$Debts" "due" "[I", Cond.fieldLink RX1 24 "CardBowl$Debts" "came" "[I", Cond.methodLink RX6 132 yX0_lineFor, Cond.instanceMethod yX0_lineFor, Cond.selects RX0 yX0_lineFor yX0_lineFor, Cond.initialized RX0]
def wsX9_beside_r4 : List Cond := [Cond.code yX0_lineFor cX0_lineFor 8 (some .int), Cond.fieldLink RX0 30 "CardBowl$Code" "facts" "[I", Cond.fieldLink RX0 33 "CardBowl$Code" "lines" "I", Cond.fieldLink RX0 9 "CardBowl$Code" "paying" "[I", Cond.methodLink RX0 46 yX0_holds, Cond.instanceMethod yX0_holds, Cond.selects RX0 yX0_holds yX0_holds, Cond.code yX0_holds cX0_holds 13 (some .boolean), Cond.fieldLink RX0 24 "CardBowl$Code" "stop" "[I", Cond.methodLink RX0 50 Lib.Math.min.name, Cond.fieldLink RX0 56 "CardBowl$Code" "beyond" "Z", Cond.fieldLink RX0 21 "CardBowl$Code" "start" "[I", Cond.fieldLink RX0 27 "CardBowl$Code" "tests" "[I", Cond.methodLink RX0 60 yX0_partOf, Cond.instanceMethod yX0_partOf, Cond.selects RX0 yX0_partOf yX0_partOf, Cond.code yX0_partOf cX0_partOf 2 (some .int), Cond.methodLink RX0 64 yX0_bounded, Cond.instanceMethod yX0_bounded, Cond.selects RX0 yX0_bounded yX0_bounded, Cond.code yX0_bounded cX0_bounded 3 (some .long), Cond.constantLong RX0 72 (1000000000), Cond.constantLong RX0 74 (-1000000000), Cond.methodLink RX0 68 yX0_compares]
def wsX9_beside_r5 : List Cond := [Cond.static yX0_compares, Cond.code yX0_compares cX0_compares 5 (some .boolean), Cond.methodLink RX6 139 yX6_isOwed, Cond.static yX6_isOwed, Cond.code yX6_isOwed cX6_isOwed 4 (some .boolean), Cond.methodLink RX6 154 yX1_kindsOf, Cond.methodLink RX6 151 yX1_add, Cond.instanceMethod yX1_add, Cond.selects RX1 yX1_add yX1_add, Cond.code yX1_add cX1_add 6 none, Cond.methodLink RX6 118 yX6_acquaint, Cond.static yX6_acquaint, Cond.code yX6_acquaint cX6_acquaint 3 none]
def wsX9_beside : List Cond := .code yX9_beside cX9_beside 3 (some .int) :: ((wsX9_beside_r1 ++ (wsX9_beside_r2 ++ (wsX9_beside_r3 ++ (wsX9_beside_r4 ++ wsX9_beside_r5)))) ++ wsX90 ++ wsX60 ++ wsX10 ++ wsX70 ++ wsX20 ++ wsX00)
def wsX9_filledSlots : List Cond := .code yX9_filledSlots cX9_filledSlots 3 (some .int) :: ([.fieldLink RX9 33 "CardBowl" "slots" "[LCardBowl$Slot;", .fieldLink RX9 138 "CardBowl$Slot" "filled" "Z"] ++ wsX90 ++ wsX50)
def wsX9_count_r1 : List Cond := [Cond.fieldLink RX9 23 "CardBowl" "state" "LCardBowl$State;", Cond.fieldLink RX9 93 "CardBowl$State" "town" "LCardBowl$Town;", Cond.fieldLink RX9 94 "CardBowl$Town" "houses" "I", Cond.fieldLink RX9 274 "CardBowl$State" "code" "LCardBowl$Code;", Cond.fieldLink RX9 280 "CardBowl$Code" "lines" "I", Cond.fieldLink RX9 102 "CardBowl$State" "day" "I", Cond.fieldLink RX9 161 "CardBowl$State" "debts" "LCardBowl$Debts;", Cond.fieldLink RX9 279 "CardBowl$Debts" "size" "I", Cond.fieldLink RX9 113 "CardBowl$State" "deeds" "LCardBowl$Deeds;", Cond.fieldLink RX9 288 "CardBowl$Deeds" "size" "I", Cond.fieldLink RX9 289 "CardBowl$State" "paid" "I", Cond.fieldLink RX9 63 "CardBowl" "tapeSize" "I", Cond.fieldLink RX9 292 "CardBowl$Town" "introducers" "I", Cond.fieldLink RX9 295 "CardBowl$Town" "fresh" "I", Cond.methodLink RX9 285 yX1_overdue, Cond.instanceMethod yX1_overdue, Cond.selects RX1 yX1_overdue yX1_overdue, Cond.initialized RX1, Cond.code yX1_overdue cX1_overdue 4 (some .int), Cond.fieldLink RX1 33 "CardBowl$Debts" "size" "I", Cond.fieldLink RX1 21 "CardBowl$Debts" "due" "[I", Cond.methodLink RX9 298 yX9_filledSlots, Cond.instanceMethod yX9_filledSlots, Cond.selects RX9 yX9_filledSlots yX9_filledSlots]
def wsX9_count_r2 : List Cond := [Cond.initialized RX9, Cond.code yX9_filledSlots cX9_filledSlots 3 (some .int), Cond.fieldLink RX9 33 "CardBowl" "slots" "[LCardBowl$Slot;", Cond.fieldLink RX9 138 "CardBowl$Slot" "filled" "Z"]
def wsX9_count : List Cond := .code yX9_count cX9_count 2 (some .int) :: ((wsX9_count_r1 ++ wsX9_count_r2) ++ wsX90 ++ wsX60 ++ wsX70 ++ wsX00 ++ wsX10 ++ wsX20 ++ wsX50)
def wsX9_keep_r1 : List Cond := [Cond.fieldLink RX9 27 "CardBowl" "images" "[LCardBowl$State;", Cond.classLink RX9 20 RX6, Cond.instantiable RX6 8, Cond.initialized RX6, Cond.fieldLink RX9 23 "CardBowl" "state" "LCardBowl$State;", Cond.methodLink RX9 271 yX9_isImage, Cond.static yX9_isImage, Cond.initialized RX9, Cond.code yX9_isImage cX9_isImage 1 (some .boolean), Cond.instanceMethod yX6_init, Cond.code yX6_init cX6_init 1 none, Cond.methodLink RX6 3 objectInit, Cond.instanceMethod objectInit, Cond.code objectInit ⟨#[0xb1]⟩ 1 none, Cond.classLink RX6 9 RX7, Cond.instantiable RX7 12, Cond.initialized RX7, Cond.fieldLink RX6 12 "CardBowl$State" "town" "LCardBowl$Town;", Cond.classLink RX6 18 RX0, Cond.instantiable RX0 10, Cond.initialized RX0, Cond.fieldLink RX6 21 "CardBowl$State" "code" "LCardBowl$Code;", Cond.classLink RX6 25 RX1, Cond.instantiable RX1 8]
def wsX9_keep_r2 : List Cond := [Cond.initialized RX1, Cond.fieldLink RX6 28 "CardBowl$State" "debts" "LCardBowl$Debts;", Cond.classLink RX6 32 RX2, Cond.instantiable RX2 5, Cond.initialized RX2, Cond.fieldLink RX6 35 "CardBowl$State" "deeds" "LCardBowl$Deeds;", Cond.arrayClass .int, Cond.fieldLink RX6 39 "CardBowl$State" "knows" "[I", Cond.fieldLink RX6 43 "CardBowl$State" "follows" "[I", Cond.instanceMethod yX7_init, Cond.code yX7_init cX7_init 1 none, Cond.methodLink RX7 3 objectInit, Cond.fieldLink RX7 11 "CardBowl$Town" "introducers" "I", Cond.fieldLink RX7 15 "CardBowl$Town" "x" "[I", Cond.fieldLink RX7 19 "CardBowl$Town" "y" "[I", Cond.fieldLink RX7 22 "CardBowl$Town" "rank" "[I", Cond.fieldLink RX7 25 "CardBowl$Town" "weekday" "[I", Cond.fieldLink RX7 28 "CardBowl$Town" "from" "[I", Cond.fieldLink RX7 31 "CardBowl$Town" "to" "[I", Cond.fieldLink RX7 34 "CardBowl$Town" "came" "[I", Cond.fieldLink RX7 37 "CardBowl$Town" "bride" "[I", Cond.fieldLink RX7 40 "CardBowl$Town" "told" "[I", Cond.instanceMethod yX0_init, Cond.code yX0_init cX0_init 1 none]
def wsX9_keep_r3 : List Cond := [Cond.methodLink RX0 3 objectInit, Cond.fieldLink RX0 9 "CardBowl$Code" "paying" "[I", Cond.fieldLink RX0 15 "CardBowl$Code" "kind" "[I", Cond.fieldLink RX0 18 "CardBowl$Code" "within" "[I", Cond.fieldLink RX0 21 "CardBowl$Code" "start" "[I", Cond.fieldLink RX0 24 "CardBowl$Code" "stop" "[I", Cond.fieldLink RX0 27 "CardBowl$Code" "tests" "[I", Cond.fieldLink RX0 30 "CardBowl$Code" "facts" "[I", Cond.instanceMethod yX1_init, Cond.code yX1_init cX1_init 1 none, Cond.methodLink RX1 3 objectInit, Cond.fieldLink RX1 9 "CardBowl$Debts" "debtor" "[I", Cond.fieldLink RX1 15 "CardBowl$Debts" "creditor" "[I", Cond.fieldLink RX1 18 "CardBowl$Debts" "kind" "[I", Cond.fieldLink RX1 21 "CardBowl$Debts" "due" "[I", Cond.fieldLink RX1 24 "CardBowl$Debts" "came" "[I", Cond.fieldLink RX1 27 "CardBowl$Debts" "open" "[I", Cond.fieldLink RX1 30 "CardBowl$Debts" "kinds" "[I", Cond.instanceMethod yX2_init, Cond.code yX2_init cX2_init 1 none, Cond.methodLink RX2 3 objectInit, Cond.fieldLink RX2 9 "CardBowl$Deeds" "who" "[I", Cond.fieldLink RX2 15 "CardBowl$Deeds" "whom" "[I", Cond.fieldLink RX2 18 "CardBowl$Deeds" "what" "[I"]
def wsX9_keep_r4 : List Cond := [Cond.fieldLink RX2 21 "CardBowl$Deeds" "day" "[I", Cond.methodLink RX9 302 yX6_copy, Cond.instanceMethod yX6_copy, Cond.selects RX6 yX6_copy yX6_copy, Cond.code yX6_copy cX6_copy 2 none, Cond.methodLink RX6 63 arraycopyName, Cond.native arraycopyName, Cond.static arraycopyName, Cond.initialized "java/lang/System", Cond.fieldLink RX6 69 "CardBowl$State" "day" "I", Cond.fieldLink RX6 72 "CardBowl$State" "paid" "I", Cond.methodLink RX6 46 yX7_copy, Cond.instanceMethod yX7_copy, Cond.selects RX7 yX7_copy yX7_copy, Cond.code yX7_copy cX7_copy 2 none, Cond.fieldLink RX7 43 "CardBowl$Town" "houses" "I", Cond.fieldLink RX7 46 "CardBowl$Town" "fresh" "I", Cond.methodLink RX7 55 arraycopyName, Cond.methodLink RX6 50 yX0_copy, Cond.instanceMethod yX0_copy, Cond.selects RX0 yX0_copy yX0_copy, Cond.code yX0_copy cX0_copy 2 none, Cond.fieldLink RX0 33 "CardBowl$Code" "lines" "I", Cond.fieldLink RX0 37 "CardBowl$Code" "used" "I"]
def wsX9_keep_r5 : List Cond := [Cond.methodLink RX0 40 arraycopyName, Cond.methodLink RX6 75 yX1_copy, Cond.instanceMethod yX1_copy, Cond.selects RX1 yX1_copy yX1_copy, Cond.code yX1_copy cX1_copy 2 none, Cond.fieldLink RX1 33 "CardBowl$Debts" "size" "I", Cond.methodLink RX1 43 arraycopyName, Cond.methodLink RX6 78 yX2_copy, Cond.instanceMethod yX2_copy, Cond.selects RX2 yX2_copy yX2_copy, Cond.code yX2_copy cX2_copy 2 none, Cond.fieldLink RX2 24 "CardBowl$Deeds" "size" "I", Cond.methodLink RX2 28 arraycopyName]
def wsX9_keep : List Cond := .code yX9_keep cX9_keep 3 (some .int) :: ((wsX9_keep_r1 ++ (wsX9_keep_r2 ++ (wsX9_keep_r3 ++ (wsX9_keep_r4 ++ wsX9_keep_r5)))) ++ wsX90 ++ wsX60 ++ wsX70 ++ wsX00 ++ wsX10 ++ wsX20)
def wsX9_back_r1 : List Cond := [Cond.fieldLink RX9 27 "CardBowl" "images" "[LCardBowl$State;", Cond.fieldLink RX9 23 "CardBowl" "state" "LCardBowl$State;", Cond.methodLink RX9 271 yX9_isImage, Cond.static yX9_isImage, Cond.initialized RX9, Cond.code yX9_isImage cX9_isImage 1 (some .boolean), Cond.methodLink RX9 302 yX6_copy, Cond.instanceMethod yX6_copy, Cond.selects RX6 yX6_copy yX6_copy, Cond.initialized RX6, Cond.code yX6_copy cX6_copy 2 none, Cond.fieldLink RX6 12 "CardBowl$State" "town" "LCardBowl$Town;", Cond.fieldLink RX6 21 "CardBowl$State" "code" "LCardBowl$Code;", Cond.fieldLink RX6 28 "CardBowl$State" "debts" "LCardBowl$Debts;", Cond.fieldLink RX6 35 "CardBowl$State" "deeds" "LCardBowl$Deeds;", Cond.fieldLink RX6 39 "CardBowl$State" "knows" "[I", Cond.methodLink RX6 63 arraycopyName, Cond.native arraycopyName, Cond.static arraycopyName, Cond.initialized "java/lang/System", Cond.fieldLink RX6 69 "CardBowl$State" "day" "I", Cond.fieldLink RX6 72 "CardBowl$State" "paid" "I", Cond.methodLink RX6 46 yX7_copy, Cond.instanceMethod yX7_copy]
def wsX9_back_r2 : List Cond := [Cond.selects RX7 yX7_copy yX7_copy, Cond.initialized RX7, Cond.code yX7_copy cX7_copy 2 none, Cond.fieldLink RX7 43 "CardBowl$Town" "houses" "I", Cond.fieldLink RX7 46 "CardBowl$Town" "fresh" "I", Cond.fieldLink RX7 11 "CardBowl$Town" "introducers" "I", Cond.fieldLink RX7 15 "CardBowl$Town" "x" "[I", Cond.methodLink RX7 55 arraycopyName, Cond.fieldLink RX7 19 "CardBowl$Town" "y" "[I", Cond.fieldLink RX7 22 "CardBowl$Town" "rank" "[I", Cond.fieldLink RX7 25 "CardBowl$Town" "weekday" "[I", Cond.fieldLink RX7 28 "CardBowl$Town" "from" "[I", Cond.fieldLink RX7 31 "CardBowl$Town" "to" "[I", Cond.fieldLink RX7 34 "CardBowl$Town" "came" "[I", Cond.fieldLink RX7 37 "CardBowl$Town" "bride" "[I", Cond.fieldLink RX7 40 "CardBowl$Town" "told" "[I", Cond.methodLink RX6 50 yX0_copy, Cond.instanceMethod yX0_copy, Cond.selects RX0 yX0_copy yX0_copy, Cond.initialized RX0, Cond.code yX0_copy cX0_copy 2 none, Cond.fieldLink RX0 33 "CardBowl$Code" "lines" "I", Cond.fieldLink RX0 37 "CardBowl$Code" "used" "I", Cond.fieldLink RX0 9 "CardBowl$Code" "paying" "[I"]
def wsX9_back_r3 : List Cond := [Cond.methodLink RX0 40 arraycopyName, Cond.fieldLink RX0 15 "CardBowl$Code" "kind" "[I", Cond.fieldLink RX0 18 "CardBowl$Code" "within" "[I", Cond.fieldLink RX0 21 "CardBowl$Code" "start" "[I", Cond.fieldLink RX0 24 "CardBowl$Code" "stop" "[I", Cond.fieldLink RX0 27 "CardBowl$Code" "tests" "[I", Cond.methodLink RX6 75 yX1_copy, Cond.instanceMethod yX1_copy, Cond.selects RX1 yX1_copy yX1_copy, Cond.initialized RX1, Cond.code yX1_copy cX1_copy 2 none, Cond.fieldLink RX1 33 "CardBowl$Debts" "size" "I", Cond.fieldLink RX1 9 "CardBowl$Debts" "debtor" "[I", Cond.methodLink RX1 43 arraycopyName, Cond.fieldLink RX1 15 "CardBowl$Debts" "creditor" "[I", Cond.fieldLink RX1 18 "CardBowl$Debts" "kind" "[I", Cond.fieldLink RX1 21 "CardBowl$Debts" "due" "[I", Cond.fieldLink RX1 24 "CardBowl$Debts" "came" "[I", Cond.fieldLink RX1 27 "CardBowl$Debts" "open" "[I", Cond.fieldLink RX1 30 "CardBowl$Debts" "kinds" "[I", Cond.methodLink RX6 78 yX2_copy, Cond.instanceMethod yX2_copy, Cond.selects RX2 yX2_copy yX2_copy, Cond.initialized RX2]
def wsX9_back_r4 : List Cond := [Cond.code yX2_copy cX2_copy 2 none, Cond.fieldLink RX2 24 "CardBowl$Deeds" "size" "I", Cond.fieldLink RX2 9 "CardBowl$Deeds" "who" "[I", Cond.methodLink RX2 28 arraycopyName, Cond.fieldLink RX2 15 "CardBowl$Deeds" "whom" "[I", Cond.fieldLink RX2 18 "CardBowl$Deeds" "what" "[I", Cond.fieldLink RX2 21 "CardBowl$Deeds" "day" "[I", Cond.methodLink RX9 90 yX9_forget, Cond.instanceMethod yX9_forget, Cond.selects RX9 yX9_forget yX9_forget, Cond.code yX9_forget cX9_forget 1 none, Cond.fieldLink RX9 40 "CardBowl" "rounds" "LCardBowl$Rounds;", Cond.fieldLink RX9 330 "CardBowl$Rounds" "planned" "Z", Cond.fieldLink RX9 47 "CardBowl" "ways" "LCardBowl$Ways;", Cond.fieldLink RX9 333 "CardBowl$Ways" "sought" "Z"]
def wsX9_back : List Cond := .code yX9_back cX9_back 3 (some .int) :: ((wsX9_back_r1 ++ (wsX9_back_r2 ++ (wsX9_back_r3 ++ wsX9_back_r4))) ++ wsX90 ++ wsX60 ++ wsX70 ++ wsX00 ++ wsX10 ++ wsX20 ++ wsX40 ++ wsX80)
def wsX9_row : List Cond := .code yX9_row cX9_row 4 (some .int) :: ([.fieldLink RX9 33 "CardBowl" "slots" "[LCardBowl$Slot;", .methodLink RX9 134 yX9_isSlot, .static yX9_isSlot, .initialized RX9, .code yX9_isSlot cX9_isSlot 1 (some .boolean), .methodLink RX9 306 yX5_lay, .instanceMethod yX5_lay, .selects RX5 yX5_lay yX5_lay, .initialized RX5, .code yX5_lay cX5_lay 3 none, .fieldLink RX5 15 "CardBowl$Slot" "filled" "Z", .fieldLink RX5 19 "CardBowl$Slot" "width" "I", .fieldLink RX5 23 "CardBowl$Slot" "size" "I", .fieldLink RX5 9 "CardBowl$Slot" "numbers" "[J", .methodLink RX5 26 yJ7_fill_d0a16, .static yJ7_fill_d0a16, .initialized RJ7, .code yJ7_fill_d0a16 cJ7_fill_d0a16 5 none] ++ wsX90 ++ wsX50)
def wsX9_write : List Cond := .code yX9_write cX9_write 6 (some .int) :: ([.fieldLink RX9 33 "CardBowl" "slots" "[LCardBowl$Slot;", .fieldLink RX9 138 "CardBowl$Slot" "filled" "Z", .fieldLink RX9 142 "CardBowl$Slot" "size" "I", .fieldLink RX9 310 "CardBowl$Slot" "numbers" "[J", .methodLink RX9 134 yX9_isSlot, .static yX9_isSlot, .initialized RX9, .code yX9_isSlot cX9_isSlot 1 (some .boolean), .methodLink RX9 314 yX5_cut, .instanceMethod yX5_cut, .selects RX5 yX5_cut yX5_cut, .initialized RX5, .code yX5_cut cX5_cut 3 (some .long), .fieldLink RX5 19 "CardBowl$Slot" "width" "I"] ++ wsX90 ++ wsX50)
def wsX9_paste : List Cond := .code yX9_paste cX9_paste 8 (some .int) :: ([.fieldLink RX9 33 "CardBowl" "slots" "[LCardBowl$Slot;", .fieldLink RX9 138 "CardBowl$Slot" "filled" "Z", .fieldLink RX9 318 "CardBowl$Slot" "width" "I", .fieldLink RX9 310 "CardBowl$Slot" "numbers" "[J", .methodLink RX9 324 arraycopyName, .native arraycopyName, .static arraycopyName, .initialized "java/lang/System", .methodLink RX9 134 yX9_isSlot, .static yX9_isSlot, .initialized RX9, .code yX9_isSlot cX9_isSlot 1 (some .boolean), .methodLink RX9 321 yX5_hasRun, .instanceMethod yX5_hasRun, .selects RX5 yX5_hasRun yX5_hasRun, .initialized RX5, .code yX5_hasRun cX5_hasRun 3 (some .boolean), .fieldLink RX5 23 "CardBowl$Slot" "size" "I"] ++ wsX90 ++ wsX50)
def wsX10_in : List Cond := .code yX10_in cX10_in 6 (some .boolean) :: ([])
def wsX10_init_r1 : List Cond := [Cond.methodLink RX10 7 objectInit, Cond.instanceMethod objectInit, Cond.code objectInit ⟨#[0xb1]⟩ 1 none, Cond.arrayClass .int, Cond.fieldLink RX10 13 "CardBowlModel" "world" "[I", Cond.fieldLink RX10 17 "CardBowlModel" "images" "[I", Cond.arrayClass .boolean, Cond.fieldLink RX10 20 "CardBowlModel" "hasImage" "[Z", Cond.arrayClass .byte, Cond.fieldLink RX10 24 "CardBowlModel" "tape" "[B", Cond.fieldLink RX10 28 "CardBowlModel" "five" "[I", Cond.fieldLink RX10 31 "CardBowlModel" "faultPlace" "I", Cond.fieldLink RX10 34 "CardBowlModel" "fresh" "[I", Cond.fieldLink RX10 37 "CardBowlModel" "parts" "[I", Cond.fieldLink RX10 40 "CardBowlModel" "houses" "[I", Cond.fieldLink RX10 43 "CardBowlModel" "worthOf" "[I", Cond.fieldLink RX10 46 "CardBowlModel" "byCall" "[Z", Cond.fieldLink RX10 49 "CardBowlModel" "over" "[I", Cond.fieldLink RX10 52 "CardBowlModel" "row" "[I", Cond.fieldLink RX10 55 "CardBowlModel" "tenDebts" "[I", Cond.fieldLink RX10 58 "CardBowlModel" "fewestBy" "[I", Cond.fieldLink RX10 61 "CardBowlModel" "covered" "[I", Cond.constant RX10 64 (65536), Cond.fieldLink RX10 65 "CardBowlModel" "queue" "[I"]
def wsX10_init_r2 : List Cond := [Cond.fieldLink RX10 68 "CardBowlModel" "cameBy" "[I", Cond.fieldLink RX10 71 "CardBowlModel" "parent" "[I", Cond.fieldLink RX10 74 "CardBowlModel" "met" "[Z", Cond.fieldLink RX10 77 "CardBowlModel" "calls" "[I", Cond.fieldLink RX10 80 "CardBowlModel" "calledOn" "[I", Cond.fieldLink RX10 83 "CardBowlModel" "saved" "[I", Cond.fieldLink RX10 86 "CardBowlModel" "many" "[I", Cond.fieldLink RX10 89 "CardBowlModel" "width" "[I", Cond.arrayClass .long, Cond.fieldLink RX10 92 "CardBowlModel" "numbers" "[J", Cond.fieldLink RX10 96 "CardBowlModel" "moving" "[J"]
def wsX10_init : List Cond := .code yX10_init cX10_init 1 none :: ((wsX10_init_r1 ++ wsX10_init_r2) ++ wsX100)
def wsX10_keep : List Cond := .code yX10_keep cX10_keep 3 (some .int) :: ([.constantLong RX10 99 (2), .fieldLink RX10 17 "CardBowlModel" "images" "[I", .fieldLink RX10 13 "CardBowlModel" "world" "[I", .fieldLink RX10 20 "CardBowlModel" "hasImage" "[Z", .methodLink RX10 101 yX10_in, .static yX10_in, .initialized RX10, .code yX10_in cX10_in 6 (some .boolean)] ++ wsX100)
def wsX10_back : List Cond := .code yX10_back cX10_back 3 (some .int) :: ([.constantLong RX10 99 (2), .fieldLink RX10 20 "CardBowlModel" "hasImage" "[Z", .fieldLink RX10 13 "CardBowlModel" "world" "[I", .fieldLink RX10 17 "CardBowlModel" "images" "[I", .methodLink RX10 101 yX10_in, .static yX10_in, .initialized RX10, .code yX10_in cX10_in 6 (some .boolean)] ++ wsX100)
def wsX10_ofHouse : List Cond := .code yX10_ofHouse cX10_ofHouse 3 (some .int) :: ([.fieldLink RX10 13 "CardBowlModel" "world" "[I"] ++ wsX100)
def wsX10_isHouse : List Cond := .code yX10_isHouse cX10_isHouse 2 (some .boolean) :: ([.fieldLink RX10 13 "CardBowlModel" "world" "[I", .methodLink RX10 101 yX10_in, .static yX10_in, .initialized RX10, .code yX10_in cX10_in 6 (some .boolean)] ++ wsX100)
def wsX10_areTwo : List Cond := .code yX10_areTwo cX10_areTwo 3 (some .boolean) :: ([.methodLink RX10 105 yX10_isHouse, .instanceMethod yX10_isHouse, .selects RX10 yX10_isHouse yX10_isHouse, .initialized RX10, .code yX10_isHouse cX10_isHouse 2 (some .boolean), .fieldLink RX10 13 "CardBowlModel" "world" "[I", .methodLink RX10 101 yX10_in, .static yX10_in, .code yX10_in cX10_in 6 (some .boolean)] ++ wsX100)
def wsX10_today : List Cond := .code yX10_today cX10_today 1 (some .int) :: ([.fieldLink RX10 13 "CardBowlModel" "world" "[I"] ++ wsX100)
def wsX10_feed : List Cond := .code yX10_feed cX10_feed 7 (some .int) :: ([.fieldLink RX10 109 "CardBowlModel" "taped" "I", .fieldLink RX10 28 "CardBowlModel" "five" "[I", .fieldLink RX10 24 "CardBowlModel" "tape" "[B"] ++ wsX100)
def wsX10_end : List Cond := .code yX10_end cX10_end 2 (some .int) :: ([.fieldLink RX10 109 "CardBowlModel" "taped" "I", .methodLink RX10 101 yX10_in, .static yX10_in, .initialized RX10, .code yX10_in cX10_in 6 (some .boolean)] ++ wsX100)
def wsX10_see : List Cond := .code yX10_see cX10_see 2 (some .int) :: ([.fieldLink RX10 112 "CardBowlModel" "size" "I", .fieldLink RX10 24 "CardBowlModel" "tape" "[B"] ++ wsX100)
def wsX10_advance : List Cond := .code yX10_advance cX10_advance 2 none :: ([.fieldLink RX10 115 "CardBowlModel" "at" "I", .fieldLink RX10 122 "CardBowlModel" "from" "I", .fieldLink RX10 125 "CardBowlModel" "token" "I", .constantLong RX10 128 (97), .constantLong RX10 130 (122), .constantLong RX10 132 (48), .constantLong RX10 134 (57), .fieldLink RX10 136 "CardBowlModel" "value" "I", .methodLink RX10 139 Lib.Math.min.name, .static Lib.Math.min.name, .initialized "java/lang/Math", .code Lib.Math.min.name Lib.Math.min.code 2 (some .int), .methodLink RX10 118 yX10_see, .instanceMethod yX10_see, .selects RX10 yX10_see yX10_see, .initialized RX10, .code yX10_see cX10_see 2 (some .int), .fieldLink RX10 112 "CardBowlModel" "size" "I", .fieldLink RX10 24 "CardBowlModel" "tape" "[B", .methodLink RX10 101 yX10_in, .static yX10_in, .code yX10_in cX10_in 6 (some .boolean)] ++ wsX100)
def wsX10_good : List Cond := .code yX10_good cX10_good 1 (some .boolean) :: ([.fieldLink RX10 145 "CardBowlModel" "faultKind" "I"] ++ wsX100)
def wsX10_fault : List Cond := .code yX10_fault cX10_fault 2 (some .int) :: ([.fieldLink RX10 145 "CardBowlModel" "faultKind" "I", .fieldLink RX10 31 "CardBowlModel" "faultPlace" "I"] ++ wsX100)
def wsX10_town_r1 : List Cond := [Cond.fieldLink RX10 109 "CardBowlModel" "taped" "I", Cond.fieldLink RX10 112 "CardBowlModel" "size" "I", Cond.fieldLink RX10 115 "CardBowlModel" "at" "I", Cond.fieldLink RX10 145 "CardBowlModel" "faultKind" "I", Cond.fieldLink RX10 31 "CardBowlModel" "faultPlace" "I", Cond.fieldLink RX10 34 "CardBowlModel" "fresh" "[I", Cond.fieldLink RX10 125 "CardBowlModel" "token" "I", Cond.fieldLink RX10 13 "CardBowlModel" "world" "[I", Cond.methodLink RX10 166 yX10_advance, Cond.instanceMethod yX10_advance, Cond.selects RX10 yX10_advance yX10_advance, Cond.initialized RX10, Cond.code yX10_advance cX10_advance 2 none, Cond.fieldLink RX10 122 "CardBowlModel" "from" "I", Cond.constantLong RX10 128 (97), Cond.constantLong RX10 130 (122), Cond.constantLong RX10 132 (48), Cond.constantLong RX10 134 (57), Cond.fieldLink RX10 136 "CardBowlModel" "value" "I", Cond.methodLink RX10 139 Lib.Math.min.name, Cond.static Lib.Math.min.name, Cond.initialized "java/lang/Math", Cond.code Lib.Math.min.name Lib.Math.min.code 2 (some .int), Cond.methodLink RX10 118 yX10_see]
def wsX10_town_r2 : List Cond := [Cond.instanceMethod yX10_see, Cond.selects RX10 yX10_see yX10_see, Cond.code yX10_see cX10_see 2 (some .int), Cond.fieldLink RX10 24 "CardBowlModel" "tape" "[B", Cond.methodLink RX10 101 yX10_in, Cond.static yX10_in, Cond.code yX10_in cX10_in 6 (some .boolean), Cond.methodLink RX10 148 yX10_good, Cond.instanceMethod yX10_good, Cond.selects RX10 yX10_good yX10_good, Cond.code yX10_good cX10_good 1 (some .boolean), Cond.methodLink RX10 283 yX10_readLine, Cond.instanceMethod yX10_readLine, Cond.selects RX10 yX10_readLine yX10_readLine, Cond.code yX10_readLine cX10_readLine 3 none, Cond.methodLink RX10 252 yX10_payingHere, Cond.instanceMethod yX10_payingHere, Cond.selects RX10 yX10_payingHere yX10_payingHere, Cond.code yX10_payingHere cX10_payingHere 1 (some .int), Cond.methodLink RX10 162 yX10_is, Cond.instanceMethod yX10_is, Cond.selects RX10 yX10_is yX10_is, Cond.code yX10_is cX10_is 4 (some .boolean), Cond.methodLink RX10 152 yJ0_length_8abf5]
def wsX10_town_r3 : List Cond := [Cond.instanceMethod yJ0_length_8abf5, Cond.selects RJ0 yJ0_length_8abf5 yJ0_length_8abf5, Cond.initialized RJ0, Cond.code yJ0_length_8abf5 cJ0_length_8abf5 1 (some .int), Cond.fieldLink RJ0 9 "java/lang/String" "value" "[B", Cond.methodLink RJ0 335 yJ0_coder_7d493, Cond.instanceMethod yJ0_coder_7d493, Cond.selects RJ0 yJ0_coder_7d493 yJ0_coder_7d493, Cond.code yJ0_coder_7d493 cJ0_coder_7d493 1 (some .byte), Cond.fieldLink RJ0 38 "java/lang/String" "COMPACT_STRINGS" "Z", Cond.fieldLink RJ0 15 "java/lang/String" "coder" "B", Cond.methodLink RX10 158 yJ0_charAt_5068e, Cond.instanceMethod yJ0_charAt_5068e, Cond.selects RJ0 yJ0_charAt_5068e yJ0_charAt_5068e, Cond.code yJ0_charAt_5068e cJ0_charAt_5068e 2 (some .char), Cond.methodLink RJ0 492 yJ0_isLatin1_aae02, Cond.instanceMethod yJ0_isLatin1_aae02, Cond.selects RJ0 yJ0_isLatin1_aae02 yJ0_isLatin1_aae02, Cond.code yJ0_isLatin1_aae02 cJ0_isLatin1_aae02 1 (some .boolean), Cond.methodLink RJ0 495 yJ1_charAt_3b067, Cond.static yJ1_charAt_3b067, Cond.initialized RJ1, Cond.code yJ1_charAt_3b067 cJ1_charAt_3b067 2 (some .char), Cond.methodLink RJ1 9 yJ0_checkIndex_df160]
def wsX10_town_r4 : List Cond := [Cond.static yJ0_checkIndex_df160, Cond.code yJ0_checkIndex_df160 cJ0_checkIndex_df160 2 none, Cond.fieldLink RJ0 1053 "jdk/internal/util/Preconditions" "SIOOBE_FORMATTER" "Ljava/util/function/BiFunction;", Cond.methodLink RJ0 1059 yJ3_checkIndex_8e157, Cond.static yJ3_checkIndex_8e157, Cond.initialized RJ3, Cond.code yJ3_checkIndex_8e157 cJ3_checkIndex_8e157 3 (some .int), Cond.methodLink RJ0 498 yJ2_charAt_3b067, Cond.static yJ2_charAt_3b067, Cond.initialized RJ2, Cond.code yJ2_charAt_3b067 cJ2_charAt_3b067 2 (some .char), Cond.methodLink RJ2 67 yJ2_checkIndex_2214a, Cond.static yJ2_checkIndex_2214a, Cond.code yJ2_checkIndex_2214a cJ2_checkIndex_2214a 2 none, Cond.methodLink RJ2 48 yJ2_length_9d52b, Cond.static yJ2_length_9d52b, Cond.code yJ2_length_9d52b cJ2_length_9d52b 1 (some .int), Cond.methodLink RJ2 414 yJ0_checkIndex_df160, Cond.methodLink RJ2 71 yJ2_getChar_3b067, Cond.static yJ2_getChar_3b067, Cond.code yJ2_getChar_3b067 cJ2_getChar_3b067 2 (some .char), Cond.fieldLink RJ2 44 "java/lang/StringUTF16" "$assertionsDisabled" "Z", Cond.fieldLink RJ2 59 "java/lang/StringUTF16" "HI_BYTE_SHIFT" "I", Cond.fieldLink RJ2 63 "java/lang/StringUTF16" "LO_BYTE_SHIFT" "I"]
def wsX10_town_r5 : List Cond := [Cond.methodLink RX10 172 yX10_errs, Cond.instanceMethod yX10_errs, Cond.selects RX10 yX10_errs yX10_errs, Cond.code yX10_errs cX10_errs 2 none, Cond.methodLink RX10 274 yX10_readOwes, Cond.instanceMethod yX10_readOwes, Cond.selects RX10 yX10_readOwes yX10_readOwes, Cond.code yX10_readOwes cX10_readOwes 2 none, Cond.methodLink RX10 217 yX10_taken, Cond.instanceMethod yX10_taken, Cond.selects RX10 yX10_taken yX10_taken, Cond.code yX10_taken cX10_taken 2 (some .int), Cond.methodLink RX10 176 yX10_needs, Cond.instanceMethod yX10_needs, Cond.selects RX10 yX10_needs yX10_needs, Cond.code yX10_needs cX10_needs 2 none, Cond.methodLink RX10 169 yX10_takes, Cond.instanceMethod yX10_takes, Cond.selects RX10 yX10_takes yX10_takes, Cond.code yX10_takes cX10_takes 3 (some .boolean), Cond.methodLink RX10 206 yX10_told, Cond.instanceMethod yX10_told, Cond.selects RX10 yX10_told yX10_told, Cond.code yX10_told cX10_told 4 (some .int)]
def wsX10_town_r6 : List Cond := [Cond.methodLink RX10 180 yX10_number, Cond.instanceMethod yX10_number, Cond.selects RX10 yX10_number yX10_number, Cond.code yX10_number cX10_number 4 (some .int), Cond.methodLink RX10 261 yX10_readTest, Cond.instanceMethod yX10_readTest, Cond.selects RX10 yX10_readTest yX10_readTest, Cond.code yX10_readTest cX10_readTest 4 none, Cond.methodLink RX10 243 yX10_readSum, Cond.instanceMethod yX10_readSum, Cond.selects RX10 yX10_readSum yX10_readSum, Cond.code yX10_readSum cX10_readSum 3 none, Cond.methodLink RX10 234 yX10_readPart, Cond.instanceMethod yX10_readPart, Cond.selects RX10 yX10_readPart yX10_readPart, Cond.code yX10_readPart cX10_readPart 5 none, Cond.methodLink RX10 277 yX10_readHouse, Cond.instanceMethod yX10_readHouse, Cond.selects RX10 yX10_readHouse yX10_readHouse, Cond.code yX10_readHouse cX10_readHouse 2 none, Cond.methodLink RX10 214 yX10_dayHere, Cond.instanceMethod yX10_dayHere, Cond.selects RX10 yX10_dayHere yX10_dayHere, Cond.code yX10_dayHere cX10_dayHere 1 (some .int)]
def wsX10_town_r7 : List Cond := [Cond.methodLink RX10 280 yX10_readKnow, Cond.instanceMethod yX10_readKnow, Cond.selects RX10 yX10_readKnow yX10_readKnow, Cond.code yX10_readKnow cX10_readKnow 3 none, Cond.methodLink RX10 286 yX10_ofHouse, Cond.instanceMethod yX10_ofHouse, Cond.selects RX10 yX10_ofHouse yX10_ofHouse, Cond.code yX10_ofHouse cX10_ofHouse 3 (some .int)]
def wsX10_town : List Cond := .code yX10_town cX10_town 2 (some .int) :: ((wsX10_town_r1 ++ (wsX10_town_r2 ++ (wsX10_town_r3 ++ (wsX10_town_r4 ++ (wsX10_town_r5 ++ (wsX10_town_r6 ++ wsX10_town_r7)))))) ++ wsX100)
def wsX10_days : List Cond := .code yX10_days cX10_days 2 (some .int) :: ([.constantLong RX10 289 (60), .fieldLink RX10 13 "CardBowlModel" "world" "[I", .methodLink RX10 101 yX10_in, .static yX10_in, .initialized RX10, .code yX10_in cX10_in 6 (some .boolean), .methodLink RX10 291 yX10_today, .instanceMethod yX10_today, .selects RX10 yX10_today yX10_today, .code yX10_today cX10_today 1 (some .int)] ++ wsX100)
def wsX10_bars_r1 : List Cond := [Cond.methodLink RX10 315 yX10_areTwo, Cond.instanceMethod yX10_areTwo, Cond.selects RX10 yX10_areTwo yX10_areTwo, Cond.initialized RX10, Cond.code yX10_areTwo cX10_areTwo 3 (some .boolean), Cond.methodLink RX10 105 yX10_isHouse, Cond.instanceMethod yX10_isHouse, Cond.selects RX10 yX10_isHouse yX10_isHouse, Cond.code yX10_isHouse cX10_isHouse 2 (some .boolean), Cond.fieldLink RX10 13 "CardBowlModel" "world" "[I", Cond.methodLink RX10 101 yX10_in, Cond.static yX10_in, Cond.code yX10_in cX10_in 6 (some .boolean), Cond.methodLink RX10 318 yX10_isPaying, Cond.static yX10_isPaying, Cond.code yX10_isPaying cX10_isPaying 1 (some .boolean), Cond.constantLong RX10 313 (3), Cond.methodLink RX10 321 yX10_barsOf, Cond.instanceMethod yX10_barsOf, Cond.selects RX10 yX10_barsOf yX10_barsOf, Cond.code yX10_barsOf cX10_barsOf 6 (some .int), Cond.methodLink RX10 291 yX10_today, Cond.instanceMethod yX10_today, Cond.selects RX10 yX10_today yX10_today]
def wsX10_bars_r2 : List Cond := [Cond.code yX10_today cX10_today 1 (some .int), Cond.methodLink RX10 301 yX10_isThere, Cond.instanceMethod yX10_isThere, Cond.selects RX10 yX10_isThere yX10_isThere, Cond.code yX10_isThere cX10_isThere 3 (some .boolean), Cond.methodLink RX10 286 yX10_ofHouse, Cond.instanceMethod yX10_ofHouse, Cond.selects RX10 yX10_ofHouse yX10_ofHouse, Cond.code yX10_ofHouse cX10_ofHouse 3 (some .int), Cond.methodLink RX10 304 yX10_areKnown, Cond.instanceMethod yX10_areKnown, Cond.selects RX10 yX10_areKnown yX10_areKnown, Cond.code yX10_areKnown cX10_areKnown 3 (some .boolean), Cond.methodLink RX10 294 yX10_holds, Cond.static yX10_holds, Cond.code yX10_holds cX10_holds 2 (some .boolean), Cond.methodLink RX10 307 yX10_isNew, Cond.instanceMethod yX10_isNew, Cond.selects RX10 yX10_isNew yX10_isNew, Cond.code yX10_isNew cX10_isNew 2 (some .boolean), Cond.methodLink RX10 310 yX10_isIntroduced, Cond.instanceMethod yX10_isIntroduced, Cond.selects RX10 yX10_isIntroduced yX10_isIntroduced, Cond.code yX10_isIntroduced cX10_isIntroduced 3 (some .boolean)]
def wsX10_bars_r3 : List Cond := [Cond.methodLink RX10 298 yX10_ones, Cond.static yX10_ones, Cond.code yX10_ones cX10_ones 3 (some .int)]
def wsX10_bars : List Cond := .code yX10_bars cX10_bars 4 (some .int) :: ((wsX10_bars_r1 ++ (wsX10_bars_r2 ++ wsX10_bars_r3)) ++ wsX100)
def wsX10_known : List Cond := .code yX10_known cX10_known 3 (some .int) :: ([.methodLink RX10 315 yX10_areTwo, .instanceMethod yX10_areTwo, .selects RX10 yX10_areTwo yX10_areTwo, .initialized RX10, .code yX10_areTwo cX10_areTwo 3 (some .boolean), .methodLink RX10 105 yX10_isHouse, .instanceMethod yX10_isHouse, .selects RX10 yX10_isHouse yX10_isHouse, .code yX10_isHouse cX10_isHouse 2 (some .boolean), .fieldLink RX10 13 "CardBowlModel" "world" "[I", .methodLink RX10 101 yX10_in, .static yX10_in, .code yX10_in cX10_in 6 (some .boolean), .methodLink RX10 304 yX10_areKnown, .instanceMethod yX10_areKnown, .selects RX10 yX10_areKnown yX10_areKnown, .code yX10_areKnown cX10_areKnown 3 (some .boolean), .methodLink RX10 294 yX10_holds, .static yX10_holds, .code yX10_holds cX10_holds 2 (some .boolean)] ++ wsX100)
def wsX10_does_r1 : List Cond := [Cond.fieldLink RX10 13 "CardBowlModel" "world" "[I", Cond.methodLink RX10 315 yX10_areTwo, Cond.instanceMethod yX10_areTwo, Cond.selects RX10 yX10_areTwo yX10_areTwo, Cond.initialized RX10, Cond.code yX10_areTwo cX10_areTwo 3 (some .boolean), Cond.methodLink RX10 105 yX10_isHouse, Cond.instanceMethod yX10_isHouse, Cond.selects RX10 yX10_isHouse yX10_isHouse, Cond.code yX10_isHouse cX10_isHouse 2 (some .boolean), Cond.methodLink RX10 101 yX10_in, Cond.static yX10_in, Cond.code yX10_in cX10_in 6 (some .boolean), Cond.methodLink RX10 318 yX10_isPaying, Cond.static yX10_isPaying, Cond.code yX10_isPaying cX10_isPaying 1 (some .boolean), Cond.constantLong RX10 313 (3), Cond.methodLink RX10 321 yX10_barsOf, Cond.instanceMethod yX10_barsOf, Cond.selects RX10 yX10_barsOf yX10_barsOf, Cond.code yX10_barsOf cX10_barsOf 6 (some .int), Cond.methodLink RX10 291 yX10_today, Cond.instanceMethod yX10_today, Cond.selects RX10 yX10_today yX10_today]
def wsX10_does_r2 : List Cond := [Cond.code yX10_today cX10_today 1 (some .int), Cond.methodLink RX10 301 yX10_isThere, Cond.instanceMethod yX10_isThere, Cond.selects RX10 yX10_isThere yX10_isThere, Cond.code yX10_isThere cX10_isThere 3 (some .boolean), Cond.methodLink RX10 286 yX10_ofHouse, Cond.instanceMethod yX10_ofHouse, Cond.selects RX10 yX10_ofHouse yX10_ofHouse, Cond.code yX10_ofHouse cX10_ofHouse 3 (some .int), Cond.methodLink RX10 304 yX10_areKnown, Cond.instanceMethod yX10_areKnown, Cond.selects RX10 yX10_areKnown yX10_areKnown, Cond.code yX10_areKnown cX10_areKnown 3 (some .boolean), Cond.methodLink RX10 294 yX10_holds, Cond.static yX10_holds, Cond.code yX10_holds cX10_holds 2 (some .boolean), Cond.methodLink RX10 307 yX10_isNew, Cond.instanceMethod yX10_isNew, Cond.selects RX10 yX10_isNew yX10_isNew, Cond.code yX10_isNew cX10_isNew 2 (some .boolean), Cond.methodLink RX10 310 yX10_isIntroduced, Cond.instanceMethod yX10_isIntroduced, Cond.selects RX10 yX10_isIntroduced yX10_isIntroduced, Cond.code yX10_isIntroduced cX10_isIntroduced 3 (some .boolean)]
def wsX10_does_r3 : List Cond := [Cond.methodLink RX10 298 yX10_ones, Cond.static yX10_ones, Cond.code yX10_ones cX10_ones 3 (some .int), Cond.methodLink RX10 368 yX10_notes, Cond.instanceMethod yX10_notes, Cond.selects RX10 yX10_notes yX10_notes, Cond.code yX10_notes cX10_notes 6 (some .int), Cond.methodLink RX10 364 yX10_goes, Cond.instanceMethod yX10_goes, Cond.selects RX10 yX10_goes yX10_goes, Cond.code yX10_goes cX10_goes 8 (some .int), Cond.methodLink RX10 139 Lib.Math.min.name, Cond.static Lib.Math.min.name, Cond.initialized "java/lang/Math", Cond.code Lib.Math.min.name Lib.Math.min.code 2 (some .int), Cond.methodLink RX10 345 yX10_meets, Cond.instanceMethod yX10_meets, Cond.selects RX10 yX10_meets yX10_meets, Cond.code yX10_meets cX10_meets 3 none, Cond.methodLink RX10 349 yX10_pays, Cond.instanceMethod yX10_pays, Cond.selects RX10 yX10_pays yX10_pays, Cond.code yX10_pays cX10_pays 6 (some .int), Cond.methodLink RX10 325 yX10_ofDebt]
def wsX10_does_r4 : List Cond := [Cond.instanceMethod yX10_ofDebt, Cond.selects RX10 yX10_ofDebt yX10_ofDebt, Cond.code yX10_ofDebt cX10_ofDebt 3 (some .int), Cond.methodLink RX10 328 yX10_drops, Cond.instanceMethod yX10_drops, Cond.selects RX10 yX10_drops yX10_drops, Cond.code yX10_drops cX10_drops 3 none, Cond.methodLink RX10 352 yX10_lineFor, Cond.instanceMethod yX10_lineFor, Cond.selects RX10 yX10_lineFor yX10_lineFor, Cond.code yX10_lineFor cX10_lineFor 10 (some .int), Cond.fieldLink RX10 37 "CardBowlModel" "parts" "[I", Cond.methodLink RX10 339 yX10_debtsOf, Cond.instanceMethod yX10_debtsOf, Cond.selects RX10 yX10_debtsOf yX10_debtsOf, Cond.code yX10_debtsOf cX10_debtsOf 4 (some .int), Cond.methodLink RX10 342 yX10_testHolds, Cond.instanceMethod yX10_testHolds, Cond.selects RX10 yX10_testHolds yX10_testHolds, Cond.code yX10_testHolds cX10_testHolds 11 (some .boolean), Cond.constantLong RX10 335 (-1000000000), Cond.constantLong RX10 337 (1000000000), Cond.methodLink RX10 331 yX10_partOf, Cond.instanceMethod yX10_partOf]
def wsX10_does_r5 : List Cond := [Cond.selects RX10 yX10_partOf yX10_partOf, Cond.code yX10_partOf cX10_partOf 3 (some .long), Cond.methodLink RX10 356 yX10_owesAlready, Cond.instanceMethod yX10_owesAlready, Cond.selects RX10 yX10_owesAlready yX10_owesAlready, Cond.code yX10_owesAlready cX10_owesAlready 5 (some .boolean), Cond.methodLink RX10 360 yX10_comes, Cond.instanceMethod yX10_comes, Cond.selects RX10 yX10_comes yX10_comes, Cond.code yX10_comes cX10_comes 7 none]
def wsX10_does : List Cond := .code yX10_does cX10_does 4 (some .int) :: ((wsX10_does_r1 ++ (wsX10_does_r2 ++ (wsX10_does_r3 ++ (wsX10_does_r4 ++ wsX10_does_r5)))) ++ wsX100)
def wsX10_meet_r1 : List Cond := [Cond.fieldLink RX10 13 "CardBowlModel" "world" "[I", Cond.methodLink RX10 315 yX10_areTwo, Cond.instanceMethod yX10_areTwo, Cond.selects RX10 yX10_areTwo yX10_areTwo, Cond.initialized RX10, Cond.code yX10_areTwo cX10_areTwo 3 (some .boolean), Cond.methodLink RX10 105 yX10_isHouse, Cond.instanceMethod yX10_isHouse, Cond.selects RX10 yX10_isHouse yX10_isHouse, Cond.code yX10_isHouse cX10_isHouse 2 (some .boolean), Cond.methodLink RX10 101 yX10_in, Cond.static yX10_in, Cond.code yX10_in cX10_in 6 (some .boolean), Cond.methodLink RX10 304 yX10_areKnown, Cond.instanceMethod yX10_areKnown, Cond.selects RX10 yX10_areKnown yX10_areKnown, Cond.code yX10_areKnown cX10_areKnown 3 (some .boolean), Cond.methodLink RX10 294 yX10_holds, Cond.static yX10_holds, Cond.code yX10_holds cX10_holds 2 (some .boolean), Cond.methodLink RX10 368 yX10_notes, Cond.instanceMethod yX10_notes, Cond.selects RX10 yX10_notes yX10_notes, Cond.code yX10_notes cX10_notes 6 (some .int)]
def wsX10_meet_r2 : List Cond := [Cond.methodLink RX10 291 yX10_today, Cond.instanceMethod yX10_today, Cond.selects RX10 yX10_today yX10_today, Cond.code yX10_today cX10_today 1 (some .int), Cond.methodLink RX10 364 yX10_goes, Cond.instanceMethod yX10_goes, Cond.selects RX10 yX10_goes yX10_goes, Cond.code yX10_goes cX10_goes 8 (some .int), Cond.methodLink RX10 139 Lib.Math.min.name, Cond.static Lib.Math.min.name, Cond.initialized "java/lang/Math", Cond.code Lib.Math.min.name Lib.Math.min.code 2 (some .int), Cond.methodLink RX10 345 yX10_meets, Cond.instanceMethod yX10_meets, Cond.selects RX10 yX10_meets yX10_meets, Cond.code yX10_meets cX10_meets 3 none, Cond.methodLink RX10 349 yX10_pays, Cond.instanceMethod yX10_pays, Cond.selects RX10 yX10_pays yX10_pays, Cond.code yX10_pays cX10_pays 6 (some .int), Cond.methodLink RX10 325 yX10_ofDebt, Cond.instanceMethod yX10_ofDebt, Cond.selects RX10 yX10_ofDebt yX10_ofDebt, Cond.code yX10_ofDebt cX10_ofDebt 3 (some .int)]
def wsX10_meet_r3 : List Cond := [Cond.methodLink RX10 328 yX10_drops, Cond.instanceMethod yX10_drops, Cond.selects RX10 yX10_drops yX10_drops, Cond.code yX10_drops cX10_drops 3 none, Cond.methodLink RX10 352 yX10_lineFor, Cond.instanceMethod yX10_lineFor, Cond.selects RX10 yX10_lineFor yX10_lineFor, Cond.code yX10_lineFor cX10_lineFor 10 (some .int), Cond.fieldLink RX10 37 "CardBowlModel" "parts" "[I", Cond.methodLink RX10 286 yX10_ofHouse, Cond.instanceMethod yX10_ofHouse, Cond.selects RX10 yX10_ofHouse yX10_ofHouse, Cond.code yX10_ofHouse cX10_ofHouse 3 (some .int), Cond.methodLink RX10 339 yX10_debtsOf, Cond.instanceMethod yX10_debtsOf, Cond.selects RX10 yX10_debtsOf yX10_debtsOf, Cond.code yX10_debtsOf cX10_debtsOf 4 (some .int), Cond.methodLink RX10 342 yX10_testHolds, Cond.instanceMethod yX10_testHolds, Cond.selects RX10 yX10_testHolds yX10_testHolds, Cond.code yX10_testHolds cX10_testHolds 11 (some .boolean), Cond.constantLong RX10 335 (-1000000000), Cond.constantLong RX10 337 (1000000000), Cond.methodLink RX10 331 yX10_partOf]
def wsX10_meet_r4 : List Cond := [Cond.instanceMethod yX10_partOf, Cond.selects RX10 yX10_partOf yX10_partOf, Cond.code yX10_partOf cX10_partOf 3 (some .long), Cond.methodLink RX10 356 yX10_owesAlready, Cond.instanceMethod yX10_owesAlready, Cond.selects RX10 yX10_owesAlready yX10_owesAlready, Cond.code yX10_owesAlready cX10_owesAlready 5 (some .boolean), Cond.methodLink RX10 360 yX10_comes, Cond.instanceMethod yX10_comes, Cond.selects RX10 yX10_comes yX10_comes, Cond.code yX10_comes cX10_comes 7 none]
def wsX10_meet : List Cond := .code yX10_meet cX10_meet 4 (some .int) :: ((wsX10_meet_r1 ++ (wsX10_meet_r2 ++ (wsX10_meet_r3 ++ wsX10_meet_r4))) ++ wsX100)
def wsX10_isSlot : List Cond := .code yX10_isSlot cX10_isSlot 1 (some .boolean) :: ([.constantLong RX10 313 (3), .methodLink RX10 101 yX10_in, .static yX10_in, .initialized RX10, .code yX10_in cX10_in 6 (some .boolean)])
def wsX10_done_r1 : List Cond := [Cond.fieldLink RX10 86 "CardBowlModel" "many" "[I", Cond.fieldLink RX10 92 "CardBowlModel" "numbers" "[J", Cond.constantLong RX10 374 (16), Cond.constantLong RX10 376 (4), Cond.methodLink RX10 371 yX10_isSlot, Cond.static yX10_isSlot, Cond.initialized RX10, Cond.code yX10_isSlot cX10_isSlot 1 (some .boolean), Cond.constantLong RX10 313 (3), Cond.methodLink RX10 101 yX10_in, Cond.static yX10_in, Cond.code yX10_in cX10_in 6 (some .boolean), Cond.methodLink RX10 378 yX10_meet, Cond.instanceMethod yX10_meet, Cond.selects RX10 yX10_meet yX10_meet, Cond.code yX10_meet cX10_meet 4 (some .int), Cond.fieldLink RX10 13 "CardBowlModel" "world" "[I", Cond.methodLink RX10 315 yX10_areTwo, Cond.instanceMethod yX10_areTwo, Cond.selects RX10 yX10_areTwo yX10_areTwo, Cond.code yX10_areTwo cX10_areTwo 3 (some .boolean), Cond.methodLink RX10 105 yX10_isHouse, Cond.instanceMethod yX10_isHouse, Cond.selects RX10 yX10_isHouse yX10_isHouse]
def wsX10_done_r2 : List Cond := [Cond.code yX10_isHouse cX10_isHouse 2 (some .boolean), Cond.methodLink RX10 304 yX10_areKnown, Cond.instanceMethod yX10_areKnown, Cond.selects RX10 yX10_areKnown yX10_areKnown, Cond.code yX10_areKnown cX10_areKnown 3 (some .boolean), Cond.methodLink RX10 294 yX10_holds, Cond.static yX10_holds, Cond.code yX10_holds cX10_holds 2 (some .boolean), Cond.methodLink RX10 368 yX10_notes, Cond.instanceMethod yX10_notes, Cond.selects RX10 yX10_notes yX10_notes, Cond.code yX10_notes cX10_notes 6 (some .int), Cond.methodLink RX10 291 yX10_today, Cond.instanceMethod yX10_today, Cond.selects RX10 yX10_today yX10_today, Cond.code yX10_today cX10_today 1 (some .int), Cond.methodLink RX10 364 yX10_goes, Cond.instanceMethod yX10_goes, Cond.selects RX10 yX10_goes yX10_goes, Cond.code yX10_goes cX10_goes 8 (some .int), Cond.methodLink RX10 139 Lib.Math.min.name, Cond.static Lib.Math.min.name, Cond.initialized "java/lang/Math", Cond.code Lib.Math.min.name Lib.Math.min.code 2 (some .int)]
def wsX10_done_r3 : List Cond := [Cond.methodLink RX10 345 yX10_meets, Cond.instanceMethod yX10_meets, Cond.selects RX10 yX10_meets yX10_meets, Cond.code yX10_meets cX10_meets 3 none, Cond.methodLink RX10 349 yX10_pays, Cond.instanceMethod yX10_pays, Cond.selects RX10 yX10_pays yX10_pays, Cond.code yX10_pays cX10_pays 6 (some .int), Cond.methodLink RX10 325 yX10_ofDebt, Cond.instanceMethod yX10_ofDebt, Cond.selects RX10 yX10_ofDebt yX10_ofDebt, Cond.code yX10_ofDebt cX10_ofDebt 3 (some .int), Cond.methodLink RX10 328 yX10_drops, Cond.instanceMethod yX10_drops, Cond.selects RX10 yX10_drops yX10_drops, Cond.code yX10_drops cX10_drops 3 none, Cond.methodLink RX10 352 yX10_lineFor, Cond.instanceMethod yX10_lineFor, Cond.selects RX10 yX10_lineFor yX10_lineFor, Cond.code yX10_lineFor cX10_lineFor 10 (some .int), Cond.fieldLink RX10 37 "CardBowlModel" "parts" "[I", Cond.methodLink RX10 286 yX10_ofHouse, Cond.instanceMethod yX10_ofHouse, Cond.selects RX10 yX10_ofHouse yX10_ofHouse]
def wsX10_done_r4 : List Cond := [Cond.code yX10_ofHouse cX10_ofHouse 3 (some .int), Cond.methodLink RX10 339 yX10_debtsOf, Cond.instanceMethod yX10_debtsOf, Cond.selects RX10 yX10_debtsOf yX10_debtsOf, Cond.code yX10_debtsOf cX10_debtsOf 4 (some .int), Cond.methodLink RX10 342 yX10_testHolds, Cond.instanceMethod yX10_testHolds, Cond.selects RX10 yX10_testHolds yX10_testHolds, Cond.code yX10_testHolds cX10_testHolds 11 (some .boolean), Cond.constantLong RX10 335 (-1000000000), Cond.constantLong RX10 337 (1000000000), Cond.methodLink RX10 331 yX10_partOf, Cond.instanceMethod yX10_partOf, Cond.selects RX10 yX10_partOf yX10_partOf, Cond.code yX10_partOf cX10_partOf 3 (some .long), Cond.methodLink RX10 356 yX10_owesAlready, Cond.instanceMethod yX10_owesAlready, Cond.selects RX10 yX10_owesAlready yX10_owesAlready, Cond.code yX10_owesAlready cX10_owesAlready 5 (some .boolean), Cond.methodLink RX10 360 yX10_comes, Cond.instanceMethod yX10_comes, Cond.selects RX10 yX10_comes yX10_comes, Cond.code yX10_comes cX10_comes 7 none, Cond.methodLink RX10 381 yX10_does]
def wsX10_done_r5 : List Cond := [Cond.instanceMethod yX10_does, Cond.selects RX10 yX10_does yX10_does, Cond.code yX10_does cX10_does 4 (some .int), Cond.methodLink RX10 318 yX10_isPaying, Cond.static yX10_isPaying, Cond.code yX10_isPaying cX10_isPaying 1 (some .boolean), Cond.methodLink RX10 321 yX10_barsOf, Cond.instanceMethod yX10_barsOf, Cond.selects RX10 yX10_barsOf yX10_barsOf, Cond.code yX10_barsOf cX10_barsOf 6 (some .int), Cond.methodLink RX10 301 yX10_isThere, Cond.instanceMethod yX10_isThere, Cond.selects RX10 yX10_isThere yX10_isThere, Cond.code yX10_isThere cX10_isThere 3 (some .boolean), Cond.methodLink RX10 307 yX10_isNew, Cond.instanceMethod yX10_isNew, Cond.selects RX10 yX10_isNew yX10_isNew, Cond.code yX10_isNew cX10_isNew 2 (some .boolean), Cond.methodLink RX10 310 yX10_isIntroduced, Cond.instanceMethod yX10_isIntroduced, Cond.selects RX10 yX10_isIntroduced yX10_isIntroduced, Cond.code yX10_isIntroduced cX10_isIntroduced 3 (some .boolean), Cond.methodLink RX10 298 yX10_ones, Cond.static yX10_ones]
def wsX10_done_r6 : List Cond := [Cond.code yX10_ones cX10_ones 3 (some .int)]
def wsX10_done : List Cond := .code yX10_done cX10_done 11 (some .int) :: ((wsX10_done_r1 ++ (wsX10_done_r2 ++ (wsX10_done_r3 ++ (wsX10_done_r4 ++ (wsX10_done_r5 ++ wsX10_done_r6))))) ++ wsX100)
def wsX10_debts : List Cond := .code yX10_debts cX10_debts 2 (some .int) :: ([.methodLink RX10 105 yX10_isHouse, .instanceMethod yX10_isHouse, .selects RX10 yX10_isHouse yX10_isHouse, .initialized RX10, .code yX10_isHouse cX10_isHouse 2 (some .boolean), .fieldLink RX10 13 "CardBowlModel" "world" "[I", .methodLink RX10 101 yX10_in, .static yX10_in, .code yX10_in cX10_in 6 (some .boolean), .methodLink RX10 339 yX10_debtsOf, .instanceMethod yX10_debtsOf, .selects RX10 yX10_debtsOf yX10_debtsOf, .code yX10_debtsOf cX10_debtsOf 4 (some .int), .methodLink RX10 325 yX10_ofDebt, .instanceMethod yX10_ofDebt, .selects RX10 yX10_ofDebt yX10_ofDebt, .code yX10_ofDebt cX10_ofDebt 3 (some .int)] ++ wsX100)
def wsX10_debt : List Cond := .code yX10_debt cX10_debt 5 (some .int) :: ([.constantLong RX10 313 (3), .methodLink RX10 105 yX10_isHouse, .instanceMethod yX10_isHouse, .selects RX10 yX10_isHouse yX10_isHouse, .initialized RX10, .code yX10_isHouse cX10_isHouse 2 (some .boolean), .fieldLink RX10 13 "CardBowlModel" "world" "[I", .methodLink RX10 101 yX10_in, .static yX10_in, .code yX10_in cX10_in 6 (some .boolean), .methodLink RX10 384 yX10_placeOf, .instanceMethod yX10_placeOf, .selects RX10 yX10_placeOf yX10_placeOf, .code yX10_placeOf cX10_placeOf 5 (some .int), .methodLink RX10 325 yX10_ofDebt, .instanceMethod yX10_ofDebt, .selects RX10 yX10_ofDebt yX10_ofDebt, .code yX10_ofDebt cX10_ofDebt 3 (some .int)] ++ wsX100)
def wsX10_slights : List Cond := .code yX10_slights cX10_slights 2 (some .int) :: ([.methodLink RX10 105 yX10_isHouse, .instanceMethod yX10_isHouse, .selects RX10 yX10_isHouse yX10_isHouse, .initialized RX10, .code yX10_isHouse cX10_isHouse 2 (some .boolean), .fieldLink RX10 13 "CardBowlModel" "world" "[I", .methodLink RX10 101 yX10_in, .static yX10_in, .code yX10_in cX10_in 6 (some .boolean), .methodLink RX10 387 yX10_slightsOf, .instanceMethod yX10_slightsOf, .selects RX10 yX10_slightsOf yX10_slightsOf, .code yX10_slightsOf cX10_slightsOf 4 (some .int), .methodLink RX10 325 yX10_ofDebt, .instanceMethod yX10_ofDebt, .selects RX10 yX10_ofDebt yX10_ofDebt, .code yX10_ofDebt cX10_ofDebt 3 (some .int), .methodLink RX10 291 yX10_today, .instanceMethod yX10_today, .selects RX10 yX10_today yX10_today, .code yX10_today cX10_today 1 (some .int)] ++ wsX100)
def wsX10_first : List Cond := .code yX10_first cX10_first 5 (some .int) :: ([.fieldLink RX10 13 "CardBowlModel" "world" "[I", .methodLink RX10 387 yX10_slightsOf, .instanceMethod yX10_slightsOf, .selects RX10 yX10_slightsOf yX10_slightsOf, .initialized RX10, .code yX10_slightsOf cX10_slightsOf 4 (some .int), .methodLink RX10 325 yX10_ofDebt, .instanceMethod yX10_ofDebt, .selects RX10 yX10_ofDebt yX10_ofDebt, .code yX10_ofDebt cX10_ofDebt 3 (some .int), .methodLink RX10 291 yX10_today, .instanceMethod yX10_today, .selects RX10 yX10_today yX10_today, .code yX10_today cX10_today 1 (some .int), .methodLink RX10 286 yX10_ofHouse, .instanceMethod yX10_ofHouse, .selects RX10 yX10_ofHouse yX10_ofHouse, .code yX10_ofHouse cX10_ofHouse 3 (some .int)] ++ wsX100)
def wsX10_owes_r1 : List Cond := [Cond.fieldLink RX10 13 "CardBowlModel" "world" "[I", Cond.methodLink RX10 315 yX10_areTwo, Cond.instanceMethod yX10_areTwo, Cond.selects RX10 yX10_areTwo yX10_areTwo, Cond.initialized RX10, Cond.code yX10_areTwo cX10_areTwo 3 (some .boolean), Cond.methodLink RX10 105 yX10_isHouse, Cond.instanceMethod yX10_isHouse, Cond.selects RX10 yX10_isHouse yX10_isHouse, Cond.code yX10_isHouse cX10_isHouse 2 (some .boolean), Cond.methodLink RX10 101 yX10_in, Cond.static yX10_in, Cond.code yX10_in cX10_in 6 (some .boolean), Cond.methodLink RX10 318 yX10_isPaying, Cond.static yX10_isPaying, Cond.code yX10_isPaying cX10_isPaying 1 (some .boolean), Cond.constantLong RX10 313 (3), Cond.methodLink RX10 304 yX10_areKnown, Cond.instanceMethod yX10_areKnown, Cond.selects RX10 yX10_areKnown yX10_areKnown, Cond.code yX10_areKnown cX10_areKnown 3 (some .boolean), Cond.methodLink RX10 294 yX10_holds, Cond.static yX10_holds, Cond.code yX10_holds cX10_holds 2 (some .boolean)]
def wsX10_owes_r2 : List Cond := [Cond.methodLink RX10 291 yX10_today, Cond.instanceMethod yX10_today, Cond.selects RX10 yX10_today yX10_today, Cond.code yX10_today cX10_today 1 (some .int), Cond.methodLink RX10 352 yX10_lineFor, Cond.instanceMethod yX10_lineFor, Cond.selects RX10 yX10_lineFor yX10_lineFor, Cond.code yX10_lineFor cX10_lineFor 10 (some .int), Cond.fieldLink RX10 37 "CardBowlModel" "parts" "[I", Cond.methodLink RX10 286 yX10_ofHouse, Cond.instanceMethod yX10_ofHouse, Cond.selects RX10 yX10_ofHouse yX10_ofHouse, Cond.code yX10_ofHouse cX10_ofHouse 3 (some .int), Cond.methodLink RX10 339 yX10_debtsOf, Cond.instanceMethod yX10_debtsOf, Cond.selects RX10 yX10_debtsOf yX10_debtsOf, Cond.code yX10_debtsOf cX10_debtsOf 4 (some .int), Cond.methodLink RX10 325 yX10_ofDebt, Cond.instanceMethod yX10_ofDebt, Cond.selects RX10 yX10_ofDebt yX10_ofDebt, Cond.code yX10_ofDebt cX10_ofDebt 3 (some .int), Cond.methodLink RX10 342 yX10_testHolds, Cond.instanceMethod yX10_testHolds, Cond.selects RX10 yX10_testHolds yX10_testHolds]
def wsX10_owes_r3 : List Cond := [Cond.code yX10_testHolds cX10_testHolds 11 (some .boolean), Cond.constantLong RX10 335 (-1000000000), Cond.constantLong RX10 337 (1000000000), Cond.methodLink RX10 331 yX10_partOf, Cond.instanceMethod yX10_partOf, Cond.selects RX10 yX10_partOf yX10_partOf, Cond.code yX10_partOf cX10_partOf 3 (some .long), Cond.methodLink RX10 356 yX10_owesAlready, Cond.instanceMethod yX10_owesAlready, Cond.selects RX10 yX10_owesAlready yX10_owesAlready, Cond.code yX10_owesAlready cX10_owesAlready 5 (some .boolean)]
def wsX10_owes : List Cond := .code yX10_owes cX10_owes 6 (some .int) :: ((wsX10_owes_r1 ++ (wsX10_owes_r2 ++ wsX10_owes_r3)) ++ wsX100)
def wsX10_isRound : List Cond := .code yX10_isRound cX10_isRound 3 (some .boolean) :: ([.constantLong RX10 427 (399), .methodLink RX10 105 yX10_isHouse, .instanceMethod yX10_isHouse, .selects RX10 yX10_isHouse yX10_isHouse, .initialized RX10, .code yX10_isHouse cX10_isHouse 2 (some .boolean), .fieldLink RX10 13 "CardBowlModel" "world" "[I", .methodLink RX10 101 yX10_in, .static yX10_in, .code yX10_in cX10_in 6 (some .boolean), .methodLink RX10 291 yX10_today, .instanceMethod yX10_today, .selects RX10 yX10_today yX10_today, .code yX10_today cX10_today 1 (some .int)] ++ wsX100)
def wsX10_worth_r1 : List Cond := [Cond.fieldLink RX10 421 "CardBowlModel" "bestWorth" "I", Cond.methodLink RX10 429 yX10_isRound, Cond.instanceMethod yX10_isRound, Cond.selects RX10 yX10_isRound yX10_isRound, Cond.initialized RX10, Cond.code yX10_isRound cX10_isRound 3 (some .boolean), Cond.constantLong RX10 427 (399), Cond.methodLink RX10 105 yX10_isHouse, Cond.instanceMethod yX10_isHouse, Cond.selects RX10 yX10_isHouse yX10_isHouse, Cond.code yX10_isHouse cX10_isHouse 2 (some .boolean), Cond.fieldLink RX10 13 "CardBowlModel" "world" "[I", Cond.methodLink RX10 101 yX10_in, Cond.static yX10_in, Cond.code yX10_in cX10_in 6 (some .boolean), Cond.methodLink RX10 291 yX10_today, Cond.instanceMethod yX10_today, Cond.selects RX10 yX10_today yX10_today, Cond.code yX10_today cX10_today 1 (some .int), Cond.methodLink RX10 432 yX10_rounds, Cond.instanceMethod yX10_rounds, Cond.selects RX10 yX10_rounds yX10_rounds, Cond.code yX10_rounds cX10_rounds 7 none, Cond.fieldLink RX10 393 "CardBowlModel" "houseMany" "I"]
def wsX10_worth_r2 : List Cond := [Cond.fieldLink RX10 415 "CardBowlModel" "bestSet" "I", Cond.fieldLink RX10 418 "CardBowlModel" "bestOver" "I", Cond.fieldLink RX10 43 "CardBowlModel" "worthOf" "[I", Cond.fieldLink RX10 40 "CardBowlModel" "houses" "[I", Cond.methodLink RX10 408 yX10_lists, Cond.instanceMethod yX10_lists, Cond.selects RX10 yX10_lists yX10_lists, Cond.code yX10_lists cX10_lists 3 none, Cond.methodLink RX10 390 yX10_weighs, Cond.instanceMethod yX10_weighs, Cond.selects RX10 yX10_weighs yX10_weighs, Cond.code yX10_weighs cX10_weighs 4 none, Cond.fieldLink RX10 46 "CardBowlModel" "byCall" "[Z", Cond.methodLink RX10 325 yX10_ofDebt, Cond.instanceMethod yX10_ofDebt, Cond.selects RX10 yX10_ofDebt yX10_ofDebt, Cond.code yX10_ofDebt cX10_ofDebt 3 (some .int), Cond.methodLink RX10 411 yX10_goesThrough, Cond.instanceMethod yX10_goesThrough, Cond.selects RX10 yX10_goesThrough yX10_goesThrough, Cond.code yX10_goesThrough cX10_goesThrough 11 none, Cond.fieldLink RX10 49 "CardBowlModel" "over" "[I", Cond.methodLink RX10 294 yX10_holds, Cond.static yX10_holds]
def wsX10_worth_r3 : List Cond := [Cond.code yX10_holds cX10_holds 2 (some .boolean), Cond.methodLink RX10 405 yX10_seen, Cond.instanceMethod yX10_seen, Cond.selects RX10 yX10_seen yX10_seen, Cond.code yX10_seen cX10_seen 6 (some .int), Cond.methodLink RX10 402 Lib.Math.max.name, Cond.static Lib.Math.max.name, Cond.initialized "java/lang/Math", Cond.code Lib.Math.max.name Lib.Math.max.code 2 (some .int), Cond.methodLink RX10 399 yX10_minutes, Cond.instanceMethod yX10_minutes, Cond.selects RX10 yX10_minutes yX10_minutes, Cond.code yX10_minutes cX10_minutes 3 (some .int), Cond.methodLink RX10 396 Lib.Math.abs.name, Cond.static Lib.Math.abs.name, Cond.code Lib.Math.abs.name Lib.Math.abs.code 1 (some .int), Cond.methodLink RX10 286 yX10_ofHouse, Cond.instanceMethod yX10_ofHouse, Cond.selects RX10 yX10_ofHouse yX10_ofHouse, Cond.code yX10_ofHouse cX10_ofHouse 3 (some .int), Cond.methodLink RX10 424 yX10_overOf, Cond.instanceMethod yX10_overOf, Cond.selects RX10 yX10_overOf yX10_overOf, Cond.code yX10_overOf cX10_overOf 5 (some .int)]
def wsX10_worth : List Cond := .code yX10_worth cX10_worth 3 (some .int) :: ((wsX10_worth_r1 ++ (wsX10_worth_r2 ++ wsX10_worth_r3)) ++ wsX100)
def wsX10_over_r1 : List Cond := [Cond.fieldLink RX10 418 "CardBowlModel" "bestOver" "I", Cond.methodLink RX10 429 yX10_isRound, Cond.instanceMethod yX10_isRound, Cond.selects RX10 yX10_isRound yX10_isRound, Cond.initialized RX10, Cond.code yX10_isRound cX10_isRound 3 (some .boolean), Cond.constantLong RX10 427 (399), Cond.methodLink RX10 105 yX10_isHouse, Cond.instanceMethod yX10_isHouse, Cond.selects RX10 yX10_isHouse yX10_isHouse, Cond.code yX10_isHouse cX10_isHouse 2 (some .boolean), Cond.fieldLink RX10 13 "CardBowlModel" "world" "[I", Cond.methodLink RX10 101 yX10_in, Cond.static yX10_in, Cond.code yX10_in cX10_in 6 (some .boolean), Cond.methodLink RX10 291 yX10_today, Cond.instanceMethod yX10_today, Cond.selects RX10 yX10_today yX10_today, Cond.code yX10_today cX10_today 1 (some .int), Cond.methodLink RX10 432 yX10_rounds, Cond.instanceMethod yX10_rounds, Cond.selects RX10 yX10_rounds yX10_rounds, Cond.code yX10_rounds cX10_rounds 7 none, Cond.fieldLink RX10 393 "CardBowlModel" "houseMany" "I"]
def wsX10_over_r2 : List Cond := [Cond.fieldLink RX10 415 "CardBowlModel" "bestSet" "I", Cond.fieldLink RX10 421 "CardBowlModel" "bestWorth" "I", Cond.fieldLink RX10 43 "CardBowlModel" "worthOf" "[I", Cond.fieldLink RX10 40 "CardBowlModel" "houses" "[I", Cond.methodLink RX10 408 yX10_lists, Cond.instanceMethod yX10_lists, Cond.selects RX10 yX10_lists yX10_lists, Cond.code yX10_lists cX10_lists 3 none, Cond.methodLink RX10 390 yX10_weighs, Cond.instanceMethod yX10_weighs, Cond.selects RX10 yX10_weighs yX10_weighs, Cond.code yX10_weighs cX10_weighs 4 none, Cond.fieldLink RX10 46 "CardBowlModel" "byCall" "[Z", Cond.methodLink RX10 325 yX10_ofDebt, Cond.instanceMethod yX10_ofDebt, Cond.selects RX10 yX10_ofDebt yX10_ofDebt, Cond.code yX10_ofDebt cX10_ofDebt 3 (some .int), Cond.methodLink RX10 411 yX10_goesThrough, Cond.instanceMethod yX10_goesThrough, Cond.selects RX10 yX10_goesThrough yX10_goesThrough, Cond.code yX10_goesThrough cX10_goesThrough 11 none, Cond.fieldLink RX10 49 "CardBowlModel" "over" "[I", Cond.methodLink RX10 294 yX10_holds, Cond.static yX10_holds]
def wsX10_over_r3 : List Cond := [Cond.code yX10_holds cX10_holds 2 (some .boolean), Cond.methodLink RX10 405 yX10_seen, Cond.instanceMethod yX10_seen, Cond.selects RX10 yX10_seen yX10_seen, Cond.code yX10_seen cX10_seen 6 (some .int), Cond.methodLink RX10 402 Lib.Math.max.name, Cond.static Lib.Math.max.name, Cond.initialized "java/lang/Math", Cond.code Lib.Math.max.name Lib.Math.max.code 2 (some .int), Cond.methodLink RX10 399 yX10_minutes, Cond.instanceMethod yX10_minutes, Cond.selects RX10 yX10_minutes yX10_minutes, Cond.code yX10_minutes cX10_minutes 3 (some .int), Cond.methodLink RX10 396 Lib.Math.abs.name, Cond.static Lib.Math.abs.name, Cond.code Lib.Math.abs.name Lib.Math.abs.code 1 (some .int), Cond.methodLink RX10 286 yX10_ofHouse, Cond.instanceMethod yX10_ofHouse, Cond.selects RX10 yX10_ofHouse yX10_ofHouse, Cond.code yX10_ofHouse cX10_ofHouse 3 (some .int), Cond.methodLink RX10 424 yX10_overOf, Cond.instanceMethod yX10_overOf, Cond.selects RX10 yX10_overOf yX10_overOf, Cond.code yX10_overOf cX10_overOf 5 (some .int)]
def wsX10_over : List Cond := .code yX10_over cX10_over 3 (some .int) :: ((wsX10_over_r1 ++ (wsX10_over_r2 ++ wsX10_over_r3)) ++ wsX100)
def wsX10_round_r1 : List Cond := [Cond.fieldLink RX10 415 "CardBowlModel" "bestSet" "I", Cond.fieldLink RX10 52 "CardBowlModel" "row" "[I", Cond.methodLink RX10 429 yX10_isRound, Cond.instanceMethod yX10_isRound, Cond.selects RX10 yX10_isRound yX10_isRound, Cond.initialized RX10, Cond.code yX10_isRound cX10_isRound 3 (some .boolean), Cond.constantLong RX10 427 (399), Cond.methodLink RX10 105 yX10_isHouse, Cond.instanceMethod yX10_isHouse, Cond.selects RX10 yX10_isHouse yX10_isHouse, Cond.code yX10_isHouse cX10_isHouse 2 (some .boolean), Cond.fieldLink RX10 13 "CardBowlModel" "world" "[I", Cond.methodLink RX10 101 yX10_in, Cond.static yX10_in, Cond.code yX10_in cX10_in 6 (some .boolean), Cond.methodLink RX10 291 yX10_today, Cond.instanceMethod yX10_today, Cond.selects RX10 yX10_today yX10_today, Cond.code yX10_today cX10_today 1 (some .int), Cond.methodLink RX10 432 yX10_rounds, Cond.instanceMethod yX10_rounds, Cond.selects RX10 yX10_rounds yX10_rounds, Cond.code yX10_rounds cX10_rounds 7 none]
def wsX10_round_r2 : List Cond := [Cond.fieldLink RX10 393 "CardBowlModel" "houseMany" "I", Cond.fieldLink RX10 418 "CardBowlModel" "bestOver" "I", Cond.fieldLink RX10 421 "CardBowlModel" "bestWorth" "I", Cond.fieldLink RX10 43 "CardBowlModel" "worthOf" "[I", Cond.fieldLink RX10 40 "CardBowlModel" "houses" "[I", Cond.methodLink RX10 408 yX10_lists, Cond.instanceMethod yX10_lists, Cond.selects RX10 yX10_lists yX10_lists, Cond.code yX10_lists cX10_lists 3 none, Cond.methodLink RX10 390 yX10_weighs, Cond.instanceMethod yX10_weighs, Cond.selects RX10 yX10_weighs yX10_weighs, Cond.code yX10_weighs cX10_weighs 4 none, Cond.fieldLink RX10 46 "CardBowlModel" "byCall" "[Z", Cond.methodLink RX10 325 yX10_ofDebt, Cond.instanceMethod yX10_ofDebt, Cond.selects RX10 yX10_ofDebt yX10_ofDebt, Cond.code yX10_ofDebt cX10_ofDebt 3 (some .int), Cond.methodLink RX10 411 yX10_goesThrough, Cond.instanceMethod yX10_goesThrough, Cond.selects RX10 yX10_goesThrough yX10_goesThrough, Cond.code yX10_goesThrough cX10_goesThrough 11 none, Cond.fieldLink RX10 49 "CardBowlModel" "over" "[I", Cond.methodLink RX10 294 yX10_holds]
def wsX10_round_r3 : List Cond := [Cond.static yX10_holds, Cond.code yX10_holds cX10_holds 2 (some .boolean), Cond.methodLink RX10 405 yX10_seen, Cond.instanceMethod yX10_seen, Cond.selects RX10 yX10_seen yX10_seen, Cond.code yX10_seen cX10_seen 6 (some .int), Cond.methodLink RX10 402 Lib.Math.max.name, Cond.static Lib.Math.max.name, Cond.initialized "java/lang/Math", Cond.code Lib.Math.max.name Lib.Math.max.code 2 (some .int), Cond.methodLink RX10 399 yX10_minutes, Cond.instanceMethod yX10_minutes, Cond.selects RX10 yX10_minutes yX10_minutes, Cond.code yX10_minutes cX10_minutes 3 (some .int), Cond.methodLink RX10 396 Lib.Math.abs.name, Cond.static Lib.Math.abs.name, Cond.code Lib.Math.abs.name Lib.Math.abs.code 1 (some .int), Cond.methodLink RX10 286 yX10_ofHouse, Cond.instanceMethod yX10_ofHouse, Cond.selects RX10 yX10_ofHouse yX10_ofHouse, Cond.code yX10_ofHouse cX10_ofHouse 3 (some .int), Cond.methodLink RX10 424 yX10_overOf, Cond.instanceMethod yX10_overOf, Cond.selects RX10 yX10_overOf yX10_overOf]
def wsX10_round_r4 : List Cond := [Cond.code yX10_overOf cX10_overOf 5 (some .int), Cond.methodLink RX10 298 yX10_ones, Cond.static yX10_ones, Cond.code yX10_ones cX10_ones 3 (some .int), Cond.methodLink RX10 435 yX10_rowOf, Cond.instanceMethod yX10_rowOf, Cond.selects RX10 yX10_rowOf yX10_rowOf, Cond.code yX10_rowOf cX10_rowOf 12 none]
def wsX10_round : List Cond := .code yX10_round cX10_round 5 (some .int) :: ((wsX10_round_r1 ++ (wsX10_round_r2 ++ (wsX10_round_r3 ++ wsX10_round_r4))) ++ wsX100)
def wsX10_may_r1 : List Cond := [Cond.fieldLink RX10 86 "CardBowlModel" "many" "[I", Cond.fieldLink RX10 92 "CardBowlModel" "numbers" "[J", Cond.fieldLink RX10 13 "CardBowlModel" "world" "[I", Cond.fieldLink RX10 43 "CardBowlModel" "worthOf" "[I", Cond.methodLink RX10 371 yX10_isSlot, Cond.static yX10_isSlot, Cond.initialized RX10, Cond.code yX10_isSlot cX10_isSlot 1 (some .boolean), Cond.constantLong RX10 313 (3), Cond.methodLink RX10 101 yX10_in, Cond.static yX10_in, Cond.code yX10_in cX10_in 6 (some .boolean), Cond.methodLink RX10 429 yX10_isRound, Cond.instanceMethod yX10_isRound, Cond.selects RX10 yX10_isRound yX10_isRound, Cond.code yX10_isRound cX10_isRound 3 (some .boolean), Cond.constantLong RX10 427 (399), Cond.methodLink RX10 105 yX10_isHouse, Cond.instanceMethod yX10_isHouse, Cond.selects RX10 yX10_isHouse yX10_isHouse, Cond.code yX10_isHouse cX10_isHouse 2 (some .boolean), Cond.methodLink RX10 291 yX10_today, Cond.instanceMethod yX10_today, Cond.selects RX10 yX10_today yX10_today]
def wsX10_may_r2 : List Cond := [Cond.code yX10_today cX10_today 1 (some .int), Cond.methodLink RX10 390 yX10_weighs, Cond.instanceMethod yX10_weighs, Cond.selects RX10 yX10_weighs yX10_weighs, Cond.code yX10_weighs cX10_weighs 4 none, Cond.fieldLink RX10 46 "CardBowlModel" "byCall" "[Z", Cond.methodLink RX10 325 yX10_ofDebt, Cond.instanceMethod yX10_ofDebt, Cond.selects RX10 yX10_ofDebt yX10_ofDebt, Cond.code yX10_ofDebt cX10_ofDebt 3 (some .int), Cond.methodLink RX10 294 yX10_holds, Cond.static yX10_holds, Cond.code yX10_holds cX10_holds 2 (some .boolean), Cond.methodLink RX10 405 yX10_seen, Cond.instanceMethod yX10_seen, Cond.selects RX10 yX10_seen yX10_seen, Cond.code yX10_seen cX10_seen 6 (some .int), Cond.methodLink RX10 402 Lib.Math.max.name, Cond.static Lib.Math.max.name, Cond.initialized "java/lang/Math", Cond.code Lib.Math.max.name Lib.Math.max.code 2 (some .int), Cond.methodLink RX10 399 yX10_minutes, Cond.instanceMethod yX10_minutes, Cond.selects RX10 yX10_minutes yX10_minutes]
def wsX10_may_r3 : List Cond := [Cond.code yX10_minutes cX10_minutes 3 (some .int), Cond.methodLink RX10 396 Lib.Math.abs.name, Cond.static Lib.Math.abs.name, Cond.code Lib.Math.abs.name Lib.Math.abs.code 1 (some .int), Cond.methodLink RX10 286 yX10_ofHouse, Cond.instanceMethod yX10_ofHouse, Cond.selects RX10 yX10_ofHouse yX10_ofHouse, Cond.code yX10_ofHouse cX10_ofHouse 3 (some .int)]
def wsX10_may : List Cond := .code yX10_may cX10_may 11 (some .int) :: ((wsX10_may_r1 ++ (wsX10_may_r2 ++ wsX10_may_r3)) ++ wsX100)
def wsX10_fewest_r1 : List Cond := [Cond.fieldLink RX10 438 "CardBowlModel" "tenMany" "I", Cond.fieldLink RX10 58 "CardBowlModel" "fewestBy" "[I", Cond.methodLink RX10 139 Lib.Math.min.name, Cond.static Lib.Math.min.name, Cond.initialized "java/lang/Math", Cond.code Lib.Math.min.name Lib.Math.min.code 2 (some .int), Cond.fieldLink RX10 393 "CardBowlModel" "houseMany" "I", Cond.fieldLink RX10 61 "CardBowlModel" "covered" "[I", Cond.methodLink RX10 105 yX10_isHouse, Cond.instanceMethod yX10_isHouse, Cond.selects RX10 yX10_isHouse yX10_isHouse, Cond.initialized RX10, Cond.code yX10_isHouse cX10_isHouse 2 (some .boolean), Cond.fieldLink RX10 13 "CardBowlModel" "world" "[I", Cond.methodLink RX10 101 yX10_in, Cond.static yX10_in, Cond.code yX10_in cX10_in 6 (some .boolean), Cond.methodLink RX10 441 yX10_listsTen, Cond.instanceMethod yX10_listsTen, Cond.selects RX10 yX10_listsTen yX10_listsTen, Cond.code yX10_listsTen cX10_listsTen 4 none, Cond.fieldLink RX10 55 "CardBowlModel" "tenDebts" "[I", Cond.fieldLink RX10 40 "CardBowlModel" "houses" "[I", Cond.methodLink RX10 390 yX10_weighs]
def wsX10_fewest_r2 : List Cond := [Cond.instanceMethod yX10_weighs, Cond.selects RX10 yX10_weighs yX10_weighs, Cond.code yX10_weighs cX10_weighs 4 none, Cond.fieldLink RX10 43 "CardBowlModel" "worthOf" "[I", Cond.fieldLink RX10 46 "CardBowlModel" "byCall" "[Z", Cond.methodLink RX10 325 yX10_ofDebt, Cond.instanceMethod yX10_ofDebt, Cond.selects RX10 yX10_ofDebt yX10_ofDebt, Cond.code yX10_ofDebt cX10_ofDebt 3 (some .int), Cond.methodLink RX10 294 yX10_holds, Cond.static yX10_holds, Cond.code yX10_holds cX10_holds 2 (some .boolean), Cond.methodLink RX10 291 yX10_today, Cond.instanceMethod yX10_today, Cond.selects RX10 yX10_today yX10_today, Cond.code yX10_today cX10_today 1 (some .int), Cond.methodLink RX10 411 yX10_goesThrough, Cond.instanceMethod yX10_goesThrough, Cond.selects RX10 yX10_goesThrough yX10_goesThrough, Cond.code yX10_goesThrough cX10_goesThrough 11 none, Cond.fieldLink RX10 49 "CardBowlModel" "over" "[I", Cond.methodLink RX10 405 yX10_seen, Cond.instanceMethod yX10_seen, Cond.selects RX10 yX10_seen yX10_seen]
def wsX10_fewest_r3 : List Cond := [Cond.code yX10_seen cX10_seen 6 (some .int), Cond.methodLink RX10 402 Lib.Math.max.name, Cond.static Lib.Math.max.name, Cond.code Lib.Math.max.name Lib.Math.max.code 2 (some .int), Cond.methodLink RX10 399 yX10_minutes, Cond.instanceMethod yX10_minutes, Cond.selects RX10 yX10_minutes yX10_minutes, Cond.code yX10_minutes cX10_minutes 3 (some .int), Cond.methodLink RX10 396 Lib.Math.abs.name, Cond.static Lib.Math.abs.name, Cond.code Lib.Math.abs.name Lib.Math.abs.code 1 (some .int), Cond.methodLink RX10 286 yX10_ofHouse, Cond.instanceMethod yX10_ofHouse, Cond.selects RX10 yX10_ofHouse yX10_ofHouse, Cond.code yX10_ofHouse cX10_ofHouse 3 (some .int), Cond.methodLink RX10 424 yX10_overOf, Cond.instanceMethod yX10_overOf, Cond.selects RX10 yX10_overOf yX10_overOf, Cond.code yX10_overOf cX10_overOf 5 (some .int), Cond.methodLink RX10 444 yX10_covers, Cond.instanceMethod yX10_covers, Cond.selects RX10 yX10_covers yX10_covers, Cond.code yX10_covers cX10_covers 6 (some .int)]
def wsX10_fewest : List Cond := .code yX10_fewest cX10_fewest 7 (some .int) :: ((wsX10_fewest_r1 ++ (wsX10_fewest_r2 ++ wsX10_fewest_r3)) ++ wsX100)
def wsX10_lost_r1 : List Cond := [Cond.fieldLink RX10 438 "CardBowlModel" "tenMany" "I", Cond.methodLink RX10 139 Lib.Math.min.name, Cond.static Lib.Math.min.name, Cond.initialized "java/lang/Math", Cond.code Lib.Math.min.name Lib.Math.min.code 2 (some .int), Cond.fieldLink RX10 55 "CardBowlModel" "tenDebts" "[I", Cond.methodLink RX10 105 yX10_isHouse, Cond.instanceMethod yX10_isHouse, Cond.selects RX10 yX10_isHouse yX10_isHouse, Cond.initialized RX10, Cond.code yX10_isHouse cX10_isHouse 2 (some .boolean), Cond.fieldLink RX10 13 "CardBowlModel" "world" "[I", Cond.methodLink RX10 101 yX10_in, Cond.static yX10_in, Cond.code yX10_in cX10_in 6 (some .boolean), Cond.methodLink RX10 441 yX10_listsTen, Cond.instanceMethod yX10_listsTen, Cond.selects RX10 yX10_listsTen yX10_listsTen, Cond.code yX10_listsTen cX10_listsTen 4 none, Cond.fieldLink RX10 393 "CardBowlModel" "houseMany" "I", Cond.fieldLink RX10 40 "CardBowlModel" "houses" "[I", Cond.methodLink RX10 390 yX10_weighs, Cond.instanceMethod yX10_weighs, Cond.selects RX10 yX10_weighs yX10_weighs]
def wsX10_lost_r2 : List Cond := [Cond.code yX10_weighs cX10_weighs 4 none, Cond.fieldLink RX10 43 "CardBowlModel" "worthOf" "[I", Cond.fieldLink RX10 46 "CardBowlModel" "byCall" "[Z", Cond.methodLink RX10 325 yX10_ofDebt, Cond.instanceMethod yX10_ofDebt, Cond.selects RX10 yX10_ofDebt yX10_ofDebt, Cond.code yX10_ofDebt cX10_ofDebt 3 (some .int), Cond.methodLink RX10 294 yX10_holds, Cond.static yX10_holds, Cond.code yX10_holds cX10_holds 2 (some .boolean), Cond.methodLink RX10 291 yX10_today, Cond.instanceMethod yX10_today, Cond.selects RX10 yX10_today yX10_today, Cond.code yX10_today cX10_today 1 (some .int), Cond.methodLink RX10 405 yX10_seen, Cond.instanceMethod yX10_seen, Cond.selects RX10 yX10_seen yX10_seen, Cond.code yX10_seen cX10_seen 6 (some .int), Cond.methodLink RX10 402 Lib.Math.max.name, Cond.static Lib.Math.max.name, Cond.code Lib.Math.max.name Lib.Math.max.code 2 (some .int), Cond.methodLink RX10 399 yX10_minutes, Cond.instanceMethod yX10_minutes, Cond.selects RX10 yX10_minutes yX10_minutes]
def wsX10_lost_r3 : List Cond := [Cond.code yX10_minutes cX10_minutes 3 (some .int), Cond.methodLink RX10 396 Lib.Math.abs.name, Cond.static Lib.Math.abs.name, Cond.code Lib.Math.abs.name Lib.Math.abs.code 1 (some .int), Cond.methodLink RX10 286 yX10_ofHouse, Cond.instanceMethod yX10_ofHouse, Cond.selects RX10 yX10_ofHouse yX10_ofHouse, Cond.code yX10_ofHouse cX10_ofHouse 3 (some .int)]
def wsX10_lost : List Cond := .code yX10_lost cX10_lost 6 (some .int) :: ((wsX10_lost_r1 ++ (wsX10_lost_r2 ++ wsX10_lost_r3)) ++ wsX100)
def wsX10_soon_r1 : List Cond := [Cond.fieldLink RX10 450 "CardBowlModel" "callMany" "I", Cond.methodLink RX10 315 yX10_areTwo, Cond.instanceMethod yX10_areTwo, Cond.selects RX10 yX10_areTwo yX10_areTwo, Cond.initialized RX10, Cond.code yX10_areTwo cX10_areTwo 3 (some .boolean), Cond.methodLink RX10 105 yX10_isHouse, Cond.instanceMethod yX10_isHouse, Cond.selects RX10 yX10_isHouse yX10_isHouse, Cond.code yX10_isHouse cX10_isHouse 2 (some .boolean), Cond.fieldLink RX10 13 "CardBowlModel" "world" "[I", Cond.methodLink RX10 101 yX10_in, Cond.static yX10_in, Cond.code yX10_in cX10_in 6 (some .boolean), Cond.methodLink RX10 304 yX10_areKnown, Cond.instanceMethod yX10_areKnown, Cond.selects RX10 yX10_areKnown yX10_areKnown, Cond.code yX10_areKnown cX10_areKnown 3 (some .boolean), Cond.methodLink RX10 294 yX10_holds, Cond.static yX10_holds, Cond.code yX10_holds cX10_holds 2 (some .boolean), Cond.methodLink RX10 453 yX10_finds, Cond.instanceMethod yX10_finds, Cond.selects RX10 yX10_finds yX10_finds]
def wsX10_soon_r2 : List Cond := [Cond.code yX10_finds cX10_finds 7 (some .boolean), Cond.fieldLink RX10 74 "CardBowlModel" "met" "[Z", Cond.fieldLink RX10 65 "CardBowlModel" "queue" "[I", Cond.fieldLink RX10 71 "CardBowlModel" "parent" "[I", Cond.fieldLink RX10 68 "CardBowlModel" "cameBy" "[I", Cond.methodLink RX10 291 yX10_today, Cond.instanceMethod yX10_today, Cond.selects RX10 yX10_today yX10_today, Cond.code yX10_today cX10_today 1 (some .int), Cond.methodLink RX10 301 yX10_isThere, Cond.instanceMethod yX10_isThere, Cond.selects RX10 yX10_isThere yX10_isThere, Cond.code yX10_isThere cX10_isThere 3 (some .boolean), Cond.methodLink RX10 286 yX10_ofHouse, Cond.instanceMethod yX10_ofHouse, Cond.selects RX10 yX10_ofHouse yX10_ofHouse, Cond.code yX10_ofHouse cX10_ofHouse 3 (some .int), Cond.methodLink RX10 310 yX10_isIntroduced, Cond.instanceMethod yX10_isIntroduced, Cond.selects RX10 yX10_isIntroduced yX10_isIntroduced, Cond.code yX10_isIntroduced cX10_isIntroduced 3 (some .boolean), Cond.methodLink RX10 298 yX10_ones, Cond.static yX10_ones, Cond.code yX10_ones cX10_ones 3 (some .int)]
def wsX10_soon_r3 : List Cond := [Cond.methodLink RX10 447 yX10_walks, Cond.instanceMethod yX10_walks, Cond.selects RX10 yX10_walks yX10_walks, Cond.code yX10_walks cX10_walks 4 none, Cond.fieldLink RX10 77 "CardBowlModel" "calls" "[I"]
def wsX10_soon : List Cond := .code yX10_soon cX10_soon 3 (some .int) :: ((wsX10_soon_r1 ++ (wsX10_soon_r2 ++ wsX10_soon_r3)) ++ wsX100)
def wsX10_path_r1 : List Cond := [Cond.fieldLink RX10 450 "CardBowlModel" "callMany" "I", Cond.fieldLink RX10 77 "CardBowlModel" "calls" "[I", Cond.methodLink RX10 315 yX10_areTwo, Cond.instanceMethod yX10_areTwo, Cond.selects RX10 yX10_areTwo yX10_areTwo, Cond.initialized RX10, Cond.code yX10_areTwo cX10_areTwo 3 (some .boolean), Cond.methodLink RX10 105 yX10_isHouse, Cond.instanceMethod yX10_isHouse, Cond.selects RX10 yX10_isHouse yX10_isHouse, Cond.code yX10_isHouse cX10_isHouse 2 (some .boolean), Cond.fieldLink RX10 13 "CardBowlModel" "world" "[I", Cond.methodLink RX10 101 yX10_in, Cond.static yX10_in, Cond.code yX10_in cX10_in 6 (some .boolean), Cond.methodLink RX10 304 yX10_areKnown, Cond.instanceMethod yX10_areKnown, Cond.selects RX10 yX10_areKnown yX10_areKnown, Cond.code yX10_areKnown cX10_areKnown 3 (some .boolean), Cond.methodLink RX10 294 yX10_holds, Cond.static yX10_holds, Cond.code yX10_holds cX10_holds 2 (some .boolean), Cond.methodLink RX10 453 yX10_finds, Cond.instanceMethod yX10_finds]
def wsX10_path_r2 : List Cond := [Cond.selects RX10 yX10_finds yX10_finds, Cond.code yX10_finds cX10_finds 7 (some .boolean), Cond.fieldLink RX10 74 "CardBowlModel" "met" "[Z", Cond.fieldLink RX10 65 "CardBowlModel" "queue" "[I", Cond.fieldLink RX10 71 "CardBowlModel" "parent" "[I", Cond.fieldLink RX10 68 "CardBowlModel" "cameBy" "[I", Cond.methodLink RX10 291 yX10_today, Cond.instanceMethod yX10_today, Cond.selects RX10 yX10_today yX10_today, Cond.code yX10_today cX10_today 1 (some .int), Cond.methodLink RX10 301 yX10_isThere, Cond.instanceMethod yX10_isThere, Cond.selects RX10 yX10_isThere yX10_isThere, Cond.code yX10_isThere cX10_isThere 3 (some .boolean), Cond.methodLink RX10 286 yX10_ofHouse, Cond.instanceMethod yX10_ofHouse, Cond.selects RX10 yX10_ofHouse yX10_ofHouse, Cond.code yX10_ofHouse cX10_ofHouse 3 (some .int), Cond.methodLink RX10 310 yX10_isIntroduced, Cond.instanceMethod yX10_isIntroduced, Cond.selects RX10 yX10_isIntroduced yX10_isIntroduced, Cond.code yX10_isIntroduced cX10_isIntroduced 3 (some .boolean), Cond.methodLink RX10 298 yX10_ones, Cond.static yX10_ones]
def wsX10_path_r3 : List Cond := [Cond.code yX10_ones cX10_ones 3 (some .int), Cond.methodLink RX10 447 yX10_walks, Cond.instanceMethod yX10_walks, Cond.selects RX10 yX10_walks yX10_walks, Cond.code yX10_walks cX10_walks 4 none]
def wsX10_path : List Cond := .code yX10_path cX10_path 4 (some .int) :: ((wsX10_path_r1 ++ (wsX10_path_r2 ++ wsX10_path_r3)) ++ wsX100)
def wsX10_reach : List Cond := .code yX10_reach cX10_reach 2 (some .int) :: ([.methodLink RX10 105 yX10_isHouse, .instanceMethod yX10_isHouse, .selects RX10 yX10_isHouse yX10_isHouse, .initialized RX10, .code yX10_isHouse cX10_isHouse 2 (some .boolean), .fieldLink RX10 13 "CardBowlModel" "world" "[I", .methodLink RX10 101 yX10_in, .static yX10_in, .code yX10_in cX10_in 6 (some .boolean), .methodLink RX10 456 yX10_hangs, .instanceMethod yX10_hangs, .selects RX10 yX10_hangs yX10_hangs, .code yX10_hangs cX10_hangs 8 (some .int), .methodLink RX10 294 yX10_holds, .static yX10_holds, .code yX10_holds cX10_holds 2 (some .boolean)] ++ wsX100)
def wsX10_drop_r1 : List Cond := [Cond.fieldLink RX10 13 "CardBowlModel" "world" "[I", Cond.fieldLink RX10 43 "CardBowlModel" "worthOf" "[I", Cond.methodLink RX10 105 yX10_isHouse, Cond.instanceMethod yX10_isHouse, Cond.selects RX10 yX10_isHouse yX10_isHouse, Cond.initialized RX10, Cond.code yX10_isHouse cX10_isHouse 2 (some .boolean), Cond.methodLink RX10 101 yX10_in, Cond.static yX10_in, Cond.code yX10_in cX10_in 6 (some .boolean), Cond.methodLink RX10 390 yX10_weighs, Cond.instanceMethod yX10_weighs, Cond.selects RX10 yX10_weighs yX10_weighs, Cond.code yX10_weighs cX10_weighs 4 none, Cond.fieldLink RX10 46 "CardBowlModel" "byCall" "[Z", Cond.methodLink RX10 325 yX10_ofDebt, Cond.instanceMethod yX10_ofDebt, Cond.selects RX10 yX10_ofDebt yX10_ofDebt, Cond.code yX10_ofDebt cX10_ofDebt 3 (some .int), Cond.methodLink RX10 456 yX10_hangs, Cond.instanceMethod yX10_hangs, Cond.selects RX10 yX10_hangs yX10_hangs, Cond.code yX10_hangs cX10_hangs 8 (some .int), Cond.methodLink RX10 294 yX10_holds]
def wsX10_drop_r2 : List Cond := [Cond.static yX10_holds, Cond.code yX10_holds cX10_holds 2 (some .boolean), Cond.methodLink RX10 298 yX10_ones, Cond.static yX10_ones, Cond.code yX10_ones cX10_ones 3 (some .int), Cond.methodLink RX10 304 yX10_areKnown, Cond.instanceMethod yX10_areKnown, Cond.selects RX10 yX10_areKnown yX10_areKnown, Cond.code yX10_areKnown cX10_areKnown 3 (some .boolean), Cond.methodLink RX10 286 yX10_ofHouse, Cond.instanceMethod yX10_ofHouse, Cond.selects RX10 yX10_ofHouse yX10_ofHouse, Cond.code yX10_ofHouse cX10_ofHouse 3 (some .int)]
def wsX10_drop : List Cond := .code yX10_drop cX10_drop 5 (some .int) :: ((wsX10_drop_r1 ++ wsX10_drop_r2) ++ wsX100)
def wsX10_tie : List Cond := .code yX10_tie cX10_tie 3 (some .int) :: ([.methodLink RX10 315 yX10_areTwo, .instanceMethod yX10_areTwo, .selects RX10 yX10_areTwo yX10_areTwo, .initialized RX10, .code yX10_areTwo cX10_areTwo 3 (some .boolean), .methodLink RX10 105 yX10_isHouse, .instanceMethod yX10_isHouse, .selects RX10 yX10_isHouse yX10_isHouse, .code yX10_isHouse cX10_isHouse 2 (some .boolean), .fieldLink RX10 13 "CardBowlModel" "world" "[I", .methodLink RX10 101 yX10_in, .static yX10_in, .code yX10_in cX10_in 6 (some .boolean), .methodLink RX10 304 yX10_areKnown, .instanceMethod yX10_areKnown, .selects RX10 yX10_areKnown yX10_areKnown, .code yX10_areKnown cX10_areKnown 3 (some .boolean), .methodLink RX10 294 yX10_holds, .static yX10_holds, .code yX10_holds cX10_holds 2 (some .boolean), .methodLink RX10 456 yX10_hangs, .instanceMethod yX10_hangs, .selects RX10 yX10_hangs yX10_hangs, .code yX10_hangs cX10_hangs 8 (some .int)] ++ wsX100)
def wsX10_callsAll : List Cond := .code yX10_callsAll cX10_callsAll 2 none :: ([.fieldLink RX10 80 "CardBowlModel" "calledOn" "[I", .fieldLink RX10 13 "CardBowlModel" "world" "[I", .constantLong RX10 99 (2), .constantLong RX10 313 (3), .methodLink RX10 101 yX10_in, .static yX10_in, .initialized RX10, .code yX10_in cX10_in 6 (some .boolean)] ++ wsX100)
def wsX10_ring_r1 : List Cond := [Cond.methodLink RX10 105 yX10_isHouse, Cond.instanceMethod yX10_isHouse, Cond.selects RX10 yX10_isHouse yX10_isHouse, Cond.initialized RX10, Cond.code yX10_isHouse cX10_isHouse 2 (some .boolean), Cond.fieldLink RX10 13 "CardBowlModel" "world" "[I", Cond.methodLink RX10 101 yX10_in, Cond.static yX10_in, Cond.code yX10_in cX10_in 6 (some .boolean), Cond.methodLink RX10 462 yX10_callsAll, Cond.instanceMethod yX10_callsAll, Cond.selects RX10 yX10_callsAll yX10_callsAll, Cond.code yX10_callsAll cX10_callsAll 2 none, Cond.fieldLink RX10 80 "CardBowlModel" "calledOn" "[I", Cond.constantLong RX10 99 (2), Cond.constantLong RX10 313 (3), Cond.methodLink RX10 465 yX10_ringOf, Cond.instanceMethod yX10_ringOf, Cond.selects RX10 yX10_ringOf yX10_ringOf, Cond.code yX10_ringOf cX10_ringOf 4 (some .int), Cond.methodLink RX10 459 yX10_comesTo, Cond.instanceMethod yX10_comesTo, Cond.selects RX10 yX10_comesTo yX10_comesTo, Cond.code yX10_comesTo cX10_comesTo 5 (some .int)]
def wsX10_ring_r2 : List Cond := [Cond.methodLink RX10 294 yX10_holds, Cond.static yX10_holds, Cond.code yX10_holds cX10_holds 2 (some .boolean), Cond.methodLink RX10 298 yX10_ones, Cond.static yX10_ones, Cond.code yX10_ones cX10_ones 3 (some .int)]
def wsX10_ring : List Cond := .code yX10_ring cX10_ring 2 (some .int) :: ((wsX10_ring_r1 ++ wsX10_ring_r2) ++ wsX100)
def wsX10_rings_r1 : List Cond := [Cond.fieldLink RX10 13 "CardBowlModel" "world" "[I", Cond.methodLink RX10 462 yX10_callsAll, Cond.instanceMethod yX10_callsAll, Cond.selects RX10 yX10_callsAll yX10_callsAll, Cond.initialized RX10, Cond.code yX10_callsAll cX10_callsAll 2 none, Cond.fieldLink RX10 80 "CardBowlModel" "calledOn" "[I", Cond.constantLong RX10 99 (2), Cond.constantLong RX10 313 (3), Cond.methodLink RX10 101 yX10_in, Cond.static yX10_in, Cond.code yX10_in cX10_in 6 (some .boolean), Cond.methodLink RX10 465 yX10_ringOf, Cond.instanceMethod yX10_ringOf, Cond.selects RX10 yX10_ringOf yX10_ringOf, Cond.code yX10_ringOf cX10_ringOf 4 (some .int), Cond.methodLink RX10 459 yX10_comesTo, Cond.instanceMethod yX10_comesTo, Cond.selects RX10 yX10_comesTo yX10_comesTo, Cond.code yX10_comesTo cX10_comesTo 5 (some .int), Cond.methodLink RX10 294 yX10_holds, Cond.static yX10_holds, Cond.code yX10_holds cX10_holds 2 (some .boolean), Cond.methodLink RX10 298 yX10_ones]
def wsX10_rings_r2 : List Cond := [Cond.static yX10_ones, Cond.code yX10_ones cX10_ones 3 (some .int)]
def wsX10_rings : List Cond := .code yX10_rings cX10_rings 4 (some .int) :: ((wsX10_rings_r1 ++ wsX10_rings_r2) ++ wsX100)
def wsX10_house : List Cond := .code yX10_house cX10_house 5 (some .int) :: ([.constantLong RX10 468 (8), .constant RX10 470 (-2000000000), .fieldLink RX10 13 "CardBowlModel" "world" "[I", .constantLong RX10 99 (2), .constantLong RX10 313 (3), .methodLink RX10 105 yX10_isHouse, .instanceMethod yX10_isHouse, .selects RX10 yX10_isHouse yX10_isHouse, .initialized RX10, .code yX10_isHouse cX10_isHouse 2 (some .boolean), .methodLink RX10 101 yX10_in, .static yX10_in, .code yX10_in cX10_in 6 (some .boolean), .methodLink RX10 286 yX10_ofHouse, .instanceMethod yX10_ofHouse, .selects RX10 yX10_ofHouse yX10_ofHouse, .code yX10_ofHouse cX10_ofHouse 3 (some .int)] ++ wsX100)
def wsX10_beside_r1 : List Cond := [Cond.constantLong RX10 99 (2), Cond.fieldLink RX10 20 "CardBowlModel" "hasImage" "[Z", Cond.fieldLink RX10 83 "CardBowlModel" "saved" "[I", Cond.fieldLink RX10 13 "CardBowlModel" "world" "[I", Cond.fieldLink RX10 17 "CardBowlModel" "images" "[I", Cond.methodLink RX10 101 yX10_in, Cond.static yX10_in, Cond.initialized RX10, Cond.code yX10_in cX10_in 6 (some .boolean), Cond.methodLink RX10 286 yX10_ofHouse, Cond.instanceMethod yX10_ofHouse, Cond.selects RX10 yX10_ofHouse yX10_ofHouse, Cond.code yX10_ofHouse cX10_ofHouse 3 (some .int), Cond.methodLink RX10 364 yX10_goes, Cond.instanceMethod yX10_goes, Cond.selects RX10 yX10_goes yX10_goes, Cond.code yX10_goes cX10_goes 8 (some .int), Cond.methodLink RX10 139 Lib.Math.min.name, Cond.static Lib.Math.min.name, Cond.initialized "java/lang/Math", Cond.code Lib.Math.min.name Lib.Math.min.code 2 (some .int), Cond.methodLink RX10 345 yX10_meets, Cond.instanceMethod yX10_meets, Cond.selects RX10 yX10_meets yX10_meets]
def wsX10_beside_r2 : List Cond := [Cond.code yX10_meets cX10_meets 3 none, Cond.methodLink RX10 349 yX10_pays, Cond.instanceMethod yX10_pays, Cond.selects RX10 yX10_pays yX10_pays, Cond.code yX10_pays cX10_pays 6 (some .int), Cond.methodLink RX10 325 yX10_ofDebt, Cond.instanceMethod yX10_ofDebt, Cond.selects RX10 yX10_ofDebt yX10_ofDebt, Cond.code yX10_ofDebt cX10_ofDebt 3 (some .int), Cond.methodLink RX10 328 yX10_drops, Cond.instanceMethod yX10_drops, Cond.selects RX10 yX10_drops yX10_drops, Cond.code yX10_drops cX10_drops 3 none, Cond.methodLink RX10 304 yX10_areKnown, Cond.instanceMethod yX10_areKnown, Cond.selects RX10 yX10_areKnown yX10_areKnown, Cond.code yX10_areKnown cX10_areKnown 3 (some .boolean), Cond.methodLink RX10 294 yX10_holds, Cond.static yX10_holds, Cond.code yX10_holds cX10_holds 2 (some .boolean), Cond.methodLink RX10 352 yX10_lineFor, Cond.instanceMethod yX10_lineFor, Cond.selects RX10 yX10_lineFor yX10_lineFor, Cond.code yX10_lineFor cX10_lineFor 10 (some .int)]
def wsX10_beside_r3 : List Cond := [Cond.fieldLink RX10 37 "CardBowlModel" "parts" "[I", Cond.methodLink RX10 339 yX10_debtsOf, Cond.instanceMethod yX10_debtsOf, Cond.selects RX10 yX10_debtsOf yX10_debtsOf, Cond.code yX10_debtsOf cX10_debtsOf 4 (some .int), Cond.methodLink RX10 342 yX10_testHolds, Cond.instanceMethod yX10_testHolds, Cond.selects RX10 yX10_testHolds yX10_testHolds, Cond.code yX10_testHolds cX10_testHolds 11 (some .boolean), Cond.constantLong RX10 335 (-1000000000), Cond.constantLong RX10 337 (1000000000), Cond.methodLink RX10 331 yX10_partOf, Cond.instanceMethod yX10_partOf, Cond.selects RX10 yX10_partOf yX10_partOf, Cond.code yX10_partOf cX10_partOf 3 (some .long), Cond.methodLink RX10 356 yX10_owesAlready, Cond.instanceMethod yX10_owesAlready, Cond.selects RX10 yX10_owesAlready yX10_owesAlready, Cond.code yX10_owesAlready cX10_owesAlready 5 (some .boolean), Cond.methodLink RX10 360 yX10_comes, Cond.instanceMethod yX10_comes, Cond.selects RX10 yX10_comes yX10_comes, Cond.code yX10_comes cX10_comes 7 none]
def wsX10_beside : List Cond := .code yX10_beside cX10_beside 5 (some .int) :: ((wsX10_beside_r1 ++ (wsX10_beside_r2 ++ wsX10_beside_r3)) ++ wsX100)
def wsX10_count : List Cond := .code yX10_count cX10_count 4 (some .int) :: ([.fieldLink RX10 13 "CardBowlModel" "world" "[I", .fieldLink RX10 109 "CardBowlModel" "taped" "I", .fieldLink RX10 86 "CardBowlModel" "many" "[I", .methodLink RX10 291 yX10_today, .instanceMethod yX10_today, .selects RX10 yX10_today yX10_today, .initialized RX10, .code yX10_today cX10_today 1 (some .int), .methodLink RX10 325 yX10_ofDebt, .instanceMethod yX10_ofDebt, .selects RX10 yX10_ofDebt yX10_ofDebt, .code yX10_ofDebt cX10_ofDebt 3 (some .int)] ++ wsX100)
def wsX10_row : List Cond := .code yX10_row cX10_row 5 (some .int) :: ([.constantLong RX10 313 (3), .fieldLink RX10 86 "CardBowlModel" "many" "[I", .fieldLink RX10 89 "CardBowlModel" "width" "[I", .fieldLink RX10 92 "CardBowlModel" "numbers" "[J", .methodLink RX10 371 yX10_isSlot, .static yX10_isSlot, .initialized RX10, .code yX10_isSlot cX10_isSlot 1 (some .boolean), .methodLink RX10 101 yX10_in, .static yX10_in, .code yX10_in cX10_in 6 (some .boolean)] ++ wsX100)
def wsX10_write : List Cond := .code yX10_write cX10_write 5 (some .int) :: ([.fieldLink RX10 86 "CardBowlModel" "many" "[I", .fieldLink RX10 92 "CardBowlModel" "numbers" "[J", .fieldLink RX10 89 "CardBowlModel" "width" "[I", .methodLink RX10 371 yX10_isSlot, .static yX10_isSlot, .initialized RX10, .code yX10_isSlot cX10_isSlot 1 (some .boolean), .constantLong RX10 313 (3), .methodLink RX10 101 yX10_in, .static yX10_in, .code yX10_in cX10_in 6 (some .boolean), .methodLink RX10 471 yX10_cut, .static yX10_cut, .code yX10_cut cX10_cut 4 (some .long)] ++ wsX100)
def wsX10_paste : List Cond := .code yX10_paste cX10_paste 7 (some .int) :: ([.fieldLink RX10 86 "CardBowlModel" "many" "[I", .fieldLink RX10 89 "CardBowlModel" "width" "[I", .fieldLink RX10 96 "CardBowlModel" "moving" "[J", .fieldLink RX10 92 "CardBowlModel" "numbers" "[J", .methodLink RX10 371 yX10_isSlot, .static yX10_isSlot, .initialized RX10, .code yX10_isSlot cX10_isSlot 1 (some .boolean), .constantLong RX10 313 (3), .methodLink RX10 101 yX10_in, .static yX10_in, .code yX10_in cX10_in 6 (some .boolean)] ++ wsX100)
def wsL_law_r1 : List Cond := [Cond.classLink RL 7 RX9, Cond.instantiable RX9 10, Cond.initialized RX9, Cond.classLink RL 10 RX10, Cond.instantiable RX10 41, Cond.initialized RX10, Cond.constantLong RL 154 (4294967295), Cond.methodLink RL 9 yX9_init, Cond.instanceMethod yX9_init, Cond.code yX9_init cX9_init 2 none, Cond.methodLink RX9 1 objectInit, Cond.instanceMethod objectInit, Cond.code objectInit ⟨#[0xb1]⟩ 1 none, Cond.arrayClass .byte, Cond.fieldLink RX9 9 "CardBowl" "tape" "[B", Cond.classLink RX9 13 RX3, Cond.instantiable RX3 10, Cond.initialized RX3, Cond.fieldLink RX9 16 "CardBowl" "reader" "LCardBowl$Reader;", Cond.classLink RX9 20 RX6, Cond.instantiable RX6 8, Cond.initialized RX6, Cond.fieldLink RX9 23 "CardBowl" "state" "LCardBowl$State;", Cond.fieldLink RX9 27 "CardBowl" "images" "[LCardBowl$State;"]
def wsL_law_r2 : List Cond := [Cond.classLink RX9 31 RX5, Cond.fieldLink RX9 33 "CardBowl" "slots" "[LCardBowl$Slot;", Cond.classLink RX9 37 RX4, Cond.instantiable RX4 17, Cond.initialized RX4, Cond.fieldLink RX9 40 "CardBowl" "rounds" "LCardBowl$Rounds;", Cond.classLink RX9 44 RX8, Cond.instantiable RX8 11, Cond.initialized RX8, Cond.fieldLink RX9 47 "CardBowl" "ways" "LCardBowl$Ways;", Cond.classLink RX9 51 RX1, Cond.instantiable RX1 8, Cond.initialized RX1, Cond.fieldLink RX9 54 "CardBowl" "otherDebts" "LCardBowl$Debts;", Cond.arrayClass .int, Cond.fieldLink RX9 58 "CardBowl" "otherKnows" "[I", Cond.instantiable RX5 4, Cond.initialized RX5, Cond.instanceMethod yX3_init, Cond.code yX3_init cX3_init 1 none, Cond.methodLink RX3 3 objectInit, Cond.classLink RX3 9 RX7, Cond.instantiable RX7 12, Cond.initialized RX7]
def wsL_law_r3 : List Cond := [Cond.fieldLink RX3 12 "CardBowl$Reader" "town" "LCardBowl$Town;", Cond.classLink RX3 18 RX0, Cond.instantiable RX0 10, Cond.initialized RX0, Cond.fieldLink RX3 21 "CardBowl$Reader" "code" "LCardBowl$Code;", Cond.fieldLink RX3 25 "CardBowl$Reader" "place" "I", Cond.instanceMethod yX7_init, Cond.code yX7_init cX7_init 1 none, Cond.methodLink RX7 3 objectInit, Cond.fieldLink RX7 11 "CardBowl$Town" "introducers" "I", Cond.fieldLink RX7 15 "CardBowl$Town" "x" "[I", Cond.fieldLink RX7 19 "CardBowl$Town" "y" "[I", Cond.fieldLink RX7 22 "CardBowl$Town" "rank" "[I", Cond.fieldLink RX7 25 "CardBowl$Town" "weekday" "[I", Cond.fieldLink RX7 28 "CardBowl$Town" "from" "[I", Cond.fieldLink RX7 31 "CardBowl$Town" "to" "[I", Cond.fieldLink RX7 34 "CardBowl$Town" "came" "[I", Cond.fieldLink RX7 37 "CardBowl$Town" "bride" "[I", Cond.fieldLink RX7 40 "CardBowl$Town" "told" "[I", Cond.instanceMethod yX0_init, Cond.code yX0_init cX0_init 1 none, Cond.methodLink RX0 3 objectInit, Cond.fieldLink RX0 9 "CardBowl$Code" "paying" "[I", Cond.fieldLink RX0 15 "CardBowl$Code" "kind" "[I"]
def wsL_law_r4 : List Cond := [Cond.fieldLink RX0 18 "CardBowl$Code" "within" "[I", Cond.fieldLink RX0 21 "CardBowl$Code" "start" "[I", Cond.fieldLink RX0 24 "CardBowl$Code" "stop" "[I", Cond.fieldLink RX0 27 "CardBowl$Code" "tests" "[I", Cond.fieldLink RX0 30 "CardBowl$Code" "facts" "[I", Cond.instanceMethod yX6_init, Cond.code yX6_init cX6_init 1 none, Cond.methodLink RX6 3 objectInit, Cond.classLink RX6 9 RX7, Cond.fieldLink RX6 12 "CardBowl$State" "town" "LCardBowl$Town;", Cond.classLink RX6 18 RX0, Cond.fieldLink RX6 21 "CardBowl$State" "code" "LCardBowl$Code;", Cond.classLink RX6 25 RX1, Cond.fieldLink RX6 28 "CardBowl$State" "debts" "LCardBowl$Debts;", Cond.classLink RX6 32 RX2, Cond.instantiable RX2 5, Cond.initialized RX2, Cond.fieldLink RX6 35 "CardBowl$State" "deeds" "LCardBowl$Deeds;", Cond.fieldLink RX6 39 "CardBowl$State" "knows" "[I", Cond.fieldLink RX6 43 "CardBowl$State" "follows" "[I", Cond.instanceMethod yX1_init, Cond.code yX1_init cX1_init 1 none, Cond.methodLink RX1 3 objectInit, Cond.fieldLink RX1 9 "CardBowl$Debts" "debtor" "[I"]
def wsL_law_r5 : List Cond := [Cond.fieldLink RX1 15 "CardBowl$Debts" "creditor" "[I", Cond.fieldLink RX1 18 "CardBowl$Debts" "kind" "[I", Cond.fieldLink RX1 21 "CardBowl$Debts" "due" "[I", Cond.fieldLink RX1 24 "CardBowl$Debts" "came" "[I", Cond.fieldLink RX1 27 "CardBowl$Debts" "open" "[I", Cond.fieldLink RX1 30 "CardBowl$Debts" "kinds" "[I", Cond.instanceMethod yX2_init, Cond.code yX2_init cX2_init 1 none, Cond.methodLink RX2 3 objectInit, Cond.fieldLink RX2 9 "CardBowl$Deeds" "who" "[I", Cond.fieldLink RX2 15 "CardBowl$Deeds" "whom" "[I", Cond.fieldLink RX2 18 "CardBowl$Deeds" "what" "[I", Cond.fieldLink RX2 21 "CardBowl$Deeds" "day" "[I", Cond.instanceMethod yX4_init, Cond.code yX4_init cX4_init 1 none, Cond.methodLink RX4 5 objectInit, Cond.fieldLink RX4 11 "CardBowl$Rounds" "order" "[I", Cond.fieldLink RX4 15 "CardBowl$Rounds" "owner" "I", Cond.fieldLink RX4 19 "CardBowl$Rounds" "weekday" "I", Cond.fieldLink RX4 22 "CardBowl$Rounds" "spot" "[I", Cond.fieldLink RX4 25 "CardBowl$Rounds" "deadline" "[I", Cond.fieldLink RX4 28 "CardBowl$Rounds" "opens" "[I", Cond.fieldLink RX4 31 "CardBowl$Rounds" "closes" "[I", Cond.fieldLink RX4 34 "CardBowl$Rounds" "stays" "[I"]
def wsL_law_r6 : List Cond := [Cond.fieldLink RX4 37 "CardBowl$Rounds" "apart" "[I", Cond.fieldLink RX4 40 "CardBowl$Rounds" "minute" "[I", Cond.fieldLink RX4 43 "CardBowl$Rounds" "soonest" "[I", Cond.fieldLink RX4 46 "CardBowl$Rounds" "sums" "[I", Cond.instanceMethod yX8_init, Cond.code yX8_init cX8_init 1 none, Cond.methodLink RX8 5 objectInit, Cond.fieldLink RX8 11 "CardBowl$Ways" "calls" "[I", Cond.fieldLink RX8 15 "CardBowl$Ways" "caller" "I", Cond.fieldLink RX8 19 "CardBowl$Ways" "goal" "I", Cond.fieldLink RX8 22 "CardBowl$Ways" "house" "[I", Cond.fieldLink RX8 25 "CardBowl$Ways" "friends" "[I", Cond.fieldLink RX8 28 "CardBowl$Ways" "links" "[I", Cond.fieldLink RX8 31 "CardBowl$Ways" "queue" "[I", Cond.fieldLink RX8 34 "CardBowl$Ways" "latest" "[I", Cond.instanceMethod yX5_init, Cond.code yX5_init cX5_init 1 none, Cond.methodLink RX5 3 objectInit, Cond.arrayClass .long, Cond.fieldLink RX5 9 "CardBowl$Slot" "numbers" "[J", Cond.methodLink RL 12 yX10_init, Cond.instanceMethod yX10_init, Cond.code yX10_init cX10_init 1 none, Cond.methodLink RX10 7 objectInit]
def wsL_law_r7 : List Cond := [Cond.fieldLink RX10 13 "CardBowlModel" "world" "[I", Cond.fieldLink RX10 17 "CardBowlModel" "images" "[I", Cond.arrayClass .boolean, Cond.fieldLink RX10 20 "CardBowlModel" "hasImage" "[Z", Cond.fieldLink RX10 24 "CardBowlModel" "tape" "[B", Cond.fieldLink RX10 28 "CardBowlModel" "five" "[I", Cond.fieldLink RX10 31 "CardBowlModel" "faultPlace" "I", Cond.fieldLink RX10 34 "CardBowlModel" "fresh" "[I", Cond.fieldLink RX10 37 "CardBowlModel" "parts" "[I", Cond.fieldLink RX10 40 "CardBowlModel" "houses" "[I", Cond.fieldLink RX10 43 "CardBowlModel" "worthOf" "[I", Cond.fieldLink RX10 46 "CardBowlModel" "byCall" "[Z", Cond.fieldLink RX10 49 "CardBowlModel" "over" "[I", Cond.fieldLink RX10 52 "CardBowlModel" "row" "[I", Cond.fieldLink RX10 55 "CardBowlModel" "tenDebts" "[I", Cond.fieldLink RX10 58 "CardBowlModel" "fewestBy" "[I", Cond.fieldLink RX10 61 "CardBowlModel" "covered" "[I", Cond.constant RX10 64 (65536), Cond.fieldLink RX10 65 "CardBowlModel" "queue" "[I", Cond.fieldLink RX10 68 "CardBowlModel" "cameBy" "[I", Cond.fieldLink RX10 71 "CardBowlModel" "parent" "[I", Cond.fieldLink RX10 74 "CardBowlModel" "met" "[Z", Cond.fieldLink RX10 77 "CardBowlModel" "calls" "[I", Cond.fieldLink RX10 80 "CardBowlModel" "calledOn" "[I"]
def wsL_law_r8 : List Cond := [Cond.fieldLink RX10 83 "CardBowlModel" "saved" "[I", Cond.fieldLink RX10 86 "CardBowlModel" "many" "[I", Cond.fieldLink RX10 89 "CardBowlModel" "width" "[I", Cond.fieldLink RX10 92 "CardBowlModel" "numbers" "[J", Cond.fieldLink RX10 96 "CardBowlModel" "moving" "[J", Cond.methodLink RL 13 yX9_feed, Cond.instanceMethod yX9_feed, Cond.selects RX9 yX9_feed yX9_feed, Cond.code yX9_feed cX9_feed 6 (some .int), Cond.fieldLink RX9 63 "CardBowl" "tapeSize" "I", Cond.methodLink RX9 67 yX9_feedNumber, Cond.instanceMethod yX9_feedNumber, Cond.selects RX9 yX9_feedNumber yX9_feedNumber, Cond.code yX9_feedNumber cX9_feedNumber 3 none, Cond.methodLink RL 17 yX10_feed, Cond.instanceMethod yX10_feed, Cond.selects RX10 yX10_feed yX10_feed, Cond.code yX10_feed cX10_feed 7 (some .int), Cond.fieldLink RX10 109 "CardBowlModel" "taped" "I", Cond.methodLink RL 18 yX9_end, Cond.instanceMethod yX9_end, Cond.selects RX9 yX9_end yX9_end, Cond.code yX9_end cX9_end 2 (some .int), Cond.methodLink RL 22 yX10_end]
def wsL_law_r9 : List Cond := [Cond.instanceMethod yX10_end, Cond.selects RX10 yX10_end yX10_end, Cond.code yX10_end cX10_end 2 (some .int), Cond.methodLink RX10 101 yX10_in, Cond.static yX10_in, Cond.code yX10_in cX10_in 6 (some .boolean), Cond.methodLink RL 23 yX9_town, Cond.instanceMethod yX9_town, Cond.selects RX9 yX9_town yX9_town, Cond.code yX9_town cX9_town 1 (some .int), Cond.fieldLink RX9 75 "CardBowl$Reader" "fault" "I", Cond.fieldLink RX9 78 "CardBowl$Reader" "town" "LCardBowl$Town;", Cond.fieldLink RX9 82 "CardBowl$Reader" "code" "LCardBowl$Code;", Cond.fieldLink RX9 93 "CardBowl$State" "town" "LCardBowl$Town;", Cond.fieldLink RX9 94 "CardBowl$Town" "houses" "I", Cond.methodLink RX9 71 yX3_read, Cond.instanceMethod yX3_read, Cond.selects RX3 yX3_read yX3_read, Cond.code yX3_read cX3_read 5 none, Cond.fieldLink RX3 29 "CardBowl$Reader" "text" "[B", Cond.methodLink RX3 33 Lib.Math.min.name, Cond.static Lib.Math.min.name, Cond.initialized "java/lang/Math", Cond.code Lib.Math.min.name Lib.Math.min.code 2 (some .int)]
def wsL_law_r10 : List Cond := [Cond.fieldLink RX3 39 "CardBowl$Reader" "size" "I", Cond.fieldLink RX3 42 "CardBowl$Reader" "next" "I", Cond.fieldLink RX3 45 "CardBowl$Reader" "fault" "I", Cond.fieldLink RX3 55 "CardBowl$Reader" "kind" "I", Cond.methodLink RX3 48 yX7_clear, Cond.instanceMethod yX7_clear, Cond.selects RX7 yX7_clear yX7_clear, Cond.code yX7_clear cX7_clear 1 none, Cond.fieldLink RX7 43 "CardBowl$Town" "houses" "I", Cond.fieldLink RX7 46 "CardBowl$Town" "fresh" "I", Cond.methodLink RX7 49 yJ7_fill_53178, Cond.static yJ7_fill_53178, Cond.initialized RJ7, Cond.code yJ7_fill_53178 cJ7_fill_53178 4 none, Cond.methodLink RX3 51 yX0_clear, Cond.instanceMethod yX0_clear, Cond.selects RX0 yX0_clear yX0_clear, Cond.code yX0_clear cX0_clear 1 none, Cond.fieldLink RX0 33 "CardBowl$Code" "lines" "I", Cond.fieldLink RX0 37 "CardBowl$Code" "used" "I", Cond.methodLink RX3 52 yX3_advance, Cond.instanceMethod yX3_advance, Cond.selects RX3 yX3_advance yX3_advance, Cond.code yX3_advance cX3_advance 1 none]
def wsL_law_r11 : List Cond := [Cond.fieldLink RX3 179 "CardBowl$Reader" "begin" "I", Cond.methodLink RX3 182 yX3_takeWord, Cond.instanceMethod yX3_takeWord, Cond.selects RX3 yX3_takeWord yX3_takeWord, Cond.code yX3_takeWord cX3_takeWord 1 none, Cond.methodLink RX3 185 yX3_takeNumber, Cond.instanceMethod yX3_takeNumber, Cond.selects RX3 yX3_takeNumber yX3_takeNumber, Cond.code yX3_takeNumber cX3_takeNumber 1 none, Cond.fieldLink RX3 136 "CardBowl$Reader" "value" "I", Cond.constant RX3 188 (1000000), Cond.methodLink RX3 60 yX3_among, Cond.instanceMethod yX3_among, Cond.selects RX3 yX3_among yX3_among, Cond.code yX3_among cX3_among 7 (some .int), Cond.methodLink RX3 189 yJ0_length_8abf5, Cond.instanceMethod yJ0_length_8abf5, Cond.selects RJ0 yJ0_length_8abf5 yJ0_length_8abf5, Cond.initialized RJ0, Cond.code yJ0_length_8abf5 cJ0_length_8abf5 1 (some .int), Cond.fieldLink RJ0 9 "java/lang/String" "value" "[B", Cond.methodLink RJ0 335 yJ0_coder_7d493, Cond.instanceMethod yJ0_coder_7d493, Cond.selects RJ0 yJ0_coder_7d493 yJ0_coder_7d493]
def wsL_law_r12 : List Cond := [Cond.code yJ0_coder_7d493 cJ0_coder_7d493 1 (some .byte), Cond.fieldLink RJ0 38 "java/lang/String" "COMPACT_STRINGS" "Z", Cond.fieldLink RJ0 15 "java/lang/String" "coder" "B", Cond.methodLink RX3 195 yJ0_charAt_5068e, Cond.instanceMethod yJ0_charAt_5068e, Cond.selects RJ0 yJ0_charAt_5068e yJ0_charAt_5068e, Cond.code yJ0_charAt_5068e cJ0_charAt_5068e 2 (some .char), Cond.methodLink RJ0 492 yJ0_isLatin1_aae02, Cond.instanceMethod yJ0_isLatin1_aae02, Cond.selects RJ0 yJ0_isLatin1_aae02 yJ0_isLatin1_aae02, Cond.code yJ0_isLatin1_aae02 cJ0_isLatin1_aae02 1 (some .boolean), Cond.methodLink RJ0 495 yJ1_charAt_3b067, Cond.static yJ1_charAt_3b067, Cond.initialized RJ1, Cond.code yJ1_charAt_3b067 cJ1_charAt_3b067 2 (some .char), Cond.methodLink RJ1 9 yJ0_checkIndex_df160, Cond.static yJ0_checkIndex_df160, Cond.code yJ0_checkIndex_df160 cJ0_checkIndex_df160 2 none, Cond.fieldLink RJ0 1053 "jdk/internal/util/Preconditions" "SIOOBE_FORMATTER" "Ljava/util/function/BiFunction;", Cond.methodLink RJ0 1059 yJ3_checkIndex_8e157, Cond.static yJ3_checkIndex_8e157, Cond.initialized RJ3, Cond.code yJ3_checkIndex_8e157 cJ3_checkIndex_8e157 3 (some .int), Cond.methodLink RJ0 498 yJ2_charAt_3b067]
def wsL_law_r13 : List Cond := [Cond.static yJ2_charAt_3b067, Cond.initialized RJ2, Cond.code yJ2_charAt_3b067 cJ2_charAt_3b067 2 (some .char), Cond.methodLink RJ2 67 yJ2_checkIndex_2214a, Cond.static yJ2_checkIndex_2214a, Cond.code yJ2_checkIndex_2214a cJ2_checkIndex_2214a 2 none, Cond.methodLink RJ2 48 yJ2_length_9d52b, Cond.static yJ2_length_9d52b, Cond.code yJ2_length_9d52b cJ2_length_9d52b 1 (some .int), Cond.methodLink RJ2 414 yJ0_checkIndex_df160, Cond.methodLink RJ2 71 yJ2_getChar_3b067, Cond.static yJ2_getChar_3b067, Cond.code yJ2_getChar_3b067 cJ2_getChar_3b067 2 (some .char), Cond.fieldLink RJ2 44 "java/lang/StringUTF16" "$assertionsDisabled" "Z", Cond.fieldLink RJ2 59 "java/lang/StringUTF16" "HI_BYTE_SHIFT" "I", Cond.fieldLink RJ2 63 "java/lang/StringUTF16" "LO_BYTE_SHIFT" "I", Cond.methodLink RX3 64 yX3_readOwes, Cond.instanceMethod yX3_readOwes, Cond.selects RX3 yX3_readOwes yX3_readOwes, Cond.code yX3_readOwes cX3_readOwes 3 none, Cond.fieldLink RX3 142 "CardBowl$Code" "lines" "I", Cond.fieldLink RX3 147 "CardBowl$Code" "paying" "[I", Cond.fieldLink RX3 150 "CardBowl$Code" "kind" "[I", Cond.fieldLink RX3 156 "CardBowl$Code" "within" "[I"]
def wsL_law_r14 : List Cond := [Cond.fieldLink RX3 158 "CardBowl$Code" "start" "[I", Cond.fieldLink RX3 161 "CardBowl$Code" "used" "I", Cond.fieldLink RX3 169 "CardBowl$Code" "stop" "[I", Cond.methodLink RX3 89 yX3_refuse, Cond.instanceMethod yX3_refuse, Cond.selects RX3 yX3_refuse yX3_refuse, Cond.code yX3_refuse cX3_refuse 2 none, Cond.methodLink RX3 97 yX3_choice, Cond.instanceMethod yX3_choice, Cond.selects RX3 yX3_choice yX3_choice, Cond.code yX3_choice cX3_choice 3 (some .int), Cond.methodLink RX3 80 yX3_number, Cond.instanceMethod yX3_number, Cond.selects RX3 yX3_number yX3_number, Cond.code yX3_number cX3_number 4 (some .int), Cond.methodLink RX3 128 yX3_takes, Cond.instanceMethod yX3_takes, Cond.selects RX3 yX3_takes yX3_takes, Cond.code yX3_takes cX3_takes 2 (some .boolean), Cond.methodLink RX3 166 yX3_readTests, Cond.instanceMethod yX3_readTests, Cond.selects RX3 yX3_readTests yX3_readTests, Cond.code yX3_readTests cX3_readTests 7 none, Cond.methodLink RX3 174 yX0_put]
def wsL_law_r15 : List Cond := [Cond.instanceMethod yX0_put, Cond.selects RX0 yX0_put yX0_put, Cond.code yX0_put cX0_put 2 none, Cond.methodLink RX3 68 yX3_readOther, Cond.instanceMethod yX3_readOther, Cond.selects RX3 yX3_readOther yX3_readOther, Cond.code yX3_readOther cX3_readOther 2 none, Cond.fieldLink RX3 83 "CardBowl$Town" "fresh" "I", Cond.fieldLink RX3 86 "CardBowl$Town" "introducers" "I", Cond.methodLink RX3 74 yX3_readHouse, Cond.instanceMethod yX3_readHouse, Cond.selects RX3 yX3_readHouse yX3_readHouse, Cond.code yX3_readHouse cX3_readHouse 2 none, Cond.fieldLink RX3 92 "CardBowl$Town" "houses" "I", Cond.fieldLink RX3 100 "CardBowl$Town" "x" "[I", Cond.fieldLink RX3 104 "CardBowl$Town" "y" "[I", Cond.fieldLink RX3 109 "CardBowl$Town" "rank" "[I", Cond.fieldLink RX3 113 "CardBowl$Town" "weekday" "[I", Cond.fieldLink RX3 118 "CardBowl$Town" "from" "[I", Cond.fieldLink RX3 121 "CardBowl$Town" "to" "[I", Cond.fieldLink RX3 124 "CardBowl$Town" "came" "[I", Cond.fieldLink RX3 132 "CardBowl$Town" "bride" "[I", Cond.methodLink RX3 77 yX3_readKnow, Cond.instanceMethod yX3_readKnow]
def wsL_law_r16 : List Cond := [Cond.selects RX3 yX3_readKnow yX3_readKnow, Cond.code yX3_readKnow cX3_readKnow 3 none, Cond.fieldLink RX3 139 "CardBowl$Town" "told" "[I", Cond.methodLink RX3 71 yX3_closeLine, Cond.instanceMethod yX3_closeLine, Cond.selects RX3 yX3_closeLine yX3_closeLine, Cond.code yX3_closeLine cX3_closeLine 1 none, Cond.methodLink RX9 86 yX6_begin, Cond.instanceMethod yX6_begin, Cond.selects RX6 yX6_begin yX6_begin, Cond.code yX6_begin cX6_begin 3 none, Cond.fieldLink RX6 56 "CardBowl$Deeds" "size" "I", Cond.fieldLink RX6 60 "CardBowl$Town" "told" "[I", Cond.methodLink RX6 63 arraycopyName, Cond.native arraycopyName, Cond.static arraycopyName, Cond.initialized "java/lang/System", Cond.fieldLink RX6 69 "CardBowl$State" "day" "I", Cond.fieldLink RX6 72 "CardBowl$State" "paid" "I", Cond.methodLink RX6 46 yX7_copy, Cond.instanceMethod yX7_copy, Cond.selects RX7 yX7_copy yX7_copy, Cond.code yX7_copy cX7_copy 2 none, Cond.methodLink RX7 55 arraycopyName]
def wsL_law_r17 : List Cond := [Cond.methodLink RX6 50 yX0_copy, Cond.instanceMethod yX0_copy, Cond.selects RX0 yX0_copy yX0_copy, Cond.code yX0_copy cX0_copy 2 none, Cond.methodLink RX0 40 arraycopyName, Cond.methodLink RX6 53 yX1_clear, Cond.instanceMethod yX1_clear, Cond.selects RX1 yX1_clear yX1_clear, Cond.code yX1_clear cX1_clear 1 none, Cond.fieldLink RX1 33 "CardBowl$Debts" "size" "I", Cond.methodLink RX1 37 yJ7_fill_53178, Cond.methodLink RX9 90 yX9_forget, Cond.instanceMethod yX9_forget, Cond.selects RX9 yX9_forget yX9_forget, Cond.code yX9_forget cX9_forget 1 none, Cond.fieldLink RX9 330 "CardBowl$Rounds" "planned" "Z", Cond.fieldLink RX9 333 "CardBowl$Ways" "sought" "Z", Cond.methodLink RL 27 yX10_town, Cond.instanceMethod yX10_town, Cond.selects RX10 yX10_town yX10_town, Cond.code yX10_town cX10_town 2 (some .int), Cond.fieldLink RX10 112 "CardBowlModel" "size" "I", Cond.fieldLink RX10 115 "CardBowlModel" "at" "I", Cond.fieldLink RX10 145 "CardBowlModel" "faultKind" "I"]
def wsL_law_r18 : List Cond := [Cond.fieldLink RX10 125 "CardBowlModel" "token" "I", Cond.methodLink RX10 166 yX10_advance, Cond.instanceMethod yX10_advance, Cond.selects RX10 yX10_advance yX10_advance, Cond.code yX10_advance cX10_advance 2 none, Cond.fieldLink RX10 122 "CardBowlModel" "from" "I", Cond.constantLong RX10 128 (97), Cond.constantLong RX10 130 (122), Cond.constantLong RX10 132 (48), Cond.constantLong RX10 134 (57), Cond.fieldLink RX10 136 "CardBowlModel" "value" "I", Cond.methodLink RX10 139 Lib.Math.min.name, Cond.methodLink RX10 118 yX10_see, Cond.instanceMethod yX10_see, Cond.selects RX10 yX10_see yX10_see, Cond.code yX10_see cX10_see 2 (some .int), Cond.methodLink RX10 148 yX10_good, Cond.instanceMethod yX10_good, Cond.selects RX10 yX10_good yX10_good, Cond.code yX10_good cX10_good 1 (some .boolean), Cond.methodLink RX10 283 yX10_readLine, Cond.instanceMethod yX10_readLine, Cond.selects RX10 yX10_readLine yX10_readLine, Cond.code yX10_readLine cX10_readLine 3 none]
def wsL_law_r19 : List Cond := [Cond.methodLink RX10 252 yX10_payingHere, Cond.instanceMethod yX10_payingHere, Cond.selects RX10 yX10_payingHere yX10_payingHere, Cond.code yX10_payingHere cX10_payingHere 1 (some .int), Cond.methodLink RX10 162 yX10_is, Cond.instanceMethod yX10_is, Cond.selects RX10 yX10_is yX10_is, Cond.code yX10_is cX10_is 4 (some .boolean), Cond.methodLink RX10 152 yJ0_length_8abf5, Cond.methodLink RX10 158 yJ0_charAt_5068e, Cond.methodLink RX10 172 yX10_errs, Cond.instanceMethod yX10_errs, Cond.selects RX10 yX10_errs yX10_errs, Cond.code yX10_errs cX10_errs 2 none, Cond.methodLink RX10 274 yX10_readOwes, Cond.instanceMethod yX10_readOwes, Cond.selects RX10 yX10_readOwes yX10_readOwes, Cond.code yX10_readOwes cX10_readOwes 2 none, Cond.methodLink RX10 217 yX10_taken, Cond.instanceMethod yX10_taken, Cond.selects RX10 yX10_taken yX10_taken, Cond.code yX10_taken cX10_taken 2 (some .int), Cond.methodLink RX10 176 yX10_needs, Cond.instanceMethod yX10_needs]
def wsL_law_r20 : List Cond := [Cond.selects RX10 yX10_needs yX10_needs, Cond.code yX10_needs cX10_needs 2 none, Cond.methodLink RX10 169 yX10_takes, Cond.instanceMethod yX10_takes, Cond.selects RX10 yX10_takes yX10_takes, Cond.code yX10_takes cX10_takes 3 (some .boolean), Cond.methodLink RX10 206 yX10_told, Cond.instanceMethod yX10_told, Cond.selects RX10 yX10_told yX10_told, Cond.code yX10_told cX10_told 4 (some .int), Cond.methodLink RX10 180 yX10_number, Cond.instanceMethod yX10_number, Cond.selects RX10 yX10_number yX10_number, Cond.code yX10_number cX10_number 4 (some .int), Cond.methodLink RX10 261 yX10_readTest, Cond.instanceMethod yX10_readTest, Cond.selects RX10 yX10_readTest yX10_readTest, Cond.code yX10_readTest cX10_readTest 4 none, Cond.methodLink RX10 243 yX10_readSum, Cond.instanceMethod yX10_readSum, Cond.selects RX10 yX10_readSum yX10_readSum, Cond.code yX10_readSum cX10_readSum 3 none, Cond.methodLink RX10 234 yX10_readPart, Cond.instanceMethod yX10_readPart]
def wsL_law_r21 : List Cond := [Cond.selects RX10 yX10_readPart yX10_readPart, Cond.code yX10_readPart cX10_readPart 5 none, Cond.methodLink RX10 277 yX10_readHouse, Cond.instanceMethod yX10_readHouse, Cond.selects RX10 yX10_readHouse yX10_readHouse, Cond.code yX10_readHouse cX10_readHouse 2 none, Cond.methodLink RX10 214 yX10_dayHere, Cond.instanceMethod yX10_dayHere, Cond.selects RX10 yX10_dayHere yX10_dayHere, Cond.code yX10_dayHere cX10_dayHere 1 (some .int), Cond.methodLink RX10 280 yX10_readKnow, Cond.instanceMethod yX10_readKnow, Cond.selects RX10 yX10_readKnow yX10_readKnow, Cond.code yX10_readKnow cX10_readKnow 3 none, Cond.methodLink RX10 286 yX10_ofHouse, Cond.instanceMethod yX10_ofHouse, Cond.selects RX10 yX10_ofHouse yX10_ofHouse, Cond.code yX10_ofHouse cX10_ofHouse 3 (some .int), Cond.methodLink RL 28 yX9_fault, Cond.instanceMethod yX9_fault, Cond.selects RX9 yX9_fault yX9_fault, Cond.code yX9_fault cX9_fault 2 (some .int), Cond.fieldLink RX9 99 "CardBowl$Reader" "place" "I", Cond.methodLink RL 31 yX10_fault]
def wsL_law_r22 : List Cond := [Cond.instanceMethod yX10_fault, Cond.selects RX10 yX10_fault yX10_fault, Cond.code yX10_fault cX10_fault 2 (some .int), Cond.methodLink RL 32 yX9_days, Cond.instanceMethod yX9_days, Cond.selects RX9 yX9_days yX9_days, Cond.code yX9_days cX9_days 2 (some .int), Cond.fieldLink RX9 102 "CardBowl$State" "day" "I", Cond.methodLink RL 35 yX10_days, Cond.instanceMethod yX10_days, Cond.selects RX10 yX10_days yX10_days, Cond.code yX10_days cX10_days 2 (some .int), Cond.constantLong RX10 289 (60), Cond.methodLink RX10 291 yX10_today, Cond.instanceMethod yX10_today, Cond.selects RX10 yX10_today yX10_today, Cond.code yX10_today cX10_today 1 (some .int), Cond.methodLink RL 36 yX9_bars, Cond.instanceMethod yX9_bars, Cond.selects RX9 yX9_bars yX9_bars, Cond.code yX9_bars cX9_bars 4 (some .int), Cond.methodLink RX9 105 yX9_isDeed, Cond.instanceMethod yX9_isDeed, Cond.selects RX9 yX9_isDeed yX9_isDeed]
def wsL_law_r23 : List Cond := [Cond.code yX9_isDeed cX9_isDeed 4 (some .boolean), Cond.methodLink RX9 126 yX7_hasPair, Cond.instanceMethod yX7_hasPair, Cond.selects RX7 yX7_hasPair yX7_hasPair, Cond.code yX7_hasPair cX7_hasPair 3 (some .boolean), Cond.methodLink RX7 61 yX7_has, Cond.instanceMethod yX7_has, Cond.selects RX7 yX7_has yX7_has, Cond.code yX7_has cX7_has 2 (some .boolean), Cond.methodLink RX9 109 yX6_barrier, Cond.instanceMethod yX6_barrier, Cond.selects RX6 yX6_barrier yX6_barrier, Cond.code yX6_barrier cX6_barrier 4 (some .int), Cond.fieldLink RX6 88 "CardBowl$Town" "weekday" "[I", Cond.methodLink RX6 81 yX7_isThere, Cond.instanceMethod yX7_isThere, Cond.selects RX7 yX7_isThere yX7_isThere, Cond.code yX7_isThere cX7_isThere 3 (some .boolean), Cond.methodLink RX6 85 yX6_isOpenTo, Cond.instanceMethod yX6_isOpenTo, Cond.selects RX6 yX6_isOpenTo yX6_isOpenTo, Cond.code yX6_isOpenTo cX6_isOpenTo 3 (some .boolean), Cond.fieldLink RX6 107 "CardBowl$Town" "introducers" "I", Cond.methodLink RX6 94 yX6_knew]
def wsL_law_r24 : List Cond := [Cond.instanceMethod yX6_knew, Cond.selects RX6 yX6_knew yX6_knew, Cond.code yX6_knew cX6_knew 3 (some .int), Cond.methodLink RX6 98 yX7_isNew, Cond.instanceMethod yX7_isNew, Cond.selects RX7 yX7_isNew yX7_isNew, Cond.code yX7_isNew cX7_isNew 3 (some .boolean), Cond.methodLink RX6 101 yJ6_bitCount_0f7a4, Cond.static yJ6_bitCount_0f7a4, Cond.initialized RJ6, Cond.code yJ6_bitCount_0f7a4 cJ6_bitCount_0f7a4 1 (some .int), Cond.constant RJ6 265 (1431655765), Cond.constant RJ6 266 (858993459), Cond.constant RJ6 267 (252645135), Cond.methodLink RX6 91 yX7_waits, Cond.instanceMethod yX7_waits, Cond.selects RX7 yX7_waits yX7_waits, Cond.code yX7_waits cX7_waits 3 (some .boolean), Cond.methodLink RL 40 yX10_bars, Cond.instanceMethod yX10_bars, Cond.selects RX10 yX10_bars yX10_bars, Cond.code yX10_bars cX10_bars 4 (some .int), Cond.methodLink RX10 315 yX10_areTwo, Cond.instanceMethod yX10_areTwo]
def wsL_law_r25 : List Cond := [Cond.selects RX10 yX10_areTwo yX10_areTwo, Cond.code yX10_areTwo cX10_areTwo 3 (some .boolean), Cond.methodLink RX10 105 yX10_isHouse, Cond.instanceMethod yX10_isHouse, Cond.selects RX10 yX10_isHouse yX10_isHouse, Cond.code yX10_isHouse cX10_isHouse 2 (some .boolean), Cond.methodLink RX10 318 yX10_isPaying, Cond.static yX10_isPaying, Cond.code yX10_isPaying cX10_isPaying 1 (some .boolean), Cond.constantLong RX10 313 (3), Cond.methodLink RX10 321 yX10_barsOf, Cond.instanceMethod yX10_barsOf, Cond.selects RX10 yX10_barsOf yX10_barsOf, Cond.code yX10_barsOf cX10_barsOf 6 (some .int), Cond.methodLink RX10 301 yX10_isThere, Cond.instanceMethod yX10_isThere, Cond.selects RX10 yX10_isThere yX10_isThere, Cond.code yX10_isThere cX10_isThere 3 (some .boolean), Cond.methodLink RX10 304 yX10_areKnown, Cond.instanceMethod yX10_areKnown, Cond.selects RX10 yX10_areKnown yX10_areKnown, Cond.code yX10_areKnown cX10_areKnown 3 (some .boolean), Cond.methodLink RX10 294 yX10_holds, Cond.static yX10_holds]
def wsL_law_r26 : List Cond := [Cond.code yX10_holds cX10_holds 2 (some .boolean), Cond.methodLink RX10 307 yX10_isNew, Cond.instanceMethod yX10_isNew, Cond.selects RX10 yX10_isNew yX10_isNew, Cond.code yX10_isNew cX10_isNew 2 (some .boolean), Cond.methodLink RX10 310 yX10_isIntroduced, Cond.instanceMethod yX10_isIntroduced, Cond.selects RX10 yX10_isIntroduced yX10_isIntroduced, Cond.code yX10_isIntroduced cX10_isIntroduced 3 (some .boolean), Cond.methodLink RX10 298 yX10_ones, Cond.static yX10_ones, Cond.code yX10_ones cX10_ones 3 (some .int), Cond.methodLink RL 41 yX9_does, Cond.instanceMethod yX9_does, Cond.selects RX9 yX9_does yX9_does, Cond.code yX9_does cX9_does 4 (some .int), Cond.fieldLink RX9 113 "CardBowl$State" "deeds" "LCardBowl$Deeds;", Cond.methodLink RX9 117 yX2_isFull, Cond.instanceMethod yX2_isFull, Cond.selects RX2 yX2_isFull yX2_isFull, Cond.code yX2_isFull cX2_isFull 1 (some .boolean), Cond.fieldLink RX2 24 "CardBowl$Deeds" "size" "I", Cond.methodLink RX9 123 yX6_act, Cond.instanceMethod yX6_act]
def wsL_law_r27 : List Cond := [Cond.selects RX6 yX6_act yX6_act, Cond.code yX6_act cX6_act 5 (some .int), Cond.methodLink RX6 110 yX6_deal, Cond.instanceMethod yX6_deal, Cond.selects RX6 yX6_deal yX6_deal, Cond.code yX6_deal cX6_deal 10 (some .int), Cond.fieldLink RX6 126 "CardBowl$Town" "rank" "[I", Cond.fieldLink RX6 129 "CardBowl$Debts" "open" "[I", Cond.fieldLink RX6 136 "CardBowl$Code" "kind" "[I", Cond.fieldLink RX6 143 "CardBowl$Code" "within" "[I", Cond.methodLink RX6 146 Lib.Math.min.name, Cond.methodLink RX6 122 yX1_settle, Cond.instanceMethod yX1_settle, Cond.selects RX1 yX1_settle yX1_settle, Cond.code yX1_settle cX1_settle 7 (some .int), Cond.methodLink RX1 49 yX1_kindsOf, Cond.instanceMethod yX1_kindsOf, Cond.selects RX1 yX1_kindsOf yX1_kindsOf, Cond.code yX1_kindsOf cX1_kindsOf 3 (some .int), Cond.methodLink RX1 53 yX1_move, Cond.instanceMethod yX1_move, Cond.selects RX1 yX1_move yX1_move, Cond.code yX1_move cX1_move 3 none, Cond.methodLink RX6 132 yX0_lineFor]
def wsL_law_r28 : List Cond := [Cond.instanceMethod yX0_lineFor, Cond.selects RX0 yX0_lineFor yX0_lineFor, Cond.code yX0_lineFor cX0_lineFor 8 (some .int), Cond.methodLink RX0 46 yX0_holds, Cond.instanceMethod yX0_holds, Cond.selects RX0 yX0_holds yX0_holds, Cond.code yX0_holds cX0_holds 13 (some .boolean), Cond.methodLink RX0 50 Lib.Math.min.name, Cond.fieldLink RX0 56 "CardBowl$Code" "beyond" "Z", Cond.methodLink RX0 60 yX0_partOf, Cond.instanceMethod yX0_partOf, Cond.selects RX0 yX0_partOf yX0_partOf, Cond.code yX0_partOf cX0_partOf 2 (some .int), Cond.methodLink RX0 64 yX0_bounded, Cond.instanceMethod yX0_bounded, Cond.selects RX0 yX0_bounded yX0_bounded, Cond.code yX0_bounded cX0_bounded 3 (some .long), Cond.constantLong RX0 72 (1000000000), Cond.constantLong RX0 74 (-1000000000), Cond.methodLink RX0 68 yX0_compares, Cond.static yX0_compares, Cond.code yX0_compares cX0_compares 5 (some .boolean), Cond.methodLink RX6 139 yX6_isOwed, Cond.static yX6_isOwed]
def wsL_law_r29 : List Cond := [Cond.code yX6_isOwed cX6_isOwed 4 (some .boolean), Cond.methodLink RX6 154 yX1_kindsOf, Cond.methodLink RX6 151 yX1_add, Cond.instanceMethod yX1_add, Cond.selects RX1 yX1_add yX1_add, Cond.code yX1_add cX1_add 6 none, Cond.methodLink RX6 114 yX2_add, Cond.instanceMethod yX2_add, Cond.selects RX2 yX2_add yX2_add, Cond.code yX2_add cX2_add 5 none, Cond.methodLink RX6 118 yX6_acquaint, Cond.static yX6_acquaint, Cond.code yX6_acquaint cX6_acquaint 3 none, Cond.methodLink RL 44 yX10_does, Cond.instanceMethod yX10_does, Cond.selects RX10 yX10_does yX10_does, Cond.code yX10_does cX10_does 4 (some .int), Cond.methodLink RX10 368 yX10_notes, Cond.instanceMethod yX10_notes, Cond.selects RX10 yX10_notes yX10_notes, Cond.code yX10_notes cX10_notes 6 (some .int), Cond.methodLink RX10 364 yX10_goes, Cond.instanceMethod yX10_goes, Cond.selects RX10 yX10_goes yX10_goes]
def wsL_law_r30 : List Cond := [Cond.code yX10_goes cX10_goes 8 (some .int), Cond.methodLink RX10 345 yX10_meets, Cond.instanceMethod yX10_meets, Cond.selects RX10 yX10_meets yX10_meets, Cond.code yX10_meets cX10_meets 3 none, Cond.methodLink RX10 349 yX10_pays, Cond.instanceMethod yX10_pays, Cond.selects RX10 yX10_pays yX10_pays, Cond.code yX10_pays cX10_pays 6 (some .int), Cond.methodLink RX10 325 yX10_ofDebt, Cond.instanceMethod yX10_ofDebt, Cond.selects RX10 yX10_ofDebt yX10_ofDebt, Cond.code yX10_ofDebt cX10_ofDebt 3 (some .int), Cond.methodLink RX10 328 yX10_drops, Cond.instanceMethod yX10_drops, Cond.selects RX10 yX10_drops yX10_drops, Cond.code yX10_drops cX10_drops 3 none, Cond.methodLink RX10 352 yX10_lineFor, Cond.instanceMethod yX10_lineFor, Cond.selects RX10 yX10_lineFor yX10_lineFor, Cond.code yX10_lineFor cX10_lineFor 10 (some .int), Cond.methodLink RX10 339 yX10_debtsOf, Cond.instanceMethod yX10_debtsOf, Cond.selects RX10 yX10_debtsOf yX10_debtsOf]
def wsL_law_r31 : List Cond := [Cond.code yX10_debtsOf cX10_debtsOf 4 (some .int), Cond.methodLink RX10 342 yX10_testHolds, Cond.instanceMethod yX10_testHolds, Cond.selects RX10 yX10_testHolds yX10_testHolds, Cond.code yX10_testHolds cX10_testHolds 11 (some .boolean), Cond.constantLong RX10 335 (-1000000000), Cond.constantLong RX10 337 (1000000000), Cond.methodLink RX10 331 yX10_partOf, Cond.instanceMethod yX10_partOf, Cond.selects RX10 yX10_partOf yX10_partOf, Cond.code yX10_partOf cX10_partOf 3 (some .long), Cond.methodLink RX10 356 yX10_owesAlready, Cond.instanceMethod yX10_owesAlready, Cond.selects RX10 yX10_owesAlready yX10_owesAlready, Cond.code yX10_owesAlready cX10_owesAlready 5 (some .boolean), Cond.methodLink RX10 360 yX10_comes, Cond.instanceMethod yX10_comes, Cond.selects RX10 yX10_comes yX10_comes, Cond.code yX10_comes cX10_comes 7 none, Cond.methodLink RL 45 yX9_meet, Cond.instanceMethod yX9_meet, Cond.selects RX9 yX9_meet yX9_meet, Cond.code yX9_meet cX9_meet 3 (some .int), Cond.methodLink RX9 130 yX6_chance]
def wsL_law_r32 : List Cond := [Cond.instanceMethod yX6_chance, Cond.selects RX6 yX6_chance yX6_chance, Cond.code yX6_chance cX6_chance 4 (some .int), Cond.methodLink RL 49 yX10_meet, Cond.instanceMethod yX10_meet, Cond.selects RX10 yX10_meet yX10_meet, Cond.code yX10_meet cX10_meet 4 (some .int), Cond.methodLink RL 50 yX9_done, Cond.instanceMethod yX9_done, Cond.selects RX9 yX9_done yX9_done, Cond.code yX9_done cX9_done 9 (some .int), Cond.fieldLink RX9 138 "CardBowl$Slot" "filled" "Z", Cond.fieldLink RX9 142 "CardBowl$Slot" "size" "I", Cond.methodLink RX9 134 yX9_isSlot, Cond.static yX9_isSlot, Cond.code yX9_isSlot cX9_isSlot 1 (some .boolean), Cond.methodLink RX9 145 yX5_small, Cond.instanceMethod yX5_small, Cond.selects RX5 yX5_small yX5_small, Cond.code yX5_small cX5_small 2 (some .int), Cond.fieldLink RX5 23 "CardBowl$Slot" "size" "I", Cond.constantLong RX5 32 (16), Cond.methodLink RX9 149 yX9_meet, Cond.methodLink RX9 152 yX9_does]
def wsL_law_r33 : List Cond := [Cond.methodLink RL 53 yX10_done, Cond.instanceMethod yX10_done, Cond.selects RX10 yX10_done yX10_done, Cond.code yX10_done cX10_done 11 (some .int), Cond.constantLong RX10 374 (16), Cond.constantLong RX10 376 (4), Cond.methodLink RX10 371 yX10_isSlot, Cond.static yX10_isSlot, Cond.code yX10_isSlot cX10_isSlot 1 (some .boolean), Cond.methodLink RX10 378 yX10_meet, Cond.methodLink RX10 381 yX10_does, Cond.methodLink RL 54 yX9_known, Cond.instanceMethod yX9_known, Cond.selects RX9 yX9_known yX9_known, Cond.code yX9_known cX9_known 3 (some .int), Cond.methodLink RX9 155 yX6_knew, Cond.methodLink RL 57 yX10_known, Cond.instanceMethod yX10_known, Cond.selects RX10 yX10_known yX10_known, Cond.code yX10_known cX10_known 3 (some .int), Cond.methodLink RL 58 yX9_debts, Cond.instanceMethod yX9_debts, Cond.selects RX9 yX9_debts yX9_debts, Cond.code yX9_debts cX9_debts 2 (some .int)]
def wsL_law_r34 : List Cond := [Cond.fieldLink RX9 161 "CardBowl$State" "debts" "LCardBowl$Debts;", Cond.fieldLink RX9 164 "CardBowl$Debts" "open" "[I", Cond.methodLink RX9 158 yX7_has, Cond.methodLink RL 61 yX10_debts, Cond.instanceMethod yX10_debts, Cond.selects RX10 yX10_debts yX10_debts, Cond.code yX10_debts cX10_debts 2 (some .int), Cond.methodLink RL 62 yX9_debt, Cond.instanceMethod yX9_debt, Cond.selects RX9 yX9_debt yX9_debt, Cond.code yX9_debt cX9_debt 5 (some .int), Cond.fieldLink RX9 170 "CardBowl$Debts" "creditor" "[I", Cond.fieldLink RX9 173 "CardBowl$Debts" "kind" "[I", Cond.fieldLink RX9 176 "CardBowl$Debts" "due" "[I", Cond.fieldLink RX9 179 "CardBowl$Debts" "came" "[I", Cond.methodLink RX9 167 yX1_nth, Cond.instanceMethod yX1_nth, Cond.selects RX1 yX1_nth yX1_nth, Cond.code yX1_nth cX1_nth 5 (some .int), Cond.methodLink RL 65 yX10_debt, Cond.instanceMethod yX10_debt, Cond.selects RX10 yX10_debt yX10_debt, Cond.code yX10_debt cX10_debt 5 (some .int), Cond.methodLink RX10 384 yX10_placeOf]
def wsL_law_r35 : List Cond := [Cond.instanceMethod yX10_placeOf, Cond.selects RX10 yX10_placeOf yX10_placeOf, Cond.code yX10_placeOf cX10_placeOf 5 (some .int), Cond.methodLink RL 66 yX9_slights, Cond.instanceMethod yX9_slights, Cond.selects RX9 yX9_slights yX9_slights, Cond.code yX9_slights cX9_slights 2 (some .int), Cond.methodLink RX9 182 yX1_overdueTo, Cond.instanceMethod yX1_overdueTo, Cond.selects RX1 yX1_overdueTo yX1_overdueTo, Cond.code yX1_overdueTo cX1_overdueTo 5 (some .int), Cond.methodLink RL 69 yX10_slights, Cond.instanceMethod yX10_slights, Cond.selects RX10 yX10_slights yX10_slights, Cond.code yX10_slights cX10_slights 2 (some .int), Cond.methodLink RX10 387 yX10_slightsOf, Cond.instanceMethod yX10_slightsOf, Cond.selects RX10 yX10_slightsOf yX10_slightsOf, Cond.code yX10_slightsOf cX10_slightsOf 4 (some .int), Cond.methodLink RL 70 yX9_first, Cond.instanceMethod yX9_first, Cond.selects RX9 yX9_first yX9_first, Cond.code yX9_first cX9_first 6 (some .int), Cond.fieldLink RX9 185 "CardBowl$Town" "rank" "[I"]
def wsL_law_r36 : List Cond := [Cond.methodLink RL 73 yX10_first, Cond.instanceMethod yX10_first, Cond.selects RX10 yX10_first yX10_first, Cond.code yX10_first cX10_first 5 (some .int), Cond.methodLink RL 74 yX9_owes, Cond.instanceMethod yX9_owes, Cond.selects RX9 yX9_owes yX9_owes, Cond.code yX9_owes cX9_owes 4 (some .int), Cond.methodLink RX9 188 yX6_wouldMake, Cond.instanceMethod yX6_wouldMake, Cond.selects RX6 yX6_wouldMake yX6_wouldMake, Cond.code yX6_wouldMake cX6_wouldMake 5 (some .int), Cond.methodLink RL 77 yX10_owes, Cond.instanceMethod yX10_owes, Cond.selects RX10 yX10_owes yX10_owes, Cond.code yX10_owes cX10_owes 6 (some .int), Cond.methodLink RL 78 yX9_worth, Cond.instanceMethod yX9_worth, Cond.selects RX9 yX9_worth yX9_worth, Cond.code yX9_worth cX9_worth 3 (some .int), Cond.fieldLink RX9 198 "CardBowl$Rounds" "bestWorth" "I", Cond.methodLink RX9 191 yX9_isOuting, Cond.instanceMethod yX9_isOuting, Cond.selects RX9 yX9_isOuting yX9_isOuting]
def wsL_law_r37 : List Cond := [Cond.code yX9_isOuting cX9_isOuting 3 (some .boolean), Cond.methodLink RX9 194 yX4_plan, Cond.instanceMethod yX4_plan, Cond.selects RX4 yX4_plan yX4_plan, Cond.code yX4_plan cX4_plan 5 none, Cond.fieldLink RX4 49 "CardBowl$Rounds" "planned" "Z", Cond.fieldLink RX4 53 "CardBowl$Rounds" "spots" "I", Cond.fieldLink RX4 56 "CardBowl$State" "town" "LCardBowl$Town;", Cond.fieldLink RX4 62 "CardBowl$Town" "houses" "I", Cond.fieldLink RX4 67 "CardBowl$State" "debts" "LCardBowl$Debts;", Cond.fieldLink RX4 92 "CardBowl$Rounds" "bestOver" "I", Cond.methodLink RX4 71 yX1_kindsOf, Cond.methodLink RX4 77 yX4_lookAtSpots, Cond.instanceMethod yX4_lookAtSpots, Cond.selects RX4 yX4_lookAtSpots yX4_lookAtSpots, Cond.code yX4_lookAtSpots cX4_lookAtSpots 6 none, Cond.methodLink RX4 101 yX4_lookAt, Cond.instanceMethod yX4_lookAt, Cond.selects RX4 yX4_lookAt yX4_lookAt, Cond.code yX4_lookAt cX4_lookAt 5 none, Cond.fieldLink RX4 112 "CardBowl$Town" "from" "[I", Cond.fieldLink RX4 115 "CardBowl$Town" "to" "[I", Cond.methodLink RX4 108 yX4_isByCall, Cond.static yX4_isByCall]
def wsL_law_r38 : List Cond := [Cond.code yX4_isByCall cX4_isByCall 3 (some .boolean), Cond.methodLink RX4 105 yX7_minutes, Cond.instanceMethod yX7_minutes, Cond.selects RX7 yX7_minutes yX7_minutes, Cond.code yX7_minutes cX7_minutes 3 (some .int), Cond.methodLink RX7 65 Lib.Math.abs.name, Cond.static Lib.Math.abs.name, Cond.code Lib.Math.abs.name Lib.Math.abs.code 1 (some .int), Cond.methodLink RX4 81 yX4_openSpots, Cond.instanceMethod yX4_openSpots, Cond.selects RX4 yX4_openSpots yX4_openSpots, Cond.code yX4_openSpots cX4_openSpots 5 (some .int), Cond.methodLink RX4 120 yX4_isAtHome, Cond.static yX4_isAtHome, Cond.code yX4_isAtHome cX4_isAtHome 4 (some .boolean), Cond.fieldLink RX4 118 "CardBowl$Town" "weekday" "[I", Cond.methodLink RX4 85 yX4_reckonMinutes, Cond.instanceMethod yX4_reckonMinutes, Cond.selects RX4 yX4_reckonMinutes yX4_reckonMinutes, Cond.code yX4_reckonMinutes cX4_reckonMinutes 8 none, Cond.methodLink RX4 136 Lib.Math.min.name, Cond.methodLink RX4 129 yX4_arrival, Cond.instanceMethod yX4_arrival, Cond.selects RX4 yX4_arrival yX4_arrival]
def wsL_law_r39 : List Cond := [Cond.code yX4_arrival cX4_arrival 7 (some .int), Cond.methodLink RX4 133 yX4_seen, Cond.instanceMethod yX4_seen, Cond.selects RX4 yX4_seen yX4_seen, Cond.code yX4_seen cX4_seen 4 (some .int), Cond.methodLink RX4 124 Lib.Math.max.name, Cond.static Lib.Math.max.name, Cond.code Lib.Math.max.name Lib.Math.max.code 2 (some .int), Cond.methodLink RX4 89 yX4_bestSet, Cond.instanceMethod yX4_bestSet, Cond.selects RX4 yX4_bestSet yX4_bestSet, Cond.code yX4_bestSet cX4_bestSet 8 (some .int), Cond.fieldLink RX4 139 "CardBowl$Rounds" "bestWorth" "I", Cond.methodLink RX4 142 yJ6_numberOfTrailingZeros_0f7a4, Cond.static yJ6_numberOfTrailingZeros_0f7a4, Cond.code yJ6_numberOfTrailingZeros_0f7a4 cJ6_numberOfTrailingZeros_0f7a4 2 (some .int), Cond.constant RJ6 264 (65536), Cond.methodLink RX4 148 yX4_worthOf, Cond.static yX4_worthOf, Cond.code yX4_worthOf cX4_worthOf 3 (some .int), Cond.methodLink RX4 95 yX4_reckonLatest, Cond.instanceMethod yX4_reckonLatest, Cond.selects RX4 yX4_reckonLatest yX4_reckonLatest, Cond.code yX4_reckonLatest cX4_reckonLatest 5 none]
def wsL_law_r40 : List Cond := [Cond.methodLink RX4 151 yX4_latest, Cond.instanceMethod yX4_latest, Cond.selects RX4 yX4_latest yX4_latest, Cond.code yX4_latest cX4_latest 8 (some .int), Cond.methodLink RX4 98 yX4_putInOrder, Cond.instanceMethod yX4_putInOrder, Cond.selects RX4 yX4_putInOrder yX4_putInOrder, Cond.code yX4_putInOrder cX4_putInOrder 10 none, Cond.fieldLink RX4 154 "CardBowl$Rounds" "length" "I", Cond.methodLink RL 81 yX10_worth, Cond.instanceMethod yX10_worth, Cond.selects RX10 yX10_worth yX10_worth, Cond.code yX10_worth cX10_worth 3 (some .int), Cond.fieldLink RX10 421 "CardBowlModel" "bestWorth" "I", Cond.methodLink RX10 429 yX10_isRound, Cond.instanceMethod yX10_isRound, Cond.selects RX10 yX10_isRound yX10_isRound, Cond.code yX10_isRound cX10_isRound 3 (some .boolean), Cond.constantLong RX10 427 (399), Cond.methodLink RX10 432 yX10_rounds, Cond.instanceMethod yX10_rounds, Cond.selects RX10 yX10_rounds yX10_rounds, Cond.code yX10_rounds cX10_rounds 7 none, Cond.fieldLink RX10 393 "CardBowlModel" "houseMany" "I"]
def wsL_law_r41 : List Cond := [Cond.fieldLink RX10 415 "CardBowlModel" "bestSet" "I", Cond.fieldLink RX10 418 "CardBowlModel" "bestOver" "I", Cond.methodLink RX10 408 yX10_lists, Cond.instanceMethod yX10_lists, Cond.selects RX10 yX10_lists yX10_lists, Cond.code yX10_lists cX10_lists 3 none, Cond.methodLink RX10 390 yX10_weighs, Cond.instanceMethod yX10_weighs, Cond.selects RX10 yX10_weighs yX10_weighs, Cond.code yX10_weighs cX10_weighs 4 none, Cond.methodLink RX10 411 yX10_goesThrough, Cond.instanceMethod yX10_goesThrough, Cond.selects RX10 yX10_goesThrough yX10_goesThrough, Cond.code yX10_goesThrough cX10_goesThrough 11 none, Cond.methodLink RX10 405 yX10_seen, Cond.instanceMethod yX10_seen, Cond.selects RX10 yX10_seen yX10_seen, Cond.code yX10_seen cX10_seen 6 (some .int), Cond.methodLink RX10 402 Lib.Math.max.name, Cond.methodLink RX10 399 yX10_minutes, Cond.instanceMethod yX10_minutes, Cond.selects RX10 yX10_minutes yX10_minutes, Cond.code yX10_minutes cX10_minutes 3 (some .int), Cond.methodLink RX10 396 Lib.Math.abs.name]
def wsL_law_r42 : List Cond := [Cond.methodLink RX10 424 yX10_overOf, Cond.instanceMethod yX10_overOf, Cond.selects RX10 yX10_overOf yX10_overOf, Cond.code yX10_overOf cX10_overOf 5 (some .int), Cond.methodLink RL 82 yX9_round, Cond.instanceMethod yX9_round, Cond.selects RX9 yX9_round yX9_round, Cond.code yX9_round cX9_round 4 (some .int), Cond.fieldLink RX9 201 "CardBowl$Rounds" "length" "I", Cond.fieldLink RX9 204 "CardBowl$Rounds" "order" "[I", Cond.methodLink RL 85 yX10_round, Cond.instanceMethod yX10_round, Cond.selects RX10 yX10_round yX10_round, Cond.code yX10_round cX10_round 5 (some .int), Cond.methodLink RX10 435 yX10_rowOf, Cond.instanceMethod yX10_rowOf, Cond.selects RX10 yX10_rowOf yX10_rowOf, Cond.code yX10_rowOf cX10_rowOf 12 none, Cond.methodLink RL 86 yX9_over, Cond.instanceMethod yX9_over, Cond.selects RX9 yX9_over yX9_over, Cond.code yX9_over cX9_over 3 (some .int), Cond.fieldLink RX9 207 "CardBowl$Rounds" "bestOver" "I", Cond.methodLink RL 89 yX10_over]
def wsL_law_r43 : List Cond := [Cond.instanceMethod yX10_over, Cond.selects RX10 yX10_over yX10_over, Cond.code yX10_over cX10_over 3 (some .int), Cond.methodLink RL 90 yX9_may, Cond.instanceMethod yX9_may, Cond.selects RX9 yX9_may yX9_may, Cond.code yX9_may cX9_may 5 (some .int), Cond.methodLink RX9 210 yX4_canWalk, Cond.instanceMethod yX4_canWalk, Cond.selects RX4 yX4_canWalk yX4_canWalk, Cond.code yX4_canWalk cX4_canWalk 10 (some .boolean), Cond.fieldLink RX4 157 "CardBowl$Slot" "size" "I", Cond.methodLink RX4 162 yX5_small, Cond.methodLink RX4 165 yX7_has, Cond.methodLink RL 93 yX10_may, Cond.instanceMethod yX10_may, Cond.selects RX10 yX10_may yX10_may, Cond.code yX10_may cX10_may 11 (some .int), Cond.methodLink RL 94 yX9_fewest, Cond.instanceMethod yX9_fewest, Cond.selects RX9 yX9_fewest yX9_fewest, Cond.code yX9_fewest cX9_fewest 2 (some .int), Cond.methodLink RX9 214 yX4_fewestDays, Cond.instanceMethod yX4_fewestDays]
def wsL_law_r44 : List Cond := [Cond.selects RX4 yX4_fewestDays yX4_fewestDays, Cond.code yX4_fewestDays cX4_fewestDays 5 (some .int), Cond.fieldLink RX4 172 "CardBowl$State" "day" "I", Cond.methodLink RX4 169 yX4_gatherDeadlines, Cond.instanceMethod yX4_gatherDeadlines, Cond.selects RX4 yX4_gatherDeadlines yX4_gatherDeadlines, Cond.code yX4_gatherDeadlines cX4_gatherDeadlines 7 none, Cond.fieldLink RX4 184 "CardBowl$Debts" "creditor" "[I", Cond.fieldLink RX4 187 "CardBowl$Debts" "due" "[I", Cond.methodLink RX4 181 yX1_nth, Cond.methodLink RX4 175 yX4_inTime, Cond.instanceMethod yX4_inTime, Cond.selects RX4 yX4_inTime yX4_inTime, Cond.code yX4_inTime cX4_inTime 4 (some .int), Cond.methodLink RX4 178 yX4_addDay, Cond.instanceMethod yX4_addDay, Cond.selects RX4 yX4_addDay yX4_addDay, Cond.code yX4_addDay cX4_addDay 6 none, Cond.methodLink RL 97 yX10_fewest, Cond.instanceMethod yX10_fewest, Cond.selects RX10 yX10_fewest yX10_fewest, Cond.code yX10_fewest cX10_fewest 7 (some .int), Cond.fieldLink RX10 438 "CardBowlModel" "tenMany" "I", Cond.methodLink RX10 441 yX10_listsTen]
def wsL_law_r45 : List Cond := [Cond.instanceMethod yX10_listsTen, Cond.selects RX10 yX10_listsTen yX10_listsTen, Cond.code yX10_listsTen cX10_listsTen 4 none, Cond.methodLink RX10 444 yX10_covers, Cond.instanceMethod yX10_covers, Cond.selects RX10 yX10_covers yX10_covers, Cond.code yX10_covers cX10_covers 6 (some .int), Cond.methodLink RL 98 yX9_lost, Cond.instanceMethod yX9_lost, Cond.selects RX9 yX9_lost yX9_lost, Cond.code yX9_lost cX9_lost 2 (some .int), Cond.methodLink RX9 218 yX4_lostBits, Cond.instanceMethod yX4_lostBits, Cond.selects RX4 yX4_lostBits yX4_lostBits, Cond.code yX4_lostBits cX4_lostBits 6 (some .int), Cond.methodLink RX4 190 yX4_canBeSeen, Cond.instanceMethod yX4_canBeSeen, Cond.selects RX4 yX4_canBeSeen yX4_canBeSeen, Cond.code yX4_canBeSeen cX4_canBeSeen 6 (some .boolean), Cond.methodLink RL 101 yX10_lost, Cond.instanceMethod yX10_lost, Cond.selects RX10 yX10_lost yX10_lost, Cond.code yX10_lost cX10_lost 6 (some .int), Cond.methodLink RL 102 yX9_soon]
def wsL_law_r46 : List Cond := [Cond.instanceMethod yX9_soon, Cond.selects RX9 yX9_soon yX9_soon, Cond.code yX9_soon cX9_soon 3 (some .int), Cond.fieldLink RX9 224 "CardBowl$Ways" "length" "I", Cond.methodLink RX9 221 yX8_seek, Cond.instanceMethod yX8_seek, Cond.selects RX8 yX8_seek yX8_seek, Cond.code yX8_seek cX8_seek 5 none, Cond.fieldLink RX8 37 "CardBowl$Ways" "sought" "Z", Cond.fieldLink RX8 41 "CardBowl$Ways" "length" "I", Cond.fieldLink RX8 54 "CardBowl$State" "knows" "[I", Cond.methodLink RX8 44 yX6_knew, Cond.methodLink RX8 50 yX8_everyoneToKnow, Cond.static yX8_everyoneToKnow, Cond.code yX8_everyoneToKnow cX8_everyoneToKnow 7 (some .int), Cond.fieldLink RX8 64 "CardBowl$State" "town" "LCardBowl$Town;", Cond.fieldLink RX8 68 "CardBowl$Town" "houses" "I", Cond.fieldLink RX8 73 "CardBowl$State" "day" "I", Cond.fieldLink RX8 86 "CardBowl$Town" "introducers" "I", Cond.methodLink RX8 76 yX7_isThere, Cond.methodLink RX8 80 yJ6_bitCount_0f7a4, Cond.methodLink RX8 57 yX8_gather, Cond.instanceMethod yX8_gather, Cond.selects RX8 yX8_gather yX8_gather]
def wsL_law_r47 : List Cond := [Cond.code yX8_gather cX8_gather 5 none, Cond.fieldLink RX8 89 "CardBowl$Ways" "between" "I", Cond.methodLink RX8 92 yX8_linksOf, Cond.instanceMethod yX8_linksOf, Cond.selects RX8 yX8_linksOf yX8_linksOf, Cond.code yX8_linksOf cX8_linksOf 5 (some .int), Cond.methodLink RX8 61 yX8_search, Cond.instanceMethod yX8_search, Cond.selects RX8 yX8_search yX8_search, Cond.code yX8_search cX8_search 13 none, Cond.methodLink RX8 95 yX8_tell, Cond.instanceMethod yX8_tell, Cond.selects RX8 yX8_tell yX8_tell, Cond.code yX8_tell cX8_tell 6 none, Cond.methodLink RL 105 yX10_soon, Cond.instanceMethod yX10_soon, Cond.selects RX10 yX10_soon yX10_soon, Cond.code yX10_soon cX10_soon 3 (some .int), Cond.fieldLink RX10 450 "CardBowlModel" "callMany" "I", Cond.methodLink RX10 453 yX10_finds, Cond.instanceMethod yX10_finds, Cond.selects RX10 yX10_finds yX10_finds, Cond.code yX10_finds cX10_finds 7 (some .boolean), Cond.methodLink RX10 447 yX10_walks]
def wsL_law_r48 : List Cond := [Cond.instanceMethod yX10_walks, Cond.selects RX10 yX10_walks yX10_walks, Cond.code yX10_walks cX10_walks 4 none, Cond.methodLink RL 106 yX9_path, Cond.instanceMethod yX9_path, Cond.selects RX9 yX9_path yX9_path, Cond.code yX9_path cX9_path 4 (some .int), Cond.fieldLink RX9 225 "CardBowl$Ways" "calls" "[I", Cond.methodLink RL 109 yX10_path, Cond.instanceMethod yX10_path, Cond.selects RX10 yX10_path yX10_path, Cond.code yX10_path cX10_path 4 (some .int), Cond.methodLink RL 110 yX9_reach, Cond.instanceMethod yX9_reach, Cond.selects RX9 yX9_reach yX9_reach, Cond.code yX9_reach cX9_reach 2 (some .int), Cond.methodLink RX9 228 yX6_hanging, Cond.instanceMethod yX6_hanging, Cond.selects RX6 yX6_hanging yX6_hanging, Cond.code yX6_hanging cX6_hanging 8 (some .int), Cond.methodLink RL 113 yX10_reach, Cond.instanceMethod yX10_reach, Cond.selects RX10 yX10_reach yX10_reach, Cond.code yX10_reach cX10_reach 2 (some .int)]
def wsL_law_r49 : List Cond := [Cond.methodLink RX10 456 yX10_hangs, Cond.instanceMethod yX10_hangs, Cond.selects RX10 yX10_hangs yX10_hangs, Cond.code yX10_hangs cX10_hangs 8 (some .int), Cond.methodLink RL 114 yX9_drop, Cond.instanceMethod yX9_drop, Cond.selects RX9 yX9_drop yX9_drop, Cond.code yX9_drop cX9_drop 5 (some .int), Cond.methodLink RX9 231 yX6_canDrop, Cond.instanceMethod yX6_canDrop, Cond.selects RX6 yX6_canDrop yX6_canDrop, Cond.code yX6_canDrop cX6_canDrop 3 (some .boolean), Cond.methodLink RX6 171 yX6_holdsTogether, Cond.instanceMethod yX6_holdsTogether, Cond.selects RX6 yX6_holdsTogether yX6_holdsTogether, Cond.code yX6_holdsTogether cX6_holdsTogether 3 (some .boolean), Cond.methodLink RX6 168 yX6_hanging, Cond.methodLink RL 117 yX10_drop, Cond.instanceMethod yX10_drop, Cond.selects RX10 yX10_drop yX10_drop, Cond.code yX10_drop cX10_drop 5 (some .int), Cond.methodLink RL 118 yX9_tie, Cond.instanceMethod yX9_tie, Cond.selects RX9 yX9_tie yX9_tie]
def wsL_law_r50 : List Cond := [Cond.code yX9_tie cX9_tie 3 (some .int), Cond.methodLink RX9 234 yX6_holdsTogether, Cond.methodLink RL 121 yX10_tie, Cond.instanceMethod yX10_tie, Cond.selects RX10 yX10_tie yX10_tie, Cond.code yX10_tie cX10_tie 3 (some .int), Cond.methodLink RL 122 yX9_rings, Cond.instanceMethod yX9_rings, Cond.selects RX9 yX9_rings yX9_rings, Cond.code yX9_rings cX9_rings 4 (some .int), Cond.methodLink RX9 237 yX6_followCalls, Cond.instanceMethod yX6_followCalls, Cond.selects RX6 yX6_followCalls yX6_followCalls, Cond.code yX6_followCalls cX6_followCalls 3 none, Cond.fieldLink RX6 163 "CardBowl$Deeds" "what" "[I", Cond.fieldLink RX6 157 "CardBowl$Deeds" "who" "[I", Cond.fieldLink RX6 160 "CardBowl$Deeds" "whom" "[I", Cond.methodLink RX9 240 yX6_ringBits, Cond.instanceMethod yX6_ringBits, Cond.selects RX6 yX6_ringBits yX6_ringBits, Cond.code yX6_ringBits cX6_ringBits 4 (some .int), Cond.methodLink RX9 243 yJ6_numberOfTrailingZeros_0f7a4, Cond.methodLink RL 125 yX10_rings, Cond.instanceMethod yX10_rings]
def wsL_law_r51 : List Cond := [Cond.selects RX10 yX10_rings yX10_rings, Cond.code yX10_rings cX10_rings 4 (some .int), Cond.methodLink RX10 462 yX10_callsAll, Cond.instanceMethod yX10_callsAll, Cond.selects RX10 yX10_callsAll yX10_callsAll, Cond.code yX10_callsAll cX10_callsAll 2 none, Cond.constantLong RX10 99 (2), Cond.methodLink RX10 465 yX10_ringOf, Cond.instanceMethod yX10_ringOf, Cond.selects RX10 yX10_ringOf yX10_ringOf, Cond.code yX10_ringOf cX10_ringOf 4 (some .int), Cond.methodLink RX10 459 yX10_comesTo, Cond.instanceMethod yX10_comesTo, Cond.selects RX10 yX10_comesTo yX10_comesTo, Cond.code yX10_comesTo cX10_comesTo 5 (some .int), Cond.methodLink RL 126 yX9_ring, Cond.instanceMethod yX9_ring, Cond.selects RX9 yX9_ring yX9_ring, Cond.code yX9_ring cX9_ring 2 (some .int), Cond.methodLink RL 129 yX10_ring, Cond.instanceMethod yX10_ring, Cond.selects RX10 yX10_ring yX10_ring, Cond.code yX10_ring cX10_ring 2 (some .int), Cond.methodLink RL 130 yX9_house]
def wsL_law_r52 : List Cond := [Cond.instanceMethod yX9_house, Cond.selects RX9 yX9_house yX9_house, Cond.code yX9_house cX9_house 3 (some .int), Cond.constant RX9 248 (-2000000000), Cond.fieldLink RX9 249 "CardBowl$Town" "x" "[I", Cond.fieldLink RX9 252 "CardBowl$Town" "y" "[I", Cond.fieldLink RX9 255 "CardBowl$Town" "weekday" "[I", Cond.fieldLink RX9 258 "CardBowl$Town" "from" "[I", Cond.fieldLink RX9 261 "CardBowl$Town" "to" "[I", Cond.fieldLink RX9 264 "CardBowl$Town" "came" "[I", Cond.methodLink RX9 265 yX2_callsBy, Cond.instanceMethod yX2_callsBy, Cond.selects RX2 yX2_callsBy yX2_callsBy, Cond.code yX2_callsBy cX2_callsBy 4 (some .int), Cond.methodLink RX9 268 yX2_callsTo, Cond.instanceMethod yX2_callsTo, Cond.selects RX2 yX2_callsTo yX2_callsTo, Cond.code yX2_callsTo cX2_callsTo 4 (some .int), Cond.methodLink RL 133 yX10_house, Cond.instanceMethod yX10_house, Cond.selects RX10 yX10_house yX10_house, Cond.code yX10_house cX10_house 5 (some .int), Cond.constantLong RX10 468 (8), Cond.constant RX10 470 (-2000000000)]
def wsL_law_r53 : List Cond := [Cond.methodLink RL 134 yX9_beside, Cond.instanceMethod yX9_beside, Cond.selects RX9 yX9_beside yX9_beside, Cond.code yX9_beside cX9_beside 3 (some .int), Cond.fieldLink RX9 274 "CardBowl$State" "code" "LCardBowl$Code;", Cond.fieldLink RX9 279 "CardBowl$Debts" "size" "I", Cond.methodLink RX9 271 yX9_isImage, Cond.static yX9_isImage, Cond.code yX9_isImage cX9_isImage 1 (some .boolean), Cond.methodLink RX9 275 yX6_replay, Cond.instanceMethod yX6_replay, Cond.selects RX6 yX6_replay yX6_replay, Cond.code yX6_replay cX6_replay 8 none, Cond.fieldLink RX6 166 "CardBowl$Deeds" "day" "[I", Cond.methodLink RL 137 yX10_beside, Cond.instanceMethod yX10_beside, Cond.selects RX10 yX10_beside yX10_beside, Cond.code yX10_beside cX10_beside 5 (some .int), Cond.methodLink RL 138 yX9_count, Cond.instanceMethod yX9_count, Cond.selects RX9 yX9_count yX9_count, Cond.code yX9_count cX9_count 2 (some .int), Cond.fieldLink RX9 280 "CardBowl$Code" "lines" "I", Cond.fieldLink RX9 288 "CardBowl$Deeds" "size" "I"]
def wsL_law_r54 : List Cond := [Cond.fieldLink RX9 289 "CardBowl$State" "paid" "I", Cond.fieldLink RX9 292 "CardBowl$Town" "introducers" "I", Cond.fieldLink RX9 295 "CardBowl$Town" "fresh" "I", Cond.methodLink RX9 285 yX1_overdue, Cond.instanceMethod yX1_overdue, Cond.selects RX1 yX1_overdue yX1_overdue, Cond.code yX1_overdue cX1_overdue 4 (some .int), Cond.methodLink RX9 298 yX9_filledSlots, Cond.instanceMethod yX9_filledSlots, Cond.selects RX9 yX9_filledSlots yX9_filledSlots, Cond.code yX9_filledSlots cX9_filledSlots 3 (some .int), Cond.methodLink RL 141 yX10_count, Cond.instanceMethod yX10_count, Cond.selects RX10 yX10_count yX10_count, Cond.code yX10_count cX10_count 4 (some .int), Cond.methodLink RL 142 yX9_keep, Cond.instanceMethod yX9_keep, Cond.selects RX9 yX9_keep yX9_keep, Cond.code yX9_keep cX9_keep 3 (some .int), Cond.methodLink RX9 302 yX6_copy, Cond.instanceMethod yX6_copy, Cond.selects RX6 yX6_copy yX6_copy, Cond.code yX6_copy cX6_copy 2 none, Cond.methodLink RX6 75 yX1_copy]
def wsL_law_r55 : List Cond := [Cond.instanceMethod yX1_copy, Cond.selects RX1 yX1_copy yX1_copy, Cond.code yX1_copy cX1_copy 2 none, Cond.methodLink RX1 43 arraycopyName, Cond.methodLink RX6 78 yX2_copy, Cond.instanceMethod yX2_copy, Cond.selects RX2 yX2_copy yX2_copy, Cond.code yX2_copy cX2_copy 2 none, Cond.methodLink RX2 28 arraycopyName, Cond.methodLink RL 145 yX10_keep, Cond.instanceMethod yX10_keep, Cond.selects RX10 yX10_keep yX10_keep, Cond.code yX10_keep cX10_keep 3 (some .int), Cond.methodLink RL 146 yX9_back, Cond.instanceMethod yX9_back, Cond.selects RX9 yX9_back yX9_back, Cond.code yX9_back cX9_back 3 (some .int), Cond.methodLink RL 149 yX10_back, Cond.instanceMethod yX10_back, Cond.selects RX10 yX10_back yX10_back, Cond.code yX10_back cX10_back 3 (some .int), Cond.methodLink RL 150 yX9_row, Cond.instanceMethod yX9_row, Cond.selects RX9 yX9_row yX9_row]
def wsL_law_r56 : List Cond := [Cond.code yX9_row cX9_row 4 (some .int), Cond.methodLink RX9 306 yX5_lay, Cond.instanceMethod yX5_lay, Cond.selects RX5 yX5_lay yX5_lay, Cond.code yX5_lay cX5_lay 3 none, Cond.fieldLink RX5 15 "CardBowl$Slot" "filled" "Z", Cond.fieldLink RX5 19 "CardBowl$Slot" "width" "I", Cond.methodLink RX5 26 yJ7_fill_d0a16, Cond.static yJ7_fill_d0a16, Cond.code yJ7_fill_d0a16 cJ7_fill_d0a16 5 none, Cond.methodLink RL 153 yX10_row, Cond.instanceMethod yX10_row, Cond.selects RX10 yX10_row yX10_row, Cond.code yX10_row cX10_row 5 (some .int), Cond.methodLink RL 156 yX9_write, Cond.instanceMethod yX9_write, Cond.selects RX9 yX9_write yX9_write, Cond.code yX9_write cX9_write 6 (some .int), Cond.fieldLink RX9 310 "CardBowl$Slot" "numbers" "[J", Cond.methodLink RX9 314 yX5_cut, Cond.instanceMethod yX5_cut, Cond.selects RX5 yX5_cut yX5_cut, Cond.code yX5_cut cX5_cut 3 (some .long), Cond.methodLink RL 160 yX10_write]
def wsL_law_r57 : List Cond := [Cond.instanceMethod yX10_write, Cond.selects RX10 yX10_write yX10_write, Cond.code yX10_write cX10_write 5 (some .int), Cond.methodLink RX10 471 yX10_cut, Cond.static yX10_cut, Cond.code yX10_cut cX10_cut 4 (some .long), Cond.methodLink RL 161 yX9_paste, Cond.instanceMethod yX9_paste, Cond.selects RX9 yX9_paste yX9_paste, Cond.code yX9_paste cX9_paste 8 (some .int), Cond.fieldLink RX9 318 "CardBowl$Slot" "width" "I", Cond.methodLink RX9 324 arraycopyName, Cond.methodLink RX9 321 yX5_hasRun, Cond.instanceMethod yX5_hasRun, Cond.selects RX5 yX5_hasRun yX5_hasRun, Cond.code yX5_hasRun cX5_hasRun 3 (some .boolean), Cond.methodLink RL 164 yX10_paste, Cond.instanceMethod yX10_paste, Cond.selects RX10 yX10_paste yX10_paste, Cond.code yX10_paste cX10_paste 7 (some .int)]
def wsL_law : List Cond := (wsL_law_r1 ++ (wsL_law_r2 ++ (wsL_law_r3 ++ (wsL_law_r4 ++ (wsL_law_r5 ++ (wsL_law_r6 ++ (wsL_law_r7 ++ (wsL_law_r8 ++ (wsL_law_r9 ++ (wsL_law_r10 ++ (wsL_law_r11 ++ (wsL_law_r12 ++ (wsL_law_r13 ++ (wsL_law_r14 ++ (wsL_law_r15 ++ (wsL_law_r16 ++ (wsL_law_r17 ++ (wsL_law_r18 ++ (wsL_law_r19 ++ (wsL_law_r20 ++ (wsL_law_r21 ++ (wsL_law_r22 ++ (wsL_law_r23 ++ (wsL_law_r24 ++ (wsL_law_r25 ++ (wsL_law_r26 ++ (wsL_law_r27 ++ (wsL_law_r28 ++ (wsL_law_r29 ++ (wsL_law_r30 ++ (wsL_law_r31 ++ (wsL_law_r32 ++ (wsL_law_r33 ++ (wsL_law_r34 ++ (wsL_law_r35 ++ (wsL_law_r36 ++ (wsL_law_r37 ++ (wsL_law_r38 ++ (wsL_law_r39 ++ (wsL_law_r40 ++ (wsL_law_r41 ++ (wsL_law_r42 ++ (wsL_law_r43 ++ (wsL_law_r44 ++ (wsL_law_r45 ++ (wsL_law_r46 ++ (wsL_law_r47 ++ (wsL_law_r48 ++ (wsL_law_r49 ++ (wsL_law_r50 ++ (wsL_law_r51 ++ (wsL_law_r52 ++ (wsL_law_r53 ++ (wsL_law_r54 ++ (wsL_law_r55 ++ (wsL_law_r56 ++ wsL_law_r57)))))))))))))))))))))))))))))))))))))))))))))))))))))))) ++ wsX90 ++ wsX100 ++ wsX30 ++ wsX60 ++ wsX40 ++ wsX80 ++ wsX10 ++ wsX50 ++ wsX70 ++ wsX00 ++ wsX20 ++ ([] : List Cond)
set_option maxRecDepth 20000 in
theorem wsL_law_in : ∀ w ∈ wsL_law, w ∈ lw_tbl := fun w h => (goodIn_p wsL_law [126, 129, 134, 140, 217, 299, 309, 349, 417, 480, 524, 1233, 579, 583, 1375, 587, 1379, 1367, 591, 595, 598, 602, 605, 609, 613, 617, 621, 627, 631, 635, 641, 645, 648, 651, 656, 659, 662, 665, 669, 679, 683, 688, 694, 699, 703, 708, 713, 717, 727, 731, 735, 739, 746, 751, 757, 1387, 1391, 1395, 1404, 1408, 1412, 1417, 1430, 1434, 1438, 1443, 1447, 1452, 1456, 1461, 1465, 1469, 1485, 1492, 1505, 1509, 761, 1383, 765, 1513, 1518, 769, 773, 777, 781, 785, 789, 793, 797, 801, 804, 811, 1522, 1526, 1530, 1533, 1538, 1542, 1546, 1549, 1553, 1557, 1560, 815, 819, 823, 827, 831, 835, 839, 843, 847, 852, 856, 861, 864, 870, 874, 877, 1568, 1572, 1576, 1580, 1584, 1588, 1592, 1596, 1600, 1604, 1608, 1614, 1618, 881, 885, 1622, 889, 892, 896, 1626, 1629, 903, 1564, 908, 1637, 913, 917, 1641, 1645, 921, 925, 1649, 1653, 929, 1657, 933, 937, 1661, 941, 945, 949, 954, 958, 961, 965, 968, 972, 975, 979, 983, 988, 991, 995, 998, 1002, 1006, 1010, 1014, 1665, 1669, 1674, 1678, 1682, 1686, 1690, 1694, 1700, 1018, 1708, 1712, 1022, 1704, 1026, 1030, 1716, 1036, 1040, 1044, 1049, 1053, 1720, 1724, 1728, 1057, 1061, 1065, 1732, 1069, 1073, 1077, 1083, 1087, 1091, 1095, 1736, 1740, 1744, 1099, 1748, 1103, 1107, 1752, 1756, 1111, 1115, 1119, 1760, 1124, 1764, 1129, 1133, 1137, 1784, 1772, 1776, 1780, 1142, 1768, 1146, 1151, 1155, 1788, 1159, 1162, 1166, 1794, 1170, 1174, 1178, 1798, 1182, 1186, 1190, 1195, 1363, 1200, 1371, 1204, 1208, 1211, 1802, 1215, 1219, 1806, 1809, 1223, 1227, 1813] (by decide +kernel) (by decide +kernel) w h).1
theorem inlX0 : ∀ w ∈ wsX00, w ∈ wsL_law := fun _ h => List.mem_append_left _ (List.mem_append_left _ (List.mem_append_right _ h))
theorem inX0 : ∀ w ∈ wsX00, w ∈ lw_tbl := fun w h => wsL_law_in w (inlX0 w h)
theorem inlX1 : ∀ w ∈ wsX10, w ∈ wsL_law := fun _ h => List.mem_append_left _ (List.mem_append_left _ (List.mem_append_left _ (List.mem_append_left _ (List.mem_append_left _ (List.mem_append_right _ h)))))
theorem inX1 : ∀ w ∈ wsX10, w ∈ lw_tbl := fun w h => wsL_law_in w (inlX1 w h)
theorem inlX2 : ∀ w ∈ wsX20, w ∈ wsL_law := fun _ h => List.mem_append_left _ (List.mem_append_right _ h)
theorem inX2 : ∀ w ∈ wsX20, w ∈ lw_tbl := fun w h => wsL_law_in w (inlX2 w h)
theorem inlX3 : ∀ w ∈ wsX30, w ∈ wsL_law := fun _ h => List.mem_append_left _ (List.mem_append_left _ (List.mem_append_left _ (List.mem_append_left _ (List.mem_append_left _ (List.mem_append_left _ (List.mem_append_left _ (List.mem_append_left _ (List.mem_append_left _ (List.mem_append_right _ h)))))))))
theorem inX3 : ∀ w ∈ wsX30, w ∈ lw_tbl := fun w h => wsL_law_in w (inlX3 w h)
theorem inlX4 : ∀ w ∈ wsX40, w ∈ wsL_law := fun _ h => List.mem_append_left _ (List.mem_append_left _ (List.mem_append_left _ (List.mem_append_left _ (List.mem_append_left _ (List.mem_append_left _ (List.mem_append_left _ (List.mem_append_right _ h)))))))
theorem inX4 : ∀ w ∈ wsX40, w ∈ lw_tbl := fun w h => wsL_law_in w (inlX4 w h)
theorem inlX5 : ∀ w ∈ wsX50, w ∈ wsL_law := fun _ h => List.mem_append_left _ (List.mem_append_left _ (List.mem_append_left _ (List.mem_append_left _ (List.mem_append_right _ h))))
theorem inX5 : ∀ w ∈ wsX50, w ∈ lw_tbl := fun w h => wsL_law_in w (inlX5 w h)
theorem inlX6 : ∀ w ∈ wsX60, w ∈ wsL_law := fun _ h => List.mem_append_left _ (List.mem_append_left _ (List.mem_append_left _ (List.mem_append_left _ (List.mem_append_left _ (List.mem_append_left _ (List.mem_append_left _ (List.mem_append_left _ (List.mem_append_right _ h))))))))
theorem inX6 : ∀ w ∈ wsX60, w ∈ lw_tbl := fun w h => wsL_law_in w (inlX6 w h)
theorem inlX7 : ∀ w ∈ wsX70, w ∈ wsL_law := fun _ h => List.mem_append_left _ (List.mem_append_left _ (List.mem_append_left _ (List.mem_append_right _ h)))
theorem inX7 : ∀ w ∈ wsX70, w ∈ lw_tbl := fun w h => wsL_law_in w (inlX7 w h)
theorem inlX8 : ∀ w ∈ wsX80, w ∈ wsL_law := fun _ h => List.mem_append_left _ (List.mem_append_left _ (List.mem_append_left _ (List.mem_append_left _ (List.mem_append_left _ (List.mem_append_left _ (List.mem_append_right _ h))))))
theorem inX8 : ∀ w ∈ wsX80, w ∈ lw_tbl := fun w h => wsL_law_in w (inlX8 w h)
theorem inlX9 : ∀ w ∈ wsX90, w ∈ wsL_law := fun _ h => List.mem_append_left _ (List.mem_append_left _ (List.mem_append_left _ (List.mem_append_left _ (List.mem_append_left _ (List.mem_append_left _ (List.mem_append_left _ (List.mem_append_left _ (List.mem_append_left _ (List.mem_append_left _ (List.mem_append_left _ (List.mem_append_right _ h)))))))))))
theorem inX9 : ∀ w ∈ wsX90, w ∈ lw_tbl := fun w h => wsL_law_in w (inlX9 w h)
theorem inlX10 : ∀ w ∈ wsX100, w ∈ wsL_law := fun _ h => List.mem_append_left _ (List.mem_append_left _ (List.mem_append_left _ (List.mem_append_left _ (List.mem_append_left _ (List.mem_append_left _ (List.mem_append_left _ (List.mem_append_left _ (List.mem_append_left _ (List.mem_append_left _ (List.mem_append_right _ h))))))))))
theorem inX10 : ∀ w ∈ wsX100, w ∈ lw_tbl := fun w h => wsL_law_in w (inlX10 w h)
theorem inJx145de : ∀ w ∈ wsJx145de0, w ∈ lw_tbl := by decide +kernel
theorem inJx9f9b0 : ∀ w ∈ wsJx9f9b00, w ∈ lw_tbl := by decide +kernel
theorem inJxb160c : ∀ w ∈ wsJxb160c0, w ∈ lw_tbl := by decide +kernel
theorem inJ6 : ∀ w ∈ wsJ60, w ∈ lw_tbl := by decide +kernel
theorem inJ9 : ∀ w ∈ wsJ90, w ∈ lw_tbl := by decide +kernel
theorem inJ0 : ∀ w ∈ wsJ00, w ∈ lw_tbl := by decide +kernel
theorem inJ1 : ∀ w ∈ wsJ10, w ∈ lw_tbl := by decide +kernel
theorem inJ2 : ∀ w ∈ wsJ20, w ∈ lw_tbl := by decide +kernel
theorem inJ10 : ∀ w ∈ wsJ100, w ∈ lw_tbl := by decide +kernel
theorem inJxfd54e : ∀ w ∈ wsJxfd54e0, w ∈ lw_tbl := by decide +kernel
theorem inJx3cf43 : ∀ w ∈ wsJx3cf430, w ∈ lw_tbl := by decide +kernel
theorem inJ7 : ∀ w ∈ wsJ70, w ∈ lw_tbl := by decide +kernel
theorem inJ3 : ∀ w ∈ wsJ30, w ∈ lw_tbl := by decide +kernel
abbrev vwCl : List vw_C := [(RX0, TX0, 10), (RX1, TX1, 8), (RX2, TX2, 5), (RX3, TX3, 10), (RX4, TX4, 17), (RX5, TX5, 4), (RX6, TX6, 8), (RX7, TX7, 12), (RX8, TX8, 11), (RX9, TX9, 10), (RX10, TX10, 41)]
end
section
theorem dX0_init_0 : decode cX0_init 0 = .ok (.aload_n 0, 1) := by decide +kernel
theorem dX0_init_1 : decode cX0_init 1 = .ok (.invokespecial 3, 3) := by decide +kernel
theorem dX0_init_4 : decode cX0_init 4 = .ok (.aload_n 0, 1) := by decide +kernel
theorem dX0_init_5 : decode cX0_init 5 = .ok (.bipush 24, 2) := by decide +kernel
theorem dX0_init_7 : decode cX0_init 7 = .ok (.newarray .int, 2) := by decide +kernel
theorem dX0_init_9 : decode cX0_init 9 = .ok (.putfield 9, 3) := by decide +kernel
theorem dX0_init_12 : decode cX0_init 12 = .ok (.aload_n 0, 1) := by decide +kernel
theorem dX0_init_13 : decode cX0_init 13 = .ok (.bipush 24, 2) := by decide +kernel
theorem dX0_init_15 : decode cX0_init 15 = .ok (.newarray .int, 2) := by decide +kernel
theorem dX0_init_17 : decode cX0_init 17 = .ok (.putfield 15, 3) := by decide +kernel
theorem dX0_init_20 : decode cX0_init 20 = .ok (.aload_n 0, 1) := by decide +kernel
theorem dX0_init_21 : decode cX0_init 21 = .ok (.bipush 24, 2) := by decide +kernel
theorem dX0_init_23 : decode cX0_init 23 = .ok (.newarray .int, 2) := by decide +kernel
theorem dX0_init_25 : decode cX0_init 25 = .ok (.putfield 18, 3) := by decide +kernel
theorem dX0_init_28 : decode cX0_init 28 = .ok (.aload_n 0, 1) := by decide +kernel
theorem dX0_init_29 : decode cX0_init 29 = .ok (.bipush 24, 2) := by decide +kernel
theorem dX0_init_31 : decode cX0_init 31 = .ok (.newarray .int, 2) := by decide +kernel
theorem dX0_init_33 : decode cX0_init 33 = .ok (.putfield 21, 3) := by decide +kernel
theorem dX0_init_36 : decode cX0_init 36 = .ok (.aload_n 0, 1) := by decide +kernel
theorem dX0_init_37 : decode cX0_init 37 = .ok (.bipush 24, 2) := by decide +kernel
theorem dX0_init_39 : decode cX0_init 39 = .ok (.newarray .int, 2) := by decide +kernel
theorem dX0_init_41 : decode cX0_init 41 = .ok (.putfield 24, 3) := by decide +kernel
theorem dX0_init_44 : decode cX0_init 44 = .ok (.aload_n 0, 1) := by decide +kernel
theorem dX0_init_45 : decode cX0_init 45 = .ok (.sipush 700, 3) := by decide +kernel
theorem dX0_init_48 : decode cX0_init 48 = .ok (.newarray .int, 2) := by decide +kernel
theorem dX0_init_50 : decode cX0_init 50 = .ok (.putfield 27, 3) := by decide +kernel
theorem dX0_init_53 : decode cX0_init 53 = .ok (.aload_n 0, 1) := by decide +kernel
theorem dX0_init_54 : decode cX0_init 54 = .ok (.iconst 5, 1) := by decide +kernel
theorem dX0_init_55 : decode cX0_init 55 = .ok (.newarray .int, 2) := by decide +kernel
theorem dX0_init_57 : decode cX0_init 57 = .ok (.putfield 30, 3) := by decide +kernel
theorem dX0_init_60 : decode cX0_init 60 = .ok (.return_, 1) := by decide +kernel
theorem dX0_clear_0 : decode cX0_clear 0 = .ok (.aload_n 0, 1) := by decide +kernel
theorem dX0_clear_1 : decode cX0_clear 1 = .ok (.iconst 0, 1) := by decide +kernel
theorem dX0_clear_2 : decode cX0_clear 2 = .ok (.putfield 33, 3) := by decide +kernel
theorem dX0_clear_5 : decode cX0_clear 5 = .ok (.aload_n 0, 1) := by decide +kernel
theorem dX0_clear_6 : decode cX0_clear 6 = .ok (.iconst 0, 1) := by decide +kernel
theorem dX0_clear_7 : decode cX0_clear 7 = .ok (.putfield 37, 3) := by decide +kernel
theorem dX0_clear_10 : decode cX0_clear 10 = .ok (.return_, 1) := by decide +kernel
theorem dX0_copy_0 : decode cX0_copy 0 = .ok (.aload_n 0, 1) := by decide +kernel
theorem dX0_copy_1 : decode cX0_copy 1 = .ok (.aload_n 1, 1) := by decide +kernel
theorem dX0_copy_2 : decode cX0_copy 2 = .ok (.getfield 33, 3) := by decide +kernel
theorem dX0_copy_5 : decode cX0_copy 5 = .ok (.putfield 33, 3) := by decide +kernel
theorem dX0_copy_8 : decode cX0_copy 8 = .ok (.aload_n 0, 1) := by decide +kernel
theorem dX0_copy_9 : decode cX0_copy 9 = .ok (.aload_n 1, 1) := by decide +kernel
theorem dX0_copy_10 : decode cX0_copy 10 = .ok (.getfield 37, 3) := by decide +kernel
theorem dX0_copy_13 : decode cX0_copy 13 = .ok (.putfield 37, 3) := by decide +kernel
theorem dX0_copy_16 : decode cX0_copy 16 = .ok (.aload_n 1, 1) := by decide +kernel
theorem dX0_copy_17 : decode cX0_copy 17 = .ok (.getfield 9, 3) := by decide +kernel
theorem dX0_copy_20 : decode cX0_copy 20 = .ok (.iconst 0, 1) := by decide +kernel
theorem dX0_copy_21 : decode cX0_copy 21 = .ok (.aload_n 0, 1) := by decide +kernel
theorem dX0_copy_22 : decode cX0_copy 22 = .ok (.getfield 9, 3) := by decide +kernel
theorem dX0_copy_25 : decode cX0_copy 25 = .ok (.iconst 0, 1) := by decide +kernel
theorem dX0_copy_26 : decode cX0_copy 26 = .ok (.aload_n 0, 1) := by decide +kernel
theorem dX0_copy_27 : decode cX0_copy 27 = .ok (.getfield 33, 3) := by decide +kernel
theorem dX0_copy_30 : decode cX0_copy 30 = .ok (.invokestatic 40, 3) := by decide +kernel
theorem dX0_copy_33 : decode cX0_copy 33 = .ok (.aload_n 1, 1) := by decide +kernel
theorem dX0_copy_34 : decode cX0_copy 34 = .ok (.getfield 15, 3) := by decide +kernel
theorem dX0_copy_37 : decode cX0_copy 37 = .ok (.iconst 0, 1) := by decide +kernel
theorem dX0_copy_38 : decode cX0_copy 38 = .ok (.aload_n 0, 1) := by decide +kernel
theorem dX0_copy_39 : decode cX0_copy 39 = .ok (.getfield 15, 3) := by decide +kernel
theorem dX0_copy_42 : decode cX0_copy 42 = .ok (.iconst 0, 1) := by decide +kernel
theorem dX0_copy_43 : decode cX0_copy 43 = .ok (.aload_n 0, 1) := by decide +kernel
theorem dX0_copy_44 : decode cX0_copy 44 = .ok (.getfield 33, 3) := by decide +kernel
theorem dX0_copy_47 : decode cX0_copy 47 = .ok (.invokestatic 40, 3) := by decide +kernel
theorem dX0_copy_50 : decode cX0_copy 50 = .ok (.aload_n 1, 1) := by decide +kernel
theorem dX0_copy_51 : decode cX0_copy 51 = .ok (.getfield 18, 3) := by decide +kernel
theorem dX0_copy_54 : decode cX0_copy 54 = .ok (.iconst 0, 1) := by decide +kernel
theorem dX0_copy_55 : decode cX0_copy 55 = .ok (.aload_n 0, 1) := by decide +kernel
theorem dX0_copy_56 : decode cX0_copy 56 = .ok (.getfield 18, 3) := by decide +kernel
theorem dX0_copy_59 : decode cX0_copy 59 = .ok (.iconst 0, 1) := by decide +kernel
theorem dX0_copy_60 : decode cX0_copy 60 = .ok (.aload_n 0, 1) := by decide +kernel
theorem dX0_copy_61 : decode cX0_copy 61 = .ok (.getfield 33, 3) := by decide +kernel
theorem dX0_copy_64 : decode cX0_copy 64 = .ok (.invokestatic 40, 3) := by decide +kernel
theorem dX0_copy_67 : decode cX0_copy 67 = .ok (.aload_n 1, 1) := by decide +kernel
theorem dX0_copy_68 : decode cX0_copy 68 = .ok (.getfield 21, 3) := by decide +kernel
theorem dX0_copy_71 : decode cX0_copy 71 = .ok (.iconst 0, 1) := by decide +kernel
theorem dX0_copy_72 : decode cX0_copy 72 = .ok (.aload_n 0, 1) := by decide +kernel
theorem dX0_copy_73 : decode cX0_copy 73 = .ok (.getfield 21, 3) := by decide +kernel
theorem dX0_copy_76 : decode cX0_copy 76 = .ok (.iconst 0, 1) := by decide +kernel
theorem dX0_copy_77 : decode cX0_copy 77 = .ok (.aload_n 0, 1) := by decide +kernel
theorem dX0_copy_78 : decode cX0_copy 78 = .ok (.getfield 33, 3) := by decide +kernel
theorem dX0_copy_81 : decode cX0_copy 81 = .ok (.invokestatic 40, 3) := by decide +kernel
theorem dX0_copy_84 : decode cX0_copy 84 = .ok (.aload_n 1, 1) := by decide +kernel
theorem dX0_copy_85 : decode cX0_copy 85 = .ok (.getfield 24, 3) := by decide +kernel
theorem dX0_copy_88 : decode cX0_copy 88 = .ok (.iconst 0, 1) := by decide +kernel
theorem dX0_copy_89 : decode cX0_copy 89 = .ok (.aload_n 0, 1) := by decide +kernel
theorem dX0_copy_90 : decode cX0_copy 90 = .ok (.getfield 24, 3) := by decide +kernel
theorem dX0_copy_93 : decode cX0_copy 93 = .ok (.iconst 0, 1) := by decide +kernel
theorem dX0_copy_94 : decode cX0_copy 94 = .ok (.aload_n 0, 1) := by decide +kernel
theorem dX0_copy_95 : decode cX0_copy 95 = .ok (.getfield 33, 3) := by decide +kernel
theorem dX0_copy_98 : decode cX0_copy 98 = .ok (.invokestatic 40, 3) := by decide +kernel
theorem dX0_copy_101 : decode cX0_copy 101 = .ok (.aload_n 1, 1) := by decide +kernel
theorem dX0_copy_102 : decode cX0_copy 102 = .ok (.getfield 27, 3) := by decide +kernel
theorem dX0_copy_105 : decode cX0_copy 105 = .ok (.iconst 0, 1) := by decide +kernel
theorem dX0_copy_106 : decode cX0_copy 106 = .ok (.aload_n 0, 1) := by decide +kernel
theorem dX0_copy_107 : decode cX0_copy 107 = .ok (.getfield 27, 3) := by decide +kernel
theorem dX0_copy_110 : decode cX0_copy 110 = .ok (.iconst 0, 1) := by decide +kernel
theorem dX0_copy_111 : decode cX0_copy 111 = .ok (.aload_n 0, 1) := by decide +kernel
theorem dX0_copy_112 : decode cX0_copy 112 = .ok (.getfield 37, 3) := by decide +kernel
theorem dX0_copy_115 : decode cX0_copy 115 = .ok (.invokestatic 40, 3) := by decide +kernel
theorem dX0_copy_118 : decode cX0_copy 118 = .ok (.return_, 1) := by decide +kernel
theorem dX1_init_0 : decode cX1_init 0 = .ok (.aload_n 0, 1) := by decide +kernel
theorem dX1_init_1 : decode cX1_init 1 = .ok (.invokespecial 3, 3) := by decide +kernel
theorem dX1_init_4 : decode cX1_init 4 = .ok (.aload_n 0, 1) := by decide +kernel
theorem dX1_init_5 : decode cX1_init 5 = .ok (.sipush 600, 3) := by decide +kernel
theorem dX1_init_8 : decode cX1_init 8 = .ok (.newarray .int, 2) := by decide +kernel
theorem dX1_init_10 : decode cX1_init 10 = .ok (.putfield 9, 3) := by decide +kernel
theorem dX1_init_13 : decode cX1_init 13 = .ok (.aload_n 0, 1) := by decide +kernel
theorem dX1_init_14 : decode cX1_init 14 = .ok (.sipush 600, 3) := by decide +kernel
theorem dX1_init_17 : decode cX1_init 17 = .ok (.newarray .int, 2) := by decide +kernel
theorem dX1_init_19 : decode cX1_init 19 = .ok (.putfield 15, 3) := by decide +kernel
theorem dX1_init_22 : decode cX1_init 22 = .ok (.aload_n 0, 1) := by decide +kernel
theorem dX1_init_23 : decode cX1_init 23 = .ok (.sipush 600, 3) := by decide +kernel
theorem dX1_init_26 : decode cX1_init 26 = .ok (.newarray .int, 2) := by decide +kernel
theorem dX1_init_28 : decode cX1_init 28 = .ok (.putfield 18, 3) := by decide +kernel
theorem dX1_init_31 : decode cX1_init 31 = .ok (.aload_n 0, 1) := by decide +kernel
theorem dX1_init_32 : decode cX1_init 32 = .ok (.sipush 600, 3) := by decide +kernel
theorem dX1_init_35 : decode cX1_init 35 = .ok (.newarray .int, 2) := by decide +kernel
theorem dX1_init_37 : decode cX1_init 37 = .ok (.putfield 21, 3) := by decide +kernel
theorem dX1_init_40 : decode cX1_init 40 = .ok (.aload_n 0, 1) := by decide +kernel
theorem dX1_init_41 : decode cX1_init 41 = .ok (.sipush 600, 3) := by decide +kernel
theorem dX1_init_44 : decode cX1_init 44 = .ok (.newarray .int, 2) := by decide +kernel
theorem dX1_init_46 : decode cX1_init 46 = .ok (.putfield 24, 3) := by decide +kernel
theorem dX1_init_49 : decode cX1_init 49 = .ok (.aload_n 0, 1) := by decide +kernel
theorem dX1_init_50 : decode cX1_init 50 = .ok (.bipush 16, 2) := by decide +kernel
theorem dX1_init_52 : decode cX1_init 52 = .ok (.newarray .int, 2) := by decide +kernel
theorem dX1_init_54 : decode cX1_init 54 = .ok (.putfield 27, 3) := by decide +kernel
theorem dX1_init_57 : decode cX1_init 57 = .ok (.aload_n 0, 1) := by decide +kernel
theorem dX1_init_58 : decode cX1_init 58 = .ok (.sipush 256, 3) := by decide +kernel
theorem dX1_init_61 : decode cX1_init 61 = .ok (.newarray .int, 2) := by decide +kernel
theorem dX1_init_63 : decode cX1_init 63 = .ok (.putfield 30, 3) := by decide +kernel
theorem dX1_init_66 : decode cX1_init 66 = .ok (.return_, 1) := by decide +kernel
theorem dX1_clear_0 : decode cX1_clear 0 = .ok (.aload_n 0, 1) := by decide +kernel
theorem dX1_clear_1 : decode cX1_clear 1 = .ok (.iconst 0, 1) := by decide +kernel
theorem dX1_clear_2 : decode cX1_clear 2 = .ok (.putfield 33, 3) := by decide +kernel
theorem dX1_clear_5 : decode cX1_clear 5 = .ok (.aload_n 0, 1) := by decide +kernel
theorem dX1_clear_6 : decode cX1_clear 6 = .ok (.getfield 27, 3) := by decide +kernel
theorem dX1_clear_9 : decode cX1_clear 9 = .ok (.iconst 0, 1) := by decide +kernel
theorem dX1_clear_10 : decode cX1_clear 10 = .ok (.invokestatic 37, 3) := by decide +kernel
theorem dX1_clear_13 : decode cX1_clear 13 = .ok (.aload_n 0, 1) := by decide +kernel
theorem dX1_clear_14 : decode cX1_clear 14 = .ok (.getfield 30, 3) := by decide +kernel
theorem dX1_clear_17 : decode cX1_clear 17 = .ok (.iconst 0, 1) := by decide +kernel
theorem dX1_clear_18 : decode cX1_clear 18 = .ok (.invokestatic 37, 3) := by decide +kernel
theorem dX1_clear_21 : decode cX1_clear 21 = .ok (.return_, 1) := by decide +kernel
theorem dX1_copy_0 : decode cX1_copy 0 = .ok (.aload_n 0, 1) := by decide +kernel
theorem dX1_copy_1 : decode cX1_copy 1 = .ok (.aload_n 1, 1) := by decide +kernel
theorem dX1_copy_2 : decode cX1_copy 2 = .ok (.getfield 33, 3) := by decide +kernel
theorem dX1_copy_5 : decode cX1_copy 5 = .ok (.putfield 33, 3) := by decide +kernel
theorem dX1_copy_8 : decode cX1_copy 8 = .ok (.aload_n 1, 1) := by decide +kernel
theorem dX1_copy_9 : decode cX1_copy 9 = .ok (.getfield 9, 3) := by decide +kernel
theorem dX1_copy_12 : decode cX1_copy 12 = .ok (.iconst 0, 1) := by decide +kernel
theorem dX1_copy_13 : decode cX1_copy 13 = .ok (.aload_n 0, 1) := by decide +kernel
theorem dX1_copy_14 : decode cX1_copy 14 = .ok (.getfield 9, 3) := by decide +kernel
theorem dX1_copy_17 : decode cX1_copy 17 = .ok (.iconst 0, 1) := by decide +kernel
theorem dX1_copy_18 : decode cX1_copy 18 = .ok (.aload_n 0, 1) := by decide +kernel
theorem dX1_copy_19 : decode cX1_copy 19 = .ok (.getfield 33, 3) := by decide +kernel
theorem dX1_copy_22 : decode cX1_copy 22 = .ok (.invokestatic 43, 3) := by decide +kernel
theorem dX1_copy_25 : decode cX1_copy 25 = .ok (.aload_n 1, 1) := by decide +kernel
theorem dX1_copy_26 : decode cX1_copy 26 = .ok (.getfield 15, 3) := by decide +kernel
theorem dX1_copy_29 : decode cX1_copy 29 = .ok (.iconst 0, 1) := by decide +kernel
theorem dX1_copy_30 : decode cX1_copy 30 = .ok (.aload_n 0, 1) := by decide +kernel
theorem dX1_copy_31 : decode cX1_copy 31 = .ok (.getfield 15, 3) := by decide +kernel
theorem dX1_copy_34 : decode cX1_copy 34 = .ok (.iconst 0, 1) := by decide +kernel
theorem dX1_copy_35 : decode cX1_copy 35 = .ok (.aload_n 0, 1) := by decide +kernel
theorem dX1_copy_36 : decode cX1_copy 36 = .ok (.getfield 33, 3) := by decide +kernel
theorem dX1_copy_39 : decode cX1_copy 39 = .ok (.invokestatic 43, 3) := by decide +kernel
theorem dX1_copy_42 : decode cX1_copy 42 = .ok (.aload_n 1, 1) := by decide +kernel
theorem dX1_copy_43 : decode cX1_copy 43 = .ok (.getfield 18, 3) := by decide +kernel
theorem dX1_copy_46 : decode cX1_copy 46 = .ok (.iconst 0, 1) := by decide +kernel
theorem dX1_copy_47 : decode cX1_copy 47 = .ok (.aload_n 0, 1) := by decide +kernel
theorem dX1_copy_48 : decode cX1_copy 48 = .ok (.getfield 18, 3) := by decide +kernel
theorem dX1_copy_51 : decode cX1_copy 51 = .ok (.iconst 0, 1) := by decide +kernel
theorem dX1_copy_52 : decode cX1_copy 52 = .ok (.aload_n 0, 1) := by decide +kernel
theorem dX1_copy_53 : decode cX1_copy 53 = .ok (.getfield 33, 3) := by decide +kernel
theorem dX1_copy_56 : decode cX1_copy 56 = .ok (.invokestatic 43, 3) := by decide +kernel
theorem dX1_copy_59 : decode cX1_copy 59 = .ok (.aload_n 1, 1) := by decide +kernel
theorem dX1_copy_60 : decode cX1_copy 60 = .ok (.getfield 21, 3) := by decide +kernel
theorem dX1_copy_63 : decode cX1_copy 63 = .ok (.iconst 0, 1) := by decide +kernel
theorem dX1_copy_64 : decode cX1_copy 64 = .ok (.aload_n 0, 1) := by decide +kernel
theorem dX1_copy_65 : decode cX1_copy 65 = .ok (.getfield 21, 3) := by decide +kernel
theorem dX1_copy_68 : decode cX1_copy 68 = .ok (.iconst 0, 1) := by decide +kernel
theorem dX1_copy_69 : decode cX1_copy 69 = .ok (.aload_n 0, 1) := by decide +kernel
theorem dX1_copy_70 : decode cX1_copy 70 = .ok (.getfield 33, 3) := by decide +kernel
theorem dX1_copy_73 : decode cX1_copy 73 = .ok (.invokestatic 43, 3) := by decide +kernel
theorem dX1_copy_76 : decode cX1_copy 76 = .ok (.aload_n 1, 1) := by decide +kernel
theorem dX1_copy_77 : decode cX1_copy 77 = .ok (.getfield 24, 3) := by decide +kernel
theorem dX1_copy_80 : decode cX1_copy 80 = .ok (.iconst 0, 1) := by decide +kernel
theorem dX1_copy_81 : decode cX1_copy 81 = .ok (.aload_n 0, 1) := by decide +kernel
theorem dX1_copy_82 : decode cX1_copy 82 = .ok (.getfield 24, 3) := by decide +kernel
theorem dX1_copy_85 : decode cX1_copy 85 = .ok (.iconst 0, 1) := by decide +kernel
theorem dX1_copy_86 : decode cX1_copy 86 = .ok (.aload_n 0, 1) := by decide +kernel
theorem dX1_copy_87 : decode cX1_copy 87 = .ok (.getfield 33, 3) := by decide +kernel
theorem dX1_copy_90 : decode cX1_copy 90 = .ok (.invokestatic 43, 3) := by decide +kernel
theorem dX1_copy_93 : decode cX1_copy 93 = .ok (.aload_n 1, 1) := by decide +kernel
theorem dX1_copy_94 : decode cX1_copy 94 = .ok (.getfield 27, 3) := by decide +kernel
theorem dX1_copy_97 : decode cX1_copy 97 = .ok (.iconst 0, 1) := by decide +kernel
theorem dX1_copy_98 : decode cX1_copy 98 = .ok (.aload_n 0, 1) := by decide +kernel
theorem dX1_copy_99 : decode cX1_copy 99 = .ok (.getfield 27, 3) := by decide +kernel
theorem dX1_copy_102 : decode cX1_copy 102 = .ok (.iconst 0, 1) := by decide +kernel
theorem dX1_copy_103 : decode cX1_copy 103 = .ok (.aload_n 0, 1) := by decide +kernel
theorem dX1_copy_104 : decode cX1_copy 104 = .ok (.getfield 27, 3) := by decide +kernel
theorem dX1_copy_107 : decode cX1_copy 107 = .ok (.arraylength, 1) := by decide +kernel
theorem dX1_copy_108 : decode cX1_copy 108 = .ok (.invokestatic 43, 3) := by decide +kernel
theorem dX1_copy_111 : decode cX1_copy 111 = .ok (.aload_n 1, 1) := by decide +kernel
theorem dX1_copy_112 : decode cX1_copy 112 = .ok (.getfield 30, 3) := by decide +kernel
theorem dX1_copy_115 : decode cX1_copy 115 = .ok (.iconst 0, 1) := by decide +kernel
theorem dX1_copy_116 : decode cX1_copy 116 = .ok (.aload_n 0, 1) := by decide +kernel
theorem dX1_copy_117 : decode cX1_copy 117 = .ok (.getfield 30, 3) := by decide +kernel
theorem dX1_copy_120 : decode cX1_copy 120 = .ok (.iconst 0, 1) := by decide +kernel
theorem dX1_copy_121 : decode cX1_copy 121 = .ok (.aload_n 0, 1) := by decide +kernel
theorem dX1_copy_122 : decode cX1_copy 122 = .ok (.getfield 30, 3) := by decide +kernel
theorem dX1_copy_125 : decode cX1_copy 125 = .ok (.arraylength, 1) := by decide +kernel
theorem dX1_copy_126 : decode cX1_copy 126 = .ok (.invokestatic 43, 3) := by decide +kernel
theorem dX1_copy_129 : decode cX1_copy 129 = .ok (.return_, 1) := by decide +kernel
theorem dX1_overdue_0 : decode cX1_overdue 0 = .ok (.iconst 0, 1) := by decide +kernel
theorem dX1_overdue_1 : decode cX1_overdue 1 = .ok (.istore_n 2, 1) := by decide +kernel
theorem dX1_overdue_2 : decode cX1_overdue 2 = .ok (.iconst 0, 1) := by decide +kernel
theorem dX1_overdue_3 : decode cX1_overdue 3 = .ok (.istore_n 3, 1) := by decide +kernel
theorem dX1_overdue_4 : decode cX1_overdue 4 = .ok (.iload_n 3, 1) := by decide +kernel
theorem dX1_overdue_5 : decode cX1_overdue 5 = .ok (.aload_n 0, 1) := by decide +kernel
theorem dX1_overdue_6 : decode cX1_overdue 6 = .ok (.getfield 33, 3) := by decide +kernel
theorem dX1_overdue_9 : decode cX1_overdue 9 = .ok (.if_icmp .ge 22, 3) := by decide +kernel
theorem dX1_overdue_12 : decode cX1_overdue 12 = .ok (.aload_n 0, 1) := by decide +kernel
theorem dX1_overdue_13 : decode cX1_overdue 13 = .ok (.getfield 21, 3) := by decide +kernel
theorem dX1_overdue_16 : decode cX1_overdue 16 = .ok (.iload_n 3, 1) := by decide +kernel
theorem dX1_overdue_17 : decode cX1_overdue 17 = .ok (.iaload, 1) := by decide +kernel
theorem dX1_overdue_18 : decode cX1_overdue 18 = .ok (.iload_n 1, 1) := by decide +kernel
theorem dX1_overdue_19 : decode cX1_overdue 19 = .ok (.if_icmp .ge 6, 3) := by decide +kernel
theorem dX1_overdue_22 : decode cX1_overdue 22 = .ok (.iinc 2 1, 3) := by decide +kernel
theorem dX1_overdue_25 : decode cX1_overdue 25 = .ok (.iinc 3 1, 3) := by decide +kernel
theorem dX1_overdue_28 : decode cX1_overdue 28 = .ok (.goto (-24), 3) := by decide +kernel
theorem dX1_overdue_31 : decode cX1_overdue 31 = .ok (.iload_n 2, 1) := by decide +kernel
theorem dX1_overdue_32 : decode cX1_overdue 32 = .ok (.ireturn, 1) := by decide +kernel
theorem dX2_init_0 : decode cX2_init 0 = .ok (.aload_n 0, 1) := by decide +kernel
theorem dX2_init_1 : decode cX2_init 1 = .ok (.invokespecial 3, 3) := by decide +kernel
theorem dX2_init_4 : decode cX2_init 4 = .ok (.aload_n 0, 1) := by decide +kernel
theorem dX2_init_5 : decode cX2_init 5 = .ok (.sipush 600, 3) := by decide +kernel
theorem dX2_init_8 : decode cX2_init 8 = .ok (.newarray .int, 2) := by decide +kernel
theorem dX2_init_10 : decode cX2_init 10 = .ok (.putfield 9, 3) := by decide +kernel
theorem dX2_init_13 : decode cX2_init 13 = .ok (.aload_n 0, 1) := by decide +kernel
theorem dX2_init_14 : decode cX2_init 14 = .ok (.sipush 600, 3) := by decide +kernel
theorem dX2_init_17 : decode cX2_init 17 = .ok (.newarray .int, 2) := by decide +kernel
theorem dX2_init_19 : decode cX2_init 19 = .ok (.putfield 15, 3) := by decide +kernel
theorem dX2_init_22 : decode cX2_init 22 = .ok (.aload_n 0, 1) := by decide +kernel
theorem dX2_init_23 : decode cX2_init 23 = .ok (.sipush 600, 3) := by decide +kernel
theorem dX2_init_26 : decode cX2_init 26 = .ok (.newarray .int, 2) := by decide +kernel
theorem dX2_init_28 : decode cX2_init 28 = .ok (.putfield 18, 3) := by decide +kernel
theorem dX2_init_31 : decode cX2_init 31 = .ok (.aload_n 0, 1) := by decide +kernel
theorem dX2_init_32 : decode cX2_init 32 = .ok (.sipush 600, 3) := by decide +kernel
theorem dX2_init_35 : decode cX2_init 35 = .ok (.newarray .int, 2) := by decide +kernel
theorem dX2_init_37 : decode cX2_init 37 = .ok (.putfield 21, 3) := by decide +kernel
theorem dX2_init_40 : decode cX2_init 40 = .ok (.return_, 1) := by decide +kernel
theorem dX2_copy_0 : decode cX2_copy 0 = .ok (.aload_n 0, 1) := by decide +kernel
theorem dX2_copy_1 : decode cX2_copy 1 = .ok (.aload_n 1, 1) := by decide +kernel
theorem dX2_copy_2 : decode cX2_copy 2 = .ok (.getfield 24, 3) := by decide +kernel
theorem dX2_copy_5 : decode cX2_copy 5 = .ok (.putfield 24, 3) := by decide +kernel
theorem dX2_copy_8 : decode cX2_copy 8 = .ok (.aload_n 1, 1) := by decide +kernel
theorem dX2_copy_9 : decode cX2_copy 9 = .ok (.getfield 9, 3) := by decide +kernel
theorem dX2_copy_12 : decode cX2_copy 12 = .ok (.iconst 0, 1) := by decide +kernel
theorem dX2_copy_13 : decode cX2_copy 13 = .ok (.aload_n 0, 1) := by decide +kernel
theorem dX2_copy_14 : decode cX2_copy 14 = .ok (.getfield 9, 3) := by decide +kernel
theorem dX2_copy_17 : decode cX2_copy 17 = .ok (.iconst 0, 1) := by decide +kernel
theorem dX2_copy_18 : decode cX2_copy 18 = .ok (.aload_n 0, 1) := by decide +kernel
theorem dX2_copy_19 : decode cX2_copy 19 = .ok (.getfield 24, 3) := by decide +kernel
theorem dX2_copy_22 : decode cX2_copy 22 = .ok (.invokestatic 28, 3) := by decide +kernel
theorem dX2_copy_25 : decode cX2_copy 25 = .ok (.aload_n 1, 1) := by decide +kernel
theorem dX2_copy_26 : decode cX2_copy 26 = .ok (.getfield 15, 3) := by decide +kernel
theorem dX2_copy_29 : decode cX2_copy 29 = .ok (.iconst 0, 1) := by decide +kernel
theorem dX2_copy_30 : decode cX2_copy 30 = .ok (.aload_n 0, 1) := by decide +kernel
theorem dX2_copy_31 : decode cX2_copy 31 = .ok (.getfield 15, 3) := by decide +kernel
theorem dX2_copy_34 : decode cX2_copy 34 = .ok (.iconst 0, 1) := by decide +kernel
theorem dX2_copy_35 : decode cX2_copy 35 = .ok (.aload_n 0, 1) := by decide +kernel
theorem dX2_copy_36 : decode cX2_copy 36 = .ok (.getfield 24, 3) := by decide +kernel
theorem dX2_copy_39 : decode cX2_copy 39 = .ok (.invokestatic 28, 3) := by decide +kernel
theorem dX2_copy_42 : decode cX2_copy 42 = .ok (.aload_n 1, 1) := by decide +kernel
theorem dX2_copy_43 : decode cX2_copy 43 = .ok (.getfield 18, 3) := by decide +kernel
theorem dX2_copy_46 : decode cX2_copy 46 = .ok (.iconst 0, 1) := by decide +kernel
theorem dX2_copy_47 : decode cX2_copy 47 = .ok (.aload_n 0, 1) := by decide +kernel
theorem dX2_copy_48 : decode cX2_copy 48 = .ok (.getfield 18, 3) := by decide +kernel
theorem dX2_copy_51 : decode cX2_copy 51 = .ok (.iconst 0, 1) := by decide +kernel
theorem dX2_copy_52 : decode cX2_copy 52 = .ok (.aload_n 0, 1) := by decide +kernel
theorem dX2_copy_53 : decode cX2_copy 53 = .ok (.getfield 24, 3) := by decide +kernel
theorem dX2_copy_56 : decode cX2_copy 56 = .ok (.invokestatic 28, 3) := by decide +kernel
theorem dX2_copy_59 : decode cX2_copy 59 = .ok (.aload_n 1, 1) := by decide +kernel
theorem dX2_copy_60 : decode cX2_copy 60 = .ok (.getfield 21, 3) := by decide +kernel
theorem dX2_copy_63 : decode cX2_copy 63 = .ok (.iconst 0, 1) := by decide +kernel
theorem dX2_copy_64 : decode cX2_copy 64 = .ok (.aload_n 0, 1) := by decide +kernel
theorem dX2_copy_65 : decode cX2_copy 65 = .ok (.getfield 21, 3) := by decide +kernel
theorem dX2_copy_68 : decode cX2_copy 68 = .ok (.iconst 0, 1) := by decide +kernel
theorem dX2_copy_69 : decode cX2_copy 69 = .ok (.aload_n 0, 1) := by decide +kernel
theorem dX2_copy_70 : decode cX2_copy 70 = .ok (.getfield 24, 3) := by decide +kernel
theorem dX2_copy_73 : decode cX2_copy 73 = .ok (.invokestatic 28, 3) := by decide +kernel
theorem dX2_copy_76 : decode cX2_copy 76 = .ok (.return_, 1) := by decide +kernel
theorem dX3_init_0 : decode cX3_init 0 = .ok (.aload_n 0, 1) := by decide +kernel
theorem dX3_init_1 : decode cX3_init 1 = .ok (.invokespecial 3, 3) := by decide +kernel
theorem dX3_init_4 : decode cX3_init 4 = .ok (.aload_n 0, 1) := by decide +kernel
theorem dX3_init_5 : decode cX3_init 5 = .ok (.new 9, 3) := by decide +kernel
theorem dX3_init_8 : decode cX3_init 8 = .ok (.dup, 1) := by decide +kernel
theorem dX3_init_9 : decode cX3_init 9 = .ok (.invokespecial 11, 3) := by decide +kernel
theorem dX3_init_12 : decode cX3_init 12 = .ok (.putfield 12, 3) := by decide +kernel
theorem dX3_init_15 : decode cX3_init 15 = .ok (.aload_n 0, 1) := by decide +kernel
theorem dX3_init_16 : decode cX3_init 16 = .ok (.new 18, 3) := by decide +kernel
theorem dX3_init_19 : decode cX3_init 19 = .ok (.dup, 1) := by decide +kernel
theorem dX3_init_20 : decode cX3_init 20 = .ok (.invokespecial 20, 3) := by decide +kernel
theorem dX3_init_23 : decode cX3_init 23 = .ok (.putfield 21, 3) := by decide +kernel
theorem dX3_init_26 : decode cX3_init 26 = .ok (.aload_n 0, 1) := by decide +kernel
theorem dX3_init_27 : decode cX3_init 27 = .ok (.iconst (-1), 1) := by decide +kernel
theorem dX3_init_28 : decode cX3_init 28 = .ok (.putfield 25, 3) := by decide +kernel
theorem dX3_init_31 : decode cX3_init 31 = .ok (.return_, 1) := by decide +kernel
theorem dX3_read_0 : decode cX3_read 0 = .ok (.aload_n 0, 1) := by decide +kernel
theorem dX3_read_1 : decode cX3_read 1 = .ok (.aload_n 1, 1) := by decide +kernel
theorem dX3_read_2 : decode cX3_read 2 = .ok (.putfield 29, 3) := by decide +kernel
theorem dX3_read_5 : decode cX3_read 5 = .ok (.aload_n 0, 1) := by decide +kernel
theorem dX3_read_6 : decode cX3_read 6 = .ok (.iload_n 2, 1) := by decide +kernel
theorem dX3_read_7 : decode cX3_read 7 = .ok (.aload_n 1, 1) := by decide +kernel
theorem dX3_read_8 : decode cX3_read 8 = .ok (.arraylength, 1) := by decide +kernel
theorem dX3_read_9 : decode cX3_read 9 = .ok (.invokestatic 33, 3) := by decide +kernel
theorem dX3_read_12 : decode cX3_read 12 = .ok (.putfield 39, 3) := by decide +kernel
theorem dX3_read_15 : decode cX3_read 15 = .ok (.aload_n 0, 1) := by decide +kernel
theorem dX3_read_16 : decode cX3_read 16 = .ok (.iconst 0, 1) := by decide +kernel
theorem dX3_read_17 : decode cX3_read 17 = .ok (.putfield 42, 3) := by decide +kernel
theorem dX3_read_20 : decode cX3_read 20 = .ok (.aload_n 0, 1) := by decide +kernel
theorem dX3_read_21 : decode cX3_read 21 = .ok (.iconst 0, 1) := by decide +kernel
theorem dX3_read_22 : decode cX3_read 22 = .ok (.putfield 45, 3) := by decide +kernel
theorem dX3_read_25 : decode cX3_read 25 = .ok (.aload_n 0, 1) := by decide +kernel
theorem dX3_read_26 : decode cX3_read 26 = .ok (.iconst (-1), 1) := by decide +kernel
theorem dX3_read_27 : decode cX3_read 27 = .ok (.putfield 25, 3) := by decide +kernel
theorem dX3_read_30 : decode cX3_read 30 = .ok (.aload_n 0, 1) := by decide +kernel
theorem dX3_read_31 : decode cX3_read 31 = .ok (.getfield 12, 3) := by decide +kernel
theorem dX3_read_34 : decode cX3_read 34 = .ok (.invokevirtual 48, 3) := by decide +kernel
theorem dX3_read_37 : decode cX3_read 37 = .ok (.aload_n 0, 1) := by decide +kernel
theorem dX3_read_38 : decode cX3_read 38 = .ok (.getfield 21, 3) := by decide +kernel
theorem dX3_read_41 : decode cX3_read 41 = .ok (.invokevirtual 51, 3) := by decide +kernel
theorem dX3_read_44 : decode cX3_read 44 = .ok (.aload_n 0, 1) := by decide +kernel
theorem dX3_read_45 : decode cX3_read 45 = .ok (.invokevirtual 52, 3) := by decide +kernel
theorem dX3_read_48 : decode cX3_read 48 = .ok (.iconst 0, 1) := by decide +kernel
theorem dX3_read_49 : decode cX3_read 49 = .ok (.istore_n 3, 1) := by decide +kernel
theorem dX3_read_50 : decode cX3_read 50 = .ok (.iload_n 3, 1) := by decide +kernel
theorem dX3_read_51 : decode cX3_read 51 = .ok (.sipush 1400, 3) := by decide +kernel
theorem dX3_read_54 : decode cX3_read 54 = .ok (.if_icmp .gt 58, 3) := by decide +kernel
theorem dX3_read_57 : decode cX3_read 57 = .ok (.aload_n 0, 1) := by decide +kernel
theorem dX3_read_58 : decode cX3_read 58 = .ok (.getfield 45, 3) := by decide +kernel
theorem dX3_read_61 : decode cX3_read 61 = .ok (.ifCond .ne 51, 3) := by decide +kernel
theorem dX3_read_64 : decode cX3_read 64 = .ok (.aload_n 0, 1) := by decide +kernel
theorem dX3_read_65 : decode cX3_read 65 = .ok (.getfield 55, 3) := by decide +kernel
theorem dX3_read_68 : decode cX3_read 68 = .ok (.ifCond .eq 44, 3) := by decide +kernel
theorem dX3_read_71 : decode cX3_read 71 = .ok (.aload_n 0, 1) := by decide +kernel
theorem dX3_read_72 : decode cX3_read 72 = .ok (.ldc 58, 2) := by decide +kernel
theorem dX3_read_74 : decode cX3_read 74 = .ok (.invokevirtual 60, 3) := by decide +kernel
theorem dX3_read_77 : decode cX3_read 77 = .ok (.istore 4, 2) := by decide +kernel
theorem dX3_read_79 : decode cX3_read 79 = .ok (.iload 4, 2) := by decide +kernel
theorem dX3_read_81 : decode cX3_read 81 = .ok (.iconst 4, 1) := by decide +kernel
theorem dX3_read_82 : decode cX3_read 82 = .ok (.if_icmp .lt 14, 3) := by decide +kernel
theorem dX3_read_85 : decode cX3_read 85 = .ok (.aload_n 0, 1) := by decide +kernel
theorem dX3_read_86 : decode cX3_read 86 = .ok (.iload 4, 2) := by decide +kernel
theorem dX3_read_88 : decode cX3_read 88 = .ok (.iconst 4, 1) := by decide +kernel
theorem dX3_read_89 : decode cX3_read 89 = .ok (.isub, 1) := by decide +kernel
theorem dX3_read_90 : decode cX3_read 90 = .ok (.invokevirtual 64, 3) := by decide +kernel
theorem dX3_read_93 : decode cX3_read 93 = .ok (.goto 9, 3) := by decide +kernel
theorem dX3_read_96 : decode cX3_read 96 = .ok (.aload_n 0, 1) := by decide +kernel
theorem dX3_read_97 : decode cX3_read 97 = .ok (.iload 4, 2) := by decide +kernel
theorem dX3_read_99 : decode cX3_read 99 = .ok (.invokevirtual 68, 3) := by decide +kernel
theorem dX3_read_102 : decode cX3_read 102 = .ok (.aload_n 0, 1) := by decide +kernel
theorem dX3_read_103 : decode cX3_read 103 = .ok (.invokevirtual 71, 3) := by decide +kernel
theorem dX3_read_106 : decode cX3_read 106 = .ok (.iinc 3 1, 3) := by decide +kernel
theorem dX3_read_109 : decode cX3_read 109 = .ok (.goto (-59), 3) := by decide +kernel
theorem dX3_read_112 : decode cX3_read 112 = .ok (.return_, 1) := by decide +kernel
theorem dX3_advance_0 : decode cX3_advance 0 = .ok (.aload_n 0, 1) := by decide +kernel
theorem dX3_advance_1 : decode cX3_advance 1 = .ok (.getfield 42, 3) := by decide +kernel
theorem dX3_advance_4 : decode cX3_advance 4 = .ok (.aload_n 0, 1) := by decide +kernel
theorem dX3_advance_5 : decode cX3_advance 5 = .ok (.getfield 39, 3) := by decide +kernel
theorem dX3_advance_8 : decode cX3_advance 8 = .ok (.if_icmp .ge 44, 3) := by decide +kernel
theorem dX3_advance_11 : decode cX3_advance 11 = .ok (.aload_n 0, 1) := by decide +kernel
theorem dX3_advance_12 : decode cX3_advance 12 = .ok (.getfield 29, 3) := by decide +kernel
theorem dX3_advance_15 : decode cX3_advance 15 = .ok (.aload_n 0, 1) := by decide +kernel
theorem dX3_advance_16 : decode cX3_advance 16 = .ok (.getfield 42, 3) := by decide +kernel
theorem dX3_advance_19 : decode cX3_advance 19 = .ok (.baload, 1) := by decide +kernel
theorem dX3_advance_20 : decode cX3_advance 20 = .ok (.bipush 32, 2) := by decide +kernel
theorem dX3_advance_22 : decode cX3_advance 22 = .ok (.if_icmp .eq 17, 3) := by decide +kernel
theorem dX3_advance_25 : decode cX3_advance 25 = .ok (.aload_n 0, 1) := by decide +kernel
theorem dX3_advance_26 : decode cX3_advance 26 = .ok (.getfield 29, 3) := by decide +kernel
theorem dX3_advance_29 : decode cX3_advance 29 = .ok (.aload_n 0, 1) := by decide +kernel
theorem dX3_advance_30 : decode cX3_advance 30 = .ok (.getfield 42, 3) := by decide +kernel
theorem dX3_advance_33 : decode cX3_advance 33 = .ok (.baload, 1) := by decide +kernel
theorem dX3_advance_34 : decode cX3_advance 34 = .ok (.bipush 10, 2) := by decide +kernel
theorem dX3_advance_36 : decode cX3_advance 36 = .ok (.if_icmp .ne 16, 3) := by decide +kernel
theorem dX3_advance_39 : decode cX3_advance 39 = .ok (.aload_n 0, 1) := by decide +kernel
theorem dX3_advance_40 : decode cX3_advance 40 = .ok (.dup, 1) := by decide +kernel
theorem dX3_advance_41 : decode cX3_advance 41 = .ok (.getfield 42, 3) := by decide +kernel
theorem dX3_advance_44 : decode cX3_advance 44 = .ok (.iconst 1, 1) := by decide +kernel
theorem dX3_advance_45 : decode cX3_advance 45 = .ok (.iadd, 1) := by decide +kernel
theorem dX3_advance_46 : decode cX3_advance 46 = .ok (.putfield 42, 3) := by decide +kernel
theorem dX3_advance_49 : decode cX3_advance 49 = .ok (.goto (-49), 3) := by decide +kernel
theorem dX3_advance_52 : decode cX3_advance 52 = .ok (.aload_n 0, 1) := by decide +kernel
theorem dX3_advance_53 : decode cX3_advance 53 = .ok (.aload_n 0, 1) := by decide +kernel
theorem dX3_advance_54 : decode cX3_advance 54 = .ok (.getfield 42, 3) := by decide +kernel
theorem dX3_advance_57 : decode cX3_advance 57 = .ok (.putfield 179, 3) := by decide +kernel
theorem dX3_advance_60 : decode cX3_advance 60 = .ok (.aload_n 0, 1) := by decide +kernel
theorem dX3_advance_61 : decode cX3_advance 61 = .ok (.getfield 42, 3) := by decide +kernel
theorem dX3_advance_64 : decode cX3_advance 64 = .ok (.aload_n 0, 1) := by decide +kernel
theorem dX3_advance_65 : decode cX3_advance 65 = .ok (.getfield 39, 3) := by decide +kernel
theorem dX3_advance_68 : decode cX3_advance 68 = .ok (.if_icmp .lt 11, 3) := by decide +kernel
theorem dX3_advance_71 : decode cX3_advance 71 = .ok (.aload_n 0, 1) := by decide +kernel
theorem dX3_advance_72 : decode cX3_advance 72 = .ok (.iconst 0, 1) := by decide +kernel
theorem dX3_advance_73 : decode cX3_advance 73 = .ok (.putfield 55, 3) := by decide +kernel
theorem dX3_advance_76 : decode cX3_advance 76 = .ok (.goto 106, 3) := by decide +kernel
theorem dX3_advance_79 : decode cX3_advance 79 = .ok (.aload_n 0, 1) := by decide +kernel
theorem dX3_advance_80 : decode cX3_advance 80 = .ok (.getfield 29, 3) := by decide +kernel
theorem dX3_advance_83 : decode cX3_advance 83 = .ok (.aload_n 0, 1) := by decide +kernel
theorem dX3_advance_84 : decode cX3_advance 84 = .ok (.getfield 42, 3) := by decide +kernel
theorem dX3_advance_87 : decode cX3_advance 87 = .ok (.baload, 1) := by decide +kernel
theorem dX3_advance_88 : decode cX3_advance 88 = .ok (.bipush 97, 2) := by decide +kernel
theorem dX3_advance_90 : decode cX3_advance 90 = .ok (.if_icmp .lt 24, 3) := by decide +kernel
theorem dX3_advance_93 : decode cX3_advance 93 = .ok (.aload_n 0, 1) := by decide +kernel
theorem dX3_advance_94 : decode cX3_advance 94 = .ok (.getfield 29, 3) := by decide +kernel
theorem dX3_advance_97 : decode cX3_advance 97 = .ok (.aload_n 0, 1) := by decide +kernel
theorem dX3_advance_98 : decode cX3_advance 98 = .ok (.getfield 42, 3) := by decide +kernel
theorem dX3_advance_101 : decode cX3_advance 101 = .ok (.baload, 1) := by decide +kernel
theorem dX3_advance_102 : decode cX3_advance 102 = .ok (.bipush 122, 2) := by decide +kernel
theorem dX3_advance_104 : decode cX3_advance 104 = .ok (.if_icmp .gt 10, 3) := by decide +kernel
theorem dX3_advance_107 : decode cX3_advance 107 = .ok (.aload_n 0, 1) := by decide +kernel
theorem dX3_advance_108 : decode cX3_advance 108 = .ok (.invokevirtual 182, 3) := by decide +kernel
theorem dX3_advance_111 : decode cX3_advance 111 = .ok (.goto 71, 3) := by decide +kernel
theorem dX3_advance_114 : decode cX3_advance 114 = .ok (.aload_n 0, 1) := by decide +kernel
theorem dX3_advance_115 : decode cX3_advance 115 = .ok (.getfield 29, 3) := by decide +kernel
theorem dX3_advance_118 : decode cX3_advance 118 = .ok (.aload_n 0, 1) := by decide +kernel
theorem dX3_advance_119 : decode cX3_advance 119 = .ok (.getfield 42, 3) := by decide +kernel
theorem dX3_advance_122 : decode cX3_advance 122 = .ok (.baload, 1) := by decide +kernel
theorem dX3_advance_123 : decode cX3_advance 123 = .ok (.bipush 48, 2) := by decide +kernel
theorem dX3_advance_125 : decode cX3_advance 125 = .ok (.if_icmp .lt 24, 3) := by decide +kernel
theorem dX3_advance_128 : decode cX3_advance 128 = .ok (.aload_n 0, 1) := by decide +kernel
theorem dX3_advance_129 : decode cX3_advance 129 = .ok (.getfield 29, 3) := by decide +kernel
theorem dX3_advance_132 : decode cX3_advance 132 = .ok (.aload_n 0, 1) := by decide +kernel
theorem dX3_advance_133 : decode cX3_advance 133 = .ok (.getfield 42, 3) := by decide +kernel
theorem dX3_advance_136 : decode cX3_advance 136 = .ok (.baload, 1) := by decide +kernel
theorem dX3_advance_137 : decode cX3_advance 137 = .ok (.bipush 57, 2) := by decide +kernel
theorem dX3_advance_139 : decode cX3_advance 139 = .ok (.if_icmp .gt 10, 3) := by decide +kernel
theorem dX3_advance_142 : decode cX3_advance 142 = .ok (.aload_n 0, 1) := by decide +kernel
theorem dX3_advance_143 : decode cX3_advance 143 = .ok (.invokevirtual 185, 3) := by decide +kernel
theorem dX3_advance_146 : decode cX3_advance 146 = .ok (.goto 36, 3) := by decide +kernel
theorem dX3_advance_149 : decode cX3_advance 149 = .ok (.aload_n 0, 1) := by decide +kernel
theorem dX3_advance_150 : decode cX3_advance 150 = .ok (.aload_n 0, 1) := by decide +kernel
theorem dX3_advance_151 : decode cX3_advance 151 = .ok (.getfield 29, 3) := by decide +kernel
theorem dX3_advance_154 : decode cX3_advance 154 = .ok (.aload_n 0, 1) := by decide +kernel
theorem dX3_advance_155 : decode cX3_advance 155 = .ok (.getfield 42, 3) := by decide +kernel
theorem dX3_advance_158 : decode cX3_advance 158 = .ok (.baload, 1) := by decide +kernel
theorem dX3_advance_159 : decode cX3_advance 159 = .ok (.bipush 59, 2) := by decide +kernel
theorem dX3_advance_161 : decode cX3_advance 161 = .ok (.if_icmp .ne 7, 3) := by decide +kernel
theorem dX3_advance_164 : decode cX3_advance 164 = .ok (.iconst 3, 1) := by decide +kernel
theorem dX3_advance_165 : decode cX3_advance 165 = .ok (.goto 4, 3) := by decide +kernel
theorem dX3_advance_168 : decode cX3_advance 168 = .ok (.iconst 4, 1) := by decide +kernel
theorem dX3_advance_169 : decode cX3_advance 169 = .ok (.putfield 55, 3) := by decide +kernel
theorem dX3_advance_172 : decode cX3_advance 172 = .ok (.aload_n 0, 1) := by decide +kernel
theorem dX3_advance_173 : decode cX3_advance 173 = .ok (.dup, 1) := by decide +kernel
theorem dX3_advance_174 : decode cX3_advance 174 = .ok (.getfield 42, 3) := by decide +kernel
theorem dX3_advance_177 : decode cX3_advance 177 = .ok (.iconst 1, 1) := by decide +kernel
theorem dX3_advance_178 : decode cX3_advance 178 = .ok (.iadd, 1) := by decide +kernel
theorem dX3_advance_179 : decode cX3_advance 179 = .ok (.putfield 42, 3) := by decide +kernel
theorem dX3_advance_182 : decode cX3_advance 182 = .ok (.return_, 1) := by decide +kernel
theorem dX4_init_0 : decode cX4_init 0 = .ok (.aload_n 0, 1) := by decide +kernel
theorem dX4_init_1 : decode cX4_init 1 = .ok (.invokespecial 5, 3) := by decide +kernel
theorem dX4_init_4 : decode cX4_init 4 = .ok (.aload_n 0, 1) := by decide +kernel
theorem dX4_init_5 : decode cX4_init 5 = .ok (.bipush 10, 2) := by decide +kernel
theorem dX4_init_7 : decode cX4_init 7 = .ok (.newarray .int, 2) := by decide +kernel
theorem dX4_init_9 : decode cX4_init 9 = .ok (.putfield 11, 3) := by decide +kernel
theorem dX4_init_12 : decode cX4_init 12 = .ok (.aload_n 0, 1) := by decide +kernel
theorem dX4_init_13 : decode cX4_init 13 = .ok (.iconst (-1), 1) := by decide +kernel
theorem dX4_init_14 : decode cX4_init 14 = .ok (.putfield 15, 3) := by decide +kernel
theorem dX4_init_17 : decode cX4_init 17 = .ok (.aload_n 0, 1) := by decide +kernel
theorem dX4_init_18 : decode cX4_init 18 = .ok (.iconst (-1), 1) := by decide +kernel
theorem dX4_init_19 : decode cX4_init 19 = .ok (.putfield 19, 3) := by decide +kernel
theorem dX4_init_22 : decode cX4_init 22 = .ok (.aload_n 0, 1) := by decide +kernel
theorem dX4_init_23 : decode cX4_init 23 = .ok (.bipush 10, 2) := by decide +kernel
theorem dX4_init_25 : decode cX4_init 25 = .ok (.newarray .int, 2) := by decide +kernel
theorem dX4_init_27 : decode cX4_init 27 = .ok (.putfield 22, 3) := by decide +kernel
theorem dX4_init_30 : decode cX4_init 30 = .ok (.aload_n 0, 1) := by decide +kernel
theorem dX4_init_31 : decode cX4_init 31 = .ok (.bipush 10, 2) := by decide +kernel
theorem dX4_init_33 : decode cX4_init 33 = .ok (.newarray .int, 2) := by decide +kernel
theorem dX4_init_35 : decode cX4_init 35 = .ok (.putfield 25, 3) := by decide +kernel
theorem dX4_init_38 : decode cX4_init 38 = .ok (.aload_n 0, 1) := by decide +kernel
theorem dX4_init_39 : decode cX4_init 39 = .ok (.bipush 16, 2) := by decide +kernel
theorem dX4_init_41 : decode cX4_init 41 = .ok (.newarray .int, 2) := by decide +kernel
theorem dX4_init_43 : decode cX4_init 43 = .ok (.putfield 28, 3) := by decide +kernel
theorem dX4_init_46 : decode cX4_init 46 = .ok (.aload_n 0, 1) := by decide +kernel
theorem dX4_init_47 : decode cX4_init 47 = .ok (.bipush 16, 2) := by decide +kernel
theorem dX4_init_49 : decode cX4_init 49 = .ok (.newarray .int, 2) := by decide +kernel
theorem dX4_init_51 : decode cX4_init 51 = .ok (.putfield 31, 3) := by decide +kernel
theorem dX4_init_54 : decode cX4_init 54 = .ok (.aload_n 0, 1) := by decide +kernel
theorem dX4_init_55 : decode cX4_init 55 = .ok (.bipush 16, 2) := by decide +kernel
theorem dX4_init_57 : decode cX4_init 57 = .ok (.newarray .int, 2) := by decide +kernel
theorem dX4_init_59 : decode cX4_init 59 = .ok (.putfield 34, 3) := by decide +kernel
theorem dX4_init_62 : decode cX4_init 62 = .ok (.aload_n 0, 1) := by decide +kernel
theorem dX4_init_63 : decode cX4_init 63 = .ok (.sipush 256, 3) := by decide +kernel
theorem dX4_init_66 : decode cX4_init 66 = .ok (.newarray .int, 2) := by decide +kernel
theorem dX4_init_68 : decode cX4_init 68 = .ok (.putfield 37, 3) := by decide +kernel
theorem dX4_init_71 : decode cX4_init 71 = .ok (.aload_n 0, 1) := by decide +kernel
theorem dX4_init_72 : decode cX4_init 72 = .ok (.sipush 10240, 3) := by decide +kernel
theorem dX4_init_75 : decode cX4_init 75 = .ok (.newarray .int, 2) := by decide +kernel
theorem dX4_init_77 : decode cX4_init 77 = .ok (.putfield 40, 3) := by decide +kernel
theorem dX4_init_80 : decode cX4_init 80 = .ok (.aload_n 0, 1) := by decide +kernel
theorem dX4_init_81 : decode cX4_init 81 = .ok (.sipush 1024, 3) := by decide +kernel
theorem dX4_init_84 : decode cX4_init 84 = .ok (.newarray .int, 2) := by decide +kernel
theorem dX4_init_86 : decode cX4_init 86 = .ok (.putfield 43, 3) := by decide +kernel
theorem dX4_init_89 : decode cX4_init 89 = .ok (.aload_n 0, 1) := by decide +kernel
theorem dX4_init_90 : decode cX4_init 90 = .ok (.sipush 1024, 3) := by decide +kernel
theorem dX4_init_93 : decode cX4_init 93 = .ok (.newarray .int, 2) := by decide +kernel
theorem dX4_init_95 : decode cX4_init 95 = .ok (.putfield 46, 3) := by decide +kernel
theorem dX4_init_98 : decode cX4_init 98 = .ok (.return_, 1) := by decide +kernel
theorem dX5_init_0 : decode cX5_init 0 = .ok (.aload_n 0, 1) := by decide +kernel
theorem dX5_init_1 : decode cX5_init 1 = .ok (.invokespecial 3, 3) := by decide +kernel
theorem dX5_init_4 : decode cX5_init 4 = .ok (.aload_n 0, 1) := by decide +kernel
theorem dX5_init_5 : decode cX5_init 5 = .ok (.bipush 60, 2) := by decide +kernel
theorem dX5_init_7 : decode cX5_init 7 = .ok (.newarray .long, 2) := by decide +kernel
theorem dX5_init_9 : decode cX5_init 9 = .ok (.putfield 9, 3) := by decide +kernel
theorem dX5_init_12 : decode cX5_init 12 = .ok (.return_, 1) := by decide +kernel
theorem dX5_lay_0 : decode cX5_lay 0 = .ok (.aload_n 0, 1) := by decide +kernel
theorem dX5_lay_1 : decode cX5_lay 1 = .ok (.iconst 1, 1) := by decide +kernel
theorem dX5_lay_2 : decode cX5_lay 2 = .ok (.putfield 15, 3) := by decide +kernel
theorem dX5_lay_5 : decode cX5_lay 5 = .ok (.aload_n 0, 1) := by decide +kernel
theorem dX5_lay_6 : decode cX5_lay 6 = .ok (.iload_n 1, 1) := by decide +kernel
theorem dX5_lay_7 : decode cX5_lay 7 = .ok (.putfield 19, 3) := by decide +kernel
theorem dX5_lay_10 : decode cX5_lay 10 = .ok (.aload_n 0, 1) := by decide +kernel
theorem dX5_lay_11 : decode cX5_lay 11 = .ok (.iload_n 2, 1) := by decide +kernel
theorem dX5_lay_12 : decode cX5_lay 12 = .ok (.putfield 23, 3) := by decide +kernel
theorem dX5_lay_15 : decode cX5_lay 15 = .ok (.aload_n 0, 1) := by decide +kernel
theorem dX5_lay_16 : decode cX5_lay 16 = .ok (.getfield 9, 3) := by decide +kernel
theorem dX5_lay_19 : decode cX5_lay 19 = .ok (.lconst 0, 1) := by decide +kernel
theorem dX5_lay_20 : decode cX5_lay 20 = .ok (.invokestatic 26, 3) := by decide +kernel
theorem dX5_lay_23 : decode cX5_lay 23 = .ok (.return_, 1) := by decide +kernel
theorem dX6_init_0 : decode cX6_init 0 = .ok (.aload_n 0, 1) := by decide +kernel
theorem dX6_init_1 : decode cX6_init 1 = .ok (.invokespecial 3, 3) := by decide +kernel
theorem dX6_init_4 : decode cX6_init 4 = .ok (.aload_n 0, 1) := by decide +kernel
theorem dX6_init_5 : decode cX6_init 5 = .ok (.new 9, 3) := by decide +kernel
theorem dX6_init_8 : decode cX6_init 8 = .ok (.dup, 1) := by decide +kernel
theorem dX6_init_9 : decode cX6_init 9 = .ok (.invokespecial 11, 3) := by decide +kernel
theorem dX6_init_12 : decode cX6_init 12 = .ok (.putfield 12, 3) := by decide +kernel
theorem dX6_init_15 : decode cX6_init 15 = .ok (.aload_n 0, 1) := by decide +kernel
theorem dX6_init_16 : decode cX6_init 16 = .ok (.new 18, 3) := by decide +kernel
theorem dX6_init_19 : decode cX6_init 19 = .ok (.dup, 1) := by decide +kernel
theorem dX6_init_20 : decode cX6_init 20 = .ok (.invokespecial 20, 3) := by decide +kernel
theorem dX6_init_23 : decode cX6_init 23 = .ok (.putfield 21, 3) := by decide +kernel
theorem dX6_init_26 : decode cX6_init 26 = .ok (.aload_n 0, 1) := by decide +kernel
theorem dX6_init_27 : decode cX6_init 27 = .ok (.new 25, 3) := by decide +kernel
theorem dX6_init_30 : decode cX6_init 30 = .ok (.dup, 1) := by decide +kernel
theorem dX6_init_31 : decode cX6_init 31 = .ok (.invokespecial 27, 3) := by decide +kernel
theorem dX6_init_34 : decode cX6_init 34 = .ok (.putfield 28, 3) := by decide +kernel
theorem dX6_init_37 : decode cX6_init 37 = .ok (.aload_n 0, 1) := by decide +kernel
theorem dX6_init_38 : decode cX6_init 38 = .ok (.new 32, 3) := by decide +kernel
theorem dX6_init_41 : decode cX6_init 41 = .ok (.dup, 1) := by decide +kernel
theorem dX6_init_42 : decode cX6_init 42 = .ok (.invokespecial 34, 3) := by decide +kernel
theorem dX6_init_45 : decode cX6_init 45 = .ok (.putfield 35, 3) := by decide +kernel
theorem dX6_init_48 : decode cX6_init 48 = .ok (.aload_n 0, 1) := by decide +kernel
theorem dX6_init_49 : decode cX6_init 49 = .ok (.bipush 16, 2) := by decide +kernel
theorem dX6_init_51 : decode cX6_init 51 = .ok (.newarray .int, 2) := by decide +kernel
theorem dX6_init_53 : decode cX6_init 53 = .ok (.putfield 39, 3) := by decide +kernel
theorem dX6_init_56 : decode cX6_init 56 = .ok (.aload_n 0, 1) := by decide +kernel
theorem dX6_init_57 : decode cX6_init 57 = .ok (.bipush 16, 2) := by decide +kernel
theorem dX6_init_59 : decode cX6_init 59 = .ok (.newarray .int, 2) := by decide +kernel
theorem dX6_init_61 : decode cX6_init 61 = .ok (.putfield 43, 3) := by decide +kernel
theorem dX6_init_64 : decode cX6_init 64 = .ok (.return_, 1) := by decide +kernel
theorem dX6_begin_0 : decode cX6_begin 0 = .ok (.aload_n 0, 1) := by decide +kernel
theorem dX6_begin_1 : decode cX6_begin 1 = .ok (.getfield 12, 3) := by decide +kernel
theorem dX6_begin_4 : decode cX6_begin 4 = .ok (.aload_n 1, 1) := by decide +kernel
theorem dX6_begin_5 : decode cX6_begin 5 = .ok (.invokevirtual 46, 3) := by decide +kernel
theorem dX6_begin_8 : decode cX6_begin 8 = .ok (.aload_n 0, 1) := by decide +kernel
theorem dX6_begin_9 : decode cX6_begin 9 = .ok (.getfield 21, 3) := by decide +kernel
theorem dX6_begin_12 : decode cX6_begin 12 = .ok (.aload_n 2, 1) := by decide +kernel
theorem dX6_begin_13 : decode cX6_begin 13 = .ok (.invokevirtual 50, 3) := by decide +kernel
theorem dX6_begin_16 : decode cX6_begin 16 = .ok (.aload_n 0, 1) := by decide +kernel
theorem dX6_begin_17 : decode cX6_begin 17 = .ok (.getfield 28, 3) := by decide +kernel
theorem dX6_begin_20 : decode cX6_begin 20 = .ok (.invokevirtual 53, 3) := by decide +kernel
theorem dX6_begin_23 : decode cX6_begin 23 = .ok (.aload_n 0, 1) := by decide +kernel
theorem dX6_begin_24 : decode cX6_begin 24 = .ok (.getfield 35, 3) := by decide +kernel
theorem dX6_begin_27 : decode cX6_begin 27 = .ok (.iconst 0, 1) := by decide +kernel
theorem dX6_begin_28 : decode cX6_begin 28 = .ok (.putfield 56, 3) := by decide +kernel
theorem dX6_begin_31 : decode cX6_begin 31 = .ok (.aload_n 0, 1) := by decide +kernel
theorem dX6_begin_32 : decode cX6_begin 32 = .ok (.getfield 12, 3) := by decide +kernel
theorem dX6_begin_35 : decode cX6_begin 35 = .ok (.getfield 60, 3) := by decide +kernel
theorem dX6_begin_38 : decode cX6_begin 38 = .ok (.iconst 0, 1) := by decide +kernel
theorem dX6_begin_39 : decode cX6_begin 39 = .ok (.aload_n 0, 1) := by decide +kernel
theorem dX6_begin_40 : decode cX6_begin 40 = .ok (.getfield 39, 3) := by decide +kernel
theorem dX6_begin_43 : decode cX6_begin 43 = .ok (.iconst 0, 1) := by decide +kernel
theorem dX6_begin_44 : decode cX6_begin 44 = .ok (.bipush 16, 2) := by decide +kernel
theorem dX6_begin_46 : decode cX6_begin 46 = .ok (.invokestatic 63, 3) := by decide +kernel
theorem dX6_begin_49 : decode cX6_begin 49 = .ok (.aload_n 0, 1) := by decide +kernel
theorem dX6_begin_50 : decode cX6_begin 50 = .ok (.iconst 0, 1) := by decide +kernel
theorem dX6_begin_51 : decode cX6_begin 51 = .ok (.putfield 69, 3) := by decide +kernel
theorem dX6_begin_54 : decode cX6_begin 54 = .ok (.aload_n 0, 1) := by decide +kernel
theorem dX6_begin_55 : decode cX6_begin 55 = .ok (.iconst 0, 1) := by decide +kernel
theorem dX6_begin_56 : decode cX6_begin 56 = .ok (.putfield 72, 3) := by decide +kernel
theorem dX6_begin_59 : decode cX6_begin 59 = .ok (.return_, 1) := by decide +kernel
theorem dX6_copy_0 : decode cX6_copy 0 = .ok (.aload_n 0, 1) := by decide +kernel
theorem dX6_copy_1 : decode cX6_copy 1 = .ok (.getfield 12, 3) := by decide +kernel
theorem dX6_copy_4 : decode cX6_copy 4 = .ok (.aload_n 1, 1) := by decide +kernel
theorem dX6_copy_5 : decode cX6_copy 5 = .ok (.getfield 12, 3) := by decide +kernel
theorem dX6_copy_8 : decode cX6_copy 8 = .ok (.invokevirtual 46, 3) := by decide +kernel
theorem dX6_copy_11 : decode cX6_copy 11 = .ok (.aload_n 0, 1) := by decide +kernel
theorem dX6_copy_12 : decode cX6_copy 12 = .ok (.getfield 21, 3) := by decide +kernel
theorem dX6_copy_15 : decode cX6_copy 15 = .ok (.aload_n 1, 1) := by decide +kernel
theorem dX6_copy_16 : decode cX6_copy 16 = .ok (.getfield 21, 3) := by decide +kernel
theorem dX6_copy_19 : decode cX6_copy 19 = .ok (.invokevirtual 50, 3) := by decide +kernel
theorem dX6_copy_22 : decode cX6_copy 22 = .ok (.aload_n 0, 1) := by decide +kernel
theorem dX6_copy_23 : decode cX6_copy 23 = .ok (.getfield 28, 3) := by decide +kernel
theorem dX6_copy_26 : decode cX6_copy 26 = .ok (.aload_n 1, 1) := by decide +kernel
theorem dX6_copy_27 : decode cX6_copy 27 = .ok (.getfield 28, 3) := by decide +kernel
theorem dX6_copy_30 : decode cX6_copy 30 = .ok (.invokevirtual 75, 3) := by decide +kernel
theorem dX6_copy_33 : decode cX6_copy 33 = .ok (.aload_n 0, 1) := by decide +kernel
theorem dX6_copy_34 : decode cX6_copy 34 = .ok (.getfield 35, 3) := by decide +kernel
theorem dX6_copy_37 : decode cX6_copy 37 = .ok (.aload_n 1, 1) := by decide +kernel
theorem dX6_copy_38 : decode cX6_copy 38 = .ok (.getfield 35, 3) := by decide +kernel
theorem dX6_copy_41 : decode cX6_copy 41 = .ok (.invokevirtual 78, 3) := by decide +kernel
theorem dX6_copy_44 : decode cX6_copy 44 = .ok (.aload_n 1, 1) := by decide +kernel
theorem dX6_copy_45 : decode cX6_copy 45 = .ok (.getfield 39, 3) := by decide +kernel
theorem dX6_copy_48 : decode cX6_copy 48 = .ok (.iconst 0, 1) := by decide +kernel
theorem dX6_copy_49 : decode cX6_copy 49 = .ok (.aload_n 0, 1) := by decide +kernel
theorem dX6_copy_50 : decode cX6_copy 50 = .ok (.getfield 39, 3) := by decide +kernel
theorem dX6_copy_53 : decode cX6_copy 53 = .ok (.iconst 0, 1) := by decide +kernel
theorem dX6_copy_54 : decode cX6_copy 54 = .ok (.bipush 16, 2) := by decide +kernel
theorem dX6_copy_56 : decode cX6_copy 56 = .ok (.invokestatic 63, 3) := by decide +kernel
theorem dX6_copy_59 : decode cX6_copy 59 = .ok (.aload_n 0, 1) := by decide +kernel
theorem dX6_copy_60 : decode cX6_copy 60 = .ok (.aload_n 1, 1) := by decide +kernel
theorem dX6_copy_61 : decode cX6_copy 61 = .ok (.getfield 69, 3) := by decide +kernel
theorem dX6_copy_64 : decode cX6_copy 64 = .ok (.putfield 69, 3) := by decide +kernel
theorem dX6_copy_67 : decode cX6_copy 67 = .ok (.aload_n 0, 1) := by decide +kernel
theorem dX6_copy_68 : decode cX6_copy 68 = .ok (.aload_n 1, 1) := by decide +kernel
theorem dX6_copy_69 : decode cX6_copy 69 = .ok (.getfield 72, 3) := by decide +kernel
theorem dX6_copy_72 : decode cX6_copy 72 = .ok (.putfield 72, 3) := by decide +kernel
theorem dX6_copy_75 : decode cX6_copy 75 = .ok (.return_, 1) := by decide +kernel
theorem dX6_followCalls_0 : decode cX6_followCalls 0 = .ok (.iconst 0, 1) := by decide +kernel
theorem dX6_followCalls_1 : decode cX6_followCalls 1 = .ok (.istore_n 1, 1) := by decide +kernel
theorem dX6_followCalls_2 : decode cX6_followCalls 2 = .ok (.iload_n 1, 1) := by decide +kernel
theorem dX6_followCalls_3 : decode cX6_followCalls 3 = .ok (.bipush 16, 2) := by decide +kernel
theorem dX6_followCalls_5 : decode cX6_followCalls 5 = .ok (.if_icmp .ge 18, 3) := by decide +kernel
theorem dX6_followCalls_8 : decode cX6_followCalls 8 = .ok (.aload_n 0, 1) := by decide +kernel
theorem dX6_followCalls_9 : decode cX6_followCalls 9 = .ok (.getfield 43, 3) := by decide +kernel
theorem dX6_followCalls_12 : decode cX6_followCalls 12 = .ok (.iload_n 1, 1) := by decide +kernel
theorem dX6_followCalls_13 : decode cX6_followCalls 13 = .ok (.iconst 1, 1) := by decide +kernel
theorem dX6_followCalls_14 : decode cX6_followCalls 14 = .ok (.iload_n 1, 1) := by decide +kernel
theorem dX6_followCalls_15 : decode cX6_followCalls 15 = .ok (.ishl, 1) := by decide +kernel
theorem dX6_followCalls_16 : decode cX6_followCalls 16 = .ok (.iastore, 1) := by decide +kernel
theorem dX6_followCalls_17 : decode cX6_followCalls 17 = .ok (.iinc 1 1, 3) := by decide +kernel
theorem dX6_followCalls_20 : decode cX6_followCalls 20 = .ok (.goto (-18), 3) := by decide +kernel
theorem dX6_followCalls_23 : decode cX6_followCalls 23 = .ok (.iconst 0, 1) := by decide +kernel
theorem dX6_followCalls_24 : decode cX6_followCalls 24 = .ok (.istore_n 1, 1) := by decide +kernel
theorem dX6_followCalls_25 : decode cX6_followCalls 25 = .ok (.iload_n 1, 1) := by decide +kernel
theorem dX6_followCalls_26 : decode cX6_followCalls 26 = .ok (.aload_n 0, 1) := by decide +kernel
theorem dX6_followCalls_27 : decode cX6_followCalls 27 = .ok (.getfield 35, 3) := by decide +kernel
theorem dX6_followCalls_30 : decode cX6_followCalls 30 = .ok (.getfield 56, 3) := by decide +kernel
theorem dX6_followCalls_33 : decode cX6_followCalls 33 = .ok (.if_icmp .ge 63, 3) := by decide +kernel
theorem dX6_followCalls_36 : decode cX6_followCalls 36 = .ok (.aload_n 0, 1) := by decide +kernel
theorem dX6_followCalls_37 : decode cX6_followCalls 37 = .ok (.getfield 35, 3) := by decide +kernel
theorem dX6_followCalls_40 : decode cX6_followCalls 40 = .ok (.getfield 163, 3) := by decide +kernel
theorem dX6_followCalls_43 : decode cX6_followCalls 43 = .ok (.iload_n 1, 1) := by decide +kernel
theorem dX6_followCalls_44 : decode cX6_followCalls 44 = .ok (.iaload, 1) := by decide +kernel
theorem dX6_followCalls_45 : decode cX6_followCalls 45 = .ok (.iconst 2, 1) := by decide +kernel
theorem dX6_followCalls_46 : decode cX6_followCalls 46 = .ok (.if_icmp .lt 44, 3) := by decide +kernel
theorem dX6_followCalls_49 : decode cX6_followCalls 49 = .ok (.aload_n 0, 1) := by decide +kernel
theorem dX6_followCalls_50 : decode cX6_followCalls 50 = .ok (.getfield 35, 3) := by decide +kernel
theorem dX6_followCalls_53 : decode cX6_followCalls 53 = .ok (.getfield 163, 3) := by decide +kernel
theorem dX6_followCalls_56 : decode cX6_followCalls 56 = .ok (.iload_n 1, 1) := by decide +kernel
theorem dX6_followCalls_57 : decode cX6_followCalls 57 = .ok (.iaload, 1) := by decide +kernel
theorem dX6_followCalls_58 : decode cX6_followCalls 58 = .ok (.iconst 4, 1) := by decide +kernel
theorem dX6_followCalls_59 : decode cX6_followCalls 59 = .ok (.if_icmp .eq 31, 3) := by decide +kernel
theorem dX6_followCalls_62 : decode cX6_followCalls 62 = .ok (.aload_n 0, 1) := by decide +kernel
theorem dX6_followCalls_63 : decode cX6_followCalls 63 = .ok (.getfield 43, 3) := by decide +kernel
theorem dX6_followCalls_66 : decode cX6_followCalls 66 = .ok (.aload_n 0, 1) := by decide +kernel
theorem dX6_followCalls_67 : decode cX6_followCalls 67 = .ok (.getfield 35, 3) := by decide +kernel
theorem dX6_followCalls_70 : decode cX6_followCalls 70 = .ok (.getfield 157, 3) := by decide +kernel
theorem dX6_followCalls_73 : decode cX6_followCalls 73 = .ok (.iload_n 1, 1) := by decide +kernel
theorem dX6_followCalls_74 : decode cX6_followCalls 74 = .ok (.iaload, 1) := by decide +kernel
theorem dX6_followCalls_75 : decode cX6_followCalls 75 = .ok (.dup2, 1) := by decide +kernel
theorem dX6_followCalls_76 : decode cX6_followCalls 76 = .ok (.iaload, 1) := by decide +kernel
theorem dX6_followCalls_77 : decode cX6_followCalls 77 = .ok (.iconst 1, 1) := by decide +kernel
theorem dX6_followCalls_78 : decode cX6_followCalls 78 = .ok (.aload_n 0, 1) := by decide +kernel
theorem dX6_followCalls_79 : decode cX6_followCalls 79 = .ok (.getfield 35, 3) := by decide +kernel
theorem dX6_followCalls_82 : decode cX6_followCalls 82 = .ok (.getfield 160, 3) := by decide +kernel
theorem dX6_followCalls_85 : decode cX6_followCalls 85 = .ok (.iload_n 1, 1) := by decide +kernel
theorem dX6_followCalls_86 : decode cX6_followCalls 86 = .ok (.iaload, 1) := by decide +kernel
theorem dX6_followCalls_87 : decode cX6_followCalls 87 = .ok (.ishl, 1) := by decide +kernel
theorem dX6_followCalls_88 : decode cX6_followCalls 88 = .ok (.ior, 1) := by decide +kernel
theorem dX6_followCalls_89 : decode cX6_followCalls 89 = .ok (.iastore, 1) := by decide +kernel
theorem dX6_followCalls_90 : decode cX6_followCalls 90 = .ok (.iinc 1 1, 3) := by decide +kernel
theorem dX6_followCalls_93 : decode cX6_followCalls 93 = .ok (.goto (-68), 3) := by decide +kernel
theorem dX6_followCalls_96 : decode cX6_followCalls 96 = .ok (.iconst 0, 1) := by decide +kernel
theorem dX6_followCalls_97 : decode cX6_followCalls 97 = .ok (.istore_n 1, 1) := by decide +kernel
theorem dX6_followCalls_98 : decode cX6_followCalls 98 = .ok (.iload_n 1, 1) := by decide +kernel
theorem dX6_followCalls_99 : decode cX6_followCalls 99 = .ok (.bipush 16, 2) := by decide +kernel
theorem dX6_followCalls_101 : decode cX6_followCalls 101 = .ok (.if_icmp .ge 52, 3) := by decide +kernel
theorem dX6_followCalls_104 : decode cX6_followCalls 104 = .ok (.iconst 0, 1) := by decide +kernel
theorem dX6_followCalls_105 : decode cX6_followCalls 105 = .ok (.istore_n 2, 1) := by decide +kernel
theorem dX6_followCalls_106 : decode cX6_followCalls 106 = .ok (.iload_n 2, 1) := by decide +kernel
theorem dX6_followCalls_107 : decode cX6_followCalls 107 = .ok (.bipush 16, 2) := by decide +kernel
theorem dX6_followCalls_109 : decode cX6_followCalls 109 = .ok (.if_icmp .ge 38, 3) := by decide +kernel
theorem dX6_followCalls_112 : decode cX6_followCalls 112 = .ok (.aload_n 0, 1) := by decide +kernel
theorem dX6_followCalls_113 : decode cX6_followCalls 113 = .ok (.getfield 43, 3) := by decide +kernel
theorem dX6_followCalls_116 : decode cX6_followCalls 116 = .ok (.iload_n 2, 1) := by decide +kernel
theorem dX6_followCalls_117 : decode cX6_followCalls 117 = .ok (.iaload, 1) := by decide +kernel
theorem dX6_followCalls_118 : decode cX6_followCalls 118 = .ok (.iload_n 1, 1) := by decide +kernel
theorem dX6_followCalls_119 : decode cX6_followCalls 119 = .ok (.ishr, 1) := by decide +kernel
theorem dX6_followCalls_120 : decode cX6_followCalls 120 = .ok (.iconst 1, 1) := by decide +kernel
theorem dX6_followCalls_121 : decode cX6_followCalls 121 = .ok (.iand, 1) := by decide +kernel
theorem dX6_followCalls_122 : decode cX6_followCalls 122 = .ok (.iconst 1, 1) := by decide +kernel
theorem dX6_followCalls_123 : decode cX6_followCalls 123 = .ok (.if_icmp .ne 18, 3) := by decide +kernel
theorem dX6_followCalls_126 : decode cX6_followCalls 126 = .ok (.aload_n 0, 1) := by decide +kernel
theorem dX6_followCalls_127 : decode cX6_followCalls 127 = .ok (.getfield 43, 3) := by decide +kernel
theorem dX6_followCalls_130 : decode cX6_followCalls 130 = .ok (.iload_n 2, 1) := by decide +kernel
theorem dX6_followCalls_131 : decode cX6_followCalls 131 = .ok (.dup2, 1) := by decide +kernel
theorem dX6_followCalls_132 : decode cX6_followCalls 132 = .ok (.iaload, 1) := by decide +kernel
theorem dX6_followCalls_133 : decode cX6_followCalls 133 = .ok (.aload_n 0, 1) := by decide +kernel
theorem dX6_followCalls_134 : decode cX6_followCalls 134 = .ok (.getfield 43, 3) := by decide +kernel
theorem dX6_followCalls_137 : decode cX6_followCalls 137 = .ok (.iload_n 1, 1) := by decide +kernel
theorem dX6_followCalls_138 : decode cX6_followCalls 138 = .ok (.iaload, 1) := by decide +kernel
theorem dX6_followCalls_139 : decode cX6_followCalls 139 = .ok (.ior, 1) := by decide +kernel
theorem dX6_followCalls_140 : decode cX6_followCalls 140 = .ok (.iastore, 1) := by decide +kernel
theorem dX6_followCalls_141 : decode cX6_followCalls 141 = .ok (.iinc 2 1, 3) := by decide +kernel
theorem dX6_followCalls_144 : decode cX6_followCalls 144 = .ok (.goto (-38), 3) := by decide +kernel
theorem dX6_followCalls_147 : decode cX6_followCalls 147 = .ok (.iinc 1 1, 3) := by decide +kernel
theorem dX6_followCalls_150 : decode cX6_followCalls 150 = .ok (.goto (-52), 3) := by decide +kernel
theorem dX6_followCalls_153 : decode cX6_followCalls 153 = .ok (.return_, 1) := by decide +kernel
theorem dX7_init_0 : decode cX7_init 0 = .ok (.aload_n 0, 1) := by decide +kernel
theorem dX7_init_1 : decode cX7_init 1 = .ok (.invokespecial 3, 3) := by decide +kernel
theorem dX7_init_4 : decode cX7_init 4 = .ok (.aload_n 0, 1) := by decide +kernel
theorem dX7_init_5 : decode cX7_init 5 = .ok (.iconst 3, 1) := by decide +kernel
theorem dX7_init_6 : decode cX7_init 6 = .ok (.putfield 11, 3) := by decide +kernel
theorem dX7_init_9 : decode cX7_init 9 = .ok (.aload_n 0, 1) := by decide +kernel
theorem dX7_init_10 : decode cX7_init 10 = .ok (.bipush 16, 2) := by decide +kernel
theorem dX7_init_12 : decode cX7_init 12 = .ok (.newarray .int, 2) := by decide +kernel
theorem dX7_init_14 : decode cX7_init 14 = .ok (.putfield 15, 3) := by decide +kernel
theorem dX7_init_17 : decode cX7_init 17 = .ok (.aload_n 0, 1) := by decide +kernel
theorem dX7_init_18 : decode cX7_init 18 = .ok (.bipush 16, 2) := by decide +kernel
theorem dX7_init_20 : decode cX7_init 20 = .ok (.newarray .int, 2) := by decide +kernel
theorem dX7_init_22 : decode cX7_init 22 = .ok (.putfield 19, 3) := by decide +kernel
theorem dX7_init_25 : decode cX7_init 25 = .ok (.aload_n 0, 1) := by decide +kernel
theorem dX7_init_26 : decode cX7_init 26 = .ok (.bipush 16, 2) := by decide +kernel
theorem dX7_init_28 : decode cX7_init 28 = .ok (.newarray .int, 2) := by decide +kernel
theorem dX7_init_30 : decode cX7_init 30 = .ok (.putfield 22, 3) := by decide +kernel
theorem dX7_init_33 : decode cX7_init 33 = .ok (.aload_n 0, 1) := by decide +kernel
theorem dX7_init_34 : decode cX7_init 34 = .ok (.bipush 16, 2) := by decide +kernel
theorem dX7_init_36 : decode cX7_init 36 = .ok (.newarray .int, 2) := by decide +kernel
theorem dX7_init_38 : decode cX7_init 38 = .ok (.putfield 25, 3) := by decide +kernel
theorem dX7_init_41 : decode cX7_init 41 = .ok (.aload_n 0, 1) := by decide +kernel
theorem dX7_init_42 : decode cX7_init 42 = .ok (.bipush 16, 2) := by decide +kernel
theorem dX7_init_44 : decode cX7_init 44 = .ok (.newarray .int, 2) := by decide +kernel
theorem dX7_init_46 : decode cX7_init 46 = .ok (.putfield 28, 3) := by decide +kernel
theorem dX7_init_49 : decode cX7_init 49 = .ok (.aload_n 0, 1) := by decide +kernel
theorem dX7_init_50 : decode cX7_init 50 = .ok (.bipush 16, 2) := by decide +kernel
theorem dX7_init_52 : decode cX7_init 52 = .ok (.newarray .int, 2) := by decide +kernel
theorem dX7_init_54 : decode cX7_init 54 = .ok (.putfield 31, 3) := by decide +kernel
theorem dX7_init_57 : decode cX7_init 57 = .ok (.aload_n 0, 1) := by decide +kernel
theorem dX7_init_58 : decode cX7_init 58 = .ok (.bipush 16, 2) := by decide +kernel
theorem dX7_init_60 : decode cX7_init 60 = .ok (.newarray .int, 2) := by decide +kernel
theorem dX7_init_62 : decode cX7_init 62 = .ok (.putfield 34, 3) := by decide +kernel
theorem dX7_init_65 : decode cX7_init 65 = .ok (.aload_n 0, 1) := by decide +kernel
theorem dX7_init_66 : decode cX7_init 66 = .ok (.bipush 16, 2) := by decide +kernel
theorem dX7_init_68 : decode cX7_init 68 = .ok (.newarray .int, 2) := by decide +kernel
theorem dX7_init_70 : decode cX7_init 70 = .ok (.putfield 37, 3) := by decide +kernel
theorem dX7_init_73 : decode cX7_init 73 = .ok (.aload_n 0, 1) := by decide +kernel
theorem dX7_init_74 : decode cX7_init 74 = .ok (.bipush 16, 2) := by decide +kernel
theorem dX7_init_76 : decode cX7_init 76 = .ok (.newarray .int, 2) := by decide +kernel
theorem dX7_init_78 : decode cX7_init 78 = .ok (.putfield 40, 3) := by decide +kernel
theorem dX7_init_81 : decode cX7_init 81 = .ok (.return_, 1) := by decide +kernel
theorem dX7_clear_0 : decode cX7_clear 0 = .ok (.aload_n 0, 1) := by decide +kernel
theorem dX7_clear_1 : decode cX7_clear 1 = .ok (.iconst 0, 1) := by decide +kernel
theorem dX7_clear_2 : decode cX7_clear 2 = .ok (.putfield 43, 3) := by decide +kernel
theorem dX7_clear_5 : decode cX7_clear 5 = .ok (.aload_n 0, 1) := by decide +kernel
theorem dX7_clear_6 : decode cX7_clear 6 = .ok (.iconst 0, 1) := by decide +kernel
theorem dX7_clear_7 : decode cX7_clear 7 = .ok (.putfield 46, 3) := by decide +kernel
theorem dX7_clear_10 : decode cX7_clear 10 = .ok (.aload_n 0, 1) := by decide +kernel
theorem dX7_clear_11 : decode cX7_clear 11 = .ok (.iconst 3, 1) := by decide +kernel
theorem dX7_clear_12 : decode cX7_clear 12 = .ok (.putfield 11, 3) := by decide +kernel
theorem dX7_clear_15 : decode cX7_clear 15 = .ok (.aload_n 0, 1) := by decide +kernel
theorem dX7_clear_16 : decode cX7_clear 16 = .ok (.getfield 40, 3) := by decide +kernel
theorem dX7_clear_19 : decode cX7_clear 19 = .ok (.iconst 0, 1) := by decide +kernel
theorem dX7_clear_20 : decode cX7_clear 20 = .ok (.invokestatic 49, 3) := by decide +kernel
theorem dX7_clear_23 : decode cX7_clear 23 = .ok (.return_, 1) := by decide +kernel
theorem dX7_copy_0 : decode cX7_copy 0 = .ok (.aload_n 0, 1) := by decide +kernel
theorem dX7_copy_1 : decode cX7_copy 1 = .ok (.aload_n 1, 1) := by decide +kernel
theorem dX7_copy_2 : decode cX7_copy 2 = .ok (.getfield 43, 3) := by decide +kernel
theorem dX7_copy_5 : decode cX7_copy 5 = .ok (.putfield 43, 3) := by decide +kernel
theorem dX7_copy_8 : decode cX7_copy 8 = .ok (.aload_n 0, 1) := by decide +kernel
theorem dX7_copy_9 : decode cX7_copy 9 = .ok (.aload_n 1, 1) := by decide +kernel
theorem dX7_copy_10 : decode cX7_copy 10 = .ok (.getfield 46, 3) := by decide +kernel
theorem dX7_copy_13 : decode cX7_copy 13 = .ok (.putfield 46, 3) := by decide +kernel
theorem dX7_copy_16 : decode cX7_copy 16 = .ok (.aload_n 0, 1) := by decide +kernel
theorem dX7_copy_17 : decode cX7_copy 17 = .ok (.aload_n 1, 1) := by decide +kernel
theorem dX7_copy_18 : decode cX7_copy 18 = .ok (.getfield 11, 3) := by decide +kernel
theorem dX7_copy_21 : decode cX7_copy 21 = .ok (.putfield 11, 3) := by decide +kernel
theorem dX7_copy_24 : decode cX7_copy 24 = .ok (.aload_n 1, 1) := by decide +kernel
theorem dX7_copy_25 : decode cX7_copy 25 = .ok (.getfield 15, 3) := by decide +kernel
theorem dX7_copy_28 : decode cX7_copy 28 = .ok (.iconst 0, 1) := by decide +kernel
theorem dX7_copy_29 : decode cX7_copy 29 = .ok (.aload_n 0, 1) := by decide +kernel
theorem dX7_copy_30 : decode cX7_copy 30 = .ok (.getfield 15, 3) := by decide +kernel
theorem dX7_copy_33 : decode cX7_copy 33 = .ok (.iconst 0, 1) := by decide +kernel
theorem dX7_copy_34 : decode cX7_copy 34 = .ok (.bipush 16, 2) := by decide +kernel
theorem dX7_copy_36 : decode cX7_copy 36 = .ok (.invokestatic 55, 3) := by decide +kernel
theorem dX7_copy_39 : decode cX7_copy 39 = .ok (.aload_n 1, 1) := by decide +kernel
theorem dX7_copy_40 : decode cX7_copy 40 = .ok (.getfield 19, 3) := by decide +kernel
theorem dX7_copy_43 : decode cX7_copy 43 = .ok (.iconst 0, 1) := by decide +kernel
theorem dX7_copy_44 : decode cX7_copy 44 = .ok (.aload_n 0, 1) := by decide +kernel
theorem dX7_copy_45 : decode cX7_copy 45 = .ok (.getfield 19, 3) := by decide +kernel
theorem dX7_copy_48 : decode cX7_copy 48 = .ok (.iconst 0, 1) := by decide +kernel
theorem dX7_copy_49 : decode cX7_copy 49 = .ok (.bipush 16, 2) := by decide +kernel
theorem dX7_copy_51 : decode cX7_copy 51 = .ok (.invokestatic 55, 3) := by decide +kernel
theorem dX7_copy_54 : decode cX7_copy 54 = .ok (.aload_n 1, 1) := by decide +kernel
theorem dX7_copy_55 : decode cX7_copy 55 = .ok (.getfield 22, 3) := by decide +kernel
theorem dX7_copy_58 : decode cX7_copy 58 = .ok (.iconst 0, 1) := by decide +kernel
theorem dX7_copy_59 : decode cX7_copy 59 = .ok (.aload_n 0, 1) := by decide +kernel
theorem dX7_copy_60 : decode cX7_copy 60 = .ok (.getfield 22, 3) := by decide +kernel
theorem dX7_copy_63 : decode cX7_copy 63 = .ok (.iconst 0, 1) := by decide +kernel
theorem dX7_copy_64 : decode cX7_copy 64 = .ok (.bipush 16, 2) := by decide +kernel
theorem dX7_copy_66 : decode cX7_copy 66 = .ok (.invokestatic 55, 3) := by decide +kernel
theorem dX7_copy_69 : decode cX7_copy 69 = .ok (.aload_n 1, 1) := by decide +kernel
theorem dX7_copy_70 : decode cX7_copy 70 = .ok (.getfield 25, 3) := by decide +kernel
theorem dX7_copy_73 : decode cX7_copy 73 = .ok (.iconst 0, 1) := by decide +kernel
theorem dX7_copy_74 : decode cX7_copy 74 = .ok (.aload_n 0, 1) := by decide +kernel
theorem dX7_copy_75 : decode cX7_copy 75 = .ok (.getfield 25, 3) := by decide +kernel
theorem dX7_copy_78 : decode cX7_copy 78 = .ok (.iconst 0, 1) := by decide +kernel
theorem dX7_copy_79 : decode cX7_copy 79 = .ok (.bipush 16, 2) := by decide +kernel
theorem dX7_copy_81 : decode cX7_copy 81 = .ok (.invokestatic 55, 3) := by decide +kernel
theorem dX7_copy_84 : decode cX7_copy 84 = .ok (.aload_n 1, 1) := by decide +kernel
theorem dX7_copy_85 : decode cX7_copy 85 = .ok (.getfield 28, 3) := by decide +kernel
theorem dX7_copy_88 : decode cX7_copy 88 = .ok (.iconst 0, 1) := by decide +kernel
theorem dX7_copy_89 : decode cX7_copy 89 = .ok (.aload_n 0, 1) := by decide +kernel
theorem dX7_copy_90 : decode cX7_copy 90 = .ok (.getfield 28, 3) := by decide +kernel
theorem dX7_copy_93 : decode cX7_copy 93 = .ok (.iconst 0, 1) := by decide +kernel
theorem dX7_copy_94 : decode cX7_copy 94 = .ok (.bipush 16, 2) := by decide +kernel
theorem dX7_copy_96 : decode cX7_copy 96 = .ok (.invokestatic 55, 3) := by decide +kernel
theorem dX7_copy_99 : decode cX7_copy 99 = .ok (.aload_n 1, 1) := by decide +kernel
theorem dX7_copy_100 : decode cX7_copy 100 = .ok (.getfield 31, 3) := by decide +kernel
theorem dX7_copy_103 : decode cX7_copy 103 = .ok (.iconst 0, 1) := by decide +kernel
theorem dX7_copy_104 : decode cX7_copy 104 = .ok (.aload_n 0, 1) := by decide +kernel
theorem dX7_copy_105 : decode cX7_copy 105 = .ok (.getfield 31, 3) := by decide +kernel
theorem dX7_copy_108 : decode cX7_copy 108 = .ok (.iconst 0, 1) := by decide +kernel
theorem dX7_copy_109 : decode cX7_copy 109 = .ok (.bipush 16, 2) := by decide +kernel
theorem dX7_copy_111 : decode cX7_copy 111 = .ok (.invokestatic 55, 3) := by decide +kernel
theorem dX7_copy_114 : decode cX7_copy 114 = .ok (.aload_n 1, 1) := by decide +kernel
theorem dX7_copy_115 : decode cX7_copy 115 = .ok (.getfield 34, 3) := by decide +kernel
theorem dX7_copy_118 : decode cX7_copy 118 = .ok (.iconst 0, 1) := by decide +kernel
theorem dX7_copy_119 : decode cX7_copy 119 = .ok (.aload_n 0, 1) := by decide +kernel
theorem dX7_copy_120 : decode cX7_copy 120 = .ok (.getfield 34, 3) := by decide +kernel
theorem dX7_copy_123 : decode cX7_copy 123 = .ok (.iconst 0, 1) := by decide +kernel
theorem dX7_copy_124 : decode cX7_copy 124 = .ok (.bipush 16, 2) := by decide +kernel
theorem dX7_copy_126 : decode cX7_copy 126 = .ok (.invokestatic 55, 3) := by decide +kernel
theorem dX7_copy_129 : decode cX7_copy 129 = .ok (.aload_n 1, 1) := by decide +kernel
theorem dX7_copy_130 : decode cX7_copy 130 = .ok (.getfield 37, 3) := by decide +kernel
theorem dX7_copy_133 : decode cX7_copy 133 = .ok (.iconst 0, 1) := by decide +kernel
theorem dX7_copy_134 : decode cX7_copy 134 = .ok (.aload_n 0, 1) := by decide +kernel
theorem dX7_copy_135 : decode cX7_copy 135 = .ok (.getfield 37, 3) := by decide +kernel
theorem dX7_copy_138 : decode cX7_copy 138 = .ok (.iconst 0, 1) := by decide +kernel
theorem dX7_copy_139 : decode cX7_copy 139 = .ok (.bipush 16, 2) := by decide +kernel
theorem dX7_copy_141 : decode cX7_copy 141 = .ok (.invokestatic 55, 3) := by decide +kernel
theorem dX7_copy_144 : decode cX7_copy 144 = .ok (.aload_n 1, 1) := by decide +kernel
theorem dX7_copy_145 : decode cX7_copy 145 = .ok (.getfield 40, 3) := by decide +kernel
theorem dX7_copy_148 : decode cX7_copy 148 = .ok (.iconst 0, 1) := by decide +kernel
theorem dX7_copy_149 : decode cX7_copy 149 = .ok (.aload_n 0, 1) := by decide +kernel
theorem dX7_copy_150 : decode cX7_copy 150 = .ok (.getfield 40, 3) := by decide +kernel
theorem dX7_copy_153 : decode cX7_copy 153 = .ok (.iconst 0, 1) := by decide +kernel
theorem dX7_copy_154 : decode cX7_copy 154 = .ok (.bipush 16, 2) := by decide +kernel
theorem dX7_copy_156 : decode cX7_copy 156 = .ok (.invokestatic 55, 3) := by decide +kernel
theorem dX7_copy_159 : decode cX7_copy 159 = .ok (.return_, 1) := by decide +kernel
theorem dX7_has_0 : decode cX7_has 0 = .ok (.iload_n 1, 1) := by decide +kernel
theorem dX7_has_1 : decode cX7_has 1 = .ok (.ifCond .lt 15, 3) := by decide +kernel
theorem dX7_has_4 : decode cX7_has 4 = .ok (.iload_n 1, 1) := by decide +kernel
theorem dX7_has_5 : decode cX7_has 5 = .ok (.aload_n 0, 1) := by decide +kernel
theorem dX7_has_6 : decode cX7_has 6 = .ok (.getfield 43, 3) := by decide +kernel
theorem dX7_has_9 : decode cX7_has 9 = .ok (.if_icmp .ge 7, 3) := by decide +kernel
theorem dX7_has_12 : decode cX7_has 12 = .ok (.iconst 1, 1) := by decide +kernel
theorem dX7_has_13 : decode cX7_has 13 = .ok (.goto 4, 3) := by decide +kernel
theorem dX7_has_16 : decode cX7_has 16 = .ok (.iconst 0, 1) := by decide +kernel
theorem dX7_has_17 : decode cX7_has 17 = .ok (.ireturn, 1) := by decide +kernel
theorem dX7_hasPair_0 : decode cX7_hasPair 0 = .ok (.aload_n 0, 1) := by decide +kernel
theorem dX7_hasPair_1 : decode cX7_hasPair 1 = .ok (.iload_n 1, 1) := by decide +kernel
theorem dX7_hasPair_2 : decode cX7_hasPair 2 = .ok (.invokevirtual 61, 3) := by decide +kernel
theorem dX7_hasPair_5 : decode cX7_hasPair 5 = .ok (.ifCond .eq 20, 3) := by decide +kernel
theorem dX7_hasPair_8 : decode cX7_hasPair 8 = .ok (.aload_n 0, 1) := by decide +kernel
theorem dX7_hasPair_9 : decode cX7_hasPair 9 = .ok (.iload_n 2, 1) := by decide +kernel
theorem dX7_hasPair_10 : decode cX7_hasPair 10 = .ok (.invokevirtual 61, 3) := by decide +kernel
theorem dX7_hasPair_13 : decode cX7_hasPair 13 = .ok (.ifCond .eq 12, 3) := by decide +kernel
theorem dX7_hasPair_16 : decode cX7_hasPair 16 = .ok (.iload_n 1, 1) := by decide +kernel
theorem dX7_hasPair_17 : decode cX7_hasPair 17 = .ok (.iload_n 2, 1) := by decide +kernel
theorem dX7_hasPair_18 : decode cX7_hasPair 18 = .ok (.if_icmp .eq 7, 3) := by decide +kernel
theorem dX7_hasPair_21 : decode cX7_hasPair 21 = .ok (.iconst 1, 1) := by decide +kernel
theorem dX7_hasPair_22 : decode cX7_hasPair 22 = .ok (.goto 4, 3) := by decide +kernel
theorem dX7_hasPair_25 : decode cX7_hasPair 25 = .ok (.iconst 0, 1) := by decide +kernel
theorem dX7_hasPair_26 : decode cX7_hasPair 26 = .ok (.ireturn, 1) := by decide +kernel
theorem dX8_init_0 : decode cX8_init 0 = .ok (.aload_n 0, 1) := by decide +kernel
theorem dX8_init_1 : decode cX8_init 1 = .ok (.invokespecial 5, 3) := by decide +kernel
theorem dX8_init_4 : decode cX8_init 4 = .ok (.aload_n 0, 1) := by decide +kernel
theorem dX8_init_5 : decode cX8_init 5 = .ok (.bipush 16, 2) := by decide +kernel
theorem dX8_init_7 : decode cX8_init 7 = .ok (.newarray .int, 2) := by decide +kernel
theorem dX8_init_9 : decode cX8_init 9 = .ok (.putfield 11, 3) := by decide +kernel
theorem dX8_init_12 : decode cX8_init 12 = .ok (.aload_n 0, 1) := by decide +kernel
theorem dX8_init_13 : decode cX8_init 13 = .ok (.iconst (-1), 1) := by decide +kernel
theorem dX8_init_14 : decode cX8_init 14 = .ok (.putfield 15, 3) := by decide +kernel
theorem dX8_init_17 : decode cX8_init 17 = .ok (.aload_n 0, 1) := by decide +kernel
theorem dX8_init_18 : decode cX8_init 18 = .ok (.iconst (-1), 1) := by decide +kernel
theorem dX8_init_19 : decode cX8_init 19 = .ok (.putfield 19, 3) := by decide +kernel
theorem dX8_init_22 : decode cX8_init 22 = .ok (.aload_n 0, 1) := by decide +kernel
theorem dX8_init_23 : decode cX8_init 23 = .ok (.bipush 13, 2) := by decide +kernel
theorem dX8_init_25 : decode cX8_init 25 = .ok (.newarray .int, 2) := by decide +kernel
end
section
theorem dX8_init_27 : decode cX8_init 27 = .ok (.putfield 22, 3) := by decide +kernel
theorem dX8_init_30 : decode cX8_init 30 = .ok (.aload_n 0, 1) := by decide +kernel
theorem dX8_init_31 : decode cX8_init 31 = .ok (.bipush 13, 2) := by decide +kernel
theorem dX8_init_33 : decode cX8_init 33 = .ok (.newarray .int, 2) := by decide +kernel
theorem dX8_init_35 : decode cX8_init 35 = .ok (.putfield 25, 3) := by decide +kernel
theorem dX8_init_38 : decode cX8_init 38 = .ok (.aload_n 0, 1) := by decide +kernel
theorem dX8_init_39 : decode cX8_init 39 = .ok (.bipush 13, 2) := by decide +kernel
theorem dX8_init_41 : decode cX8_init 41 = .ok (.newarray .int, 2) := by decide +kernel
theorem dX8_init_43 : decode cX8_init 43 = .ok (.putfield 28, 3) := by decide +kernel
theorem dX8_init_46 : decode cX8_init 46 = .ok (.aload_n 0, 1) := by decide +kernel
theorem dX8_init_47 : decode cX8_init 47 = .ok (.sipush 8192, 3) := by decide +kernel
theorem dX8_init_50 : decode cX8_init 50 = .ok (.newarray .int, 2) := by decide +kernel
theorem dX8_init_52 : decode cX8_init 52 = .ok (.putfield 31, 3) := by decide +kernel
theorem dX8_init_55 : decode cX8_init 55 = .ok (.aload_n 0, 1) := by decide +kernel
theorem dX8_init_56 : decode cX8_init 56 = .ok (.sipush 8192, 3) := by decide +kernel
theorem dX8_init_59 : decode cX8_init 59 = .ok (.newarray .int, 2) := by decide +kernel
theorem dX8_init_61 : decode cX8_init 61 = .ok (.putfield 34, 3) := by decide +kernel
theorem dX8_init_64 : decode cX8_init 64 = .ok (.return_, 1) := by decide +kernel
theorem dX9_init_0 : decode cX9_init 0 = .ok (.aload_n 0, 1) := by decide +kernel
theorem dX9_init_1 : decode cX9_init 1 = .ok (.invokespecial 1, 3) := by decide +kernel
theorem dX9_init_4 : decode cX9_init 4 = .ok (.aload_n 0, 1) := by decide +kernel
theorem dX9_init_5 : decode cX9_init 5 = .ok (.sipush 1400, 3) := by decide +kernel
theorem dX9_init_8 : decode cX9_init 8 = .ok (.newarray .byte, 2) := by decide +kernel
theorem dX9_init_10 : decode cX9_init 10 = .ok (.putfield 9, 3) := by decide +kernel
theorem dX9_init_13 : decode cX9_init 13 = .ok (.aload_n 0, 1) := by decide +kernel
theorem dX9_init_14 : decode cX9_init 14 = .ok (.new 13, 3) := by decide +kernel
theorem dX9_init_17 : decode cX9_init 17 = .ok (.dup, 1) := by decide +kernel
theorem dX9_init_18 : decode cX9_init 18 = .ok (.invokespecial 15, 3) := by decide +kernel
theorem dX9_init_21 : decode cX9_init 21 = .ok (.putfield 16, 3) := by decide +kernel
theorem dX9_init_24 : decode cX9_init 24 = .ok (.aload_n 0, 1) := by decide +kernel
theorem dX9_init_25 : decode cX9_init 25 = .ok (.new 20, 3) := by decide +kernel
theorem dX9_init_28 : decode cX9_init 28 = .ok (.dup, 1) := by decide +kernel
theorem dX9_init_29 : decode cX9_init 29 = .ok (.invokespecial 22, 3) := by decide +kernel
theorem dX9_init_32 : decode cX9_init 32 = .ok (.putfield 23, 3) := by decide +kernel
theorem dX9_init_35 : decode cX9_init 35 = .ok (.aload_n 0, 1) := by decide +kernel
theorem dX9_init_36 : decode cX9_init 36 = .ok (.iconst 3, 1) := by decide +kernel
theorem dX9_init_37 : decode cX9_init 37 = .ok (.anewarray 20, 3) := by decide +kernel
theorem dX9_init_40 : decode cX9_init 40 = .ok (.putfield 27, 3) := by decide +kernel
theorem dX9_init_43 : decode cX9_init 43 = .ok (.aload_n 0, 1) := by decide +kernel
theorem dX9_init_44 : decode cX9_init 44 = .ok (.iconst 4, 1) := by decide +kernel
theorem dX9_init_45 : decode cX9_init 45 = .ok (.anewarray 31, 3) := by decide +kernel
theorem dX9_init_48 : decode cX9_init 48 = .ok (.putfield 33, 3) := by decide +kernel
theorem dX9_init_51 : decode cX9_init 51 = .ok (.aload_n 0, 1) := by decide +kernel
theorem dX9_init_52 : decode cX9_init 52 = .ok (.new 37, 3) := by decide +kernel
theorem dX9_init_55 : decode cX9_init 55 = .ok (.dup, 1) := by decide +kernel
theorem dX9_init_56 : decode cX9_init 56 = .ok (.invokespecial 39, 3) := by decide +kernel
theorem dX9_init_59 : decode cX9_init 59 = .ok (.putfield 40, 3) := by decide +kernel
theorem dX9_init_62 : decode cX9_init 62 = .ok (.aload_n 0, 1) := by decide +kernel
theorem dX9_init_63 : decode cX9_init 63 = .ok (.new 44, 3) := by decide +kernel
theorem dX9_init_66 : decode cX9_init 66 = .ok (.dup, 1) := by decide +kernel
theorem dX9_init_67 : decode cX9_init 67 = .ok (.invokespecial 46, 3) := by decide +kernel
theorem dX9_init_70 : decode cX9_init 70 = .ok (.putfield 47, 3) := by decide +kernel
theorem dX9_init_73 : decode cX9_init 73 = .ok (.aload_n 0, 1) := by decide +kernel
theorem dX9_init_74 : decode cX9_init 74 = .ok (.new 51, 3) := by decide +kernel
theorem dX9_init_77 : decode cX9_init 77 = .ok (.dup, 1) := by decide +kernel
theorem dX9_init_78 : decode cX9_init 78 = .ok (.invokespecial 53, 3) := by decide +kernel
theorem dX9_init_81 : decode cX9_init 81 = .ok (.putfield 54, 3) := by decide +kernel
theorem dX9_init_84 : decode cX9_init 84 = .ok (.aload_n 0, 1) := by decide +kernel
theorem dX9_init_85 : decode cX9_init 85 = .ok (.bipush 16, 2) := by decide +kernel
theorem dX9_init_87 : decode cX9_init 87 = .ok (.newarray .int, 2) := by decide +kernel
theorem dX9_init_89 : decode cX9_init 89 = .ok (.putfield 58, 3) := by decide +kernel
theorem dX9_init_92 : decode cX9_init 92 = .ok (.iconst 0, 1) := by decide +kernel
theorem dX9_init_93 : decode cX9_init 93 = .ok (.istore_n 1, 1) := by decide +kernel
theorem dX9_init_94 : decode cX9_init 94 = .ok (.iload_n 1, 1) := by decide +kernel
theorem dX9_init_95 : decode cX9_init 95 = .ok (.iconst 4, 1) := by decide +kernel
theorem dX9_init_96 : decode cX9_init 96 = .ok (.if_icmp .ge 22, 3) := by decide +kernel
theorem dX9_init_99 : decode cX9_init 99 = .ok (.aload_n 0, 1) := by decide +kernel
theorem dX9_init_100 : decode cX9_init 100 = .ok (.getfield 33, 3) := by decide +kernel
theorem dX9_init_103 : decode cX9_init 103 = .ok (.iload_n 1, 1) := by decide +kernel
theorem dX9_init_104 : decode cX9_init 104 = .ok (.new 31, 3) := by decide +kernel
theorem dX9_init_107 : decode cX9_init 107 = .ok (.dup, 1) := by decide +kernel
theorem dX9_init_108 : decode cX9_init 108 = .ok (.invokespecial 62, 3) := by decide +kernel
theorem dX9_init_111 : decode cX9_init 111 = .ok (.aastore, 1) := by decide +kernel
theorem dX9_init_112 : decode cX9_init 112 = .ok (.iinc 1 1, 3) := by decide +kernel
theorem dX9_init_115 : decode cX9_init 115 = .ok (.goto (-21), 3) := by decide +kernel
theorem dX9_init_118 : decode cX9_init 118 = .ok (.return_, 1) := by decide +kernel
theorem dX9_feed_0 : decode cX9_feed 0 = .ok (.aload_n 0, 1) := by decide +kernel
theorem dX9_feed_1 : decode cX9_feed 1 = .ok (.getfield 63, 3) := by decide +kernel
theorem dX9_feed_4 : decode cX9_feed 4 = .ok (.bipush 20, 2) := by decide +kernel
theorem dX9_feed_6 : decode cX9_feed 6 = .ok (.iadd, 1) := by decide +kernel
theorem dX9_feed_7 : decode cX9_feed 7 = .ok (.sipush 1400, 3) := by decide +kernel
theorem dX9_feed_10 : decode cX9_feed 10 = .ok (.if_icmp .le 5, 3) := by decide +kernel
theorem dX9_feed_13 : decode cX9_feed 13 = .ok (.iconst (-1), 1) := by decide +kernel
theorem dX9_feed_14 : decode cX9_feed 14 = .ok (.ireturn, 1) := by decide +kernel
theorem dX9_feed_15 : decode cX9_feed 15 = .ok (.aload_n 0, 1) := by decide +kernel
theorem dX9_feed_16 : decode cX9_feed 16 = .ok (.iload_n 1, 1) := by decide +kernel
theorem dX9_feed_17 : decode cX9_feed 17 = .ok (.invokevirtual 67, 3) := by decide +kernel
theorem dX9_feed_20 : decode cX9_feed 20 = .ok (.aload_n 0, 1) := by decide +kernel
theorem dX9_feed_21 : decode cX9_feed 21 = .ok (.iload_n 2, 1) := by decide +kernel
theorem dX9_feed_22 : decode cX9_feed 22 = .ok (.invokevirtual 67, 3) := by decide +kernel
theorem dX9_feed_25 : decode cX9_feed 25 = .ok (.aload_n 0, 1) := by decide +kernel
theorem dX9_feed_26 : decode cX9_feed 26 = .ok (.iload_n 3, 1) := by decide +kernel
theorem dX9_feed_27 : decode cX9_feed 27 = .ok (.invokevirtual 67, 3) := by decide +kernel
theorem dX9_feed_30 : decode cX9_feed 30 = .ok (.aload_n 0, 1) := by decide +kernel
theorem dX9_feed_31 : decode cX9_feed 31 = .ok (.iload 4, 2) := by decide +kernel
theorem dX9_feed_33 : decode cX9_feed 33 = .ok (.invokevirtual 67, 3) := by decide +kernel
theorem dX9_feed_36 : decode cX9_feed 36 = .ok (.aload_n 0, 1) := by decide +kernel
theorem dX9_feed_37 : decode cX9_feed 37 = .ok (.iload 5, 2) := by decide +kernel
theorem dX9_feed_39 : decode cX9_feed 39 = .ok (.invokevirtual 67, 3) := by decide +kernel
theorem dX9_feed_42 : decode cX9_feed 42 = .ok (.aload_n 0, 1) := by decide +kernel
theorem dX9_feed_43 : decode cX9_feed 43 = .ok (.getfield 63, 3) := by decide +kernel
theorem dX9_feed_46 : decode cX9_feed 46 = .ok (.ireturn, 1) := by decide +kernel
theorem dX9_end_0 : decode cX9_end 0 = .ok (.iload_n 1, 1) := by decide +kernel
theorem dX9_end_1 : decode cX9_end 1 = .ok (.ifCond .lt 11, 3) := by decide +kernel
theorem dX9_end_4 : decode cX9_end 4 = .ok (.iload_n 1, 1) := by decide +kernel
theorem dX9_end_5 : decode cX9_end 5 = .ok (.aload_n 0, 1) := by decide +kernel
theorem dX9_end_6 : decode cX9_end 6 = .ok (.getfield 63, 3) := by decide +kernel
theorem dX9_end_9 : decode cX9_end 9 = .ok (.if_icmp .le 5, 3) := by decide +kernel
theorem dX9_end_12 : decode cX9_end 12 = .ok (.iconst (-1), 1) := by decide +kernel
theorem dX9_end_13 : decode cX9_end 13 = .ok (.ireturn, 1) := by decide +kernel
theorem dX9_end_14 : decode cX9_end 14 = .ok (.aload_n 0, 1) := by decide +kernel
theorem dX9_end_15 : decode cX9_end 15 = .ok (.iload_n 1, 1) := by decide +kernel
theorem dX9_end_16 : decode cX9_end 16 = .ok (.putfield 63, 3) := by decide +kernel
theorem dX9_end_19 : decode cX9_end 19 = .ok (.iload_n 1, 1) := by decide +kernel
theorem dX9_end_20 : decode cX9_end 20 = .ok (.ireturn, 1) := by decide +kernel
theorem dX9_town_0 : decode cX9_town 0 = .ok (.aload_n 0, 1) := by decide +kernel
theorem dX9_town_1 : decode cX9_town 1 = .ok (.getfield 16, 3) := by decide +kernel
theorem dX9_town_4 : decode cX9_town 4 = .ok (.aload_n 0, 1) := by decide +kernel
theorem dX9_town_5 : decode cX9_town 5 = .ok (.getfield 9, 3) := by decide +kernel
theorem dX9_town_8 : decode cX9_town 8 = .ok (.aload_n 0, 1) := by decide +kernel
theorem dX9_town_9 : decode cX9_town 9 = .ok (.getfield 63, 3) := by decide +kernel
theorem dX9_town_12 : decode cX9_town 12 = .ok (.invokevirtual 71, 3) := by decide +kernel
theorem dX9_town_15 : decode cX9_town 15 = .ok (.aload_n 0, 1) := by decide +kernel
theorem dX9_town_16 : decode cX9_town 16 = .ok (.iconst 0, 1) := by decide +kernel
theorem dX9_town_17 : decode cX9_town 17 = .ok (.putfield 63, 3) := by decide +kernel
theorem dX9_town_20 : decode cX9_town 20 = .ok (.aload_n 0, 1) := by decide +kernel
theorem dX9_town_21 : decode cX9_town 21 = .ok (.getfield 16, 3) := by decide +kernel
theorem dX9_town_24 : decode cX9_town 24 = .ok (.getfield 75, 3) := by decide +kernel
theorem dX9_town_27 : decode cX9_town 27 = .ok (.ifCond .eq 6, 3) := by decide +kernel
theorem dX9_town_30 : decode cX9_town 30 = .ok (.bipush (-4), 2) := by decide +kernel
theorem dX9_town_32 : decode cX9_town 32 = .ok (.ireturn, 1) := by decide +kernel
theorem dX9_town_33 : decode cX9_town 33 = .ok (.aload_n 0, 1) := by decide +kernel
theorem dX9_town_34 : decode cX9_town 34 = .ok (.getfield 23, 3) := by decide +kernel
theorem dX9_town_37 : decode cX9_town 37 = .ok (.aload_n 0, 1) := by decide +kernel
theorem dX9_town_38 : decode cX9_town 38 = .ok (.getfield 16, 3) := by decide +kernel
theorem dX9_town_41 : decode cX9_town 41 = .ok (.getfield 78, 3) := by decide +kernel
theorem dX9_town_44 : decode cX9_town 44 = .ok (.aload_n 0, 1) := by decide +kernel
theorem dX9_town_45 : decode cX9_town 45 = .ok (.getfield 16, 3) := by decide +kernel
theorem dX9_town_48 : decode cX9_town 48 = .ok (.getfield 82, 3) := by decide +kernel
theorem dX9_town_51 : decode cX9_town 51 = .ok (.invokevirtual 86, 3) := by decide +kernel
theorem dX9_town_54 : decode cX9_town 54 = .ok (.aload_n 0, 1) := by decide +kernel
theorem dX9_town_55 : decode cX9_town 55 = .ok (.invokevirtual 90, 3) := by decide +kernel
theorem dX9_town_58 : decode cX9_town 58 = .ok (.aload_n 0, 1) := by decide +kernel
theorem dX9_town_59 : decode cX9_town 59 = .ok (.getfield 23, 3) := by decide +kernel
theorem dX9_town_62 : decode cX9_town 62 = .ok (.getfield 93, 3) := by decide +kernel
theorem dX9_town_65 : decode cX9_town 65 = .ok (.getfield 94, 3) := by decide +kernel
theorem dX9_town_68 : decode cX9_town 68 = .ok (.ireturn, 1) := by decide +kernel
theorem dX9_fault_0 : decode cX9_fault 0 = .ok (.iload_n 1, 1) := by decide +kernel
theorem dX9_fault_1 : decode cX9_fault 1 = .ok (.ifCond .ne 11, 3) := by decide +kernel
theorem dX9_fault_4 : decode cX9_fault 4 = .ok (.aload_n 0, 1) := by decide +kernel
theorem dX9_fault_5 : decode cX9_fault 5 = .ok (.getfield 16, 3) := by decide +kernel
theorem dX9_fault_8 : decode cX9_fault 8 = .ok (.getfield 75, 3) := by decide +kernel
theorem dX9_fault_11 : decode cX9_fault 11 = .ok (.ireturn, 1) := by decide +kernel
theorem dX9_fault_12 : decode cX9_fault 12 = .ok (.iload_n 1, 1) := by decide +kernel
theorem dX9_fault_13 : decode cX9_fault 13 = .ok (.iconst 1, 1) := by decide +kernel
theorem dX9_fault_14 : decode cX9_fault 14 = .ok (.if_icmp .ne 13, 3) := by decide +kernel
theorem dX9_fault_17 : decode cX9_fault 17 = .ok (.aload_n 0, 1) := by decide +kernel
theorem dX9_fault_18 : decode cX9_fault 18 = .ok (.getfield 16, 3) := by decide +kernel
theorem dX9_fault_21 : decode cX9_fault 21 = .ok (.getfield 99, 3) := by decide +kernel
theorem dX9_fault_24 : decode cX9_fault 24 = .ok (.goto 4, 3) := by decide +kernel
theorem dX9_fault_27 : decode cX9_fault 27 = .ok (.iconst (-1), 1) := by decide +kernel
theorem dX9_fault_28 : decode cX9_fault 28 = .ok (.ireturn, 1) := by decide +kernel
theorem dX9_days_0 : decode cX9_days 0 = .ok (.iload_n 1, 1) := by decide +kernel
theorem dX9_days_1 : decode cX9_days 1 = .ok (.ifCond .lt 24, 3) := by decide +kernel
theorem dX9_days_4 : decode cX9_days 4 = .ok (.iload_n 1, 1) := by decide +kernel
theorem dX9_days_5 : decode cX9_days 5 = .ok (.bipush 60, 2) := by decide +kernel
theorem dX9_days_7 : decode cX9_days 7 = .ok (.if_icmp .gt 18, 3) := by decide +kernel
theorem dX9_days_10 : decode cX9_days 10 = .ok (.aload_n 0, 1) := by decide +kernel
theorem dX9_days_11 : decode cX9_days 11 = .ok (.getfield 23, 3) := by decide +kernel
theorem dX9_days_14 : decode cX9_days 14 = .ok (.getfield 102, 3) := by decide +kernel
theorem dX9_days_17 : decode cX9_days 17 = .ok (.iload_n 1, 1) := by decide +kernel
theorem dX9_days_18 : decode cX9_days 18 = .ok (.iadd, 1) := by decide +kernel
theorem dX9_days_19 : decode cX9_days 19 = .ok (.sipush 399, 3) := by decide +kernel
theorem dX9_days_22 : decode cX9_days 22 = .ok (.if_icmp .le 6, 3) := by decide +kernel
theorem dX9_days_25 : decode cX9_days 25 = .ok (.bipush (-2), 2) := by decide +kernel
theorem dX9_days_27 : decode cX9_days 27 = .ok (.ireturn, 1) := by decide +kernel
theorem dX9_days_28 : decode cX9_days 28 = .ok (.aload_n 0, 1) := by decide +kernel
theorem dX9_days_29 : decode cX9_days 29 = .ok (.getfield 23, 3) := by decide +kernel
theorem dX9_days_32 : decode cX9_days 32 = .ok (.dup, 1) := by decide +kernel
theorem dX9_days_33 : decode cX9_days 33 = .ok (.getfield 102, 3) := by decide +kernel
theorem dX9_days_36 : decode cX9_days 36 = .ok (.iload_n 1, 1) := by decide +kernel
theorem dX9_days_37 : decode cX9_days 37 = .ok (.iadd, 1) := by decide +kernel
theorem dX9_days_38 : decode cX9_days 38 = .ok (.putfield 102, 3) := by decide +kernel
theorem dX9_days_41 : decode cX9_days 41 = .ok (.aload_n 0, 1) := by decide +kernel
theorem dX9_days_42 : decode cX9_days 42 = .ok (.invokevirtual 90, 3) := by decide +kernel
theorem dX9_days_45 : decode cX9_days 45 = .ok (.aload_n 0, 1) := by decide +kernel
theorem dX9_days_46 : decode cX9_days 46 = .ok (.getfield 23, 3) := by decide +kernel
theorem dX9_days_49 : decode cX9_days 49 = .ok (.getfield 102, 3) := by decide +kernel
theorem dX9_days_52 : decode cX9_days 52 = .ok (.ireturn, 1) := by decide +kernel
theorem dX9_bars_0 : decode cX9_bars 0 = .ok (.aload_n 0, 1) := by decide +kernel
theorem dX9_bars_1 : decode cX9_bars 1 = .ok (.iload_n 1, 1) := by decide +kernel
theorem dX9_bars_2 : decode cX9_bars 2 = .ok (.iload_n 2, 1) := by decide +kernel
theorem dX9_bars_3 : decode cX9_bars 3 = .ok (.iload_n 3, 1) := by decide +kernel
theorem dX9_bars_4 : decode cX9_bars 4 = .ok (.invokevirtual 105, 3) := by decide +kernel
theorem dX9_bars_7 : decode cX9_bars 7 = .ok (.ifCond .eq 16, 3) := by decide +kernel
theorem dX9_bars_10 : decode cX9_bars 10 = .ok (.aload_n 0, 1) := by decide +kernel
theorem dX9_bars_11 : decode cX9_bars 11 = .ok (.getfield 23, 3) := by decide +kernel
theorem dX9_bars_14 : decode cX9_bars 14 = .ok (.iload_n 1, 1) := by decide +kernel
theorem dX9_bars_15 : decode cX9_bars 15 = .ok (.iload_n 2, 1) := by decide +kernel
theorem dX9_bars_16 : decode cX9_bars 16 = .ok (.iload_n 3, 1) := by decide +kernel
theorem dX9_bars_17 : decode cX9_bars 17 = .ok (.invokevirtual 109, 3) := by decide +kernel
theorem dX9_bars_20 : decode cX9_bars 20 = .ok (.goto 5, 3) := by decide +kernel
theorem dX9_bars_23 : decode cX9_bars 23 = .ok (.bipush (-2), 2) := by decide +kernel
theorem dX9_bars_25 : decode cX9_bars 25 = .ok (.ireturn, 1) := by decide +kernel
theorem dX9_does_0 : decode cX9_does 0 = .ok (.aload_n 0, 1) := by decide +kernel
theorem dX9_does_1 : decode cX9_does 1 = .ok (.iload_n 1, 1) := by decide +kernel
theorem dX9_does_2 : decode cX9_does 2 = .ok (.iload_n 2, 1) := by decide +kernel
theorem dX9_does_3 : decode cX9_does 3 = .ok (.iload_n 3, 1) := by decide +kernel
theorem dX9_does_4 : decode cX9_does 4 = .ok (.invokevirtual 105, 3) := by decide +kernel
theorem dX9_does_7 : decode cX9_does 7 = .ok (.ifCond .ne 6, 3) := by decide +kernel
theorem dX9_does_10 : decode cX9_does 10 = .ok (.bipush (-2), 2) := by decide +kernel
theorem dX9_does_12 : decode cX9_does 12 = .ok (.ireturn, 1) := by decide +kernel
theorem dX9_does_13 : decode cX9_does 13 = .ok (.aload_n 0, 1) := by decide +kernel
theorem dX9_does_14 : decode cX9_does 14 = .ok (.getfield 23, 3) := by decide +kernel
theorem dX9_does_17 : decode cX9_does 17 = .ok (.iload_n 1, 1) := by decide +kernel
theorem dX9_does_18 : decode cX9_does 18 = .ok (.iload_n 2, 1) := by decide +kernel
theorem dX9_does_19 : decode cX9_does 19 = .ok (.iload_n 3, 1) := by decide +kernel
theorem dX9_does_20 : decode cX9_does 20 = .ok (.invokevirtual 109, 3) := by decide +kernel
theorem dX9_does_23 : decode cX9_does 23 = .ok (.ifCond .eq 6, 3) := by decide +kernel
theorem dX9_does_26 : decode cX9_does 26 = .ok (.bipush (-5), 2) := by decide +kernel
theorem dX9_does_28 : decode cX9_does 28 = .ok (.ireturn, 1) := by decide +kernel
theorem dX9_does_29 : decode cX9_does 29 = .ok (.aload_n 0, 1) := by decide +kernel
theorem dX9_does_30 : decode cX9_does 30 = .ok (.getfield 23, 3) := by decide +kernel
theorem dX9_does_33 : decode cX9_does 33 = .ok (.getfield 113, 3) := by decide +kernel
theorem dX9_does_36 : decode cX9_does 36 = .ok (.invokevirtual 117, 3) := by decide +kernel
theorem dX9_does_39 : decode cX9_does 39 = .ok (.ifCond .eq 6, 3) := by decide +kernel
theorem dX9_does_42 : decode cX9_does 42 = .ok (.bipush (-3), 2) := by decide +kernel
theorem dX9_does_44 : decode cX9_does 44 = .ok (.ireturn, 1) := by decide +kernel
theorem dX9_does_45 : decode cX9_does 45 = .ok (.aload_n 0, 1) := by decide +kernel
theorem dX9_does_46 : decode cX9_does 46 = .ok (.invokevirtual 90, 3) := by decide +kernel
theorem dX9_does_49 : decode cX9_does 49 = .ok (.aload_n 0, 1) := by decide +kernel
theorem dX9_does_50 : decode cX9_does 50 = .ok (.getfield 23, 3) := by decide +kernel
theorem dX9_does_53 : decode cX9_does 53 = .ok (.iload_n 1, 1) := by decide +kernel
theorem dX9_does_54 : decode cX9_does 54 = .ok (.iload_n 2, 1) := by decide +kernel
theorem dX9_does_55 : decode cX9_does 55 = .ok (.iload_n 3, 1) := by decide +kernel
theorem dX9_does_56 : decode cX9_does 56 = .ok (.invokevirtual 123, 3) := by decide +kernel
theorem dX9_does_59 : decode cX9_does 59 = .ok (.ireturn, 1) := by decide +kernel
theorem dX9_meet_0 : decode cX9_meet 0 = .ok (.aload_n 0, 1) := by decide +kernel
theorem dX9_meet_1 : decode cX9_meet 1 = .ok (.getfield 23, 3) := by decide +kernel
theorem dX9_meet_4 : decode cX9_meet 4 = .ok (.getfield 93, 3) := by decide +kernel
theorem dX9_meet_7 : decode cX9_meet 7 = .ok (.iload_n 1, 1) := by decide +kernel
theorem dX9_meet_8 : decode cX9_meet 8 = .ok (.iload_n 2, 1) := by decide +kernel
theorem dX9_meet_9 : decode cX9_meet 9 = .ok (.invokevirtual 126, 3) := by decide +kernel
theorem dX9_meet_12 : decode cX9_meet 12 = .ok (.ifCond .ne 6, 3) := by decide +kernel
theorem dX9_meet_15 : decode cX9_meet 15 = .ok (.bipush (-2), 2) := by decide +kernel
theorem dX9_meet_17 : decode cX9_meet 17 = .ok (.ireturn, 1) := by decide +kernel
theorem dX9_meet_18 : decode cX9_meet 18 = .ok (.aload_n 0, 1) := by decide +kernel
theorem dX9_meet_19 : decode cX9_meet 19 = .ok (.getfield 23, 3) := by decide +kernel
theorem dX9_meet_22 : decode cX9_meet 22 = .ok (.getfield 113, 3) := by decide +kernel
theorem dX9_meet_25 : decode cX9_meet 25 = .ok (.invokevirtual 117, 3) := by decide +kernel
theorem dX9_meet_28 : decode cX9_meet 28 = .ok (.ifCond .eq 6, 3) := by decide +kernel
theorem dX9_meet_31 : decode cX9_meet 31 = .ok (.bipush (-3), 2) := by decide +kernel
theorem dX9_meet_33 : decode cX9_meet 33 = .ok (.ireturn, 1) := by decide +kernel
theorem dX9_meet_34 : decode cX9_meet 34 = .ok (.aload_n 0, 1) := by decide +kernel
theorem dX9_meet_35 : decode cX9_meet 35 = .ok (.invokevirtual 90, 3) := by decide +kernel
theorem dX9_meet_38 : decode cX9_meet 38 = .ok (.aload_n 0, 1) := by decide +kernel
theorem dX9_meet_39 : decode cX9_meet 39 = .ok (.getfield 23, 3) := by decide +kernel
theorem dX9_meet_42 : decode cX9_meet 42 = .ok (.iload_n 1, 1) := by decide +kernel
theorem dX9_meet_43 : decode cX9_meet 43 = .ok (.iload_n 2, 1) := by decide +kernel
theorem dX9_meet_44 : decode cX9_meet 44 = .ok (.invokevirtual 130, 3) := by decide +kernel
theorem dX9_meet_47 : decode cX9_meet 47 = .ok (.ireturn, 1) := by decide +kernel
theorem dX9_done_0 : decode cX9_done 0 = .ok (.iload_n 1, 1) := by decide +kernel
theorem dX9_done_1 : decode cX9_done 1 = .ok (.invokestatic 134, 3) := by decide +kernel
theorem dX9_done_4 : decode cX9_done 4 = .ok (.ifCond .ne 6, 3) := by decide +kernel
theorem dX9_done_7 : decode cX9_done 7 = .ok (.bipush (-2), 2) := by decide +kernel
theorem dX9_done_9 : decode cX9_done 9 = .ok (.ireturn, 1) := by decide +kernel
theorem dX9_done_10 : decode cX9_done 10 = .ok (.aload_n 0, 1) := by decide +kernel
theorem dX9_done_11 : decode cX9_done 11 = .ok (.getfield 33, 3) := by decide +kernel
theorem dX9_done_14 : decode cX9_done 14 = .ok (.iload_n 1, 1) := by decide +kernel
theorem dX9_done_15 : decode cX9_done 15 = .ok (.aaload, 1) := by decide +kernel
theorem dX9_done_16 : decode cX9_done 16 = .ok (.astore_n 2, 1) := by decide +kernel
theorem dX9_done_17 : decode cX9_done 17 = .ok (.aload_n 2, 1) := by decide +kernel
theorem dX9_done_18 : decode cX9_done 18 = .ok (.getfield 138, 3) := by decide +kernel
theorem dX9_done_21 : decode cX9_done 21 = .ok (.ifCond .ne 6, 3) := by decide +kernel
theorem dX9_done_24 : decode cX9_done 24 = .ok (.bipush (-6), 2) := by decide +kernel
theorem dX9_done_26 : decode cX9_done 26 = .ok (.ireturn, 1) := by decide +kernel
theorem dX9_done_27 : decode cX9_done 27 = .ok (.iconst 0, 1) := by decide +kernel
theorem dX9_done_28 : decode cX9_done 28 = .ok (.istore_n 3, 1) := by decide +kernel
theorem dX9_done_29 : decode cX9_done 29 = .ok (.iconst 0, 1) := by decide +kernel
theorem dX9_done_30 : decode cX9_done 30 = .ok (.istore 4, 2) := by decide +kernel
theorem dX9_done_32 : decode cX9_done 32 = .ok (.iload 4, 2) := by decide +kernel
theorem dX9_done_34 : decode cX9_done 34 = .ok (.iconst 2, 1) := by decide +kernel
theorem dX9_done_35 : decode cX9_done 35 = .ok (.iadd, 1) := by decide +kernel
theorem dX9_done_36 : decode cX9_done 36 = .ok (.aload_n 2, 1) := by decide +kernel
theorem dX9_done_37 : decode cX9_done 37 = .ok (.getfield 142, 3) := by decide +kernel
theorem dX9_done_40 : decode cX9_done 40 = .ok (.if_icmp .ge 74, 3) := by decide +kernel
theorem dX9_done_43 : decode cX9_done 43 = .ok (.aload_n 2, 1) := by decide +kernel
theorem dX9_done_44 : decode cX9_done 44 = .ok (.iload 4, 2) := by decide +kernel
theorem dX9_done_46 : decode cX9_done 46 = .ok (.invokevirtual 145, 3) := by decide +kernel
theorem dX9_done_49 : decode cX9_done 49 = .ok (.istore 5, 2) := by decide +kernel
theorem dX9_done_51 : decode cX9_done 51 = .ok (.aload_n 2, 1) := by decide +kernel
theorem dX9_done_52 : decode cX9_done 52 = .ok (.iload 4, 2) := by decide +kernel
theorem dX9_done_54 : decode cX9_done 54 = .ok (.iconst 1, 1) := by decide +kernel
theorem dX9_done_55 : decode cX9_done 55 = .ok (.iadd, 1) := by decide +kernel
theorem dX9_done_56 : decode cX9_done 56 = .ok (.invokevirtual 145, 3) := by decide +kernel
theorem dX9_done_59 : decode cX9_done 59 = .ok (.istore 6, 2) := by decide +kernel
theorem dX9_done_61 : decode cX9_done 61 = .ok (.aload_n 2, 1) := by decide +kernel
theorem dX9_done_62 : decode cX9_done 62 = .ok (.iload 4, 2) := by decide +kernel
theorem dX9_done_64 : decode cX9_done 64 = .ok (.iconst 2, 1) := by decide +kernel
theorem dX9_done_65 : decode cX9_done 65 = .ok (.iadd, 1) := by decide +kernel
theorem dX9_done_66 : decode cX9_done 66 = .ok (.invokevirtual 145, 3) := by decide +kernel
theorem dX9_done_69 : decode cX9_done 69 = .ok (.istore 7, 2) := by decide +kernel
theorem dX9_done_71 : decode cX9_done 71 = .ok (.iload 7, 2) := by decide +kernel
theorem dX9_done_73 : decode cX9_done 73 = .ok (.iconst 4, 1) := by decide +kernel
theorem dX9_done_74 : decode cX9_done 74 = .ok (.if_icmp .ne 14, 3) := by decide +kernel
theorem dX9_done_77 : decode cX9_done 77 = .ok (.aload_n 0, 1) := by decide +kernel
theorem dX9_done_78 : decode cX9_done 78 = .ok (.iload 5, 2) := by decide +kernel
theorem dX9_done_80 : decode cX9_done 80 = .ok (.iload 6, 2) := by decide +kernel
theorem dX9_done_82 : decode cX9_done 82 = .ok (.invokevirtual 149, 3) := by decide +kernel
theorem dX9_done_85 : decode cX9_done 85 = .ok (.goto 13, 3) := by decide +kernel
theorem dX9_done_88 : decode cX9_done 88 = .ok (.aload_n 0, 1) := by decide +kernel
theorem dX9_done_89 : decode cX9_done 89 = .ok (.iload 5, 2) := by decide +kernel
theorem dX9_done_91 : decode cX9_done 91 = .ok (.iload 6, 2) := by decide +kernel
theorem dX9_done_93 : decode cX9_done 93 = .ok (.iload 7, 2) := by decide +kernel
theorem dX9_done_95 : decode cX9_done 95 = .ok (.invokevirtual 152, 3) := by decide +kernel
theorem dX9_done_98 : decode cX9_done 98 = .ok (.istore 8, 2) := by decide +kernel
theorem dX9_done_100 : decode cX9_done 100 = .ok (.iload 8, 2) := by decide +kernel
theorem dX9_done_102 : decode cX9_done 102 = .ok (.ifCond .lt 6, 3) := by decide +kernel
theorem dX9_done_105 : decode cX9_done 105 = .ok (.iinc 3 1, 3) := by decide +kernel
theorem dX9_done_108 : decode cX9_done 108 = .ok (.iinc 4 3, 3) := by decide +kernel
theorem dX9_done_111 : decode cX9_done 111 = .ok (.goto (-79), 3) := by decide +kernel
theorem dX9_done_114 : decode cX9_done 114 = .ok (.iload_n 3, 1) := by decide +kernel
theorem dX9_done_115 : decode cX9_done 115 = .ok (.ireturn, 1) := by decide +kernel
theorem dX9_known_0 : decode cX9_known 0 = .ok (.aload_n 0, 1) := by decide +kernel
theorem dX9_known_1 : decode cX9_known 1 = .ok (.getfield 23, 3) := by decide +kernel
theorem dX9_known_4 : decode cX9_known 4 = .ok (.getfield 93, 3) := by decide +kernel
theorem dX9_known_7 : decode cX9_known 7 = .ok (.iload_n 1, 1) := by decide +kernel
theorem dX9_known_8 : decode cX9_known 8 = .ok (.iload_n 2, 1) := by decide +kernel
theorem dX9_known_9 : decode cX9_known 9 = .ok (.invokevirtual 126, 3) := by decide +kernel
theorem dX9_known_12 : decode cX9_known 12 = .ok (.ifCond .eq 15, 3) := by decide +kernel
theorem dX9_known_15 : decode cX9_known 15 = .ok (.aload_n 0, 1) := by decide +kernel
theorem dX9_known_16 : decode cX9_known 16 = .ok (.getfield 23, 3) := by decide +kernel
theorem dX9_known_19 : decode cX9_known 19 = .ok (.iload_n 1, 1) := by decide +kernel
theorem dX9_known_20 : decode cX9_known 20 = .ok (.iload_n 2, 1) := by decide +kernel
theorem dX9_known_21 : decode cX9_known 21 = .ok (.invokevirtual 155, 3) := by decide +kernel
theorem dX9_known_24 : decode cX9_known 24 = .ok (.goto 5, 3) := by decide +kernel
theorem dX9_known_27 : decode cX9_known 27 = .ok (.bipush (-2), 2) := by decide +kernel
theorem dX9_known_29 : decode cX9_known 29 = .ok (.ireturn, 1) := by decide +kernel
theorem dX9_debts_0 : decode cX9_debts 0 = .ok (.aload_n 0, 1) := by decide +kernel
theorem dX9_debts_1 : decode cX9_debts 1 = .ok (.getfield 23, 3) := by decide +kernel
theorem dX9_debts_4 : decode cX9_debts 4 = .ok (.getfield 93, 3) := by decide +kernel
theorem dX9_debts_7 : decode cX9_debts 7 = .ok (.iload_n 1, 1) := by decide +kernel
theorem dX9_debts_8 : decode cX9_debts 8 = .ok (.invokevirtual 158, 3) := by decide +kernel
theorem dX9_debts_11 : decode cX9_debts 11 = .ok (.ifCond .eq 18, 3) := by decide +kernel
theorem dX9_debts_14 : decode cX9_debts 14 = .ok (.aload_n 0, 1) := by decide +kernel
theorem dX9_debts_15 : decode cX9_debts 15 = .ok (.getfield 23, 3) := by decide +kernel
theorem dX9_debts_18 : decode cX9_debts 18 = .ok (.getfield 161, 3) := by decide +kernel
theorem dX9_debts_21 : decode cX9_debts 21 = .ok (.getfield 164, 3) := by decide +kernel
theorem dX9_debts_24 : decode cX9_debts 24 = .ok (.iload_n 1, 1) := by decide +kernel
theorem dX9_debts_25 : decode cX9_debts 25 = .ok (.iaload, 1) := by decide +kernel
theorem dX9_debts_26 : decode cX9_debts 26 = .ok (.goto 5, 3) := by decide +kernel
theorem dX9_debts_29 : decode cX9_debts 29 = .ok (.bipush (-2), 2) := by decide +kernel
theorem dX9_debts_31 : decode cX9_debts 31 = .ok (.ireturn, 1) := by decide +kernel
theorem dX9_debt_0 : decode cX9_debt 0 = .ok (.aload_n 0, 1) := by decide +kernel
theorem dX9_debt_1 : decode cX9_debt 1 = .ok (.getfield 23, 3) := by decide +kernel
theorem dX9_debt_4 : decode cX9_debt 4 = .ok (.getfield 93, 3) := by decide +kernel
theorem dX9_debt_7 : decode cX9_debt 7 = .ok (.iload_n 1, 1) := by decide +kernel
theorem dX9_debt_8 : decode cX9_debt 8 = .ok (.invokevirtual 158, 3) := by decide +kernel
theorem dX9_debt_11 : decode cX9_debt 11 = .ok (.ifCond .ne 5, 3) := by decide +kernel
theorem dX9_debt_14 : decode cX9_debt 14 = .ok (.iconst (-1), 1) := by decide +kernel
theorem dX9_debt_15 : decode cX9_debt 15 = .ok (.ireturn, 1) := by decide +kernel
theorem dX9_debt_16 : decode cX9_debt 16 = .ok (.aload_n 0, 1) := by decide +kernel
theorem dX9_debt_17 : decode cX9_debt 17 = .ok (.getfield 23, 3) := by decide +kernel
theorem dX9_debt_20 : decode cX9_debt 20 = .ok (.getfield 161, 3) := by decide +kernel
theorem dX9_debt_23 : decode cX9_debt 23 = .ok (.iload_n 1, 1) := by decide +kernel
theorem dX9_debt_24 : decode cX9_debt 24 = .ok (.iload_n 2, 1) := by decide +kernel
theorem dX9_debt_25 : decode cX9_debt 25 = .ok (.invokevirtual 167, 3) := by decide +kernel
theorem dX9_debt_28 : decode cX9_debt 28 = .ok (.istore 4, 2) := by decide +kernel
theorem dX9_debt_30 : decode cX9_debt 30 = .ok (.iload 4, 2) := by decide +kernel
theorem dX9_debt_32 : decode cX9_debt 32 = .ok (.ifCond .ge 5, 3) := by decide +kernel
theorem dX9_debt_35 : decode cX9_debt 35 = .ok (.iconst (-1), 1) := by decide +kernel
theorem dX9_debt_36 : decode cX9_debt 36 = .ok (.ireturn, 1) := by decide +kernel
theorem dX9_debt_37 : decode cX9_debt 37 = .ok (.iload_n 3, 1) := by decide +kernel
theorem dX9_debt_38 : decode cX9_debt 38 = .ok (.tableswitch 86 0 3 #[30, 44, 58, 72], 30) := by decide +kernel
theorem dX9_debt_68 : decode cX9_debt 68 = .ok (.aload_n 0, 1) := by decide +kernel
theorem dX9_debt_69 : decode cX9_debt 69 = .ok (.getfield 23, 3) := by decide +kernel
theorem dX9_debt_72 : decode cX9_debt 72 = .ok (.getfield 161, 3) := by decide +kernel
theorem dX9_debt_75 : decode cX9_debt 75 = .ok (.getfield 170, 3) := by decide +kernel
theorem dX9_debt_78 : decode cX9_debt 78 = .ok (.iload 4, 2) := by decide +kernel
theorem dX9_debt_80 : decode cX9_debt 80 = .ok (.iaload, 1) := by decide +kernel
theorem dX9_debt_81 : decode cX9_debt 81 = .ok (.ireturn, 1) := by decide +kernel
theorem dX9_debt_82 : decode cX9_debt 82 = .ok (.aload_n 0, 1) := by decide +kernel
theorem dX9_debt_83 : decode cX9_debt 83 = .ok (.getfield 23, 3) := by decide +kernel
theorem dX9_debt_86 : decode cX9_debt 86 = .ok (.getfield 161, 3) := by decide +kernel
theorem dX9_debt_89 : decode cX9_debt 89 = .ok (.getfield 173, 3) := by decide +kernel
theorem dX9_debt_92 : decode cX9_debt 92 = .ok (.iload 4, 2) := by decide +kernel
theorem dX9_debt_94 : decode cX9_debt 94 = .ok (.iaload, 1) := by decide +kernel
theorem dX9_debt_95 : decode cX9_debt 95 = .ok (.ireturn, 1) := by decide +kernel
theorem dX9_debt_96 : decode cX9_debt 96 = .ok (.aload_n 0, 1) := by decide +kernel
theorem dX9_debt_97 : decode cX9_debt 97 = .ok (.getfield 23, 3) := by decide +kernel
theorem dX9_debt_100 : decode cX9_debt 100 = .ok (.getfield 161, 3) := by decide +kernel
theorem dX9_debt_103 : decode cX9_debt 103 = .ok (.getfield 176, 3) := by decide +kernel
theorem dX9_debt_106 : decode cX9_debt 106 = .ok (.iload 4, 2) := by decide +kernel
theorem dX9_debt_108 : decode cX9_debt 108 = .ok (.iaload, 1) := by decide +kernel
theorem dX9_debt_109 : decode cX9_debt 109 = .ok (.ireturn, 1) := by decide +kernel
theorem dX9_debt_110 : decode cX9_debt 110 = .ok (.aload_n 0, 1) := by decide +kernel
theorem dX9_debt_111 : decode cX9_debt 111 = .ok (.getfield 23, 3) := by decide +kernel
theorem dX9_debt_114 : decode cX9_debt 114 = .ok (.getfield 161, 3) := by decide +kernel
theorem dX9_debt_117 : decode cX9_debt 117 = .ok (.getfield 179, 3) := by decide +kernel
theorem dX9_debt_120 : decode cX9_debt 120 = .ok (.iload 4, 2) := by decide +kernel
theorem dX9_debt_122 : decode cX9_debt 122 = .ok (.iaload, 1) := by decide +kernel
theorem dX9_debt_123 : decode cX9_debt 123 = .ok (.ireturn, 1) := by decide +kernel
theorem dX9_debt_124 : decode cX9_debt 124 = .ok (.iconst (-1), 1) := by decide +kernel
theorem dX9_debt_125 : decode cX9_debt 125 = .ok (.ireturn, 1) := by decide +kernel
theorem dX9_slights_0 : decode cX9_slights 0 = .ok (.aload_n 0, 1) := by decide +kernel
theorem dX9_slights_1 : decode cX9_slights 1 = .ok (.getfield 23, 3) := by decide +kernel
theorem dX9_slights_4 : decode cX9_slights 4 = .ok (.getfield 93, 3) := by decide +kernel
theorem dX9_slights_7 : decode cX9_slights 7 = .ok (.iload_n 1, 1) := by decide +kernel
theorem dX9_slights_8 : decode cX9_slights 8 = .ok (.invokevirtual 158, 3) := by decide +kernel
theorem dX9_slights_11 : decode cX9_slights 11 = .ok (.ifCond .eq 24, 3) := by decide +kernel
theorem dX9_slights_14 : decode cX9_slights 14 = .ok (.aload_n 0, 1) := by decide +kernel
theorem dX9_slights_15 : decode cX9_slights 15 = .ok (.getfield 23, 3) := by decide +kernel
theorem dX9_slights_18 : decode cX9_slights 18 = .ok (.getfield 161, 3) := by decide +kernel
theorem dX9_slights_21 : decode cX9_slights 21 = .ok (.iload_n 1, 1) := by decide +kernel
theorem dX9_slights_22 : decode cX9_slights 22 = .ok (.aload_n 0, 1) := by decide +kernel
theorem dX9_slights_23 : decode cX9_slights 23 = .ok (.getfield 23, 3) := by decide +kernel
theorem dX9_slights_26 : decode cX9_slights 26 = .ok (.getfield 102, 3) := by decide +kernel
theorem dX9_slights_29 : decode cX9_slights 29 = .ok (.invokevirtual 182, 3) := by decide +kernel
theorem dX9_slights_32 : decode cX9_slights 32 = .ok (.goto 5, 3) := by decide +kernel
theorem dX9_slights_35 : decode cX9_slights 35 = .ok (.bipush (-2), 2) := by decide +kernel
theorem dX9_slights_37 : decode cX9_slights 37 = .ok (.ireturn, 1) := by decide +kernel
theorem dX9_first_0 : decode cX9_first 0 = .ok (.iconst 0, 1) := by decide +kernel
theorem dX9_first_1 : decode cX9_first 1 = .ok (.istore_n 1, 1) := by decide +kernel
theorem dX9_first_2 : decode cX9_first 2 = .ok (.iconst (-1), 1) := by decide +kernel
theorem dX9_first_3 : decode cX9_first 3 = .ok (.istore_n 2, 1) := by decide +kernel
theorem dX9_first_4 : decode cX9_first 4 = .ok (.iconst 0, 1) := by decide +kernel
theorem dX9_first_5 : decode cX9_first 5 = .ok (.istore_n 3, 1) := by decide +kernel
theorem dX9_first_6 : decode cX9_first 6 = .ok (.iload_n 3, 1) := by decide +kernel
theorem dX9_first_7 : decode cX9_first 7 = .ok (.aload_n 0, 1) := by decide +kernel
theorem dX9_first_8 : decode cX9_first 8 = .ok (.getfield 23, 3) := by decide +kernel
theorem dX9_first_11 : decode cX9_first 11 = .ok (.getfield 93, 3) := by decide +kernel
theorem dX9_first_14 : decode cX9_first 14 = .ok (.getfield 94, 3) := by decide +kernel
theorem dX9_first_17 : decode cX9_first 17 = .ok (.if_icmp .ge 89, 3) := by decide +kernel
theorem dX9_first_20 : decode cX9_first 20 = .ok (.aload_n 0, 1) := by decide +kernel
theorem dX9_first_21 : decode cX9_first 21 = .ok (.getfield 23, 3) := by decide +kernel
theorem dX9_first_24 : decode cX9_first 24 = .ok (.getfield 161, 3) := by decide +kernel
theorem dX9_first_27 : decode cX9_first 27 = .ok (.iload_n 3, 1) := by decide +kernel
theorem dX9_first_28 : decode cX9_first 28 = .ok (.aload_n 0, 1) := by decide +kernel
theorem dX9_first_29 : decode cX9_first 29 = .ok (.getfield 23, 3) := by decide +kernel
theorem dX9_first_32 : decode cX9_first 32 = .ok (.getfield 102, 3) := by decide +kernel
theorem dX9_first_35 : decode cX9_first 35 = .ok (.invokevirtual 182, 3) := by decide +kernel
theorem dX9_first_38 : decode cX9_first 38 = .ok (.istore 4, 2) := by decide +kernel
theorem dX9_first_40 : decode cX9_first 40 = .ok (.iload_n 2, 1) := by decide +kernel
theorem dX9_first_41 : decode cX9_first 41 = .ok (.ifCond .lt 40, 3) := by decide +kernel
theorem dX9_first_44 : decode cX9_first 44 = .ok (.iload 4, 2) := by decide +kernel
theorem dX9_first_46 : decode cX9_first 46 = .ok (.iload_n 1, 1) := by decide +kernel
theorem dX9_first_47 : decode cX9_first 47 = .ok (.if_icmp .ne 34, 3) := by decide +kernel
theorem dX9_first_50 : decode cX9_first 50 = .ok (.aload_n 0, 1) := by decide +kernel
theorem dX9_first_51 : decode cX9_first 51 = .ok (.getfield 23, 3) := by decide +kernel
theorem dX9_first_54 : decode cX9_first 54 = .ok (.getfield 93, 3) := by decide +kernel
theorem dX9_first_57 : decode cX9_first 57 = .ok (.getfield 185, 3) := by decide +kernel
theorem dX9_first_60 : decode cX9_first 60 = .ok (.iload_n 3, 1) := by decide +kernel
theorem dX9_first_61 : decode cX9_first 61 = .ok (.iaload, 1) := by decide +kernel
theorem dX9_first_62 : decode cX9_first 62 = .ok (.aload_n 0, 1) := by decide +kernel
theorem dX9_first_63 : decode cX9_first 63 = .ok (.getfield 23, 3) := by decide +kernel
theorem dX9_first_66 : decode cX9_first 66 = .ok (.getfield 93, 3) := by decide +kernel
theorem dX9_first_69 : decode cX9_first 69 = .ok (.getfield 185, 3) := by decide +kernel
theorem dX9_first_72 : decode cX9_first 72 = .ok (.iload_n 2, 1) := by decide +kernel
theorem dX9_first_73 : decode cX9_first 73 = .ok (.iaload, 1) := by decide +kernel
theorem dX9_first_74 : decode cX9_first 74 = .ok (.if_icmp .le 7, 3) := by decide +kernel
theorem dX9_first_77 : decode cX9_first 77 = .ok (.iconst 1, 1) := by decide +kernel
theorem dX9_first_78 : decode cX9_first 78 = .ok (.goto 4, 3) := by decide +kernel
theorem dX9_first_81 : decode cX9_first 81 = .ok (.iconst 0, 1) := by decide +kernel
theorem dX9_first_82 : decode cX9_first 82 = .ok (.istore 5, 2) := by decide +kernel
theorem dX9_first_84 : decode cX9_first 84 = .ok (.iload 4, 2) := by decide +kernel
theorem dX9_first_86 : decode cX9_first 86 = .ok (.iload_n 1, 1) := by decide +kernel
theorem dX9_first_87 : decode cX9_first 87 = .ok (.if_icmp .gt 8, 3) := by decide +kernel
theorem dX9_first_90 : decode cX9_first 90 = .ok (.iload 5, 2) := by decide +kernel
theorem dX9_first_92 : decode cX9_first 92 = .ok (.ifCond .eq 8, 3) := by decide +kernel
theorem dX9_first_95 : decode cX9_first 95 = .ok (.iload 4, 2) := by decide +kernel
theorem dX9_first_97 : decode cX9_first 97 = .ok (.istore_n 1, 1) := by decide +kernel
theorem dX9_first_98 : decode cX9_first 98 = .ok (.iload_n 3, 1) := by decide +kernel
theorem dX9_first_99 : decode cX9_first 99 = .ok (.istore_n 2, 1) := by decide +kernel
theorem dX9_first_100 : decode cX9_first 100 = .ok (.iinc 3 1, 3) := by decide +kernel
theorem dX9_first_103 : decode cX9_first 103 = .ok (.goto (-97), 3) := by decide +kernel
theorem dX9_first_106 : decode cX9_first 106 = .ok (.iload_n 2, 1) := by decide +kernel
theorem dX9_first_107 : decode cX9_first 107 = .ok (.ireturn, 1) := by decide +kernel
theorem dX9_owes_0 : decode cX9_owes 0 = .ok (.aload_n 0, 1) := by decide +kernel
theorem dX9_owes_1 : decode cX9_owes 1 = .ok (.iload_n 1, 1) := by decide +kernel
theorem dX9_owes_2 : decode cX9_owes 2 = .ok (.iload_n 2, 1) := by decide +kernel
theorem dX9_owes_3 : decode cX9_owes 3 = .ok (.iload_n 3, 1) := by decide +kernel
theorem dX9_owes_4 : decode cX9_owes 4 = .ok (.invokevirtual 105, 3) := by decide +kernel
theorem dX9_owes_7 : decode cX9_owes 7 = .ok (.ifCond .eq 16, 3) := by decide +kernel
theorem dX9_owes_10 : decode cX9_owes 10 = .ok (.aload_n 0, 1) := by decide +kernel
theorem dX9_owes_11 : decode cX9_owes 11 = .ok (.getfield 23, 3) := by decide +kernel
theorem dX9_owes_14 : decode cX9_owes 14 = .ok (.iload_n 1, 1) := by decide +kernel
theorem dX9_owes_15 : decode cX9_owes 15 = .ok (.iload_n 2, 1) := by decide +kernel
theorem dX9_owes_16 : decode cX9_owes 16 = .ok (.iload_n 3, 1) := by decide +kernel
theorem dX9_owes_17 : decode cX9_owes 17 = .ok (.invokevirtual 188, 3) := by decide +kernel
theorem dX9_owes_20 : decode cX9_owes 20 = .ok (.goto 5, 3) := by decide +kernel
theorem dX9_owes_23 : decode cX9_owes 23 = .ok (.bipush (-2), 2) := by decide +kernel
theorem dX9_owes_25 : decode cX9_owes 25 = .ok (.ireturn, 1) := by decide +kernel
theorem dX9_worth_0 : decode cX9_worth 0 = .ok (.aload_n 0, 1) := by decide +kernel
theorem dX9_worth_1 : decode cX9_worth 1 = .ok (.iload_n 1, 1) := by decide +kernel
theorem dX9_worth_2 : decode cX9_worth 2 = .ok (.iload_n 2, 1) := by decide +kernel
theorem dX9_worth_3 : decode cX9_worth 3 = .ok (.invokevirtual 191, 3) := by decide +kernel
theorem dX9_worth_6 : decode cX9_worth 6 = .ok (.ifCond .ne 6, 3) := by decide +kernel
theorem dX9_worth_9 : decode cX9_worth 9 = .ok (.bipush (-2), 2) := by decide +kernel
theorem dX9_worth_11 : decode cX9_worth 11 = .ok (.ireturn, 1) := by decide +kernel
theorem dX9_worth_12 : decode cX9_worth 12 = .ok (.aload_n 0, 1) := by decide +kernel
theorem dX9_worth_13 : decode cX9_worth 13 = .ok (.getfield 40, 3) := by decide +kernel
theorem dX9_worth_16 : decode cX9_worth 16 = .ok (.aload_n 0, 1) := by decide +kernel
theorem dX9_worth_17 : decode cX9_worth 17 = .ok (.getfield 23, 3) := by decide +kernel
theorem dX9_worth_20 : decode cX9_worth 20 = .ok (.iload_n 1, 1) := by decide +kernel
theorem dX9_worth_21 : decode cX9_worth 21 = .ok (.iload_n 2, 1) := by decide +kernel
theorem dX9_worth_22 : decode cX9_worth 22 = .ok (.invokevirtual 194, 3) := by decide +kernel
theorem dX9_worth_25 : decode cX9_worth 25 = .ok (.aload_n 0, 1) := by decide +kernel
theorem dX9_worth_26 : decode cX9_worth 26 = .ok (.getfield 40, 3) := by decide +kernel
theorem dX9_worth_29 : decode cX9_worth 29 = .ok (.getfield 198, 3) := by decide +kernel
theorem dX9_worth_32 : decode cX9_worth 32 = .ok (.ireturn, 1) := by decide +kernel
theorem dX9_round_0 : decode cX9_round 0 = .ok (.aload_n 0, 1) := by decide +kernel
theorem dX9_round_1 : decode cX9_round 1 = .ok (.iload_n 1, 1) := by decide +kernel
theorem dX9_round_2 : decode cX9_round 2 = .ok (.iload_n 2, 1) := by decide +kernel
theorem dX9_round_3 : decode cX9_round 3 = .ok (.invokevirtual 191, 3) := by decide +kernel
theorem dX9_round_6 : decode cX9_round 6 = .ok (.ifCond .ne 6, 3) := by decide +kernel
theorem dX9_round_9 : decode cX9_round 9 = .ok (.bipush (-2), 2) := by decide +kernel
theorem dX9_round_11 : decode cX9_round 11 = .ok (.ireturn, 1) := by decide +kernel
theorem dX9_round_12 : decode cX9_round 12 = .ok (.aload_n 0, 1) := by decide +kernel
theorem dX9_round_13 : decode cX9_round 13 = .ok (.getfield 40, 3) := by decide +kernel
theorem dX9_round_16 : decode cX9_round 16 = .ok (.aload_n 0, 1) := by decide +kernel
theorem dX9_round_17 : decode cX9_round 17 = .ok (.getfield 23, 3) := by decide +kernel
theorem dX9_round_20 : decode cX9_round 20 = .ok (.iload_n 1, 1) := by decide +kernel
theorem dX9_round_21 : decode cX9_round 21 = .ok (.iload_n 2, 1) := by decide +kernel
theorem dX9_round_22 : decode cX9_round 22 = .ok (.invokevirtual 194, 3) := by decide +kernel
theorem dX9_round_25 : decode cX9_round 25 = .ok (.iload_n 3, 1) := by decide +kernel
theorem dX9_round_26 : decode cX9_round 26 = .ok (.ifCond .lt 26, 3) := by decide +kernel
theorem dX9_round_29 : decode cX9_round 29 = .ok (.iload_n 3, 1) := by decide +kernel
theorem dX9_round_30 : decode cX9_round 30 = .ok (.aload_n 0, 1) := by decide +kernel
theorem dX9_round_31 : decode cX9_round 31 = .ok (.getfield 40, 3) := by decide +kernel
theorem dX9_round_34 : decode cX9_round 34 = .ok (.getfield 201, 3) := by decide +kernel
theorem dX9_round_37 : decode cX9_round 37 = .ok (.if_icmp .ge 15, 3) := by decide +kernel
theorem dX9_round_40 : decode cX9_round 40 = .ok (.aload_n 0, 1) := by decide +kernel
theorem dX9_round_41 : decode cX9_round 41 = .ok (.getfield 40, 3) := by decide +kernel
theorem dX9_round_44 : decode cX9_round 44 = .ok (.getfield 204, 3) := by decide +kernel
theorem dX9_round_47 : decode cX9_round 47 = .ok (.iload_n 3, 1) := by decide +kernel
theorem dX9_round_48 : decode cX9_round 48 = .ok (.iaload, 1) := by decide +kernel
theorem dX9_round_49 : decode cX9_round 49 = .ok (.goto 4, 3) := by decide +kernel
theorem dX9_round_52 : decode cX9_round 52 = .ok (.iconst (-1), 1) := by decide +kernel
theorem dX9_round_53 : decode cX9_round 53 = .ok (.ireturn, 1) := by decide +kernel
theorem dX9_over_0 : decode cX9_over 0 = .ok (.aload_n 0, 1) := by decide +kernel
theorem dX9_over_1 : decode cX9_over 1 = .ok (.iload_n 1, 1) := by decide +kernel
theorem dX9_over_2 : decode cX9_over 2 = .ok (.iload_n 2, 1) := by decide +kernel
theorem dX9_over_3 : decode cX9_over 3 = .ok (.invokevirtual 191, 3) := by decide +kernel
theorem dX9_over_6 : decode cX9_over 6 = .ok (.ifCond .ne 6, 3) := by decide +kernel
theorem dX9_over_9 : decode cX9_over 9 = .ok (.bipush (-2), 2) := by decide +kernel
theorem dX9_over_11 : decode cX9_over 11 = .ok (.ireturn, 1) := by decide +kernel
theorem dX9_over_12 : decode cX9_over 12 = .ok (.aload_n 0, 1) := by decide +kernel
theorem dX9_over_13 : decode cX9_over 13 = .ok (.getfield 40, 3) := by decide +kernel
theorem dX9_over_16 : decode cX9_over 16 = .ok (.aload_n 0, 1) := by decide +kernel
theorem dX9_over_17 : decode cX9_over 17 = .ok (.getfield 23, 3) := by decide +kernel
theorem dX9_over_20 : decode cX9_over 20 = .ok (.iload_n 1, 1) := by decide +kernel
theorem dX9_over_21 : decode cX9_over 21 = .ok (.iload_n 2, 1) := by decide +kernel
theorem dX9_over_22 : decode cX9_over 22 = .ok (.invokevirtual 194, 3) := by decide +kernel
theorem dX9_over_25 : decode cX9_over 25 = .ok (.aload_n 0, 1) := by decide +kernel
theorem dX9_over_26 : decode cX9_over 26 = .ok (.getfield 40, 3) := by decide +kernel
theorem dX9_over_29 : decode cX9_over 29 = .ok (.getfield 207, 3) := by decide +kernel
theorem dX9_over_32 : decode cX9_over 32 = .ok (.ireturn, 1) := by decide +kernel
theorem dX9_may_0 : decode cX9_may 0 = .ok (.iload_n 1, 1) := by decide +kernel
theorem dX9_may_1 : decode cX9_may 1 = .ok (.invokestatic 134, 3) := by decide +kernel
theorem dX9_may_4 : decode cX9_may 4 = .ok (.ifCond .eq 12, 3) := by decide +kernel
theorem dX9_may_7 : decode cX9_may 7 = .ok (.aload_n 0, 1) := by decide +kernel
theorem dX9_may_8 : decode cX9_may 8 = .ok (.iload_n 2, 1) := by decide +kernel
theorem dX9_may_9 : decode cX9_may 9 = .ok (.iload_n 3, 1) := by decide +kernel
theorem dX9_may_10 : decode cX9_may 10 = .ok (.invokevirtual 191, 3) := by decide +kernel
theorem dX9_may_13 : decode cX9_may 13 = .ok (.ifCond .ne 6, 3) := by decide +kernel
theorem dX9_may_16 : decode cX9_may 16 = .ok (.bipush (-2), 2) := by decide +kernel
theorem dX9_may_18 : decode cX9_may 18 = .ok (.ireturn, 1) := by decide +kernel
theorem dX9_may_19 : decode cX9_may 19 = .ok (.aload_n 0, 1) := by decide +kernel
theorem dX9_may_20 : decode cX9_may 20 = .ok (.getfield 33, 3) := by decide +kernel
theorem dX9_may_23 : decode cX9_may 23 = .ok (.iload_n 1, 1) := by decide +kernel
theorem dX9_may_24 : decode cX9_may 24 = .ok (.aaload, 1) := by decide +kernel
theorem dX9_may_25 : decode cX9_may 25 = .ok (.astore 4, 2) := by decide +kernel
theorem dX9_may_27 : decode cX9_may 27 = .ok (.aload 4, 2) := by decide +kernel
theorem dX9_may_29 : decode cX9_may 29 = .ok (.getfield 138, 3) := by decide +kernel
theorem dX9_may_32 : decode cX9_may 32 = .ok (.ifCond .ne 6, 3) := by decide +kernel
theorem dX9_may_35 : decode cX9_may 35 = .ok (.bipush (-6), 2) := by decide +kernel
theorem dX9_may_37 : decode cX9_may 37 = .ok (.ireturn, 1) := by decide +kernel
theorem dX9_may_38 : decode cX9_may 38 = .ok (.aload_n 0, 1) := by decide +kernel
theorem dX9_may_39 : decode cX9_may 39 = .ok (.getfield 40, 3) := by decide +kernel
theorem dX9_may_42 : decode cX9_may 42 = .ok (.aload_n 0, 1) := by decide +kernel
theorem dX9_may_43 : decode cX9_may 43 = .ok (.getfield 23, 3) := by decide +kernel
theorem dX9_may_46 : decode cX9_may 46 = .ok (.iload_n 2, 1) := by decide +kernel
theorem dX9_may_47 : decode cX9_may 47 = .ok (.iload_n 3, 1) := by decide +kernel
theorem dX9_may_48 : decode cX9_may 48 = .ok (.aload 4, 2) := by decide +kernel
theorem dX9_may_50 : decode cX9_may 50 = .ok (.invokevirtual 210, 3) := by decide +kernel
theorem dX9_may_53 : decode cX9_may 53 = .ok (.ifCond .eq 7, 3) := by decide +kernel
theorem dX9_may_56 : decode cX9_may 56 = .ok (.iconst 1, 1) := by decide +kernel
theorem dX9_may_57 : decode cX9_may 57 = .ok (.goto 4, 3) := by decide +kernel
theorem dX9_may_60 : decode cX9_may 60 = .ok (.iconst 0, 1) := by decide +kernel
theorem dX9_may_61 : decode cX9_may 61 = .ok (.ireturn, 1) := by decide +kernel
theorem dX9_fewest_0 : decode cX9_fewest 0 = .ok (.aload_n 0, 1) := by decide +kernel
theorem dX9_fewest_1 : decode cX9_fewest 1 = .ok (.getfield 23, 3) := by decide +kernel
theorem dX9_fewest_4 : decode cX9_fewest 4 = .ok (.getfield 93, 3) := by decide +kernel
theorem dX9_fewest_7 : decode cX9_fewest 7 = .ok (.iload_n 1, 1) := by decide +kernel
theorem dX9_fewest_8 : decode cX9_fewest 8 = .ok (.invokevirtual 158, 3) := by decide +kernel
theorem dX9_fewest_11 : decode cX9_fewest 11 = .ok (.ifCond .eq 18, 3) := by decide +kernel
theorem dX9_fewest_14 : decode cX9_fewest 14 = .ok (.aload_n 0, 1) := by decide +kernel
theorem dX9_fewest_15 : decode cX9_fewest 15 = .ok (.getfield 40, 3) := by decide +kernel
theorem dX9_fewest_18 : decode cX9_fewest 18 = .ok (.aload_n 0, 1) := by decide +kernel
theorem dX9_fewest_19 : decode cX9_fewest 19 = .ok (.getfield 23, 3) := by decide +kernel
theorem dX9_fewest_22 : decode cX9_fewest 22 = .ok (.iload_n 1, 1) := by decide +kernel
theorem dX9_fewest_23 : decode cX9_fewest 23 = .ok (.invokevirtual 214, 3) := by decide +kernel
theorem dX9_fewest_26 : decode cX9_fewest 26 = .ok (.goto 5, 3) := by decide +kernel
theorem dX9_fewest_29 : decode cX9_fewest 29 = .ok (.bipush (-2), 2) := by decide +kernel
theorem dX9_fewest_31 : decode cX9_fewest 31 = .ok (.ireturn, 1) := by decide +kernel
theorem dX9_lost_0 : decode cX9_lost 0 = .ok (.aload_n 0, 1) := by decide +kernel
theorem dX9_lost_1 : decode cX9_lost 1 = .ok (.getfield 23, 3) := by decide +kernel
theorem dX9_lost_4 : decode cX9_lost 4 = .ok (.getfield 93, 3) := by decide +kernel
theorem dX9_lost_7 : decode cX9_lost 7 = .ok (.iload_n 1, 1) := by decide +kernel
theorem dX9_lost_8 : decode cX9_lost 8 = .ok (.invokevirtual 158, 3) := by decide +kernel
theorem dX9_lost_11 : decode cX9_lost 11 = .ok (.ifCond .eq 18, 3) := by decide +kernel
theorem dX9_lost_14 : decode cX9_lost 14 = .ok (.aload_n 0, 1) := by decide +kernel
theorem dX9_lost_15 : decode cX9_lost 15 = .ok (.getfield 40, 3) := by decide +kernel
theorem dX9_lost_18 : decode cX9_lost 18 = .ok (.aload_n 0, 1) := by decide +kernel
theorem dX9_lost_19 : decode cX9_lost 19 = .ok (.getfield 23, 3) := by decide +kernel
theorem dX9_lost_22 : decode cX9_lost 22 = .ok (.iload_n 1, 1) := by decide +kernel
theorem dX9_lost_23 : decode cX9_lost 23 = .ok (.invokevirtual 218, 3) := by decide +kernel
theorem dX9_lost_26 : decode cX9_lost 26 = .ok (.goto 5, 3) := by decide +kernel
theorem dX9_lost_29 : decode cX9_lost 29 = .ok (.bipush (-2), 2) := by decide +kernel
theorem dX9_lost_31 : decode cX9_lost 31 = .ok (.ireturn, 1) := by decide +kernel
theorem dX9_soon_0 : decode cX9_soon 0 = .ok (.aload_n 0, 1) := by decide +kernel
theorem dX9_soon_1 : decode cX9_soon 1 = .ok (.getfield 23, 3) := by decide +kernel
theorem dX9_soon_4 : decode cX9_soon 4 = .ok (.getfield 93, 3) := by decide +kernel
theorem dX9_soon_7 : decode cX9_soon 7 = .ok (.iload_n 1, 1) := by decide +kernel
theorem dX9_soon_8 : decode cX9_soon 8 = .ok (.iload_n 2, 1) := by decide +kernel
theorem dX9_soon_9 : decode cX9_soon 9 = .ok (.invokevirtual 126, 3) := by decide +kernel
theorem dX9_soon_12 : decode cX9_soon 12 = .ok (.ifCond .ne 6, 3) := by decide +kernel
theorem dX9_soon_15 : decode cX9_soon 15 = .ok (.bipush (-2), 2) := by decide +kernel
theorem dX9_soon_17 : decode cX9_soon 17 = .ok (.ireturn, 1) := by decide +kernel
theorem dX9_soon_18 : decode cX9_soon 18 = .ok (.aload_n 0, 1) := by decide +kernel
theorem dX9_soon_19 : decode cX9_soon 19 = .ok (.getfield 47, 3) := by decide +kernel
theorem dX9_soon_22 : decode cX9_soon 22 = .ok (.aload_n 0, 1) := by decide +kernel
theorem dX9_soon_23 : decode cX9_soon 23 = .ok (.getfield 23, 3) := by decide +kernel
theorem dX9_soon_26 : decode cX9_soon 26 = .ok (.iload_n 1, 1) := by decide +kernel
theorem dX9_soon_27 : decode cX9_soon 27 = .ok (.iload_n 2, 1) := by decide +kernel
theorem dX9_soon_28 : decode cX9_soon 28 = .ok (.invokevirtual 221, 3) := by decide +kernel
theorem dX9_soon_31 : decode cX9_soon 31 = .ok (.aload_n 0, 1) := by decide +kernel
theorem dX9_soon_32 : decode cX9_soon 32 = .ok (.getfield 47, 3) := by decide +kernel
theorem dX9_soon_35 : decode cX9_soon 35 = .ok (.getfield 224, 3) := by decide +kernel
theorem dX9_soon_38 : decode cX9_soon 38 = .ok (.ireturn, 1) := by decide +kernel
theorem dX9_path_0 : decode cX9_path 0 = .ok (.aload_n 0, 1) := by decide +kernel
theorem dX9_path_1 : decode cX9_path 1 = .ok (.getfield 23, 3) := by decide +kernel
theorem dX9_path_4 : decode cX9_path 4 = .ok (.getfield 93, 3) := by decide +kernel
theorem dX9_path_7 : decode cX9_path 7 = .ok (.iload_n 1, 1) := by decide +kernel
theorem dX9_path_8 : decode cX9_path 8 = .ok (.iload_n 2, 1) := by decide +kernel
theorem dX9_path_9 : decode cX9_path 9 = .ok (.invokevirtual 126, 3) := by decide +kernel
theorem dX9_path_12 : decode cX9_path 12 = .ok (.ifCond .ne 6, 3) := by decide +kernel
theorem dX9_path_15 : decode cX9_path 15 = .ok (.bipush (-2), 2) := by decide +kernel
theorem dX9_path_17 : decode cX9_path 17 = .ok (.ireturn, 1) := by decide +kernel
theorem dX9_path_18 : decode cX9_path 18 = .ok (.aload_n 0, 1) := by decide +kernel
theorem dX9_path_19 : decode cX9_path 19 = .ok (.getfield 47, 3) := by decide +kernel
theorem dX9_path_22 : decode cX9_path 22 = .ok (.aload_n 0, 1) := by decide +kernel
theorem dX9_path_23 : decode cX9_path 23 = .ok (.getfield 23, 3) := by decide +kernel
theorem dX9_path_26 : decode cX9_path 26 = .ok (.iload_n 1, 1) := by decide +kernel
theorem dX9_path_27 : decode cX9_path 27 = .ok (.iload_n 2, 1) := by decide +kernel
theorem dX9_path_28 : decode cX9_path 28 = .ok (.invokevirtual 221, 3) := by decide +kernel
theorem dX9_path_31 : decode cX9_path 31 = .ok (.iload_n 3, 1) := by decide +kernel
theorem dX9_path_32 : decode cX9_path 32 = .ok (.ifCond .lt 26, 3) := by decide +kernel
theorem dX9_path_35 : decode cX9_path 35 = .ok (.iload_n 3, 1) := by decide +kernel
theorem dX9_path_36 : decode cX9_path 36 = .ok (.aload_n 0, 1) := by decide +kernel
theorem dX9_path_37 : decode cX9_path 37 = .ok (.getfield 47, 3) := by decide +kernel
theorem dX9_path_40 : decode cX9_path 40 = .ok (.getfield 224, 3) := by decide +kernel
theorem dX9_path_43 : decode cX9_path 43 = .ok (.if_icmp .ge 15, 3) := by decide +kernel
theorem dX9_path_46 : decode cX9_path 46 = .ok (.aload_n 0, 1) := by decide +kernel
theorem dX9_path_47 : decode cX9_path 47 = .ok (.getfield 47, 3) := by decide +kernel
theorem dX9_path_50 : decode cX9_path 50 = .ok (.getfield 225, 3) := by decide +kernel
theorem dX9_path_53 : decode cX9_path 53 = .ok (.iload_n 3, 1) := by decide +kernel
theorem dX9_path_54 : decode cX9_path 54 = .ok (.iaload, 1) := by decide +kernel
theorem dX9_path_55 : decode cX9_path 55 = .ok (.goto 4, 3) := by decide +kernel
theorem dX9_path_58 : decode cX9_path 58 = .ok (.iconst (-1), 1) := by decide +kernel
theorem dX9_path_59 : decode cX9_path 59 = .ok (.ireturn, 1) := by decide +kernel
theorem dX9_reach_0 : decode cX9_reach 0 = .ok (.aload_n 0, 1) := by decide +kernel
theorem dX9_reach_1 : decode cX9_reach 1 = .ok (.getfield 23, 3) := by decide +kernel
theorem dX9_reach_4 : decode cX9_reach 4 = .ok (.getfield 93, 3) := by decide +kernel
theorem dX9_reach_7 : decode cX9_reach 7 = .ok (.iload_n 1, 1) := by decide +kernel
theorem dX9_reach_8 : decode cX9_reach 8 = .ok (.invokevirtual 158, 3) := by decide +kernel
theorem dX9_reach_11 : decode cX9_reach 11 = .ok (.ifCond .eq 15, 3) := by decide +kernel
theorem dX9_reach_14 : decode cX9_reach 14 = .ok (.aload_n 0, 1) := by decide +kernel
theorem dX9_reach_15 : decode cX9_reach 15 = .ok (.getfield 23, 3) := by decide +kernel
theorem dX9_reach_18 : decode cX9_reach 18 = .ok (.iload_n 1, 1) := by decide +kernel
theorem dX9_reach_19 : decode cX9_reach 19 = .ok (.iconst (-1), 1) := by decide +kernel
theorem dX9_reach_20 : decode cX9_reach 20 = .ok (.invokevirtual 228, 3) := by decide +kernel
theorem dX9_reach_23 : decode cX9_reach 23 = .ok (.goto 5, 3) := by decide +kernel
theorem dX9_reach_26 : decode cX9_reach 26 = .ok (.bipush (-2), 2) := by decide +kernel
theorem dX9_reach_28 : decode cX9_reach 28 = .ok (.ireturn, 1) := by decide +kernel
theorem dX9_drop_0 : decode cX9_drop 0 = .ok (.aload_n 0, 1) := by decide +kernel
theorem dX9_drop_1 : decode cX9_drop 1 = .ok (.getfield 23, 3) := by decide +kernel
theorem dX9_drop_4 : decode cX9_drop 4 = .ok (.getfield 93, 3) := by decide +kernel
theorem dX9_drop_7 : decode cX9_drop 7 = .ok (.iload_n 1, 1) := by decide +kernel
theorem dX9_drop_8 : decode cX9_drop 8 = .ok (.invokevirtual 158, 3) := by decide +kernel
theorem dX9_drop_11 : decode cX9_drop 11 = .ok (.ifCond .ne 6, 3) := by decide +kernel
theorem dX9_drop_14 : decode cX9_drop 14 = .ok (.bipush (-2), 2) := by decide +kernel
theorem dX9_drop_16 : decode cX9_drop 16 = .ok (.ireturn, 1) := by decide +kernel
theorem dX9_drop_17 : decode cX9_drop 17 = .ok (.iconst (-1), 1) := by decide +kernel
theorem dX9_drop_18 : decode cX9_drop 18 = .ok (.istore_n 2, 1) := by decide +kernel
theorem dX9_drop_19 : decode cX9_drop 19 = .ok (.iconst 0, 1) := by decide +kernel
theorem dX9_drop_20 : decode cX9_drop 20 = .ok (.istore_n 3, 1) := by decide +kernel
theorem dX9_drop_21 : decode cX9_drop 21 = .ok (.iload_n 3, 1) := by decide +kernel
theorem dX9_drop_22 : decode cX9_drop 22 = .ok (.aload_n 0, 1) := by decide +kernel
theorem dX9_drop_23 : decode cX9_drop 23 = .ok (.getfield 23, 3) := by decide +kernel
theorem dX9_drop_26 : decode cX9_drop 26 = .ok (.getfield 93, 3) := by decide +kernel
theorem dX9_drop_29 : decode cX9_drop 29 = .ok (.getfield 94, 3) := by decide +kernel
theorem dX9_drop_32 : decode cX9_drop 32 = .ok (.if_icmp .ge 66, 3) := by decide +kernel
theorem dX9_drop_35 : decode cX9_drop 35 = .ok (.iload_n 2, 1) := by decide +kernel
theorem dX9_drop_36 : decode cX9_drop 36 = .ok (.ifCond .lt 30, 3) := by decide +kernel
theorem dX9_drop_39 : decode cX9_drop 39 = .ok (.aload_n 0, 1) := by decide +kernel
theorem dX9_drop_40 : decode cX9_drop 40 = .ok (.getfield 23, 3) := by decide +kernel
theorem dX9_drop_43 : decode cX9_drop 43 = .ok (.getfield 93, 3) := by decide +kernel
theorem dX9_drop_46 : decode cX9_drop 46 = .ok (.getfield 185, 3) := by decide +kernel
theorem dX9_drop_49 : decode cX9_drop 49 = .ok (.iload_n 3, 1) := by decide +kernel
theorem dX9_drop_50 : decode cX9_drop 50 = .ok (.iaload, 1) := by decide +kernel
theorem dX9_drop_51 : decode cX9_drop 51 = .ok (.aload_n 0, 1) := by decide +kernel
theorem dX9_drop_52 : decode cX9_drop 52 = .ok (.getfield 23, 3) := by decide +kernel
theorem dX9_drop_55 : decode cX9_drop 55 = .ok (.getfield 93, 3) := by decide +kernel
theorem dX9_drop_58 : decode cX9_drop 58 = .ok (.getfield 185, 3) := by decide +kernel
theorem dX9_drop_61 : decode cX9_drop 61 = .ok (.iload_n 2, 1) := by decide +kernel
theorem dX9_drop_62 : decode cX9_drop 62 = .ok (.iaload, 1) := by decide +kernel
theorem dX9_drop_63 : decode cX9_drop 63 = .ok (.if_icmp .ge 7, 3) := by decide +kernel
theorem dX9_drop_66 : decode cX9_drop 66 = .ok (.iconst 1, 1) := by decide +kernel
theorem dX9_drop_67 : decode cX9_drop 67 = .ok (.goto 4, 3) := by decide +kernel
theorem dX9_drop_70 : decode cX9_drop 70 = .ok (.iconst 0, 1) := by decide +kernel
theorem dX9_drop_71 : decode cX9_drop 71 = .ok (.istore 4, 2) := by decide +kernel
theorem dX9_drop_73 : decode cX9_drop 73 = .ok (.iload 4, 2) := by decide +kernel
theorem dX9_drop_75 : decode cX9_drop 75 = .ok (.ifCond .eq 17, 3) := by decide +kernel
theorem dX9_drop_78 : decode cX9_drop 78 = .ok (.aload_n 0, 1) := by decide +kernel
theorem dX9_drop_79 : decode cX9_drop 79 = .ok (.getfield 23, 3) := by decide +kernel
theorem dX9_drop_82 : decode cX9_drop 82 = .ok (.iload_n 1, 1) := by decide +kernel
theorem dX9_drop_83 : decode cX9_drop 83 = .ok (.iload_n 3, 1) := by decide +kernel
theorem dX9_drop_84 : decode cX9_drop 84 = .ok (.invokevirtual 231, 3) := by decide +kernel
theorem dX9_drop_87 : decode cX9_drop 87 = .ok (.ifCond .eq 5, 3) := by decide +kernel
theorem dX9_drop_90 : decode cX9_drop 90 = .ok (.iload_n 3, 1) := by decide +kernel
theorem dX9_drop_91 : decode cX9_drop 91 = .ok (.istore_n 2, 1) := by decide +kernel
theorem dX9_drop_92 : decode cX9_drop 92 = .ok (.iinc 3 1, 3) := by decide +kernel
theorem dX9_drop_95 : decode cX9_drop 95 = .ok (.goto (-74), 3) := by decide +kernel
theorem dX9_drop_98 : decode cX9_drop 98 = .ok (.iload_n 2, 1) := by decide +kernel
theorem dX9_drop_99 : decode cX9_drop 99 = .ok (.ireturn, 1) := by decide +kernel
theorem dX9_tie_0 : decode cX9_tie 0 = .ok (.aload_n 0, 1) := by decide +kernel
theorem dX9_tie_1 : decode cX9_tie 1 = .ok (.getfield 23, 3) := by decide +kernel
theorem dX9_tie_4 : decode cX9_tie 4 = .ok (.getfield 93, 3) := by decide +kernel
theorem dX9_tie_7 : decode cX9_tie 7 = .ok (.iload_n 1, 1) := by decide +kernel
theorem dX9_tie_8 : decode cX9_tie 8 = .ok (.iload_n 2, 1) := by decide +kernel
theorem dX9_tie_9 : decode cX9_tie 9 = .ok (.invokevirtual 126, 3) := by decide +kernel
theorem dX9_tie_12 : decode cX9_tie 12 = .ok (.ifCond .ne 6, 3) := by decide +kernel
theorem dX9_tie_15 : decode cX9_tie 15 = .ok (.bipush (-2), 2) := by decide +kernel
theorem dX9_tie_17 : decode cX9_tie 17 = .ok (.ireturn, 1) := by decide +kernel
theorem dX9_tie_18 : decode cX9_tie 18 = .ok (.aload_n 0, 1) := by decide +kernel
theorem dX9_tie_19 : decode cX9_tie 19 = .ok (.getfield 23, 3) := by decide +kernel
theorem dX9_tie_22 : decode cX9_tie 22 = .ok (.iload_n 1, 1) := by decide +kernel
theorem dX9_tie_23 : decode cX9_tie 23 = .ok (.iload_n 2, 1) := by decide +kernel
theorem dX9_tie_24 : decode cX9_tie 24 = .ok (.invokevirtual 155, 3) := by decide +kernel
theorem dX9_tie_27 : decode cX9_tie 27 = .ok (.ifCond .ne 5, 3) := by decide +kernel
theorem dX9_tie_30 : decode cX9_tie 30 = .ok (.iconst (-1), 1) := by decide +kernel
theorem dX9_tie_31 : decode cX9_tie 31 = .ok (.ireturn, 1) := by decide +kernel
theorem dX9_tie_32 : decode cX9_tie 32 = .ok (.aload_n 0, 1) := by decide +kernel
theorem dX9_tie_33 : decode cX9_tie 33 = .ok (.getfield 23, 3) := by decide +kernel
theorem dX9_tie_36 : decode cX9_tie 36 = .ok (.iload_n 1, 1) := by decide +kernel
theorem dX9_tie_37 : decode cX9_tie 37 = .ok (.iload_n 2, 1) := by decide +kernel
theorem dX9_tie_38 : decode cX9_tie 38 = .ok (.invokevirtual 234, 3) := by decide +kernel
theorem dX9_tie_41 : decode cX9_tie 41 = .ok (.ifCond .eq 7, 3) := by decide +kernel
theorem dX9_tie_44 : decode cX9_tie 44 = .ok (.iconst 1, 1) := by decide +kernel
theorem dX9_tie_45 : decode cX9_tie 45 = .ok (.goto 4, 3) := by decide +kernel
theorem dX9_tie_48 : decode cX9_tie 48 = .ok (.iconst 0, 1) := by decide +kernel
theorem dX9_tie_49 : decode cX9_tie 49 = .ok (.ireturn, 1) := by decide +kernel
theorem dX9_rings_0 : decode cX9_rings 0 = .ok (.aload_n 0, 1) := by decide +kernel
theorem dX9_rings_1 : decode cX9_rings 1 = .ok (.getfield 23, 3) := by decide +kernel
theorem dX9_rings_4 : decode cX9_rings 4 = .ok (.invokevirtual 237, 3) := by decide +kernel
theorem dX9_rings_7 : decode cX9_rings 7 = .ok (.iconst 0, 1) := by decide +kernel
theorem dX9_rings_8 : decode cX9_rings 8 = .ok (.istore_n 1, 1) := by decide +kernel
theorem dX9_rings_9 : decode cX9_rings 9 = .ok (.iconst 0, 1) := by decide +kernel
theorem dX9_rings_10 : decode cX9_rings 10 = .ok (.istore_n 2, 1) := by decide +kernel
theorem dX9_rings_11 : decode cX9_rings 11 = .ok (.iload_n 2, 1) := by decide +kernel
theorem dX9_rings_12 : decode cX9_rings 12 = .ok (.aload_n 0, 1) := by decide +kernel
theorem dX9_rings_13 : decode cX9_rings 13 = .ok (.getfield 23, 3) := by decide +kernel
theorem dX9_rings_16 : decode cX9_rings 16 = .ok (.getfield 93, 3) := by decide +kernel
theorem dX9_rings_19 : decode cX9_rings 19 = .ok (.getfield 94, 3) := by decide +kernel
theorem dX9_rings_22 : decode cX9_rings 22 = .ok (.if_icmp .ge 33, 3) := by decide +kernel
theorem dX9_rings_25 : decode cX9_rings 25 = .ok (.aload_n 0, 1) := by decide +kernel
theorem dX9_rings_26 : decode cX9_rings 26 = .ok (.getfield 23, 3) := by decide +kernel
theorem dX9_rings_29 : decode cX9_rings 29 = .ok (.iload_n 2, 1) := by decide +kernel
theorem dX9_rings_30 : decode cX9_rings 30 = .ok (.invokevirtual 240, 3) := by decide +kernel
theorem dX9_rings_33 : decode cX9_rings 33 = .ok (.istore_n 3, 1) := by decide +kernel
theorem dX9_rings_34 : decode cX9_rings 34 = .ok (.iload_n 3, 1) := by decide +kernel
theorem dX9_rings_35 : decode cX9_rings 35 = .ok (.ifCond .eq 14, 3) := by decide +kernel
theorem dX9_rings_38 : decode cX9_rings 38 = .ok (.iload_n 3, 1) := by decide +kernel
theorem dX9_rings_39 : decode cX9_rings 39 = .ok (.invokestatic 243, 3) := by decide +kernel
theorem dX9_rings_42 : decode cX9_rings 42 = .ok (.iload_n 2, 1) := by decide +kernel
theorem dX9_rings_43 : decode cX9_rings 43 = .ok (.if_icmp .ne 6, 3) := by decide +kernel
theorem dX9_rings_46 : decode cX9_rings 46 = .ok (.iinc 1 1, 3) := by decide +kernel
theorem dX9_rings_49 : decode cX9_rings 49 = .ok (.iinc 2 1, 3) := by decide +kernel
theorem dX9_rings_52 : decode cX9_rings 52 = .ok (.goto (-41), 3) := by decide +kernel
theorem dX9_rings_55 : decode cX9_rings 55 = .ok (.iload_n 1, 1) := by decide +kernel
theorem dX9_rings_56 : decode cX9_rings 56 = .ok (.ireturn, 1) := by decide +kernel
theorem dX9_ring_0 : decode cX9_ring 0 = .ok (.aload_n 0, 1) := by decide +kernel
theorem dX9_ring_1 : decode cX9_ring 1 = .ok (.getfield 23, 3) := by decide +kernel
theorem dX9_ring_4 : decode cX9_ring 4 = .ok (.getfield 93, 3) := by decide +kernel
theorem dX9_ring_7 : decode cX9_ring 7 = .ok (.iload_n 1, 1) := by decide +kernel
theorem dX9_ring_8 : decode cX9_ring 8 = .ok (.invokevirtual 158, 3) := by decide +kernel
theorem dX9_ring_11 : decode cX9_ring 11 = .ok (.ifCond .ne 6, 3) := by decide +kernel
theorem dX9_ring_14 : decode cX9_ring 14 = .ok (.bipush (-2), 2) := by decide +kernel
theorem dX9_ring_16 : decode cX9_ring 16 = .ok (.ireturn, 1) := by decide +kernel
theorem dX9_ring_17 : decode cX9_ring 17 = .ok (.aload_n 0, 1) := by decide +kernel
theorem dX9_ring_18 : decode cX9_ring 18 = .ok (.getfield 23, 3) := by decide +kernel
theorem dX9_ring_21 : decode cX9_ring 21 = .ok (.invokevirtual 237, 3) := by decide +kernel
theorem dX9_ring_24 : decode cX9_ring 24 = .ok (.aload_n 0, 1) := by decide +kernel
theorem dX9_ring_25 : decode cX9_ring 25 = .ok (.getfield 23, 3) := by decide +kernel
theorem dX9_ring_28 : decode cX9_ring 28 = .ok (.iload_n 1, 1) := by decide +kernel
theorem dX9_ring_29 : decode cX9_ring 29 = .ok (.invokevirtual 240, 3) := by decide +kernel
theorem dX9_ring_32 : decode cX9_ring 32 = .ok (.ireturn, 1) := by decide +kernel
theorem dX9_house_0 : decode cX9_house 0 = .ok (.aload_n 0, 1) := by decide +kernel
theorem dX9_house_1 : decode cX9_house 1 = .ok (.getfield 23, 3) := by decide +kernel
theorem dX9_house_4 : decode cX9_house 4 = .ok (.getfield 93, 3) := by decide +kernel
theorem dX9_house_7 : decode cX9_house 7 = .ok (.iload_n 1, 1) := by decide +kernel
theorem dX9_house_8 : decode cX9_house 8 = .ok (.invokevirtual 158, 3) := by decide +kernel
theorem dX9_house_11 : decode cX9_house 11 = .ok (.ifCond .ne 6, 3) := by decide +kernel
theorem dX9_house_14 : decode cX9_house 14 = .ok (.ldc 248, 2) := by decide +kernel
theorem dX9_house_16 : decode cX9_house 16 = .ok (.ireturn, 1) := by decide +kernel
theorem dX9_house_17 : decode cX9_house 17 = .ok (.iload_n 2, 1) := by decide +kernel
theorem dX9_house_18 : decode cX9_house 18 = .ok (.tableswitch 165 0 8 #[50, 63, 76, 89, 102, 115, 128, 141, 153], 50) := by decide +kernel
theorem dX9_house_68 : decode cX9_house 68 = .ok (.aload_n 0, 1) := by decide +kernel
theorem dX9_house_69 : decode cX9_house 69 = .ok (.getfield 23, 3) := by decide +kernel
theorem dX9_house_72 : decode cX9_house 72 = .ok (.getfield 93, 3) := by decide +kernel
theorem dX9_house_75 : decode cX9_house 75 = .ok (.getfield 249, 3) := by decide +kernel
theorem dX9_house_78 : decode cX9_house 78 = .ok (.iload_n 1, 1) := by decide +kernel
theorem dX9_house_79 : decode cX9_house 79 = .ok (.iaload, 1) := by decide +kernel
theorem dX9_house_80 : decode cX9_house 80 = .ok (.ireturn, 1) := by decide +kernel
theorem dX9_house_81 : decode cX9_house 81 = .ok (.aload_n 0, 1) := by decide +kernel
theorem dX9_house_82 : decode cX9_house 82 = .ok (.getfield 23, 3) := by decide +kernel
theorem dX9_house_85 : decode cX9_house 85 = .ok (.getfield 93, 3) := by decide +kernel
theorem dX9_house_88 : decode cX9_house 88 = .ok (.getfield 252, 3) := by decide +kernel
theorem dX9_house_91 : decode cX9_house 91 = .ok (.iload_n 1, 1) := by decide +kernel
theorem dX9_house_92 : decode cX9_house 92 = .ok (.iaload, 1) := by decide +kernel
theorem dX9_house_93 : decode cX9_house 93 = .ok (.ireturn, 1) := by decide +kernel
theorem dX9_house_94 : decode cX9_house 94 = .ok (.aload_n 0, 1) := by decide +kernel
theorem dX9_house_95 : decode cX9_house 95 = .ok (.getfield 23, 3) := by decide +kernel
theorem dX9_house_98 : decode cX9_house 98 = .ok (.getfield 93, 3) := by decide +kernel
theorem dX9_house_101 : decode cX9_house 101 = .ok (.getfield 185, 3) := by decide +kernel
theorem dX9_house_104 : decode cX9_house 104 = .ok (.iload_n 1, 1) := by decide +kernel
theorem dX9_house_105 : decode cX9_house 105 = .ok (.iaload, 1) := by decide +kernel
theorem dX9_house_106 : decode cX9_house 106 = .ok (.ireturn, 1) := by decide +kernel
theorem dX9_house_107 : decode cX9_house 107 = .ok (.aload_n 0, 1) := by decide +kernel
theorem dX9_house_108 : decode cX9_house 108 = .ok (.getfield 23, 3) := by decide +kernel
theorem dX9_house_111 : decode cX9_house 111 = .ok (.getfield 93, 3) := by decide +kernel
theorem dX9_house_114 : decode cX9_house 114 = .ok (.getfield 255, 3) := by decide +kernel
theorem dX9_house_117 : decode cX9_house 117 = .ok (.iload_n 1, 1) := by decide +kernel
theorem dX9_house_118 : decode cX9_house 118 = .ok (.iaload, 1) := by decide +kernel
theorem dX9_house_119 : decode cX9_house 119 = .ok (.ireturn, 1) := by decide +kernel
theorem dX9_house_120 : decode cX9_house 120 = .ok (.aload_n 0, 1) := by decide +kernel
theorem dX9_house_121 : decode cX9_house 121 = .ok (.getfield 23, 3) := by decide +kernel
theorem dX9_house_124 : decode cX9_house 124 = .ok (.getfield 93, 3) := by decide +kernel
theorem dX9_house_127 : decode cX9_house 127 = .ok (.getfield 258, 3) := by decide +kernel
theorem dX9_house_130 : decode cX9_house 130 = .ok (.iload_n 1, 1) := by decide +kernel
theorem dX9_house_131 : decode cX9_house 131 = .ok (.iaload, 1) := by decide +kernel
theorem dX9_house_132 : decode cX9_house 132 = .ok (.ireturn, 1) := by decide +kernel
theorem dX9_house_133 : decode cX9_house 133 = .ok (.aload_n 0, 1) := by decide +kernel
theorem dX9_house_134 : decode cX9_house 134 = .ok (.getfield 23, 3) := by decide +kernel
theorem dX9_house_137 : decode cX9_house 137 = .ok (.getfield 93, 3) := by decide +kernel
theorem dX9_house_140 : decode cX9_house 140 = .ok (.getfield 261, 3) := by decide +kernel
theorem dX9_house_143 : decode cX9_house 143 = .ok (.iload_n 1, 1) := by decide +kernel
theorem dX9_house_144 : decode cX9_house 144 = .ok (.iaload, 1) := by decide +kernel
theorem dX9_house_145 : decode cX9_house 145 = .ok (.ireturn, 1) := by decide +kernel
theorem dX9_house_146 : decode cX9_house 146 = .ok (.aload_n 0, 1) := by decide +kernel
theorem dX9_house_147 : decode cX9_house 147 = .ok (.getfield 23, 3) := by decide +kernel
theorem dX9_house_150 : decode cX9_house 150 = .ok (.getfield 93, 3) := by decide +kernel
theorem dX9_house_153 : decode cX9_house 153 = .ok (.getfield 264, 3) := by decide +kernel
theorem dX9_house_156 : decode cX9_house 156 = .ok (.iload_n 1, 1) := by decide +kernel
theorem dX9_house_157 : decode cX9_house 157 = .ok (.iaload, 1) := by decide +kernel
theorem dX9_house_158 : decode cX9_house 158 = .ok (.ireturn, 1) := by decide +kernel
theorem dX9_house_159 : decode cX9_house 159 = .ok (.aload_n 0, 1) := by decide +kernel
theorem dX9_house_160 : decode cX9_house 160 = .ok (.getfield 23, 3) := by decide +kernel
theorem dX9_house_163 : decode cX9_house 163 = .ok (.getfield 113, 3) := by decide +kernel
theorem dX9_house_166 : decode cX9_house 166 = .ok (.iload_n 1, 1) := by decide +kernel
theorem dX9_house_167 : decode cX9_house 167 = .ok (.invokevirtual 265, 3) := by decide +kernel
theorem dX9_house_170 : decode cX9_house 170 = .ok (.ireturn, 1) := by decide +kernel
theorem dX9_house_171 : decode cX9_house 171 = .ok (.aload_n 0, 1) := by decide +kernel
theorem dX9_house_172 : decode cX9_house 172 = .ok (.getfield 23, 3) := by decide +kernel
theorem dX9_house_175 : decode cX9_house 175 = .ok (.getfield 113, 3) := by decide +kernel
theorem dX9_house_178 : decode cX9_house 178 = .ok (.iload_n 1, 1) := by decide +kernel
theorem dX9_house_179 : decode cX9_house 179 = .ok (.invokevirtual 268, 3) := by decide +kernel
theorem dX9_house_182 : decode cX9_house 182 = .ok (.ireturn, 1) := by decide +kernel
theorem dX9_house_183 : decode cX9_house 183 = .ok (.ldc 248, 2) := by decide +kernel
theorem dX9_house_185 : decode cX9_house 185 = .ok (.ireturn, 1) := by decide +kernel
theorem dX9_beside_0 : decode cX9_beside 0 = .ok (.iload_n 1, 1) := by decide +kernel
theorem dX9_beside_1 : decode cX9_beside 1 = .ok (.invokestatic 271, 3) := by decide +kernel
theorem dX9_beside_4 : decode cX9_beside 4 = .ok (.ifCond .ne 6, 3) := by decide +kernel
theorem dX9_beside_7 : decode cX9_beside 7 = .ok (.bipush (-2), 2) := by decide +kernel
theorem dX9_beside_9 : decode cX9_beside 9 = .ok (.ireturn, 1) := by decide +kernel
theorem dX9_beside_10 : decode cX9_beside 10 = .ok (.aload_n 0, 1) := by decide +kernel
theorem dX9_beside_11 : decode cX9_beside 11 = .ok (.getfield 27, 3) := by decide +kernel
theorem dX9_beside_14 : decode cX9_beside 14 = .ok (.iload_n 1, 1) := by decide +kernel
theorem dX9_beside_15 : decode cX9_beside 15 = .ok (.aaload, 1) := by decide +kernel
theorem dX9_beside_16 : decode cX9_beside 16 = .ok (.astore_n 2, 1) := by decide +kernel
theorem dX9_beside_17 : decode cX9_beside 17 = .ok (.aload_n 2, 1) := by decide +kernel
theorem dX9_beside_18 : decode cX9_beside 18 = .ok (.ifnonnull 6, 3) := by decide +kernel
theorem dX9_beside_21 : decode cX9_beside 21 = .ok (.bipush (-6), 2) := by decide +kernel
theorem dX9_beside_23 : decode cX9_beside 23 = .ok (.ireturn, 1) := by decide +kernel
theorem dX9_beside_24 : decode cX9_beside 24 = .ok (.aload_n 0, 1) := by decide +kernel
theorem dX9_beside_25 : decode cX9_beside 25 = .ok (.getfield 23, 3) := by decide +kernel
theorem dX9_beside_28 : decode cX9_beside 28 = .ok (.aload_n 2, 1) := by decide +kernel
theorem dX9_beside_29 : decode cX9_beside 29 = .ok (.getfield 274, 3) := by decide +kernel
theorem dX9_beside_32 : decode cX9_beside 32 = .ok (.aload_n 0, 1) := by decide +kernel
end
section
theorem dX9_beside_33 : decode cX9_beside 33 = .ok (.getfield 54, 3) := by decide +kernel
theorem dX9_beside_36 : decode cX9_beside 36 = .ok (.aload_n 0, 1) := by decide +kernel
theorem dX9_beside_37 : decode cX9_beside 37 = .ok (.getfield 58, 3) := by decide +kernel
theorem dX9_beside_40 : decode cX9_beside 40 = .ok (.invokevirtual 275, 3) := by decide +kernel
theorem dX9_beside_43 : decode cX9_beside 43 = .ok (.aload_n 0, 1) := by decide +kernel
theorem dX9_beside_44 : decode cX9_beside 44 = .ok (.getfield 54, 3) := by decide +kernel
theorem dX9_beside_47 : decode cX9_beside 47 = .ok (.getfield 279, 3) := by decide +kernel
theorem dX9_beside_50 : decode cX9_beside 50 = .ok (.ireturn, 1) := by decide +kernel
theorem dX9_count_0 : decode cX9_count 0 = .ok (.iload_n 1, 1) := by decide +kernel
theorem dX9_count_1 : decode cX9_count 1 = .ok (.tableswitch 169 0 10 #[59, 70, 81, 89, 100, 118, 129, 137, 142, 153, 164], 59) := by decide +kernel
theorem dX9_count_60 : decode cX9_count 60 = .ok (.aload_n 0, 1) := by decide +kernel
theorem dX9_count_61 : decode cX9_count 61 = .ok (.getfield 23, 3) := by decide +kernel
theorem dX9_count_64 : decode cX9_count 64 = .ok (.getfield 93, 3) := by decide +kernel
theorem dX9_count_67 : decode cX9_count 67 = .ok (.getfield 94, 3) := by decide +kernel
theorem dX9_count_70 : decode cX9_count 70 = .ok (.ireturn, 1) := by decide +kernel
theorem dX9_count_71 : decode cX9_count 71 = .ok (.aload_n 0, 1) := by decide +kernel
theorem dX9_count_72 : decode cX9_count 72 = .ok (.getfield 23, 3) := by decide +kernel
theorem dX9_count_75 : decode cX9_count 75 = .ok (.getfield 274, 3) := by decide +kernel
theorem dX9_count_78 : decode cX9_count 78 = .ok (.getfield 280, 3) := by decide +kernel
theorem dX9_count_81 : decode cX9_count 81 = .ok (.ireturn, 1) := by decide +kernel
theorem dX9_count_82 : decode cX9_count 82 = .ok (.aload_n 0, 1) := by decide +kernel
theorem dX9_count_83 : decode cX9_count 83 = .ok (.getfield 23, 3) := by decide +kernel
theorem dX9_count_86 : decode cX9_count 86 = .ok (.getfield 102, 3) := by decide +kernel
theorem dX9_count_89 : decode cX9_count 89 = .ok (.ireturn, 1) := by decide +kernel
theorem dX9_count_90 : decode cX9_count 90 = .ok (.aload_n 0, 1) := by decide +kernel
theorem dX9_count_91 : decode cX9_count 91 = .ok (.getfield 23, 3) := by decide +kernel
theorem dX9_count_94 : decode cX9_count 94 = .ok (.getfield 161, 3) := by decide +kernel
theorem dX9_count_97 : decode cX9_count 97 = .ok (.getfield 279, 3) := by decide +kernel
theorem dX9_count_100 : decode cX9_count 100 = .ok (.ireturn, 1) := by decide +kernel
theorem dX9_count_101 : decode cX9_count 101 = .ok (.aload_n 0, 1) := by decide +kernel
theorem dX9_count_102 : decode cX9_count 102 = .ok (.getfield 23, 3) := by decide +kernel
theorem dX9_count_105 : decode cX9_count 105 = .ok (.getfield 161, 3) := by decide +kernel
theorem dX9_count_108 : decode cX9_count 108 = .ok (.aload_n 0, 1) := by decide +kernel
theorem dX9_count_109 : decode cX9_count 109 = .ok (.getfield 23, 3) := by decide +kernel
theorem dX9_count_112 : decode cX9_count 112 = .ok (.getfield 102, 3) := by decide +kernel
theorem dX9_count_115 : decode cX9_count 115 = .ok (.invokevirtual 285, 3) := by decide +kernel
theorem dX9_count_118 : decode cX9_count 118 = .ok (.ireturn, 1) := by decide +kernel
theorem dX9_count_119 : decode cX9_count 119 = .ok (.aload_n 0, 1) := by decide +kernel
theorem dX9_count_120 : decode cX9_count 120 = .ok (.getfield 23, 3) := by decide +kernel
theorem dX9_count_123 : decode cX9_count 123 = .ok (.getfield 113, 3) := by decide +kernel
theorem dX9_count_126 : decode cX9_count 126 = .ok (.getfield 288, 3) := by decide +kernel
theorem dX9_count_129 : decode cX9_count 129 = .ok (.ireturn, 1) := by decide +kernel
theorem dX9_count_130 : decode cX9_count 130 = .ok (.aload_n 0, 1) := by decide +kernel
theorem dX9_count_131 : decode cX9_count 131 = .ok (.getfield 23, 3) := by decide +kernel
theorem dX9_count_134 : decode cX9_count 134 = .ok (.getfield 289, 3) := by decide +kernel
theorem dX9_count_137 : decode cX9_count 137 = .ok (.ireturn, 1) := by decide +kernel
theorem dX9_count_138 : decode cX9_count 138 = .ok (.aload_n 0, 1) := by decide +kernel
theorem dX9_count_139 : decode cX9_count 139 = .ok (.getfield 63, 3) := by decide +kernel
theorem dX9_count_142 : decode cX9_count 142 = .ok (.ireturn, 1) := by decide +kernel
theorem dX9_count_143 : decode cX9_count 143 = .ok (.aload_n 0, 1) := by decide +kernel
theorem dX9_count_144 : decode cX9_count 144 = .ok (.getfield 23, 3) := by decide +kernel
theorem dX9_count_147 : decode cX9_count 147 = .ok (.getfield 93, 3) := by decide +kernel
theorem dX9_count_150 : decode cX9_count 150 = .ok (.getfield 292, 3) := by decide +kernel
theorem dX9_count_153 : decode cX9_count 153 = .ok (.ireturn, 1) := by decide +kernel
theorem dX9_count_154 : decode cX9_count 154 = .ok (.aload_n 0, 1) := by decide +kernel
theorem dX9_count_155 : decode cX9_count 155 = .ok (.getfield 23, 3) := by decide +kernel
theorem dX9_count_158 : decode cX9_count 158 = .ok (.getfield 93, 3) := by decide +kernel
theorem dX9_count_161 : decode cX9_count 161 = .ok (.getfield 295, 3) := by decide +kernel
theorem dX9_count_164 : decode cX9_count 164 = .ok (.ireturn, 1) := by decide +kernel
theorem dX9_count_165 : decode cX9_count 165 = .ok (.aload_n 0, 1) := by decide +kernel
theorem dX9_count_166 : decode cX9_count 166 = .ok (.invokevirtual 298, 3) := by decide +kernel
theorem dX9_count_169 : decode cX9_count 169 = .ok (.ireturn, 1) := by decide +kernel
theorem dX9_count_170 : decode cX9_count 170 = .ok (.iconst (-1), 1) := by decide +kernel
theorem dX9_count_171 : decode cX9_count 171 = .ok (.ireturn, 1) := by decide +kernel
theorem dX9_keep_0 : decode cX9_keep 0 = .ok (.iload_n 1, 1) := by decide +kernel
theorem dX9_keep_1 : decode cX9_keep 1 = .ok (.invokestatic 271, 3) := by decide +kernel
theorem dX9_keep_4 : decode cX9_keep 4 = .ok (.ifCond .ne 6, 3) := by decide +kernel
theorem dX9_keep_7 : decode cX9_keep 7 = .ok (.bipush (-2), 2) := by decide +kernel
theorem dX9_keep_9 : decode cX9_keep 9 = .ok (.ireturn, 1) := by decide +kernel
theorem dX9_keep_10 : decode cX9_keep 10 = .ok (.aload_n 0, 1) := by decide +kernel
theorem dX9_keep_11 : decode cX9_keep 11 = .ok (.getfield 27, 3) := by decide +kernel
theorem dX9_keep_14 : decode cX9_keep 14 = .ok (.iload_n 1, 1) := by decide +kernel
theorem dX9_keep_15 : decode cX9_keep 15 = .ok (.aaload, 1) := by decide +kernel
theorem dX9_keep_16 : decode cX9_keep 16 = .ok (.astore_n 2, 1) := by decide +kernel
theorem dX9_keep_17 : decode cX9_keep 17 = .ok (.aload_n 2, 1) := by decide +kernel
theorem dX9_keep_18 : decode cX9_keep 18 = .ok (.ifnonnull 18, 3) := by decide +kernel
theorem dX9_keep_21 : decode cX9_keep 21 = .ok (.new 20, 3) := by decide +kernel
theorem dX9_keep_24 : decode cX9_keep 24 = .ok (.dup, 1) := by decide +kernel
theorem dX9_keep_25 : decode cX9_keep 25 = .ok (.invokespecial 22, 3) := by decide +kernel
theorem dX9_keep_28 : decode cX9_keep 28 = .ok (.astore_n 2, 1) := by decide +kernel
theorem dX9_keep_29 : decode cX9_keep 29 = .ok (.aload_n 0, 1) := by decide +kernel
theorem dX9_keep_30 : decode cX9_keep 30 = .ok (.getfield 27, 3) := by decide +kernel
theorem dX9_keep_33 : decode cX9_keep 33 = .ok (.iload_n 1, 1) := by decide +kernel
theorem dX9_keep_34 : decode cX9_keep 34 = .ok (.aload_n 2, 1) := by decide +kernel
theorem dX9_keep_35 : decode cX9_keep 35 = .ok (.aastore, 1) := by decide +kernel
theorem dX9_keep_36 : decode cX9_keep 36 = .ok (.aload_n 2, 1) := by decide +kernel
theorem dX9_keep_37 : decode cX9_keep 37 = .ok (.aload_n 0, 1) := by decide +kernel
theorem dX9_keep_38 : decode cX9_keep 38 = .ok (.getfield 23, 3) := by decide +kernel
theorem dX9_keep_41 : decode cX9_keep 41 = .ok (.invokevirtual 302, 3) := by decide +kernel
theorem dX9_keep_44 : decode cX9_keep 44 = .ok (.iconst 0, 1) := by decide +kernel
theorem dX9_keep_45 : decode cX9_keep 45 = .ok (.ireturn, 1) := by decide +kernel
theorem dX9_back_0 : decode cX9_back 0 = .ok (.iload_n 1, 1) := by decide +kernel
theorem dX9_back_1 : decode cX9_back 1 = .ok (.invokestatic 271, 3) := by decide +kernel
theorem dX9_back_4 : decode cX9_back 4 = .ok (.ifCond .ne 6, 3) := by decide +kernel
theorem dX9_back_7 : decode cX9_back 7 = .ok (.bipush (-2), 2) := by decide +kernel
theorem dX9_back_9 : decode cX9_back 9 = .ok (.ireturn, 1) := by decide +kernel
theorem dX9_back_10 : decode cX9_back 10 = .ok (.aload_n 0, 1) := by decide +kernel
theorem dX9_back_11 : decode cX9_back 11 = .ok (.getfield 27, 3) := by decide +kernel
theorem dX9_back_14 : decode cX9_back 14 = .ok (.iload_n 1, 1) := by decide +kernel
theorem dX9_back_15 : decode cX9_back 15 = .ok (.aaload, 1) := by decide +kernel
theorem dX9_back_16 : decode cX9_back 16 = .ok (.astore_n 2, 1) := by decide +kernel
theorem dX9_back_17 : decode cX9_back 17 = .ok (.aload_n 2, 1) := by decide +kernel
theorem dX9_back_18 : decode cX9_back 18 = .ok (.ifnonnull 6, 3) := by decide +kernel
theorem dX9_back_21 : decode cX9_back 21 = .ok (.bipush (-6), 2) := by decide +kernel
theorem dX9_back_23 : decode cX9_back 23 = .ok (.ireturn, 1) := by decide +kernel
theorem dX9_back_24 : decode cX9_back 24 = .ok (.aload_n 0, 1) := by decide +kernel
theorem dX9_back_25 : decode cX9_back 25 = .ok (.getfield 23, 3) := by decide +kernel
theorem dX9_back_28 : decode cX9_back 28 = .ok (.aload_n 2, 1) := by decide +kernel
theorem dX9_back_29 : decode cX9_back 29 = .ok (.invokevirtual 302, 3) := by decide +kernel
theorem dX9_back_32 : decode cX9_back 32 = .ok (.aload_n 0, 1) := by decide +kernel
theorem dX9_back_33 : decode cX9_back 33 = .ok (.invokevirtual 90, 3) := by decide +kernel
theorem dX9_back_36 : decode cX9_back 36 = .ok (.iconst 0, 1) := by decide +kernel
theorem dX9_back_37 : decode cX9_back 37 = .ok (.ireturn, 1) := by decide +kernel
theorem dX9_row_0 : decode cX9_row 0 = .ok (.iload_n 1, 1) := by decide +kernel
theorem dX9_row_1 : decode cX9_row 1 = .ok (.invokestatic 134, 3) := by decide +kernel
theorem dX9_row_4 : decode cX9_row 4 = .ok (.ifCond .eq 18, 3) := by decide +kernel
theorem dX9_row_7 : decode cX9_row 7 = .ok (.iload_n 2, 1) := by decide +kernel
theorem dX9_row_8 : decode cX9_row 8 = .ok (.ifCond .lt 14, 3) := by decide +kernel
theorem dX9_row_11 : decode cX9_row 11 = .ok (.iload_n 2, 1) := by decide +kernel
theorem dX9_row_12 : decode cX9_row 12 = .ok (.iconst 4, 1) := by decide +kernel
theorem dX9_row_13 : decode cX9_row 13 = .ok (.if_icmp .ge 9, 3) := by decide +kernel
theorem dX9_row_16 : decode cX9_row 16 = .ok (.iload_n 3, 1) := by decide +kernel
theorem dX9_row_17 : decode cX9_row 17 = .ok (.bipush 60, 2) := by decide +kernel
theorem dX9_row_19 : decode cX9_row 19 = .ok (.if_icmp .le 6, 3) := by decide +kernel
theorem dX9_row_22 : decode cX9_row 22 = .ok (.bipush (-2), 2) := by decide +kernel
theorem dX9_row_24 : decode cX9_row 24 = .ok (.ireturn, 1) := by decide +kernel
theorem dX9_row_25 : decode cX9_row 25 = .ok (.iload_n 3, 1) := by decide +kernel
theorem dX9_row_26 : decode cX9_row 26 = .ok (.ifCond .ge 6, 3) := by decide +kernel
theorem dX9_row_29 : decode cX9_row 29 = .ok (.bipush (-3), 2) := by decide +kernel
theorem dX9_row_31 : decode cX9_row 31 = .ok (.ireturn, 1) := by decide +kernel
theorem dX9_row_32 : decode cX9_row 32 = .ok (.aload_n 0, 1) := by decide +kernel
theorem dX9_row_33 : decode cX9_row 33 = .ok (.getfield 33, 3) := by decide +kernel
theorem dX9_row_36 : decode cX9_row 36 = .ok (.iload_n 1, 1) := by decide +kernel
theorem dX9_row_37 : decode cX9_row 37 = .ok (.aaload, 1) := by decide +kernel
theorem dX9_row_38 : decode cX9_row 38 = .ok (.iload_n 2, 1) := by decide +kernel
theorem dX9_row_39 : decode cX9_row 39 = .ok (.iload_n 3, 1) := by decide +kernel
theorem dX9_row_40 : decode cX9_row 40 = .ok (.invokevirtual 306, 3) := by decide +kernel
theorem dX9_row_43 : decode cX9_row 43 = .ok (.iconst 0, 1) := by decide +kernel
theorem dX9_row_44 : decode cX9_row 44 = .ok (.ireturn, 1) := by decide +kernel
theorem dX9_write_0 : decode cX9_write 0 = .ok (.iload_n 1, 1) := by decide +kernel
theorem dX9_write_1 : decode cX9_write 1 = .ok (.invokestatic 134, 3) := by decide +kernel
theorem dX9_write_4 : decode cX9_write 4 = .ok (.ifCond .ne 6, 3) := by decide +kernel
theorem dX9_write_7 : decode cX9_write 7 = .ok (.bipush (-2), 2) := by decide +kernel
theorem dX9_write_9 : decode cX9_write 9 = .ok (.ireturn, 1) := by decide +kernel
theorem dX9_write_10 : decode cX9_write 10 = .ok (.aload_n 0, 1) := by decide +kernel
theorem dX9_write_11 : decode cX9_write 11 = .ok (.getfield 33, 3) := by decide +kernel
theorem dX9_write_14 : decode cX9_write 14 = .ok (.iload_n 1, 1) := by decide +kernel
theorem dX9_write_15 : decode cX9_write 15 = .ok (.aaload, 1) := by decide +kernel
theorem dX9_write_16 : decode cX9_write 16 = .ok (.astore 5, 2) := by decide +kernel
theorem dX9_write_18 : decode cX9_write 18 = .ok (.aload 5, 2) := by decide +kernel
theorem dX9_write_20 : decode cX9_write 20 = .ok (.getfield 138, 3) := by decide +kernel
theorem dX9_write_23 : decode cX9_write 23 = .ok (.ifCond .ne 6, 3) := by decide +kernel
theorem dX9_write_26 : decode cX9_write 26 = .ok (.bipush (-6), 2) := by decide +kernel
theorem dX9_write_28 : decode cX9_write 28 = .ok (.ireturn, 1) := by decide +kernel
theorem dX9_write_29 : decode cX9_write 29 = .ok (.iload_n 2, 1) := by decide +kernel
theorem dX9_write_30 : decode cX9_write 30 = .ok (.ifCond .lt 12, 3) := by decide +kernel
theorem dX9_write_33 : decode cX9_write 33 = .ok (.iload_n 2, 1) := by decide +kernel
theorem dX9_write_34 : decode cX9_write 34 = .ok (.aload 5, 2) := by decide +kernel
theorem dX9_write_36 : decode cX9_write 36 = .ok (.getfield 142, 3) := by decide +kernel
theorem dX9_write_39 : decode cX9_write 39 = .ok (.if_icmp .lt 6, 3) := by decide +kernel
theorem dX9_write_42 : decode cX9_write 42 = .ok (.bipush (-7), 2) := by decide +kernel
theorem dX9_write_44 : decode cX9_write 44 = .ok (.ireturn, 1) := by decide +kernel
theorem dX9_write_45 : decode cX9_write 45 = .ok (.aload 5, 2) := by decide +kernel
theorem dX9_write_47 : decode cX9_write 47 = .ok (.getfield 310, 3) := by decide +kernel
theorem dX9_write_50 : decode cX9_write 50 = .ok (.iload_n 2, 1) := by decide +kernel
theorem dX9_write_51 : decode cX9_write 51 = .ok (.aload 5, 2) := by decide +kernel
theorem dX9_write_53 : decode cX9_write 53 = .ok (.lload_n 3, 1) := by decide +kernel
theorem dX9_write_54 : decode cX9_write 54 = .ok (.invokevirtual 314, 3) := by decide +kernel
theorem dX9_write_57 : decode cX9_write 57 = .ok (.lastore, 1) := by decide +kernel
theorem dX9_write_58 : decode cX9_write 58 = .ok (.iconst 0, 1) := by decide +kernel
theorem dX9_write_59 : decode cX9_write 59 = .ok (.ireturn, 1) := by decide +kernel
theorem dX9_paste_0 : decode cX9_paste 0 = .ok (.iload_n 1, 1) := by decide +kernel
theorem dX9_paste_1 : decode cX9_paste 1 = .ok (.invokestatic 134, 3) := by decide +kernel
theorem dX9_paste_4 : decode cX9_paste 4 = .ok (.ifCond .eq 10, 3) := by decide +kernel
theorem dX9_paste_7 : decode cX9_paste 7 = .ok (.iload_n 3, 1) := by decide +kernel
theorem dX9_paste_8 : decode cX9_paste 8 = .ok (.invokestatic 134, 3) := by decide +kernel
theorem dX9_paste_11 : decode cX9_paste 11 = .ok (.ifCond .ne 6, 3) := by decide +kernel
theorem dX9_paste_14 : decode cX9_paste 14 = .ok (.bipush (-2), 2) := by decide +kernel
theorem dX9_paste_16 : decode cX9_paste 16 = .ok (.ireturn, 1) := by decide +kernel
theorem dX9_paste_17 : decode cX9_paste 17 = .ok (.aload_n 0, 1) := by decide +kernel
theorem dX9_paste_18 : decode cX9_paste 18 = .ok (.getfield 33, 3) := by decide +kernel
theorem dX9_paste_21 : decode cX9_paste 21 = .ok (.iload_n 1, 1) := by decide +kernel
theorem dX9_paste_22 : decode cX9_paste 22 = .ok (.aaload, 1) := by decide +kernel
theorem dX9_paste_23 : decode cX9_paste 23 = .ok (.astore 6, 2) := by decide +kernel
theorem dX9_paste_25 : decode cX9_paste 25 = .ok (.aload_n 0, 1) := by decide +kernel
theorem dX9_paste_26 : decode cX9_paste 26 = .ok (.getfield 33, 3) := by decide +kernel
theorem dX9_paste_29 : decode cX9_paste 29 = .ok (.iload_n 3, 1) := by decide +kernel
theorem dX9_paste_30 : decode cX9_paste 30 = .ok (.aaload, 1) := by decide +kernel
theorem dX9_paste_31 : decode cX9_paste 31 = .ok (.astore 7, 2) := by decide +kernel
theorem dX9_paste_33 : decode cX9_paste 33 = .ok (.aload 6, 2) := by decide +kernel
theorem dX9_paste_35 : decode cX9_paste 35 = .ok (.getfield 138, 3) := by decide +kernel
theorem dX9_paste_38 : decode cX9_paste 38 = .ok (.ifCond .eq 11, 3) := by decide +kernel
theorem dX9_paste_41 : decode cX9_paste 41 = .ok (.aload 7, 2) := by decide +kernel
theorem dX9_paste_43 : decode cX9_paste 43 = .ok (.getfield 138, 3) := by decide +kernel
theorem dX9_paste_46 : decode cX9_paste 46 = .ok (.ifCond .ne 6, 3) := by decide +kernel
theorem dX9_paste_49 : decode cX9_paste 49 = .ok (.bipush (-6), 2) := by decide +kernel
theorem dX9_paste_51 : decode cX9_paste 51 = .ok (.ireturn, 1) := by decide +kernel
theorem dX9_paste_52 : decode cX9_paste 52 = .ok (.aload 6, 2) := by decide +kernel
theorem dX9_paste_54 : decode cX9_paste 54 = .ok (.getfield 318, 3) := by decide +kernel
theorem dX9_paste_57 : decode cX9_paste 57 = .ok (.aload 7, 2) := by decide +kernel
theorem dX9_paste_59 : decode cX9_paste 59 = .ok (.getfield 318, 3) := by decide +kernel
theorem dX9_paste_62 : decode cX9_paste 62 = .ok (.if_icmp .eq 6, 3) := by decide +kernel
theorem dX9_paste_65 : decode cX9_paste 65 = .ok (.bipush (-8), 2) := by decide +kernel
theorem dX9_paste_67 : decode cX9_paste 67 = .ok (.ireturn, 1) := by decide +kernel
theorem dX9_paste_68 : decode cX9_paste 68 = .ok (.aload 6, 2) := by decide +kernel
theorem dX9_paste_70 : decode cX9_paste 70 = .ok (.iload_n 2, 1) := by decide +kernel
theorem dX9_paste_71 : decode cX9_paste 71 = .ok (.iload 5, 2) := by decide +kernel
theorem dX9_paste_73 : decode cX9_paste 73 = .ok (.invokevirtual 321, 3) := by decide +kernel
theorem dX9_paste_76 : decode cX9_paste 76 = .ok (.ifCond .eq 15, 3) := by decide +kernel
theorem dX9_paste_79 : decode cX9_paste 79 = .ok (.aload 7, 2) := by decide +kernel
theorem dX9_paste_81 : decode cX9_paste 81 = .ok (.iload 4, 2) := by decide +kernel
theorem dX9_paste_83 : decode cX9_paste 83 = .ok (.iload 5, 2) := by decide +kernel
theorem dX9_paste_85 : decode cX9_paste 85 = .ok (.invokevirtual 321, 3) := by decide +kernel
theorem dX9_paste_88 : decode cX9_paste 88 = .ok (.ifCond .ne 6, 3) := by decide +kernel
theorem dX9_paste_91 : decode cX9_paste 91 = .ok (.bipush (-7), 2) := by decide +kernel
theorem dX9_paste_93 : decode cX9_paste 93 = .ok (.ireturn, 1) := by decide +kernel
theorem dX9_paste_94 : decode cX9_paste 94 = .ok (.aload 6, 2) := by decide +kernel
theorem dX9_paste_96 : decode cX9_paste 96 = .ok (.getfield 310, 3) := by decide +kernel
theorem dX9_paste_99 : decode cX9_paste 99 = .ok (.iload_n 2, 1) := by decide +kernel
theorem dX9_paste_100 : decode cX9_paste 100 = .ok (.aload 7, 2) := by decide +kernel
theorem dX9_paste_102 : decode cX9_paste 102 = .ok (.getfield 310, 3) := by decide +kernel
theorem dX9_paste_105 : decode cX9_paste 105 = .ok (.iload 4, 2) := by decide +kernel
theorem dX9_paste_107 : decode cX9_paste 107 = .ok (.iload 5, 2) := by decide +kernel
theorem dX9_paste_109 : decode cX9_paste 109 = .ok (.invokestatic 324, 3) := by decide +kernel
theorem dX9_paste_112 : decode cX9_paste 112 = .ok (.iconst 0, 1) := by decide +kernel
theorem dX9_paste_113 : decode cX9_paste 113 = .ok (.ireturn, 1) := by decide +kernel
theorem dX9_feedNumber_0 : decode cX9_feedNumber 0 = .ok (.bipush 24, 2) := by decide +kernel
theorem dX9_feedNumber_2 : decode cX9_feedNumber 2 = .ok (.istore_n 2, 1) := by decide +kernel
theorem dX9_feedNumber_3 : decode cX9_feedNumber 3 = .ok (.iload_n 2, 1) := by decide +kernel
theorem dX9_feedNumber_4 : decode cX9_feedNumber 4 = .ok (.ifCond .lt 42, 3) := by decide +kernel
theorem dX9_feedNumber_7 : decode cX9_feedNumber 7 = .ok (.aload_n 0, 1) := by decide +kernel
theorem dX9_feedNumber_8 : decode cX9_feedNumber 8 = .ok (.getfield 63, 3) := by decide +kernel
theorem dX9_feedNumber_11 : decode cX9_feedNumber 11 = .ok (.sipush 1400, 3) := by decide +kernel
theorem dX9_feedNumber_14 : decode cX9_feedNumber 14 = .ok (.if_icmp .ge 32, 3) := by decide +kernel
theorem dX9_feedNumber_17 : decode cX9_feedNumber 17 = .ok (.aload_n 0, 1) := by decide +kernel
theorem dX9_feedNumber_18 : decode cX9_feedNumber 18 = .ok (.getfield 9, 3) := by decide +kernel
theorem dX9_feedNumber_21 : decode cX9_feedNumber 21 = .ok (.aload_n 0, 1) := by decide +kernel
theorem dX9_feedNumber_22 : decode cX9_feedNumber 22 = .ok (.getfield 63, 3) := by decide +kernel
theorem dX9_feedNumber_25 : decode cX9_feedNumber 25 = .ok (.iload_n 1, 1) := by decide +kernel
theorem dX9_feedNumber_26 : decode cX9_feedNumber 26 = .ok (.iload_n 2, 1) := by decide +kernel
theorem dX9_feedNumber_27 : decode cX9_feedNumber 27 = .ok (.ishr, 1) := by decide +kernel
theorem dX9_feedNumber_28 : decode cX9_feedNumber 28 = .ok (.i2b, 1) := by decide +kernel
theorem dX9_feedNumber_29 : decode cX9_feedNumber 29 = .ok (.bastore, 1) := by decide +kernel
theorem dX9_feedNumber_30 : decode cX9_feedNumber 30 = .ok (.aload_n 0, 1) := by decide +kernel
theorem dX9_feedNumber_31 : decode cX9_feedNumber 31 = .ok (.dup, 1) := by decide +kernel
theorem dX9_feedNumber_32 : decode cX9_feedNumber 32 = .ok (.getfield 63, 3) := by decide +kernel
theorem dX9_feedNumber_35 : decode cX9_feedNumber 35 = .ok (.iconst 1, 1) := by decide +kernel
theorem dX9_feedNumber_36 : decode cX9_feedNumber 36 = .ok (.iadd, 1) := by decide +kernel
theorem dX9_feedNumber_37 : decode cX9_feedNumber 37 = .ok (.putfield 63, 3) := by decide +kernel
theorem dX9_feedNumber_40 : decode cX9_feedNumber 40 = .ok (.iinc 2 (-8), 3) := by decide +kernel
theorem dX9_feedNumber_43 : decode cX9_feedNumber 43 = .ok (.goto (-40), 3) := by decide +kernel
theorem dX9_feedNumber_46 : decode cX9_feedNumber 46 = .ok (.return_, 1) := by decide +kernel
theorem dX9_forget_0 : decode cX9_forget 0 = .ok (.aload_n 0, 1) := by decide +kernel
theorem dX9_forget_1 : decode cX9_forget 1 = .ok (.getfield 40, 3) := by decide +kernel
theorem dX9_forget_4 : decode cX9_forget 4 = .ok (.iconst 0, 1) := by decide +kernel
theorem dX9_forget_5 : decode cX9_forget 5 = .ok (.putfield 330, 3) := by decide +kernel
theorem dX9_forget_8 : decode cX9_forget 8 = .ok (.aload_n 0, 1) := by decide +kernel
theorem dX9_forget_9 : decode cX9_forget 9 = .ok (.getfield 47, 3) := by decide +kernel
theorem dX9_forget_12 : decode cX9_forget 12 = .ok (.iconst 0, 1) := by decide +kernel
theorem dX9_forget_13 : decode cX9_forget 13 = .ok (.putfield 333, 3) := by decide +kernel
theorem dX9_forget_16 : decode cX9_forget 16 = .ok (.return_, 1) := by decide +kernel
theorem dX9_isDeed_0 : decode cX9_isDeed 0 = .ok (.aload_n 0, 1) := by decide +kernel
theorem dX9_isDeed_1 : decode cX9_isDeed 1 = .ok (.getfield 23, 3) := by decide +kernel
theorem dX9_isDeed_4 : decode cX9_isDeed 4 = .ok (.getfield 93, 3) := by decide +kernel
theorem dX9_isDeed_7 : decode cX9_isDeed 7 = .ok (.iload_n 1, 1) := by decide +kernel
theorem dX9_isDeed_8 : decode cX9_isDeed 8 = .ok (.iload_n 2, 1) := by decide +kernel
theorem dX9_isDeed_9 : decode cX9_isDeed 9 = .ok (.invokevirtual 126, 3) := by decide +kernel
theorem dX9_isDeed_12 : decode cX9_isDeed 12 = .ok (.ifCond .eq 16, 3) := by decide +kernel
theorem dX9_isDeed_15 : decode cX9_isDeed 15 = .ok (.iload_n 3, 1) := by decide +kernel
theorem dX9_isDeed_16 : decode cX9_isDeed 16 = .ok (.ifCond .lt 12, 3) := by decide +kernel
theorem dX9_isDeed_19 : decode cX9_isDeed 19 = .ok (.iload_n 3, 1) := by decide +kernel
theorem dX9_isDeed_20 : decode cX9_isDeed 20 = .ok (.iconst 4, 1) := by decide +kernel
theorem dX9_isDeed_21 : decode cX9_isDeed 21 = .ok (.if_icmp .ge 7, 3) := by decide +kernel
theorem dX9_isDeed_24 : decode cX9_isDeed 24 = .ok (.iconst 1, 1) := by decide +kernel
theorem dX9_isDeed_25 : decode cX9_isDeed 25 = .ok (.goto 4, 3) := by decide +kernel
theorem dX9_isDeed_28 : decode cX9_isDeed 28 = .ok (.iconst 0, 1) := by decide +kernel
theorem dX9_isDeed_29 : decode cX9_isDeed 29 = .ok (.ireturn, 1) := by decide +kernel
theorem dX9_isOuting_0 : decode cX9_isOuting 0 = .ok (.aload_n 0, 1) := by decide +kernel
theorem dX9_isOuting_1 : decode cX9_isOuting 1 = .ok (.getfield 23, 3) := by decide +kernel
theorem dX9_isOuting_4 : decode cX9_isOuting 4 = .ok (.getfield 93, 3) := by decide +kernel
theorem dX9_isOuting_7 : decode cX9_isOuting 7 = .ok (.iload_n 1, 1) := by decide +kernel
theorem dX9_isOuting_8 : decode cX9_isOuting 8 = .ok (.invokevirtual 158, 3) := by decide +kernel
theorem dX9_isOuting_11 : decode cX9_isOuting 11 = .ok (.ifCond .eq 25, 3) := by decide +kernel
theorem dX9_isOuting_14 : decode cX9_isOuting 14 = .ok (.iload_n 2, 1) := by decide +kernel
theorem dX9_isOuting_15 : decode cX9_isOuting 15 = .ok (.aload_n 0, 1) := by decide +kernel
theorem dX9_isOuting_16 : decode cX9_isOuting 16 = .ok (.getfield 23, 3) := by decide +kernel
theorem dX9_isOuting_19 : decode cX9_isOuting 19 = .ok (.getfield 102, 3) := by decide +kernel
theorem dX9_isOuting_22 : decode cX9_isOuting 22 = .ok (.if_icmp .lt 14, 3) := by decide +kernel
theorem dX9_isOuting_25 : decode cX9_isOuting 25 = .ok (.iload_n 2, 1) := by decide +kernel
theorem dX9_isOuting_26 : decode cX9_isOuting 26 = .ok (.sipush 399, 3) := by decide +kernel
theorem dX9_isOuting_29 : decode cX9_isOuting 29 = .ok (.if_icmp .gt 7, 3) := by decide +kernel
theorem dX9_isOuting_32 : decode cX9_isOuting 32 = .ok (.iconst 1, 1) := by decide +kernel
theorem dX9_isOuting_33 : decode cX9_isOuting 33 = .ok (.goto 4, 3) := by decide +kernel
theorem dX9_isOuting_36 : decode cX9_isOuting 36 = .ok (.iconst 0, 1) := by decide +kernel
theorem dX9_isOuting_37 : decode cX9_isOuting 37 = .ok (.ireturn, 1) := by decide +kernel
theorem dX9_isSlot_0 : decode cX9_isSlot 0 = .ok (.iload_n 0, 1) := by decide +kernel
theorem dX9_isSlot_1 : decode cX9_isSlot 1 = .ok (.ifCond .lt 12, 3) := by decide +kernel
theorem dX9_isSlot_4 : decode cX9_isSlot 4 = .ok (.iload_n 0, 1) := by decide +kernel
theorem dX9_isSlot_5 : decode cX9_isSlot 5 = .ok (.iconst 4, 1) := by decide +kernel
theorem dX9_isSlot_6 : decode cX9_isSlot 6 = .ok (.if_icmp .ge 7, 3) := by decide +kernel
theorem dX9_isSlot_9 : decode cX9_isSlot 9 = .ok (.iconst 1, 1) := by decide +kernel
theorem dX9_isSlot_10 : decode cX9_isSlot 10 = .ok (.goto 4, 3) := by decide +kernel
theorem dX9_isSlot_13 : decode cX9_isSlot 13 = .ok (.iconst 0, 1) := by decide +kernel
theorem dX9_isSlot_14 : decode cX9_isSlot 14 = .ok (.ireturn, 1) := by decide +kernel
theorem dX9_isImage_0 : decode cX9_isImage 0 = .ok (.iload_n 0, 1) := by decide +kernel
theorem dX9_isImage_1 : decode cX9_isImage 1 = .ok (.ifCond .lt 12, 3) := by decide +kernel
theorem dX9_isImage_4 : decode cX9_isImage 4 = .ok (.iload_n 0, 1) := by decide +kernel
theorem dX9_isImage_5 : decode cX9_isImage 5 = .ok (.iconst 3, 1) := by decide +kernel
theorem dX9_isImage_6 : decode cX9_isImage 6 = .ok (.if_icmp .ge 7, 3) := by decide +kernel
theorem dX9_isImage_9 : decode cX9_isImage 9 = .ok (.iconst 1, 1) := by decide +kernel
theorem dX9_isImage_10 : decode cX9_isImage 10 = .ok (.goto 4, 3) := by decide +kernel
theorem dX9_isImage_13 : decode cX9_isImage 13 = .ok (.iconst 0, 1) := by decide +kernel
theorem dX9_isImage_14 : decode cX9_isImage 14 = .ok (.ireturn, 1) := by decide +kernel
theorem dX9_filledSlots_0 : decode cX9_filledSlots 0 = .ok (.iconst 0, 1) := by decide +kernel
theorem dX9_filledSlots_1 : decode cX9_filledSlots 1 = .ok (.istore_n 1, 1) := by decide +kernel
theorem dX9_filledSlots_2 : decode cX9_filledSlots 2 = .ok (.iconst 0, 1) := by decide +kernel
theorem dX9_filledSlots_3 : decode cX9_filledSlots 3 = .ok (.istore_n 2, 1) := by decide +kernel
theorem dX9_filledSlots_4 : decode cX9_filledSlots 4 = .ok (.iload_n 2, 1) := by decide +kernel
theorem dX9_filledSlots_5 : decode cX9_filledSlots 5 = .ok (.iconst 4, 1) := by decide +kernel
theorem dX9_filledSlots_6 : decode cX9_filledSlots 6 = .ok (.if_icmp .ge 24, 3) := by decide +kernel
theorem dX9_filledSlots_9 : decode cX9_filledSlots 9 = .ok (.aload_n 0, 1) := by decide +kernel
theorem dX9_filledSlots_10 : decode cX9_filledSlots 10 = .ok (.getfield 33, 3) := by decide +kernel
theorem dX9_filledSlots_13 : decode cX9_filledSlots 13 = .ok (.iload_n 2, 1) := by decide +kernel
theorem dX9_filledSlots_14 : decode cX9_filledSlots 14 = .ok (.aaload, 1) := by decide +kernel
theorem dX9_filledSlots_15 : decode cX9_filledSlots 15 = .ok (.getfield 138, 3) := by decide +kernel
theorem dX9_filledSlots_18 : decode cX9_filledSlots 18 = .ok (.ifCond .eq 6, 3) := by decide +kernel
theorem dX9_filledSlots_21 : decode cX9_filledSlots 21 = .ok (.iinc 1 1, 3) := by decide +kernel
theorem dX9_filledSlots_24 : decode cX9_filledSlots 24 = .ok (.iinc 2 1, 3) := by decide +kernel
theorem dX9_filledSlots_27 : decode cX9_filledSlots 27 = .ok (.goto (-23), 3) := by decide +kernel
theorem dX9_filledSlots_30 : decode cX9_filledSlots 30 = .ok (.iload_n 1, 1) := by decide +kernel
theorem dX9_filledSlots_31 : decode cX9_filledSlots 31 = .ok (.ireturn, 1) := by decide +kernel
theorem dX10_in_0 : decode cX10_in 0 = .ok (.lload_n 0, 1) := by decide +kernel
theorem dX10_in_1 : decode cX10_in 1 = .ok (.lload_n 2, 1) := by decide +kernel
theorem dX10_in_2 : decode cX10_in 2 = .ok (.lcmp, 1) := by decide +kernel
theorem dX10_in_3 : decode cX10_in 3 = .ok (.ifCond .lt 14, 3) := by decide +kernel
theorem dX10_in_6 : decode cX10_in 6 = .ok (.lload_n 0, 1) := by decide +kernel
theorem dX10_in_7 : decode cX10_in 7 = .ok (.lload 4, 2) := by decide +kernel
theorem dX10_in_9 : decode cX10_in 9 = .ok (.lcmp, 1) := by decide +kernel
theorem dX10_in_10 : decode cX10_in 10 = .ok (.ifCond .gt 7, 3) := by decide +kernel
theorem dX10_in_13 : decode cX10_in 13 = .ok (.iconst 1, 1) := by decide +kernel
theorem dX10_in_14 : decode cX10_in 14 = .ok (.goto 4, 3) := by decide +kernel
theorem dX10_in_17 : decode cX10_in 17 = .ok (.iconst 0, 1) := by decide +kernel
theorem dX10_in_18 : decode cX10_in 18 = .ok (.ireturn, 1) := by decide +kernel
theorem dX10_init_0 : decode cX10_init 0 = .ok (.aload_n 0, 1) := by decide +kernel
theorem dX10_init_1 : decode cX10_init 1 = .ok (.invokespecial 7, 3) := by decide +kernel
theorem dX10_init_4 : decode cX10_init 4 = .ok (.aload_n 0, 1) := by decide +kernel
theorem dX10_init_5 : decode cX10_init 5 = .ok (.sipush 9080, 3) := by decide +kernel
theorem dX10_init_8 : decode cX10_init 8 = .ok (.newarray .int, 2) := by decide +kernel
theorem dX10_init_10 : decode cX10_init 10 = .ok (.putfield 13, 3) := by decide +kernel
theorem dX10_init_13 : decode cX10_init 13 = .ok (.aload_n 0, 1) := by decide +kernel
theorem dX10_init_14 : decode cX10_init 14 = .ok (.sipush 27240, 3) := by decide +kernel
theorem dX10_init_17 : decode cX10_init 17 = .ok (.newarray .int, 2) := by decide +kernel
theorem dX10_init_19 : decode cX10_init 19 = .ok (.putfield 17, 3) := by decide +kernel
theorem dX10_init_22 : decode cX10_init 22 = .ok (.aload_n 0, 1) := by decide +kernel
theorem dX10_init_23 : decode cX10_init 23 = .ok (.iconst 3, 1) := by decide +kernel
theorem dX10_init_24 : decode cX10_init 24 = .ok (.newarray .boolean, 2) := by decide +kernel
theorem dX10_init_26 : decode cX10_init 26 = .ok (.putfield 20, 3) := by decide +kernel
theorem dX10_init_29 : decode cX10_init 29 = .ok (.aload_n 0, 1) := by decide +kernel
theorem dX10_init_30 : decode cX10_init 30 = .ok (.sipush 1400, 3) := by decide +kernel
theorem dX10_init_33 : decode cX10_init 33 = .ok (.newarray .byte, 2) := by decide +kernel
theorem dX10_init_35 : decode cX10_init 35 = .ok (.putfield 24, 3) := by decide +kernel
theorem dX10_init_38 : decode cX10_init 38 = .ok (.aload_n 0, 1) := by decide +kernel
theorem dX10_init_39 : decode cX10_init 39 = .ok (.iconst 5, 1) := by decide +kernel
theorem dX10_init_40 : decode cX10_init 40 = .ok (.newarray .int, 2) := by decide +kernel
theorem dX10_init_42 : decode cX10_init 42 = .ok (.putfield 28, 3) := by decide +kernel
theorem dX10_init_45 : decode cX10_init 45 = .ok (.aload_n 0, 1) := by decide +kernel
theorem dX10_init_46 : decode cX10_init 46 = .ok (.iconst (-1), 1) := by decide +kernel
theorem dX10_init_47 : decode cX10_init 47 = .ok (.putfield 31, 3) := by decide +kernel
theorem dX10_init_50 : decode cX10_init 50 = .ok (.aload_n 0, 1) := by decide +kernel
theorem dX10_init_51 : decode cX10_init 51 = .ok (.sipush 9080, 3) := by decide +kernel
theorem dX10_init_54 : decode cX10_init 54 = .ok (.newarray .int, 2) := by decide +kernel
theorem dX10_init_56 : decode cX10_init 56 = .ok (.putfield 34, 3) := by decide +kernel
theorem dX10_init_59 : decode cX10_init 59 = .ok (.aload_n 0, 1) := by decide +kernel
theorem dX10_init_60 : decode cX10_init 60 = .ok (.bipush 6, 2) := by decide +kernel
theorem dX10_init_62 : decode cX10_init 62 = .ok (.newarray .int, 2) := by decide +kernel
theorem dX10_init_64 : decode cX10_init 64 = .ok (.putfield 37, 3) := by decide +kernel
theorem dX10_init_67 : decode cX10_init 67 = .ok (.aload_n 0, 1) := by decide +kernel
theorem dX10_init_68 : decode cX10_init 68 = .ok (.bipush 16, 2) := by decide +kernel
theorem dX10_init_70 : decode cX10_init 70 = .ok (.newarray .int, 2) := by decide +kernel
theorem dX10_init_72 : decode cX10_init 72 = .ok (.putfield 40, 3) := by decide +kernel
theorem dX10_init_75 : decode cX10_init 75 = .ok (.aload_n 0, 1) := by decide +kernel
theorem dX10_init_76 : decode cX10_init 76 = .ok (.bipush 16, 2) := by decide +kernel
theorem dX10_init_78 : decode cX10_init 78 = .ok (.newarray .int, 2) := by decide +kernel
theorem dX10_init_80 : decode cX10_init 80 = .ok (.putfield 43, 3) := by decide +kernel
theorem dX10_init_83 : decode cX10_init 83 = .ok (.aload_n 0, 1) := by decide +kernel
theorem dX10_init_84 : decode cX10_init 84 = .ok (.bipush 16, 2) := by decide +kernel
theorem dX10_init_86 : decode cX10_init 86 = .ok (.newarray .boolean, 2) := by decide +kernel
theorem dX10_init_88 : decode cX10_init 88 = .ok (.putfield 46, 3) := by decide +kernel
theorem dX10_init_91 : decode cX10_init 91 = .ok (.aload_n 0, 1) := by decide +kernel
theorem dX10_init_92 : decode cX10_init 92 = .ok (.sipush 10240, 3) := by decide +kernel
theorem dX10_init_95 : decode cX10_init 95 = .ok (.newarray .int, 2) := by decide +kernel
theorem dX10_init_97 : decode cX10_init 97 = .ok (.putfield 49, 3) := by decide +kernel
theorem dX10_init_100 : decode cX10_init 100 = .ok (.aload_n 0, 1) := by decide +kernel
theorem dX10_init_101 : decode cX10_init 101 = .ok (.bipush 10, 2) := by decide +kernel
theorem dX10_init_103 : decode cX10_init 103 = .ok (.newarray .int, 2) := by decide +kernel
theorem dX10_init_105 : decode cX10_init 105 = .ok (.putfield 52, 3) := by decide +kernel
theorem dX10_init_108 : decode cX10_init 108 = .ok (.aload_n 0, 1) := by decide +kernel
theorem dX10_init_109 : decode cX10_init 109 = .ok (.bipush 10, 2) := by decide +kernel
theorem dX10_init_111 : decode cX10_init 111 = .ok (.newarray .int, 2) := by decide +kernel
theorem dX10_init_113 : decode cX10_init 113 = .ok (.putfield 55, 3) := by decide +kernel
theorem dX10_init_116 : decode cX10_init 116 = .ok (.aload_n 0, 1) := by decide +kernel
theorem dX10_init_117 : decode cX10_init 117 = .ok (.sipush 1024, 3) := by decide +kernel
theorem dX10_init_120 : decode cX10_init 120 = .ok (.newarray .int, 2) := by decide +kernel
theorem dX10_init_122 : decode cX10_init 122 = .ok (.putfield 58, 3) := by decide +kernel
theorem dX10_init_125 : decode cX10_init 125 = .ok (.aload_n 0, 1) := by decide +kernel
theorem dX10_init_126 : decode cX10_init 126 = .ok (.sipush 1024, 3) := by decide +kernel
theorem dX10_init_129 : decode cX10_init 129 = .ok (.newarray .int, 2) := by decide +kernel
theorem dX10_init_131 : decode cX10_init 131 = .ok (.putfield 61, 3) := by decide +kernel
theorem dX10_init_134 : decode cX10_init 134 = .ok (.aload_n 0, 1) := by decide +kernel
theorem dX10_init_135 : decode cX10_init 135 = .ok (.ldc 64, 2) := by decide +kernel
theorem dX10_init_137 : decode cX10_init 137 = .ok (.newarray .int, 2) := by decide +kernel
theorem dX10_init_139 : decode cX10_init 139 = .ok (.putfield 65, 3) := by decide +kernel
theorem dX10_init_142 : decode cX10_init 142 = .ok (.aload_n 0, 1) := by decide +kernel
theorem dX10_init_143 : decode cX10_init 143 = .ok (.ldc 64, 2) := by decide +kernel
theorem dX10_init_145 : decode cX10_init 145 = .ok (.newarray .int, 2) := by decide +kernel
theorem dX10_init_147 : decode cX10_init 147 = .ok (.putfield 68, 3) := by decide +kernel
theorem dX10_init_150 : decode cX10_init 150 = .ok (.aload_n 0, 1) := by decide +kernel
theorem dX10_init_151 : decode cX10_init 151 = .ok (.ldc 64, 2) := by decide +kernel
theorem dX10_init_153 : decode cX10_init 153 = .ok (.newarray .int, 2) := by decide +kernel
theorem dX10_init_155 : decode cX10_init 155 = .ok (.putfield 71, 3) := by decide +kernel
theorem dX10_init_158 : decode cX10_init 158 = .ok (.aload_n 0, 1) := by decide +kernel
theorem dX10_init_159 : decode cX10_init 159 = .ok (.ldc 64, 2) := by decide +kernel
theorem dX10_init_161 : decode cX10_init 161 = .ok (.newarray .boolean, 2) := by decide +kernel
theorem dX10_init_163 : decode cX10_init 163 = .ok (.putfield 74, 3) := by decide +kernel
theorem dX10_init_166 : decode cX10_init 166 = .ok (.aload_n 0, 1) := by decide +kernel
theorem dX10_init_167 : decode cX10_init 167 = .ok (.bipush 16, 2) := by decide +kernel
theorem dX10_init_169 : decode cX10_init 169 = .ok (.newarray .int, 2) := by decide +kernel
theorem dX10_init_171 : decode cX10_init 171 = .ok (.putfield 77, 3) := by decide +kernel
theorem dX10_init_174 : decode cX10_init 174 = .ok (.aload_n 0, 1) := by decide +kernel
theorem dX10_init_175 : decode cX10_init 175 = .ok (.bipush 16, 2) := by decide +kernel
theorem dX10_init_177 : decode cX10_init 177 = .ok (.newarray .int, 2) := by decide +kernel
theorem dX10_init_179 : decode cX10_init 179 = .ok (.putfield 80, 3) := by decide +kernel
theorem dX10_init_182 : decode cX10_init 182 = .ok (.aload_n 0, 1) := by decide +kernel
theorem dX10_init_183 : decode cX10_init 183 = .ok (.sipush 9080, 3) := by decide +kernel
theorem dX10_init_186 : decode cX10_init 186 = .ok (.newarray .int, 2) := by decide +kernel
theorem dX10_init_188 : decode cX10_init 188 = .ok (.putfield 83, 3) := by decide +kernel
theorem dX10_init_191 : decode cX10_init 191 = .ok (.aload_n 0, 1) := by decide +kernel
theorem dX10_init_192 : decode cX10_init 192 = .ok (.iconst 4, 1) := by decide +kernel
theorem dX10_init_193 : decode cX10_init 193 = .ok (.newarray .int, 2) := by decide +kernel
theorem dX10_init_195 : decode cX10_init 195 = .ok (.dup, 1) := by decide +kernel
theorem dX10_init_196 : decode cX10_init 196 = .ok (.iconst 0, 1) := by decide +kernel
theorem dX10_init_197 : decode cX10_init 197 = .ok (.iconst (-1), 1) := by decide +kernel
theorem dX10_init_198 : decode cX10_init 198 = .ok (.iastore, 1) := by decide +kernel
theorem dX10_init_199 : decode cX10_init 199 = .ok (.dup, 1) := by decide +kernel
theorem dX10_init_200 : decode cX10_init 200 = .ok (.iconst 1, 1) := by decide +kernel
theorem dX10_init_201 : decode cX10_init 201 = .ok (.iconst (-1), 1) := by decide +kernel
theorem dX10_init_202 : decode cX10_init 202 = .ok (.iastore, 1) := by decide +kernel
theorem dX10_init_203 : decode cX10_init 203 = .ok (.dup, 1) := by decide +kernel
theorem dX10_init_204 : decode cX10_init 204 = .ok (.iconst 2, 1) := by decide +kernel
theorem dX10_init_205 : decode cX10_init 205 = .ok (.iconst (-1), 1) := by decide +kernel
theorem dX10_init_206 : decode cX10_init 206 = .ok (.iastore, 1) := by decide +kernel
theorem dX10_init_207 : decode cX10_init 207 = .ok (.dup, 1) := by decide +kernel
theorem dX10_init_208 : decode cX10_init 208 = .ok (.iconst 3, 1) := by decide +kernel
theorem dX10_init_209 : decode cX10_init 209 = .ok (.iconst (-1), 1) := by decide +kernel
theorem dX10_init_210 : decode cX10_init 210 = .ok (.iastore, 1) := by decide +kernel
theorem dX10_init_211 : decode cX10_init 211 = .ok (.putfield 86, 3) := by decide +kernel
theorem dX10_init_214 : decode cX10_init 214 = .ok (.aload_n 0, 1) := by decide +kernel
theorem dX10_init_215 : decode cX10_init 215 = .ok (.iconst 4, 1) := by decide +kernel
theorem dX10_init_216 : decode cX10_init 216 = .ok (.newarray .int, 2) := by decide +kernel
theorem dX10_init_218 : decode cX10_init 218 = .ok (.putfield 89, 3) := by decide +kernel
theorem dX10_init_221 : decode cX10_init 221 = .ok (.aload_n 0, 1) := by decide +kernel
theorem dX10_init_222 : decode cX10_init 222 = .ok (.sipush 240, 3) := by decide +kernel
theorem dX10_init_225 : decode cX10_init 225 = .ok (.newarray .long, 2) := by decide +kernel
theorem dX10_init_227 : decode cX10_init 227 = .ok (.putfield 92, 3) := by decide +kernel
theorem dX10_init_230 : decode cX10_init 230 = .ok (.aload_n 0, 1) := by decide +kernel
theorem dX10_init_231 : decode cX10_init 231 = .ok (.bipush 60, 2) := by decide +kernel
theorem dX10_init_233 : decode cX10_init 233 = .ok (.newarray .long, 2) := by decide +kernel
theorem dX10_init_235 : decode cX10_init 235 = .ok (.putfield 96, 3) := by decide +kernel
theorem dX10_init_238 : decode cX10_init 238 = .ok (.aload_n 0, 1) := by decide +kernel
theorem dX10_init_239 : decode cX10_init 239 = .ok (.getfield 13, 3) := by decide +kernel
theorem dX10_init_242 : decode cX10_init 242 = .ok (.iconst 5, 1) := by decide +kernel
theorem dX10_init_243 : decode cX10_init 243 = .ok (.iconst 3, 1) := by decide +kernel
theorem dX10_init_244 : decode cX10_init 244 = .ok (.iastore, 1) := by decide +kernel
theorem dX10_init_245 : decode cX10_init 245 = .ok (.return_, 1) := by decide +kernel
theorem dX10_keep_0 : decode cX10_keep 0 = .ok (.iload_n 1, 1) := by decide +kernel
theorem dX10_keep_1 : decode cX10_keep 1 = .ok (.i2l, 1) := by decide +kernel
theorem dX10_keep_2 : decode cX10_keep 2 = .ok (.lconst 0, 1) := by decide +kernel
theorem dX10_keep_3 : decode cX10_keep 3 = .ok (.ldc2_w 99, 3) := by decide +kernel
theorem dX10_keep_6 : decode cX10_keep 6 = .ok (.invokestatic 101, 3) := by decide +kernel
theorem dX10_keep_9 : decode cX10_keep 9 = .ok (.ifCond .ne 6, 3) := by decide +kernel
theorem dX10_keep_12 : decode cX10_keep 12 = .ok (.bipush (-2), 2) := by decide +kernel
theorem dX10_keep_14 : decode cX10_keep 14 = .ok (.ireturn, 1) := by decide +kernel
theorem dX10_keep_15 : decode cX10_keep 15 = .ok (.iconst 0, 1) := by decide +kernel
theorem dX10_keep_16 : decode cX10_keep 16 = .ok (.istore_n 2, 1) := by decide +kernel
theorem dX10_keep_17 : decode cX10_keep 17 = .ok (.iload_n 2, 1) := by decide +kernel
theorem dX10_keep_18 : decode cX10_keep 18 = .ok (.sipush 9080, 3) := by decide +kernel
theorem dX10_keep_21 : decode cX10_keep 21 = .ok (.if_icmp .ge 27, 3) := by decide +kernel
theorem dX10_keep_24 : decode cX10_keep 24 = .ok (.aload_n 0, 1) := by decide +kernel
theorem dX10_keep_25 : decode cX10_keep 25 = .ok (.getfield 17, 3) := by decide +kernel
theorem dX10_keep_28 : decode cX10_keep 28 = .ok (.sipush 9080, 3) := by decide +kernel
theorem dX10_keep_31 : decode cX10_keep 31 = .ok (.iload_n 1, 1) := by decide +kernel
theorem dX10_keep_32 : decode cX10_keep 32 = .ok (.imul, 1) := by decide +kernel
theorem dX10_keep_33 : decode cX10_keep 33 = .ok (.iload_n 2, 1) := by decide +kernel
theorem dX10_keep_34 : decode cX10_keep 34 = .ok (.iadd, 1) := by decide +kernel
theorem dX10_keep_35 : decode cX10_keep 35 = .ok (.aload_n 0, 1) := by decide +kernel
theorem dX10_keep_36 : decode cX10_keep 36 = .ok (.getfield 13, 3) := by decide +kernel
theorem dX10_keep_39 : decode cX10_keep 39 = .ok (.iload_n 2, 1) := by decide +kernel
theorem dX10_keep_40 : decode cX10_keep 40 = .ok (.iaload, 1) := by decide +kernel
theorem dX10_keep_41 : decode cX10_keep 41 = .ok (.iastore, 1) := by decide +kernel
theorem dX10_keep_42 : decode cX10_keep 42 = .ok (.iinc 2 1, 3) := by decide +kernel
theorem dX10_keep_45 : decode cX10_keep 45 = .ok (.goto (-28), 3) := by decide +kernel
theorem dX10_keep_48 : decode cX10_keep 48 = .ok (.aload_n 0, 1) := by decide +kernel
theorem dX10_keep_49 : decode cX10_keep 49 = .ok (.getfield 20, 3) := by decide +kernel
theorem dX10_keep_52 : decode cX10_keep 52 = .ok (.iload_n 1, 1) := by decide +kernel
theorem dX10_keep_53 : decode cX10_keep 53 = .ok (.iconst 1, 1) := by decide +kernel
theorem dX10_keep_54 : decode cX10_keep 54 = .ok (.bastore, 1) := by decide +kernel
theorem dX10_keep_55 : decode cX10_keep 55 = .ok (.iconst 0, 1) := by decide +kernel
theorem dX10_keep_56 : decode cX10_keep 56 = .ok (.ireturn, 1) := by decide +kernel
theorem dX10_back_0 : decode cX10_back 0 = .ok (.iload_n 1, 1) := by decide +kernel
theorem dX10_back_1 : decode cX10_back 1 = .ok (.i2l, 1) := by decide +kernel
theorem dX10_back_2 : decode cX10_back 2 = .ok (.lconst 0, 1) := by decide +kernel
theorem dX10_back_3 : decode cX10_back 3 = .ok (.ldc2_w 99, 3) := by decide +kernel
theorem dX10_back_6 : decode cX10_back 6 = .ok (.invokestatic 101, 3) := by decide +kernel
theorem dX10_back_9 : decode cX10_back 9 = .ok (.ifCond .ne 6, 3) := by decide +kernel
theorem dX10_back_12 : decode cX10_back 12 = .ok (.bipush (-2), 2) := by decide +kernel
theorem dX10_back_14 : decode cX10_back 14 = .ok (.ireturn, 1) := by decide +kernel
theorem dX10_back_15 : decode cX10_back 15 = .ok (.aload_n 0, 1) := by decide +kernel
theorem dX10_back_16 : decode cX10_back 16 = .ok (.getfield 20, 3) := by decide +kernel
theorem dX10_back_19 : decode cX10_back 19 = .ok (.iload_n 1, 1) := by decide +kernel
theorem dX10_back_20 : decode cX10_back 20 = .ok (.baload, 1) := by decide +kernel
theorem dX10_back_21 : decode cX10_back 21 = .ok (.ifCond .ne 6, 3) := by decide +kernel
theorem dX10_back_24 : decode cX10_back 24 = .ok (.bipush (-6), 2) := by decide +kernel
theorem dX10_back_26 : decode cX10_back 26 = .ok (.ireturn, 1) := by decide +kernel
theorem dX10_back_27 : decode cX10_back 27 = .ok (.iconst 0, 1) := by decide +kernel
theorem dX10_back_28 : decode cX10_back 28 = .ok (.istore_n 2, 1) := by decide +kernel
theorem dX10_back_29 : decode cX10_back 29 = .ok (.iload_n 2, 1) := by decide +kernel
theorem dX10_back_30 : decode cX10_back 30 = .ok (.sipush 9080, 3) := by decide +kernel
theorem dX10_back_33 : decode cX10_back 33 = .ok (.if_icmp .ge 27, 3) := by decide +kernel
theorem dX10_back_36 : decode cX10_back 36 = .ok (.aload_n 0, 1) := by decide +kernel
theorem dX10_back_37 : decode cX10_back 37 = .ok (.getfield 13, 3) := by decide +kernel
theorem dX10_back_40 : decode cX10_back 40 = .ok (.iload_n 2, 1) := by decide +kernel
theorem dX10_back_41 : decode cX10_back 41 = .ok (.aload_n 0, 1) := by decide +kernel
theorem dX10_back_42 : decode cX10_back 42 = .ok (.getfield 17, 3) := by decide +kernel
theorem dX10_back_45 : decode cX10_back 45 = .ok (.sipush 9080, 3) := by decide +kernel
theorem dX10_back_48 : decode cX10_back 48 = .ok (.iload_n 1, 1) := by decide +kernel
theorem dX10_back_49 : decode cX10_back 49 = .ok (.imul, 1) := by decide +kernel
theorem dX10_back_50 : decode cX10_back 50 = .ok (.iload_n 2, 1) := by decide +kernel
theorem dX10_back_51 : decode cX10_back 51 = .ok (.iadd, 1) := by decide +kernel
theorem dX10_back_52 : decode cX10_back 52 = .ok (.iaload, 1) := by decide +kernel
theorem dX10_back_53 : decode cX10_back 53 = .ok (.iastore, 1) := by decide +kernel
theorem dX10_back_54 : decode cX10_back 54 = .ok (.iinc 2 1, 3) := by decide +kernel
theorem dX10_back_57 : decode cX10_back 57 = .ok (.goto (-28), 3) := by decide +kernel
theorem dX10_back_60 : decode cX10_back 60 = .ok (.iconst 0, 1) := by decide +kernel
theorem dX10_back_61 : decode cX10_back 61 = .ok (.ireturn, 1) := by decide +kernel
theorem dX10_ofHouse_0 : decode cX10_ofHouse 0 = .ok (.aload_n 0, 1) := by decide +kernel
theorem dX10_ofHouse_1 : decode cX10_ofHouse 1 = .ok (.getfield 13, 3) := by decide +kernel
theorem dX10_ofHouse_4 : decode cX10_ofHouse 4 = .ok (.bipush 10, 2) := by decide +kernel
theorem dX10_ofHouse_6 : decode cX10_ofHouse 6 = .ok (.bipush 9, 2) := by decide +kernel
theorem dX10_ofHouse_8 : decode cX10_ofHouse 8 = .ok (.iload_n 1, 1) := by decide +kernel
theorem dX10_ofHouse_9 : decode cX10_ofHouse 9 = .ok (.imul, 1) := by decide +kernel
theorem dX10_ofHouse_10 : decode cX10_ofHouse 10 = .ok (.iadd, 1) := by decide +kernel
theorem dX10_ofHouse_11 : decode cX10_ofHouse 11 = .ok (.iload_n 2, 1) := by decide +kernel
theorem dX10_ofHouse_12 : decode cX10_ofHouse 12 = .ok (.iadd, 1) := by decide +kernel
theorem dX10_ofHouse_13 : decode cX10_ofHouse 13 = .ok (.iaload, 1) := by decide +kernel
theorem dX10_ofHouse_14 : decode cX10_ofHouse 14 = .ok (.ireturn, 1) := by decide +kernel
theorem dX10_isHouse_0 : decode cX10_isHouse 0 = .ok (.iload_n 1, 1) := by decide +kernel
theorem dX10_isHouse_1 : decode cX10_isHouse 1 = .ok (.i2l, 1) := by decide +kernel
theorem dX10_isHouse_2 : decode cX10_isHouse 2 = .ok (.lconst 0, 1) := by decide +kernel
theorem dX10_isHouse_3 : decode cX10_isHouse 3 = .ok (.aload_n 0, 1) := by decide +kernel
theorem dX10_isHouse_4 : decode cX10_isHouse 4 = .ok (.getfield 13, 3) := by decide +kernel
theorem dX10_isHouse_7 : decode cX10_isHouse 7 = .ok (.iconst 0, 1) := by decide +kernel
theorem dX10_isHouse_8 : decode cX10_isHouse 8 = .ok (.iaload, 1) := by decide +kernel
theorem dX10_isHouse_9 : decode cX10_isHouse 9 = .ok (.iconst 1, 1) := by decide +kernel
theorem dX10_isHouse_10 : decode cX10_isHouse 10 = .ok (.isub, 1) := by decide +kernel
theorem dX10_isHouse_11 : decode cX10_isHouse 11 = .ok (.i2l, 1) := by decide +kernel
theorem dX10_isHouse_12 : decode cX10_isHouse 12 = .ok (.invokestatic 101, 3) := by decide +kernel
theorem dX10_isHouse_15 : decode cX10_isHouse 15 = .ok (.ireturn, 1) := by decide +kernel
theorem dX10_areTwo_0 : decode cX10_areTwo 0 = .ok (.aload_n 0, 1) := by decide +kernel
theorem dX10_areTwo_1 : decode cX10_areTwo 1 = .ok (.iload_n 1, 1) := by decide +kernel
theorem dX10_areTwo_2 : decode cX10_areTwo 2 = .ok (.invokevirtual 105, 3) := by decide +kernel
theorem dX10_areTwo_5 : decode cX10_areTwo 5 = .ok (.ifCond .eq 20, 3) := by decide +kernel
theorem dX10_areTwo_8 : decode cX10_areTwo 8 = .ok (.aload_n 0, 1) := by decide +kernel
theorem dX10_areTwo_9 : decode cX10_areTwo 9 = .ok (.iload_n 2, 1) := by decide +kernel
theorem dX10_areTwo_10 : decode cX10_areTwo 10 = .ok (.invokevirtual 105, 3) := by decide +kernel
theorem dX10_areTwo_13 : decode cX10_areTwo 13 = .ok (.ifCond .eq 12, 3) := by decide +kernel
theorem dX10_areTwo_16 : decode cX10_areTwo 16 = .ok (.iload_n 1, 1) := by decide +kernel
theorem dX10_areTwo_17 : decode cX10_areTwo 17 = .ok (.iload_n 2, 1) := by decide +kernel
theorem dX10_areTwo_18 : decode cX10_areTwo 18 = .ok (.if_icmp .eq 7, 3) := by decide +kernel
theorem dX10_areTwo_21 : decode cX10_areTwo 21 = .ok (.iconst 1, 1) := by decide +kernel
theorem dX10_areTwo_22 : decode cX10_areTwo 22 = .ok (.goto 4, 3) := by decide +kernel
theorem dX10_areTwo_25 : decode cX10_areTwo 25 = .ok (.iconst 0, 1) := by decide +kernel
theorem dX10_areTwo_26 : decode cX10_areTwo 26 = .ok (.ireturn, 1) := by decide +kernel
theorem dX10_today_0 : decode cX10_today 0 = .ok (.aload_n 0, 1) := by decide +kernel
theorem dX10_today_1 : decode cX10_today 1 = .ok (.getfield 13, 3) := by decide +kernel
theorem dX10_today_4 : decode cX10_today 4 = .ok (.bipush 6, 2) := by decide +kernel
theorem dX10_today_6 : decode cX10_today 6 = .ok (.iaload, 1) := by decide +kernel
theorem dX10_today_7 : decode cX10_today 7 = .ok (.ireturn, 1) := by decide +kernel
theorem dX10_feed_0 : decode cX10_feed 0 = .ok (.aload_n 0, 1) := by decide +kernel
theorem dX10_feed_1 : decode cX10_feed 1 = .ok (.getfield 109, 3) := by decide +kernel
theorem dX10_feed_4 : decode cX10_feed 4 = .ok (.bipush 20, 2) := by decide +kernel
theorem dX10_feed_6 : decode cX10_feed 6 = .ok (.iadd, 1) := by decide +kernel
theorem dX10_feed_7 : decode cX10_feed 7 = .ok (.sipush 1400, 3) := by decide +kernel
theorem dX10_feed_10 : decode cX10_feed 10 = .ok (.if_icmp .le 5, 3) := by decide +kernel
theorem dX10_feed_13 : decode cX10_feed 13 = .ok (.iconst (-1), 1) := by decide +kernel
theorem dX10_feed_14 : decode cX10_feed 14 = .ok (.ireturn, 1) := by decide +kernel
theorem dX10_feed_15 : decode cX10_feed 15 = .ok (.aload_n 0, 1) := by decide +kernel
theorem dX10_feed_16 : decode cX10_feed 16 = .ok (.getfield 28, 3) := by decide +kernel
theorem dX10_feed_19 : decode cX10_feed 19 = .ok (.iconst 0, 1) := by decide +kernel
theorem dX10_feed_20 : decode cX10_feed 20 = .ok (.iload_n 1, 1) := by decide +kernel
theorem dX10_feed_21 : decode cX10_feed 21 = .ok (.iastore, 1) := by decide +kernel
theorem dX10_feed_22 : decode cX10_feed 22 = .ok (.aload_n 0, 1) := by decide +kernel
theorem dX10_feed_23 : decode cX10_feed 23 = .ok (.getfield 28, 3) := by decide +kernel
theorem dX10_feed_26 : decode cX10_feed 26 = .ok (.iconst 1, 1) := by decide +kernel
theorem dX10_feed_27 : decode cX10_feed 27 = .ok (.iload_n 2, 1) := by decide +kernel
theorem dX10_feed_28 : decode cX10_feed 28 = .ok (.iastore, 1) := by decide +kernel
theorem dX10_feed_29 : decode cX10_feed 29 = .ok (.aload_n 0, 1) := by decide +kernel
theorem dX10_feed_30 : decode cX10_feed 30 = .ok (.getfield 28, 3) := by decide +kernel
theorem dX10_feed_33 : decode cX10_feed 33 = .ok (.iconst 2, 1) := by decide +kernel
theorem dX10_feed_34 : decode cX10_feed 34 = .ok (.iload_n 3, 1) := by decide +kernel
theorem dX10_feed_35 : decode cX10_feed 35 = .ok (.iastore, 1) := by decide +kernel
theorem dX10_feed_36 : decode cX10_feed 36 = .ok (.aload_n 0, 1) := by decide +kernel
theorem dX10_feed_37 : decode cX10_feed 37 = .ok (.getfield 28, 3) := by decide +kernel
theorem dX10_feed_40 : decode cX10_feed 40 = .ok (.iconst 3, 1) := by decide +kernel
theorem dX10_feed_41 : decode cX10_feed 41 = .ok (.iload 4, 2) := by decide +kernel
theorem dX10_feed_43 : decode cX10_feed 43 = .ok (.iastore, 1) := by decide +kernel
theorem dX10_feed_44 : decode cX10_feed 44 = .ok (.aload_n 0, 1) := by decide +kernel
theorem dX10_feed_45 : decode cX10_feed 45 = .ok (.getfield 28, 3) := by decide +kernel
theorem dX10_feed_48 : decode cX10_feed 48 = .ok (.iconst 4, 1) := by decide +kernel
theorem dX10_feed_49 : decode cX10_feed 49 = .ok (.iload 5, 2) := by decide +kernel
theorem dX10_feed_51 : decode cX10_feed 51 = .ok (.iastore, 1) := by decide +kernel
theorem dX10_feed_52 : decode cX10_feed 52 = .ok (.iconst 0, 1) := by decide +kernel
theorem dX10_feed_53 : decode cX10_feed 53 = .ok (.istore 6, 2) := by decide +kernel
theorem dX10_feed_55 : decode cX10_feed 55 = .ok (.iload 6, 2) := by decide +kernel
theorem dX10_feed_57 : decode cX10_feed 57 = .ok (.bipush 20, 2) := by decide +kernel
theorem dX10_feed_59 : decode cX10_feed 59 = .ok (.if_icmp .ge 42, 3) := by decide +kernel
theorem dX10_feed_62 : decode cX10_feed 62 = .ok (.aload_n 0, 1) := by decide +kernel
theorem dX10_feed_63 : decode cX10_feed 63 = .ok (.getfield 24, 3) := by decide +kernel
theorem dX10_feed_66 : decode cX10_feed 66 = .ok (.aload_n 0, 1) := by decide +kernel
theorem dX10_feed_67 : decode cX10_feed 67 = .ok (.getfield 109, 3) := by decide +kernel
theorem dX10_feed_70 : decode cX10_feed 70 = .ok (.iload 6, 2) := by decide +kernel
theorem dX10_feed_72 : decode cX10_feed 72 = .ok (.iadd, 1) := by decide +kernel
theorem dX10_feed_73 : decode cX10_feed 73 = .ok (.aload_n 0, 1) := by decide +kernel
theorem dX10_feed_74 : decode cX10_feed 74 = .ok (.getfield 28, 3) := by decide +kernel
theorem dX10_feed_77 : decode cX10_feed 77 = .ok (.iload 6, 2) := by decide +kernel
theorem dX10_feed_79 : decode cX10_feed 79 = .ok (.iconst 4, 1) := by decide +kernel
theorem dX10_feed_80 : decode cX10_feed 80 = .ok (.idiv, 1) := by decide +kernel
theorem dX10_feed_81 : decode cX10_feed 81 = .ok (.iaload, 1) := by decide +kernel
theorem dX10_feed_82 : decode cX10_feed 82 = .ok (.bipush 24, 2) := by decide +kernel
theorem dX10_feed_84 : decode cX10_feed 84 = .ok (.bipush 8, 2) := by decide +kernel
theorem dX10_feed_86 : decode cX10_feed 86 = .ok (.iload 6, 2) := by decide +kernel
theorem dX10_feed_88 : decode cX10_feed 88 = .ok (.iconst 4, 1) := by decide +kernel
theorem dX10_feed_89 : decode cX10_feed 89 = .ok (.irem, 1) := by decide +kernel
theorem dX10_feed_90 : decode cX10_feed 90 = .ok (.imul, 1) := by decide +kernel
theorem dX10_feed_91 : decode cX10_feed 91 = .ok (.isub, 1) := by decide +kernel
theorem dX10_feed_92 : decode cX10_feed 92 = .ok (.ishr, 1) := by decide +kernel
theorem dX10_feed_93 : decode cX10_feed 93 = .ok (.i2b, 1) := by decide +kernel
theorem dX10_feed_94 : decode cX10_feed 94 = .ok (.bastore, 1) := by decide +kernel
theorem dX10_feed_95 : decode cX10_feed 95 = .ok (.iinc 6 1, 3) := by decide +kernel
theorem dX10_feed_98 : decode cX10_feed 98 = .ok (.goto (-43), 3) := by decide +kernel
theorem dX10_feed_101 : decode cX10_feed 101 = .ok (.aload_n 0, 1) := by decide +kernel
theorem dX10_feed_102 : decode cX10_feed 102 = .ok (.dup, 1) := by decide +kernel
theorem dX10_feed_103 : decode cX10_feed 103 = .ok (.getfield 109, 3) := by decide +kernel
theorem dX10_feed_106 : decode cX10_feed 106 = .ok (.bipush 20, 2) := by decide +kernel
theorem dX10_feed_108 : decode cX10_feed 108 = .ok (.iadd, 1) := by decide +kernel
theorem dX10_feed_109 : decode cX10_feed 109 = .ok (.putfield 109, 3) := by decide +kernel
theorem dX10_feed_112 : decode cX10_feed 112 = .ok (.aload_n 0, 1) := by decide +kernel
theorem dX10_feed_113 : decode cX10_feed 113 = .ok (.getfield 109, 3) := by decide +kernel
theorem dX10_feed_116 : decode cX10_feed 116 = .ok (.ireturn, 1) := by decide +kernel
theorem dX10_end_0 : decode cX10_end 0 = .ok (.iload_n 1, 1) := by decide +kernel
theorem dX10_end_1 : decode cX10_end 1 = .ok (.i2l, 1) := by decide +kernel
theorem dX10_end_2 : decode cX10_end 2 = .ok (.lconst 0, 1) := by decide +kernel
theorem dX10_end_3 : decode cX10_end 3 = .ok (.aload_n 0, 1) := by decide +kernel
theorem dX10_end_4 : decode cX10_end 4 = .ok (.getfield 109, 3) := by decide +kernel
theorem dX10_end_7 : decode cX10_end 7 = .ok (.i2l, 1) := by decide +kernel
theorem dX10_end_8 : decode cX10_end 8 = .ok (.invokestatic 101, 3) := by decide +kernel
theorem dX10_end_11 : decode cX10_end 11 = .ok (.ifCond .ne 5, 3) := by decide +kernel
theorem dX10_end_14 : decode cX10_end 14 = .ok (.iconst (-1), 1) := by decide +kernel
theorem dX10_end_15 : decode cX10_end 15 = .ok (.ireturn, 1) := by decide +kernel
theorem dX10_end_16 : decode cX10_end 16 = .ok (.aload_n 0, 1) := by decide +kernel
theorem dX10_end_17 : decode cX10_end 17 = .ok (.iload_n 1, 1) := by decide +kernel
theorem dX10_end_18 : decode cX10_end 18 = .ok (.putfield 109, 3) := by decide +kernel
theorem dX10_end_21 : decode cX10_end 21 = .ok (.iload_n 1, 1) := by decide +kernel
theorem dX10_end_22 : decode cX10_end 22 = .ok (.ireturn, 1) := by decide +kernel
theorem dX10_see_0 : decode cX10_see 0 = .ok (.iload_n 1, 1) := by decide +kernel
theorem dX10_see_1 : decode cX10_see 1 = .ok (.aload_n 0, 1) := by decide +kernel
theorem dX10_see_2 : decode cX10_see 2 = .ok (.getfield 112, 3) := by decide +kernel
theorem dX10_see_5 : decode cX10_see 5 = .ok (.if_icmp .ge 16, 3) := by decide +kernel
theorem dX10_see_8 : decode cX10_see 8 = .ok (.aload_n 0, 1) := by decide +kernel
theorem dX10_see_9 : decode cX10_see 9 = .ok (.getfield 24, 3) := by decide +kernel
theorem dX10_see_12 : decode cX10_see 12 = .ok (.iload_n 1, 1) := by decide +kernel
theorem dX10_see_13 : decode cX10_see 13 = .ok (.baload, 1) := by decide +kernel
theorem dX10_see_14 : decode cX10_see 14 = .ok (.sipush 255, 3) := by decide +kernel
theorem dX10_see_17 : decode cX10_see 17 = .ok (.iand, 1) := by decide +kernel
theorem dX10_see_18 : decode cX10_see 18 = .ok (.goto 4, 3) := by decide +kernel
theorem dX10_see_21 : decode cX10_see 21 = .ok (.iconst (-1), 1) := by decide +kernel
theorem dX10_see_22 : decode cX10_see 22 = .ok (.ireturn, 1) := by decide +kernel
theorem dX10_advance_0 : decode cX10_advance 0 = .ok (.aload_n 0, 1) := by decide +kernel
theorem dX10_advance_1 : decode cX10_advance 1 = .ok (.aload_n 0, 1) := by decide +kernel
theorem dX10_advance_2 : decode cX10_advance 2 = .ok (.getfield 115, 3) := by decide +kernel
theorem dX10_advance_5 : decode cX10_advance 5 = .ok (.invokevirtual 118, 3) := by decide +kernel
theorem dX10_advance_8 : decode cX10_advance 8 = .ok (.bipush 32, 2) := by decide +kernel
theorem dX10_advance_10 : decode cX10_advance 10 = .ok (.if_icmp .eq 16, 3) := by decide +kernel
theorem dX10_advance_13 : decode cX10_advance 13 = .ok (.aload_n 0, 1) := by decide +kernel
theorem dX10_advance_14 : decode cX10_advance 14 = .ok (.aload_n 0, 1) := by decide +kernel
theorem dX10_advance_15 : decode cX10_advance 15 = .ok (.getfield 115, 3) := by decide +kernel
theorem dX10_advance_18 : decode cX10_advance 18 = .ok (.invokevirtual 118, 3) := by decide +kernel
theorem dX10_advance_21 : decode cX10_advance 21 = .ok (.bipush 10, 2) := by decide +kernel
theorem dX10_advance_23 : decode cX10_advance 23 = .ok (.if_icmp .ne 16, 3) := by decide +kernel
theorem dX10_advance_26 : decode cX10_advance 26 = .ok (.aload_n 0, 1) := by decide +kernel
theorem dX10_advance_27 : decode cX10_advance 27 = .ok (.dup, 1) := by decide +kernel
theorem dX10_advance_28 : decode cX10_advance 28 = .ok (.getfield 115, 3) := by decide +kernel
theorem dX10_advance_31 : decode cX10_advance 31 = .ok (.iconst 1, 1) := by decide +kernel
theorem dX10_advance_32 : decode cX10_advance 32 = .ok (.iadd, 1) := by decide +kernel
theorem dX10_advance_33 : decode cX10_advance 33 = .ok (.putfield 115, 3) := by decide +kernel
theorem dX10_advance_36 : decode cX10_advance 36 = .ok (.goto (-36), 3) := by decide +kernel
theorem dX10_advance_39 : decode cX10_advance 39 = .ok (.aload_n 0, 1) := by decide +kernel
theorem dX10_advance_40 : decode cX10_advance 40 = .ok (.aload_n 0, 1) := by decide +kernel
theorem dX10_advance_41 : decode cX10_advance 41 = .ok (.getfield 115, 3) := by decide +kernel
theorem dX10_advance_44 : decode cX10_advance 44 = .ok (.putfield 122, 3) := by decide +kernel
theorem dX10_advance_47 : decode cX10_advance 47 = .ok (.aload_n 0, 1) := by decide +kernel
theorem dX10_advance_48 : decode cX10_advance 48 = .ok (.aload_n 0, 1) := by decide +kernel
theorem dX10_advance_49 : decode cX10_advance 49 = .ok (.getfield 115, 3) := by decide +kernel
theorem dX10_advance_52 : decode cX10_advance 52 = .ok (.invokevirtual 118, 3) := by decide +kernel
theorem dX10_advance_55 : decode cX10_advance 55 = .ok (.istore_n 1, 1) := by decide +kernel
theorem dX10_advance_56 : decode cX10_advance 56 = .ok (.iload_n 1, 1) := by decide +kernel
theorem dX10_advance_57 : decode cX10_advance 57 = .ok (.iconst (-1), 1) := by decide +kernel
theorem dX10_advance_58 : decode cX10_advance 58 = .ok (.if_icmp .ne 11, 3) := by decide +kernel
theorem dX10_advance_61 : decode cX10_advance 61 = .ok (.aload_n 0, 1) := by decide +kernel
theorem dX10_advance_62 : decode cX10_advance 62 = .ok (.iconst 0, 1) := by decide +kernel
theorem dX10_advance_63 : decode cX10_advance 63 = .ok (.putfield 125, 3) := by decide +kernel
theorem dX10_advance_66 : decode cX10_advance 66 = .ok (.goto 174, 3) := by decide +kernel
theorem dX10_advance_69 : decode cX10_advance 69 = .ok (.iload_n 1, 1) := by decide +kernel
theorem dX10_advance_70 : decode cX10_advance 70 = .ok (.i2l, 1) := by decide +kernel
theorem dX10_advance_71 : decode cX10_advance 71 = .ok (.ldc2_w 128, 3) := by decide +kernel
theorem dX10_advance_74 : decode cX10_advance 74 = .ok (.ldc2_w 130, 3) := by decide +kernel
theorem dX10_advance_77 : decode cX10_advance 77 = .ok (.invokestatic 101, 3) := by decide +kernel
theorem dX10_advance_80 : decode cX10_advance 80 = .ok (.ifCond .eq 45, 3) := by decide +kernel
theorem dX10_advance_83 : decode cX10_advance 83 = .ok (.aload_n 0, 1) := by decide +kernel
theorem dX10_advance_84 : decode cX10_advance 84 = .ok (.aload_n 0, 1) := by decide +kernel
theorem dX10_advance_85 : decode cX10_advance 85 = .ok (.getfield 115, 3) := by decide +kernel
theorem dX10_advance_88 : decode cX10_advance 88 = .ok (.invokevirtual 118, 3) := by decide +kernel
theorem dX10_advance_91 : decode cX10_advance 91 = .ok (.i2l, 1) := by decide +kernel
theorem dX10_advance_92 : decode cX10_advance 92 = .ok (.ldc2_w 128, 3) := by decide +kernel
theorem dX10_advance_95 : decode cX10_advance 95 = .ok (.ldc2_w 130, 3) := by decide +kernel
theorem dX10_advance_98 : decode cX10_advance 98 = .ok (.invokestatic 101, 3) := by decide +kernel
theorem dX10_advance_101 : decode cX10_advance 101 = .ok (.ifCond .eq 16, 3) := by decide +kernel
theorem dX10_advance_104 : decode cX10_advance 104 = .ok (.aload_n 0, 1) := by decide +kernel
theorem dX10_advance_105 : decode cX10_advance 105 = .ok (.dup, 1) := by decide +kernel
theorem dX10_advance_106 : decode cX10_advance 106 = .ok (.getfield 115, 3) := by decide +kernel
theorem dX10_advance_109 : decode cX10_advance 109 = .ok (.iconst 1, 1) := by decide +kernel
theorem dX10_advance_110 : decode cX10_advance 110 = .ok (.iadd, 1) := by decide +kernel
theorem dX10_advance_111 : decode cX10_advance 111 = .ok (.putfield 115, 3) := by decide +kernel
theorem dX10_advance_114 : decode cX10_advance 114 = .ok (.goto (-31), 3) := by decide +kernel
theorem dX10_advance_117 : decode cX10_advance 117 = .ok (.aload_n 0, 1) := by decide +kernel
theorem dX10_advance_118 : decode cX10_advance 118 = .ok (.iconst 1, 1) := by decide +kernel
theorem dX10_advance_119 : decode cX10_advance 119 = .ok (.putfield 125, 3) := by decide +kernel
theorem dX10_advance_122 : decode cX10_advance 122 = .ok (.goto 118, 3) := by decide +kernel
theorem dX10_advance_125 : decode cX10_advance 125 = .ok (.iload_n 1, 1) := by decide +kernel
theorem dX10_advance_126 : decode cX10_advance 126 = .ok (.i2l, 1) := by decide +kernel
theorem dX10_advance_127 : decode cX10_advance 127 = .ok (.ldc2_w 132, 3) := by decide +kernel
theorem dX10_advance_130 : decode cX10_advance 130 = .ok (.ldc2_w 134, 3) := by decide +kernel
theorem dX10_advance_133 : decode cX10_advance 133 = .ok (.invokestatic 101, 3) := by decide +kernel
theorem dX10_advance_136 : decode cX10_advance 136 = .ok (.ifCond .eq 79, 3) := by decide +kernel
theorem dX10_advance_139 : decode cX10_advance 139 = .ok (.aload_n 0, 1) := by decide +kernel
theorem dX10_advance_140 : decode cX10_advance 140 = .ok (.iconst 0, 1) := by decide +kernel
theorem dX10_advance_141 : decode cX10_advance 141 = .ok (.putfield 136, 3) := by decide +kernel
theorem dX10_advance_144 : decode cX10_advance 144 = .ok (.aload_n 0, 1) := by decide +kernel
theorem dX10_advance_145 : decode cX10_advance 145 = .ok (.aload_n 0, 1) := by decide +kernel
theorem dX10_advance_146 : decode cX10_advance 146 = .ok (.getfield 115, 3) := by decide +kernel
theorem dX10_advance_149 : decode cX10_advance 149 = .ok (.invokevirtual 118, 3) := by decide +kernel
theorem dX10_advance_152 : decode cX10_advance 152 = .ok (.i2l, 1) := by decide +kernel
theorem dX10_advance_153 : decode cX10_advance 153 = .ok (.ldc2_w 132, 3) := by decide +kernel
theorem dX10_advance_156 : decode cX10_advance 156 = .ok (.ldc2_w 134, 3) := by decide +kernel
theorem dX10_advance_159 : decode cX10_advance 159 = .ok (.invokestatic 101, 3) := by decide +kernel
theorem dX10_advance_162 : decode cX10_advance 162 = .ok (.ifCond .eq 45, 3) := by decide +kernel
theorem dX10_advance_165 : decode cX10_advance 165 = .ok (.aload_n 0, 1) := by decide +kernel
theorem dX10_advance_166 : decode cX10_advance 166 = .ok (.sipush 9999, 3) := by decide +kernel
theorem dX10_advance_169 : decode cX10_advance 169 = .ok (.bipush 10, 2) := by decide +kernel
theorem dX10_advance_171 : decode cX10_advance 171 = .ok (.aload_n 0, 1) := by decide +kernel
theorem dX10_advance_172 : decode cX10_advance 172 = .ok (.getfield 136, 3) := by decide +kernel
theorem dX10_advance_175 : decode cX10_advance 175 = .ok (.imul, 1) := by decide +kernel
theorem dX10_advance_176 : decode cX10_advance 176 = .ok (.aload_n 0, 1) := by decide +kernel
theorem dX10_advance_177 : decode cX10_advance 177 = .ok (.aload_n 0, 1) := by decide +kernel
theorem dX10_advance_178 : decode cX10_advance 178 = .ok (.getfield 115, 3) := by decide +kernel
theorem dX10_advance_181 : decode cX10_advance 181 = .ok (.invokevirtual 118, 3) := by decide +kernel
theorem dX10_advance_184 : decode cX10_advance 184 = .ok (.iadd, 1) := by decide +kernel
theorem dX10_advance_185 : decode cX10_advance 185 = .ok (.bipush 48, 2) := by decide +kernel
theorem dX10_advance_187 : decode cX10_advance 187 = .ok (.isub, 1) := by decide +kernel
theorem dX10_advance_188 : decode cX10_advance 188 = .ok (.invokestatic 139, 3) := by decide +kernel
theorem dX10_advance_191 : decode cX10_advance 191 = .ok (.putfield 136, 3) := by decide +kernel
theorem dX10_advance_194 : decode cX10_advance 194 = .ok (.aload_n 0, 1) := by decide +kernel
theorem dX10_advance_195 : decode cX10_advance 195 = .ok (.dup, 1) := by decide +kernel
theorem dX10_advance_196 : decode cX10_advance 196 = .ok (.getfield 115, 3) := by decide +kernel
theorem dX10_advance_199 : decode cX10_advance 199 = .ok (.iconst 1, 1) := by decide +kernel
theorem dX10_advance_200 : decode cX10_advance 200 = .ok (.iadd, 1) := by decide +kernel
theorem dX10_advance_201 : decode cX10_advance 201 = .ok (.putfield 115, 3) := by decide +kernel
theorem dX10_advance_204 : decode cX10_advance 204 = .ok (.goto (-60), 3) := by decide +kernel
theorem dX10_advance_207 : decode cX10_advance 207 = .ok (.aload_n 0, 1) := by decide +kernel
theorem dX10_advance_208 : decode cX10_advance 208 = .ok (.iconst 2, 1) := by decide +kernel
theorem dX10_advance_209 : decode cX10_advance 209 = .ok (.putfield 125, 3) := by decide +kernel
theorem dX10_advance_212 : decode cX10_advance 212 = .ok (.goto 28, 3) := by decide +kernel
theorem dX10_advance_215 : decode cX10_advance 215 = .ok (.aload_n 0, 1) := by decide +kernel
theorem dX10_advance_216 : decode cX10_advance 216 = .ok (.iload_n 1, 1) := by decide +kernel
theorem dX10_advance_217 : decode cX10_advance 217 = .ok (.bipush 59, 2) := by decide +kernel
theorem dX10_advance_219 : decode cX10_advance 219 = .ok (.if_icmp .ne 7, 3) := by decide +kernel
theorem dX10_advance_222 : decode cX10_advance 222 = .ok (.iconst 3, 1) := by decide +kernel
theorem dX10_advance_223 : decode cX10_advance 223 = .ok (.goto 4, 3) := by decide +kernel
theorem dX10_advance_226 : decode cX10_advance 226 = .ok (.iconst 4, 1) := by decide +kernel
theorem dX10_advance_227 : decode cX10_advance 227 = .ok (.putfield 125, 3) := by decide +kernel
theorem dX10_advance_230 : decode cX10_advance 230 = .ok (.aload_n 0, 1) := by decide +kernel
theorem dX10_advance_231 : decode cX10_advance 231 = .ok (.dup, 1) := by decide +kernel
theorem dX10_advance_232 : decode cX10_advance 232 = .ok (.getfield 115, 3) := by decide +kernel
theorem dX10_advance_235 : decode cX10_advance 235 = .ok (.iconst 1, 1) := by decide +kernel
theorem dX10_advance_236 : decode cX10_advance 236 = .ok (.iadd, 1) := by decide +kernel
theorem dX10_advance_237 : decode cX10_advance 237 = .ok (.putfield 115, 3) := by decide +kernel
theorem dX10_advance_240 : decode cX10_advance 240 = .ok (.return_, 1) := by decide +kernel
theorem dX10_good_0 : decode cX10_good 0 = .ok (.aload_n 0, 1) := by decide +kernel
theorem dX10_good_1 : decode cX10_good 1 = .ok (.getfield 145, 3) := by decide +kernel
theorem dX10_good_4 : decode cX10_good 4 = .ok (.ifCond .ne 7, 3) := by decide +kernel
theorem dX10_good_7 : decode cX10_good 7 = .ok (.iconst 1, 1) := by decide +kernel
theorem dX10_good_8 : decode cX10_good 8 = .ok (.goto 4, 3) := by decide +kernel
theorem dX10_good_11 : decode cX10_good 11 = .ok (.iconst 0, 1) := by decide +kernel
theorem dX10_good_12 : decode cX10_good 12 = .ok (.ireturn, 1) := by decide +kernel
theorem dX10_fault_0 : decode cX10_fault 0 = .ok (.iload_n 1, 1) := by decide +kernel
theorem dX10_fault_1 : decode cX10_fault 1 = .ok (.ifCond .ne 10, 3) := by decide +kernel
theorem dX10_fault_4 : decode cX10_fault 4 = .ok (.aload_n 0, 1) := by decide +kernel
theorem dX10_fault_5 : decode cX10_fault 5 = .ok (.getfield 145, 3) := by decide +kernel
theorem dX10_fault_8 : decode cX10_fault 8 = .ok (.goto 16, 3) := by decide +kernel
theorem dX10_fault_11 : decode cX10_fault 11 = .ok (.iload_n 1, 1) := by decide +kernel
theorem dX10_fault_12 : decode cX10_fault 12 = .ok (.iconst 1, 1) := by decide +kernel
theorem dX10_fault_13 : decode cX10_fault 13 = .ok (.if_icmp .ne 10, 3) := by decide +kernel
theorem dX10_fault_16 : decode cX10_fault 16 = .ok (.aload_n 0, 1) := by decide +kernel
theorem dX10_fault_17 : decode cX10_fault 17 = .ok (.getfield 31, 3) := by decide +kernel
theorem dX10_fault_20 : decode cX10_fault 20 = .ok (.goto 4, 3) := by decide +kernel
theorem dX10_fault_23 : decode cX10_fault 23 = .ok (.iconst (-1), 1) := by decide +kernel
theorem dX10_fault_24 : decode cX10_fault 24 = .ok (.ireturn, 1) := by decide +kernel
theorem dX10_town_0 : decode cX10_town 0 = .ok (.aload_n 0, 1) := by decide +kernel
theorem dX10_town_1 : decode cX10_town 1 = .ok (.aload_n 0, 1) := by decide +kernel
theorem dX10_town_2 : decode cX10_town 2 = .ok (.getfield 109, 3) := by decide +kernel
theorem dX10_town_5 : decode cX10_town 5 = .ok (.putfield 112, 3) := by decide +kernel
theorem dX10_town_8 : decode cX10_town 8 = .ok (.aload_n 0, 1) := by decide +kernel
theorem dX10_town_9 : decode cX10_town 9 = .ok (.iconst 0, 1) := by decide +kernel
theorem dX10_town_10 : decode cX10_town 10 = .ok (.putfield 109, 3) := by decide +kernel
theorem dX10_town_13 : decode cX10_town 13 = .ok (.aload_n 0, 1) := by decide +kernel
theorem dX10_town_14 : decode cX10_town 14 = .ok (.iconst 0, 1) := by decide +kernel
theorem dX10_town_15 : decode cX10_town 15 = .ok (.putfield 115, 3) := by decide +kernel
theorem dX10_town_18 : decode cX10_town 18 = .ok (.aload_n 0, 1) := by decide +kernel
theorem dX10_town_19 : decode cX10_town 19 = .ok (.iconst 0, 1) := by decide +kernel
theorem dX10_town_20 : decode cX10_town 20 = .ok (.putfield 145, 3) := by decide +kernel
theorem dX10_town_23 : decode cX10_town 23 = .ok (.aload_n 0, 1) := by decide +kernel
theorem dX10_town_24 : decode cX10_town 24 = .ok (.iconst (-1), 1) := by decide +kernel
theorem dX10_town_25 : decode cX10_town 25 = .ok (.putfield 31, 3) := by decide +kernel
theorem dX10_town_28 : decode cX10_town 28 = .ok (.iconst 0, 1) := by decide +kernel
theorem dX10_town_29 : decode cX10_town 29 = .ok (.istore_n 1, 1) := by decide +kernel
theorem dX10_town_30 : decode cX10_town 30 = .ok (.iload_n 1, 1) := by decide +kernel
theorem dX10_town_31 : decode cX10_town 31 = .ok (.sipush 9080, 3) := by decide +kernel
theorem dX10_town_34 : decode cX10_town 34 = .ok (.if_icmp .ge 16, 3) := by decide +kernel
theorem dX10_town_37 : decode cX10_town 37 = .ok (.aload_n 0, 1) := by decide +kernel
theorem dX10_town_38 : decode cX10_town 38 = .ok (.getfield 34, 3) := by decide +kernel
theorem dX10_town_41 : decode cX10_town 41 = .ok (.iload_n 1, 1) := by decide +kernel
theorem dX10_town_42 : decode cX10_town 42 = .ok (.iconst 0, 1) := by decide +kernel
theorem dX10_town_43 : decode cX10_town 43 = .ok (.iastore, 1) := by decide +kernel
theorem dX10_town_44 : decode cX10_town 44 = .ok (.iinc 1 1, 3) := by decide +kernel
theorem dX10_town_47 : decode cX10_town 47 = .ok (.goto (-17), 3) := by decide +kernel
theorem dX10_town_50 : decode cX10_town 50 = .ok (.aload_n 0, 1) := by decide +kernel
theorem dX10_town_51 : decode cX10_town 51 = .ok (.getfield 34, 3) := by decide +kernel
theorem dX10_town_54 : decode cX10_town 54 = .ok (.iconst 5, 1) := by decide +kernel
theorem dX10_town_55 : decode cX10_town 55 = .ok (.iconst 3, 1) := by decide +kernel
theorem dX10_town_56 : decode cX10_town 56 = .ok (.iastore, 1) := by decide +kernel
theorem dX10_town_57 : decode cX10_town 57 = .ok (.aload_n 0, 1) := by decide +kernel
theorem dX10_town_58 : decode cX10_town 58 = .ok (.invokevirtual 166, 3) := by decide +kernel
theorem dX10_town_61 : decode cX10_town 61 = .ok (.aload_n 0, 1) := by decide +kernel
theorem dX10_town_62 : decode cX10_town 62 = .ok (.invokevirtual 148, 3) := by decide +kernel
theorem dX10_town_65 : decode cX10_town 65 = .ok (.ifCond .eq 17, 3) := by decide +kernel
theorem dX10_town_68 : decode cX10_town 68 = .ok (.aload_n 0, 1) := by decide +kernel
theorem dX10_town_69 : decode cX10_town 69 = .ok (.getfield 125, 3) := by decide +kernel
theorem dX10_town_72 : decode cX10_town 72 = .ok (.ifCond .eq 10, 3) := by decide +kernel
theorem dX10_town_75 : decode cX10_town 75 = .ok (.aload_n 0, 1) := by decide +kernel
theorem dX10_town_76 : decode cX10_town 76 = .ok (.invokevirtual 283, 3) := by decide +kernel
theorem dX10_town_79 : decode cX10_town 79 = .ok (.goto (-18), 3) := by decide +kernel
theorem dX10_town_82 : decode cX10_town 82 = .ok (.aload_n 0, 1) := by decide +kernel
theorem dX10_town_83 : decode cX10_town 83 = .ok (.invokevirtual 148, 3) := by decide +kernel
theorem dX10_town_86 : decode cX10_town 86 = .ok (.ifCond .ne 6, 3) := by decide +kernel
theorem dX10_town_89 : decode cX10_town 89 = .ok (.bipush (-4), 2) := by decide +kernel
theorem dX10_town_91 : decode cX10_town 91 = .ok (.ireturn, 1) := by decide +kernel
theorem dX10_town_92 : decode cX10_town 92 = .ok (.iconst 0, 1) := by decide +kernel
theorem dX10_town_93 : decode cX10_town 93 = .ok (.istore_n 1, 1) := by decide +kernel
theorem dX10_town_94 : decode cX10_town 94 = .ok (.iload_n 1, 1) := by decide +kernel
theorem dX10_town_95 : decode cX10_town 95 = .ok (.sipush 9080, 3) := by decide +kernel
theorem dX10_town_98 : decode cX10_town 98 = .ok (.if_icmp .ge 21, 3) := by decide +kernel
theorem dX10_town_101 : decode cX10_town 101 = .ok (.aload_n 0, 1) := by decide +kernel
theorem dX10_town_102 : decode cX10_town 102 = .ok (.getfield 13, 3) := by decide +kernel
theorem dX10_town_105 : decode cX10_town 105 = .ok (.iload_n 1, 1) := by decide +kernel
theorem dX10_town_106 : decode cX10_town 106 = .ok (.aload_n 0, 1) := by decide +kernel
theorem dX10_town_107 : decode cX10_town 107 = .ok (.getfield 34, 3) := by decide +kernel
theorem dX10_town_110 : decode cX10_town 110 = .ok (.iload_n 1, 1) := by decide +kernel
theorem dX10_town_111 : decode cX10_town 111 = .ok (.iaload, 1) := by decide +kernel
theorem dX10_town_112 : decode cX10_town 112 = .ok (.iastore, 1) := by decide +kernel
theorem dX10_town_113 : decode cX10_town 113 = .ok (.iinc 1 1, 3) := by decide +kernel
theorem dX10_town_116 : decode cX10_town 116 = .ok (.goto (-22), 3) := by decide +kernel
theorem dX10_town_119 : decode cX10_town 119 = .ok (.iconst 0, 1) := by decide +kernel
theorem dX10_town_120 : decode cX10_town 120 = .ok (.istore_n 1, 1) := by decide +kernel
theorem dX10_town_121 : decode cX10_town 121 = .ok (.iload_n 1, 1) := by decide +kernel
theorem dX10_town_122 : decode cX10_town 122 = .ok (.bipush 16, 2) := by decide +kernel
theorem dX10_town_124 : decode cX10_town 124 = .ok (.if_icmp .ge 26, 3) := by decide +kernel
theorem dX10_town_127 : decode cX10_town 127 = .ok (.aload_n 0, 1) := by decide +kernel
theorem dX10_town_128 : decode cX10_town 128 = .ok (.getfield 13, 3) := by decide +kernel
theorem dX10_town_131 : decode cX10_town 131 = .ok (.sipush 1864, 3) := by decide +kernel
theorem dX10_town_134 : decode cX10_town 134 = .ok (.iload_n 1, 1) := by decide +kernel
theorem dX10_town_135 : decode cX10_town 135 = .ok (.iadd, 1) := by decide +kernel
end
section
theorem dX10_town_136 : decode cX10_town 136 = .ok (.aload_n 0, 1) := by decide +kernel
theorem dX10_town_137 : decode cX10_town 137 = .ok (.iload_n 1, 1) := by decide +kernel
theorem dX10_town_138 : decode cX10_town 138 = .ok (.bipush 8, 2) := by decide +kernel
theorem dX10_town_140 : decode cX10_town 140 = .ok (.invokevirtual 286, 3) := by decide +kernel
theorem dX10_town_143 : decode cX10_town 143 = .ok (.iastore, 1) := by decide +kernel
theorem dX10_town_144 : decode cX10_town 144 = .ok (.iinc 1 1, 3) := by decide +kernel
theorem dX10_town_147 : decode cX10_town 147 = .ok (.goto (-26), 3) := by decide +kernel
theorem dX10_town_150 : decode cX10_town 150 = .ok (.aload_n 0, 1) := by decide +kernel
theorem dX10_town_151 : decode cX10_town 151 = .ok (.getfield 13, 3) := by decide +kernel
theorem dX10_town_154 : decode cX10_town 154 = .ok (.iconst 0, 1) := by decide +kernel
theorem dX10_town_155 : decode cX10_town 155 = .ok (.iaload, 1) := by decide +kernel
theorem dX10_town_156 : decode cX10_town 156 = .ok (.ireturn, 1) := by decide +kernel
theorem dX10_days_0 : decode cX10_days 0 = .ok (.iload_n 1, 1) := by decide +kernel
theorem dX10_days_1 : decode cX10_days 1 = .ok (.i2l, 1) := by decide +kernel
theorem dX10_days_2 : decode cX10_days 2 = .ok (.lconst 0, 1) := by decide +kernel
theorem dX10_days_3 : decode cX10_days 3 = .ok (.ldc2_w 289, 3) := by decide +kernel
theorem dX10_days_6 : decode cX10_days 6 = .ok (.invokestatic 101, 3) := by decide +kernel
theorem dX10_days_9 : decode cX10_days 9 = .ok (.ifCond .eq 15, 3) := by decide +kernel
theorem dX10_days_12 : decode cX10_days 12 = .ok (.aload_n 0, 1) := by decide +kernel
theorem dX10_days_13 : decode cX10_days 13 = .ok (.invokevirtual 291, 3) := by decide +kernel
theorem dX10_days_16 : decode cX10_days 16 = .ok (.iload_n 1, 1) := by decide +kernel
theorem dX10_days_17 : decode cX10_days 17 = .ok (.iadd, 1) := by decide +kernel
theorem dX10_days_18 : decode cX10_days 18 = .ok (.sipush 399, 3) := by decide +kernel
theorem dX10_days_21 : decode cX10_days 21 = .ok (.if_icmp .le 6, 3) := by decide +kernel
theorem dX10_days_24 : decode cX10_days 24 = .ok (.bipush (-2), 2) := by decide +kernel
theorem dX10_days_26 : decode cX10_days 26 = .ok (.ireturn, 1) := by decide +kernel
theorem dX10_days_27 : decode cX10_days 27 = .ok (.aload_n 0, 1) := by decide +kernel
theorem dX10_days_28 : decode cX10_days 28 = .ok (.getfield 13, 3) := by decide +kernel
theorem dX10_days_31 : decode cX10_days 31 = .ok (.bipush 6, 2) := by decide +kernel
theorem dX10_days_33 : decode cX10_days 33 = .ok (.dup2, 1) := by decide +kernel
theorem dX10_days_34 : decode cX10_days 34 = .ok (.iaload, 1) := by decide +kernel
theorem dX10_days_35 : decode cX10_days 35 = .ok (.iload_n 1, 1) := by decide +kernel
theorem dX10_days_36 : decode cX10_days 36 = .ok (.iadd, 1) := by decide +kernel
theorem dX10_days_37 : decode cX10_days 37 = .ok (.iastore, 1) := by decide +kernel
theorem dX10_days_38 : decode cX10_days 38 = .ok (.aload_n 0, 1) := by decide +kernel
theorem dX10_days_39 : decode cX10_days 39 = .ok (.invokevirtual 291, 3) := by decide +kernel
theorem dX10_days_42 : decode cX10_days 42 = .ok (.ireturn, 1) := by decide +kernel
theorem dX10_bars_0 : decode cX10_bars 0 = .ok (.aload_n 0, 1) := by decide +kernel
theorem dX10_bars_1 : decode cX10_bars 1 = .ok (.iload_n 1, 1) := by decide +kernel
theorem dX10_bars_2 : decode cX10_bars 2 = .ok (.iload_n 2, 1) := by decide +kernel
theorem dX10_bars_3 : decode cX10_bars 3 = .ok (.invokevirtual 315, 3) := by decide +kernel
theorem dX10_bars_6 : decode cX10_bars 6 = .ok (.ifCond .eq 20, 3) := by decide +kernel
theorem dX10_bars_9 : decode cX10_bars 9 = .ok (.iload_n 3, 1) := by decide +kernel
theorem dX10_bars_10 : decode cX10_bars 10 = .ok (.invokestatic 318, 3) := by decide +kernel
theorem dX10_bars_13 : decode cX10_bars 13 = .ok (.ifCond .eq 13, 3) := by decide +kernel
theorem dX10_bars_16 : decode cX10_bars 16 = .ok (.aload_n 0, 1) := by decide +kernel
theorem dX10_bars_17 : decode cX10_bars 17 = .ok (.iload_n 1, 1) := by decide +kernel
theorem dX10_bars_18 : decode cX10_bars 18 = .ok (.iload_n 2, 1) := by decide +kernel
theorem dX10_bars_19 : decode cX10_bars 19 = .ok (.iload_n 3, 1) := by decide +kernel
theorem dX10_bars_20 : decode cX10_bars 20 = .ok (.invokevirtual 321, 3) := by decide +kernel
theorem dX10_bars_23 : decode cX10_bars 23 = .ok (.goto 5, 3) := by decide +kernel
theorem dX10_bars_26 : decode cX10_bars 26 = .ok (.bipush (-2), 2) := by decide +kernel
theorem dX10_bars_28 : decode cX10_bars 28 = .ok (.ireturn, 1) := by decide +kernel
theorem dX10_known_0 : decode cX10_known 0 = .ok (.aload_n 0, 1) := by decide +kernel
theorem dX10_known_1 : decode cX10_known 1 = .ok (.iload_n 1, 1) := by decide +kernel
theorem dX10_known_2 : decode cX10_known 2 = .ok (.iload_n 2, 1) := by decide +kernel
theorem dX10_known_3 : decode cX10_known 3 = .ok (.invokevirtual 315, 3) := by decide +kernel
theorem dX10_known_6 : decode cX10_known 6 = .ok (.ifCond .ne 8, 3) := by decide +kernel
theorem dX10_known_9 : decode cX10_known 9 = .ok (.bipush (-2), 2) := by decide +kernel
theorem dX10_known_11 : decode cX10_known 11 = .ok (.goto 17, 3) := by decide +kernel
theorem dX10_known_14 : decode cX10_known 14 = .ok (.aload_n 0, 1) := by decide +kernel
theorem dX10_known_15 : decode cX10_known 15 = .ok (.iload_n 1, 1) := by decide +kernel
theorem dX10_known_16 : decode cX10_known 16 = .ok (.iload_n 2, 1) := by decide +kernel
theorem dX10_known_17 : decode cX10_known 17 = .ok (.invokevirtual 304, 3) := by decide +kernel
theorem dX10_known_20 : decode cX10_known 20 = .ok (.ifCond .eq 7, 3) := by decide +kernel
theorem dX10_known_23 : decode cX10_known 23 = .ok (.iconst 1, 1) := by decide +kernel
theorem dX10_known_24 : decode cX10_known 24 = .ok (.goto 4, 3) := by decide +kernel
theorem dX10_known_27 : decode cX10_known 27 = .ok (.iconst 0, 1) := by decide +kernel
theorem dX10_known_28 : decode cX10_known 28 = .ok (.ireturn, 1) := by decide +kernel
theorem dX10_does_0 : decode cX10_does 0 = .ok (.aload_n 0, 1) := by decide +kernel
theorem dX10_does_1 : decode cX10_does 1 = .ok (.iload_n 1, 1) := by decide +kernel
theorem dX10_does_2 : decode cX10_does 2 = .ok (.iload_n 2, 1) := by decide +kernel
theorem dX10_does_3 : decode cX10_does 3 = .ok (.invokevirtual 315, 3) := by decide +kernel
theorem dX10_does_6 : decode cX10_does 6 = .ok (.ifCond .eq 10, 3) := by decide +kernel
theorem dX10_does_9 : decode cX10_does 9 = .ok (.iload_n 3, 1) := by decide +kernel
theorem dX10_does_10 : decode cX10_does 10 = .ok (.invokestatic 318, 3) := by decide +kernel
theorem dX10_does_13 : decode cX10_does 13 = .ok (.ifCond .ne 6, 3) := by decide +kernel
theorem dX10_does_16 : decode cX10_does 16 = .ok (.bipush (-2), 2) := by decide +kernel
theorem dX10_does_18 : decode cX10_does 18 = .ok (.ireturn, 1) := by decide +kernel
theorem dX10_does_19 : decode cX10_does 19 = .ok (.aload_n 0, 1) := by decide +kernel
theorem dX10_does_20 : decode cX10_does 20 = .ok (.iload_n 1, 1) := by decide +kernel
theorem dX10_does_21 : decode cX10_does 21 = .ok (.iload_n 2, 1) := by decide +kernel
theorem dX10_does_22 : decode cX10_does 22 = .ok (.iload_n 3, 1) := by decide +kernel
theorem dX10_does_23 : decode cX10_does 23 = .ok (.invokevirtual 321, 3) := by decide +kernel
theorem dX10_does_26 : decode cX10_does 26 = .ok (.ifCond .eq 6, 3) := by decide +kernel
theorem dX10_does_29 : decode cX10_does 29 = .ok (.bipush (-5), 2) := by decide +kernel
theorem dX10_does_31 : decode cX10_does 31 = .ok (.ireturn, 1) := by decide +kernel
theorem dX10_does_32 : decode cX10_does 32 = .ok (.aload_n 0, 1) := by decide +kernel
theorem dX10_does_33 : decode cX10_does 33 = .ok (.getfield 13, 3) := by decide +kernel
theorem dX10_does_36 : decode cX10_does 36 = .ok (.bipush 8, 2) := by decide +kernel
theorem dX10_does_38 : decode cX10_does 38 = .ok (.iaload, 1) := by decide +kernel
theorem dX10_does_39 : decode cX10_does 39 = .ok (.sipush 600, 3) := by decide +kernel
theorem dX10_does_42 : decode cX10_does 42 = .ok (.if_icmp .ne 6, 3) := by decide +kernel
theorem dX10_does_45 : decode cX10_does 45 = .ok (.bipush (-3), 2) := by decide +kernel
theorem dX10_does_47 : decode cX10_does 47 = .ok (.ireturn, 1) := by decide +kernel
theorem dX10_does_48 : decode cX10_does 48 = .ok (.aload_n 0, 1) := by decide +kernel
theorem dX10_does_49 : decode cX10_does 49 = .ok (.iload_n 1, 1) := by decide +kernel
theorem dX10_does_50 : decode cX10_does 50 = .ok (.iload_n 2, 1) := by decide +kernel
theorem dX10_does_51 : decode cX10_does 51 = .ok (.iload_n 3, 1) := by decide +kernel
theorem dX10_does_52 : decode cX10_does 52 = .ok (.invokevirtual 368, 3) := by decide +kernel
theorem dX10_does_55 : decode cX10_does 55 = .ok (.ireturn, 1) := by decide +kernel
theorem dX10_meet_0 : decode cX10_meet 0 = .ok (.aload_n 0, 1) := by decide +kernel
theorem dX10_meet_1 : decode cX10_meet 1 = .ok (.iload_n 1, 1) := by decide +kernel
theorem dX10_meet_2 : decode cX10_meet 2 = .ok (.iload_n 2, 1) := by decide +kernel
theorem dX10_meet_3 : decode cX10_meet 3 = .ok (.invokevirtual 315, 3) := by decide +kernel
theorem dX10_meet_6 : decode cX10_meet 6 = .ok (.ifCond .ne 6, 3) := by decide +kernel
theorem dX10_meet_9 : decode cX10_meet 9 = .ok (.bipush (-2), 2) := by decide +kernel
theorem dX10_meet_11 : decode cX10_meet 11 = .ok (.ireturn, 1) := by decide +kernel
theorem dX10_meet_12 : decode cX10_meet 12 = .ok (.aload_n 0, 1) := by decide +kernel
theorem dX10_meet_13 : decode cX10_meet 13 = .ok (.getfield 13, 3) := by decide +kernel
theorem dX10_meet_16 : decode cX10_meet 16 = .ok (.bipush 8, 2) := by decide +kernel
theorem dX10_meet_18 : decode cX10_meet 18 = .ok (.iaload, 1) := by decide +kernel
theorem dX10_meet_19 : decode cX10_meet 19 = .ok (.sipush 600, 3) := by decide +kernel
theorem dX10_meet_22 : decode cX10_meet 22 = .ok (.if_icmp .ne 6, 3) := by decide +kernel
theorem dX10_meet_25 : decode cX10_meet 25 = .ok (.bipush (-3), 2) := by decide +kernel
theorem dX10_meet_27 : decode cX10_meet 27 = .ok (.ireturn, 1) := by decide +kernel
theorem dX10_meet_28 : decode cX10_meet 28 = .ok (.aload_n 0, 1) := by decide +kernel
theorem dX10_meet_29 : decode cX10_meet 29 = .ok (.iload_n 1, 1) := by decide +kernel
theorem dX10_meet_30 : decode cX10_meet 30 = .ok (.iload_n 2, 1) := by decide +kernel
theorem dX10_meet_31 : decode cX10_meet 31 = .ok (.invokevirtual 304, 3) := by decide +kernel
theorem dX10_meet_34 : decode cX10_meet 34 = .ok (.ifCond .eq 7, 3) := by decide +kernel
theorem dX10_meet_37 : decode cX10_meet 37 = .ok (.iconst 0, 1) := by decide +kernel
theorem dX10_meet_38 : decode cX10_meet 38 = .ok (.goto 4, 3) := by decide +kernel
theorem dX10_meet_41 : decode cX10_meet 41 = .ok (.iconst 1, 1) := by decide +kernel
theorem dX10_meet_42 : decode cX10_meet 42 = .ok (.istore_n 3, 1) := by decide +kernel
theorem dX10_meet_43 : decode cX10_meet 43 = .ok (.aload_n 0, 1) := by decide +kernel
theorem dX10_meet_44 : decode cX10_meet 44 = .ok (.iload_n 1, 1) := by decide +kernel
theorem dX10_meet_45 : decode cX10_meet 45 = .ok (.iload_n 2, 1) := by decide +kernel
theorem dX10_meet_46 : decode cX10_meet 46 = .ok (.iconst 4, 1) := by decide +kernel
theorem dX10_meet_47 : decode cX10_meet 47 = .ok (.invokevirtual 368, 3) := by decide +kernel
theorem dX10_meet_50 : decode cX10_meet 50 = .ok (.pop, 1) := by decide +kernel
theorem dX10_meet_51 : decode cX10_meet 51 = .ok (.iload_n 3, 1) := by decide +kernel
theorem dX10_meet_52 : decode cX10_meet 52 = .ok (.ireturn, 1) := by decide +kernel
theorem dX10_done_0 : decode cX10_done 0 = .ok (.iload_n 1, 1) := by decide +kernel
theorem dX10_done_1 : decode cX10_done 1 = .ok (.invokestatic 371, 3) := by decide +kernel
theorem dX10_done_4 : decode cX10_done 4 = .ok (.ifCond .ne 6, 3) := by decide +kernel
theorem dX10_done_7 : decode cX10_done 7 = .ok (.bipush (-2), 2) := by decide +kernel
theorem dX10_done_9 : decode cX10_done 9 = .ok (.ireturn, 1) := by decide +kernel
theorem dX10_done_10 : decode cX10_done 10 = .ok (.aload_n 0, 1) := by decide +kernel
theorem dX10_done_11 : decode cX10_done 11 = .ok (.getfield 86, 3) := by decide +kernel
theorem dX10_done_14 : decode cX10_done 14 = .ok (.iload_n 1, 1) := by decide +kernel
theorem dX10_done_15 : decode cX10_done 15 = .ok (.iaload, 1) := by decide +kernel
theorem dX10_done_16 : decode cX10_done 16 = .ok (.iconst (-1), 1) := by decide +kernel
theorem dX10_done_17 : decode cX10_done 17 = .ok (.if_icmp .ne 6, 3) := by decide +kernel
theorem dX10_done_20 : decode cX10_done 20 = .ok (.bipush (-6), 2) := by decide +kernel
theorem dX10_done_22 : decode cX10_done 22 = .ok (.ireturn, 1) := by decide +kernel
theorem dX10_done_23 : decode cX10_done 23 = .ok (.iconst 0, 1) := by decide +kernel
theorem dX10_done_24 : decode cX10_done 24 = .ok (.istore_n 2, 1) := by decide +kernel
theorem dX10_done_25 : decode cX10_done 25 = .ok (.iconst 0, 1) := by decide +kernel
theorem dX10_done_26 : decode cX10_done 26 = .ok (.istore_n 3, 1) := by decide +kernel
theorem dX10_done_27 : decode cX10_done 27 = .ok (.iload_n 3, 1) := by decide +kernel
theorem dX10_done_28 : decode cX10_done 28 = .ok (.iconst 2, 1) := by decide +kernel
theorem dX10_done_29 : decode cX10_done 29 = .ok (.iadd, 1) := by decide +kernel
theorem dX10_done_30 : decode cX10_done 30 = .ok (.aload_n 0, 1) := by decide +kernel
theorem dX10_done_31 : decode cX10_done 31 = .ok (.getfield 86, 3) := by decide +kernel
theorem dX10_done_34 : decode cX10_done 34 = .ok (.iload_n 1, 1) := by decide +kernel
theorem dX10_done_35 : decode cX10_done 35 = .ok (.iaload, 1) := by decide +kernel
theorem dX10_done_36 : decode cX10_done 36 = .ok (.if_icmp .ge 141, 3) := by decide +kernel
theorem dX10_done_39 : decode cX10_done 39 = .ok (.aload_n 0, 1) := by decide +kernel
theorem dX10_done_40 : decode cX10_done 40 = .ok (.getfield 92, 3) := by decide +kernel
theorem dX10_done_43 : decode cX10_done 43 = .ok (.bipush 60, 2) := by decide +kernel
theorem dX10_done_45 : decode cX10_done 45 = .ok (.iload_n 1, 1) := by decide +kernel
theorem dX10_done_46 : decode cX10_done 46 = .ok (.imul, 1) := by decide +kernel
theorem dX10_done_47 : decode cX10_done 47 = .ok (.iload_n 3, 1) := by decide +kernel
theorem dX10_done_48 : decode cX10_done 48 = .ok (.iadd, 1) := by decide +kernel
theorem dX10_done_49 : decode cX10_done 49 = .ok (.laload, 1) := by decide +kernel
theorem dX10_done_50 : decode cX10_done 50 = .ok (.lstore 4, 2) := by decide +kernel
theorem dX10_done_52 : decode cX10_done 52 = .ok (.aload_n 0, 1) := by decide +kernel
theorem dX10_done_53 : decode cX10_done 53 = .ok (.getfield 92, 3) := by decide +kernel
theorem dX10_done_56 : decode cX10_done 56 = .ok (.bipush 60, 2) := by decide +kernel
theorem dX10_done_58 : decode cX10_done 58 = .ok (.iload_n 1, 1) := by decide +kernel
theorem dX10_done_59 : decode cX10_done 59 = .ok (.imul, 1) := by decide +kernel
theorem dX10_done_60 : decode cX10_done 60 = .ok (.iload_n 3, 1) := by decide +kernel
theorem dX10_done_61 : decode cX10_done 61 = .ok (.iadd, 1) := by decide +kernel
theorem dX10_done_62 : decode cX10_done 62 = .ok (.iconst 1, 1) := by decide +kernel
theorem dX10_done_63 : decode cX10_done 63 = .ok (.iadd, 1) := by decide +kernel
theorem dX10_done_64 : decode cX10_done 64 = .ok (.laload, 1) := by decide +kernel
theorem dX10_done_65 : decode cX10_done 65 = .ok (.lstore 6, 2) := by decide +kernel
theorem dX10_done_67 : decode cX10_done 67 = .ok (.aload_n 0, 1) := by decide +kernel
theorem dX10_done_68 : decode cX10_done 68 = .ok (.getfield 92, 3) := by decide +kernel
theorem dX10_done_71 : decode cX10_done 71 = .ok (.bipush 60, 2) := by decide +kernel
theorem dX10_done_73 : decode cX10_done 73 = .ok (.iload_n 1, 1) := by decide +kernel
theorem dX10_done_74 : decode cX10_done 74 = .ok (.imul, 1) := by decide +kernel
theorem dX10_done_75 : decode cX10_done 75 = .ok (.iload_n 3, 1) := by decide +kernel
theorem dX10_done_76 : decode cX10_done 76 = .ok (.iadd, 1) := by decide +kernel
theorem dX10_done_77 : decode cX10_done 77 = .ok (.iconst 2, 1) := by decide +kernel
theorem dX10_done_78 : decode cX10_done 78 = .ok (.iadd, 1) := by decide +kernel
theorem dX10_done_79 : decode cX10_done 79 = .ok (.laload, 1) := by decide +kernel
theorem dX10_done_80 : decode cX10_done 80 = .ok (.lstore 8, 2) := by decide +kernel
theorem dX10_done_82 : decode cX10_done 82 = .ok (.lload 4, 2) := by decide +kernel
theorem dX10_done_84 : decode cX10_done 84 = .ok (.lconst 0, 1) := by decide +kernel
theorem dX10_done_85 : decode cX10_done 85 = .ok (.ldc2_w 374, 3) := by decide +kernel
theorem dX10_done_88 : decode cX10_done 88 = .ok (.invokestatic 101, 3) := by decide +kernel
theorem dX10_done_91 : decode cX10_done 91 = .ok (.ifCond .eq 80, 3) := by decide +kernel
theorem dX10_done_94 : decode cX10_done 94 = .ok (.lload 6, 2) := by decide +kernel
theorem dX10_done_96 : decode cX10_done 96 = .ok (.lconst 0, 1) := by decide +kernel
theorem dX10_done_97 : decode cX10_done 97 = .ok (.ldc2_w 374, 3) := by decide +kernel
theorem dX10_done_100 : decode cX10_done 100 = .ok (.invokestatic 101, 3) := by decide +kernel
theorem dX10_done_103 : decode cX10_done 103 = .ok (.ifCond .eq 68, 3) := by decide +kernel
theorem dX10_done_106 : decode cX10_done 106 = .ok (.lload 8, 2) := by decide +kernel
theorem dX10_done_108 : decode cX10_done 108 = .ok (.lconst 0, 1) := by decide +kernel
theorem dX10_done_109 : decode cX10_done 109 = .ok (.ldc2_w 376, 3) := by decide +kernel
theorem dX10_done_112 : decode cX10_done 112 = .ok (.invokestatic 101, 3) := by decide +kernel
theorem dX10_done_115 : decode cX10_done 115 = .ok (.ifCond .ne 6, 3) := by decide +kernel
theorem dX10_done_118 : decode cX10_done 118 = .ok (.goto 53, 3) := by decide +kernel
theorem dX10_done_121 : decode cX10_done 121 = .ok (.lload 8, 2) := by decide +kernel
theorem dX10_done_123 : decode cX10_done 123 = .ok (.ldc2_w 376, 3) := by decide +kernel
theorem dX10_done_126 : decode cX10_done 126 = .ok (.lcmp, 1) := by decide +kernel
theorem dX10_done_127 : decode cX10_done 127 = .ok (.ifCond .ne 16, 3) := by decide +kernel
theorem dX10_done_130 : decode cX10_done 130 = .ok (.aload_n 0, 1) := by decide +kernel
theorem dX10_done_131 : decode cX10_done 131 = .ok (.lload 4, 2) := by decide +kernel
theorem dX10_done_133 : decode cX10_done 133 = .ok (.l2i, 1) := by decide +kernel
theorem dX10_done_134 : decode cX10_done 134 = .ok (.lload 6, 2) := by decide +kernel
theorem dX10_done_136 : decode cX10_done 136 = .ok (.l2i, 1) := by decide +kernel
theorem dX10_done_137 : decode cX10_done 137 = .ok (.invokevirtual 378, 3) := by decide +kernel
theorem dX10_done_140 : decode cX10_done 140 = .ok (.goto 16, 3) := by decide +kernel
theorem dX10_done_143 : decode cX10_done 143 = .ok (.aload_n 0, 1) := by decide +kernel
theorem dX10_done_144 : decode cX10_done 144 = .ok (.lload 4, 2) := by decide +kernel
theorem dX10_done_146 : decode cX10_done 146 = .ok (.l2i, 1) := by decide +kernel
theorem dX10_done_147 : decode cX10_done 147 = .ok (.lload 6, 2) := by decide +kernel
theorem dX10_done_149 : decode cX10_done 149 = .ok (.l2i, 1) := by decide +kernel
theorem dX10_done_150 : decode cX10_done 150 = .ok (.lload 8, 2) := by decide +kernel
theorem dX10_done_152 : decode cX10_done 152 = .ok (.l2i, 1) := by decide +kernel
theorem dX10_done_153 : decode cX10_done 153 = .ok (.invokevirtual 381, 3) := by decide +kernel
theorem dX10_done_156 : decode cX10_done 156 = .ok (.istore 10, 2) := by decide +kernel
theorem dX10_done_158 : decode cX10_done 158 = .ok (.iload_n 2, 1) := by decide +kernel
theorem dX10_done_159 : decode cX10_done 159 = .ok (.iload 10, 2) := by decide +kernel
theorem dX10_done_161 : decode cX10_done 161 = .ok (.ifCond .lt 7, 3) := by decide +kernel
theorem dX10_done_164 : decode cX10_done 164 = .ok (.iconst 1, 1) := by decide +kernel
theorem dX10_done_165 : decode cX10_done 165 = .ok (.goto 4, 3) := by decide +kernel
theorem dX10_done_168 : decode cX10_done 168 = .ok (.iconst 0, 1) := by decide +kernel
theorem dX10_done_169 : decode cX10_done 169 = .ok (.iadd, 1) := by decide +kernel
theorem dX10_done_170 : decode cX10_done 170 = .ok (.istore_n 2, 1) := by decide +kernel
theorem dX10_done_171 : decode cX10_done 171 = .ok (.iinc 3 3, 3) := by decide +kernel
theorem dX10_done_174 : decode cX10_done 174 = .ok (.goto (-147), 3) := by decide +kernel
theorem dX10_done_177 : decode cX10_done 177 = .ok (.iload_n 2, 1) := by decide +kernel
theorem dX10_done_178 : decode cX10_done 178 = .ok (.ireturn, 1) := by decide +kernel
theorem dX10_debts_0 : decode cX10_debts 0 = .ok (.aload_n 0, 1) := by decide +kernel
theorem dX10_debts_1 : decode cX10_debts 1 = .ok (.iload_n 1, 1) := by decide +kernel
theorem dX10_debts_2 : decode cX10_debts 2 = .ok (.invokevirtual 105, 3) := by decide +kernel
theorem dX10_debts_5 : decode cX10_debts 5 = .ok (.ifCond .eq 11, 3) := by decide +kernel
theorem dX10_debts_8 : decode cX10_debts 8 = .ok (.aload_n 0, 1) := by decide +kernel
theorem dX10_debts_9 : decode cX10_debts 9 = .ok (.iload_n 1, 1) := by decide +kernel
theorem dX10_debts_10 : decode cX10_debts 10 = .ok (.invokevirtual 339, 3) := by decide +kernel
theorem dX10_debts_13 : decode cX10_debts 13 = .ok (.goto 5, 3) := by decide +kernel
theorem dX10_debts_16 : decode cX10_debts 16 = .ok (.bipush (-2), 2) := by decide +kernel
theorem dX10_debts_18 : decode cX10_debts 18 = .ok (.ireturn, 1) := by decide +kernel
theorem dX10_debt_0 : decode cX10_debt 0 = .ok (.aload_n 0, 1) := by decide +kernel
theorem dX10_debt_1 : decode cX10_debt 1 = .ok (.iload_n 1, 1) := by decide +kernel
theorem dX10_debt_2 : decode cX10_debt 2 = .ok (.invokevirtual 105, 3) := by decide +kernel
theorem dX10_debt_5 : decode cX10_debt 5 = .ok (.ifCond .eq 19, 3) := by decide +kernel
theorem dX10_debt_8 : decode cX10_debt 8 = .ok (.iload_n 2, 1) := by decide +kernel
theorem dX10_debt_9 : decode cX10_debt 9 = .ok (.ifCond .lt 15, 3) := by decide +kernel
theorem dX10_debt_12 : decode cX10_debt 12 = .ok (.iload_n 3, 1) := by decide +kernel
theorem dX10_debt_13 : decode cX10_debt 13 = .ok (.i2l, 1) := by decide +kernel
theorem dX10_debt_14 : decode cX10_debt 14 = .ok (.lconst 0, 1) := by decide +kernel
theorem dX10_debt_15 : decode cX10_debt 15 = .ok (.ldc2_w 313, 3) := by decide +kernel
theorem dX10_debt_18 : decode cX10_debt 18 = .ok (.invokestatic 101, 3) := by decide +kernel
theorem dX10_debt_21 : decode cX10_debt 21 = .ok (.ifCond .ne 5, 3) := by decide +kernel
theorem dX10_debt_24 : decode cX10_debt 24 = .ok (.iconst (-1), 1) := by decide +kernel
theorem dX10_debt_25 : decode cX10_debt 25 = .ok (.ireturn, 1) := by decide +kernel
theorem dX10_debt_26 : decode cX10_debt 26 = .ok (.aload_n 0, 1) := by decide +kernel
theorem dX10_debt_27 : decode cX10_debt 27 = .ok (.iload_n 1, 1) := by decide +kernel
theorem dX10_debt_28 : decode cX10_debt 28 = .ok (.iload_n 2, 1) := by decide +kernel
theorem dX10_debt_29 : decode cX10_debt 29 = .ok (.invokevirtual 384, 3) := by decide +kernel
theorem dX10_debt_32 : decode cX10_debt 32 = .ok (.istore 4, 2) := by decide +kernel
theorem dX10_debt_34 : decode cX10_debt 34 = .ok (.iload 4, 2) := by decide +kernel
theorem dX10_debt_36 : decode cX10_debt 36 = .ok (.iconst (-1), 1) := by decide +kernel
theorem dX10_debt_37 : decode cX10_debt 37 = .ok (.if_icmp .ne 7, 3) := by decide +kernel
theorem dX10_debt_40 : decode cX10_debt 40 = .ok (.iconst (-1), 1) := by decide +kernel
theorem dX10_debt_41 : decode cX10_debt 41 = .ok (.goto 12, 3) := by decide +kernel
theorem dX10_debt_44 : decode cX10_debt 44 = .ok (.aload_n 0, 1) := by decide +kernel
theorem dX10_debt_45 : decode cX10_debt 45 = .ok (.iload 4, 2) := by decide +kernel
theorem dX10_debt_47 : decode cX10_debt 47 = .ok (.iload_n 3, 1) := by decide +kernel
theorem dX10_debt_48 : decode cX10_debt 48 = .ok (.iconst 1, 1) := by decide +kernel
theorem dX10_debt_49 : decode cX10_debt 49 = .ok (.iadd, 1) := by decide +kernel
theorem dX10_debt_50 : decode cX10_debt 50 = .ok (.invokevirtual 325, 3) := by decide +kernel
theorem dX10_debt_53 : decode cX10_debt 53 = .ok (.ireturn, 1) := by decide +kernel
theorem dX10_slights_0 : decode cX10_slights 0 = .ok (.aload_n 0, 1) := by decide +kernel
theorem dX10_slights_1 : decode cX10_slights 1 = .ok (.iload_n 1, 1) := by decide +kernel
theorem dX10_slights_2 : decode cX10_slights 2 = .ok (.invokevirtual 105, 3) := by decide +kernel
theorem dX10_slights_5 : decode cX10_slights 5 = .ok (.ifCond .eq 11, 3) := by decide +kernel
theorem dX10_slights_8 : decode cX10_slights 8 = .ok (.aload_n 0, 1) := by decide +kernel
theorem dX10_slights_9 : decode cX10_slights 9 = .ok (.iload_n 1, 1) := by decide +kernel
theorem dX10_slights_10 : decode cX10_slights 10 = .ok (.invokevirtual 387, 3) := by decide +kernel
theorem dX10_slights_13 : decode cX10_slights 13 = .ok (.goto 5, 3) := by decide +kernel
theorem dX10_slights_16 : decode cX10_slights 16 = .ok (.bipush (-2), 2) := by decide +kernel
theorem dX10_slights_18 : decode cX10_slights 18 = .ok (.ireturn, 1) := by decide +kernel
theorem dX10_first_0 : decode cX10_first 0 = .ok (.iconst (-1), 1) := by decide +kernel
theorem dX10_first_1 : decode cX10_first 1 = .ok (.istore_n 1, 1) := by decide +kernel
theorem dX10_first_2 : decode cX10_first 2 = .ok (.iconst 0, 1) := by decide +kernel
theorem dX10_first_3 : decode cX10_first 3 = .ok (.istore_n 2, 1) := by decide +kernel
theorem dX10_first_4 : decode cX10_first 4 = .ok (.iconst 0, 1) := by decide +kernel
theorem dX10_first_5 : decode cX10_first 5 = .ok (.istore_n 3, 1) := by decide +kernel
theorem dX10_first_6 : decode cX10_first 6 = .ok (.iload_n 3, 1) := by decide +kernel
theorem dX10_first_7 : decode cX10_first 7 = .ok (.aload_n 0, 1) := by decide +kernel
theorem dX10_first_8 : decode cX10_first 8 = .ok (.getfield 13, 3) := by decide +kernel
theorem dX10_first_11 : decode cX10_first 11 = .ok (.iconst 0, 1) := by decide +kernel
theorem dX10_first_12 : decode cX10_first 12 = .ok (.iaload, 1) := by decide +kernel
theorem dX10_first_13 : decode cX10_first 13 = .ok (.if_icmp .ge 56, 3) := by decide +kernel
theorem dX10_first_16 : decode cX10_first 16 = .ok (.aload_n 0, 1) := by decide +kernel
theorem dX10_first_17 : decode cX10_first 17 = .ok (.iload_n 3, 1) := by decide +kernel
theorem dX10_first_18 : decode cX10_first 18 = .ok (.invokevirtual 387, 3) := by decide +kernel
theorem dX10_first_21 : decode cX10_first 21 = .ok (.istore 4, 2) := by decide +kernel
theorem dX10_first_23 : decode cX10_first 23 = .ok (.iload 4, 2) := by decide +kernel
theorem dX10_first_25 : decode cX10_first 25 = .ok (.ifCond .eq 38, 3) := by decide +kernel
theorem dX10_first_28 : decode cX10_first 28 = .ok (.iload 4, 2) := by decide +kernel
theorem dX10_first_30 : decode cX10_first 30 = .ok (.iload_n 2, 1) := by decide +kernel
theorem dX10_first_31 : decode cX10_first 31 = .ok (.if_icmp .lt 32, 3) := by decide +kernel
theorem dX10_first_34 : decode cX10_first 34 = .ok (.iload 4, 2) := by decide +kernel
theorem dX10_first_36 : decode cX10_first 36 = .ok (.iload_n 2, 1) := by decide +kernel
theorem dX10_first_37 : decode cX10_first 37 = .ok (.if_icmp .ne 21, 3) := by decide +kernel
theorem dX10_first_40 : decode cX10_first 40 = .ok (.aload_n 0, 1) := by decide +kernel
theorem dX10_first_41 : decode cX10_first 41 = .ok (.iload_n 3, 1) := by decide +kernel
theorem dX10_first_42 : decode cX10_first 42 = .ok (.iconst 2, 1) := by decide +kernel
theorem dX10_first_43 : decode cX10_first 43 = .ok (.invokevirtual 286, 3) := by decide +kernel
theorem dX10_first_46 : decode cX10_first 46 = .ok (.aload_n 0, 1) := by decide +kernel
theorem dX10_first_47 : decode cX10_first 47 = .ok (.iload_n 1, 1) := by decide +kernel
theorem dX10_first_48 : decode cX10_first 48 = .ok (.iconst 2, 1) := by decide +kernel
theorem dX10_first_49 : decode cX10_first 49 = .ok (.invokevirtual 286, 3) := by decide +kernel
theorem dX10_first_52 : decode cX10_first 52 = .ok (.if_icmp .gt 6, 3) := by decide +kernel
theorem dX10_first_55 : decode cX10_first 55 = .ok (.goto 8, 3) := by decide +kernel
theorem dX10_first_58 : decode cX10_first 58 = .ok (.iload_n 3, 1) := by decide +kernel
theorem dX10_first_59 : decode cX10_first 59 = .ok (.istore_n 1, 1) := by decide +kernel
theorem dX10_first_60 : decode cX10_first 60 = .ok (.iload 4, 2) := by decide +kernel
theorem dX10_first_62 : decode cX10_first 62 = .ok (.istore_n 2, 1) := by decide +kernel
theorem dX10_first_63 : decode cX10_first 63 = .ok (.iinc 3 1, 3) := by decide +kernel
theorem dX10_first_66 : decode cX10_first 66 = .ok (.goto (-60), 3) := by decide +kernel
theorem dX10_first_69 : decode cX10_first 69 = .ok (.iload_n 1, 1) := by decide +kernel
theorem dX10_first_70 : decode cX10_first 70 = .ok (.ireturn, 1) := by decide +kernel
theorem dX10_owes_0 : decode cX10_owes 0 = .ok (.aload_n 0, 1) := by decide +kernel
theorem dX10_owes_1 : decode cX10_owes 1 = .ok (.iload_n 1, 1) := by decide +kernel
theorem dX10_owes_2 : decode cX10_owes 2 = .ok (.iload_n 2, 1) := by decide +kernel
theorem dX10_owes_3 : decode cX10_owes 3 = .ok (.invokevirtual 315, 3) := by decide +kernel
theorem dX10_owes_6 : decode cX10_owes 6 = .ok (.ifCond .eq 10, 3) := by decide +kernel
theorem dX10_owes_9 : decode cX10_owes 9 = .ok (.iload_n 3, 1) := by decide +kernel
theorem dX10_owes_10 : decode cX10_owes 10 = .ok (.invokestatic 318, 3) := by decide +kernel
theorem dX10_owes_13 : decode cX10_owes 13 = .ok (.ifCond .ne 6, 3) := by decide +kernel
theorem dX10_owes_16 : decode cX10_owes 16 = .ok (.bipush (-2), 2) := by decide +kernel
theorem dX10_owes_18 : decode cX10_owes 18 = .ok (.ireturn, 1) := by decide +kernel
theorem dX10_owes_19 : decode cX10_owes 19 = .ok (.aload_n 0, 1) := by decide +kernel
theorem dX10_owes_20 : decode cX10_owes 20 = .ok (.iload_n 1, 1) := by decide +kernel
theorem dX10_owes_21 : decode cX10_owes 21 = .ok (.iload_n 2, 1) := by decide +kernel
theorem dX10_owes_22 : decode cX10_owes 22 = .ok (.iload_n 3, 1) := by decide +kernel
theorem dX10_owes_23 : decode cX10_owes 23 = .ok (.aload_n 0, 1) := by decide +kernel
theorem dX10_owes_24 : decode cX10_owes 24 = .ok (.iload_n 1, 1) := by decide +kernel
theorem dX10_owes_25 : decode cX10_owes 25 = .ok (.iload_n 2, 1) := by decide +kernel
theorem dX10_owes_26 : decode cX10_owes 26 = .ok (.invokevirtual 304, 3) := by decide +kernel
theorem dX10_owes_29 : decode cX10_owes 29 = .ok (.aload_n 0, 1) := by decide +kernel
theorem dX10_owes_30 : decode cX10_owes 30 = .ok (.invokevirtual 291, 3) := by decide +kernel
theorem dX10_owes_33 : decode cX10_owes 33 = .ok (.invokevirtual 352, 3) := by decide +kernel
theorem dX10_owes_36 : decode cX10_owes 36 = .ok (.istore 4, 2) := by decide +kernel
theorem dX10_owes_38 : decode cX10_owes 38 = .ok (.iload 4, 2) := by decide +kernel
theorem dX10_owes_40 : decode cX10_owes 40 = .ok (.iconst (-1), 1) := by decide +kernel
theorem dX10_owes_41 : decode cX10_owes 41 = .ok (.if_icmp .ne 5, 3) := by decide +kernel
theorem dX10_owes_44 : decode cX10_owes 44 = .ok (.iconst (-1), 1) := by decide +kernel
theorem dX10_owes_45 : decode cX10_owes 45 = .ok (.ireturn, 1) := by decide +kernel
theorem dX10_owes_46 : decode cX10_owes 46 = .ok (.aload_n 0, 1) := by decide +kernel
theorem dX10_owes_47 : decode cX10_owes 47 = .ok (.getfield 13, 3) := by decide +kernel
theorem dX10_owes_50 : decode cX10_owes 50 = .ok (.sipush 154, 3) := by decide +kernel
theorem dX10_owes_53 : decode cX10_owes 53 = .ok (.iconst 5, 1) := by decide +kernel
theorem dX10_owes_54 : decode cX10_owes 54 = .ok (.iload 4, 2) := by decide +kernel
theorem dX10_owes_56 : decode cX10_owes 56 = .ok (.imul, 1) := by decide +kernel
theorem dX10_owes_57 : decode cX10_owes 57 = .ok (.iadd, 1) := by decide +kernel
theorem dX10_owes_58 : decode cX10_owes 58 = .ok (.iconst 1, 1) := by decide +kernel
theorem dX10_owes_59 : decode cX10_owes 59 = .ok (.iadd, 1) := by decide +kernel
theorem dX10_owes_60 : decode cX10_owes 60 = .ok (.iaload, 1) := by decide +kernel
theorem dX10_owes_61 : decode cX10_owes 61 = .ok (.istore 5, 2) := by decide +kernel
theorem dX10_owes_63 : decode cX10_owes 63 = .ok (.aload_n 0, 1) := by decide +kernel
theorem dX10_owes_64 : decode cX10_owes 64 = .ok (.iload_n 2, 1) := by decide +kernel
theorem dX10_owes_65 : decode cX10_owes 65 = .ok (.iload_n 1, 1) := by decide +kernel
theorem dX10_owes_66 : decode cX10_owes 66 = .ok (.iload 5, 2) := by decide +kernel
theorem dX10_owes_68 : decode cX10_owes 68 = .ok (.invokevirtual 356, 3) := by decide +kernel
theorem dX10_owes_71 : decode cX10_owes 71 = .ok (.ifCond .eq 7, 3) := by decide +kernel
theorem dX10_owes_74 : decode cX10_owes 74 = .ok (.iconst (-1), 1) := by decide +kernel
theorem dX10_owes_75 : decode cX10_owes 75 = .ok (.goto 5, 3) := by decide +kernel
theorem dX10_owes_78 : decode cX10_owes 78 = .ok (.iload 5, 2) := by decide +kernel
theorem dX10_owes_80 : decode cX10_owes 80 = .ok (.ireturn, 1) := by decide +kernel
theorem dX10_isRound_0 : decode cX10_isRound 0 = .ok (.aload_n 0, 1) := by decide +kernel
theorem dX10_isRound_1 : decode cX10_isRound 1 = .ok (.iload_n 1, 1) := by decide +kernel
theorem dX10_isRound_2 : decode cX10_isRound 2 = .ok (.invokevirtual 105, 3) := by decide +kernel
theorem dX10_isRound_5 : decode cX10_isRound 5 = .ok (.ifCond .eq 23, 3) := by decide +kernel
theorem dX10_isRound_8 : decode cX10_isRound 8 = .ok (.iload_n 2, 1) := by decide +kernel
theorem dX10_isRound_9 : decode cX10_isRound 9 = .ok (.i2l, 1) := by decide +kernel
theorem dX10_isRound_10 : decode cX10_isRound 10 = .ok (.aload_n 0, 1) := by decide +kernel
theorem dX10_isRound_11 : decode cX10_isRound 11 = .ok (.invokevirtual 291, 3) := by decide +kernel
theorem dX10_isRound_14 : decode cX10_isRound 14 = .ok (.i2l, 1) := by decide +kernel
theorem dX10_isRound_15 : decode cX10_isRound 15 = .ok (.ldc2_w 427, 3) := by decide +kernel
theorem dX10_isRound_18 : decode cX10_isRound 18 = .ok (.invokestatic 101, 3) := by decide +kernel
theorem dX10_isRound_21 : decode cX10_isRound 21 = .ok (.ifCond .eq 7, 3) := by decide +kernel
theorem dX10_isRound_24 : decode cX10_isRound 24 = .ok (.iconst 1, 1) := by decide +kernel
theorem dX10_isRound_25 : decode cX10_isRound 25 = .ok (.goto 4, 3) := by decide +kernel
theorem dX10_isRound_28 : decode cX10_isRound 28 = .ok (.iconst 0, 1) := by decide +kernel
theorem dX10_isRound_29 : decode cX10_isRound 29 = .ok (.ireturn, 1) := by decide +kernel
theorem dX10_worth_0 : decode cX10_worth 0 = .ok (.aload_n 0, 1) := by decide +kernel
theorem dX10_worth_1 : decode cX10_worth 1 = .ok (.iload_n 1, 1) := by decide +kernel
theorem dX10_worth_2 : decode cX10_worth 2 = .ok (.iload_n 2, 1) := by decide +kernel
theorem dX10_worth_3 : decode cX10_worth 3 = .ok (.invokevirtual 429, 3) := by decide +kernel
theorem dX10_worth_6 : decode cX10_worth 6 = .ok (.ifCond .ne 6, 3) := by decide +kernel
theorem dX10_worth_9 : decode cX10_worth 9 = .ok (.bipush (-2), 2) := by decide +kernel
theorem dX10_worth_11 : decode cX10_worth 11 = .ok (.ireturn, 1) := by decide +kernel
theorem dX10_worth_12 : decode cX10_worth 12 = .ok (.aload_n 0, 1) := by decide +kernel
theorem dX10_worth_13 : decode cX10_worth 13 = .ok (.iload_n 1, 1) := by decide +kernel
theorem dX10_worth_14 : decode cX10_worth 14 = .ok (.iload_n 2, 1) := by decide +kernel
theorem dX10_worth_15 : decode cX10_worth 15 = .ok (.invokevirtual 432, 3) := by decide +kernel
theorem dX10_worth_18 : decode cX10_worth 18 = .ok (.aload_n 0, 1) := by decide +kernel
theorem dX10_worth_19 : decode cX10_worth 19 = .ok (.getfield 421, 3) := by decide +kernel
theorem dX10_worth_22 : decode cX10_worth 22 = .ok (.ireturn, 1) := by decide +kernel
theorem dX10_over_0 : decode cX10_over 0 = .ok (.aload_n 0, 1) := by decide +kernel
theorem dX10_over_1 : decode cX10_over 1 = .ok (.iload_n 1, 1) := by decide +kernel
theorem dX10_over_2 : decode cX10_over 2 = .ok (.iload_n 2, 1) := by decide +kernel
theorem dX10_over_3 : decode cX10_over 3 = .ok (.invokevirtual 429, 3) := by decide +kernel
theorem dX10_over_6 : decode cX10_over 6 = .ok (.ifCond .ne 6, 3) := by decide +kernel
theorem dX10_over_9 : decode cX10_over 9 = .ok (.bipush (-2), 2) := by decide +kernel
theorem dX10_over_11 : decode cX10_over 11 = .ok (.ireturn, 1) := by decide +kernel
theorem dX10_over_12 : decode cX10_over 12 = .ok (.aload_n 0, 1) := by decide +kernel
theorem dX10_over_13 : decode cX10_over 13 = .ok (.iload_n 1, 1) := by decide +kernel
theorem dX10_over_14 : decode cX10_over 14 = .ok (.iload_n 2, 1) := by decide +kernel
theorem dX10_over_15 : decode cX10_over 15 = .ok (.invokevirtual 432, 3) := by decide +kernel
theorem dX10_over_18 : decode cX10_over 18 = .ok (.aload_n 0, 1) := by decide +kernel
theorem dX10_over_19 : decode cX10_over 19 = .ok (.getfield 418, 3) := by decide +kernel
theorem dX10_over_22 : decode cX10_over 22 = .ok (.ireturn, 1) := by decide +kernel
theorem dX10_round_0 : decode cX10_round 0 = .ok (.aload_n 0, 1) := by decide +kernel
theorem dX10_round_1 : decode cX10_round 1 = .ok (.iload_n 1, 1) := by decide +kernel
theorem dX10_round_2 : decode cX10_round 2 = .ok (.iload_n 2, 1) := by decide +kernel
theorem dX10_round_3 : decode cX10_round 3 = .ok (.invokevirtual 429, 3) := by decide +kernel
theorem dX10_round_6 : decode cX10_round 6 = .ok (.ifCond .ne 6, 3) := by decide +kernel
theorem dX10_round_9 : decode cX10_round 9 = .ok (.bipush (-2), 2) := by decide +kernel
theorem dX10_round_11 : decode cX10_round 11 = .ok (.ireturn, 1) := by decide +kernel
theorem dX10_round_12 : decode cX10_round 12 = .ok (.aload_n 0, 1) := by decide +kernel
theorem dX10_round_13 : decode cX10_round 13 = .ok (.iload_n 1, 1) := by decide +kernel
theorem dX10_round_14 : decode cX10_round 14 = .ok (.iload_n 2, 1) := by decide +kernel
theorem dX10_round_15 : decode cX10_round 15 = .ok (.invokevirtual 432, 3) := by decide +kernel
theorem dX10_round_18 : decode cX10_round 18 = .ok (.aload_n 0, 1) := by decide +kernel
theorem dX10_round_19 : decode cX10_round 19 = .ok (.getfield 415, 3) := by decide +kernel
theorem dX10_round_22 : decode cX10_round 22 = .ok (.invokestatic 298, 3) := by decide +kernel
theorem dX10_round_25 : decode cX10_round 25 = .ok (.istore 4, 2) := by decide +kernel
theorem dX10_round_27 : decode cX10_round 27 = .ok (.iload_n 3, 1) := by decide +kernel
theorem dX10_round_28 : decode cX10_round 28 = .ok (.i2l, 1) := by decide +kernel
theorem dX10_round_29 : decode cX10_round 29 = .ok (.lconst 0, 1) := by decide +kernel
theorem dX10_round_30 : decode cX10_round 30 = .ok (.iload 4, 2) := by decide +kernel
theorem dX10_round_32 : decode cX10_round 32 = .ok (.iconst 1, 1) := by decide +kernel
theorem dX10_round_33 : decode cX10_round 33 = .ok (.isub, 1) := by decide +kernel
theorem dX10_round_34 : decode cX10_round 34 = .ok (.i2l, 1) := by decide +kernel
theorem dX10_round_35 : decode cX10_round 35 = .ok (.invokestatic 101, 3) := by decide +kernel
theorem dX10_round_38 : decode cX10_round 38 = .ok (.ifCond .ne 5, 3) := by decide +kernel
theorem dX10_round_41 : decode cX10_round 41 = .ok (.iconst (-1), 1) := by decide +kernel
theorem dX10_round_42 : decode cX10_round 42 = .ok (.ireturn, 1) := by decide +kernel
theorem dX10_round_43 : decode cX10_round 43 = .ok (.aload_n 0, 1) := by decide +kernel
theorem dX10_round_44 : decode cX10_round 44 = .ok (.iload_n 1, 1) := by decide +kernel
theorem dX10_round_45 : decode cX10_round 45 = .ok (.iload_n 2, 1) := by decide +kernel
theorem dX10_round_46 : decode cX10_round 46 = .ok (.invokevirtual 435, 3) := by decide +kernel
theorem dX10_round_49 : decode cX10_round 49 = .ok (.aload_n 0, 1) := by decide +kernel
theorem dX10_round_50 : decode cX10_round 50 = .ok (.getfield 52, 3) := by decide +kernel
theorem dX10_round_53 : decode cX10_round 53 = .ok (.iload_n 3, 1) := by decide +kernel
theorem dX10_round_54 : decode cX10_round 54 = .ok (.iaload, 1) := by decide +kernel
theorem dX10_round_55 : decode cX10_round 55 = .ok (.ireturn, 1) := by decide +kernel
theorem dX10_may_0 : decode cX10_may 0 = .ok (.iload_n 1, 1) := by decide +kernel
theorem dX10_may_1 : decode cX10_may 1 = .ok (.invokestatic 371, 3) := by decide +kernel
theorem dX10_may_4 : decode cX10_may 4 = .ok (.ifCond .eq 12, 3) := by decide +kernel
theorem dX10_may_7 : decode cX10_may 7 = .ok (.aload_n 0, 1) := by decide +kernel
theorem dX10_may_8 : decode cX10_may 8 = .ok (.iload_n 2, 1) := by decide +kernel
theorem dX10_may_9 : decode cX10_may 9 = .ok (.iload_n 3, 1) := by decide +kernel
theorem dX10_may_10 : decode cX10_may 10 = .ok (.invokevirtual 429, 3) := by decide +kernel
theorem dX10_may_13 : decode cX10_may 13 = .ok (.ifCond .ne 6, 3) := by decide +kernel
theorem dX10_may_16 : decode cX10_may 16 = .ok (.bipush (-2), 2) := by decide +kernel
theorem dX10_may_18 : decode cX10_may 18 = .ok (.ireturn, 1) := by decide +kernel
theorem dX10_may_19 : decode cX10_may 19 = .ok (.aload_n 0, 1) := by decide +kernel
theorem dX10_may_20 : decode cX10_may 20 = .ok (.getfield 86, 3) := by decide +kernel
theorem dX10_may_23 : decode cX10_may 23 = .ok (.iload_n 1, 1) := by decide +kernel
theorem dX10_may_24 : decode cX10_may 24 = .ok (.iaload, 1) := by decide +kernel
theorem dX10_may_25 : decode cX10_may 25 = .ok (.iconst (-1), 1) := by decide +kernel
theorem dX10_may_26 : decode cX10_may 26 = .ok (.if_icmp .ne 6, 3) := by decide +kernel
theorem dX10_may_29 : decode cX10_may 29 = .ok (.bipush (-6), 2) := by decide +kernel
theorem dX10_may_31 : decode cX10_may 31 = .ok (.ireturn, 1) := by decide +kernel
theorem dX10_may_32 : decode cX10_may 32 = .ok (.aload_n 0, 1) := by decide +kernel
theorem dX10_may_33 : decode cX10_may 33 = .ok (.iload_n 2, 1) := by decide +kernel
theorem dX10_may_34 : decode cX10_may 34 = .ok (.invokevirtual 390, 3) := by decide +kernel
theorem dX10_may_37 : decode cX10_may 37 = .ok (.iconst 0, 1) := by decide +kernel
theorem dX10_may_38 : decode cX10_may 38 = .ok (.istore 4, 2) := by decide +kernel
theorem dX10_may_40 : decode cX10_may 40 = .ok (.iload_n 2, 1) := by decide +kernel
theorem dX10_may_41 : decode cX10_may 41 = .ok (.istore 5, 2) := by decide +kernel
theorem dX10_may_43 : decode cX10_may 43 = .ok (.iconst 0, 1) := by decide +kernel
theorem dX10_may_44 : decode cX10_may 44 = .ok (.istore 6, 2) := by decide +kernel
theorem dX10_may_46 : decode cX10_may 46 = .ok (.iconst 0, 1) := by decide +kernel
theorem dX10_may_47 : decode cX10_may 47 = .ok (.istore 7, 2) := by decide +kernel
theorem dX10_may_49 : decode cX10_may 49 = .ok (.iload 7, 2) := by decide +kernel
theorem dX10_may_51 : decode cX10_may 51 = .ok (.aload_n 0, 1) := by decide +kernel
theorem dX10_may_52 : decode cX10_may 52 = .ok (.getfield 86, 3) := by decide +kernel
theorem dX10_may_55 : decode cX10_may 55 = .ok (.iload_n 1, 1) := by decide +kernel
theorem dX10_may_56 : decode cX10_may 56 = .ok (.iaload, 1) := by decide +kernel
theorem dX10_may_57 : decode cX10_may 57 = .ok (.if_icmp .ge 104, 3) := by decide +kernel
theorem dX10_may_60 : decode cX10_may 60 = .ok (.aload_n 0, 1) := by decide +kernel
theorem dX10_may_61 : decode cX10_may 61 = .ok (.getfield 92, 3) := by decide +kernel
theorem dX10_may_64 : decode cX10_may 64 = .ok (.bipush 60, 2) := by decide +kernel
theorem dX10_may_66 : decode cX10_may 66 = .ok (.iload_n 1, 1) := by decide +kernel
theorem dX10_may_67 : decode cX10_may 67 = .ok (.imul, 1) := by decide +kernel
theorem dX10_may_68 : decode cX10_may 68 = .ok (.iload 7, 2) := by decide +kernel
theorem dX10_may_70 : decode cX10_may 70 = .ok (.iadd, 1) := by decide +kernel
theorem dX10_may_71 : decode cX10_may 71 = .ok (.laload, 1) := by decide +kernel
theorem dX10_may_72 : decode cX10_may 72 = .ok (.lstore 8, 2) := by decide +kernel
theorem dX10_may_74 : decode cX10_may 74 = .ok (.lload 8, 2) := by decide +kernel
theorem dX10_may_76 : decode cX10_may 76 = .ok (.lconst 0, 1) := by decide +kernel
theorem dX10_may_77 : decode cX10_may 77 = .ok (.aload_n 0, 1) := by decide +kernel
theorem dX10_may_78 : decode cX10_may 78 = .ok (.getfield 13, 3) := by decide +kernel
theorem dX10_may_81 : decode cX10_may 81 = .ok (.iconst 0, 1) := by decide +kernel
theorem dX10_may_82 : decode cX10_may 82 = .ok (.iaload, 1) := by decide +kernel
theorem dX10_may_83 : decode cX10_may 83 = .ok (.iconst 1, 1) := by decide +kernel
theorem dX10_may_84 : decode cX10_may 84 = .ok (.isub, 1) := by decide +kernel
theorem dX10_may_85 : decode cX10_may 85 = .ok (.i2l, 1) := by decide +kernel
theorem dX10_may_86 : decode cX10_may 86 = .ok (.invokestatic 101, 3) := by decide +kernel
theorem dX10_may_89 : decode cX10_may 89 = .ok (.ifCond .ne 5, 3) := by decide +kernel
theorem dX10_may_92 : decode cX10_may 92 = .ok (.iconst 0, 1) := by decide +kernel
theorem dX10_may_93 : decode cX10_may 93 = .ok (.ireturn, 1) := by decide +kernel
theorem dX10_may_94 : decode cX10_may 94 = .ok (.lload 8, 2) := by decide +kernel
theorem dX10_may_96 : decode cX10_may 96 = .ok (.l2i, 1) := by decide +kernel
theorem dX10_may_97 : decode cX10_may 97 = .ok (.istore 10, 2) := by decide +kernel
theorem dX10_may_99 : decode cX10_may 99 = .ok (.iload 4, 2) := by decide +kernel
theorem dX10_may_101 : decode cX10_may 101 = .ok (.iload 10, 2) := by decide +kernel
theorem dX10_may_103 : decode cX10_may 103 = .ok (.invokestatic 294, 3) := by decide +kernel
theorem dX10_may_106 : decode cX10_may 106 = .ok (.ifCond .ne 13, 3) := by decide +kernel
theorem dX10_may_109 : decode cX10_may 109 = .ok (.aload_n 0, 1) := by decide +kernel
theorem dX10_may_110 : decode cX10_may 110 = .ok (.getfield 43, 3) := by decide +kernel
theorem dX10_may_113 : decode cX10_may 113 = .ok (.iload 10, 2) := by decide +kernel
theorem dX10_may_115 : decode cX10_may 115 = .ok (.iaload, 1) := by decide +kernel
theorem dX10_may_116 : decode cX10_may 116 = .ok (.ifCond .ne 5, 3) := by decide +kernel
theorem dX10_may_119 : decode cX10_may 119 = .ok (.iconst 0, 1) := by decide +kernel
theorem dX10_may_120 : decode cX10_may 120 = .ok (.ireturn, 1) := by decide +kernel
theorem dX10_may_121 : decode cX10_may 121 = .ok (.iload 4, 2) := by decide +kernel
theorem dX10_may_123 : decode cX10_may 123 = .ok (.iconst 1, 1) := by decide +kernel
theorem dX10_may_124 : decode cX10_may 124 = .ok (.iload 10, 2) := by decide +kernel
theorem dX10_may_126 : decode cX10_may 126 = .ok (.ishl, 1) := by decide +kernel
theorem dX10_may_127 : decode cX10_may 127 = .ok (.ior, 1) := by decide +kernel
theorem dX10_may_128 : decode cX10_may 128 = .ok (.istore 4, 2) := by decide +kernel
theorem dX10_may_130 : decode cX10_may 130 = .ok (.aload_n 0, 1) := by decide +kernel
theorem dX10_may_131 : decode cX10_may 131 = .ok (.iload 5, 2) := by decide +kernel
theorem dX10_may_133 : decode cX10_may 133 = .ok (.iload 6, 2) := by decide +kernel
theorem dX10_may_135 : decode cX10_may 135 = .ok (.iload 10, 2) := by decide +kernel
theorem dX10_may_137 : decode cX10_may 137 = .ok (.iload_n 3, 1) := by decide +kernel
theorem dX10_may_138 : decode cX10_may 138 = .ok (.invokevirtual 405, 3) := by decide +kernel
theorem dX10_may_141 : decode cX10_may 141 = .ok (.istore 6, 2) := by decide +kernel
theorem dX10_may_143 : decode cX10_may 143 = .ok (.iload 6, 2) := by decide +kernel
theorem dX10_may_145 : decode cX10_may 145 = .ok (.iconst (-1), 1) := by decide +kernel
theorem dX10_may_146 : decode cX10_may 146 = .ok (.if_icmp .ne 5, 3) := by decide +kernel
theorem dX10_may_149 : decode cX10_may 149 = .ok (.iconst 0, 1) := by decide +kernel
theorem dX10_may_150 : decode cX10_may 150 = .ok (.ireturn, 1) := by decide +kernel
theorem dX10_may_151 : decode cX10_may 151 = .ok (.iload 10, 2) := by decide +kernel
theorem dX10_may_153 : decode cX10_may 153 = .ok (.istore 5, 2) := by decide +kernel
theorem dX10_may_155 : decode cX10_may 155 = .ok (.iinc 7 1, 3) := by decide +kernel
theorem dX10_may_158 : decode cX10_may 158 = .ok (.goto (-109), 3) := by decide +kernel
theorem dX10_may_161 : decode cX10_may 161 = .ok (.iconst 1, 1) := by decide +kernel
theorem dX10_may_162 : decode cX10_may 162 = .ok (.ireturn, 1) := by decide +kernel
theorem dX10_fewest_0 : decode cX10_fewest 0 = .ok (.aload_n 0, 1) := by decide +kernel
theorem dX10_fewest_1 : decode cX10_fewest 1 = .ok (.iload_n 1, 1) := by decide +kernel
theorem dX10_fewest_2 : decode cX10_fewest 2 = .ok (.invokevirtual 105, 3) := by decide +kernel
theorem dX10_fewest_5 : decode cX10_fewest 5 = .ok (.ifCond .ne 6, 3) := by decide +kernel
theorem dX10_fewest_8 : decode cX10_fewest 8 = .ok (.bipush (-2), 2) := by decide +kernel
theorem dX10_fewest_10 : decode cX10_fewest 10 = .ok (.ireturn, 1) := by decide +kernel
theorem dX10_fewest_11 : decode cX10_fewest 11 = .ok (.aload_n 0, 1) := by decide +kernel
theorem dX10_fewest_12 : decode cX10_fewest 12 = .ok (.iload_n 1, 1) := by decide +kernel
theorem dX10_fewest_13 : decode cX10_fewest 13 = .ok (.invokevirtual 441, 3) := by decide +kernel
theorem dX10_fewest_16 : decode cX10_fewest 16 = .ok (.iconst 1, 1) := by decide +kernel
theorem dX10_fewest_17 : decode cX10_fewest 17 = .ok (.aload_n 0, 1) := by decide +kernel
theorem dX10_fewest_18 : decode cX10_fewest 18 = .ok (.getfield 438, 3) := by decide +kernel
theorem dX10_fewest_21 : decode cX10_fewest 21 = .ok (.ishl, 1) := by decide +kernel
theorem dX10_fewest_22 : decode cX10_fewest 22 = .ok (.iconst 1, 1) := by decide +kernel
theorem dX10_fewest_23 : decode cX10_fewest 23 = .ok (.isub, 1) := by decide +kernel
theorem dX10_fewest_24 : decode cX10_fewest 24 = .ok (.istore_n 2, 1) := by decide +kernel
theorem dX10_fewest_25 : decode cX10_fewest 25 = .ok (.iconst 0, 1) := by decide +kernel
theorem dX10_fewest_26 : decode cX10_fewest 26 = .ok (.istore_n 3, 1) := by decide +kernel
theorem dX10_fewest_27 : decode cX10_fewest 27 = .ok (.iload_n 3, 1) := by decide +kernel
theorem dX10_fewest_28 : decode cX10_fewest 28 = .ok (.iload_n 2, 1) := by decide +kernel
theorem dX10_fewest_29 : decode cX10_fewest 29 = .ok (.if_icmp .gt 24, 3) := by decide +kernel
theorem dX10_fewest_32 : decode cX10_fewest 32 = .ok (.aload_n 0, 1) := by decide +kernel
theorem dX10_fewest_33 : decode cX10_fewest 33 = .ok (.getfield 58, 3) := by decide +kernel
theorem dX10_fewest_36 : decode cX10_fewest 36 = .ok (.iload_n 3, 1) := by decide +kernel
theorem dX10_fewest_37 : decode cX10_fewest 37 = .ok (.iload_n 3, 1) := by decide +kernel
theorem dX10_fewest_38 : decode cX10_fewest 38 = .ok (.ifCond .ne 7, 3) := by decide +kernel
theorem dX10_fewest_41 : decode cX10_fewest 41 = .ok (.iconst 0, 1) := by decide +kernel
theorem dX10_fewest_42 : decode cX10_fewest 42 = .ok (.goto 4, 3) := by decide +kernel
theorem dX10_fewest_45 : decode cX10_fewest 45 = .ok (.iconst (-1), 1) := by decide +kernel
theorem dX10_fewest_46 : decode cX10_fewest 46 = .ok (.iastore, 1) := by decide +kernel
theorem dX10_fewest_47 : decode cX10_fewest 47 = .ok (.iinc 3 1, 3) := by decide +kernel
theorem dX10_fewest_50 : decode cX10_fewest 50 = .ok (.goto (-23), 3) := by decide +kernel
theorem dX10_fewest_53 : decode cX10_fewest 53 = .ok (.aload_n 0, 1) := by decide +kernel
theorem dX10_fewest_54 : decode cX10_fewest 54 = .ok (.invokevirtual 291, 3) := by decide +kernel
theorem dX10_fewest_57 : decode cX10_fewest 57 = .ok (.istore_n 3, 1) := by decide +kernel
theorem dX10_fewest_58 : decode cX10_fewest 58 = .ok (.iload_n 3, 1) := by decide +kernel
theorem dX10_fewest_59 : decode cX10_fewest 59 = .ok (.sipush 399, 3) := by decide +kernel
theorem dX10_fewest_62 : decode cX10_fewest 62 = .ok (.aload_n 0, 1) := by decide +kernel
theorem dX10_fewest_63 : decode cX10_fewest 63 = .ok (.invokevirtual 291, 3) := by decide +kernel
theorem dX10_fewest_66 : decode cX10_fewest 66 = .ok (.bipush 6, 2) := by decide +kernel
theorem dX10_fewest_68 : decode cX10_fewest 68 = .ok (.iadd, 1) := by decide +kernel
theorem dX10_fewest_69 : decode cX10_fewest 69 = .ok (.invokestatic 139, 3) := by decide +kernel
theorem dX10_fewest_72 : decode cX10_fewest 72 = .ok (.if_icmp .gt 185, 3) := by decide +kernel
theorem dX10_fewest_75 : decode cX10_fewest 75 = .ok (.aload_n 0, 1) := by decide +kernel
theorem dX10_fewest_76 : decode cX10_fewest 76 = .ok (.iload_n 1, 1) := by decide +kernel
theorem dX10_fewest_77 : decode cX10_fewest 77 = .ok (.iconst 0, 1) := by decide +kernel
theorem dX10_fewest_78 : decode cX10_fewest 78 = .ok (.iconst 1, 1) := by decide +kernel
theorem dX10_fewest_79 : decode cX10_fewest 79 = .ok (.aload_n 0, 1) := by decide +kernel
theorem dX10_fewest_80 : decode cX10_fewest 80 = .ok (.getfield 393, 3) := by decide +kernel
theorem dX10_fewest_83 : decode cX10_fewest 83 = .ok (.ishl, 1) := by decide +kernel
theorem dX10_fewest_84 : decode cX10_fewest 84 = .ok (.iconst 1, 1) := by decide +kernel
theorem dX10_fewest_85 : decode cX10_fewest 85 = .ok (.isub, 1) := by decide +kernel
theorem dX10_fewest_86 : decode cX10_fewest 86 = .ok (.iload_n 3, 1) := by decide +kernel
theorem dX10_fewest_87 : decode cX10_fewest 87 = .ok (.invokevirtual 411, 3) := by decide +kernel
theorem dX10_fewest_90 : decode cX10_fewest 90 = .ok (.iconst 1, 1) := by decide +kernel
theorem dX10_fewest_91 : decode cX10_fewest 91 = .ok (.istore 4, 2) := by decide +kernel
theorem dX10_fewest_93 : decode cX10_fewest 93 = .ok (.iload 4, 2) := by decide +kernel
theorem dX10_fewest_95 : decode cX10_fewest 95 = .ok (.iconst 1, 1) := by decide +kernel
theorem dX10_fewest_96 : decode cX10_fewest 96 = .ok (.aload_n 0, 1) := by decide +kernel
theorem dX10_fewest_97 : decode cX10_fewest 97 = .ok (.getfield 393, 3) := by decide +kernel
theorem dX10_fewest_100 : decode cX10_fewest 100 = .ok (.ishl, 1) := by decide +kernel
theorem dX10_fewest_101 : decode cX10_fewest 101 = .ok (.if_icmp .ge 37, 3) := by decide +kernel
theorem dX10_fewest_104 : decode cX10_fewest 104 = .ok (.aload_n 0, 1) := by decide +kernel
theorem dX10_fewest_105 : decode cX10_fewest 105 = .ok (.getfield 61, 3) := by decide +kernel
theorem dX10_fewest_108 : decode cX10_fewest 108 = .ok (.iload 4, 2) := by decide +kernel
theorem dX10_fewest_110 : decode cX10_fewest 110 = .ok (.aload_n 0, 1) := by decide +kernel
theorem dX10_fewest_111 : decode cX10_fewest 111 = .ok (.iload 4, 2) := by decide +kernel
theorem dX10_fewest_113 : decode cX10_fewest 113 = .ok (.invokevirtual 424, 3) := by decide +kernel
theorem dX10_fewest_116 : decode cX10_fewest 116 = .ok (.iconst (-1), 1) := by decide +kernel
theorem dX10_fewest_117 : decode cX10_fewest 117 = .ok (.if_icmp .ne 7, 3) := by decide +kernel
theorem dX10_fewest_120 : decode cX10_fewest 120 = .ok (.iconst 0, 1) := by decide +kernel
theorem dX10_fewest_121 : decode cX10_fewest 121 = .ok (.goto 10, 3) := by decide +kernel
theorem dX10_fewest_124 : decode cX10_fewest 124 = .ok (.aload_n 0, 1) := by decide +kernel
theorem dX10_fewest_125 : decode cX10_fewest 125 = .ok (.iload 4, 2) := by decide +kernel
theorem dX10_fewest_127 : decode cX10_fewest 127 = .ok (.iload_n 3, 1) := by decide +kernel
theorem dX10_fewest_128 : decode cX10_fewest 128 = .ok (.invokevirtual 444, 3) := by decide +kernel
theorem dX10_fewest_131 : decode cX10_fewest 131 = .ok (.iastore, 1) := by decide +kernel
theorem dX10_fewest_132 : decode cX10_fewest 132 = .ok (.iinc 4 1, 3) := by decide +kernel
theorem dX10_fewest_135 : decode cX10_fewest 135 = .ok (.goto (-42), 3) := by decide +kernel
theorem dX10_fewest_138 : decode cX10_fewest 138 = .ok (.iload_n 2, 1) := by decide +kernel
theorem dX10_fewest_139 : decode cX10_fewest 139 = .ok (.istore 4, 2) := by decide +kernel
theorem dX10_fewest_141 : decode cX10_fewest 141 = .ok (.iload 4, 2) := by decide +kernel
theorem dX10_fewest_143 : decode cX10_fewest 143 = .ok (.ifCond .lt 108, 3) := by decide +kernel
theorem dX10_fewest_146 : decode cX10_fewest 146 = .ok (.aload_n 0, 1) := by decide +kernel
theorem dX10_fewest_147 : decode cX10_fewest 147 = .ok (.getfield 58, 3) := by decide +kernel
theorem dX10_fewest_150 : decode cX10_fewest 150 = .ok (.iload 4, 2) := by decide +kernel
theorem dX10_fewest_152 : decode cX10_fewest 152 = .ok (.iaload, 1) := by decide +kernel
theorem dX10_fewest_153 : decode cX10_fewest 153 = .ok (.iconst (-1), 1) := by decide +kernel
theorem dX10_fewest_154 : decode cX10_fewest 154 = .ok (.if_icmp .ne 6, 3) := by decide +kernel
theorem dX10_fewest_157 : decode cX10_fewest 157 = .ok (.goto 88, 3) := by decide +kernel
theorem dX10_fewest_160 : decode cX10_fewest 160 = .ok (.iconst 1, 1) := by decide +kernel
theorem dX10_fewest_161 : decode cX10_fewest 161 = .ok (.istore 5, 2) := by decide +kernel
theorem dX10_fewest_163 : decode cX10_fewest 163 = .ok (.iload 5, 2) := by decide +kernel
theorem dX10_fewest_165 : decode cX10_fewest 165 = .ok (.iconst 1, 1) := by decide +kernel
theorem dX10_fewest_166 : decode cX10_fewest 166 = .ok (.aload_n 0, 1) := by decide +kernel
theorem dX10_fewest_167 : decode cX10_fewest 167 = .ok (.getfield 393, 3) := by decide +kernel
theorem dX10_fewest_170 : decode cX10_fewest 170 = .ok (.ishl, 1) := by decide +kernel
theorem dX10_fewest_171 : decode cX10_fewest 171 = .ok (.if_icmp .ge 74, 3) := by decide +kernel
theorem dX10_fewest_174 : decode cX10_fewest 174 = .ok (.iload 4, 2) := by decide +kernel
theorem dX10_fewest_176 : decode cX10_fewest 176 = .ok (.aload_n 0, 1) := by decide +kernel
theorem dX10_fewest_177 : decode cX10_fewest 177 = .ok (.getfield 61, 3) := by decide +kernel
theorem dX10_fewest_180 : decode cX10_fewest 180 = .ok (.iload 5, 2) := by decide +kernel
theorem dX10_fewest_182 : decode cX10_fewest 182 = .ok (.iaload, 1) := by decide +kernel
theorem dX10_fewest_183 : decode cX10_fewest 183 = .ok (.ior, 1) := by decide +kernel
theorem dX10_fewest_184 : decode cX10_fewest 184 = .ok (.istore 6, 2) := by decide +kernel
theorem dX10_fewest_186 : decode cX10_fewest 186 = .ok (.iload 6, 2) := by decide +kernel
theorem dX10_fewest_188 : decode cX10_fewest 188 = .ok (.iload 4, 2) := by decide +kernel
theorem dX10_fewest_190 : decode cX10_fewest 190 = .ok (.if_icmp .eq 49, 3) := by decide +kernel
theorem dX10_fewest_193 : decode cX10_fewest 193 = .ok (.aload_n 0, 1) := by decide +kernel
theorem dX10_fewest_194 : decode cX10_fewest 194 = .ok (.getfield 58, 3) := by decide +kernel
theorem dX10_fewest_197 : decode cX10_fewest 197 = .ok (.iload 6, 2) := by decide +kernel
theorem dX10_fewest_199 : decode cX10_fewest 199 = .ok (.iaload, 1) := by decide +kernel
theorem dX10_fewest_200 : decode cX10_fewest 200 = .ok (.iconst (-1), 1) := by decide +kernel
theorem dX10_fewest_201 : decode cX10_fewest 201 = .ok (.if_icmp .eq 22, 3) := by decide +kernel
theorem dX10_fewest_204 : decode cX10_fewest 204 = .ok (.aload_n 0, 1) := by decide +kernel
theorem dX10_fewest_205 : decode cX10_fewest 205 = .ok (.getfield 58, 3) := by decide +kernel
theorem dX10_fewest_208 : decode cX10_fewest 208 = .ok (.iload 6, 2) := by decide +kernel
theorem dX10_fewest_210 : decode cX10_fewest 210 = .ok (.iaload, 1) := by decide +kernel
theorem dX10_fewest_211 : decode cX10_fewest 211 = .ok (.aload_n 0, 1) := by decide +kernel
theorem dX10_fewest_212 : decode cX10_fewest 212 = .ok (.getfield 58, 3) := by decide +kernel
theorem dX10_fewest_215 : decode cX10_fewest 215 = .ok (.iload 4, 2) := by decide +kernel
theorem dX10_fewest_217 : decode cX10_fewest 217 = .ok (.iaload, 1) := by decide +kernel
theorem dX10_fewest_218 : decode cX10_fewest 218 = .ok (.iconst 1, 1) := by decide +kernel
theorem dX10_fewest_219 : decode cX10_fewest 219 = .ok (.iadd, 1) := by decide +kernel
theorem dX10_fewest_220 : decode cX10_fewest 220 = .ok (.if_icmp .le 19, 3) := by decide +kernel
theorem dX10_fewest_223 : decode cX10_fewest 223 = .ok (.aload_n 0, 1) := by decide +kernel
theorem dX10_fewest_224 : decode cX10_fewest 224 = .ok (.getfield 58, 3) := by decide +kernel
theorem dX10_fewest_227 : decode cX10_fewest 227 = .ok (.iload 6, 2) := by decide +kernel
theorem dX10_fewest_229 : decode cX10_fewest 229 = .ok (.aload_n 0, 1) := by decide +kernel
theorem dX10_fewest_230 : decode cX10_fewest 230 = .ok (.getfield 58, 3) := by decide +kernel
theorem dX10_fewest_233 : decode cX10_fewest 233 = .ok (.iload 4, 2) := by decide +kernel
theorem dX10_fewest_235 : decode cX10_fewest 235 = .ok (.iaload, 1) := by decide +kernel
theorem dX10_fewest_236 : decode cX10_fewest 236 = .ok (.iconst 1, 1) := by decide +kernel
theorem dX10_fewest_237 : decode cX10_fewest 237 = .ok (.iadd, 1) := by decide +kernel
theorem dX10_fewest_238 : decode cX10_fewest 238 = .ok (.iastore, 1) := by decide +kernel
theorem dX10_fewest_239 : decode cX10_fewest 239 = .ok (.iinc 5 1, 3) := by decide +kernel
theorem dX10_fewest_242 : decode cX10_fewest 242 = .ok (.goto (-79), 3) := by decide +kernel
theorem dX10_fewest_245 : decode cX10_fewest 245 = .ok (.iinc 4 (-1), 3) := by decide +kernel
theorem dX10_fewest_248 : decode cX10_fewest 248 = .ok (.goto (-107), 3) := by decide +kernel
theorem dX10_fewest_251 : decode cX10_fewest 251 = .ok (.iinc 3 1, 3) := by decide +kernel
theorem dX10_fewest_254 : decode cX10_fewest 254 = .ok (.goto (-196), 3) := by decide +kernel
theorem dX10_fewest_257 : decode cX10_fewest 257 = .ok (.aload_n 0, 1) := by decide +kernel
theorem dX10_fewest_258 : decode cX10_fewest 258 = .ok (.getfield 58, 3) := by decide +kernel
theorem dX10_fewest_261 : decode cX10_fewest 261 = .ok (.iload_n 2, 1) := by decide +kernel
theorem dX10_fewest_262 : decode cX10_fewest 262 = .ok (.iaload, 1) := by decide +kernel
theorem dX10_fewest_263 : decode cX10_fewest 263 = .ok (.ireturn, 1) := by decide +kernel
theorem dX10_lost_0 : decode cX10_lost 0 = .ok (.aload_n 0, 1) := by decide +kernel
theorem dX10_lost_1 : decode cX10_lost 1 = .ok (.iload_n 1, 1) := by decide +kernel
theorem dX10_lost_2 : decode cX10_lost 2 = .ok (.invokevirtual 105, 3) := by decide +kernel
theorem dX10_lost_5 : decode cX10_lost 5 = .ok (.ifCond .ne 6, 3) := by decide +kernel
theorem dX10_lost_8 : decode cX10_lost 8 = .ok (.bipush (-2), 2) := by decide +kernel
theorem dX10_lost_10 : decode cX10_lost 10 = .ok (.ireturn, 1) := by decide +kernel
theorem dX10_lost_11 : decode cX10_lost 11 = .ok (.aload_n 0, 1) := by decide +kernel
theorem dX10_lost_12 : decode cX10_lost 12 = .ok (.iload_n 1, 1) := by decide +kernel
theorem dX10_lost_13 : decode cX10_lost 13 = .ok (.invokevirtual 441, 3) := by decide +kernel
theorem dX10_lost_16 : decode cX10_lost 16 = .ok (.iconst 0, 1) := by decide +kernel
theorem dX10_lost_17 : decode cX10_lost 17 = .ok (.istore_n 2, 1) := by decide +kernel
theorem dX10_lost_18 : decode cX10_lost 18 = .ok (.iconst 0, 1) := by decide +kernel
theorem dX10_lost_19 : decode cX10_lost 19 = .ok (.istore_n 3, 1) := by decide +kernel
theorem dX10_lost_20 : decode cX10_lost 20 = .ok (.iload_n 3, 1) := by decide +kernel
theorem dX10_lost_21 : decode cX10_lost 21 = .ok (.aload_n 0, 1) := by decide +kernel
theorem dX10_lost_22 : decode cX10_lost 22 = .ok (.getfield 438, 3) := by decide +kernel
theorem dX10_lost_25 : decode cX10_lost 25 = .ok (.if_icmp .ge 106, 3) := by decide +kernel
theorem dX10_lost_28 : decode cX10_lost 28 = .ok (.iconst 0, 1) := by decide +kernel
theorem dX10_lost_29 : decode cX10_lost 29 = .ok (.istore 4, 2) := by decide +kernel
theorem dX10_lost_31 : decode cX10_lost 31 = .ok (.aload_n 0, 1) := by decide +kernel
theorem dX10_lost_32 : decode cX10_lost 32 = .ok (.invokevirtual 291, 3) := by decide +kernel
theorem dX10_lost_35 : decode cX10_lost 35 = .ok (.istore 5, 2) := by decide +kernel
theorem dX10_lost_37 : decode cX10_lost 37 = .ok (.iload 5, 2) := by decide +kernel
theorem dX10_lost_39 : decode cX10_lost 39 = .ok (.sipush 399, 3) := by decide +kernel
theorem dX10_lost_42 : decode cX10_lost 42 = .ok (.aload_n 0, 1) := by decide +kernel
theorem dX10_lost_43 : decode cX10_lost 43 = .ok (.invokevirtual 291, 3) := by decide +kernel
theorem dX10_lost_46 : decode cX10_lost 46 = .ok (.bipush 6, 2) := by decide +kernel
theorem dX10_lost_48 : decode cX10_lost 48 = .ok (.iadd, 1) := by decide +kernel
theorem dX10_lost_49 : decode cX10_lost 49 = .ok (.invokestatic 139, 3) := by decide +kernel
theorem dX10_lost_52 : decode cX10_lost 52 = .ok (.aload_n 0, 1) := by decide +kernel
theorem dX10_lost_53 : decode cX10_lost 53 = .ok (.aload_n 0, 1) := by decide +kernel
theorem dX10_lost_54 : decode cX10_lost 54 = .ok (.getfield 55, 3) := by decide +kernel
theorem dX10_lost_57 : decode cX10_lost 57 = .ok (.iload_n 3, 1) := by decide +kernel
theorem dX10_lost_58 : decode cX10_lost 58 = .ok (.iaload, 1) := by decide +kernel
theorem dX10_lost_59 : decode cX10_lost 59 = .ok (.iconst 3, 1) := by decide +kernel
theorem dX10_lost_60 : decode cX10_lost 60 = .ok (.invokevirtual 325, 3) := by decide +kernel
theorem dX10_lost_63 : decode cX10_lost 63 = .ok (.invokestatic 139, 3) := by decide +kernel
theorem dX10_lost_66 : decode cX10_lost 66 = .ok (.if_icmp .gt 44, 3) := by decide +kernel
theorem dX10_lost_69 : decode cX10_lost 69 = .ok (.iload 4, 2) := by decide +kernel
theorem dX10_lost_71 : decode cX10_lost 71 = .ok (.ifCond .ne 26, 3) := by decide +kernel
theorem dX10_lost_74 : decode cX10_lost 74 = .ok (.aload_n 0, 1) := by decide +kernel
theorem dX10_lost_75 : decode cX10_lost 75 = .ok (.iload_n 1, 1) := by decide +kernel
theorem dX10_lost_76 : decode cX10_lost 76 = .ok (.iconst 0, 1) := by decide +kernel
theorem dX10_lost_77 : decode cX10_lost 77 = .ok (.aload_n 0, 1) := by decide +kernel
theorem dX10_lost_78 : decode cX10_lost 78 = .ok (.aload_n 0, 1) := by decide +kernel
theorem dX10_lost_79 : decode cX10_lost 79 = .ok (.getfield 55, 3) := by decide +kernel
theorem dX10_lost_82 : decode cX10_lost 82 = .ok (.iload_n 3, 1) := by decide +kernel
theorem dX10_lost_83 : decode cX10_lost 83 = .ok (.iaload, 1) := by decide +kernel
theorem dX10_lost_84 : decode cX10_lost 84 = .ok (.iconst 1, 1) := by decide +kernel
theorem dX10_lost_85 : decode cX10_lost 85 = .ok (.invokevirtual 325, 3) := by decide +kernel
theorem dX10_lost_88 : decode cX10_lost 88 = .ok (.iload 5, 2) := by decide +kernel
theorem dX10_lost_90 : decode cX10_lost 90 = .ok (.invokevirtual 405, 3) := by decide +kernel
theorem dX10_lost_93 : decode cX10_lost 93 = .ok (.iconst (-1), 1) := by decide +kernel
theorem dX10_lost_94 : decode cX10_lost 94 = .ok (.if_icmp .eq 7, 3) := by decide +kernel
theorem dX10_lost_97 : decode cX10_lost 97 = .ok (.iconst 1, 1) := by decide +kernel
theorem dX10_lost_98 : decode cX10_lost 98 = .ok (.goto 4, 3) := by decide +kernel
theorem dX10_lost_101 : decode cX10_lost 101 = .ok (.iconst 0, 1) := by decide +kernel
theorem dX10_lost_102 : decode cX10_lost 102 = .ok (.istore 4, 2) := by decide +kernel
theorem dX10_lost_104 : decode cX10_lost 104 = .ok (.iinc 5 1, 3) := by decide +kernel
theorem dX10_lost_107 : decode cX10_lost 107 = .ok (.goto (-70), 3) := by decide +kernel
theorem dX10_lost_110 : decode cX10_lost 110 = .ok (.iload_n 2, 1) := by decide +kernel
theorem dX10_lost_111 : decode cX10_lost 111 = .ok (.iload 4, 2) := by decide +kernel
theorem dX10_lost_113 : decode cX10_lost 113 = .ok (.ifCond .eq 7, 3) := by decide +kernel
theorem dX10_lost_116 : decode cX10_lost 116 = .ok (.iconst 0, 1) := by decide +kernel
theorem dX10_lost_117 : decode cX10_lost 117 = .ok (.goto 6, 3) := by decide +kernel
theorem dX10_lost_120 : decode cX10_lost 120 = .ok (.iconst 1, 1) := by decide +kernel
theorem dX10_lost_121 : decode cX10_lost 121 = .ok (.iload_n 3, 1) := by decide +kernel
theorem dX10_lost_122 : decode cX10_lost 122 = .ok (.ishl, 1) := by decide +kernel
theorem dX10_lost_123 : decode cX10_lost 123 = .ok (.ior, 1) := by decide +kernel
theorem dX10_lost_124 : decode cX10_lost 124 = .ok (.istore_n 2, 1) := by decide +kernel
theorem dX10_lost_125 : decode cX10_lost 125 = .ok (.iinc 3 1, 3) := by decide +kernel
theorem dX10_lost_128 : decode cX10_lost 128 = .ok (.goto (-108), 3) := by decide +kernel
theorem dX10_lost_131 : decode cX10_lost 131 = .ok (.iload_n 2, 1) := by decide +kernel
theorem dX10_lost_132 : decode cX10_lost 132 = .ok (.ireturn, 1) := by decide +kernel
theorem dX10_soon_0 : decode cX10_soon 0 = .ok (.aload_n 0, 1) := by decide +kernel
theorem dX10_soon_1 : decode cX10_soon 1 = .ok (.iload_n 1, 1) := by decide +kernel
theorem dX10_soon_2 : decode cX10_soon 2 = .ok (.iload_n 2, 1) := by decide +kernel
theorem dX10_soon_3 : decode cX10_soon 3 = .ok (.invokevirtual 315, 3) := by decide +kernel
theorem dX10_soon_6 : decode cX10_soon 6 = .ok (.ifCond .ne 6, 3) := by decide +kernel
theorem dX10_soon_9 : decode cX10_soon 9 = .ok (.bipush (-2), 2) := by decide +kernel
theorem dX10_soon_11 : decode cX10_soon 11 = .ok (.ireturn, 1) := by decide +kernel
theorem dX10_soon_12 : decode cX10_soon 12 = .ok (.aload_n 0, 1) := by decide +kernel
theorem dX10_soon_13 : decode cX10_soon 13 = .ok (.iload_n 1, 1) := by decide +kernel
theorem dX10_soon_14 : decode cX10_soon 14 = .ok (.iload_n 2, 1) := by decide +kernel
theorem dX10_soon_15 : decode cX10_soon 15 = .ok (.invokevirtual 304, 3) := by decide +kernel
theorem dX10_soon_18 : decode cX10_soon 18 = .ok (.ifCond .eq 5, 3) := by decide +kernel
theorem dX10_soon_21 : decode cX10_soon 21 = .ok (.iconst 0, 1) := by decide +kernel
theorem dX10_soon_22 : decode cX10_soon 22 = .ok (.ireturn, 1) := by decide +kernel
theorem dX10_soon_23 : decode cX10_soon 23 = .ok (.aload_n 0, 1) := by decide +kernel
theorem dX10_soon_24 : decode cX10_soon 24 = .ok (.iload_n 1, 1) := by decide +kernel
theorem dX10_soon_25 : decode cX10_soon 25 = .ok (.iload_n 2, 1) := by decide +kernel
theorem dX10_soon_26 : decode cX10_soon 26 = .ok (.invokevirtual 453, 3) := by decide +kernel
theorem dX10_soon_29 : decode cX10_soon 29 = .ok (.ifCond .eq 10, 3) := by decide +kernel
theorem dX10_soon_32 : decode cX10_soon 32 = .ok (.aload_n 0, 1) := by decide +kernel
theorem dX10_soon_33 : decode cX10_soon 33 = .ok (.getfield 450, 3) := by decide +kernel
theorem dX10_soon_36 : decode cX10_soon 36 = .ok (.goto 4, 3) := by decide +kernel
theorem dX10_soon_39 : decode cX10_soon 39 = .ok (.iconst (-1), 1) := by decide +kernel
theorem dX10_soon_40 : decode cX10_soon 40 = .ok (.ireturn, 1) := by decide +kernel
theorem dX10_path_0 : decode cX10_path 0 = .ok (.aload_n 0, 1) := by decide +kernel
theorem dX10_path_1 : decode cX10_path 1 = .ok (.iload_n 1, 1) := by decide +kernel
theorem dX10_path_2 : decode cX10_path 2 = .ok (.iload_n 2, 1) := by decide +kernel
theorem dX10_path_3 : decode cX10_path 3 = .ok (.invokevirtual 315, 3) := by decide +kernel
theorem dX10_path_6 : decode cX10_path 6 = .ok (.ifCond .ne 6, 3) := by decide +kernel
theorem dX10_path_9 : decode cX10_path 9 = .ok (.bipush (-2), 2) := by decide +kernel
theorem dX10_path_11 : decode cX10_path 11 = .ok (.ireturn, 1) := by decide +kernel
theorem dX10_path_12 : decode cX10_path 12 = .ok (.aload_n 0, 1) := by decide +kernel
theorem dX10_path_13 : decode cX10_path 13 = .ok (.iload_n 1, 1) := by decide +kernel
theorem dX10_path_14 : decode cX10_path 14 = .ok (.iload_n 2, 1) := by decide +kernel
theorem dX10_path_15 : decode cX10_path 15 = .ok (.invokevirtual 304, 3) := by decide +kernel
theorem dX10_path_18 : decode cX10_path 18 = .ok (.ifCond .ne 37, 3) := by decide +kernel
theorem dX10_path_21 : decode cX10_path 21 = .ok (.aload_n 0, 1) := by decide +kernel
theorem dX10_path_22 : decode cX10_path 22 = .ok (.iload_n 1, 1) := by decide +kernel
theorem dX10_path_23 : decode cX10_path 23 = .ok (.iload_n 2, 1) := by decide +kernel
theorem dX10_path_24 : decode cX10_path 24 = .ok (.invokevirtual 453, 3) := by decide +kernel
theorem dX10_path_27 : decode cX10_path 27 = .ok (.ifCond .eq 28, 3) := by decide +kernel
theorem dX10_path_30 : decode cX10_path 30 = .ok (.iload_n 3, 1) := by decide +kernel
theorem dX10_path_31 : decode cX10_path 31 = .ok (.i2l, 1) := by decide +kernel
theorem dX10_path_32 : decode cX10_path 32 = .ok (.lconst 0, 1) := by decide +kernel
theorem dX10_path_33 : decode cX10_path 33 = .ok (.aload_n 0, 1) := by decide +kernel
theorem dX10_path_34 : decode cX10_path 34 = .ok (.getfield 450, 3) := by decide +kernel
theorem dX10_path_37 : decode cX10_path 37 = .ok (.iconst 1, 1) := by decide +kernel
theorem dX10_path_38 : decode cX10_path 38 = .ok (.isub, 1) := by decide +kernel
theorem dX10_path_39 : decode cX10_path 39 = .ok (.i2l, 1) := by decide +kernel
theorem dX10_path_40 : decode cX10_path 40 = .ok (.invokestatic 101, 3) := by decide +kernel
theorem dX10_path_43 : decode cX10_path 43 = .ok (.ifCond .eq 12, 3) := by decide +kernel
theorem dX10_path_46 : decode cX10_path 46 = .ok (.aload_n 0, 1) := by decide +kernel
theorem dX10_path_47 : decode cX10_path 47 = .ok (.getfield 77, 3) := by decide +kernel
theorem dX10_path_50 : decode cX10_path 50 = .ok (.iload_n 3, 1) := by decide +kernel
theorem dX10_path_51 : decode cX10_path 51 = .ok (.iaload, 1) := by decide +kernel
theorem dX10_path_52 : decode cX10_path 52 = .ok (.goto 4, 3) := by decide +kernel
theorem dX10_path_55 : decode cX10_path 55 = .ok (.iconst (-1), 1) := by decide +kernel
theorem dX10_path_56 : decode cX10_path 56 = .ok (.ireturn, 1) := by decide +kernel
theorem dX10_reach_0 : decode cX10_reach 0 = .ok (.aload_n 0, 1) := by decide +kernel
theorem dX10_reach_1 : decode cX10_reach 1 = .ok (.iload_n 1, 1) := by decide +kernel
theorem dX10_reach_2 : decode cX10_reach 2 = .ok (.invokevirtual 105, 3) := by decide +kernel
theorem dX10_reach_5 : decode cX10_reach 5 = .ok (.ifCond .eq 13, 3) := by decide +kernel
theorem dX10_reach_8 : decode cX10_reach 8 = .ok (.aload_n 0, 1) := by decide +kernel
theorem dX10_reach_9 : decode cX10_reach 9 = .ok (.iload_n 1, 1) := by decide +kernel
theorem dX10_reach_10 : decode cX10_reach 10 = .ok (.iconst (-1), 1) := by decide +kernel
theorem dX10_reach_11 : decode cX10_reach 11 = .ok (.iconst (-1), 1) := by decide +kernel
theorem dX10_reach_12 : decode cX10_reach 12 = .ok (.invokevirtual 456, 3) := by decide +kernel
theorem dX10_reach_15 : decode cX10_reach 15 = .ok (.goto 5, 3) := by decide +kernel
theorem dX10_reach_18 : decode cX10_reach 18 = .ok (.bipush (-2), 2) := by decide +kernel
theorem dX10_reach_20 : decode cX10_reach 20 = .ok (.ireturn, 1) := by decide +kernel
theorem dX10_drop_0 : decode cX10_drop 0 = .ok (.aload_n 0, 1) := by decide +kernel
theorem dX10_drop_1 : decode cX10_drop 1 = .ok (.iload_n 1, 1) := by decide +kernel
theorem dX10_drop_2 : decode cX10_drop 2 = .ok (.invokevirtual 105, 3) := by decide +kernel
theorem dX10_drop_5 : decode cX10_drop 5 = .ok (.ifCond .ne 6, 3) := by decide +kernel
theorem dX10_drop_8 : decode cX10_drop 8 = .ok (.bipush (-2), 2) := by decide +kernel
theorem dX10_drop_10 : decode cX10_drop 10 = .ok (.ireturn, 1) := by decide +kernel
theorem dX10_drop_11 : decode cX10_drop 11 = .ok (.aload_n 0, 1) := by decide +kernel
theorem dX10_drop_12 : decode cX10_drop 12 = .ok (.iload_n 1, 1) := by decide +kernel
theorem dX10_drop_13 : decode cX10_drop 13 = .ok (.invokevirtual 390, 3) := by decide +kernel
theorem dX10_drop_16 : decode cX10_drop 16 = .ok (.iconst (-1), 1) := by decide +kernel
theorem dX10_drop_17 : decode cX10_drop 17 = .ok (.istore_n 2, 1) := by decide +kernel
theorem dX10_drop_18 : decode cX10_drop 18 = .ok (.aload_n 0, 1) := by decide +kernel
theorem dX10_drop_19 : decode cX10_drop 19 = .ok (.iload_n 1, 1) := by decide +kernel
theorem dX10_drop_20 : decode cX10_drop 20 = .ok (.iconst (-1), 1) := by decide +kernel
theorem dX10_drop_21 : decode cX10_drop 21 = .ok (.iconst (-1), 1) := by decide +kernel
theorem dX10_drop_22 : decode cX10_drop 22 = .ok (.invokevirtual 456, 3) := by decide +kernel
theorem dX10_drop_25 : decode cX10_drop 25 = .ok (.invokestatic 298, 3) := by decide +kernel
theorem dX10_drop_28 : decode cX10_drop 28 = .ok (.istore_n 3, 1) := by decide +kernel
theorem dX10_drop_29 : decode cX10_drop 29 = .ok (.iconst 0, 1) := by decide +kernel
theorem dX10_drop_30 : decode cX10_drop 30 = .ok (.istore 4, 2) := by decide +kernel
theorem dX10_drop_32 : decode cX10_drop 32 = .ok (.iload 4, 2) := by decide +kernel
theorem dX10_drop_34 : decode cX10_drop 34 = .ok (.aload_n 0, 1) := by decide +kernel
theorem dX10_drop_35 : decode cX10_drop 35 = .ok (.getfield 13, 3) := by decide +kernel
theorem dX10_drop_38 : decode cX10_drop 38 = .ok (.iconst 0, 1) := by decide +kernel
theorem dX10_drop_39 : decode cX10_drop 39 = .ok (.iaload, 1) := by decide +kernel
theorem dX10_drop_40 : decode cX10_drop 40 = .ok (.if_icmp .ge 71, 3) := by decide +kernel
theorem dX10_drop_43 : decode cX10_drop 43 = .ok (.aload_n 0, 1) := by decide +kernel
theorem dX10_drop_44 : decode cX10_drop 44 = .ok (.iload_n 1, 1) := by decide +kernel
theorem dX10_drop_45 : decode cX10_drop 45 = .ok (.iload 4, 2) := by decide +kernel
theorem dX10_drop_47 : decode cX10_drop 47 = .ok (.invokevirtual 304, 3) := by decide +kernel
theorem dX10_drop_50 : decode cX10_drop 50 = .ok (.ifCond .eq 55, 3) := by decide +kernel
theorem dX10_drop_53 : decode cX10_drop 53 = .ok (.aload_n 0, 1) := by decide +kernel
theorem dX10_drop_54 : decode cX10_drop 54 = .ok (.getfield 43, 3) := by decide +kernel
theorem dX10_drop_57 : decode cX10_drop 57 = .ok (.iload 4, 2) := by decide +kernel
theorem dX10_drop_59 : decode cX10_drop 59 = .ok (.iaload, 1) := by decide +kernel
theorem dX10_drop_60 : decode cX10_drop 60 = .ok (.ifCond .gt 45, 3) := by decide +kernel
theorem dX10_drop_63 : decode cX10_drop 63 = .ok (.aload_n 0, 1) := by decide +kernel
theorem dX10_drop_64 : decode cX10_drop 64 = .ok (.iload_n 1, 1) := by decide +kernel
theorem dX10_drop_65 : decode cX10_drop 65 = .ok (.iload_n 1, 1) := by decide +kernel
theorem dX10_drop_66 : decode cX10_drop 66 = .ok (.iload 4, 2) := by decide +kernel
theorem dX10_drop_68 : decode cX10_drop 68 = .ok (.invokevirtual 456, 3) := by decide +kernel
theorem dX10_drop_71 : decode cX10_drop 71 = .ok (.invokestatic 298, 3) := by decide +kernel
theorem dX10_drop_74 : decode cX10_drop 74 = .ok (.iload_n 3, 1) := by decide +kernel
theorem dX10_drop_75 : decode cX10_drop 75 = .ok (.if_icmp .eq 6, 3) := by decide +kernel
theorem dX10_drop_78 : decode cX10_drop 78 = .ok (.goto 27, 3) := by decide +kernel
theorem dX10_drop_81 : decode cX10_drop 81 = .ok (.iload_n 2, 1) := by decide +kernel
theorem dX10_drop_82 : decode cX10_drop 82 = .ok (.iconst (-1), 1) := by decide +kernel
theorem dX10_drop_83 : decode cX10_drop 83 = .ok (.if_icmp .eq 19, 3) := by decide +kernel
theorem dX10_drop_86 : decode cX10_drop 86 = .ok (.aload_n 0, 1) := by decide +kernel
theorem dX10_drop_87 : decode cX10_drop 87 = .ok (.iload 4, 2) := by decide +kernel
theorem dX10_drop_89 : decode cX10_drop 89 = .ok (.iconst 2, 1) := by decide +kernel
theorem dX10_drop_90 : decode cX10_drop 90 = .ok (.invokevirtual 286, 3) := by decide +kernel
theorem dX10_drop_93 : decode cX10_drop 93 = .ok (.aload_n 0, 1) := by decide +kernel
theorem dX10_drop_94 : decode cX10_drop 94 = .ok (.iload_n 2, 1) := by decide +kernel
theorem dX10_drop_95 : decode cX10_drop 95 = .ok (.iconst 2, 1) := by decide +kernel
theorem dX10_drop_96 : decode cX10_drop 96 = .ok (.invokevirtual 286, 3) := by decide +kernel
theorem dX10_drop_99 : decode cX10_drop 99 = .ok (.if_icmp .ge 6, 3) := by decide +kernel
theorem dX10_drop_102 : decode cX10_drop 102 = .ok (.iload 4, 2) := by decide +kernel
end
section
theorem dX10_drop_104 : decode cX10_drop 104 = .ok (.istore_n 2, 1) := by decide +kernel
theorem dX10_drop_105 : decode cX10_drop 105 = .ok (.iinc 4 1, 3) := by decide +kernel
theorem dX10_drop_108 : decode cX10_drop 108 = .ok (.goto (-76), 3) := by decide +kernel
theorem dX10_drop_111 : decode cX10_drop 111 = .ok (.iload_n 2, 1) := by decide +kernel
theorem dX10_drop_112 : decode cX10_drop 112 = .ok (.ireturn, 1) := by decide +kernel
theorem dX10_tie_0 : decode cX10_tie 0 = .ok (.aload_n 0, 1) := by decide +kernel
theorem dX10_tie_1 : decode cX10_tie 1 = .ok (.iload_n 1, 1) := by decide +kernel
theorem dX10_tie_2 : decode cX10_tie 2 = .ok (.iload_n 2, 1) := by decide +kernel
theorem dX10_tie_3 : decode cX10_tie 3 = .ok (.invokevirtual 315, 3) := by decide +kernel
theorem dX10_tie_6 : decode cX10_tie 6 = .ok (.ifCond .ne 6, 3) := by decide +kernel
theorem dX10_tie_9 : decode cX10_tie 9 = .ok (.bipush (-2), 2) := by decide +kernel
theorem dX10_tie_11 : decode cX10_tie 11 = .ok (.ireturn, 1) := by decide +kernel
theorem dX10_tie_12 : decode cX10_tie 12 = .ok (.aload_n 0, 1) := by decide +kernel
theorem dX10_tie_13 : decode cX10_tie 13 = .ok (.iload_n 1, 1) := by decide +kernel
theorem dX10_tie_14 : decode cX10_tie 14 = .ok (.iload_n 2, 1) := by decide +kernel
theorem dX10_tie_15 : decode cX10_tie 15 = .ok (.invokevirtual 304, 3) := by decide +kernel
theorem dX10_tie_18 : decode cX10_tie 18 = .ok (.ifCond .ne 5, 3) := by decide +kernel
theorem dX10_tie_21 : decode cX10_tie 21 = .ok (.iconst (-1), 1) := by decide +kernel
theorem dX10_tie_22 : decode cX10_tie 22 = .ok (.ireturn, 1) := by decide +kernel
theorem dX10_tie_23 : decode cX10_tie 23 = .ok (.aload_n 0, 1) := by decide +kernel
theorem dX10_tie_24 : decode cX10_tie 24 = .ok (.iload_n 1, 1) := by decide +kernel
theorem dX10_tie_25 : decode cX10_tie 25 = .ok (.iload_n 1, 1) := by decide +kernel
theorem dX10_tie_26 : decode cX10_tie 26 = .ok (.iload_n 2, 1) := by decide +kernel
theorem dX10_tie_27 : decode cX10_tie 27 = .ok (.invokevirtual 456, 3) := by decide +kernel
theorem dX10_tie_30 : decode cX10_tie 30 = .ok (.iload_n 2, 1) := by decide +kernel
theorem dX10_tie_31 : decode cX10_tie 31 = .ok (.invokestatic 294, 3) := by decide +kernel
theorem dX10_tie_34 : decode cX10_tie 34 = .ok (.ifCond .eq 7, 3) := by decide +kernel
theorem dX10_tie_37 : decode cX10_tie 37 = .ok (.iconst 0, 1) := by decide +kernel
theorem dX10_tie_38 : decode cX10_tie 38 = .ok (.goto 4, 3) := by decide +kernel
theorem dX10_tie_41 : decode cX10_tie 41 = .ok (.iconst 1, 1) := by decide +kernel
theorem dX10_tie_42 : decode cX10_tie 42 = .ok (.ireturn, 1) := by decide +kernel
theorem dX10_callsAll_0 : decode cX10_callsAll 0 = .ok (.iconst 0, 1) := by decide +kernel
theorem dX10_callsAll_1 : decode cX10_callsAll 1 = .ok (.istore_n 1, 1) := by decide +kernel
theorem dX10_callsAll_2 : decode cX10_callsAll 2 = .ok (.iload_n 1, 1) := by decide +kernel
theorem dX10_callsAll_3 : decode cX10_callsAll 3 = .ok (.bipush 16, 2) := by decide +kernel
theorem dX10_callsAll_5 : decode cX10_callsAll 5 = .ok (.if_icmp .ge 16, 3) := by decide +kernel
theorem dX10_callsAll_8 : decode cX10_callsAll 8 = .ok (.aload_n 0, 1) := by decide +kernel
theorem dX10_callsAll_9 : decode cX10_callsAll 9 = .ok (.getfield 80, 3) := by decide +kernel
theorem dX10_callsAll_12 : decode cX10_callsAll 12 = .ok (.iload_n 1, 1) := by decide +kernel
theorem dX10_callsAll_13 : decode cX10_callsAll 13 = .ok (.iconst 0, 1) := by decide +kernel
theorem dX10_callsAll_14 : decode cX10_callsAll 14 = .ok (.iastore, 1) := by decide +kernel
theorem dX10_callsAll_15 : decode cX10_callsAll 15 = .ok (.iinc 1 1, 3) := by decide +kernel
theorem dX10_callsAll_18 : decode cX10_callsAll 18 = .ok (.goto (-16), 3) := by decide +kernel
theorem dX10_callsAll_21 : decode cX10_callsAll 21 = .ok (.iconst 0, 1) := by decide +kernel
theorem dX10_callsAll_22 : decode cX10_callsAll 22 = .ok (.istore_n 1, 1) := by decide +kernel
theorem dX10_callsAll_23 : decode cX10_callsAll 23 = .ok (.iload_n 1, 1) := by decide +kernel
theorem dX10_callsAll_24 : decode cX10_callsAll 24 = .ok (.aload_n 0, 1) := by decide +kernel
theorem dX10_callsAll_25 : decode cX10_callsAll 25 = .ok (.getfield 13, 3) := by decide +kernel
theorem dX10_callsAll_28 : decode cX10_callsAll 28 = .ok (.bipush 8, 2) := by decide +kernel
theorem dX10_callsAll_30 : decode cX10_callsAll 30 = .ok (.iaload, 1) := by decide +kernel
theorem dX10_callsAll_31 : decode cX10_callsAll 31 = .ok (.if_icmp .ge 72, 3) := by decide +kernel
theorem dX10_callsAll_34 : decode cX10_callsAll 34 = .ok (.aload_n 0, 1) := by decide +kernel
theorem dX10_callsAll_35 : decode cX10_callsAll 35 = .ok (.getfield 13, 3) := by decide +kernel
theorem dX10_callsAll_38 : decode cX10_callsAll 38 = .ok (.sipush 6680, 3) := by decide +kernel
theorem dX10_callsAll_41 : decode cX10_callsAll 41 = .ok (.iconst 4, 1) := by decide +kernel
theorem dX10_callsAll_42 : decode cX10_callsAll 42 = .ok (.iload_n 1, 1) := by decide +kernel
theorem dX10_callsAll_43 : decode cX10_callsAll 43 = .ok (.imul, 1) := by decide +kernel
theorem dX10_callsAll_44 : decode cX10_callsAll 44 = .ok (.iadd, 1) := by decide +kernel
theorem dX10_callsAll_45 : decode cX10_callsAll 45 = .ok (.iconst 2, 1) := by decide +kernel
theorem dX10_callsAll_46 : decode cX10_callsAll 46 = .ok (.iadd, 1) := by decide +kernel
theorem dX10_callsAll_47 : decode cX10_callsAll 47 = .ok (.iaload, 1) := by decide +kernel
theorem dX10_callsAll_48 : decode cX10_callsAll 48 = .ok (.i2l, 1) := by decide +kernel
theorem dX10_callsAll_49 : decode cX10_callsAll 49 = .ok (.ldc2_w 99, 3) := by decide +kernel
theorem dX10_callsAll_52 : decode cX10_callsAll 52 = .ok (.ldc2_w 313, 3) := by decide +kernel
theorem dX10_callsAll_55 : decode cX10_callsAll 55 = .ok (.invokestatic 101, 3) := by decide +kernel
theorem dX10_callsAll_58 : decode cX10_callsAll 58 = .ok (.ifCond .eq 39, 3) := by decide +kernel
theorem dX10_callsAll_61 : decode cX10_callsAll 61 = .ok (.aload_n 0, 1) := by decide +kernel
theorem dX10_callsAll_62 : decode cX10_callsAll 62 = .ok (.getfield 80, 3) := by decide +kernel
theorem dX10_callsAll_65 : decode cX10_callsAll 65 = .ok (.aload_n 0, 1) := by decide +kernel
theorem dX10_callsAll_66 : decode cX10_callsAll 66 = .ok (.getfield 13, 3) := by decide +kernel
theorem dX10_callsAll_69 : decode cX10_callsAll 69 = .ok (.sipush 6680, 3) := by decide +kernel
theorem dX10_callsAll_72 : decode cX10_callsAll 72 = .ok (.iconst 4, 1) := by decide +kernel
theorem dX10_callsAll_73 : decode cX10_callsAll 73 = .ok (.iload_n 1, 1) := by decide +kernel
theorem dX10_callsAll_74 : decode cX10_callsAll 74 = .ok (.imul, 1) := by decide +kernel
theorem dX10_callsAll_75 : decode cX10_callsAll 75 = .ok (.iadd, 1) := by decide +kernel
theorem dX10_callsAll_76 : decode cX10_callsAll 76 = .ok (.iaload, 1) := by decide +kernel
theorem dX10_callsAll_77 : decode cX10_callsAll 77 = .ok (.dup2, 1) := by decide +kernel
theorem dX10_callsAll_78 : decode cX10_callsAll 78 = .ok (.iaload, 1) := by decide +kernel
theorem dX10_callsAll_79 : decode cX10_callsAll 79 = .ok (.iconst 1, 1) := by decide +kernel
theorem dX10_callsAll_80 : decode cX10_callsAll 80 = .ok (.aload_n 0, 1) := by decide +kernel
theorem dX10_callsAll_81 : decode cX10_callsAll 81 = .ok (.getfield 13, 3) := by decide +kernel
theorem dX10_callsAll_84 : decode cX10_callsAll 84 = .ok (.sipush 6680, 3) := by decide +kernel
theorem dX10_callsAll_87 : decode cX10_callsAll 87 = .ok (.iconst 4, 1) := by decide +kernel
theorem dX10_callsAll_88 : decode cX10_callsAll 88 = .ok (.iload_n 1, 1) := by decide +kernel
theorem dX10_callsAll_89 : decode cX10_callsAll 89 = .ok (.imul, 1) := by decide +kernel
theorem dX10_callsAll_90 : decode cX10_callsAll 90 = .ok (.iadd, 1) := by decide +kernel
theorem dX10_callsAll_91 : decode cX10_callsAll 91 = .ok (.iconst 1, 1) := by decide +kernel
theorem dX10_callsAll_92 : decode cX10_callsAll 92 = .ok (.iadd, 1) := by decide +kernel
theorem dX10_callsAll_93 : decode cX10_callsAll 93 = .ok (.iaload, 1) := by decide +kernel
theorem dX10_callsAll_94 : decode cX10_callsAll 94 = .ok (.ishl, 1) := by decide +kernel
theorem dX10_callsAll_95 : decode cX10_callsAll 95 = .ok (.ior, 1) := by decide +kernel
theorem dX10_callsAll_96 : decode cX10_callsAll 96 = .ok (.iastore, 1) := by decide +kernel
theorem dX10_callsAll_97 : decode cX10_callsAll 97 = .ok (.iinc 1 1, 3) := by decide +kernel
theorem dX10_callsAll_100 : decode cX10_callsAll 100 = .ok (.goto (-77), 3) := by decide +kernel
theorem dX10_callsAll_103 : decode cX10_callsAll 103 = .ok (.return_, 1) := by decide +kernel
theorem dX10_ring_0 : decode cX10_ring 0 = .ok (.aload_n 0, 1) := by decide +kernel
theorem dX10_ring_1 : decode cX10_ring 1 = .ok (.iload_n 1, 1) := by decide +kernel
theorem dX10_ring_2 : decode cX10_ring 2 = .ok (.invokevirtual 105, 3) := by decide +kernel
theorem dX10_ring_5 : decode cX10_ring 5 = .ok (.ifCond .ne 6, 3) := by decide +kernel
theorem dX10_ring_8 : decode cX10_ring 8 = .ok (.bipush (-2), 2) := by decide +kernel
theorem dX10_ring_10 : decode cX10_ring 10 = .ok (.ireturn, 1) := by decide +kernel
theorem dX10_ring_11 : decode cX10_ring 11 = .ok (.aload_n 0, 1) := by decide +kernel
theorem dX10_ring_12 : decode cX10_ring 12 = .ok (.invokevirtual 462, 3) := by decide +kernel
theorem dX10_ring_15 : decode cX10_ring 15 = .ok (.aload_n 0, 1) := by decide +kernel
theorem dX10_ring_16 : decode cX10_ring 16 = .ok (.iload_n 1, 1) := by decide +kernel
theorem dX10_ring_17 : decode cX10_ring 17 = .ok (.invokevirtual 465, 3) := by decide +kernel
theorem dX10_ring_20 : decode cX10_ring 20 = .ok (.ireturn, 1) := by decide +kernel
theorem dX10_rings_0 : decode cX10_rings 0 = .ok (.aload_n 0, 1) := by decide +kernel
theorem dX10_rings_1 : decode cX10_rings 1 = .ok (.invokevirtual 462, 3) := by decide +kernel
theorem dX10_rings_4 : decode cX10_rings 4 = .ok (.iconst 0, 1) := by decide +kernel
theorem dX10_rings_5 : decode cX10_rings 5 = .ok (.istore_n 1, 1) := by decide +kernel
theorem dX10_rings_6 : decode cX10_rings 6 = .ok (.iconst 0, 1) := by decide +kernel
theorem dX10_rings_7 : decode cX10_rings 7 = .ok (.istore_n 2, 1) := by decide +kernel
theorem dX10_rings_8 : decode cX10_rings 8 = .ok (.iload_n 2, 1) := by decide +kernel
theorem dX10_rings_9 : decode cX10_rings 9 = .ok (.aload_n 0, 1) := by decide +kernel
theorem dX10_rings_10 : decode cX10_rings 10 = .ok (.getfield 13, 3) := by decide +kernel
theorem dX10_rings_13 : decode cX10_rings 13 = .ok (.iconst 0, 1) := by decide +kernel
theorem dX10_rings_14 : decode cX10_rings 14 = .ok (.iaload, 1) := by decide +kernel
theorem dX10_rings_15 : decode cX10_rings 15 = .ok (.if_icmp .ge 37, 3) := by decide +kernel
theorem dX10_rings_18 : decode cX10_rings 18 = .ok (.aload_n 0, 1) := by decide +kernel
theorem dX10_rings_19 : decode cX10_rings 19 = .ok (.iload_n 2, 1) := by decide +kernel
theorem dX10_rings_20 : decode cX10_rings 20 = .ok (.invokevirtual 465, 3) := by decide +kernel
theorem dX10_rings_23 : decode cX10_rings 23 = .ok (.istore_n 3, 1) := by decide +kernel
theorem dX10_rings_24 : decode cX10_rings 24 = .ok (.iload_n 1, 1) := by decide +kernel
theorem dX10_rings_25 : decode cX10_rings 25 = .ok (.iload_n 3, 1) := by decide +kernel
theorem dX10_rings_26 : decode cX10_rings 26 = .ok (.ifCond .eq 17, 3) := by decide +kernel
theorem dX10_rings_29 : decode cX10_rings 29 = .ok (.iload_n 3, 1) := by decide +kernel
theorem dX10_rings_30 : decode cX10_rings 30 = .ok (.iconst 1, 1) := by decide +kernel
theorem dX10_rings_31 : decode cX10_rings 31 = .ok (.iload_n 2, 1) := by decide +kernel
theorem dX10_rings_32 : decode cX10_rings 32 = .ok (.ishl, 1) := by decide +kernel
theorem dX10_rings_33 : decode cX10_rings 33 = .ok (.iconst 1, 1) := by decide +kernel
theorem dX10_rings_34 : decode cX10_rings 34 = .ok (.isub, 1) := by decide +kernel
theorem dX10_rings_35 : decode cX10_rings 35 = .ok (.iand, 1) := by decide +kernel
theorem dX10_rings_36 : decode cX10_rings 36 = .ok (.ifCond .ne 7, 3) := by decide +kernel
theorem dX10_rings_39 : decode cX10_rings 39 = .ok (.iconst 1, 1) := by decide +kernel
theorem dX10_rings_40 : decode cX10_rings 40 = .ok (.goto 4, 3) := by decide +kernel
theorem dX10_rings_43 : decode cX10_rings 43 = .ok (.iconst 0, 1) := by decide +kernel
theorem dX10_rings_44 : decode cX10_rings 44 = .ok (.iadd, 1) := by decide +kernel
theorem dX10_rings_45 : decode cX10_rings 45 = .ok (.istore_n 1, 1) := by decide +kernel
theorem dX10_rings_46 : decode cX10_rings 46 = .ok (.iinc 2 1, 3) := by decide +kernel
theorem dX10_rings_49 : decode cX10_rings 49 = .ok (.goto (-41), 3) := by decide +kernel
theorem dX10_rings_52 : decode cX10_rings 52 = .ok (.iload_n 1, 1) := by decide +kernel
theorem dX10_rings_53 : decode cX10_rings 53 = .ok (.ireturn, 1) := by decide +kernel
theorem dX10_house_0 : decode cX10_house 0 = .ok (.aload_n 0, 1) := by decide +kernel
theorem dX10_house_1 : decode cX10_house 1 = .ok (.iload_n 1, 1) := by decide +kernel
theorem dX10_house_2 : decode cX10_house 2 = .ok (.invokevirtual 105, 3) := by decide +kernel
theorem dX10_house_5 : decode cX10_house 5 = .ok (.ifCond .eq 15, 3) := by decide +kernel
theorem dX10_house_8 : decode cX10_house 8 = .ok (.iload_n 2, 1) := by decide +kernel
theorem dX10_house_9 : decode cX10_house 9 = .ok (.i2l, 1) := by decide +kernel
theorem dX10_house_10 : decode cX10_house 10 = .ok (.lconst 0, 1) := by decide +kernel
theorem dX10_house_11 : decode cX10_house 11 = .ok (.ldc2_w 468, 3) := by decide +kernel
theorem dX10_house_14 : decode cX10_house 14 = .ok (.invokestatic 101, 3) := by decide +kernel
theorem dX10_house_17 : decode cX10_house 17 = .ok (.ifCond .ne 7, 3) := by decide +kernel
theorem dX10_house_20 : decode cX10_house 20 = .ok (.ldc_w 470, 3) := by decide +kernel
theorem dX10_house_23 : decode cX10_house 23 = .ok (.ireturn, 1) := by decide +kernel
theorem dX10_house_24 : decode cX10_house 24 = .ok (.iload_n 2, 1) := by decide +kernel
theorem dX10_house_25 : decode cX10_house 25 = .ok (.bipush 7, 2) := by decide +kernel
theorem dX10_house_27 : decode cX10_house 27 = .ok (.if_icmp .ge 10, 3) := by decide +kernel
theorem dX10_house_30 : decode cX10_house 30 = .ok (.aload_n 0, 1) := by decide +kernel
theorem dX10_house_31 : decode cX10_house 31 = .ok (.iload_n 1, 1) := by decide +kernel
theorem dX10_house_32 : decode cX10_house 32 = .ok (.iload_n 2, 1) := by decide +kernel
theorem dX10_house_33 : decode cX10_house 33 = .ok (.invokevirtual 286, 3) := by decide +kernel
theorem dX10_house_36 : decode cX10_house 36 = .ok (.ireturn, 1) := by decide +kernel
theorem dX10_house_37 : decode cX10_house 37 = .ok (.iconst 0, 1) := by decide +kernel
theorem dX10_house_38 : decode cX10_house 38 = .ok (.istore_n 3, 1) := by decide +kernel
theorem dX10_house_39 : decode cX10_house 39 = .ok (.iconst 0, 1) := by decide +kernel
theorem dX10_house_40 : decode cX10_house 40 = .ok (.istore 4, 2) := by decide +kernel
theorem dX10_house_42 : decode cX10_house 42 = .ok (.iload 4, 2) := by decide +kernel
theorem dX10_house_44 : decode cX10_house 44 = .ok (.aload_n 0, 1) := by decide +kernel
theorem dX10_house_45 : decode cX10_house 45 = .ok (.getfield 13, 3) := by decide +kernel
theorem dX10_house_48 : decode cX10_house 48 = .ok (.bipush 8, 2) := by decide +kernel
theorem dX10_house_50 : decode cX10_house 50 = .ok (.iaload, 1) := by decide +kernel
theorem dX10_house_51 : decode cX10_house 51 = .ok (.if_icmp .ge 67, 3) := by decide +kernel
theorem dX10_house_54 : decode cX10_house 54 = .ok (.iload_n 3, 1) := by decide +kernel
theorem dX10_house_55 : decode cX10_house 55 = .ok (.aload_n 0, 1) := by decide +kernel
theorem dX10_house_56 : decode cX10_house 56 = .ok (.getfield 13, 3) := by decide +kernel
theorem dX10_house_59 : decode cX10_house 59 = .ok (.sipush 6680, 3) := by decide +kernel
theorem dX10_house_62 : decode cX10_house 62 = .ok (.iconst 4, 1) := by decide +kernel
theorem dX10_house_63 : decode cX10_house 63 = .ok (.iload 4, 2) := by decide +kernel
theorem dX10_house_65 : decode cX10_house 65 = .ok (.imul, 1) := by decide +kernel
theorem dX10_house_66 : decode cX10_house 66 = .ok (.iadd, 1) := by decide +kernel
theorem dX10_house_67 : decode cX10_house 67 = .ok (.iconst 2, 1) := by decide +kernel
theorem dX10_house_68 : decode cX10_house 68 = .ok (.iadd, 1) := by decide +kernel
theorem dX10_house_69 : decode cX10_house 69 = .ok (.iaload, 1) := by decide +kernel
theorem dX10_house_70 : decode cX10_house 70 = .ok (.i2l, 1) := by decide +kernel
theorem dX10_house_71 : decode cX10_house 71 = .ok (.ldc2_w 99, 3) := by decide +kernel
theorem dX10_house_74 : decode cX10_house 74 = .ok (.ldc2_w 313, 3) := by decide +kernel
theorem dX10_house_77 : decode cX10_house 77 = .ok (.invokestatic 101, 3) := by decide +kernel
theorem dX10_house_80 : decode cX10_house 80 = .ok (.ifCond .eq 29, 3) := by decide +kernel
theorem dX10_house_83 : decode cX10_house 83 = .ok (.aload_n 0, 1) := by decide +kernel
theorem dX10_house_84 : decode cX10_house 84 = .ok (.getfield 13, 3) := by decide +kernel
theorem dX10_house_87 : decode cX10_house 87 = .ok (.sipush 6680, 3) := by decide +kernel
theorem dX10_house_90 : decode cX10_house 90 = .ok (.iconst 4, 1) := by decide +kernel
theorem dX10_house_91 : decode cX10_house 91 = .ok (.iload 4, 2) := by decide +kernel
theorem dX10_house_93 : decode cX10_house 93 = .ok (.imul, 1) := by decide +kernel
theorem dX10_house_94 : decode cX10_house 94 = .ok (.iadd, 1) := by decide +kernel
theorem dX10_house_95 : decode cX10_house 95 = .ok (.iload_n 2, 1) := by decide +kernel
theorem dX10_house_96 : decode cX10_house 96 = .ok (.iadd, 1) := by decide +kernel
theorem dX10_house_97 : decode cX10_house 97 = .ok (.bipush 7, 2) := by decide +kernel
theorem dX10_house_99 : decode cX10_house 99 = .ok (.isub, 1) := by decide +kernel
theorem dX10_house_100 : decode cX10_house 100 = .ok (.iaload, 1) := by decide +kernel
theorem dX10_house_101 : decode cX10_house 101 = .ok (.iload_n 1, 1) := by decide +kernel
theorem dX10_house_102 : decode cX10_house 102 = .ok (.if_icmp .ne 7, 3) := by decide +kernel
theorem dX10_house_105 : decode cX10_house 105 = .ok (.iconst 1, 1) := by decide +kernel
theorem dX10_house_106 : decode cX10_house 106 = .ok (.goto 4, 3) := by decide +kernel
theorem dX10_house_109 : decode cX10_house 109 = .ok (.iconst 0, 1) := by decide +kernel
theorem dX10_house_110 : decode cX10_house 110 = .ok (.iadd, 1) := by decide +kernel
theorem dX10_house_111 : decode cX10_house 111 = .ok (.istore_n 3, 1) := by decide +kernel
theorem dX10_house_112 : decode cX10_house 112 = .ok (.iinc 4 1, 3) := by decide +kernel
theorem dX10_house_115 : decode cX10_house 115 = .ok (.goto (-73), 3) := by decide +kernel
theorem dX10_house_118 : decode cX10_house 118 = .ok (.iload_n 3, 1) := by decide +kernel
theorem dX10_house_119 : decode cX10_house 119 = .ok (.ireturn, 1) := by decide +kernel
theorem dX10_beside_0 : decode cX10_beside 0 = .ok (.iload_n 1, 1) := by decide +kernel
theorem dX10_beside_1 : decode cX10_beside 1 = .ok (.i2l, 1) := by decide +kernel
theorem dX10_beside_2 : decode cX10_beside 2 = .ok (.lconst 0, 1) := by decide +kernel
theorem dX10_beside_3 : decode cX10_beside 3 = .ok (.ldc2_w 99, 3) := by decide +kernel
theorem dX10_beside_6 : decode cX10_beside 6 = .ok (.invokestatic 101, 3) := by decide +kernel
theorem dX10_beside_9 : decode cX10_beside 9 = .ok (.ifCond .ne 6, 3) := by decide +kernel
theorem dX10_beside_12 : decode cX10_beside 12 = .ok (.bipush (-2), 2) := by decide +kernel
theorem dX10_beside_14 : decode cX10_beside 14 = .ok (.ireturn, 1) := by decide +kernel
theorem dX10_beside_15 : decode cX10_beside 15 = .ok (.aload_n 0, 1) := by decide +kernel
theorem dX10_beside_16 : decode cX10_beside 16 = .ok (.getfield 20, 3) := by decide +kernel
theorem dX10_beside_19 : decode cX10_beside 19 = .ok (.iload_n 1, 1) := by decide +kernel
theorem dX10_beside_20 : decode cX10_beside 20 = .ok (.baload, 1) := by decide +kernel
theorem dX10_beside_21 : decode cX10_beside 21 = .ok (.ifCond .ne 6, 3) := by decide +kernel
theorem dX10_beside_24 : decode cX10_beside 24 = .ok (.bipush (-6), 2) := by decide +kernel
theorem dX10_beside_26 : decode cX10_beside 26 = .ok (.ireturn, 1) := by decide +kernel
theorem dX10_beside_27 : decode cX10_beside 27 = .ok (.iconst 0, 1) := by decide +kernel
theorem dX10_beside_28 : decode cX10_beside 28 = .ok (.istore_n 2, 1) := by decide +kernel
theorem dX10_beside_29 : decode cX10_beside 29 = .ok (.iload_n 2, 1) := by decide +kernel
theorem dX10_beside_30 : decode cX10_beside 30 = .ok (.sipush 9080, 3) := by decide +kernel
theorem dX10_beside_33 : decode cX10_beside 33 = .ok (.if_icmp .ge 21, 3) := by decide +kernel
theorem dX10_beside_36 : decode cX10_beside 36 = .ok (.aload_n 0, 1) := by decide +kernel
theorem dX10_beside_37 : decode cX10_beside 37 = .ok (.getfield 83, 3) := by decide +kernel
theorem dX10_beside_40 : decode cX10_beside 40 = .ok (.iload_n 2, 1) := by decide +kernel
theorem dX10_beside_41 : decode cX10_beside 41 = .ok (.aload_n 0, 1) := by decide +kernel
theorem dX10_beside_42 : decode cX10_beside 42 = .ok (.getfield 13, 3) := by decide +kernel
theorem dX10_beside_45 : decode cX10_beside 45 = .ok (.iload_n 2, 1) := by decide +kernel
theorem dX10_beside_46 : decode cX10_beside 46 = .ok (.iaload, 1) := by decide +kernel
theorem dX10_beside_47 : decode cX10_beside 47 = .ok (.iastore, 1) := by decide +kernel
theorem dX10_beside_48 : decode cX10_beside 48 = .ok (.iinc 2 1, 3) := by decide +kernel
theorem dX10_beside_51 : decode cX10_beside 51 = .ok (.goto (-22), 3) := by decide +kernel
theorem dX10_beside_54 : decode cX10_beside 54 = .ok (.sipush 154, 3) := by decide +kernel
theorem dX10_beside_57 : decode cX10_beside 57 = .ok (.istore_n 2, 1) := by decide +kernel
theorem dX10_beside_58 : decode cX10_beside 58 = .ok (.iload_n 2, 1) := by decide +kernel
theorem dX10_beside_59 : decode cX10_beside 59 = .ok (.sipush 1864, 3) := by decide +kernel
theorem dX10_beside_62 : decode cX10_beside 62 = .ok (.if_icmp .ge 27, 3) := by decide +kernel
theorem dX10_beside_65 : decode cX10_beside 65 = .ok (.aload_n 0, 1) := by decide +kernel
theorem dX10_beside_66 : decode cX10_beside 66 = .ok (.getfield 13, 3) := by decide +kernel
theorem dX10_beside_69 : decode cX10_beside 69 = .ok (.iload_n 2, 1) := by decide +kernel
theorem dX10_beside_70 : decode cX10_beside 70 = .ok (.aload_n 0, 1) := by decide +kernel
theorem dX10_beside_71 : decode cX10_beside 71 = .ok (.getfield 17, 3) := by decide +kernel
theorem dX10_beside_74 : decode cX10_beside 74 = .ok (.sipush 9080, 3) := by decide +kernel
theorem dX10_beside_77 : decode cX10_beside 77 = .ok (.iload_n 1, 1) := by decide +kernel
theorem dX10_beside_78 : decode cX10_beside 78 = .ok (.imul, 1) := by decide +kernel
theorem dX10_beside_79 : decode cX10_beside 79 = .ok (.iload_n 2, 1) := by decide +kernel
theorem dX10_beside_80 : decode cX10_beside 80 = .ok (.iadd, 1) := by decide +kernel
theorem dX10_beside_81 : decode cX10_beside 81 = .ok (.iaload, 1) := by decide +kernel
theorem dX10_beside_82 : decode cX10_beside 82 = .ok (.iastore, 1) := by decide +kernel
theorem dX10_beside_83 : decode cX10_beside 83 = .ok (.iinc 2 1, 3) := by decide +kernel
theorem dX10_beside_86 : decode cX10_beside 86 = .ok (.goto (-28), 3) := by decide +kernel
theorem dX10_beside_89 : decode cX10_beside 89 = .ok (.iconst 1, 1) := by decide +kernel
theorem dX10_beside_90 : decode cX10_beside 90 = .ok (.istore_n 2, 1) := by decide +kernel
theorem dX10_beside_91 : decode cX10_beside 91 = .ok (.iload_n 2, 1) := by decide +kernel
theorem dX10_beside_92 : decode cX10_beside 92 = .ok (.iconst 3, 1) := by decide +kernel
theorem dX10_beside_93 : decode cX10_beside 93 = .ok (.if_icmp .gt 27, 3) := by decide +kernel
theorem dX10_beside_96 : decode cX10_beside 96 = .ok (.aload_n 0, 1) := by decide +kernel
theorem dX10_beside_97 : decode cX10_beside 97 = .ok (.getfield 13, 3) := by decide +kernel
theorem dX10_beside_100 : decode cX10_beside 100 = .ok (.iload_n 2, 1) := by decide +kernel
theorem dX10_beside_101 : decode cX10_beside 101 = .ok (.aload_n 0, 1) := by decide +kernel
theorem dX10_beside_102 : decode cX10_beside 102 = .ok (.getfield 17, 3) := by decide +kernel
theorem dX10_beside_105 : decode cX10_beside 105 = .ok (.sipush 9080, 3) := by decide +kernel
theorem dX10_beside_108 : decode cX10_beside 108 = .ok (.iload_n 1, 1) := by decide +kernel
theorem dX10_beside_109 : decode cX10_beside 109 = .ok (.imul, 1) := by decide +kernel
theorem dX10_beside_110 : decode cX10_beside 110 = .ok (.iload_n 2, 1) := by decide +kernel
theorem dX10_beside_111 : decode cX10_beside 111 = .ok (.iadd, 1) := by decide +kernel
theorem dX10_beside_112 : decode cX10_beside 112 = .ok (.iaload, 1) := by decide +kernel
theorem dX10_beside_113 : decode cX10_beside 113 = .ok (.iastore, 1) := by decide +kernel
theorem dX10_beside_114 : decode cX10_beside 114 = .ok (.iinc 2 1, 3) := by decide +kernel
theorem dX10_beside_117 : decode cX10_beside 117 = .ok (.goto (-26), 3) := by decide +kernel
theorem dX10_beside_120 : decode cX10_beside 120 = .ok (.iconst 0, 1) := by decide +kernel
theorem dX10_beside_121 : decode cX10_beside 121 = .ok (.istore_n 2, 1) := by decide +kernel
theorem dX10_beside_122 : decode cX10_beside 122 = .ok (.iload_n 2, 1) := by decide +kernel
theorem dX10_beside_123 : decode cX10_beside 123 = .ok (.bipush 16, 2) := by decide +kernel
theorem dX10_beside_125 : decode cX10_beside 125 = .ok (.if_icmp .ge 26, 3) := by decide +kernel
theorem dX10_beside_128 : decode cX10_beside 128 = .ok (.aload_n 0, 1) := by decide +kernel
theorem dX10_beside_129 : decode cX10_beside 129 = .ok (.getfield 13, 3) := by decide +kernel
theorem dX10_beside_132 : decode cX10_beside 132 = .ok (.sipush 1864, 3) := by decide +kernel
theorem dX10_beside_135 : decode cX10_beside 135 = .ok (.iload_n 2, 1) := by decide +kernel
theorem dX10_beside_136 : decode cX10_beside 136 = .ok (.iadd, 1) := by decide +kernel
theorem dX10_beside_137 : decode cX10_beside 137 = .ok (.aload_n 0, 1) := by decide +kernel
theorem dX10_beside_138 : decode cX10_beside 138 = .ok (.iload_n 2, 1) := by decide +kernel
theorem dX10_beside_139 : decode cX10_beside 139 = .ok (.bipush 8, 2) := by decide +kernel
theorem dX10_beside_141 : decode cX10_beside 141 = .ok (.invokevirtual 286, 3) := by decide +kernel
theorem dX10_beside_144 : decode cX10_beside 144 = .ok (.iastore, 1) := by decide +kernel
theorem dX10_beside_145 : decode cX10_beside 145 = .ok (.iinc 2 1, 3) := by decide +kernel
theorem dX10_beside_148 : decode cX10_beside 148 = .ok (.goto (-26), 3) := by decide +kernel
theorem dX10_beside_151 : decode cX10_beside 151 = .ok (.aload_n 0, 1) := by decide +kernel
theorem dX10_beside_152 : decode cX10_beside 152 = .ok (.getfield 13, 3) := by decide +kernel
theorem dX10_beside_155 : decode cX10_beside 155 = .ok (.bipush 7, 2) := by decide +kernel
theorem dX10_beside_157 : decode cX10_beside 157 = .ok (.iconst 0, 1) := by decide +kernel
theorem dX10_beside_158 : decode cX10_beside 158 = .ok (.iastore, 1) := by decide +kernel
theorem dX10_beside_159 : decode cX10_beside 159 = .ok (.iconst 0, 1) := by decide +kernel
theorem dX10_beside_160 : decode cX10_beside 160 = .ok (.istore_n 2, 1) := by decide +kernel
theorem dX10_beside_161 : decode cX10_beside 161 = .ok (.iload_n 2, 1) := by decide +kernel
theorem dX10_beside_162 : decode cX10_beside 162 = .ok (.aload_n 0, 1) := by decide +kernel
theorem dX10_beside_163 : decode cX10_beside 163 = .ok (.getfield 13, 3) := by decide +kernel
theorem dX10_beside_166 : decode cX10_beside 166 = .ok (.bipush 8, 2) := by decide +kernel
theorem dX10_beside_168 : decode cX10_beside 168 = .ok (.iaload, 1) := by decide +kernel
theorem dX10_beside_169 : decode cX10_beside 169 = .ok (.if_icmp .ge 53, 3) := by decide +kernel
theorem dX10_beside_172 : decode cX10_beside 172 = .ok (.sipush 6680, 3) := by decide +kernel
theorem dX10_beside_175 : decode cX10_beside 175 = .ok (.iconst 4, 1) := by decide +kernel
theorem dX10_beside_176 : decode cX10_beside 176 = .ok (.iload_n 2, 1) := by decide +kernel
theorem dX10_beside_177 : decode cX10_beside 177 = .ok (.imul, 1) := by decide +kernel
theorem dX10_beside_178 : decode cX10_beside 178 = .ok (.iadd, 1) := by decide +kernel
theorem dX10_beside_179 : decode cX10_beside 179 = .ok (.istore_n 3, 1) := by decide +kernel
theorem dX10_beside_180 : decode cX10_beside 180 = .ok (.aload_n 0, 1) := by decide +kernel
theorem dX10_beside_181 : decode cX10_beside 181 = .ok (.aload_n 0, 1) := by decide +kernel
theorem dX10_beside_182 : decode cX10_beside 182 = .ok (.getfield 13, 3) := by decide +kernel
theorem dX10_beside_185 : decode cX10_beside 185 = .ok (.iload_n 3, 1) := by decide +kernel
theorem dX10_beside_186 : decode cX10_beside 186 = .ok (.iaload, 1) := by decide +kernel
theorem dX10_beside_187 : decode cX10_beside 187 = .ok (.aload_n 0, 1) := by decide +kernel
theorem dX10_beside_188 : decode cX10_beside 188 = .ok (.getfield 13, 3) := by decide +kernel
theorem dX10_beside_191 : decode cX10_beside 191 = .ok (.iload_n 3, 1) := by decide +kernel
theorem dX10_beside_192 : decode cX10_beside 192 = .ok (.iconst 1, 1) := by decide +kernel
theorem dX10_beside_193 : decode cX10_beside 193 = .ok (.iadd, 1) := by decide +kernel
theorem dX10_beside_194 : decode cX10_beside 194 = .ok (.iaload, 1) := by decide +kernel
theorem dX10_beside_195 : decode cX10_beside 195 = .ok (.aload_n 0, 1) := by decide +kernel
theorem dX10_beside_196 : decode cX10_beside 196 = .ok (.getfield 13, 3) := by decide +kernel
theorem dX10_beside_199 : decode cX10_beside 199 = .ok (.iload_n 3, 1) := by decide +kernel
theorem dX10_beside_200 : decode cX10_beside 200 = .ok (.iconst 2, 1) := by decide +kernel
theorem dX10_beside_201 : decode cX10_beside 201 = .ok (.iadd, 1) := by decide +kernel
theorem dX10_beside_202 : decode cX10_beside 202 = .ok (.iaload, 1) := by decide +kernel
theorem dX10_beside_203 : decode cX10_beside 203 = .ok (.aload_n 0, 1) := by decide +kernel
theorem dX10_beside_204 : decode cX10_beside 204 = .ok (.getfield 13, 3) := by decide +kernel
theorem dX10_beside_207 : decode cX10_beside 207 = .ok (.iload_n 3, 1) := by decide +kernel
theorem dX10_beside_208 : decode cX10_beside 208 = .ok (.iconst 3, 1) := by decide +kernel
theorem dX10_beside_209 : decode cX10_beside 209 = .ok (.iadd, 1) := by decide +kernel
theorem dX10_beside_210 : decode cX10_beside 210 = .ok (.iaload, 1) := by decide +kernel
theorem dX10_beside_211 : decode cX10_beside 211 = .ok (.invokevirtual 364, 3) := by decide +kernel
theorem dX10_beside_214 : decode cX10_beside 214 = .ok (.istore 4, 2) := by decide +kernel
theorem dX10_beside_216 : decode cX10_beside 216 = .ok (.iinc 2 1, 3) := by decide +kernel
theorem dX10_beside_219 : decode cX10_beside 219 = .ok (.goto (-58), 3) := by decide +kernel
theorem dX10_beside_222 : decode cX10_beside 222 = .ok (.aload_n 0, 1) := by decide +kernel
theorem dX10_beside_223 : decode cX10_beside 223 = .ok (.getfield 13, 3) := by decide +kernel
theorem dX10_beside_226 : decode cX10_beside 226 = .ok (.bipush 7, 2) := by decide +kernel
theorem dX10_beside_228 : decode cX10_beside 228 = .ok (.iaload, 1) := by decide +kernel
theorem dX10_beside_229 : decode cX10_beside 229 = .ok (.istore_n 2, 1) := by decide +kernel
theorem dX10_beside_230 : decode cX10_beside 230 = .ok (.iconst 0, 1) := by decide +kernel
theorem dX10_beside_231 : decode cX10_beside 231 = .ok (.istore_n 3, 1) := by decide +kernel
theorem dX10_beside_232 : decode cX10_beside 232 = .ok (.iload_n 3, 1) := by decide +kernel
theorem dX10_beside_233 : decode cX10_beside 233 = .ok (.sipush 9080, 3) := by decide +kernel
theorem dX10_beside_236 : decode cX10_beside 236 = .ok (.if_icmp .ge 21, 3) := by decide +kernel
theorem dX10_beside_239 : decode cX10_beside 239 = .ok (.aload_n 0, 1) := by decide +kernel
theorem dX10_beside_240 : decode cX10_beside 240 = .ok (.getfield 13, 3) := by decide +kernel
theorem dX10_beside_243 : decode cX10_beside 243 = .ok (.iload_n 3, 1) := by decide +kernel
theorem dX10_beside_244 : decode cX10_beside 244 = .ok (.aload_n 0, 1) := by decide +kernel
theorem dX10_beside_245 : decode cX10_beside 245 = .ok (.getfield 83, 3) := by decide +kernel
theorem dX10_beside_248 : decode cX10_beside 248 = .ok (.iload_n 3, 1) := by decide +kernel
theorem dX10_beside_249 : decode cX10_beside 249 = .ok (.iaload, 1) := by decide +kernel
theorem dX10_beside_250 : decode cX10_beside 250 = .ok (.iastore, 1) := by decide +kernel
theorem dX10_beside_251 : decode cX10_beside 251 = .ok (.iinc 3 1, 3) := by decide +kernel
theorem dX10_beside_254 : decode cX10_beside 254 = .ok (.goto (-22), 3) := by decide +kernel
theorem dX10_beside_257 : decode cX10_beside 257 = .ok (.iload_n 2, 1) := by decide +kernel
theorem dX10_beside_258 : decode cX10_beside 258 = .ok (.ireturn, 1) := by decide +kernel
theorem dX10_count_0 : decode cX10_count 0 = .ok (.iconst 0, 1) := by decide +kernel
theorem dX10_count_1 : decode cX10_count 1 = .ok (.istore_n 2, 1) := by decide +kernel
theorem dX10_count_2 : decode cX10_count 2 = .ok (.iload_n 1, 1) := by decide +kernel
theorem dX10_count_3 : decode cX10_count 3 = .ok (.tableswitch 194 0 10 #[57, 64, 71, 76, 84, 126, 134, 142, 147, 154, 161], 57) := by decide +kernel
theorem dX10_count_60 : decode cX10_count 60 = .ok (.aload_n 0, 1) := by decide +kernel
theorem dX10_count_61 : decode cX10_count 61 = .ok (.getfield 13, 3) := by decide +kernel
theorem dX10_count_64 : decode cX10_count 64 = .ok (.iconst 0, 1) := by decide +kernel
theorem dX10_count_65 : decode cX10_count 65 = .ok (.iaload, 1) := by decide +kernel
theorem dX10_count_66 : decode cX10_count 66 = .ok (.ireturn, 1) := by decide +kernel
theorem dX10_count_67 : decode cX10_count 67 = .ok (.aload_n 0, 1) := by decide +kernel
theorem dX10_count_68 : decode cX10_count 68 = .ok (.getfield 13, 3) := by decide +kernel
theorem dX10_count_71 : decode cX10_count 71 = .ok (.iconst 1, 1) := by decide +kernel
theorem dX10_count_72 : decode cX10_count 72 = .ok (.iaload, 1) := by decide +kernel
theorem dX10_count_73 : decode cX10_count 73 = .ok (.ireturn, 1) := by decide +kernel
theorem dX10_count_74 : decode cX10_count 74 = .ok (.aload_n 0, 1) := by decide +kernel
theorem dX10_count_75 : decode cX10_count 75 = .ok (.invokevirtual 291, 3) := by decide +kernel
theorem dX10_count_78 : decode cX10_count 78 = .ok (.ireturn, 1) := by decide +kernel
theorem dX10_count_79 : decode cX10_count 79 = .ok (.aload_n 0, 1) := by decide +kernel
theorem dX10_count_80 : decode cX10_count 80 = .ok (.getfield 13, 3) := by decide +kernel
theorem dX10_count_83 : decode cX10_count 83 = .ok (.bipush 7, 2) := by decide +kernel
theorem dX10_count_85 : decode cX10_count 85 = .ok (.iaload, 1) := by decide +kernel
theorem dX10_count_86 : decode cX10_count 86 = .ok (.ireturn, 1) := by decide +kernel
theorem dX10_count_87 : decode cX10_count 87 = .ok (.iconst 0, 1) := by decide +kernel
theorem dX10_count_88 : decode cX10_count 88 = .ok (.istore_n 3, 1) := by decide +kernel
theorem dX10_count_89 : decode cX10_count 89 = .ok (.iload_n 3, 1) := by decide +kernel
theorem dX10_count_90 : decode cX10_count 90 = .ok (.aload_n 0, 1) := by decide +kernel
theorem dX10_count_91 : decode cX10_count 91 = .ok (.getfield 13, 3) := by decide +kernel
theorem dX10_count_94 : decode cX10_count 94 = .ok (.bipush 7, 2) := by decide +kernel
theorem dX10_count_96 : decode cX10_count 96 = .ok (.iaload, 1) := by decide +kernel
theorem dX10_count_97 : decode cX10_count 97 = .ok (.if_icmp .ge 30, 3) := by decide +kernel
theorem dX10_count_100 : decode cX10_count 100 = .ok (.iload_n 2, 1) := by decide +kernel
theorem dX10_count_101 : decode cX10_count 101 = .ok (.aload_n 0, 1) := by decide +kernel
theorem dX10_count_102 : decode cX10_count 102 = .ok (.iload_n 3, 1) := by decide +kernel
theorem dX10_count_103 : decode cX10_count 103 = .ok (.iconst 3, 1) := by decide +kernel
theorem dX10_count_104 : decode cX10_count 104 = .ok (.invokevirtual 325, 3) := by decide +kernel
theorem dX10_count_107 : decode cX10_count 107 = .ok (.aload_n 0, 1) := by decide +kernel
theorem dX10_count_108 : decode cX10_count 108 = .ok (.invokevirtual 291, 3) := by decide +kernel
theorem dX10_count_111 : decode cX10_count 111 = .ok (.if_icmp .ge 7, 3) := by decide +kernel
theorem dX10_count_114 : decode cX10_count 114 = .ok (.iconst 1, 1) := by decide +kernel
theorem dX10_count_115 : decode cX10_count 115 = .ok (.goto 4, 3) := by decide +kernel
theorem dX10_count_118 : decode cX10_count 118 = .ok (.iconst 0, 1) := by decide +kernel
theorem dX10_count_119 : decode cX10_count 119 = .ok (.iadd, 1) := by decide +kernel
theorem dX10_count_120 : decode cX10_count 120 = .ok (.istore_n 2, 1) := by decide +kernel
theorem dX10_count_121 : decode cX10_count 121 = .ok (.iinc 3 1, 3) := by decide +kernel
theorem dX10_count_124 : decode cX10_count 124 = .ok (.goto (-35), 3) := by decide +kernel
theorem dX10_count_127 : decode cX10_count 127 = .ok (.iload_n 2, 1) := by decide +kernel
theorem dX10_count_128 : decode cX10_count 128 = .ok (.ireturn, 1) := by decide +kernel
theorem dX10_count_129 : decode cX10_count 129 = .ok (.aload_n 0, 1) := by decide +kernel
theorem dX10_count_130 : decode cX10_count 130 = .ok (.getfield 13, 3) := by decide +kernel
theorem dX10_count_133 : decode cX10_count 133 = .ok (.bipush 8, 2) := by decide +kernel
theorem dX10_count_135 : decode cX10_count 135 = .ok (.iaload, 1) := by decide +kernel
theorem dX10_count_136 : decode cX10_count 136 = .ok (.ireturn, 1) := by decide +kernel
theorem dX10_count_137 : decode cX10_count 137 = .ok (.aload_n 0, 1) := by decide +kernel
theorem dX10_count_138 : decode cX10_count 138 = .ok (.getfield 13, 3) := by decide +kernel
theorem dX10_count_141 : decode cX10_count 141 = .ok (.bipush 9, 2) := by decide +kernel
theorem dX10_count_143 : decode cX10_count 143 = .ok (.iaload, 1) := by decide +kernel
theorem dX10_count_144 : decode cX10_count 144 = .ok (.ireturn, 1) := by decide +kernel
theorem dX10_count_145 : decode cX10_count 145 = .ok (.aload_n 0, 1) := by decide +kernel
theorem dX10_count_146 : decode cX10_count 146 = .ok (.getfield 109, 3) := by decide +kernel
theorem dX10_count_149 : decode cX10_count 149 = .ok (.ireturn, 1) := by decide +kernel
theorem dX10_count_150 : decode cX10_count 150 = .ok (.aload_n 0, 1) := by decide +kernel
theorem dX10_count_151 : decode cX10_count 151 = .ok (.getfield 13, 3) := by decide +kernel
theorem dX10_count_154 : decode cX10_count 154 = .ok (.iconst 5, 1) := by decide +kernel
theorem dX10_count_155 : decode cX10_count 155 = .ok (.iaload, 1) := by decide +kernel
theorem dX10_count_156 : decode cX10_count 156 = .ok (.ireturn, 1) := by decide +kernel
theorem dX10_count_157 : decode cX10_count 157 = .ok (.aload_n 0, 1) := by decide +kernel
theorem dX10_count_158 : decode cX10_count 158 = .ok (.getfield 13, 3) := by decide +kernel
theorem dX10_count_161 : decode cX10_count 161 = .ok (.iconst 4, 1) := by decide +kernel
theorem dX10_count_162 : decode cX10_count 162 = .ok (.iaload, 1) := by decide +kernel
theorem dX10_count_163 : decode cX10_count 163 = .ok (.ireturn, 1) := by decide +kernel
theorem dX10_count_164 : decode cX10_count 164 = .ok (.iconst 0, 1) := by decide +kernel
theorem dX10_count_165 : decode cX10_count 165 = .ok (.istore_n 3, 1) := by decide +kernel
theorem dX10_count_166 : decode cX10_count 166 = .ok (.iload_n 3, 1) := by decide +kernel
theorem dX10_count_167 : decode cX10_count 167 = .ok (.iconst 4, 1) := by decide +kernel
theorem dX10_count_168 : decode cX10_count 168 = .ok (.if_icmp .ge 27, 3) := by decide +kernel
theorem dX10_count_171 : decode cX10_count 171 = .ok (.iload_n 2, 1) := by decide +kernel
theorem dX10_count_172 : decode cX10_count 172 = .ok (.aload_n 0, 1) := by decide +kernel
theorem dX10_count_173 : decode cX10_count 173 = .ok (.getfield 86, 3) := by decide +kernel
theorem dX10_count_176 : decode cX10_count 176 = .ok (.iload_n 3, 1) := by decide +kernel
theorem dX10_count_177 : decode cX10_count 177 = .ok (.iaload, 1) := by decide +kernel
theorem dX10_count_178 : decode cX10_count 178 = .ok (.iconst (-1), 1) := by decide +kernel
theorem dX10_count_179 : decode cX10_count 179 = .ok (.if_icmp .ne 7, 3) := by decide +kernel
theorem dX10_count_182 : decode cX10_count 182 = .ok (.iconst 0, 1) := by decide +kernel
theorem dX10_count_183 : decode cX10_count 183 = .ok (.goto 4, 3) := by decide +kernel
theorem dX10_count_186 : decode cX10_count 186 = .ok (.iconst 1, 1) := by decide +kernel
theorem dX10_count_187 : decode cX10_count 187 = .ok (.iadd, 1) := by decide +kernel
theorem dX10_count_188 : decode cX10_count 188 = .ok (.istore_n 2, 1) := by decide +kernel
theorem dX10_count_189 : decode cX10_count 189 = .ok (.iinc 3 1, 3) := by decide +kernel
theorem dX10_count_192 : decode cX10_count 192 = .ok (.goto (-26), 3) := by decide +kernel
theorem dX10_count_195 : decode cX10_count 195 = .ok (.iload_n 2, 1) := by decide +kernel
theorem dX10_count_196 : decode cX10_count 196 = .ok (.ireturn, 1) := by decide +kernel
theorem dX10_count_197 : decode cX10_count 197 = .ok (.iconst (-1), 1) := by decide +kernel
theorem dX10_count_198 : decode cX10_count 198 = .ok (.ireturn, 1) := by decide +kernel
theorem dX10_isSlot_0 : decode cX10_isSlot 0 = .ok (.iload_n 0, 1) := by decide +kernel
theorem dX10_isSlot_1 : decode cX10_isSlot 1 = .ok (.i2l, 1) := by decide +kernel
theorem dX10_isSlot_2 : decode cX10_isSlot 2 = .ok (.lconst 0, 1) := by decide +kernel
theorem dX10_isSlot_3 : decode cX10_isSlot 3 = .ok (.ldc2_w 313, 3) := by decide +kernel
theorem dX10_isSlot_6 : decode cX10_isSlot 6 = .ok (.invokestatic 101, 3) := by decide +kernel
theorem dX10_isSlot_9 : decode cX10_isSlot 9 = .ok (.ireturn, 1) := by decide +kernel
theorem dX10_row_0 : decode cX10_row 0 = .ok (.iload_n 1, 1) := by decide +kernel
theorem dX10_row_1 : decode cX10_row 1 = .ok (.invokestatic 371, 3) := by decide +kernel
theorem dX10_row_4 : decode cX10_row 4 = .ok (.ifCond .eq 21, 3) := by decide +kernel
theorem dX10_row_7 : decode cX10_row 7 = .ok (.iload_n 2, 1) := by decide +kernel
theorem dX10_row_8 : decode cX10_row 8 = .ok (.i2l, 1) := by decide +kernel
theorem dX10_row_9 : decode cX10_row 9 = .ok (.lconst 0, 1) := by decide +kernel
theorem dX10_row_10 : decode cX10_row 10 = .ok (.ldc2_w 313, 3) := by decide +kernel
theorem dX10_row_13 : decode cX10_row 13 = .ok (.invokestatic 101, 3) := by decide +kernel
theorem dX10_row_16 : decode cX10_row 16 = .ok (.ifCond .eq 9, 3) := by decide +kernel
theorem dX10_row_19 : decode cX10_row 19 = .ok (.iload_n 3, 1) := by decide +kernel
theorem dX10_row_20 : decode cX10_row 20 = .ok (.bipush 60, 2) := by decide +kernel
theorem dX10_row_22 : decode cX10_row 22 = .ok (.if_icmp .le 6, 3) := by decide +kernel
theorem dX10_row_25 : decode cX10_row 25 = .ok (.bipush (-2), 2) := by decide +kernel
theorem dX10_row_27 : decode cX10_row 27 = .ok (.ireturn, 1) := by decide +kernel
theorem dX10_row_28 : decode cX10_row 28 = .ok (.iload_n 3, 1) := by decide +kernel
theorem dX10_row_29 : decode cX10_row 29 = .ok (.ifCond .ge 6, 3) := by decide +kernel
theorem dX10_row_32 : decode cX10_row 32 = .ok (.bipush (-3), 2) := by decide +kernel
theorem dX10_row_34 : decode cX10_row 34 = .ok (.ireturn, 1) := by decide +kernel
theorem dX10_row_35 : decode cX10_row 35 = .ok (.aload_n 0, 1) := by decide +kernel
theorem dX10_row_36 : decode cX10_row 36 = .ok (.getfield 86, 3) := by decide +kernel
theorem dX10_row_39 : decode cX10_row 39 = .ok (.iload_n 1, 1) := by decide +kernel
theorem dX10_row_40 : decode cX10_row 40 = .ok (.iload_n 3, 1) := by decide +kernel
theorem dX10_row_41 : decode cX10_row 41 = .ok (.iastore, 1) := by decide +kernel
theorem dX10_row_42 : decode cX10_row 42 = .ok (.aload_n 0, 1) := by decide +kernel
theorem dX10_row_43 : decode cX10_row 43 = .ok (.getfield 89, 3) := by decide +kernel
theorem dX10_row_46 : decode cX10_row 46 = .ok (.iload_n 1, 1) := by decide +kernel
theorem dX10_row_47 : decode cX10_row 47 = .ok (.iload_n 2, 1) := by decide +kernel
theorem dX10_row_48 : decode cX10_row 48 = .ok (.iastore, 1) := by decide +kernel
theorem dX10_row_49 : decode cX10_row 49 = .ok (.iconst 0, 1) := by decide +kernel
theorem dX10_row_50 : decode cX10_row 50 = .ok (.istore 4, 2) := by decide +kernel
theorem dX10_row_52 : decode cX10_row 52 = .ok (.iload 4, 2) := by decide +kernel
theorem dX10_row_54 : decode cX10_row 54 = .ok (.bipush 60, 2) := by decide +kernel
theorem dX10_row_56 : decode cX10_row 56 = .ok (.if_icmp .ge 22, 3) := by decide +kernel
theorem dX10_row_59 : decode cX10_row 59 = .ok (.aload_n 0, 1) := by decide +kernel
theorem dX10_row_60 : decode cX10_row 60 = .ok (.getfield 92, 3) := by decide +kernel
theorem dX10_row_63 : decode cX10_row 63 = .ok (.bipush 60, 2) := by decide +kernel
theorem dX10_row_65 : decode cX10_row 65 = .ok (.iload_n 1, 1) := by decide +kernel
theorem dX10_row_66 : decode cX10_row 66 = .ok (.imul, 1) := by decide +kernel
theorem dX10_row_67 : decode cX10_row 67 = .ok (.iload 4, 2) := by decide +kernel
theorem dX10_row_69 : decode cX10_row 69 = .ok (.iadd, 1) := by decide +kernel
theorem dX10_row_70 : decode cX10_row 70 = .ok (.lconst 0, 1) := by decide +kernel
theorem dX10_row_71 : decode cX10_row 71 = .ok (.lastore, 1) := by decide +kernel
theorem dX10_row_72 : decode cX10_row 72 = .ok (.iinc 4 1, 3) := by decide +kernel
theorem dX10_row_75 : decode cX10_row 75 = .ok (.goto (-23), 3) := by decide +kernel
theorem dX10_row_78 : decode cX10_row 78 = .ok (.iconst 0, 1) := by decide +kernel
theorem dX10_row_79 : decode cX10_row 79 = .ok (.ireturn, 1) := by decide +kernel
theorem dX10_write_0 : decode cX10_write 0 = .ok (.iload_n 1, 1) := by decide +kernel
theorem dX10_write_1 : decode cX10_write 1 = .ok (.invokestatic 371, 3) := by decide +kernel
theorem dX10_write_4 : decode cX10_write 4 = .ok (.ifCond .ne 6, 3) := by decide +kernel
theorem dX10_write_7 : decode cX10_write 7 = .ok (.bipush (-2), 2) := by decide +kernel
theorem dX10_write_9 : decode cX10_write 9 = .ok (.ireturn, 1) := by decide +kernel
theorem dX10_write_10 : decode cX10_write 10 = .ok (.aload_n 0, 1) := by decide +kernel
theorem dX10_write_11 : decode cX10_write 11 = .ok (.getfield 86, 3) := by decide +kernel
theorem dX10_write_14 : decode cX10_write 14 = .ok (.iload_n 1, 1) := by decide +kernel
theorem dX10_write_15 : decode cX10_write 15 = .ok (.iaload, 1) := by decide +kernel
theorem dX10_write_16 : decode cX10_write 16 = .ok (.iconst (-1), 1) := by decide +kernel
theorem dX10_write_17 : decode cX10_write 17 = .ok (.if_icmp .ne 6, 3) := by decide +kernel
theorem dX10_write_20 : decode cX10_write 20 = .ok (.bipush (-6), 2) := by decide +kernel
theorem dX10_write_22 : decode cX10_write 22 = .ok (.ireturn, 1) := by decide +kernel
theorem dX10_write_23 : decode cX10_write 23 = .ok (.iload_n 2, 1) := by decide +kernel
theorem dX10_write_24 : decode cX10_write 24 = .ok (.i2l, 1) := by decide +kernel
theorem dX10_write_25 : decode cX10_write 25 = .ok (.lconst 0, 1) := by decide +kernel
theorem dX10_write_26 : decode cX10_write 26 = .ok (.aload_n 0, 1) := by decide +kernel
theorem dX10_write_27 : decode cX10_write 27 = .ok (.getfield 86, 3) := by decide +kernel
theorem dX10_write_30 : decode cX10_write 30 = .ok (.iload_n 1, 1) := by decide +kernel
theorem dX10_write_31 : decode cX10_write 31 = .ok (.iaload, 1) := by decide +kernel
theorem dX10_write_32 : decode cX10_write 32 = .ok (.iconst 1, 1) := by decide +kernel
theorem dX10_write_33 : decode cX10_write 33 = .ok (.isub, 1) := by decide +kernel
theorem dX10_write_34 : decode cX10_write 34 = .ok (.i2l, 1) := by decide +kernel
theorem dX10_write_35 : decode cX10_write 35 = .ok (.invokestatic 101, 3) := by decide +kernel
theorem dX10_write_38 : decode cX10_write 38 = .ok (.ifCond .ne 6, 3) := by decide +kernel
theorem dX10_write_41 : decode cX10_write 41 = .ok (.bipush (-7), 2) := by decide +kernel
theorem dX10_write_43 : decode cX10_write 43 = .ok (.ireturn, 1) := by decide +kernel
theorem dX10_write_44 : decode cX10_write 44 = .ok (.aload_n 0, 1) := by decide +kernel
theorem dX10_write_45 : decode cX10_write 45 = .ok (.getfield 92, 3) := by decide +kernel
theorem dX10_write_48 : decode cX10_write 48 = .ok (.bipush 60, 2) := by decide +kernel
theorem dX10_write_50 : decode cX10_write 50 = .ok (.iload_n 1, 1) := by decide +kernel
theorem dX10_write_51 : decode cX10_write 51 = .ok (.imul, 1) := by decide +kernel
theorem dX10_write_52 : decode cX10_write 52 = .ok (.iload_n 2, 1) := by decide +kernel
theorem dX10_write_53 : decode cX10_write 53 = .ok (.iadd, 1) := by decide +kernel
theorem dX10_write_54 : decode cX10_write 54 = .ok (.lload_n 3, 1) := by decide +kernel
theorem dX10_write_55 : decode cX10_write 55 = .ok (.aload_n 0, 1) := by decide +kernel
theorem dX10_write_56 : decode cX10_write 56 = .ok (.getfield 89, 3) := by decide +kernel
theorem dX10_write_59 : decode cX10_write 59 = .ok (.iload_n 1, 1) := by decide +kernel
theorem dX10_write_60 : decode cX10_write 60 = .ok (.iaload, 1) := by decide +kernel
theorem dX10_write_61 : decode cX10_write 61 = .ok (.invokestatic 471, 3) := by decide +kernel
theorem dX10_write_64 : decode cX10_write 64 = .ok (.lastore, 1) := by decide +kernel
theorem dX10_write_65 : decode cX10_write 65 = .ok (.iconst 0, 1) := by decide +kernel
theorem dX10_write_66 : decode cX10_write 66 = .ok (.ireturn, 1) := by decide +kernel
theorem dX10_paste_0 : decode cX10_paste 0 = .ok (.iload_n 1, 1) := by decide +kernel
theorem dX10_paste_1 : decode cX10_paste 1 = .ok (.invokestatic 371, 3) := by decide +kernel
theorem dX10_paste_4 : decode cX10_paste 4 = .ok (.ifCond .eq 10, 3) := by decide +kernel
theorem dX10_paste_7 : decode cX10_paste 7 = .ok (.iload_n 3, 1) := by decide +kernel
theorem dX10_paste_8 : decode cX10_paste 8 = .ok (.invokestatic 371, 3) := by decide +kernel
theorem dX10_paste_11 : decode cX10_paste 11 = .ok (.ifCond .ne 6, 3) := by decide +kernel
theorem dX10_paste_14 : decode cX10_paste 14 = .ok (.bipush (-2), 2) := by decide +kernel
theorem dX10_paste_16 : decode cX10_paste 16 = .ok (.ireturn, 1) := by decide +kernel
theorem dX10_paste_17 : decode cX10_paste 17 = .ok (.aload_n 0, 1) := by decide +kernel
theorem dX10_paste_18 : decode cX10_paste 18 = .ok (.getfield 86, 3) := by decide +kernel
theorem dX10_paste_21 : decode cX10_paste 21 = .ok (.iload_n 1, 1) := by decide +kernel
theorem dX10_paste_22 : decode cX10_paste 22 = .ok (.iaload, 1) := by decide +kernel
theorem dX10_paste_23 : decode cX10_paste 23 = .ok (.iconst (-1), 1) := by decide +kernel
theorem dX10_paste_24 : decode cX10_paste 24 = .ok (.if_icmp .eq 13, 3) := by decide +kernel
theorem dX10_paste_27 : decode cX10_paste 27 = .ok (.aload_n 0, 1) := by decide +kernel
theorem dX10_paste_28 : decode cX10_paste 28 = .ok (.getfield 86, 3) := by decide +kernel
theorem dX10_paste_31 : decode cX10_paste 31 = .ok (.iload_n 3, 1) := by decide +kernel
theorem dX10_paste_32 : decode cX10_paste 32 = .ok (.iaload, 1) := by decide +kernel
theorem dX10_paste_33 : decode cX10_paste 33 = .ok (.iconst (-1), 1) := by decide +kernel
theorem dX10_paste_34 : decode cX10_paste 34 = .ok (.if_icmp .ne 6, 3) := by decide +kernel
theorem dX10_paste_37 : decode cX10_paste 37 = .ok (.bipush (-6), 2) := by decide +kernel
theorem dX10_paste_39 : decode cX10_paste 39 = .ok (.ireturn, 1) := by decide +kernel
theorem dX10_paste_40 : decode cX10_paste 40 = .ok (.aload_n 0, 1) := by decide +kernel
theorem dX10_paste_41 : decode cX10_paste 41 = .ok (.getfield 89, 3) := by decide +kernel
theorem dX10_paste_44 : decode cX10_paste 44 = .ok (.iload_n 1, 1) := by decide +kernel
theorem dX10_paste_45 : decode cX10_paste 45 = .ok (.iaload, 1) := by decide +kernel
theorem dX10_paste_46 : decode cX10_paste 46 = .ok (.aload_n 0, 1) := by decide +kernel
theorem dX10_paste_47 : decode cX10_paste 47 = .ok (.getfield 89, 3) := by decide +kernel
theorem dX10_paste_50 : decode cX10_paste 50 = .ok (.iload_n 3, 1) := by decide +kernel
theorem dX10_paste_51 : decode cX10_paste 51 = .ok (.iaload, 1) := by decide +kernel
theorem dX10_paste_52 : decode cX10_paste 52 = .ok (.if_icmp .eq 6, 3) := by decide +kernel
theorem dX10_paste_55 : decode cX10_paste 55 = .ok (.bipush (-8), 2) := by decide +kernel
theorem dX10_paste_57 : decode cX10_paste 57 = .ok (.ireturn, 1) := by decide +kernel
theorem dX10_paste_58 : decode cX10_paste 58 = .ok (.iload_n 2, 1) := by decide +kernel
theorem dX10_paste_59 : decode cX10_paste 59 = .ok (.ifCond .lt 48, 3) := by decide +kernel
theorem dX10_paste_62 : decode cX10_paste 62 = .ok (.iload 4, 2) := by decide +kernel
theorem dX10_paste_64 : decode cX10_paste 64 = .ok (.ifCond .lt 43, 3) := by decide +kernel
theorem dX10_paste_67 : decode cX10_paste 67 = .ok (.iload 5, 2) := by decide +kernel
theorem dX10_paste_69 : decode cX10_paste 69 = .ok (.ifCond .lt 38, 3) := by decide +kernel
theorem dX10_paste_72 : decode cX10_paste 72 = .ok (.iload_n 2, 1) := by decide +kernel
theorem dX10_paste_73 : decode cX10_paste 73 = .ok (.i2l, 1) := by decide +kernel
theorem dX10_paste_74 : decode cX10_paste 74 = .ok (.iload 5, 2) := by decide +kernel
theorem dX10_paste_76 : decode cX10_paste 76 = .ok (.i2l, 1) := by decide +kernel
theorem dX10_paste_77 : decode cX10_paste 77 = .ok (.ladd, 1) := by decide +kernel
theorem dX10_paste_78 : decode cX10_paste 78 = .ok (.aload_n 0, 1) := by decide +kernel
theorem dX10_paste_79 : decode cX10_paste 79 = .ok (.getfield 86, 3) := by decide +kernel
theorem dX10_paste_82 : decode cX10_paste 82 = .ok (.iload_n 1, 1) := by decide +kernel
theorem dX10_paste_83 : decode cX10_paste 83 = .ok (.iaload, 1) := by decide +kernel
theorem dX10_paste_84 : decode cX10_paste 84 = .ok (.i2l, 1) := by decide +kernel
theorem dX10_paste_85 : decode cX10_paste 85 = .ok (.lcmp, 1) := by decide +kernel
theorem dX10_paste_86 : decode cX10_paste 86 = .ok (.ifCond .gt 21, 3) := by decide +kernel
theorem dX10_paste_89 : decode cX10_paste 89 = .ok (.iload 4, 2) := by decide +kernel
theorem dX10_paste_91 : decode cX10_paste 91 = .ok (.i2l, 1) := by decide +kernel
theorem dX10_paste_92 : decode cX10_paste 92 = .ok (.iload 5, 2) := by decide +kernel
theorem dX10_paste_94 : decode cX10_paste 94 = .ok (.i2l, 1) := by decide +kernel
theorem dX10_paste_95 : decode cX10_paste 95 = .ok (.ladd, 1) := by decide +kernel
theorem dX10_paste_96 : decode cX10_paste 96 = .ok (.aload_n 0, 1) := by decide +kernel
theorem dX10_paste_97 : decode cX10_paste 97 = .ok (.getfield 86, 3) := by decide +kernel
theorem dX10_paste_100 : decode cX10_paste 100 = .ok (.iload_n 3, 1) := by decide +kernel
theorem dX10_paste_101 : decode cX10_paste 101 = .ok (.iaload, 1) := by decide +kernel
theorem dX10_paste_102 : decode cX10_paste 102 = .ok (.i2l, 1) := by decide +kernel
theorem dX10_paste_103 : decode cX10_paste 103 = .ok (.lcmp, 1) := by decide +kernel
theorem dX10_paste_104 : decode cX10_paste 104 = .ok (.ifCond .le 6, 3) := by decide +kernel
theorem dX10_paste_107 : decode cX10_paste 107 = .ok (.bipush (-7), 2) := by decide +kernel
theorem dX10_paste_109 : decode cX10_paste 109 = .ok (.ireturn, 1) := by decide +kernel
theorem dX10_paste_110 : decode cX10_paste 110 = .ok (.iconst 0, 1) := by decide +kernel
theorem dX10_paste_111 : decode cX10_paste 111 = .ok (.istore 6, 2) := by decide +kernel
theorem dX10_paste_113 : decode cX10_paste 113 = .ok (.iload 6, 2) := by decide +kernel
theorem dX10_paste_115 : decode cX10_paste 115 = .ok (.iload 5, 2) := by decide +kernel
theorem dX10_paste_117 : decode cX10_paste 117 = .ok (.if_icmp .ge 30, 3) := by decide +kernel
theorem dX10_paste_120 : decode cX10_paste 120 = .ok (.aload_n 0, 1) := by decide +kernel
theorem dX10_paste_121 : decode cX10_paste 121 = .ok (.getfield 96, 3) := by decide +kernel
theorem dX10_paste_124 : decode cX10_paste 124 = .ok (.iload 6, 2) := by decide +kernel
theorem dX10_paste_126 : decode cX10_paste 126 = .ok (.aload_n 0, 1) := by decide +kernel
theorem dX10_paste_127 : decode cX10_paste 127 = .ok (.getfield 92, 3) := by decide +kernel
theorem dX10_paste_130 : decode cX10_paste 130 = .ok (.bipush 60, 2) := by decide +kernel
theorem dX10_paste_132 : decode cX10_paste 132 = .ok (.iload_n 1, 1) := by decide +kernel
theorem dX10_paste_133 : decode cX10_paste 133 = .ok (.imul, 1) := by decide +kernel
theorem dX10_paste_134 : decode cX10_paste 134 = .ok (.iload_n 2, 1) := by decide +kernel
theorem dX10_paste_135 : decode cX10_paste 135 = .ok (.iadd, 1) := by decide +kernel
theorem dX10_paste_136 : decode cX10_paste 136 = .ok (.iload 6, 2) := by decide +kernel
theorem dX10_paste_138 : decode cX10_paste 138 = .ok (.iadd, 1) := by decide +kernel
theorem dX10_paste_139 : decode cX10_paste 139 = .ok (.laload, 1) := by decide +kernel
theorem dX10_paste_140 : decode cX10_paste 140 = .ok (.lastore, 1) := by decide +kernel
theorem dX10_paste_141 : decode cX10_paste 141 = .ok (.iinc 6 1, 3) := by decide +kernel
theorem dX10_paste_144 : decode cX10_paste 144 = .ok (.goto (-31), 3) := by decide +kernel
theorem dX10_paste_147 : decode cX10_paste 147 = .ok (.iconst 0, 1) := by decide +kernel
theorem dX10_paste_148 : decode cX10_paste 148 = .ok (.istore 6, 2) := by decide +kernel
theorem dX10_paste_150 : decode cX10_paste 150 = .ok (.iload 6, 2) := by decide +kernel
theorem dX10_paste_152 : decode cX10_paste 152 = .ok (.iload 5, 2) := by decide +kernel
theorem dX10_paste_154 : decode cX10_paste 154 = .ok (.if_icmp .ge 31, 3) := by decide +kernel
theorem dX10_paste_157 : decode cX10_paste 157 = .ok (.aload_n 0, 1) := by decide +kernel
theorem dX10_paste_158 : decode cX10_paste 158 = .ok (.getfield 92, 3) := by decide +kernel
theorem dX10_paste_161 : decode cX10_paste 161 = .ok (.bipush 60, 2) := by decide +kernel
theorem dX10_paste_163 : decode cX10_paste 163 = .ok (.iload_n 3, 1) := by decide +kernel
theorem dX10_paste_164 : decode cX10_paste 164 = .ok (.imul, 1) := by decide +kernel
theorem dX10_paste_165 : decode cX10_paste 165 = .ok (.iload 4, 2) := by decide +kernel
theorem dX10_paste_167 : decode cX10_paste 167 = .ok (.iadd, 1) := by decide +kernel
theorem dX10_paste_168 : decode cX10_paste 168 = .ok (.iload 6, 2) := by decide +kernel
theorem dX10_paste_170 : decode cX10_paste 170 = .ok (.iadd, 1) := by decide +kernel
theorem dX10_paste_171 : decode cX10_paste 171 = .ok (.aload_n 0, 1) := by decide +kernel
theorem dX10_paste_172 : decode cX10_paste 172 = .ok (.getfield 96, 3) := by decide +kernel
theorem dX10_paste_175 : decode cX10_paste 175 = .ok (.iload 6, 2) := by decide +kernel
theorem dX10_paste_177 : decode cX10_paste 177 = .ok (.laload, 1) := by decide +kernel
theorem dX10_paste_178 : decode cX10_paste 178 = .ok (.lastore, 1) := by decide +kernel
theorem dX10_paste_179 : decode cX10_paste 179 = .ok (.iinc 6 1, 3) := by decide +kernel
theorem dX10_paste_182 : decode cX10_paste 182 = .ok (.goto (-32), 3) := by decide +kernel
theorem dX10_paste_185 : decode cX10_paste 185 = .ok (.iconst 0, 1) := by decide +kernel
theorem dX10_paste_186 : decode cX10_paste 186 = .ok (.ireturn, 1) := by decide +kernel
theorem dJ7_fill_d0a16_0 : decode cJ7_fill_d0a16 0 = .ok (.iconst 0, 1) := by decide +kernel
theorem dJ7_fill_d0a16_1 : decode cJ7_fill_d0a16 1 = .ok (.istore_n 3, 1) := by decide +kernel
theorem dJ7_fill_d0a16_2 : decode cJ7_fill_d0a16 2 = .ok (.aload_n 0, 1) := by decide +kernel
theorem dJ7_fill_d0a16_3 : decode cJ7_fill_d0a16 3 = .ok (.arraylength, 1) := by decide +kernel
theorem dJ7_fill_d0a16_4 : decode cJ7_fill_d0a16 4 = .ok (.istore 4, 2) := by decide +kernel
theorem dJ7_fill_d0a16_6 : decode cJ7_fill_d0a16 6 = .ok (.iload_n 3, 1) := by decide +kernel
theorem dJ7_fill_d0a16_7 : decode cJ7_fill_d0a16 7 = .ok (.iload 4, 2) := by decide +kernel
theorem dJ7_fill_d0a16_9 : decode cJ7_fill_d0a16 9 = .ok (.if_icmp .ge 13, 3) := by decide +kernel
theorem dJ7_fill_d0a16_12 : decode cJ7_fill_d0a16 12 = .ok (.aload_n 0, 1) := by decide +kernel
theorem dJ7_fill_d0a16_13 : decode cJ7_fill_d0a16 13 = .ok (.iload_n 3, 1) := by decide +kernel
theorem dJ7_fill_d0a16_14 : decode cJ7_fill_d0a16 14 = .ok (.lload_n 1, 1) := by decide +kernel
theorem dJ7_fill_d0a16_15 : decode cJ7_fill_d0a16 15 = .ok (.lastore, 1) := by decide +kernel
theorem dJ7_fill_d0a16_16 : decode cJ7_fill_d0a16 16 = .ok (.iinc 3 1, 3) := by decide +kernel
theorem dJ7_fill_d0a16_19 : decode cJ7_fill_d0a16 19 = .ok (.goto (-13), 3) := by decide +kernel
theorem dJ7_fill_d0a16_22 : decode cJ7_fill_d0a16 22 = .ok (.return_, 1) := by decide +kernel
theorem dJ7_fill_53178_0 : decode cJ7_fill_53178 0 = .ok (.iconst 0, 1) := by decide +kernel
theorem dJ7_fill_53178_1 : decode cJ7_fill_53178 1 = .ok (.istore_n 2, 1) := by decide +kernel
theorem dJ7_fill_53178_2 : decode cJ7_fill_53178 2 = .ok (.aload_n 0, 1) := by decide +kernel
theorem dJ7_fill_53178_3 : decode cJ7_fill_53178 3 = .ok (.arraylength, 1) := by decide +kernel
theorem dJ7_fill_53178_4 : decode cJ7_fill_53178 4 = .ok (.istore_n 3, 1) := by decide +kernel
theorem dJ7_fill_53178_5 : decode cJ7_fill_53178 5 = .ok (.iload_n 2, 1) := by decide +kernel
theorem dJ7_fill_53178_6 : decode cJ7_fill_53178 6 = .ok (.iload_n 3, 1) := by decide +kernel
theorem dJ7_fill_53178_7 : decode cJ7_fill_53178 7 = .ok (.if_icmp .ge 13, 3) := by decide +kernel
theorem dJ7_fill_53178_10 : decode cJ7_fill_53178 10 = .ok (.aload_n 0, 1) := by decide +kernel
theorem dJ7_fill_53178_11 : decode cJ7_fill_53178 11 = .ok (.iload_n 2, 1) := by decide +kernel
theorem dJ7_fill_53178_12 : decode cJ7_fill_53178 12 = .ok (.iload_n 1, 1) := by decide +kernel
theorem dJ7_fill_53178_13 : decode cJ7_fill_53178 13 = .ok (.iastore, 1) := by decide +kernel
theorem dJ7_fill_53178_14 : decode cJ7_fill_53178 14 = .ok (.iinc 2 1, 3) := by decide +kernel
theorem dJ7_fill_53178_17 : decode cJ7_fill_53178 17 = .ok (.goto (-12), 3) := by decide +kernel
theorem dJ7_fill_53178_20 : decode cJ7_fill_53178 20 = .ok (.return_, 1) := by decide +kernel
theorem dL_law_0 : decode cL_law 0 = .ok (.new 7, 3) := by decide +kernel
theorem dL_law_3 : decode cL_law 3 = .ok (.dup, 1) := by decide +kernel
theorem dL_law_4 : decode cL_law 4 = .ok (.invokespecial 9, 3) := by decide +kernel
theorem dL_law_7 : decode cL_law 7 = .ok (.astore_n 1, 1) := by decide +kernel
theorem dL_law_8 : decode cL_law 8 = .ok (.new 10, 3) := by decide +kernel
theorem dL_law_11 : decode cL_law 11 = .ok (.dup, 1) := by decide +kernel
theorem dL_law_12 : decode cL_law 12 = .ok (.invokespecial 12, 3) := by decide +kernel
theorem dL_law_15 : decode cL_law 15 = .ok (.astore_n 2, 1) := by decide +kernel
theorem dL_law_16 : decode cL_law 16 = .ok (.iconst 0, 1) := by decide +kernel
theorem dL_law_17 : decode cL_law 17 = .ok (.istore_n 3, 1) := by decide +kernel
theorem dL_law_18 : decode cL_law 18 = .ok (.iload_n 3, 1) := by decide +kernel
theorem dL_law_19 : decode cL_law 19 = .ok (.aload_n 0, 1) := by decide +kernel
theorem dL_law_20 : decode cL_law 20 = .ok (.arraylength, 1) := by decide +kernel
theorem dL_law_21 : decode cL_law 21 = .ok (.bipush 6, 2) := by decide +kernel
theorem dL_law_23 : decode cL_law 23 = .ok (.isub, 1) := by decide +kernel
theorem dL_law_24 : decode cL_law 24 = .ok (.if_icmp .gt 1332, 3) := by decide +kernel
theorem dL_law_27 : decode cL_law 27 = .ok (.aload_n 0, 1) := by decide +kernel
theorem dL_law_28 : decode cL_law 28 = .ok (.iload_n 3, 1) := by decide +kernel
theorem dL_law_29 : decode cL_law 29 = .ok (.iaload, 1) := by decide +kernel
theorem dL_law_30 : decode cL_law 30 = .ok (.bipush 63, 2) := by decide +kernel
theorem dL_law_32 : decode cL_law 32 = .ok (.iand, 1) := by decide +kernel
theorem dL_law_33 : decode cL_law 33 = .ok (.tableswitch 1317 0 35 #[159, 222, 245, 258, 281, 304, 347, 390, 423, 446, 479, 502, 545, 568, 581, 624, 657, 700, 733, 776, 799, 822, 855, 898, 921, 944, 977, 990, 1013, 1046, 1069, 1092, 1115, 1138, 1181, 1254], 159) := by decide +kernel
theorem dL_law_192 : decode cL_law 192 = .ok (.aload_n 1, 1) := by decide +kernel
theorem dL_law_193 : decode cL_law 193 = .ok (.aload_n 0, 1) := by decide +kernel
theorem dL_law_194 : decode cL_law 194 = .ok (.iload_n 3, 1) := by decide +kernel
theorem dL_law_195 : decode cL_law 195 = .ok (.iconst 1, 1) := by decide +kernel
theorem dL_law_196 : decode cL_law 196 = .ok (.iadd, 1) := by decide +kernel
theorem dL_law_197 : decode cL_law 197 = .ok (.iaload, 1) := by decide +kernel
theorem dL_law_198 : decode cL_law 198 = .ok (.aload_n 0, 1) := by decide +kernel
theorem dL_law_199 : decode cL_law 199 = .ok (.iload_n 3, 1) := by decide +kernel
theorem dL_law_200 : decode cL_law 200 = .ok (.iconst 2, 1) := by decide +kernel
theorem dL_law_201 : decode cL_law 201 = .ok (.iadd, 1) := by decide +kernel
theorem dL_law_202 : decode cL_law 202 = .ok (.iaload, 1) := by decide +kernel
theorem dL_law_203 : decode cL_law 203 = .ok (.aload_n 0, 1) := by decide +kernel
theorem dL_law_204 : decode cL_law 204 = .ok (.iload_n 3, 1) := by decide +kernel
theorem dL_law_205 : decode cL_law 205 = .ok (.iconst 3, 1) := by decide +kernel
theorem dL_law_206 : decode cL_law 206 = .ok (.iadd, 1) := by decide +kernel
theorem dL_law_207 : decode cL_law 207 = .ok (.iaload, 1) := by decide +kernel
theorem dL_law_208 : decode cL_law 208 = .ok (.aload_n 0, 1) := by decide +kernel
theorem dL_law_209 : decode cL_law 209 = .ok (.iload_n 3, 1) := by decide +kernel
theorem dL_law_210 : decode cL_law 210 = .ok (.iconst 4, 1) := by decide +kernel
theorem dL_law_211 : decode cL_law 211 = .ok (.iadd, 1) := by decide +kernel
theorem dL_law_212 : decode cL_law 212 = .ok (.iaload, 1) := by decide +kernel
theorem dL_law_213 : decode cL_law 213 = .ok (.aload_n 0, 1) := by decide +kernel
theorem dL_law_214 : decode cL_law 214 = .ok (.iload_n 3, 1) := by decide +kernel
theorem dL_law_215 : decode cL_law 215 = .ok (.iconst 5, 1) := by decide +kernel
theorem dL_law_216 : decode cL_law 216 = .ok (.iadd, 1) := by decide +kernel
theorem dL_law_217 : decode cL_law 217 = .ok (.iaload, 1) := by decide +kernel
theorem dL_law_218 : decode cL_law 218 = .ok (.invokevirtual 13, 3) := by decide +kernel
theorem dL_law_221 : decode cL_law 221 = .ok (.aload_n 2, 1) := by decide +kernel
theorem dL_law_222 : decode cL_law 222 = .ok (.aload_n 0, 1) := by decide +kernel
theorem dL_law_223 : decode cL_law 223 = .ok (.iload_n 3, 1) := by decide +kernel
theorem dL_law_224 : decode cL_law 224 = .ok (.iconst 1, 1) := by decide +kernel
theorem dL_law_225 : decode cL_law 225 = .ok (.iadd, 1) := by decide +kernel
theorem dL_law_226 : decode cL_law 226 = .ok (.iaload, 1) := by decide +kernel
theorem dL_law_227 : decode cL_law 227 = .ok (.aload_n 0, 1) := by decide +kernel
theorem dL_law_228 : decode cL_law 228 = .ok (.iload_n 3, 1) := by decide +kernel
theorem dL_law_229 : decode cL_law 229 = .ok (.iconst 2, 1) := by decide +kernel
theorem dL_law_230 : decode cL_law 230 = .ok (.iadd, 1) := by decide +kernel
theorem dL_law_231 : decode cL_law 231 = .ok (.iaload, 1) := by decide +kernel
theorem dL_law_232 : decode cL_law 232 = .ok (.aload_n 0, 1) := by decide +kernel
theorem dL_law_233 : decode cL_law 233 = .ok (.iload_n 3, 1) := by decide +kernel
theorem dL_law_234 : decode cL_law 234 = .ok (.iconst 3, 1) := by decide +kernel
theorem dL_law_235 : decode cL_law 235 = .ok (.iadd, 1) := by decide +kernel
theorem dL_law_236 : decode cL_law 236 = .ok (.iaload, 1) := by decide +kernel
theorem dL_law_237 : decode cL_law 237 = .ok (.aload_n 0, 1) := by decide +kernel
theorem dL_law_238 : decode cL_law 238 = .ok (.iload_n 3, 1) := by decide +kernel
theorem dL_law_239 : decode cL_law 239 = .ok (.iconst 4, 1) := by decide +kernel
theorem dL_law_240 : decode cL_law 240 = .ok (.iadd, 1) := by decide +kernel
theorem dL_law_241 : decode cL_law 241 = .ok (.iaload, 1) := by decide +kernel
theorem dL_law_242 : decode cL_law 242 = .ok (.aload_n 0, 1) := by decide +kernel
theorem dL_law_243 : decode cL_law 243 = .ok (.iload_n 3, 1) := by decide +kernel
theorem dL_law_244 : decode cL_law 244 = .ok (.iconst 5, 1) := by decide +kernel
theorem dL_law_245 : decode cL_law 245 = .ok (.iadd, 1) := by decide +kernel
theorem dL_law_246 : decode cL_law 246 = .ok (.iaload, 1) := by decide +kernel
theorem dL_law_247 : decode cL_law 247 = .ok (.invokevirtual 17, 3) := by decide +kernel
theorem dL_law_250 : decode cL_law 250 = .ok (.if_icmp .eq 1100, 3) := by decide +kernel
theorem dL_law_253 : decode cL_law 253 = .ok (.iconst 0, 1) := by decide +kernel
theorem dL_law_254 : decode cL_law 254 = .ok (.ireturn, 1) := by decide +kernel
theorem dL_law_255 : decode cL_law 255 = .ok (.aload_n 1, 1) := by decide +kernel
theorem dL_law_256 : decode cL_law 256 = .ok (.aload_n 0, 1) := by decide +kernel
theorem dL_law_257 : decode cL_law 257 = .ok (.iload_n 3, 1) := by decide +kernel
theorem dL_law_258 : decode cL_law 258 = .ok (.iconst 1, 1) := by decide +kernel
theorem dL_law_259 : decode cL_law 259 = .ok (.iadd, 1) := by decide +kernel
theorem dL_law_260 : decode cL_law 260 = .ok (.iaload, 1) := by decide +kernel
theorem dL_law_261 : decode cL_law 261 = .ok (.invokevirtual 18, 3) := by decide +kernel
theorem dL_law_264 : decode cL_law 264 = .ok (.aload_n 2, 1) := by decide +kernel
theorem dL_law_265 : decode cL_law 265 = .ok (.aload_n 0, 1) := by decide +kernel
theorem dL_law_266 : decode cL_law 266 = .ok (.iload_n 3, 1) := by decide +kernel
theorem dL_law_267 : decode cL_law 267 = .ok (.iconst 1, 1) := by decide +kernel
theorem dL_law_268 : decode cL_law 268 = .ok (.iadd, 1) := by decide +kernel
theorem dL_law_269 : decode cL_law 269 = .ok (.iaload, 1) := by decide +kernel
theorem dL_law_270 : decode cL_law 270 = .ok (.invokevirtual 22, 3) := by decide +kernel
theorem dL_law_273 : decode cL_law 273 = .ok (.if_icmp .eq 1077, 3) := by decide +kernel
theorem dL_law_276 : decode cL_law 276 = .ok (.iconst 0, 1) := by decide +kernel
theorem dL_law_277 : decode cL_law 277 = .ok (.ireturn, 1) := by decide +kernel
theorem dL_law_278 : decode cL_law 278 = .ok (.aload_n 1, 1) := by decide +kernel
theorem dL_law_279 : decode cL_law 279 = .ok (.invokevirtual 23, 3) := by decide +kernel
theorem dL_law_282 : decode cL_law 282 = .ok (.aload_n 2, 1) := by decide +kernel
theorem dL_law_283 : decode cL_law 283 = .ok (.invokevirtual 27, 3) := by decide +kernel
theorem dL_law_286 : decode cL_law 286 = .ok (.if_icmp .eq 1064, 3) := by decide +kernel
theorem dL_law_289 : decode cL_law 289 = .ok (.iconst 0, 1) := by decide +kernel
theorem dL_law_290 : decode cL_law 290 = .ok (.ireturn, 1) := by decide +kernel
theorem dL_law_291 : decode cL_law 291 = .ok (.aload_n 1, 1) := by decide +kernel
theorem dL_law_292 : decode cL_law 292 = .ok (.aload_n 0, 1) := by decide +kernel
theorem dL_law_293 : decode cL_law 293 = .ok (.iload_n 3, 1) := by decide +kernel
theorem dL_law_294 : decode cL_law 294 = .ok (.iconst 1, 1) := by decide +kernel
theorem dL_law_295 : decode cL_law 295 = .ok (.iadd, 1) := by decide +kernel
theorem dL_law_296 : decode cL_law 296 = .ok (.iaload, 1) := by decide +kernel
theorem dL_law_297 : decode cL_law 297 = .ok (.invokevirtual 28, 3) := by decide +kernel
theorem dL_law_300 : decode cL_law 300 = .ok (.aload_n 2, 1) := by decide +kernel
theorem dL_law_301 : decode cL_law 301 = .ok (.aload_n 0, 1) := by decide +kernel
theorem dL_law_302 : decode cL_law 302 = .ok (.iload_n 3, 1) := by decide +kernel
theorem dL_law_303 : decode cL_law 303 = .ok (.iconst 1, 1) := by decide +kernel
theorem dL_law_304 : decode cL_law 304 = .ok (.iadd, 1) := by decide +kernel
theorem dL_law_305 : decode cL_law 305 = .ok (.iaload, 1) := by decide +kernel
theorem dL_law_306 : decode cL_law 306 = .ok (.invokevirtual 31, 3) := by decide +kernel
theorem dL_law_309 : decode cL_law 309 = .ok (.if_icmp .eq 1041, 3) := by decide +kernel
theorem dL_law_312 : decode cL_law 312 = .ok (.iconst 0, 1) := by decide +kernel
theorem dL_law_313 : decode cL_law 313 = .ok (.ireturn, 1) := by decide +kernel
theorem dL_law_314 : decode cL_law 314 = .ok (.aload_n 1, 1) := by decide +kernel
theorem dL_law_315 : decode cL_law 315 = .ok (.aload_n 0, 1) := by decide +kernel
theorem dL_law_316 : decode cL_law 316 = .ok (.iload_n 3, 1) := by decide +kernel
theorem dL_law_317 : decode cL_law 317 = .ok (.iconst 1, 1) := by decide +kernel
theorem dL_law_318 : decode cL_law 318 = .ok (.iadd, 1) := by decide +kernel
theorem dL_law_319 : decode cL_law 319 = .ok (.iaload, 1) := by decide +kernel
theorem dL_law_320 : decode cL_law 320 = .ok (.invokevirtual 32, 3) := by decide +kernel
theorem dL_law_323 : decode cL_law 323 = .ok (.aload_n 2, 1) := by decide +kernel
theorem dL_law_324 : decode cL_law 324 = .ok (.aload_n 0, 1) := by decide +kernel
theorem dL_law_325 : decode cL_law 325 = .ok (.iload_n 3, 1) := by decide +kernel
theorem dL_law_326 : decode cL_law 326 = .ok (.iconst 1, 1) := by decide +kernel
theorem dL_law_327 : decode cL_law 327 = .ok (.iadd, 1) := by decide +kernel
theorem dL_law_328 : decode cL_law 328 = .ok (.iaload, 1) := by decide +kernel
theorem dL_law_329 : decode cL_law 329 = .ok (.invokevirtual 35, 3) := by decide +kernel
theorem dL_law_332 : decode cL_law 332 = .ok (.if_icmp .eq 1018, 3) := by decide +kernel
theorem dL_law_335 : decode cL_law 335 = .ok (.iconst 0, 1) := by decide +kernel
theorem dL_law_336 : decode cL_law 336 = .ok (.ireturn, 1) := by decide +kernel
theorem dL_law_337 : decode cL_law 337 = .ok (.aload_n 1, 1) := by decide +kernel
theorem dL_law_338 : decode cL_law 338 = .ok (.aload_n 0, 1) := by decide +kernel
theorem dL_law_339 : decode cL_law 339 = .ok (.iload_n 3, 1) := by decide +kernel
theorem dL_law_340 : decode cL_law 340 = .ok (.iconst 1, 1) := by decide +kernel
theorem dL_law_341 : decode cL_law 341 = .ok (.iadd, 1) := by decide +kernel
theorem dL_law_342 : decode cL_law 342 = .ok (.iaload, 1) := by decide +kernel
theorem dL_law_343 : decode cL_law 343 = .ok (.aload_n 0, 1) := by decide +kernel
theorem dL_law_344 : decode cL_law 344 = .ok (.iload_n 3, 1) := by decide +kernel
theorem dL_law_345 : decode cL_law 345 = .ok (.iconst 2, 1) := by decide +kernel
theorem dL_law_346 : decode cL_law 346 = .ok (.iadd, 1) := by decide +kernel
theorem dL_law_347 : decode cL_law 347 = .ok (.iaload, 1) := by decide +kernel
theorem dL_law_348 : decode cL_law 348 = .ok (.aload_n 0, 1) := by decide +kernel
theorem dL_law_349 : decode cL_law 349 = .ok (.iload_n 3, 1) := by decide +kernel
theorem dL_law_350 : decode cL_law 350 = .ok (.iconst 3, 1) := by decide +kernel
theorem dL_law_351 : decode cL_law 351 = .ok (.iadd, 1) := by decide +kernel
theorem dL_law_352 : decode cL_law 352 = .ok (.iaload, 1) := by decide +kernel
theorem dL_law_353 : decode cL_law 353 = .ok (.invokevirtual 36, 3) := by decide +kernel
theorem dL_law_356 : decode cL_law 356 = .ok (.aload_n 2, 1) := by decide +kernel
theorem dL_law_357 : decode cL_law 357 = .ok (.aload_n 0, 1) := by decide +kernel
theorem dL_law_358 : decode cL_law 358 = .ok (.iload_n 3, 1) := by decide +kernel
theorem dL_law_359 : decode cL_law 359 = .ok (.iconst 1, 1) := by decide +kernel
theorem dL_law_360 : decode cL_law 360 = .ok (.iadd, 1) := by decide +kernel
theorem dL_law_361 : decode cL_law 361 = .ok (.iaload, 1) := by decide +kernel
theorem dL_law_362 : decode cL_law 362 = .ok (.aload_n 0, 1) := by decide +kernel
theorem dL_law_363 : decode cL_law 363 = .ok (.iload_n 3, 1) := by decide +kernel
theorem dL_law_364 : decode cL_law 364 = .ok (.iconst 2, 1) := by decide +kernel
theorem dL_law_365 : decode cL_law 365 = .ok (.iadd, 1) := by decide +kernel
theorem dL_law_366 : decode cL_law 366 = .ok (.iaload, 1) := by decide +kernel
theorem dL_law_367 : decode cL_law 367 = .ok (.aload_n 0, 1) := by decide +kernel
theorem dL_law_368 : decode cL_law 368 = .ok (.iload_n 3, 1) := by decide +kernel
theorem dL_law_369 : decode cL_law 369 = .ok (.iconst 3, 1) := by decide +kernel
theorem dL_law_370 : decode cL_law 370 = .ok (.iadd, 1) := by decide +kernel
theorem dL_law_371 : decode cL_law 371 = .ok (.iaload, 1) := by decide +kernel
theorem dL_law_372 : decode cL_law 372 = .ok (.invokevirtual 40, 3) := by decide +kernel
theorem dL_law_375 : decode cL_law 375 = .ok (.if_icmp .eq 975, 3) := by decide +kernel
theorem dL_law_378 : decode cL_law 378 = .ok (.iconst 0, 1) := by decide +kernel
theorem dL_law_379 : decode cL_law 379 = .ok (.ireturn, 1) := by decide +kernel
theorem dL_law_380 : decode cL_law 380 = .ok (.aload_n 1, 1) := by decide +kernel
theorem dL_law_381 : decode cL_law 381 = .ok (.aload_n 0, 1) := by decide +kernel
theorem dL_law_382 : decode cL_law 382 = .ok (.iload_n 3, 1) := by decide +kernel
theorem dL_law_383 : decode cL_law 383 = .ok (.iconst 1, 1) := by decide +kernel
theorem dL_law_384 : decode cL_law 384 = .ok (.iadd, 1) := by decide +kernel
theorem dL_law_385 : decode cL_law 385 = .ok (.iaload, 1) := by decide +kernel
theorem dL_law_386 : decode cL_law 386 = .ok (.aload_n 0, 1) := by decide +kernel
theorem dL_law_387 : decode cL_law 387 = .ok (.iload_n 3, 1) := by decide +kernel
theorem dL_law_388 : decode cL_law 388 = .ok (.iconst 2, 1) := by decide +kernel
theorem dL_law_389 : decode cL_law 389 = .ok (.iadd, 1) := by decide +kernel
theorem dL_law_390 : decode cL_law 390 = .ok (.iaload, 1) := by decide +kernel
theorem dL_law_391 : decode cL_law 391 = .ok (.aload_n 0, 1) := by decide +kernel
theorem dL_law_392 : decode cL_law 392 = .ok (.iload_n 3, 1) := by decide +kernel
theorem dL_law_393 : decode cL_law 393 = .ok (.iconst 3, 1) := by decide +kernel
theorem dL_law_394 : decode cL_law 394 = .ok (.iadd, 1) := by decide +kernel
theorem dL_law_395 : decode cL_law 395 = .ok (.iaload, 1) := by decide +kernel
theorem dL_law_396 : decode cL_law 396 = .ok (.invokevirtual 41, 3) := by decide +kernel
theorem dL_law_399 : decode cL_law 399 = .ok (.aload_n 2, 1) := by decide +kernel
theorem dL_law_400 : decode cL_law 400 = .ok (.aload_n 0, 1) := by decide +kernel
theorem dL_law_401 : decode cL_law 401 = .ok (.iload_n 3, 1) := by decide +kernel
theorem dL_law_402 : decode cL_law 402 = .ok (.iconst 1, 1) := by decide +kernel
theorem dL_law_403 : decode cL_law 403 = .ok (.iadd, 1) := by decide +kernel
theorem dL_law_404 : decode cL_law 404 = .ok (.iaload, 1) := by decide +kernel
theorem dL_law_405 : decode cL_law 405 = .ok (.aload_n 0, 1) := by decide +kernel
theorem dL_law_406 : decode cL_law 406 = .ok (.iload_n 3, 1) := by decide +kernel
theorem dL_law_407 : decode cL_law 407 = .ok (.iconst 2, 1) := by decide +kernel
theorem dL_law_408 : decode cL_law 408 = .ok (.iadd, 1) := by decide +kernel
theorem dL_law_409 : decode cL_law 409 = .ok (.iaload, 1) := by decide +kernel
theorem dL_law_410 : decode cL_law 410 = .ok (.aload_n 0, 1) := by decide +kernel
theorem dL_law_411 : decode cL_law 411 = .ok (.iload_n 3, 1) := by decide +kernel
theorem dL_law_412 : decode cL_law 412 = .ok (.iconst 3, 1) := by decide +kernel
theorem dL_law_413 : decode cL_law 413 = .ok (.iadd, 1) := by decide +kernel
theorem dL_law_414 : decode cL_law 414 = .ok (.iaload, 1) := by decide +kernel
theorem dL_law_415 : decode cL_law 415 = .ok (.invokevirtual 44, 3) := by decide +kernel
end
section
theorem dL_law_418 : decode cL_law 418 = .ok (.if_icmp .eq 932, 3) := by decide +kernel
theorem dL_law_421 : decode cL_law 421 = .ok (.iconst 0, 1) := by decide +kernel
theorem dL_law_422 : decode cL_law 422 = .ok (.ireturn, 1) := by decide +kernel
theorem dL_law_423 : decode cL_law 423 = .ok (.aload_n 1, 1) := by decide +kernel
theorem dL_law_424 : decode cL_law 424 = .ok (.aload_n 0, 1) := by decide +kernel
theorem dL_law_425 : decode cL_law 425 = .ok (.iload_n 3, 1) := by decide +kernel
theorem dL_law_426 : decode cL_law 426 = .ok (.iconst 1, 1) := by decide +kernel
theorem dL_law_427 : decode cL_law 427 = .ok (.iadd, 1) := by decide +kernel
theorem dL_law_428 : decode cL_law 428 = .ok (.iaload, 1) := by decide +kernel
theorem dL_law_429 : decode cL_law 429 = .ok (.aload_n 0, 1) := by decide +kernel
theorem dL_law_430 : decode cL_law 430 = .ok (.iload_n 3, 1) := by decide +kernel
theorem dL_law_431 : decode cL_law 431 = .ok (.iconst 2, 1) := by decide +kernel
theorem dL_law_432 : decode cL_law 432 = .ok (.iadd, 1) := by decide +kernel
theorem dL_law_433 : decode cL_law 433 = .ok (.iaload, 1) := by decide +kernel
theorem dL_law_434 : decode cL_law 434 = .ok (.invokevirtual 45, 3) := by decide +kernel
theorem dL_law_437 : decode cL_law 437 = .ok (.aload_n 2, 1) := by decide +kernel
theorem dL_law_438 : decode cL_law 438 = .ok (.aload_n 0, 1) := by decide +kernel
theorem dL_law_439 : decode cL_law 439 = .ok (.iload_n 3, 1) := by decide +kernel
theorem dL_law_440 : decode cL_law 440 = .ok (.iconst 1, 1) := by decide +kernel
theorem dL_law_441 : decode cL_law 441 = .ok (.iadd, 1) := by decide +kernel
theorem dL_law_442 : decode cL_law 442 = .ok (.iaload, 1) := by decide +kernel
theorem dL_law_443 : decode cL_law 443 = .ok (.aload_n 0, 1) := by decide +kernel
theorem dL_law_444 : decode cL_law 444 = .ok (.iload_n 3, 1) := by decide +kernel
theorem dL_law_445 : decode cL_law 445 = .ok (.iconst 2, 1) := by decide +kernel
theorem dL_law_446 : decode cL_law 446 = .ok (.iadd, 1) := by decide +kernel
theorem dL_law_447 : decode cL_law 447 = .ok (.iaload, 1) := by decide +kernel
theorem dL_law_448 : decode cL_law 448 = .ok (.invokevirtual 49, 3) := by decide +kernel
theorem dL_law_451 : decode cL_law 451 = .ok (.if_icmp .eq 899, 3) := by decide +kernel
theorem dL_law_454 : decode cL_law 454 = .ok (.iconst 0, 1) := by decide +kernel
theorem dL_law_455 : decode cL_law 455 = .ok (.ireturn, 1) := by decide +kernel
theorem dL_law_456 : decode cL_law 456 = .ok (.aload_n 1, 1) := by decide +kernel
theorem dL_law_457 : decode cL_law 457 = .ok (.aload_n 0, 1) := by decide +kernel
theorem dL_law_458 : decode cL_law 458 = .ok (.iload_n 3, 1) := by decide +kernel
theorem dL_law_459 : decode cL_law 459 = .ok (.iconst 1, 1) := by decide +kernel
theorem dL_law_460 : decode cL_law 460 = .ok (.iadd, 1) := by decide +kernel
theorem dL_law_461 : decode cL_law 461 = .ok (.iaload, 1) := by decide +kernel
theorem dL_law_462 : decode cL_law 462 = .ok (.invokevirtual 50, 3) := by decide +kernel
theorem dL_law_465 : decode cL_law 465 = .ok (.aload_n 2, 1) := by decide +kernel
theorem dL_law_466 : decode cL_law 466 = .ok (.aload_n 0, 1) := by decide +kernel
theorem dL_law_467 : decode cL_law 467 = .ok (.iload_n 3, 1) := by decide +kernel
theorem dL_law_468 : decode cL_law 468 = .ok (.iconst 1, 1) := by decide +kernel
theorem dL_law_469 : decode cL_law 469 = .ok (.iadd, 1) := by decide +kernel
theorem dL_law_470 : decode cL_law 470 = .ok (.iaload, 1) := by decide +kernel
theorem dL_law_471 : decode cL_law 471 = .ok (.invokevirtual 53, 3) := by decide +kernel
theorem dL_law_474 : decode cL_law 474 = .ok (.if_icmp .eq 876, 3) := by decide +kernel
theorem dL_law_477 : decode cL_law 477 = .ok (.iconst 0, 1) := by decide +kernel
theorem dL_law_478 : decode cL_law 478 = .ok (.ireturn, 1) := by decide +kernel
theorem dL_law_479 : decode cL_law 479 = .ok (.aload_n 1, 1) := by decide +kernel
theorem dL_law_480 : decode cL_law 480 = .ok (.aload_n 0, 1) := by decide +kernel
theorem dL_law_481 : decode cL_law 481 = .ok (.iload_n 3, 1) := by decide +kernel
theorem dL_law_482 : decode cL_law 482 = .ok (.iconst 1, 1) := by decide +kernel
theorem dL_law_483 : decode cL_law 483 = .ok (.iadd, 1) := by decide +kernel
theorem dL_law_484 : decode cL_law 484 = .ok (.iaload, 1) := by decide +kernel
theorem dL_law_485 : decode cL_law 485 = .ok (.aload_n 0, 1) := by decide +kernel
theorem dL_law_486 : decode cL_law 486 = .ok (.iload_n 3, 1) := by decide +kernel
theorem dL_law_487 : decode cL_law 487 = .ok (.iconst 2, 1) := by decide +kernel
theorem dL_law_488 : decode cL_law 488 = .ok (.iadd, 1) := by decide +kernel
theorem dL_law_489 : decode cL_law 489 = .ok (.iaload, 1) := by decide +kernel
theorem dL_law_490 : decode cL_law 490 = .ok (.invokevirtual 54, 3) := by decide +kernel
theorem dL_law_493 : decode cL_law 493 = .ok (.aload_n 2, 1) := by decide +kernel
theorem dL_law_494 : decode cL_law 494 = .ok (.aload_n 0, 1) := by decide +kernel
theorem dL_law_495 : decode cL_law 495 = .ok (.iload_n 3, 1) := by decide +kernel
theorem dL_law_496 : decode cL_law 496 = .ok (.iconst 1, 1) := by decide +kernel
theorem dL_law_497 : decode cL_law 497 = .ok (.iadd, 1) := by decide +kernel
theorem dL_law_498 : decode cL_law 498 = .ok (.iaload, 1) := by decide +kernel
theorem dL_law_499 : decode cL_law 499 = .ok (.aload_n 0, 1) := by decide +kernel
theorem dL_law_500 : decode cL_law 500 = .ok (.iload_n 3, 1) := by decide +kernel
theorem dL_law_501 : decode cL_law 501 = .ok (.iconst 2, 1) := by decide +kernel
theorem dL_law_502 : decode cL_law 502 = .ok (.iadd, 1) := by decide +kernel
theorem dL_law_503 : decode cL_law 503 = .ok (.iaload, 1) := by decide +kernel
theorem dL_law_504 : decode cL_law 504 = .ok (.invokevirtual 57, 3) := by decide +kernel
theorem dL_law_507 : decode cL_law 507 = .ok (.if_icmp .eq 843, 3) := by decide +kernel
theorem dL_law_510 : decode cL_law 510 = .ok (.iconst 0, 1) := by decide +kernel
theorem dL_law_511 : decode cL_law 511 = .ok (.ireturn, 1) := by decide +kernel
theorem dL_law_512 : decode cL_law 512 = .ok (.aload_n 1, 1) := by decide +kernel
theorem dL_law_513 : decode cL_law 513 = .ok (.aload_n 0, 1) := by decide +kernel
theorem dL_law_514 : decode cL_law 514 = .ok (.iload_n 3, 1) := by decide +kernel
theorem dL_law_515 : decode cL_law 515 = .ok (.iconst 1, 1) := by decide +kernel
theorem dL_law_516 : decode cL_law 516 = .ok (.iadd, 1) := by decide +kernel
theorem dL_law_517 : decode cL_law 517 = .ok (.iaload, 1) := by decide +kernel
theorem dL_law_518 : decode cL_law 518 = .ok (.invokevirtual 58, 3) := by decide +kernel
theorem dL_law_521 : decode cL_law 521 = .ok (.aload_n 2, 1) := by decide +kernel
theorem dL_law_522 : decode cL_law 522 = .ok (.aload_n 0, 1) := by decide +kernel
theorem dL_law_523 : decode cL_law 523 = .ok (.iload_n 3, 1) := by decide +kernel
theorem dL_law_524 : decode cL_law 524 = .ok (.iconst 1, 1) := by decide +kernel
theorem dL_law_525 : decode cL_law 525 = .ok (.iadd, 1) := by decide +kernel
theorem dL_law_526 : decode cL_law 526 = .ok (.iaload, 1) := by decide +kernel
theorem dL_law_527 : decode cL_law 527 = .ok (.invokevirtual 61, 3) := by decide +kernel
theorem dL_law_530 : decode cL_law 530 = .ok (.if_icmp .eq 820, 3) := by decide +kernel
theorem dL_law_533 : decode cL_law 533 = .ok (.iconst 0, 1) := by decide +kernel
theorem dL_law_534 : decode cL_law 534 = .ok (.ireturn, 1) := by decide +kernel
theorem dL_law_535 : decode cL_law 535 = .ok (.aload_n 1, 1) := by decide +kernel
theorem dL_law_536 : decode cL_law 536 = .ok (.aload_n 0, 1) := by decide +kernel
theorem dL_law_537 : decode cL_law 537 = .ok (.iload_n 3, 1) := by decide +kernel
theorem dL_law_538 : decode cL_law 538 = .ok (.iconst 1, 1) := by decide +kernel
theorem dL_law_539 : decode cL_law 539 = .ok (.iadd, 1) := by decide +kernel
theorem dL_law_540 : decode cL_law 540 = .ok (.iaload, 1) := by decide +kernel
theorem dL_law_541 : decode cL_law 541 = .ok (.aload_n 0, 1) := by decide +kernel
theorem dL_law_542 : decode cL_law 542 = .ok (.iload_n 3, 1) := by decide +kernel
theorem dL_law_543 : decode cL_law 543 = .ok (.iconst 2, 1) := by decide +kernel
theorem dL_law_544 : decode cL_law 544 = .ok (.iadd, 1) := by decide +kernel
theorem dL_law_545 : decode cL_law 545 = .ok (.iaload, 1) := by decide +kernel
theorem dL_law_546 : decode cL_law 546 = .ok (.aload_n 0, 1) := by decide +kernel
theorem dL_law_547 : decode cL_law 547 = .ok (.iload_n 3, 1) := by decide +kernel
theorem dL_law_548 : decode cL_law 548 = .ok (.iconst 3, 1) := by decide +kernel
theorem dL_law_549 : decode cL_law 549 = .ok (.iadd, 1) := by decide +kernel
theorem dL_law_550 : decode cL_law 550 = .ok (.iaload, 1) := by decide +kernel
theorem dL_law_551 : decode cL_law 551 = .ok (.invokevirtual 62, 3) := by decide +kernel
theorem dL_law_554 : decode cL_law 554 = .ok (.aload_n 2, 1) := by decide +kernel
theorem dL_law_555 : decode cL_law 555 = .ok (.aload_n 0, 1) := by decide +kernel
theorem dL_law_556 : decode cL_law 556 = .ok (.iload_n 3, 1) := by decide +kernel
theorem dL_law_557 : decode cL_law 557 = .ok (.iconst 1, 1) := by decide +kernel
theorem dL_law_558 : decode cL_law 558 = .ok (.iadd, 1) := by decide +kernel
theorem dL_law_559 : decode cL_law 559 = .ok (.iaload, 1) := by decide +kernel
theorem dL_law_560 : decode cL_law 560 = .ok (.aload_n 0, 1) := by decide +kernel
theorem dL_law_561 : decode cL_law 561 = .ok (.iload_n 3, 1) := by decide +kernel
theorem dL_law_562 : decode cL_law 562 = .ok (.iconst 2, 1) := by decide +kernel
theorem dL_law_563 : decode cL_law 563 = .ok (.iadd, 1) := by decide +kernel
theorem dL_law_564 : decode cL_law 564 = .ok (.iaload, 1) := by decide +kernel
theorem dL_law_565 : decode cL_law 565 = .ok (.aload_n 0, 1) := by decide +kernel
theorem dL_law_566 : decode cL_law 566 = .ok (.iload_n 3, 1) := by decide +kernel
theorem dL_law_567 : decode cL_law 567 = .ok (.iconst 3, 1) := by decide +kernel
theorem dL_law_568 : decode cL_law 568 = .ok (.iadd, 1) := by decide +kernel
theorem dL_law_569 : decode cL_law 569 = .ok (.iaload, 1) := by decide +kernel
theorem dL_law_570 : decode cL_law 570 = .ok (.invokevirtual 65, 3) := by decide +kernel
theorem dL_law_573 : decode cL_law 573 = .ok (.if_icmp .eq 777, 3) := by decide +kernel
theorem dL_law_576 : decode cL_law 576 = .ok (.iconst 0, 1) := by decide +kernel
theorem dL_law_577 : decode cL_law 577 = .ok (.ireturn, 1) := by decide +kernel
theorem dL_law_578 : decode cL_law 578 = .ok (.aload_n 1, 1) := by decide +kernel
theorem dL_law_579 : decode cL_law 579 = .ok (.aload_n 0, 1) := by decide +kernel
theorem dL_law_580 : decode cL_law 580 = .ok (.iload_n 3, 1) := by decide +kernel
theorem dL_law_581 : decode cL_law 581 = .ok (.iconst 1, 1) := by decide +kernel
theorem dL_law_582 : decode cL_law 582 = .ok (.iadd, 1) := by decide +kernel
theorem dL_law_583 : decode cL_law 583 = .ok (.iaload, 1) := by decide +kernel
theorem dL_law_584 : decode cL_law 584 = .ok (.invokevirtual 66, 3) := by decide +kernel
theorem dL_law_587 : decode cL_law 587 = .ok (.aload_n 2, 1) := by decide +kernel
theorem dL_law_588 : decode cL_law 588 = .ok (.aload_n 0, 1) := by decide +kernel
theorem dL_law_589 : decode cL_law 589 = .ok (.iload_n 3, 1) := by decide +kernel
theorem dL_law_590 : decode cL_law 590 = .ok (.iconst 1, 1) := by decide +kernel
theorem dL_law_591 : decode cL_law 591 = .ok (.iadd, 1) := by decide +kernel
theorem dL_law_592 : decode cL_law 592 = .ok (.iaload, 1) := by decide +kernel
theorem dL_law_593 : decode cL_law 593 = .ok (.invokevirtual 69, 3) := by decide +kernel
theorem dL_law_596 : decode cL_law 596 = .ok (.if_icmp .eq 754, 3) := by decide +kernel
theorem dL_law_599 : decode cL_law 599 = .ok (.iconst 0, 1) := by decide +kernel
theorem dL_law_600 : decode cL_law 600 = .ok (.ireturn, 1) := by decide +kernel
theorem dL_law_601 : decode cL_law 601 = .ok (.aload_n 1, 1) := by decide +kernel
theorem dL_law_602 : decode cL_law 602 = .ok (.invokevirtual 70, 3) := by decide +kernel
theorem dL_law_605 : decode cL_law 605 = .ok (.aload_n 2, 1) := by decide +kernel
theorem dL_law_606 : decode cL_law 606 = .ok (.invokevirtual 73, 3) := by decide +kernel
theorem dL_law_609 : decode cL_law 609 = .ok (.if_icmp .eq 741, 3) := by decide +kernel
theorem dL_law_612 : decode cL_law 612 = .ok (.iconst 0, 1) := by decide +kernel
theorem dL_law_613 : decode cL_law 613 = .ok (.ireturn, 1) := by decide +kernel
theorem dL_law_614 : decode cL_law 614 = .ok (.aload_n 1, 1) := by decide +kernel
theorem dL_law_615 : decode cL_law 615 = .ok (.aload_n 0, 1) := by decide +kernel
theorem dL_law_616 : decode cL_law 616 = .ok (.iload_n 3, 1) := by decide +kernel
theorem dL_law_617 : decode cL_law 617 = .ok (.iconst 1, 1) := by decide +kernel
theorem dL_law_618 : decode cL_law 618 = .ok (.iadd, 1) := by decide +kernel
theorem dL_law_619 : decode cL_law 619 = .ok (.iaload, 1) := by decide +kernel
theorem dL_law_620 : decode cL_law 620 = .ok (.aload_n 0, 1) := by decide +kernel
theorem dL_law_621 : decode cL_law 621 = .ok (.iload_n 3, 1) := by decide +kernel
theorem dL_law_622 : decode cL_law 622 = .ok (.iconst 2, 1) := by decide +kernel
theorem dL_law_623 : decode cL_law 623 = .ok (.iadd, 1) := by decide +kernel
theorem dL_law_624 : decode cL_law 624 = .ok (.iaload, 1) := by decide +kernel
theorem dL_law_625 : decode cL_law 625 = .ok (.aload_n 0, 1) := by decide +kernel
theorem dL_law_626 : decode cL_law 626 = .ok (.iload_n 3, 1) := by decide +kernel
theorem dL_law_627 : decode cL_law 627 = .ok (.iconst 3, 1) := by decide +kernel
theorem dL_law_628 : decode cL_law 628 = .ok (.iadd, 1) := by decide +kernel
theorem dL_law_629 : decode cL_law 629 = .ok (.iaload, 1) := by decide +kernel
theorem dL_law_630 : decode cL_law 630 = .ok (.invokevirtual 74, 3) := by decide +kernel
theorem dL_law_633 : decode cL_law 633 = .ok (.aload_n 2, 1) := by decide +kernel
theorem dL_law_634 : decode cL_law 634 = .ok (.aload_n 0, 1) := by decide +kernel
theorem dL_law_635 : decode cL_law 635 = .ok (.iload_n 3, 1) := by decide +kernel
theorem dL_law_636 : decode cL_law 636 = .ok (.iconst 1, 1) := by decide +kernel
theorem dL_law_637 : decode cL_law 637 = .ok (.iadd, 1) := by decide +kernel
theorem dL_law_638 : decode cL_law 638 = .ok (.iaload, 1) := by decide +kernel
theorem dL_law_639 : decode cL_law 639 = .ok (.aload_n 0, 1) := by decide +kernel
theorem dL_law_640 : decode cL_law 640 = .ok (.iload_n 3, 1) := by decide +kernel
theorem dL_law_641 : decode cL_law 641 = .ok (.iconst 2, 1) := by decide +kernel
theorem dL_law_642 : decode cL_law 642 = .ok (.iadd, 1) := by decide +kernel
theorem dL_law_643 : decode cL_law 643 = .ok (.iaload, 1) := by decide +kernel
theorem dL_law_644 : decode cL_law 644 = .ok (.aload_n 0, 1) := by decide +kernel
theorem dL_law_645 : decode cL_law 645 = .ok (.iload_n 3, 1) := by decide +kernel
theorem dL_law_646 : decode cL_law 646 = .ok (.iconst 3, 1) := by decide +kernel
theorem dL_law_647 : decode cL_law 647 = .ok (.iadd, 1) := by decide +kernel
theorem dL_law_648 : decode cL_law 648 = .ok (.iaload, 1) := by decide +kernel
theorem dL_law_649 : decode cL_law 649 = .ok (.invokevirtual 77, 3) := by decide +kernel
theorem dL_law_652 : decode cL_law 652 = .ok (.if_icmp .eq 698, 3) := by decide +kernel
theorem dL_law_655 : decode cL_law 655 = .ok (.iconst 0, 1) := by decide +kernel
theorem dL_law_656 : decode cL_law 656 = .ok (.ireturn, 1) := by decide +kernel
theorem dL_law_657 : decode cL_law 657 = .ok (.aload_n 1, 1) := by decide +kernel
theorem dL_law_658 : decode cL_law 658 = .ok (.aload_n 0, 1) := by decide +kernel
theorem dL_law_659 : decode cL_law 659 = .ok (.iload_n 3, 1) := by decide +kernel
theorem dL_law_660 : decode cL_law 660 = .ok (.iconst 1, 1) := by decide +kernel
theorem dL_law_661 : decode cL_law 661 = .ok (.iadd, 1) := by decide +kernel
theorem dL_law_662 : decode cL_law 662 = .ok (.iaload, 1) := by decide +kernel
theorem dL_law_663 : decode cL_law 663 = .ok (.aload_n 0, 1) := by decide +kernel
theorem dL_law_664 : decode cL_law 664 = .ok (.iload_n 3, 1) := by decide +kernel
theorem dL_law_665 : decode cL_law 665 = .ok (.iconst 2, 1) := by decide +kernel
theorem dL_law_666 : decode cL_law 666 = .ok (.iadd, 1) := by decide +kernel
theorem dL_law_667 : decode cL_law 667 = .ok (.iaload, 1) := by decide +kernel
theorem dL_law_668 : decode cL_law 668 = .ok (.invokevirtual 78, 3) := by decide +kernel
theorem dL_law_671 : decode cL_law 671 = .ok (.aload_n 2, 1) := by decide +kernel
theorem dL_law_672 : decode cL_law 672 = .ok (.aload_n 0, 1) := by decide +kernel
theorem dL_law_673 : decode cL_law 673 = .ok (.iload_n 3, 1) := by decide +kernel
theorem dL_law_674 : decode cL_law 674 = .ok (.iconst 1, 1) := by decide +kernel
theorem dL_law_675 : decode cL_law 675 = .ok (.iadd, 1) := by decide +kernel
theorem dL_law_676 : decode cL_law 676 = .ok (.iaload, 1) := by decide +kernel
theorem dL_law_677 : decode cL_law 677 = .ok (.aload_n 0, 1) := by decide +kernel
theorem dL_law_678 : decode cL_law 678 = .ok (.iload_n 3, 1) := by decide +kernel
theorem dL_law_679 : decode cL_law 679 = .ok (.iconst 2, 1) := by decide +kernel
theorem dL_law_680 : decode cL_law 680 = .ok (.iadd, 1) := by decide +kernel
theorem dL_law_681 : decode cL_law 681 = .ok (.iaload, 1) := by decide +kernel
theorem dL_law_682 : decode cL_law 682 = .ok (.invokevirtual 81, 3) := by decide +kernel
theorem dL_law_685 : decode cL_law 685 = .ok (.if_icmp .eq 665, 3) := by decide +kernel
theorem dL_law_688 : decode cL_law 688 = .ok (.iconst 0, 1) := by decide +kernel
theorem dL_law_689 : decode cL_law 689 = .ok (.ireturn, 1) := by decide +kernel
theorem dL_law_690 : decode cL_law 690 = .ok (.aload_n 1, 1) := by decide +kernel
theorem dL_law_691 : decode cL_law 691 = .ok (.aload_n 0, 1) := by decide +kernel
theorem dL_law_692 : decode cL_law 692 = .ok (.iload_n 3, 1) := by decide +kernel
theorem dL_law_693 : decode cL_law 693 = .ok (.iconst 1, 1) := by decide +kernel
theorem dL_law_694 : decode cL_law 694 = .ok (.iadd, 1) := by decide +kernel
theorem dL_law_695 : decode cL_law 695 = .ok (.iaload, 1) := by decide +kernel
theorem dL_law_696 : decode cL_law 696 = .ok (.aload_n 0, 1) := by decide +kernel
theorem dL_law_697 : decode cL_law 697 = .ok (.iload_n 3, 1) := by decide +kernel
theorem dL_law_698 : decode cL_law 698 = .ok (.iconst 2, 1) := by decide +kernel
theorem dL_law_699 : decode cL_law 699 = .ok (.iadd, 1) := by decide +kernel
theorem dL_law_700 : decode cL_law 700 = .ok (.iaload, 1) := by decide +kernel
theorem dL_law_701 : decode cL_law 701 = .ok (.aload_n 0, 1) := by decide +kernel
theorem dL_law_702 : decode cL_law 702 = .ok (.iload_n 3, 1) := by decide +kernel
theorem dL_law_703 : decode cL_law 703 = .ok (.iconst 3, 1) := by decide +kernel
theorem dL_law_704 : decode cL_law 704 = .ok (.iadd, 1) := by decide +kernel
theorem dL_law_705 : decode cL_law 705 = .ok (.iaload, 1) := by decide +kernel
theorem dL_law_706 : decode cL_law 706 = .ok (.invokevirtual 82, 3) := by decide +kernel
theorem dL_law_709 : decode cL_law 709 = .ok (.aload_n 2, 1) := by decide +kernel
theorem dL_law_710 : decode cL_law 710 = .ok (.aload_n 0, 1) := by decide +kernel
theorem dL_law_711 : decode cL_law 711 = .ok (.iload_n 3, 1) := by decide +kernel
theorem dL_law_712 : decode cL_law 712 = .ok (.iconst 1, 1) := by decide +kernel
theorem dL_law_713 : decode cL_law 713 = .ok (.iadd, 1) := by decide +kernel
theorem dL_law_714 : decode cL_law 714 = .ok (.iaload, 1) := by decide +kernel
theorem dL_law_715 : decode cL_law 715 = .ok (.aload_n 0, 1) := by decide +kernel
theorem dL_law_716 : decode cL_law 716 = .ok (.iload_n 3, 1) := by decide +kernel
theorem dL_law_717 : decode cL_law 717 = .ok (.iconst 2, 1) := by decide +kernel
theorem dL_law_718 : decode cL_law 718 = .ok (.iadd, 1) := by decide +kernel
theorem dL_law_719 : decode cL_law 719 = .ok (.iaload, 1) := by decide +kernel
theorem dL_law_720 : decode cL_law 720 = .ok (.aload_n 0, 1) := by decide +kernel
theorem dL_law_721 : decode cL_law 721 = .ok (.iload_n 3, 1) := by decide +kernel
theorem dL_law_722 : decode cL_law 722 = .ok (.iconst 3, 1) := by decide +kernel
theorem dL_law_723 : decode cL_law 723 = .ok (.iadd, 1) := by decide +kernel
theorem dL_law_724 : decode cL_law 724 = .ok (.iaload, 1) := by decide +kernel
theorem dL_law_725 : decode cL_law 725 = .ok (.invokevirtual 85, 3) := by decide +kernel
theorem dL_law_728 : decode cL_law 728 = .ok (.if_icmp .eq 622, 3) := by decide +kernel
theorem dL_law_731 : decode cL_law 731 = .ok (.iconst 0, 1) := by decide +kernel
theorem dL_law_732 : decode cL_law 732 = .ok (.ireturn, 1) := by decide +kernel
theorem dL_law_733 : decode cL_law 733 = .ok (.aload_n 1, 1) := by decide +kernel
theorem dL_law_734 : decode cL_law 734 = .ok (.aload_n 0, 1) := by decide +kernel
theorem dL_law_735 : decode cL_law 735 = .ok (.iload_n 3, 1) := by decide +kernel
theorem dL_law_736 : decode cL_law 736 = .ok (.iconst 1, 1) := by decide +kernel
theorem dL_law_737 : decode cL_law 737 = .ok (.iadd, 1) := by decide +kernel
theorem dL_law_738 : decode cL_law 738 = .ok (.iaload, 1) := by decide +kernel
theorem dL_law_739 : decode cL_law 739 = .ok (.aload_n 0, 1) := by decide +kernel
theorem dL_law_740 : decode cL_law 740 = .ok (.iload_n 3, 1) := by decide +kernel
theorem dL_law_741 : decode cL_law 741 = .ok (.iconst 2, 1) := by decide +kernel
theorem dL_law_742 : decode cL_law 742 = .ok (.iadd, 1) := by decide +kernel
theorem dL_law_743 : decode cL_law 743 = .ok (.iaload, 1) := by decide +kernel
theorem dL_law_744 : decode cL_law 744 = .ok (.invokevirtual 86, 3) := by decide +kernel
theorem dL_law_747 : decode cL_law 747 = .ok (.aload_n 2, 1) := by decide +kernel
theorem dL_law_748 : decode cL_law 748 = .ok (.aload_n 0, 1) := by decide +kernel
theorem dL_law_749 : decode cL_law 749 = .ok (.iload_n 3, 1) := by decide +kernel
theorem dL_law_750 : decode cL_law 750 = .ok (.iconst 1, 1) := by decide +kernel
theorem dL_law_751 : decode cL_law 751 = .ok (.iadd, 1) := by decide +kernel
theorem dL_law_752 : decode cL_law 752 = .ok (.iaload, 1) := by decide +kernel
theorem dL_law_753 : decode cL_law 753 = .ok (.aload_n 0, 1) := by decide +kernel
theorem dL_law_754 : decode cL_law 754 = .ok (.iload_n 3, 1) := by decide +kernel
theorem dL_law_755 : decode cL_law 755 = .ok (.iconst 2, 1) := by decide +kernel
theorem dL_law_756 : decode cL_law 756 = .ok (.iadd, 1) := by decide +kernel
theorem dL_law_757 : decode cL_law 757 = .ok (.iaload, 1) := by decide +kernel
theorem dL_law_758 : decode cL_law 758 = .ok (.invokevirtual 89, 3) := by decide +kernel
theorem dL_law_761 : decode cL_law 761 = .ok (.if_icmp .eq 589, 3) := by decide +kernel
theorem dL_law_764 : decode cL_law 764 = .ok (.iconst 0, 1) := by decide +kernel
theorem dL_law_765 : decode cL_law 765 = .ok (.ireturn, 1) := by decide +kernel
theorem dL_law_766 : decode cL_law 766 = .ok (.aload_n 1, 1) := by decide +kernel
theorem dL_law_767 : decode cL_law 767 = .ok (.aload_n 0, 1) := by decide +kernel
theorem dL_law_768 : decode cL_law 768 = .ok (.iload_n 3, 1) := by decide +kernel
theorem dL_law_769 : decode cL_law 769 = .ok (.iconst 1, 1) := by decide +kernel
theorem dL_law_770 : decode cL_law 770 = .ok (.iadd, 1) := by decide +kernel
theorem dL_law_771 : decode cL_law 771 = .ok (.iaload, 1) := by decide +kernel
theorem dL_law_772 : decode cL_law 772 = .ok (.aload_n 0, 1) := by decide +kernel
theorem dL_law_773 : decode cL_law 773 = .ok (.iload_n 3, 1) := by decide +kernel
theorem dL_law_774 : decode cL_law 774 = .ok (.iconst 2, 1) := by decide +kernel
theorem dL_law_775 : decode cL_law 775 = .ok (.iadd, 1) := by decide +kernel
theorem dL_law_776 : decode cL_law 776 = .ok (.iaload, 1) := by decide +kernel
theorem dL_law_777 : decode cL_law 777 = .ok (.aload_n 0, 1) := by decide +kernel
theorem dL_law_778 : decode cL_law 778 = .ok (.iload_n 3, 1) := by decide +kernel
theorem dL_law_779 : decode cL_law 779 = .ok (.iconst 3, 1) := by decide +kernel
theorem dL_law_780 : decode cL_law 780 = .ok (.iadd, 1) := by decide +kernel
theorem dL_law_781 : decode cL_law 781 = .ok (.iaload, 1) := by decide +kernel
theorem dL_law_782 : decode cL_law 782 = .ok (.invokevirtual 90, 3) := by decide +kernel
theorem dL_law_785 : decode cL_law 785 = .ok (.aload_n 2, 1) := by decide +kernel
theorem dL_law_786 : decode cL_law 786 = .ok (.aload_n 0, 1) := by decide +kernel
theorem dL_law_787 : decode cL_law 787 = .ok (.iload_n 3, 1) := by decide +kernel
theorem dL_law_788 : decode cL_law 788 = .ok (.iconst 1, 1) := by decide +kernel
theorem dL_law_789 : decode cL_law 789 = .ok (.iadd, 1) := by decide +kernel
theorem dL_law_790 : decode cL_law 790 = .ok (.iaload, 1) := by decide +kernel
theorem dL_law_791 : decode cL_law 791 = .ok (.aload_n 0, 1) := by decide +kernel
theorem dL_law_792 : decode cL_law 792 = .ok (.iload_n 3, 1) := by decide +kernel
theorem dL_law_793 : decode cL_law 793 = .ok (.iconst 2, 1) := by decide +kernel
theorem dL_law_794 : decode cL_law 794 = .ok (.iadd, 1) := by decide +kernel
theorem dL_law_795 : decode cL_law 795 = .ok (.iaload, 1) := by decide +kernel
theorem dL_law_796 : decode cL_law 796 = .ok (.aload_n 0, 1) := by decide +kernel
theorem dL_law_797 : decode cL_law 797 = .ok (.iload_n 3, 1) := by decide +kernel
theorem dL_law_798 : decode cL_law 798 = .ok (.iconst 3, 1) := by decide +kernel
theorem dL_law_799 : decode cL_law 799 = .ok (.iadd, 1) := by decide +kernel
theorem dL_law_800 : decode cL_law 800 = .ok (.iaload, 1) := by decide +kernel
theorem dL_law_801 : decode cL_law 801 = .ok (.invokevirtual 93, 3) := by decide +kernel
theorem dL_law_804 : decode cL_law 804 = .ok (.if_icmp .eq 546, 3) := by decide +kernel
theorem dL_law_807 : decode cL_law 807 = .ok (.iconst 0, 1) := by decide +kernel
theorem dL_law_808 : decode cL_law 808 = .ok (.ireturn, 1) := by decide +kernel
theorem dL_law_809 : decode cL_law 809 = .ok (.aload_n 1, 1) := by decide +kernel
theorem dL_law_810 : decode cL_law 810 = .ok (.aload_n 0, 1) := by decide +kernel
theorem dL_law_811 : decode cL_law 811 = .ok (.iload_n 3, 1) := by decide +kernel
theorem dL_law_812 : decode cL_law 812 = .ok (.iconst 1, 1) := by decide +kernel
theorem dL_law_813 : decode cL_law 813 = .ok (.iadd, 1) := by decide +kernel
theorem dL_law_814 : decode cL_law 814 = .ok (.iaload, 1) := by decide +kernel
theorem dL_law_815 : decode cL_law 815 = .ok (.invokevirtual 94, 3) := by decide +kernel
theorem dL_law_818 : decode cL_law 818 = .ok (.aload_n 2, 1) := by decide +kernel
theorem dL_law_819 : decode cL_law 819 = .ok (.aload_n 0, 1) := by decide +kernel
theorem dL_law_820 : decode cL_law 820 = .ok (.iload_n 3, 1) := by decide +kernel
theorem dL_law_821 : decode cL_law 821 = .ok (.iconst 1, 1) := by decide +kernel
theorem dL_law_822 : decode cL_law 822 = .ok (.iadd, 1) := by decide +kernel
theorem dL_law_823 : decode cL_law 823 = .ok (.iaload, 1) := by decide +kernel
theorem dL_law_824 : decode cL_law 824 = .ok (.invokevirtual 97, 3) := by decide +kernel
theorem dL_law_827 : decode cL_law 827 = .ok (.if_icmp .eq 523, 3) := by decide +kernel
theorem dL_law_830 : decode cL_law 830 = .ok (.iconst 0, 1) := by decide +kernel
theorem dL_law_831 : decode cL_law 831 = .ok (.ireturn, 1) := by decide +kernel
theorem dL_law_832 : decode cL_law 832 = .ok (.aload_n 1, 1) := by decide +kernel
theorem dL_law_833 : decode cL_law 833 = .ok (.aload_n 0, 1) := by decide +kernel
theorem dL_law_834 : decode cL_law 834 = .ok (.iload_n 3, 1) := by decide +kernel
theorem dL_law_835 : decode cL_law 835 = .ok (.iconst 1, 1) := by decide +kernel
theorem dL_law_836 : decode cL_law 836 = .ok (.iadd, 1) := by decide +kernel
theorem dL_law_837 : decode cL_law 837 = .ok (.iaload, 1) := by decide +kernel
theorem dL_law_838 : decode cL_law 838 = .ok (.invokevirtual 98, 3) := by decide +kernel
theorem dL_law_841 : decode cL_law 841 = .ok (.aload_n 2, 1) := by decide +kernel
theorem dL_law_842 : decode cL_law 842 = .ok (.aload_n 0, 1) := by decide +kernel
theorem dL_law_843 : decode cL_law 843 = .ok (.iload_n 3, 1) := by decide +kernel
theorem dL_law_844 : decode cL_law 844 = .ok (.iconst 1, 1) := by decide +kernel
theorem dL_law_845 : decode cL_law 845 = .ok (.iadd, 1) := by decide +kernel
theorem dL_law_846 : decode cL_law 846 = .ok (.iaload, 1) := by decide +kernel
theorem dL_law_847 : decode cL_law 847 = .ok (.invokevirtual 101, 3) := by decide +kernel
theorem dL_law_850 : decode cL_law 850 = .ok (.if_icmp .eq 500, 3) := by decide +kernel
theorem dL_law_853 : decode cL_law 853 = .ok (.iconst 0, 1) := by decide +kernel
theorem dL_law_854 : decode cL_law 854 = .ok (.ireturn, 1) := by decide +kernel
theorem dL_law_855 : decode cL_law 855 = .ok (.aload_n 1, 1) := by decide +kernel
theorem dL_law_856 : decode cL_law 856 = .ok (.aload_n 0, 1) := by decide +kernel
theorem dL_law_857 : decode cL_law 857 = .ok (.iload_n 3, 1) := by decide +kernel
theorem dL_law_858 : decode cL_law 858 = .ok (.iconst 1, 1) := by decide +kernel
theorem dL_law_859 : decode cL_law 859 = .ok (.iadd, 1) := by decide +kernel
theorem dL_law_860 : decode cL_law 860 = .ok (.iaload, 1) := by decide +kernel
theorem dL_law_861 : decode cL_law 861 = .ok (.aload_n 0, 1) := by decide +kernel
theorem dL_law_862 : decode cL_law 862 = .ok (.iload_n 3, 1) := by decide +kernel
theorem dL_law_863 : decode cL_law 863 = .ok (.iconst 2, 1) := by decide +kernel
theorem dL_law_864 : decode cL_law 864 = .ok (.iadd, 1) := by decide +kernel
theorem dL_law_865 : decode cL_law 865 = .ok (.iaload, 1) := by decide +kernel
theorem dL_law_866 : decode cL_law 866 = .ok (.invokevirtual 102, 3) := by decide +kernel
theorem dL_law_869 : decode cL_law 869 = .ok (.aload_n 2, 1) := by decide +kernel
theorem dL_law_870 : decode cL_law 870 = .ok (.aload_n 0, 1) := by decide +kernel
theorem dL_law_871 : decode cL_law 871 = .ok (.iload_n 3, 1) := by decide +kernel
theorem dL_law_872 : decode cL_law 872 = .ok (.iconst 1, 1) := by decide +kernel
theorem dL_law_873 : decode cL_law 873 = .ok (.iadd, 1) := by decide +kernel
theorem dL_law_874 : decode cL_law 874 = .ok (.iaload, 1) := by decide +kernel
theorem dL_law_875 : decode cL_law 875 = .ok (.aload_n 0, 1) := by decide +kernel
theorem dL_law_876 : decode cL_law 876 = .ok (.iload_n 3, 1) := by decide +kernel
theorem dL_law_877 : decode cL_law 877 = .ok (.iconst 2, 1) := by decide +kernel
theorem dL_law_878 : decode cL_law 878 = .ok (.iadd, 1) := by decide +kernel
theorem dL_law_879 : decode cL_law 879 = .ok (.iaload, 1) := by decide +kernel
theorem dL_law_880 : decode cL_law 880 = .ok (.invokevirtual 105, 3) := by decide +kernel
theorem dL_law_883 : decode cL_law 883 = .ok (.if_icmp .eq 467, 3) := by decide +kernel
theorem dL_law_886 : decode cL_law 886 = .ok (.iconst 0, 1) := by decide +kernel
theorem dL_law_887 : decode cL_law 887 = .ok (.ireturn, 1) := by decide +kernel
theorem dL_law_888 : decode cL_law 888 = .ok (.aload_n 1, 1) := by decide +kernel
theorem dL_law_889 : decode cL_law 889 = .ok (.aload_n 0, 1) := by decide +kernel
theorem dL_law_890 : decode cL_law 890 = .ok (.iload_n 3, 1) := by decide +kernel
theorem dL_law_891 : decode cL_law 891 = .ok (.iconst 1, 1) := by decide +kernel
theorem dL_law_892 : decode cL_law 892 = .ok (.iadd, 1) := by decide +kernel
theorem dL_law_893 : decode cL_law 893 = .ok (.iaload, 1) := by decide +kernel
theorem dL_law_894 : decode cL_law 894 = .ok (.aload_n 0, 1) := by decide +kernel
theorem dL_law_895 : decode cL_law 895 = .ok (.iload_n 3, 1) := by decide +kernel
theorem dL_law_896 : decode cL_law 896 = .ok (.iconst 2, 1) := by decide +kernel
theorem dL_law_897 : decode cL_law 897 = .ok (.iadd, 1) := by decide +kernel
theorem dL_law_898 : decode cL_law 898 = .ok (.iaload, 1) := by decide +kernel
theorem dL_law_899 : decode cL_law 899 = .ok (.aload_n 0, 1) := by decide +kernel
theorem dL_law_900 : decode cL_law 900 = .ok (.iload_n 3, 1) := by decide +kernel
theorem dL_law_901 : decode cL_law 901 = .ok (.iconst 3, 1) := by decide +kernel
theorem dL_law_902 : decode cL_law 902 = .ok (.iadd, 1) := by decide +kernel
theorem dL_law_903 : decode cL_law 903 = .ok (.iaload, 1) := by decide +kernel
theorem dL_law_904 : decode cL_law 904 = .ok (.invokevirtual 106, 3) := by decide +kernel
theorem dL_law_907 : decode cL_law 907 = .ok (.aload_n 2, 1) := by decide +kernel
theorem dL_law_908 : decode cL_law 908 = .ok (.aload_n 0, 1) := by decide +kernel
theorem dL_law_909 : decode cL_law 909 = .ok (.iload_n 3, 1) := by decide +kernel
theorem dL_law_910 : decode cL_law 910 = .ok (.iconst 1, 1) := by decide +kernel
theorem dL_law_911 : decode cL_law 911 = .ok (.iadd, 1) := by decide +kernel
theorem dL_law_912 : decode cL_law 912 = .ok (.iaload, 1) := by decide +kernel
theorem dL_law_913 : decode cL_law 913 = .ok (.aload_n 0, 1) := by decide +kernel
theorem dL_law_914 : decode cL_law 914 = .ok (.iload_n 3, 1) := by decide +kernel
theorem dL_law_915 : decode cL_law 915 = .ok (.iconst 2, 1) := by decide +kernel
theorem dL_law_916 : decode cL_law 916 = .ok (.iadd, 1) := by decide +kernel
theorem dL_law_917 : decode cL_law 917 = .ok (.iaload, 1) := by decide +kernel
theorem dL_law_918 : decode cL_law 918 = .ok (.aload_n 0, 1) := by decide +kernel
theorem dL_law_919 : decode cL_law 919 = .ok (.iload_n 3, 1) := by decide +kernel
theorem dL_law_920 : decode cL_law 920 = .ok (.iconst 3, 1) := by decide +kernel
theorem dL_law_921 : decode cL_law 921 = .ok (.iadd, 1) := by decide +kernel
theorem dL_law_922 : decode cL_law 922 = .ok (.iaload, 1) := by decide +kernel
theorem dL_law_923 : decode cL_law 923 = .ok (.invokevirtual 109, 3) := by decide +kernel
theorem dL_law_926 : decode cL_law 926 = .ok (.if_icmp .eq 424, 3) := by decide +kernel
theorem dL_law_929 : decode cL_law 929 = .ok (.iconst 0, 1) := by decide +kernel
theorem dL_law_930 : decode cL_law 930 = .ok (.ireturn, 1) := by decide +kernel
theorem dL_law_931 : decode cL_law 931 = .ok (.aload_n 1, 1) := by decide +kernel
theorem dL_law_932 : decode cL_law 932 = .ok (.aload_n 0, 1) := by decide +kernel
theorem dL_law_933 : decode cL_law 933 = .ok (.iload_n 3, 1) := by decide +kernel
theorem dL_law_934 : decode cL_law 934 = .ok (.iconst 1, 1) := by decide +kernel
theorem dL_law_935 : decode cL_law 935 = .ok (.iadd, 1) := by decide +kernel
theorem dL_law_936 : decode cL_law 936 = .ok (.iaload, 1) := by decide +kernel
theorem dL_law_937 : decode cL_law 937 = .ok (.invokevirtual 110, 3) := by decide +kernel
theorem dL_law_940 : decode cL_law 940 = .ok (.aload_n 2, 1) := by decide +kernel
theorem dL_law_941 : decode cL_law 941 = .ok (.aload_n 0, 1) := by decide +kernel
theorem dL_law_942 : decode cL_law 942 = .ok (.iload_n 3, 1) := by decide +kernel
theorem dL_law_943 : decode cL_law 943 = .ok (.iconst 1, 1) := by decide +kernel
theorem dL_law_944 : decode cL_law 944 = .ok (.iadd, 1) := by decide +kernel
theorem dL_law_945 : decode cL_law 945 = .ok (.iaload, 1) := by decide +kernel
theorem dL_law_946 : decode cL_law 946 = .ok (.invokevirtual 113, 3) := by decide +kernel
theorem dL_law_949 : decode cL_law 949 = .ok (.if_icmp .eq 401, 3) := by decide +kernel
theorem dL_law_952 : decode cL_law 952 = .ok (.iconst 0, 1) := by decide +kernel
theorem dL_law_953 : decode cL_law 953 = .ok (.ireturn, 1) := by decide +kernel
theorem dL_law_954 : decode cL_law 954 = .ok (.aload_n 1, 1) := by decide +kernel
theorem dL_law_955 : decode cL_law 955 = .ok (.aload_n 0, 1) := by decide +kernel
theorem dL_law_956 : decode cL_law 956 = .ok (.iload_n 3, 1) := by decide +kernel
theorem dL_law_957 : decode cL_law 957 = .ok (.iconst 1, 1) := by decide +kernel
theorem dL_law_958 : decode cL_law 958 = .ok (.iadd, 1) := by decide +kernel
theorem dL_law_959 : decode cL_law 959 = .ok (.iaload, 1) := by decide +kernel
theorem dL_law_960 : decode cL_law 960 = .ok (.invokevirtual 114, 3) := by decide +kernel
theorem dL_law_963 : decode cL_law 963 = .ok (.aload_n 2, 1) := by decide +kernel
theorem dL_law_964 : decode cL_law 964 = .ok (.aload_n 0, 1) := by decide +kernel
theorem dL_law_965 : decode cL_law 965 = .ok (.iload_n 3, 1) := by decide +kernel
theorem dL_law_966 : decode cL_law 966 = .ok (.iconst 1, 1) := by decide +kernel
theorem dL_law_967 : decode cL_law 967 = .ok (.iadd, 1) := by decide +kernel
theorem dL_law_968 : decode cL_law 968 = .ok (.iaload, 1) := by decide +kernel
theorem dL_law_969 : decode cL_law 969 = .ok (.invokevirtual 117, 3) := by decide +kernel
theorem dL_law_972 : decode cL_law 972 = .ok (.if_icmp .eq 378, 3) := by decide +kernel
theorem dL_law_975 : decode cL_law 975 = .ok (.iconst 0, 1) := by decide +kernel
theorem dL_law_976 : decode cL_law 976 = .ok (.ireturn, 1) := by decide +kernel
theorem dL_law_977 : decode cL_law 977 = .ok (.aload_n 1, 1) := by decide +kernel
theorem dL_law_978 : decode cL_law 978 = .ok (.aload_n 0, 1) := by decide +kernel
theorem dL_law_979 : decode cL_law 979 = .ok (.iload_n 3, 1) := by decide +kernel
theorem dL_law_980 : decode cL_law 980 = .ok (.iconst 1, 1) := by decide +kernel
theorem dL_law_981 : decode cL_law 981 = .ok (.iadd, 1) := by decide +kernel
theorem dL_law_982 : decode cL_law 982 = .ok (.iaload, 1) := by decide +kernel
theorem dL_law_983 : decode cL_law 983 = .ok (.aload_n 0, 1) := by decide +kernel
theorem dL_law_984 : decode cL_law 984 = .ok (.iload_n 3, 1) := by decide +kernel
theorem dL_law_985 : decode cL_law 985 = .ok (.iconst 2, 1) := by decide +kernel
theorem dL_law_986 : decode cL_law 986 = .ok (.iadd, 1) := by decide +kernel
theorem dL_law_987 : decode cL_law 987 = .ok (.iaload, 1) := by decide +kernel
theorem dL_law_988 : decode cL_law 988 = .ok (.invokevirtual 118, 3) := by decide +kernel
theorem dL_law_991 : decode cL_law 991 = .ok (.aload_n 2, 1) := by decide +kernel
theorem dL_law_992 : decode cL_law 992 = .ok (.aload_n 0, 1) := by decide +kernel
theorem dL_law_993 : decode cL_law 993 = .ok (.iload_n 3, 1) := by decide +kernel
theorem dL_law_994 : decode cL_law 994 = .ok (.iconst 1, 1) := by decide +kernel
theorem dL_law_995 : decode cL_law 995 = .ok (.iadd, 1) := by decide +kernel
theorem dL_law_996 : decode cL_law 996 = .ok (.iaload, 1) := by decide +kernel
theorem dL_law_997 : decode cL_law 997 = .ok (.aload_n 0, 1) := by decide +kernel
theorem dL_law_998 : decode cL_law 998 = .ok (.iload_n 3, 1) := by decide +kernel
theorem dL_law_999 : decode cL_law 999 = .ok (.iconst 2, 1) := by decide +kernel
theorem dL_law_1000 : decode cL_law 1000 = .ok (.iadd, 1) := by decide +kernel
theorem dL_law_1001 : decode cL_law 1001 = .ok (.iaload, 1) := by decide +kernel
theorem dL_law_1002 : decode cL_law 1002 = .ok (.invokevirtual 121, 3) := by decide +kernel
theorem dL_law_1005 : decode cL_law 1005 = .ok (.if_icmp .eq 345, 3) := by decide +kernel
theorem dL_law_1008 : decode cL_law 1008 = .ok (.iconst 0, 1) := by decide +kernel
theorem dL_law_1009 : decode cL_law 1009 = .ok (.ireturn, 1) := by decide +kernel
theorem dL_law_1010 : decode cL_law 1010 = .ok (.aload_n 1, 1) := by decide +kernel
theorem dL_law_1011 : decode cL_law 1011 = .ok (.invokevirtual 122, 3) := by decide +kernel
theorem dL_law_1014 : decode cL_law 1014 = .ok (.aload_n 2, 1) := by decide +kernel
theorem dL_law_1015 : decode cL_law 1015 = .ok (.invokevirtual 125, 3) := by decide +kernel
theorem dL_law_1018 : decode cL_law 1018 = .ok (.if_icmp .eq 332, 3) := by decide +kernel
theorem dL_law_1021 : decode cL_law 1021 = .ok (.iconst 0, 1) := by decide +kernel
theorem dL_law_1022 : decode cL_law 1022 = .ok (.ireturn, 1) := by decide +kernel
theorem dL_law_1023 : decode cL_law 1023 = .ok (.aload_n 1, 1) := by decide +kernel
theorem dL_law_1024 : decode cL_law 1024 = .ok (.aload_n 0, 1) := by decide +kernel
theorem dL_law_1025 : decode cL_law 1025 = .ok (.iload_n 3, 1) := by decide +kernel
theorem dL_law_1026 : decode cL_law 1026 = .ok (.iconst 1, 1) := by decide +kernel
theorem dL_law_1027 : decode cL_law 1027 = .ok (.iadd, 1) := by decide +kernel
theorem dL_law_1028 : decode cL_law 1028 = .ok (.iaload, 1) := by decide +kernel
theorem dL_law_1029 : decode cL_law 1029 = .ok (.invokevirtual 126, 3) := by decide +kernel
theorem dL_law_1032 : decode cL_law 1032 = .ok (.aload_n 2, 1) := by decide +kernel
theorem dL_law_1033 : decode cL_law 1033 = .ok (.aload_n 0, 1) := by decide +kernel
theorem dL_law_1034 : decode cL_law 1034 = .ok (.iload_n 3, 1) := by decide +kernel
theorem dL_law_1035 : decode cL_law 1035 = .ok (.iconst 1, 1) := by decide +kernel
theorem dL_law_1036 : decode cL_law 1036 = .ok (.iadd, 1) := by decide +kernel
theorem dL_law_1037 : decode cL_law 1037 = .ok (.iaload, 1) := by decide +kernel
theorem dL_law_1038 : decode cL_law 1038 = .ok (.invokevirtual 129, 3) := by decide +kernel
theorem dL_law_1041 : decode cL_law 1041 = .ok (.if_icmp .eq 309, 3) := by decide +kernel
theorem dL_law_1044 : decode cL_law 1044 = .ok (.iconst 0, 1) := by decide +kernel
theorem dL_law_1045 : decode cL_law 1045 = .ok (.ireturn, 1) := by decide +kernel
theorem dL_law_1046 : decode cL_law 1046 = .ok (.aload_n 1, 1) := by decide +kernel
theorem dL_law_1047 : decode cL_law 1047 = .ok (.aload_n 0, 1) := by decide +kernel
theorem dL_law_1048 : decode cL_law 1048 = .ok (.iload_n 3, 1) := by decide +kernel
theorem dL_law_1049 : decode cL_law 1049 = .ok (.iconst 1, 1) := by decide +kernel
theorem dL_law_1050 : decode cL_law 1050 = .ok (.iadd, 1) := by decide +kernel
theorem dL_law_1051 : decode cL_law 1051 = .ok (.iaload, 1) := by decide +kernel
theorem dL_law_1052 : decode cL_law 1052 = .ok (.aload_n 0, 1) := by decide +kernel
theorem dL_law_1053 : decode cL_law 1053 = .ok (.iload_n 3, 1) := by decide +kernel
theorem dL_law_1054 : decode cL_law 1054 = .ok (.iconst 2, 1) := by decide +kernel
theorem dL_law_1055 : decode cL_law 1055 = .ok (.iadd, 1) := by decide +kernel
theorem dL_law_1056 : decode cL_law 1056 = .ok (.iaload, 1) := by decide +kernel
theorem dL_law_1057 : decode cL_law 1057 = .ok (.invokevirtual 130, 3) := by decide +kernel
theorem dL_law_1060 : decode cL_law 1060 = .ok (.aload_n 2, 1) := by decide +kernel
theorem dL_law_1061 : decode cL_law 1061 = .ok (.aload_n 0, 1) := by decide +kernel
theorem dL_law_1062 : decode cL_law 1062 = .ok (.iload_n 3, 1) := by decide +kernel
theorem dL_law_1063 : decode cL_law 1063 = .ok (.iconst 1, 1) := by decide +kernel
theorem dL_law_1064 : decode cL_law 1064 = .ok (.iadd, 1) := by decide +kernel
theorem dL_law_1065 : decode cL_law 1065 = .ok (.iaload, 1) := by decide +kernel
theorem dL_law_1066 : decode cL_law 1066 = .ok (.aload_n 0, 1) := by decide +kernel
theorem dL_law_1067 : decode cL_law 1067 = .ok (.iload_n 3, 1) := by decide +kernel
theorem dL_law_1068 : decode cL_law 1068 = .ok (.iconst 2, 1) := by decide +kernel
theorem dL_law_1069 : decode cL_law 1069 = .ok (.iadd, 1) := by decide +kernel
theorem dL_law_1070 : decode cL_law 1070 = .ok (.iaload, 1) := by decide +kernel
theorem dL_law_1071 : decode cL_law 1071 = .ok (.invokevirtual 133, 3) := by decide +kernel
theorem dL_law_1074 : decode cL_law 1074 = .ok (.if_icmp .eq 276, 3) := by decide +kernel
theorem dL_law_1077 : decode cL_law 1077 = .ok (.iconst 0, 1) := by decide +kernel
theorem dL_law_1078 : decode cL_law 1078 = .ok (.ireturn, 1) := by decide +kernel
theorem dL_law_1079 : decode cL_law 1079 = .ok (.aload_n 1, 1) := by decide +kernel
theorem dL_law_1080 : decode cL_law 1080 = .ok (.aload_n 0, 1) := by decide +kernel
theorem dL_law_1081 : decode cL_law 1081 = .ok (.iload_n 3, 1) := by decide +kernel
theorem dL_law_1082 : decode cL_law 1082 = .ok (.iconst 1, 1) := by decide +kernel
theorem dL_law_1083 : decode cL_law 1083 = .ok (.iadd, 1) := by decide +kernel
theorem dL_law_1084 : decode cL_law 1084 = .ok (.iaload, 1) := by decide +kernel
theorem dL_law_1085 : decode cL_law 1085 = .ok (.invokevirtual 134, 3) := by decide +kernel
theorem dL_law_1088 : decode cL_law 1088 = .ok (.aload_n 2, 1) := by decide +kernel
theorem dL_law_1089 : decode cL_law 1089 = .ok (.aload_n 0, 1) := by decide +kernel
theorem dL_law_1090 : decode cL_law 1090 = .ok (.iload_n 3, 1) := by decide +kernel
theorem dL_law_1091 : decode cL_law 1091 = .ok (.iconst 1, 1) := by decide +kernel
theorem dL_law_1092 : decode cL_law 1092 = .ok (.iadd, 1) := by decide +kernel
theorem dL_law_1093 : decode cL_law 1093 = .ok (.iaload, 1) := by decide +kernel
theorem dL_law_1094 : decode cL_law 1094 = .ok (.invokevirtual 137, 3) := by decide +kernel
theorem dL_law_1097 : decode cL_law 1097 = .ok (.if_icmp .eq 253, 3) := by decide +kernel
theorem dL_law_1100 : decode cL_law 1100 = .ok (.iconst 0, 1) := by decide +kernel
theorem dL_law_1101 : decode cL_law 1101 = .ok (.ireturn, 1) := by decide +kernel
theorem dL_law_1102 : decode cL_law 1102 = .ok (.aload_n 1, 1) := by decide +kernel
theorem dL_law_1103 : decode cL_law 1103 = .ok (.aload_n 0, 1) := by decide +kernel
theorem dL_law_1104 : decode cL_law 1104 = .ok (.iload_n 3, 1) := by decide +kernel
theorem dL_law_1105 : decode cL_law 1105 = .ok (.iconst 1, 1) := by decide +kernel
theorem dL_law_1106 : decode cL_law 1106 = .ok (.iadd, 1) := by decide +kernel
theorem dL_law_1107 : decode cL_law 1107 = .ok (.iaload, 1) := by decide +kernel
theorem dL_law_1108 : decode cL_law 1108 = .ok (.invokevirtual 138, 3) := by decide +kernel
theorem dL_law_1111 : decode cL_law 1111 = .ok (.aload_n 2, 1) := by decide +kernel
theorem dL_law_1112 : decode cL_law 1112 = .ok (.aload_n 0, 1) := by decide +kernel
theorem dL_law_1113 : decode cL_law 1113 = .ok (.iload_n 3, 1) := by decide +kernel
theorem dL_law_1114 : decode cL_law 1114 = .ok (.iconst 1, 1) := by decide +kernel
theorem dL_law_1115 : decode cL_law 1115 = .ok (.iadd, 1) := by decide +kernel
theorem dL_law_1116 : decode cL_law 1116 = .ok (.iaload, 1) := by decide +kernel
theorem dL_law_1117 : decode cL_law 1117 = .ok (.invokevirtual 141, 3) := by decide +kernel
theorem dL_law_1120 : decode cL_law 1120 = .ok (.if_icmp .eq 230, 3) := by decide +kernel
theorem dL_law_1123 : decode cL_law 1123 = .ok (.iconst 0, 1) := by decide +kernel
theorem dL_law_1124 : decode cL_law 1124 = .ok (.ireturn, 1) := by decide +kernel
theorem dL_law_1125 : decode cL_law 1125 = .ok (.aload_n 1, 1) := by decide +kernel
theorem dL_law_1126 : decode cL_law 1126 = .ok (.aload_n 0, 1) := by decide +kernel
theorem dL_law_1127 : decode cL_law 1127 = .ok (.iload_n 3, 1) := by decide +kernel
theorem dL_law_1128 : decode cL_law 1128 = .ok (.iconst 1, 1) := by decide +kernel
theorem dL_law_1129 : decode cL_law 1129 = .ok (.iadd, 1) := by decide +kernel
theorem dL_law_1130 : decode cL_law 1130 = .ok (.iaload, 1) := by decide +kernel
theorem dL_law_1131 : decode cL_law 1131 = .ok (.invokevirtual 142, 3) := by decide +kernel
theorem dL_law_1134 : decode cL_law 1134 = .ok (.aload_n 2, 1) := by decide +kernel
theorem dL_law_1135 : decode cL_law 1135 = .ok (.aload_n 0, 1) := by decide +kernel
theorem dL_law_1136 : decode cL_law 1136 = .ok (.iload_n 3, 1) := by decide +kernel
theorem dL_law_1137 : decode cL_law 1137 = .ok (.iconst 1, 1) := by decide +kernel
theorem dL_law_1138 : decode cL_law 1138 = .ok (.iadd, 1) := by decide +kernel
theorem dL_law_1139 : decode cL_law 1139 = .ok (.iaload, 1) := by decide +kernel
theorem dL_law_1140 : decode cL_law 1140 = .ok (.invokevirtual 145, 3) := by decide +kernel
theorem dL_law_1143 : decode cL_law 1143 = .ok (.if_icmp .eq 207, 3) := by decide +kernel
theorem dL_law_1146 : decode cL_law 1146 = .ok (.iconst 0, 1) := by decide +kernel
theorem dL_law_1147 : decode cL_law 1147 = .ok (.ireturn, 1) := by decide +kernel
theorem dL_law_1148 : decode cL_law 1148 = .ok (.aload_n 1, 1) := by decide +kernel
theorem dL_law_1149 : decode cL_law 1149 = .ok (.aload_n 0, 1) := by decide +kernel
theorem dL_law_1150 : decode cL_law 1150 = .ok (.iload_n 3, 1) := by decide +kernel
theorem dL_law_1151 : decode cL_law 1151 = .ok (.iconst 1, 1) := by decide +kernel
theorem dL_law_1152 : decode cL_law 1152 = .ok (.iadd, 1) := by decide +kernel
theorem dL_law_1153 : decode cL_law 1153 = .ok (.iaload, 1) := by decide +kernel
theorem dL_law_1154 : decode cL_law 1154 = .ok (.invokevirtual 146, 3) := by decide +kernel
theorem dL_law_1157 : decode cL_law 1157 = .ok (.aload_n 2, 1) := by decide +kernel
theorem dL_law_1158 : decode cL_law 1158 = .ok (.aload_n 0, 1) := by decide +kernel
theorem dL_law_1159 : decode cL_law 1159 = .ok (.iload_n 3, 1) := by decide +kernel
theorem dL_law_1160 : decode cL_law 1160 = .ok (.iconst 1, 1) := by decide +kernel
theorem dL_law_1161 : decode cL_law 1161 = .ok (.iadd, 1) := by decide +kernel
theorem dL_law_1162 : decode cL_law 1162 = .ok (.iaload, 1) := by decide +kernel
theorem dL_law_1163 : decode cL_law 1163 = .ok (.invokevirtual 149, 3) := by decide +kernel
theorem dL_law_1166 : decode cL_law 1166 = .ok (.if_icmp .eq 184, 3) := by decide +kernel
theorem dL_law_1169 : decode cL_law 1169 = .ok (.iconst 0, 1) := by decide +kernel
theorem dL_law_1170 : decode cL_law 1170 = .ok (.ireturn, 1) := by decide +kernel
theorem dL_law_1171 : decode cL_law 1171 = .ok (.aload_n 1, 1) := by decide +kernel
theorem dL_law_1172 : decode cL_law 1172 = .ok (.aload_n 0, 1) := by decide +kernel
theorem dL_law_1173 : decode cL_law 1173 = .ok (.iload_n 3, 1) := by decide +kernel
theorem dL_law_1174 : decode cL_law 1174 = .ok (.iconst 1, 1) := by decide +kernel
theorem dL_law_1175 : decode cL_law 1175 = .ok (.iadd, 1) := by decide +kernel
theorem dL_law_1176 : decode cL_law 1176 = .ok (.iaload, 1) := by decide +kernel
theorem dL_law_1177 : decode cL_law 1177 = .ok (.aload_n 0, 1) := by decide +kernel
theorem dL_law_1178 : decode cL_law 1178 = .ok (.iload_n 3, 1) := by decide +kernel
theorem dL_law_1179 : decode cL_law 1179 = .ok (.iconst 2, 1) := by decide +kernel
theorem dL_law_1180 : decode cL_law 1180 = .ok (.iadd, 1) := by decide +kernel
theorem dL_law_1181 : decode cL_law 1181 = .ok (.iaload, 1) := by decide +kernel
theorem dL_law_1182 : decode cL_law 1182 = .ok (.aload_n 0, 1) := by decide +kernel
theorem dL_law_1183 : decode cL_law 1183 = .ok (.iload_n 3, 1) := by decide +kernel
theorem dL_law_1184 : decode cL_law 1184 = .ok (.iconst 3, 1) := by decide +kernel
theorem dL_law_1185 : decode cL_law 1185 = .ok (.iadd, 1) := by decide +kernel
theorem dL_law_1186 : decode cL_law 1186 = .ok (.iaload, 1) := by decide +kernel
theorem dL_law_1187 : decode cL_law 1187 = .ok (.invokevirtual 150, 3) := by decide +kernel
theorem dL_law_1190 : decode cL_law 1190 = .ok (.aload_n 2, 1) := by decide +kernel
theorem dL_law_1191 : decode cL_law 1191 = .ok (.aload_n 0, 1) := by decide +kernel
theorem dL_law_1192 : decode cL_law 1192 = .ok (.iload_n 3, 1) := by decide +kernel
theorem dL_law_1193 : decode cL_law 1193 = .ok (.iconst 1, 1) := by decide +kernel
theorem dL_law_1194 : decode cL_law 1194 = .ok (.iadd, 1) := by decide +kernel
theorem dL_law_1195 : decode cL_law 1195 = .ok (.iaload, 1) := by decide +kernel
theorem dL_law_1196 : decode cL_law 1196 = .ok (.aload_n 0, 1) := by decide +kernel
theorem dL_law_1197 : decode cL_law 1197 = .ok (.iload_n 3, 1) := by decide +kernel
theorem dL_law_1198 : decode cL_law 1198 = .ok (.iconst 2, 1) := by decide +kernel
theorem dL_law_1199 : decode cL_law 1199 = .ok (.iadd, 1) := by decide +kernel
theorem dL_law_1200 : decode cL_law 1200 = .ok (.iaload, 1) := by decide +kernel
theorem dL_law_1201 : decode cL_law 1201 = .ok (.aload_n 0, 1) := by decide +kernel
theorem dL_law_1202 : decode cL_law 1202 = .ok (.iload_n 3, 1) := by decide +kernel
theorem dL_law_1203 : decode cL_law 1203 = .ok (.iconst 3, 1) := by decide +kernel
theorem dL_law_1204 : decode cL_law 1204 = .ok (.iadd, 1) := by decide +kernel
theorem dL_law_1205 : decode cL_law 1205 = .ok (.iaload, 1) := by decide +kernel
theorem dL_law_1206 : decode cL_law 1206 = .ok (.invokevirtual 153, 3) := by decide +kernel
theorem dL_law_1209 : decode cL_law 1209 = .ok (.if_icmp .eq 141, 3) := by decide +kernel
theorem dL_law_1212 : decode cL_law 1212 = .ok (.iconst 0, 1) := by decide +kernel
theorem dL_law_1213 : decode cL_law 1213 = .ok (.ireturn, 1) := by decide +kernel
theorem dL_law_1214 : decode cL_law 1214 = .ok (.aload_n 1, 1) := by decide +kernel
theorem dL_law_1215 : decode cL_law 1215 = .ok (.aload_n 0, 1) := by decide +kernel
theorem dL_law_1216 : decode cL_law 1216 = .ok (.iload_n 3, 1) := by decide +kernel
theorem dL_law_1217 : decode cL_law 1217 = .ok (.iconst 1, 1) := by decide +kernel
theorem dL_law_1218 : decode cL_law 1218 = .ok (.iadd, 1) := by decide +kernel
theorem dL_law_1219 : decode cL_law 1219 = .ok (.iaload, 1) := by decide +kernel
theorem dL_law_1220 : decode cL_law 1220 = .ok (.aload_n 0, 1) := by decide +kernel
theorem dL_law_1221 : decode cL_law 1221 = .ok (.iload_n 3, 1) := by decide +kernel
theorem dL_law_1222 : decode cL_law 1222 = .ok (.iconst 2, 1) := by decide +kernel
theorem dL_law_1223 : decode cL_law 1223 = .ok (.iadd, 1) := by decide +kernel
theorem dL_law_1224 : decode cL_law 1224 = .ok (.iaload, 1) := by decide +kernel
theorem dL_law_1225 : decode cL_law 1225 = .ok (.aload_n 0, 1) := by decide +kernel
theorem dL_law_1226 : decode cL_law 1226 = .ok (.iload_n 3, 1) := by decide +kernel
theorem dL_law_1227 : decode cL_law 1227 = .ok (.iconst 3, 1) := by decide +kernel
theorem dL_law_1228 : decode cL_law 1228 = .ok (.iadd, 1) := by decide +kernel
theorem dL_law_1229 : decode cL_law 1229 = .ok (.iaload, 1) := by decide +kernel
theorem dL_law_1230 : decode cL_law 1230 = .ok (.i2l, 1) := by decide +kernel
theorem dL_law_1231 : decode cL_law 1231 = .ok (.bipush 32, 2) := by decide +kernel
theorem dL_law_1233 : decode cL_law 1233 = .ok (.lshl, 1) := by decide +kernel
theorem dL_law_1234 : decode cL_law 1234 = .ok (.aload_n 0, 1) := by decide +kernel
theorem dL_law_1235 : decode cL_law 1235 = .ok (.iload_n 3, 1) := by decide +kernel
theorem dL_law_1236 : decode cL_law 1236 = .ok (.iconst 4, 1) := by decide +kernel
theorem dL_law_1237 : decode cL_law 1237 = .ok (.iadd, 1) := by decide +kernel
theorem dL_law_1238 : decode cL_law 1238 = .ok (.iaload, 1) := by decide +kernel
theorem dL_law_1239 : decode cL_law 1239 = .ok (.i2l, 1) := by decide +kernel
theorem dL_law_1240 : decode cL_law 1240 = .ok (.ldc2_w 154, 3) := by decide +kernel
theorem dL_law_1243 : decode cL_law 1243 = .ok (.land, 1) := by decide +kernel
theorem dL_law_1244 : decode cL_law 1244 = .ok (.lor, 1) := by decide +kernel
theorem dL_law_1245 : decode cL_law 1245 = .ok (.invokevirtual 156, 3) := by decide +kernel
theorem dL_law_1248 : decode cL_law 1248 = .ok (.aload_n 2, 1) := by decide +kernel
theorem dL_law_1249 : decode cL_law 1249 = .ok (.aload_n 0, 1) := by decide +kernel
theorem dL_law_1250 : decode cL_law 1250 = .ok (.iload_n 3, 1) := by decide +kernel
theorem dL_law_1251 : decode cL_law 1251 = .ok (.iconst 1, 1) := by decide +kernel
theorem dL_law_1252 : decode cL_law 1252 = .ok (.iadd, 1) := by decide +kernel
theorem dL_law_1253 : decode cL_law 1253 = .ok (.iaload, 1) := by decide +kernel
theorem dL_law_1254 : decode cL_law 1254 = .ok (.aload_n 0, 1) := by decide +kernel
theorem dL_law_1255 : decode cL_law 1255 = .ok (.iload_n 3, 1) := by decide +kernel
theorem dL_law_1256 : decode cL_law 1256 = .ok (.iconst 2, 1) := by decide +kernel
theorem dL_law_1257 : decode cL_law 1257 = .ok (.iadd, 1) := by decide +kernel
theorem dL_law_1258 : decode cL_law 1258 = .ok (.iaload, 1) := by decide +kernel
theorem dL_law_1259 : decode cL_law 1259 = .ok (.aload_n 0, 1) := by decide +kernel
theorem dL_law_1260 : decode cL_law 1260 = .ok (.iload_n 3, 1) := by decide +kernel
theorem dL_law_1261 : decode cL_law 1261 = .ok (.iconst 3, 1) := by decide +kernel
theorem dL_law_1262 : decode cL_law 1262 = .ok (.iadd, 1) := by decide +kernel
theorem dL_law_1263 : decode cL_law 1263 = .ok (.iaload, 1) := by decide +kernel
theorem dL_law_1264 : decode cL_law 1264 = .ok (.i2l, 1) := by decide +kernel
theorem dL_law_1265 : decode cL_law 1265 = .ok (.bipush 32, 2) := by decide +kernel
theorem dL_law_1267 : decode cL_law 1267 = .ok (.lshl, 1) := by decide +kernel
theorem dL_law_1268 : decode cL_law 1268 = .ok (.aload_n 0, 1) := by decide +kernel
theorem dL_law_1269 : decode cL_law 1269 = .ok (.iload_n 3, 1) := by decide +kernel
theorem dL_law_1270 : decode cL_law 1270 = .ok (.iconst 4, 1) := by decide +kernel
theorem dL_law_1271 : decode cL_law 1271 = .ok (.iadd, 1) := by decide +kernel
theorem dL_law_1272 : decode cL_law 1272 = .ok (.iaload, 1) := by decide +kernel
theorem dL_law_1273 : decode cL_law 1273 = .ok (.i2l, 1) := by decide +kernel
theorem dL_law_1274 : decode cL_law 1274 = .ok (.ldc2_w 154, 3) := by decide +kernel
theorem dL_law_1277 : decode cL_law 1277 = .ok (.land, 1) := by decide +kernel
theorem dL_law_1278 : decode cL_law 1278 = .ok (.lor, 1) := by decide +kernel
theorem dL_law_1279 : decode cL_law 1279 = .ok (.invokevirtual 160, 3) := by decide +kernel
theorem dL_law_1282 : decode cL_law 1282 = .ok (.if_icmp .eq 68, 3) := by decide +kernel
theorem dL_law_1285 : decode cL_law 1285 = .ok (.iconst 0, 1) := by decide +kernel
theorem dL_law_1286 : decode cL_law 1286 = .ok (.ireturn, 1) := by decide +kernel
theorem dL_law_1287 : decode cL_law 1287 = .ok (.aload_n 1, 1) := by decide +kernel
theorem dL_law_1288 : decode cL_law 1288 = .ok (.aload_n 0, 1) := by decide +kernel
theorem dL_law_1289 : decode cL_law 1289 = .ok (.iload_n 3, 1) := by decide +kernel
theorem dL_law_1290 : decode cL_law 1290 = .ok (.iconst 1, 1) := by decide +kernel
theorem dL_law_1291 : decode cL_law 1291 = .ok (.iadd, 1) := by decide +kernel
theorem dL_law_1292 : decode cL_law 1292 = .ok (.iaload, 1) := by decide +kernel
theorem dL_law_1293 : decode cL_law 1293 = .ok (.aload_n 0, 1) := by decide +kernel
theorem dL_law_1294 : decode cL_law 1294 = .ok (.iload_n 3, 1) := by decide +kernel
theorem dL_law_1295 : decode cL_law 1295 = .ok (.iconst 2, 1) := by decide +kernel
theorem dL_law_1296 : decode cL_law 1296 = .ok (.iadd, 1) := by decide +kernel
theorem dL_law_1297 : decode cL_law 1297 = .ok (.iaload, 1) := by decide +kernel
theorem dL_law_1298 : decode cL_law 1298 = .ok (.aload_n 0, 1) := by decide +kernel
theorem dL_law_1299 : decode cL_law 1299 = .ok (.iload_n 3, 1) := by decide +kernel
theorem dL_law_1300 : decode cL_law 1300 = .ok (.iconst 3, 1) := by decide +kernel
theorem dL_law_1301 : decode cL_law 1301 = .ok (.iadd, 1) := by decide +kernel
theorem dL_law_1302 : decode cL_law 1302 = .ok (.iaload, 1) := by decide +kernel
theorem dL_law_1303 : decode cL_law 1303 = .ok (.aload_n 0, 1) := by decide +kernel
theorem dL_law_1304 : decode cL_law 1304 = .ok (.iload_n 3, 1) := by decide +kernel
theorem dL_law_1305 : decode cL_law 1305 = .ok (.iconst 4, 1) := by decide +kernel
theorem dL_law_1306 : decode cL_law 1306 = .ok (.iadd, 1) := by decide +kernel
theorem dL_law_1307 : decode cL_law 1307 = .ok (.iaload, 1) := by decide +kernel
theorem dL_law_1308 : decode cL_law 1308 = .ok (.aload_n 0, 1) := by decide +kernel
theorem dL_law_1309 : decode cL_law 1309 = .ok (.iload_n 3, 1) := by decide +kernel
theorem dL_law_1310 : decode cL_law 1310 = .ok (.iconst 5, 1) := by decide +kernel
theorem dL_law_1311 : decode cL_law 1311 = .ok (.iadd, 1) := by decide +kernel
theorem dL_law_1312 : decode cL_law 1312 = .ok (.iaload, 1) := by decide +kernel
theorem dL_law_1313 : decode cL_law 1313 = .ok (.invokevirtual 161, 3) := by decide +kernel
theorem dL_law_1316 : decode cL_law 1316 = .ok (.aload_n 2, 1) := by decide +kernel
theorem dL_law_1317 : decode cL_law 1317 = .ok (.aload_n 0, 1) := by decide +kernel
theorem dL_law_1318 : decode cL_law 1318 = .ok (.iload_n 3, 1) := by decide +kernel
theorem dL_law_1319 : decode cL_law 1319 = .ok (.iconst 1, 1) := by decide +kernel
theorem dL_law_1320 : decode cL_law 1320 = .ok (.iadd, 1) := by decide +kernel
theorem dL_law_1321 : decode cL_law 1321 = .ok (.iaload, 1) := by decide +kernel
theorem dL_law_1322 : decode cL_law 1322 = .ok (.aload_n 0, 1) := by decide +kernel
theorem dL_law_1323 : decode cL_law 1323 = .ok (.iload_n 3, 1) := by decide +kernel
theorem dL_law_1324 : decode cL_law 1324 = .ok (.iconst 2, 1) := by decide +kernel
theorem dL_law_1325 : decode cL_law 1325 = .ok (.iadd, 1) := by decide +kernel
theorem dL_law_1326 : decode cL_law 1326 = .ok (.iaload, 1) := by decide +kernel
theorem dL_law_1327 : decode cL_law 1327 = .ok (.aload_n 0, 1) := by decide +kernel
theorem dL_law_1328 : decode cL_law 1328 = .ok (.iload_n 3, 1) := by decide +kernel
theorem dL_law_1329 : decode cL_law 1329 = .ok (.iconst 3, 1) := by decide +kernel
theorem dL_law_1330 : decode cL_law 1330 = .ok (.iadd, 1) := by decide +kernel
theorem dL_law_1331 : decode cL_law 1331 = .ok (.iaload, 1) := by decide +kernel
theorem dL_law_1332 : decode cL_law 1332 = .ok (.aload_n 0, 1) := by decide +kernel
theorem dL_law_1333 : decode cL_law 1333 = .ok (.iload_n 3, 1) := by decide +kernel
theorem dL_law_1334 : decode cL_law 1334 = .ok (.iconst 4, 1) := by decide +kernel
theorem dL_law_1335 : decode cL_law 1335 = .ok (.iadd, 1) := by decide +kernel
theorem dL_law_1336 : decode cL_law 1336 = .ok (.iaload, 1) := by decide +kernel
theorem dL_law_1337 : decode cL_law 1337 = .ok (.aload_n 0, 1) := by decide +kernel
theorem dL_law_1338 : decode cL_law 1338 = .ok (.iload_n 3, 1) := by decide +kernel
theorem dL_law_1339 : decode cL_law 1339 = .ok (.iconst 5, 1) := by decide +kernel
theorem dL_law_1340 : decode cL_law 1340 = .ok (.iadd, 1) := by decide +kernel
theorem dL_law_1341 : decode cL_law 1341 = .ok (.iaload, 1) := by decide +kernel
theorem dL_law_1342 : decode cL_law 1342 = .ok (.invokevirtual 164, 3) := by decide +kernel
theorem dL_law_1345 : decode cL_law 1345 = .ok (.if_icmp .eq 5, 3) := by decide +kernel
theorem dL_law_1348 : decode cL_law 1348 = .ok (.iconst 0, 1) := by decide +kernel
theorem dL_law_1349 : decode cL_law 1349 = .ok (.ireturn, 1) := by decide +kernel
theorem dL_law_1350 : decode cL_law 1350 = .ok (.iinc 3 6, 3) := by decide +kernel
theorem dL_law_1353 : decode cL_law 1353 = .ok (.goto (-1335), 3) := by decide +kernel
theorem dL_law_1356 : decode cL_law 1356 = .ok (.iconst 1, 1) := by decide +kernel
theorem dL_law_1357 : decode cL_law 1357 = .ok (.ireturn, 1) := by decide +kernel
end
section
set_option maxRecDepth 20000 in
theorem ggX1_clear_J7_fill_53178 : GoodIn wsX1_clear wsJ7_fill_53178 := goodIn_r _ [7] (by decide +kernel) (by decide +kernel)
set_option maxRecDepth 20000 in
theorem gX1_clear_J7_fill_53178 : GoodIn wsX1_clear (va_wsS RX1 37 yJ7_fill_53178 wsJ7_fill_53178) := goodIn_app (goodIn_of _ (by decide +kernel)) ggX1_clear_J7_fill_53178
set_option maxRecDepth 20000 in
theorem ggX3_init_X7_init : GoodIn wsX3_init wsX7_init := goodIn_r _ [14, 15, 2, 3, 16, 17, 18, 19, 20, 21, 22, 23, 24, 25, 26, 37, 38, 39, 40, 41, 42, 43, 44, 45, 46, 47, 48] (by decide +kernel) (by decide +kernel)
set_option maxRecDepth 20000 in
theorem gX3_init_X7_init_n11 : GoodIn wsX3_init (wsX7_init) := ggX3_init_X7_init
set_option maxRecDepth 20000 in
theorem ggX3_init_X0_init : GoodIn wsX3_init wsX0_init := goodIn_r _ [28, 29, 2, 3, 17, 30, 31, 32, 33, 34, 35, 36, 59, 60, 61, 62, 63, 64, 65, 66, 67, 68] (by decide +kernel) (by decide +kernel)
set_option maxRecDepth 20000 in
theorem gX3_init_X0_init_n20 : GoodIn wsX3_init (wsX0_init) := ggX3_init_X0_init
set_option maxRecDepth 20000 in
theorem ggX3_read_X7_clear : GoodIn wsX3_read wsX7_clear := goodIn_r _ [17, 18, 19, 20, 21, 22, 23, 24, 25, 176, 177, 178, 179, 180, 181, 182, 183, 184, 185, 186, 187] (by decide +kernel) (by decide +kernel)
set_option maxRecDepth 20000 in
theorem gX3_read_X7_clear : GoodIn wsX3_read (wsV RX3 48 RX7 yX7_clear wsX7_clear) := goodIn_app (goodIn_of _ (by decide +kernel)) ggX3_read_X7_clear
set_option maxRecDepth 20000 in
theorem ggX3_read_X0_clear : GoodIn wsX3_read wsX0_clear := goodIn_r _ [30, 31, 32, 188, 189, 190, 191, 192, 193, 194, 195, 196, 197] (by decide +kernel) (by decide +kernel)
set_option maxRecDepth 20000 in
theorem gX3_read_X0_clear : GoodIn wsX3_read (wsV RX3 51 RX0 yX0_clear wsX0_clear) := goodIn_app (goodIn_of _ (by decide +kernel)) ggX3_read_X0_clear
set_option maxRecDepth 20000 in
theorem ggX3_read_X3_advance : GoodIn wsX3_read wsX3_advance := goodIn_r _ [37, 7, 6, 1, 38, 12, 39, 40, 41, 36, 42, 43, 44, 45, 46, 47, 48, 2, 3, 4, 5, 166, 167, 168, 169, 170, 171, 172, 173, 174, 175] (by decide +kernel) (by decide +kernel)
set_option maxRecDepth 20000 in
theorem gX3_read_X3_advance : GoodIn wsX3_read (wsV RX3 52 RX3 yX3_advance wsX3_advance) := goodIn_app (goodIn_of _ (by decide +kernel)) ggX3_read_X3_advance
set_option maxRecDepth 20000 in
theorem ggX5_lay_J7_fill_d0a16 : GoodIn wsX5_lay wsJ7_fill_d0a16 := goodIn_r _ [8] (by decide +kernel) (by decide +kernel)
set_option maxRecDepth 20000 in
theorem gX5_lay_J7_fill_d0a16 : GoodIn wsX5_lay (va_wsS RX5 26 yJ7_fill_d0a16 wsJ7_fill_d0a16) := goodIn_app (goodIn_of _ (by decide +kernel)) ggX5_lay_J7_fill_d0a16
set_option maxRecDepth 20000 in
theorem ggX6_init_X7_init : GoodIn wsX6_init wsX7_init := goodIn_r _ [24, 25, 2, 3, 26, 20, 27, 28, 29, 30, 31, 32, 33, 34, 35, 63, 64, 65, 66, 67, 68, 69, 70, 71, 72, 73, 74] (by decide +kernel) (by decide +kernel)
set_option maxRecDepth 20000 in
theorem gX6_init_X7_init_n11 : GoodIn wsX6_init (wsX7_init) := ggX6_init_X7_init
set_option maxRecDepth 20000 in
theorem ggX6_init_X0_init : GoodIn wsX6_init wsX0_init := goodIn_r _ [37, 38, 2, 3, 20, 39, 40, 41, 42, 43, 44, 45, 83, 84, 85, 86, 87, 88, 89, 90, 91, 92] (by decide +kernel) (by decide +kernel)
set_option maxRecDepth 20000 in
theorem gX6_init_X0_init_n20 : GoodIn wsX6_init (wsX0_init) := ggX6_init_X0_init
set_option maxRecDepth 20000 in
theorem ggX6_init_X1_init : GoodIn wsX6_init wsX1_init := goodIn_r _ [47, 48, 2, 3, 20, 49, 50, 51, 52, 53, 54, 55, 93, 94, 95, 96, 97, 98, 99, 100] (by decide +kernel) (by decide +kernel)
set_option maxRecDepth 20000 in
theorem gX6_init_X1_init_n27 : GoodIn wsX6_init (wsX1_init) := ggX6_init_X1_init
set_option maxRecDepth 20000 in
theorem ggX6_init_X2_init : GoodIn wsX6_init wsX2_init := goodIn_r _ [57, 58, 2, 3, 20, 59, 60, 61, 62, 101, 102, 103, 104, 105] (by decide +kernel) (by decide +kernel)
set_option maxRecDepth 20000 in
theorem gX6_init_X2_init_n34 : GoodIn wsX6_init (wsX2_init) := ggX6_init_X2_init
set_option maxRecDepth 20000 in
theorem ggX6_begin_X7_copy : GoodIn wsX6_begin wsX7_copy := goodIn_r _ [18, 19, 20, 21, 22, 23, 9, 10, 11, 24, 25, 26, 27, 28, 29, 30, 31, 71, 72, 73, 74, 75, 76, 77, 78, 79, 80, 81, 82] (by decide +kernel) (by decide +kernel)
set_option maxRecDepth 20000 in
theorem gX6_begin_X7_copy : GoodIn wsX6_begin (wsV RX6 46 RX7 yX7_copy wsX7_copy) := goodIn_app (goodIn_of _ (by decide +kernel)) ggX6_begin_X7_copy
set_option maxRecDepth 20000 in
theorem ggX6_begin_X0_copy : GoodIn wsX6_begin wsX0_copy := goodIn_r _ [36, 37, 38, 39, 40, 9, 10, 11, 41, 42, 43, 44, 45, 83, 84, 85, 86, 87, 88, 89, 90, 91, 92] (by decide +kernel) (by decide +kernel)
set_option maxRecDepth 20000 in
theorem gX6_begin_X0_copy : GoodIn wsX6_begin (wsV RX6 50 RX0 yX0_copy wsX0_copy) := goodIn_app (goodIn_of _ (by decide +kernel)) ggX6_begin_X0_copy
set_option maxRecDepth 20000 in
theorem ggX6_begin_X1_clear : GoodIn wsX6_begin wsX1_clear := goodIn_r _ [50, 51, 52, 53, 54, 55, 56, 57, 93, 94, 95, 96, 97, 98, 99, 100] (by decide +kernel) (by decide +kernel)
set_option maxRecDepth 20000 in
theorem gX6_begin_X1_clear : GoodIn wsX6_begin (wsV RX6 53 RX1 yX1_clear wsX1_clear) := goodIn_app (goodIn_of _ (by decide +kernel)) ggX6_begin_X1_clear
set_option maxRecDepth 20000 in
theorem ggX6_copy_X7_copy : GoodIn wsX6_copy wsX7_copy := goodIn_r _ [16, 17, 18, 19, 20, 21, 7, 8, 9, 22, 23, 24, 25, 26, 27, 28, 29, 77, 78, 79, 80, 81, 82, 83, 84, 85, 86, 87, 88] (by decide +kernel) (by decide +kernel)
set_option maxRecDepth 20000 in
theorem gX6_copy_X7_copy : GoodIn wsX6_copy (wsV RX6 46 RX7 yX7_copy wsX7_copy) := goodIn_app (goodIn_of _ (by decide +kernel)) ggX6_copy_X7_copy
set_option maxRecDepth 20000 in
theorem ggX6_copy_X0_copy : GoodIn wsX6_copy wsX0_copy := goodIn_r _ [34, 35, 36, 37, 38, 7, 8, 9, 39, 40, 41, 42, 43, 89, 90, 91, 92, 93, 94, 95, 96, 97, 98] (by decide +kernel) (by decide +kernel)
set_option maxRecDepth 20000 in
theorem gX6_copy_X0_copy : GoodIn wsX6_copy (wsV RX6 50 RX0 yX0_copy wsX0_copy) := goodIn_app (goodIn_of _ (by decide +kernel)) ggX6_copy_X0_copy
set_option maxRecDepth 20000 in
theorem ggX6_copy_X1_copy : GoodIn wsX6_copy wsX1_copy := goodIn_r _ [48, 49, 50, 51, 7, 8, 9, 52, 53, 54, 55, 56, 57, 99, 100, 101, 102, 103, 104, 105, 106] (by decide +kernel) (by decide +kernel)
set_option maxRecDepth 20000 in
theorem gX6_copy_X1_copy : GoodIn wsX6_copy (wsV RX6 75 RX1 yX1_copy wsX1_copy) := goodIn_app (goodIn_of _ (by decide +kernel)) ggX6_copy_X1_copy
set_option maxRecDepth 20000 in
theorem ggX6_copy_X2_copy : GoodIn wsX6_copy wsX2_copy := goodIn_r _ [62, 63, 64, 65, 7, 8, 9, 66, 67, 68, 107, 108, 109, 110, 111] (by decide +kernel) (by decide +kernel)
set_option maxRecDepth 20000 in
theorem gX6_copy_X2_copy : GoodIn wsX6_copy (wsV RX6 78 RX2 yX2_copy wsX2_copy) := goodIn_app (goodIn_of _ (by decide +kernel)) ggX6_copy_X2_copy
set_option maxRecDepth 20000 in
theorem ggX7_clear_J7_fill_53178 : GoodIn wsX7_clear wsJ7_fill_53178 := goodIn_r _ [8] (by decide +kernel) (by decide +kernel)
set_option maxRecDepth 20000 in
theorem gX7_clear_J7_fill_53178 : GoodIn wsX7_clear (va_wsS RX7 49 yJ7_fill_53178 wsJ7_fill_53178) := goodIn_app (goodIn_of _ (by decide +kernel)) ggX7_clear_J7_fill_53178
set_option maxRecDepth 20000 in
theorem ggX7_hasPair_X7_has : GoodIn wsX7_hasPair wsX7_has := goodIn_r _ [5, 6, 7, 8, 9, 10, 11, 12, 13, 14, 15, 16, 17, 18] (by decide +kernel) (by decide +kernel)
set_option maxRecDepth 20000 in
theorem gX7_hasPair_X7_has : GoodIn wsX7_hasPair (wsV RX7 61 RX7 yX7_has wsX7_has) := goodIn_app (goodIn_of _ (by decide +kernel)) ggX7_hasPair_X7_has
set_option maxRecDepth 20000 in
theorem ggX9_init_X3_init : GoodIn wsX9_init wsX3_init := goodIn_r _ [34, 35, 2, 3, 36, 37, 38, 39, 40, 41, 42, 43, 44, 45, 46, 47, 48, 29, 49, 50, 51, 52, 53, 54, 55, 56, 57, 58, 59, 60, 61, 62, 63, 64, 65, 66, 67, 199, 200, 201, 202, 203, 204, 205, 206, 207, 208, 209, 210, 141, 142, 143, 144, 145, 146, 147, 148, 149, 150, 211, 212, 213, 214, 215, 216, 217, 218, 219, 220] (by decide +kernel) (by decide +kernel)
set_option maxRecDepth 20000 in
theorem gX9_init_X3_init_n15 : GoodIn wsX9_init (wsX3_init) := ggX9_init_X3_init
set_option maxRecDepth 20000 in
theorem ggX9_init_X6_init : GoodIn wsX9_init wsX6_init := goodIn_r _ [69, 70, 2, 3, 71, 37, 38, 72, 73, 41, 42, 74, 75, 26, 27, 76, 77, 78, 79, 80, 29, 81, 82, 45, 46, 47, 48, 49, 50, 51, 52, 53, 54, 55, 56, 57, 58, 59, 60, 61, 62, 63, 64, 65, 66, 67, 83, 84, 85, 86, 87, 88, 89, 90, 91, 92, 93, 94, 95, 96, 97, 98, 99, 199, 200, 201, 202, 203, 204, 205, 206, 207, 208, 209, 210, 151, 152, 153, 154, 155, 156, 157, 158, 211, 212, 213, 214, 215, 216, 217, 218, 219, 220, 187, 188, 189, 190, 191, 192, 193, 194, 221, 222, 223, 224, 225] (by decide +kernel) (by decide +kernel)
set_option maxRecDepth 20000 in
theorem gX9_init_X6_init_n22 : GoodIn wsX9_init (wsX6_init) := ggX9_init_X6_init
set_option maxRecDepth 20000 in
theorem ggX9_init_X4_init : GoodIn wsX9_init wsX4_init := goodIn_r _ [101, 102, 2, 3, 29, 103, 104, 105, 106, 107, 108, 109, 110, 111, 112, 113, 114, 159, 160, 161, 162, 163, 164, 165, 166, 167, 168, 169, 170, 171, 172, 173, 174, 175] (by decide +kernel) (by decide +kernel)
set_option maxRecDepth 20000 in
theorem gX9_init_X4_init_n39 : GoodIn wsX9_init (wsX4_init) := ggX9_init_X4_init
set_option maxRecDepth 20000 in
theorem ggX9_init_X8_init : GoodIn wsX9_init wsX8_init := goodIn_r _ [116, 117, 2, 3, 29, 118, 119, 120, 121, 122, 123, 124, 125, 176, 177, 178, 179, 180, 181, 182, 183, 184, 185, 186] (by decide +kernel) (by decide +kernel)
set_option maxRecDepth 20000 in
theorem gX9_init_X8_init_n46 : GoodIn wsX9_init (wsX8_init) := ggX9_init_X8_init
set_option maxRecDepth 20000 in
theorem ggX9_init_X1_init : GoodIn wsX9_init wsX1_init := goodIn_r _ [84, 85, 2, 3, 29, 86, 87, 88, 89, 90, 91, 92, 187, 188, 189, 190, 191, 192, 193, 194] (by decide +kernel) (by decide +kernel)
set_option maxRecDepth 20000 in
theorem gX9_init_X1_init_n53 : GoodIn wsX9_init (wsX1_init) := ggX9_init_X1_init
set_option maxRecDepth 20000 in
theorem ggX9_init_X5_init : GoodIn wsX9_init wsX5_init := goodIn_r _ [127, 128, 2, 3, 129, 130, 195, 196, 197, 198] (by decide +kernel) (by decide +kernel)
set_option maxRecDepth 20000 in
theorem gX9_init_X5_init_n62 : GoodIn wsX9_init (wsX5_init) := ggX9_init_X5_init
set_option maxRecDepth 20000 in
theorem ggX9_feed_X9_feedNumber : GoodIn wsX9_feed wsX9_feedNumber := goodIn_r _ [6, 1, 7, 8, 9, 10, 11, 12, 13, 14, 15, 16, 17] (by decide +kernel) (by decide +kernel)
set_option maxRecDepth 20000 in
theorem gX9_feed_X9_feedNumber : GoodIn wsX9_feed (wsV RX9 67 RX9 yX9_feedNumber wsX9_feedNumber) := goodIn_app (goodIn_of _ (by decide +kernel)) ggX9_feed_X9_feedNumber
set_option maxRecDepth 20000 in
theorem ggX9_town_X3_read : GoodIn wsX9_town wsX3_read := goodIn_r _ [14, 15, 16, 17, 18, 19, 20, 21, 22, 23, 24, 25, 26, 27, 28, 29, 30, 31, 32, 33, 34, 35, 36, 37, 38, 39, 40, 41, 42, 43, 44, 45, 46, 47, 48, 49, 13, 50, 51, 52, 53, 54, 55, 56, 57, 58, 59, 60, 61, 62, 63, 64, 65, 66, 67, 68, 69, 70, 71, 72, 73, 74, 75, 76, 77, 78, 79, 80, 81, 82, 83, 84, 85, 86, 87, 88, 89, 90, 91, 92, 93, 94, 95, 96, 97, 98, 99, 100, 101, 102, 103, 104, 105, 106, 107, 108, 109, 110, 111, 112, 113, 114, 115, 116, 117, 118, 119, 120, 121, 122, 123, 124, 125, 126, 127, 128, 129, 130, 131, 132, 133, 134, 135, 136, 137, 138, 139, 140, 141, 142, 143, 144, 145, 146, 147, 148, 149, 150, 151, 152, 153, 154, 155, 156, 157, 158, 159, 160, 161, 162, 163, 164, 165, 166, 167, 168, 169, 170, 171, 172, 173, 174, 175, 176, 177, 178, 248, 249, 250, 251, 252, 253, 254, 255, 256, 257, 266, 267, 268, 269, 270, 271, 272, 273, 274, 275, 276, 277, 278, 279, 280, 281, 282, 283, 284, 285, 286, 287] (by decide +kernel) (by decide +kernel)
set_option maxRecDepth 20000 in
theorem gX9_town_X3_read : GoodIn wsX9_town (wsV RX9 71 RX3 yX3_read wsX3_read) := goodIn_app (goodIn_of _ (by decide +kernel)) ggX9_town_X3_read
set_option maxRecDepth 20000 in
theorem ggX9_town_X6_begin : GoodIn wsX9_town wsX6_begin := goodIn_r _ [183, 184, 185, 186, 187, 188, 189, 190, 191, 192, 193, 194, 195, 196, 197, 198, 199, 30, 200, 32, 33, 34, 201, 202, 203, 204, 205, 206, 207, 208, 209, 35, 210, 211, 212, 43, 213, 45, 46, 214, 215, 216, 217, 218, 219, 150, 220, 221, 222, 223, 224, 225, 226, 227, 228, 37, 38, 39, 258, 259, 260, 261, 262, 263, 264, 265, 288, 289, 290, 291, 292, 266, 267, 268, 269, 270, 271, 272, 273, 274, 275, 276, 277, 278, 279, 280, 281, 282, 283, 284, 285, 286, 287, 293, 294, 295, 296, 297, 298, 299, 300] (by decide +kernel) (by decide +kernel)
set_option maxRecDepth 20000 in
theorem gX9_town_X6_begin : GoodIn wsX9_town (wsV RX9 86 RX6 yX6_begin wsX6_begin) := goodIn_app (goodIn_of _ (by decide +kernel)) ggX9_town_X6_begin
set_option maxRecDepth 20000 in
theorem ggX9_town_X9_forget : GoodIn wsX9_town wsX9_forget := goodIn_r _ [233, 234, 235, 236, 237, 238, 239, 240, 241, 242, 243, 244, 245, 246, 247, 301, 302, 303, 304, 305, 306, 307, 308, 309, 310, 311, 312, 313, 314, 315, 316, 317, 318, 319, 320, 321, 322, 323, 324, 325, 326, 327, 328] (by decide +kernel) (by decide +kernel)
set_option maxRecDepth 20000 in
theorem gX9_town_X9_forget : GoodIn wsX9_town (wsV RX9 90 RX9 yX9_forget wsX9_forget) := goodIn_app (goodIn_of _ (by decide +kernel)) ggX9_town_X9_forget
set_option maxRecDepth 20000 in
theorem ggX9_days_X9_forget : GoodIn wsX9_days wsX9_forget := goodIn_r _ [7, 8, 9, 10, 11, 12, 13, 14, 15, 16, 17, 18, 19, 20, 21, 30, 31, 32, 33, 34, 35, 36, 37, 38, 39, 40, 41, 42, 43, 44, 45, 46, 47, 48, 49, 50, 51, 52, 53, 54, 55, 56, 57] (by decide +kernel) (by decide +kernel)
set_option maxRecDepth 20000 in
theorem gX9_days_X9_forget : GoodIn wsX9_days (wsV RX9 90 RX9 yX9_forget wsX9_forget) := goodIn_app (goodIn_of _ (by decide +kernel)) ggX9_days_X9_forget
set_option maxRecDepth 20000 in
theorem ggX9_bars_X9_isDeed : GoodIn wsX9_bars wsX9_isDeed := goodIn_r _ [6, 1, 7, 8, 9, 10, 11, 12, 13, 14, 15, 16, 17, 58, 59, 60, 61, 62, 63, 64, 65, 66, 67, 68, 69, 70, 71, 72, 73, 74, 75, 76, 77, 78, 79, 80, 81, 82, 83, 84, 85, 86, 87] (by decide +kernel) (by decide +kernel)
set_option maxRecDepth 20000 in
theorem gX9_bars_X9_isDeed : GoodIn wsX9_bars (wsV RX9 105 RX9 yX9_isDeed wsX9_isDeed) := goodIn_app (goodIn_of _ (by decide +kernel)) ggX9_bars_X9_isDeed
set_option maxRecDepth 20000 in
theorem ggX9_does_X9_isDeed : GoodIn wsX9_does wsX9_isDeed := goodIn_r _ [7, 1, 8, 9, 10, 11, 12, 13, 14, 15, 16, 17, 18, 163, 164, 165, 166, 167, 168, 169, 170, 171, 172, 173, 174, 175, 176, 177, 178, 179, 180, 181, 182, 183, 184, 185, 186, 187, 188, 189, 190, 191, 192] (by decide +kernel) (by decide +kernel)
set_option maxRecDepth 20000 in
theorem gX9_does_X9_isDeed : GoodIn wsX9_does (wsV RX9 105 RX9 yX9_isDeed wsX9_isDeed) := goodIn_app (goodIn_of _ (by decide +kernel)) ggX9_does_X9_isDeed
set_option maxRecDepth 20000 in
theorem ggX9_does_X9_forget : GoodIn wsX9_does wsX9_forget := goodIn_r _ [68, 69, 70, 71, 72, 163, 164, 165, 166, 167, 168, 169, 170, 171, 172, 198, 199, 200, 201, 202, 203, 204, 205, 206, 207, 208, 209, 210, 211, 212, 213, 214, 215, 216, 217, 218, 219, 220, 221, 222, 223, 224, 225] (by decide +kernel) (by decide +kernel)
set_option maxRecDepth 20000 in
theorem gX9_does_X9_forget : GoodIn wsX9_does (wsV RX9 90 RX9 yX9_forget wsX9_forget) := goodIn_app (goodIn_of _ (by decide +kernel)) ggX9_does_X9_forget
set_option maxRecDepth 20000 in
theorem ggX9_meet_X7_hasPair : GoodIn wsX9_meet wsX7_hasPair := goodIn_r _ [8, 9, 10, 11, 7, 12, 13, 70, 71, 72, 73, 74, 75, 76, 77, 78, 79, 80, 81] (by decide +kernel) (by decide +kernel)
set_option maxRecDepth 20000 in
theorem gX9_meet_X7_hasPair : GoodIn wsX9_meet (wsV RX9 126 RX7 yX7_hasPair wsX7_hasPair) := goodIn_app (goodIn_of _ (by decide +kernel)) ggX9_meet_X7_hasPair
set_option maxRecDepth 20000 in
theorem ggX9_meet_X9_forget : GoodIn wsX9_meet wsX9_forget := goodIn_r _ [24, 25, 26, 27, 28, 52, 53, 54, 55, 56, 57, 58, 59, 60, 61, 87, 88, 89, 90, 91, 92, 93, 94, 95, 96, 97, 98, 99, 100, 101, 102, 103, 104, 105, 106, 107, 108, 109, 110, 111, 112, 113, 114] (by decide +kernel) (by decide +kernel)
set_option maxRecDepth 20000 in
theorem gX9_meet_X9_forget : GoodIn wsX9_meet (wsV RX9 90 RX9 yX9_forget wsX9_forget) := goodIn_app (goodIn_of _ (by decide +kernel)) ggX9_meet_X9_forget
set_option maxRecDepth 20000 in
theorem ggX9_done_X9_isSlot : GoodIn wsX9_done wsX9_isSlot := goodIn_r _ [7] (by decide +kernel) (by decide +kernel)
set_option maxRecDepth 20000 in
theorem gX9_done_X9_isSlot : GoodIn wsX9_done (va_wsS RX9 134 yX9_isSlot wsX9_isSlot) := goodIn_app (goodIn_of _ (by decide +kernel)) ggX9_done_X9_isSlot
set_option maxRecDepth 20000 in
theorem ggX9_done_X9_meet : GoodIn wsX9_done wsX9_meet := goodIn_r _ [19, 20, 21, 22, 23, 24, 25, 26, 27, 28, 29, 30, 31, 32, 33, 34, 35, 36, 37, 38, 39, 40, 41, 6, 42, 43, 44, 45, 46, 47, 48, 49, 50, 51, 52, 53, 54, 55, 56, 57, 58, 59, 60, 61, 62, 63, 64, 65, 66, 67, 68, 69, 189, 190, 191, 192, 193, 194, 195, 196, 197, 198, 203, 204, 205, 206, 207, 208, 209, 210, 211, 212, 213, 214, 215, 216, 217, 218, 219, 220, 221, 222, 223, 224, 225, 226, 227, 228, 229, 230, 231, 232, 233, 234, 235, 236, 237, 238, 239, 240, 241, 242, 243, 244, 245, 246, 247, 248, 249, 250, 251, 252, 253, 254, 255] (by decide +kernel) (by decide +kernel)
set_option maxRecDepth 20000 in
theorem gX9_done_X9_meet : GoodIn wsX9_done (wsV RX9 149 RX9 yX9_meet wsX9_meet) := goodIn_app (goodIn_of _ (by decide +kernel)) ggX9_done_X9_meet
set_option maxRecDepth 20000 in
theorem ggX9_done_X9_does : GoodIn wsX9_done wsX9_does := goodIn_r _ [73, 20, 22, 74, 75, 76, 6, 77, 21, 23, 24, 25, 26, 27, 28, 29, 30, 31, 32, 78, 79, 80, 50, 81, 82, 54, 83, 84, 85, 86, 87, 88, 89, 90, 91, 92, 52, 93, 55, 56, 57, 58, 94, 95, 96, 97, 98, 99, 100, 101, 102, 103, 104, 105, 106, 107, 108, 109, 110, 33, 34, 35, 36, 37, 38, 39, 40, 41, 42, 43, 44, 45, 46, 111, 112, 113, 114, 115, 116, 117, 53, 118, 119, 120, 121, 122, 123, 124, 125, 126, 127, 128, 129, 130, 131, 132, 133, 134, 135, 136, 137, 138, 139, 140, 141, 142, 143, 144, 145, 146, 147, 148, 149, 150, 151, 152, 153, 154, 155, 156, 157, 158, 159, 160, 161, 162, 163, 164, 165, 166, 167, 168, 169, 170, 171, 172, 173, 174, 175, 176, 177, 178, 179, 180, 181, 182, 183, 184, 185, 186, 187, 188, 62, 63, 64, 65, 66, 67, 68, 69, 59, 60, 61, 189, 190, 191, 192, 193, 194, 195, 196, 197, 198, 203, 204, 205, 206, 207, 208, 209, 210, 211, 212, 213, 214, 215, 216, 217, 218, 219, 220, 221, 222, 223, 224, 225, 226, 227, 228, 229, 230, 231, 232, 233, 234, 235, 236, 237, 238, 239, 240, 241, 242, 243, 244, 245, 246, 247, 248, 249, 250, 251, 252, 253, 254, 255, 256, 257, 258, 259, 260, 261, 262, 263, 264, 265, 266, 267, 268, 269, 270, 271, 272, 273] (by decide +kernel) (by decide +kernel)
set_option maxRecDepth 20000 in
theorem gX9_done_X9_does : GoodIn wsX9_done (wsV RX9 152 RX9 yX9_does wsX9_does) := goodIn_app (goodIn_of _ (by decide +kernel)) ggX9_done_X9_does
set_option maxRecDepth 20000 in
theorem ggX9_known_X7_hasPair : GoodIn wsX9_known wsX7_hasPair := goodIn_r _ [7, 8, 9, 10, 6, 11, 12, 37, 38, 39, 40, 41, 42, 43, 44, 45, 46, 47, 48] (by decide +kernel) (by decide +kernel)
set_option maxRecDepth 20000 in
theorem gX9_known_X7_hasPair : GoodIn wsX9_known (wsV RX9 126 RX7 yX7_hasPair wsX7_hasPair) := goodIn_app (goodIn_of _ (by decide +kernel)) ggX9_known_X7_hasPair
set_option maxRecDepth 20000 in
theorem ggX9_debts_X7_has : GoodIn wsX9_debts wsX7_has := goodIn_r _ [9, 10, 37, 38, 39, 40, 41, 42, 43, 44, 45, 46, 47, 48] (by decide +kernel) (by decide +kernel)
set_option maxRecDepth 20000 in
theorem gX9_debts_X7_has : GoodIn wsX9_debts (wsV RX9 158 RX7 yX7_has wsX7_has) := goodIn_app (goodIn_of _ (by decide +kernel)) ggX9_debts_X7_has
set_option maxRecDepth 20000 in
theorem ggX9_debt_X7_has : GoodIn wsX9_debt wsX7_has := goodIn_r _ [12, 13, 48, 49, 50, 51, 52, 53, 54, 55, 56, 57, 58, 59] (by decide +kernel) (by decide +kernel)
set_option maxRecDepth 20000 in
theorem gX9_debt_X7_has : GoodIn wsX9_debt (wsV RX9 158 RX7 yX7_has wsX7_has) := goodIn_app (goodIn_of _ (by decide +kernel)) ggX9_debt_X7_has
set_option maxRecDepth 20000 in
theorem ggX9_slights_X7_has : GoodIn wsX9_slights wsX7_has := goodIn_r _ [9, 10, 37, 38, 39, 40, 41, 42, 43, 44, 45, 46, 47, 48] (by decide +kernel) (by decide +kernel)
set_option maxRecDepth 20000 in
theorem gX9_slights_X7_has : GoodIn wsX9_slights (wsV RX9 158 RX7 yX7_has wsX7_has) := goodIn_app (goodIn_of _ (by decide +kernel)) ggX9_slights_X7_has
set_option maxRecDepth 20000 in
theorem ggX9_owes_X9_isDeed : GoodIn wsX9_owes wsX9_isDeed := goodIn_r _ [6, 1, 7, 8, 9, 10, 11, 12, 13, 14, 15, 16, 17, 77, 78, 79, 80, 81, 82, 83, 84, 85, 86, 87, 88, 89, 90, 91, 92, 93, 94, 95, 96, 97, 98, 99, 100, 101, 102, 103, 104, 105, 106] (by decide +kernel) (by decide +kernel)
set_option maxRecDepth 20000 in
theorem gX9_owes_X9_isDeed : GoodIn wsX9_owes (wsV RX9 105 RX9 yX9_isDeed wsX9_isDeed) := goodIn_app (goodIn_of _ (by decide +kernel)) ggX9_owes_X9_isDeed
set_option maxRecDepth 20000 in
theorem ggX9_worth_X9_isOuting : GoodIn wsX9_worth wsX9_isOuting := goodIn_r _ [8, 2, 9, 10, 11, 12, 13, 14, 15, 16, 120, 121, 122, 123, 124, 125, 126, 127, 128, 129, 147, 148, 149, 150, 151, 152, 153, 154, 155, 156, 157, 158, 159, 160, 161, 162, 163, 164, 165, 166] (by decide +kernel) (by decide +kernel)
set_option maxRecDepth 20000 in
theorem gX9_worth_X9_isOuting : GoodIn wsX9_worth (wsV RX9 191 RX9 yX9_isOuting wsX9_isOuting) := goodIn_app (goodIn_of _ (by decide +kernel)) ggX9_worth_X9_isOuting
set_option maxRecDepth 20000 in
theorem ggX9_round_X9_isOuting : GoodIn wsX9_round wsX9_isOuting := goodIn_r _ [9, 2, 10, 11, 12, 13, 14, 15, 16, 17, 121, 122, 123, 124, 125, 126, 127, 128, 129, 130, 148, 149, 150, 151, 152, 153, 154, 155, 156, 157, 158, 159, 160, 161, 162, 163, 164, 165, 166, 167] (by decide +kernel) (by decide +kernel)
set_option maxRecDepth 20000 in
theorem gX9_round_X9_isOuting : GoodIn wsX9_round (wsV RX9 191 RX9 yX9_isOuting wsX9_isOuting) := goodIn_app (goodIn_of _ (by decide +kernel)) ggX9_round_X9_isOuting
set_option maxRecDepth 20000 in
theorem ggX9_over_X9_isOuting : GoodIn wsX9_over wsX9_isOuting := goodIn_r _ [8, 2, 9, 10, 11, 12, 13, 14, 15, 16, 120, 121, 122, 123, 124, 125, 126, 127, 128, 129, 147, 148, 149, 150, 151, 152, 153, 154, 155, 156, 157, 158, 159, 160, 161, 162, 163, 164, 165, 166] (by decide +kernel) (by decide +kernel)
set_option maxRecDepth 20000 in
theorem gX9_over_X9_isOuting : GoodIn wsX9_over (wsV RX9 191 RX9 yX9_isOuting wsX9_isOuting) := goodIn_app (goodIn_of _ (by decide +kernel)) ggX9_over_X9_isOuting
set_option maxRecDepth 20000 in
theorem ggX9_may_X9_isSlot : GoodIn wsX9_may wsX9_isSlot := goodIn_r _ [8] (by decide +kernel) (by decide +kernel)
set_option maxRecDepth 20000 in
theorem gX9_may_X9_isSlot : GoodIn wsX9_may (va_wsS RX9 134 yX9_isSlot wsX9_isSlot) := goodIn_app (goodIn_of _ (by decide +kernel)) ggX9_may_X9_isSlot
set_option maxRecDepth 20000 in
theorem ggX9_may_X9_isOuting : GoodIn wsX9_may wsX9_isOuting := goodIn_r _ [12, 4, 13, 14, 15, 16, 17, 18, 19, 20, 77, 78, 79, 80, 81, 82, 83, 84, 85, 86, 91, 92, 93, 94, 95, 96, 97, 98, 99, 100, 101, 102, 103, 104, 105, 106, 107, 108, 109, 110] (by decide +kernel) (by decide +kernel)
set_option maxRecDepth 20000 in
theorem gX9_may_X9_isOuting : GoodIn wsX9_may (wsV RX9 191 RX9 yX9_isOuting wsX9_isOuting) := goodIn_app (goodIn_of _ (by decide +kernel)) ggX9_may_X9_isOuting
set_option maxRecDepth 20000 in
theorem ggX9_fewest_X7_has : GoodIn wsX9_fewest wsX7_has := goodIn_r _ [8, 9, 124, 125, 126, 127, 128, 129, 130, 131, 132, 133, 134, 135] (by decide +kernel) (by decide +kernel)
set_option maxRecDepth 20000 in
theorem gX9_fewest_X7_has : GoodIn wsX9_fewest (wsV RX9 158 RX7 yX7_has wsX7_has) := goodIn_app (goodIn_of _ (by decide +kernel)) ggX9_fewest_X7_has
set_option maxRecDepth 20000 in
theorem ggX9_lost_X7_has : GoodIn wsX9_lost wsX7_has := goodIn_r _ [8, 9, 88, 89, 90, 91, 92, 93, 94, 95, 96, 97, 98, 99] (by decide +kernel) (by decide +kernel)
set_option maxRecDepth 20000 in
theorem gX9_lost_X7_has : GoodIn wsX9_lost (wsV RX9 158 RX7 yX7_has wsX7_has) := goodIn_app (goodIn_of _ (by decide +kernel)) ggX9_lost_X7_has
set_option maxRecDepth 20000 in
theorem ggX9_soon_X7_hasPair : GoodIn wsX9_soon wsX7_hasPair := goodIn_r _ [9, 10, 11, 12, 8, 13, 14, 102, 103, 104, 105, 106, 107, 108, 109, 110, 111, 112, 113] (by decide +kernel) (by decide +kernel)
set_option maxRecDepth 20000 in
theorem gX9_soon_X7_hasPair : GoodIn wsX9_soon (wsV RX9 126 RX7 yX7_hasPair wsX7_hasPair) := goodIn_app (goodIn_of _ (by decide +kernel)) ggX9_soon_X7_hasPair
set_option maxRecDepth 20000 in
theorem ggX9_path_X7_hasPair : GoodIn wsX9_path wsX7_hasPair := goodIn_r _ [10, 11, 12, 13, 9, 14, 15, 103, 104, 105, 106, 107, 108, 109, 110, 111, 112, 113, 114] (by decide +kernel) (by decide +kernel)
set_option maxRecDepth 20000 in
theorem gX9_path_X7_hasPair : GoodIn wsX9_path (wsV RX9 126 RX7 yX7_hasPair wsX7_hasPair) := goodIn_app (goodIn_of _ (by decide +kernel)) ggX9_path_X7_hasPair
set_option maxRecDepth 20000 in
theorem ggX9_reach_X7_has : GoodIn wsX9_reach wsX7_has := goodIn_r _ [7, 8, 33, 34, 35, 36, 37, 38, 39, 40, 41, 42, 43, 44] (by decide +kernel) (by decide +kernel)
set_option maxRecDepth 20000 in
theorem gX9_reach_X7_has : GoodIn wsX9_reach (wsV RX9 158 RX7 yX7_has wsX7_has) := goodIn_app (goodIn_of _ (by decide +kernel)) ggX9_reach_X7_has
set_option maxRecDepth 20000 in
theorem ggX9_drop_X7_has : GoodIn wsX9_drop wsX7_has := goodIn_r _ [9, 10, 54, 55, 56, 57, 58, 59, 60, 61, 62, 63, 64, 65] (by decide +kernel) (by decide +kernel)
set_option maxRecDepth 20000 in
theorem gX9_drop_X7_has : GoodIn wsX9_drop (wsV RX9 158 RX7 yX7_has wsX7_has) := goodIn_app (goodIn_of _ (by decide +kernel)) ggX9_drop_X7_has
set_option maxRecDepth 20000 in
theorem ggX9_tie_X7_hasPair : GoodIn wsX9_tie wsX7_hasPair := goodIn_r _ [7, 8, 9, 10, 6, 11, 12, 45, 46, 47, 48, 49, 50, 51, 52, 53, 54, 55, 56] (by decide +kernel) (by decide +kernel)
set_option maxRecDepth 20000 in
theorem gX9_tie_X7_hasPair : GoodIn wsX9_tie (wsV RX9 126 RX7 yX7_hasPair wsX7_hasPair) := goodIn_app (goodIn_of _ (by decide +kernel)) ggX9_tie_X7_hasPair
set_option maxRecDepth 20000 in
theorem ggX9_rings_X6_followCalls : GoodIn wsX9_rings wsX6_followCalls := goodIn_r _ [8, 9, 10, 11, 12, 13, 14, 40, 41, 42, 43, 44, 45, 46, 47, 60, 61, 62, 63, 64] (by decide +kernel) (by decide +kernel)
set_option maxRecDepth 20000 in
theorem gX9_rings_X6_followCalls : GoodIn wsX9_rings (wsV RX9 237 RX6 yX6_followCalls wsX6_followCalls) := goodIn_app (goodIn_of _ (by decide +kernel)) ggX9_rings_X6_followCalls
set_option maxRecDepth 20000 in
theorem ggX9_ring_X7_has : GoodIn wsX9_ring wsX7_has := goodIn_r _ [7, 8, 49, 50, 51, 52, 53, 54, 55, 56, 57, 58, 59, 60] (by decide +kernel) (by decide +kernel)
set_option maxRecDepth 20000 in
theorem gX9_ring_X7_has : GoodIn wsX9_ring (wsV RX9 158 RX7 yX7_has wsX7_has) := goodIn_app (goodIn_of _ (by decide +kernel)) ggX9_ring_X7_has
set_option maxRecDepth 20000 in
theorem ggX9_ring_X6_followCalls : GoodIn wsX9_ring wsX6_followCalls := goodIn_r _ [13, 14, 15, 16, 17, 18, 19, 41, 42, 43, 44, 45, 46, 47, 48, 61, 62, 63, 64, 65] (by decide +kernel) (by decide +kernel)
set_option maxRecDepth 20000 in
theorem gX9_ring_X6_followCalls : GoodIn wsX9_ring (wsV RX9 237 RX6 yX6_followCalls wsX6_followCalls) := goodIn_app (goodIn_of _ (by decide +kernel)) ggX9_ring_X6_followCalls
set_option maxRecDepth 20000 in
theorem ggX9_house_X7_has : GoodIn wsX9_house wsX7_has := goodIn_r _ [16, 17, 49, 50, 51, 52, 53, 54, 55, 56, 57, 58, 59, 60] (by decide +kernel) (by decide +kernel)
set_option maxRecDepth 20000 in
theorem gX9_house_X7_has : GoodIn wsX9_house (wsV RX9 158 RX7 yX7_has wsX7_has) := goodIn_app (goodIn_of _ (by decide +kernel)) ggX9_house_X7_has
set_option maxRecDepth 20000 in
theorem ggX9_beside_X9_isImage : GoodIn wsX9_beside wsX9_isImage := goodIn_r _ [10] (by decide +kernel) (by decide +kernel)
set_option maxRecDepth 20000 in
theorem gX9_beside_X9_isImage : GoodIn wsX9_beside (va_wsS RX9 271 yX9_isImage wsX9_isImage) := goodIn_app (goodIn_of _ (by decide +kernel)) ggX9_beside_X9_isImage
set_option maxRecDepth 20000 in
theorem ggX9_count_X1_overdue : GoodIn wsX9_count wsX1_overdue := goodIn_r _ [19, 20, 21, 69, 70, 71, 72, 73, 74, 75, 76] (by decide +kernel) (by decide +kernel)
set_option maxRecDepth 20000 in
theorem gX9_count_X1_overdue : GoodIn wsX9_count (wsV RX9 285 RX1 yX1_overdue wsX1_overdue) := goodIn_app (goodIn_of _ (by decide +kernel)) ggX9_count_X1_overdue
set_option maxRecDepth 20000 in
theorem ggX9_count_X9_filledSlots : GoodIn wsX9_count wsX9_filledSlots := goodIn_r _ [26, 27, 28, 29, 30, 31, 32, 33, 34, 35, 36, 37, 38, 82, 83, 84, 85] (by decide +kernel) (by decide +kernel)
set_option maxRecDepth 20000 in
theorem gX9_count_X9_filledSlots : GoodIn wsX9_count (wsV RX9 298 RX9 yX9_filledSlots wsX9_filledSlots) := goodIn_app (goodIn_of _ (by decide +kernel)) ggX9_count_X9_filledSlots
set_option maxRecDepth 20000 in
theorem ggX9_keep_X9_isImage : GoodIn wsX9_keep wsX9_isImage := goodIn_r _ [9] (by decide +kernel) (by decide +kernel)
set_option maxRecDepth 20000 in
theorem gX9_keep_X9_isImage : GoodIn wsX9_keep (va_wsS RX9 271 yX9_isImage wsX9_isImage) := goodIn_app (goodIn_of _ (by decide +kernel)) ggX9_keep_X9_isImage
set_option maxRecDepth 20000 in
theorem ggX9_keep_X6_init : GoodIn wsX9_keep wsX6_init := goodIn_r _ [11, 12, 13, 14, 15, 16, 17, 18, 19, 20, 21, 22, 23, 24, 25, 26, 27, 28, 29, 30, 31, 32, 33, 34, 35, 36, 37, 38, 39, 40, 41, 42, 43, 44, 45, 46, 47, 48, 49, 50, 51, 52, 53, 54, 55, 56, 57, 58, 59, 60, 61, 62, 63, 64, 65, 66, 67, 68, 69, 70, 71, 72, 73, 128, 129, 130, 131, 132, 133, 134, 135, 136, 137, 138, 139, 120, 121, 122, 123, 124, 125, 126, 127, 140, 141, 142, 143, 144, 145, 146, 147, 148, 149, 150, 151, 152, 153, 154, 155, 156, 157, 158, 159, 160, 161, 162] (by decide +kernel) (by decide +kernel)
set_option maxRecDepth 20000 in
theorem gX9_keep_X6_init_n22 : GoodIn wsX9_keep (wsX6_init) := ggX9_keep_X6_init
set_option maxRecDepth 20000 in
theorem ggX9_keep_X6_copy : GoodIn wsX9_keep wsX6_copy := goodIn_r _ [77, 18, 22, 26, 30, 32, 78, 79, 80, 81, 82, 83, 84, 85, 86, 17, 87, 88, 89, 37, 38, 90, 39, 40, 41, 42, 43, 44, 45, 46, 91, 92, 93, 21, 94, 95, 96, 50, 97, 51, 52, 53, 54, 55, 98, 99, 100, 25, 101, 102, 60, 103, 61, 62, 63, 64, 65, 66, 104, 105, 106, 29, 107, 108, 70, 109, 71, 72, 73, 120, 121, 122, 123, 124, 125, 126, 127, 128, 129, 130, 131, 132, 133, 134, 135, 136, 137, 138, 139, 140, 141, 142, 143, 144, 145, 146, 147, 148, 149, 150, 151, 152, 153, 154, 155, 156, 157, 158, 159, 160, 161, 162] (by decide +kernel) (by decide +kernel)
set_option maxRecDepth 20000 in
theorem gX9_keep_X6_copy : GoodIn wsX9_keep (wsV RX9 302 RX6 yX6_copy wsX6_copy) := goodIn_app (goodIn_of _ (by decide +kernel)) ggX9_keep_X6_copy
set_option maxRecDepth 20000 in
theorem ggX9_back_X9_isImage : GoodIn wsX9_back wsX9_isImage := goodIn_r _ [6] (by decide +kernel) (by decide +kernel)
set_option maxRecDepth 20000 in
theorem gX9_back_X9_isImage : GoodIn wsX9_back (va_wsS RX9 271 yX9_isImage wsX9_isImage) := goodIn_app (goodIn_of _ (by decide +kernel)) ggX9_back_X9_isImage
set_option maxRecDepth 20000 in
theorem ggX9_back_X6_copy : GoodIn wsX9_back wsX6_copy := goodIn_r _ [11, 12, 13, 14, 15, 16, 17, 18, 19, 20, 21, 22, 23, 24, 25, 26, 27, 28, 29, 30, 31, 32, 33, 34, 35, 36, 37, 38, 39, 40, 41, 42, 43, 44, 45, 46, 47, 48, 49, 50, 51, 52, 53, 54, 55, 56, 57, 58, 59, 60, 61, 62, 63, 64, 65, 66, 67, 68, 69, 70, 71, 72, 73, 74, 75, 76, 77, 78, 79, 98, 99, 100, 101, 102, 103, 104, 105, 106, 107, 108, 109, 110, 111, 112, 113, 114, 115, 116, 117, 118, 119, 120, 121, 122, 123, 124, 125, 126, 127, 128, 129, 130, 131, 132, 133, 134, 135, 136, 137, 138, 139, 140] (by decide +kernel) (by decide +kernel)
set_option maxRecDepth 20000 in
theorem gX9_back_X6_copy : GoodIn wsX9_back (wsV RX9 302 RX6 yX6_copy wsX6_copy) := goodIn_app (goodIn_of _ (by decide +kernel)) ggX9_back_X6_copy
set_option maxRecDepth 20000 in
theorem ggX9_back_X9_forget : GoodIn wsX9_back wsX9_forget := goodIn_r _ [83, 84, 85, 86, 87, 88, 89, 90, 91, 92, 93, 94, 95, 96, 97, 141, 142, 143, 144, 145, 146, 147, 148, 149, 150, 151, 152, 153, 154, 155, 156, 157, 158, 159, 160, 161, 162, 163, 164, 165, 166, 167, 168] (by decide +kernel) (by decide +kernel)
set_option maxRecDepth 20000 in
theorem gX9_back_X9_forget : GoodIn wsX9_back (wsV RX9 90 RX9 yX9_forget wsX9_forget) := goodIn_app (goodIn_of _ (by decide +kernel)) ggX9_back_X9_forget
set_option maxRecDepth 20000 in
theorem ggX9_row_X9_isSlot : GoodIn wsX9_row wsX9_isSlot := goodIn_r _ [5] (by decide +kernel) (by decide +kernel)
set_option maxRecDepth 20000 in
theorem gX9_row_X9_isSlot : GoodIn wsX9_row (va_wsS RX9 134 yX9_isSlot wsX9_isSlot) := goodIn_app (goodIn_of _ (by decide +kernel)) ggX9_row_X9_isSlot
set_option maxRecDepth 20000 in
theorem ggX9_row_X5_lay : GoodIn wsX9_row wsX5_lay := goodIn_r _ [10, 11, 12, 13, 14, 15, 16, 17, 18, 29, 30, 31, 32] (by decide +kernel) (by decide +kernel)
set_option maxRecDepth 20000 in
theorem gX9_row_X5_lay : GoodIn wsX9_row (wsV RX9 306 RX5 yX5_lay wsX5_lay) := goodIn_app (goodIn_of _ (by decide +kernel)) ggX9_row_X5_lay
set_option maxRecDepth 20000 in
theorem ggX9_write_X9_isSlot : GoodIn wsX9_write wsX9_isSlot := goodIn_r _ [8] (by decide +kernel) (by decide +kernel)
set_option maxRecDepth 20000 in
theorem gX9_write_X9_isSlot : GoodIn wsX9_write (va_wsS RX9 134 yX9_isSlot wsX9_isSlot) := goodIn_app (goodIn_of _ (by decide +kernel)) ggX9_write_X9_isSlot
set_option maxRecDepth 20000 in
theorem ggX9_paste_X9_isSlot : GoodIn wsX9_paste wsX9_isSlot := goodIn_r _ [12] (by decide +kernel) (by decide +kernel)
set_option maxRecDepth 20000 in
theorem gX9_paste_X9_isSlot : GoodIn wsX9_paste (va_wsS RX9 134 yX9_isSlot wsX9_isSlot) := goodIn_app (goodIn_of _ (by decide +kernel)) ggX9_paste_X9_isSlot
set_option maxRecDepth 20000 in
theorem ggX9_isDeed_X7_hasPair : GoodIn wsX9_isDeed wsX7_hasPair := goodIn_r _ [7, 8, 9, 10, 6, 11, 12, 31, 32, 33, 34, 35, 36, 37, 38, 39, 40, 41, 42] (by decide +kernel) (by decide +kernel)
set_option maxRecDepth 20000 in
theorem gX9_isDeed_X7_hasPair : GoodIn wsX9_isDeed (wsV RX9 126 RX7 yX7_hasPair wsX7_hasPair) := goodIn_app (goodIn_of _ (by decide +kernel)) ggX9_isDeed_X7_hasPair
set_option maxRecDepth 20000 in
theorem ggX9_isOuting_X7_has : GoodIn wsX9_isOuting wsX7_has := goodIn_r _ [8, 9, 28, 29, 30, 31, 32, 33, 34, 35, 36, 37, 38, 39] (by decide +kernel) (by decide +kernel)
set_option maxRecDepth 20000 in
theorem gX9_isOuting_X7_has : GoodIn wsX9_isOuting (wsV RX9 158 RX7 yX7_has wsX7_has) := goodIn_app (goodIn_of _ (by decide +kernel)) ggX9_isOuting_X7_has
set_option maxRecDepth 20000 in
theorem ggX10_keep_X10_in : GoodIn wsX10_keep wsX10_in := goodIn_r _ [8] (by decide +kernel) (by decide +kernel)
set_option maxRecDepth 20000 in
theorem gX10_keep_X10_in : GoodIn wsX10_keep (va_wsS RX10 101 yX10_in wsX10_in) := goodIn_app (goodIn_of _ (by decide +kernel)) ggX10_keep_X10_in
set_option maxRecDepth 20000 in
theorem ggX10_back_X10_in : GoodIn wsX10_back wsX10_in := goodIn_r _ [8] (by decide +kernel) (by decide +kernel)
set_option maxRecDepth 20000 in
theorem gX10_back_X10_in : GoodIn wsX10_back (va_wsS RX10 101 yX10_in wsX10_in) := goodIn_app (goodIn_of _ (by decide +kernel)) ggX10_back_X10_in
set_option maxRecDepth 20000 in
theorem ggX10_isHouse_X10_in : GoodIn wsX10_isHouse wsX10_in := goodIn_r _ [5] (by decide +kernel) (by decide +kernel)
set_option maxRecDepth 20000 in
theorem gX10_isHouse_X10_in : GoodIn wsX10_isHouse (va_wsS RX10 101 yX10_in wsX10_in) := goodIn_app (goodIn_of _ (by decide +kernel)) ggX10_isHouse_X10_in
set_option maxRecDepth 20000 in
theorem ggX10_areTwo_X10_isHouse : GoodIn wsX10_areTwo wsX10_isHouse := goodIn_r _ [5, 6, 7, 8, 4, 9, 10, 11, 12, 13, 14, 15, 16, 17, 18, 19, 20, 21, 22, 23, 24, 25, 26, 27, 28, 29, 30, 31, 32, 33, 34, 35, 36, 37, 38, 39, 40, 41, 42, 43, 44, 45, 46, 47, 48, 49, 50] (by decide +kernel) (by decide +kernel)
set_option maxRecDepth 20000 in
theorem gX10_areTwo_X10_isHouse : GoodIn wsX10_areTwo (wsV RX10 105 RX10 yX10_isHouse wsX10_isHouse) := goodIn_app (goodIn_of _ (by decide +kernel)) ggX10_areTwo_X10_isHouse
set_option maxRecDepth 20000 in
theorem ggX10_end_X10_in : GoodIn wsX10_end wsX10_in := goodIn_r _ [5] (by decide +kernel) (by decide +kernel)
set_option maxRecDepth 20000 in
theorem gX10_end_X10_in : GoodIn wsX10_end (va_wsS RX10 101 yX10_in wsX10_in) := goodIn_app (goodIn_of _ (by decide +kernel)) ggX10_end_X10_in
set_option maxRecDepth 20000 in
theorem ggX10_advance_X10_see : GoodIn wsX10_advance wsX10_see := goodIn_r _ [17, 18, 19, 23, 24, 25, 26, 27, 28, 29, 30, 31, 32, 33, 34, 35, 36, 37, 38, 39, 40, 41, 42, 43, 44, 45, 46, 47, 48, 49, 50, 51, 52, 53, 54, 55, 56, 57, 58, 59, 60, 61, 62, 63] (by decide +kernel) (by decide +kernel)
set_option maxRecDepth 20000 in
theorem gX10_advance_X10_see : GoodIn wsX10_advance (wsV RX10 118 RX10 yX10_see wsX10_see) := goodIn_app (goodIn_of _ (by decide +kernel)) ggX10_advance_X10_see
set_option maxRecDepth 20000 in
theorem ggX10_advance_X10_in : GoodIn wsX10_advance wsX10_in := goodIn_r _ [22] (by decide +kernel) (by decide +kernel)
set_option maxRecDepth 20000 in
theorem gX10_advance_X10_in : GoodIn wsX10_advance (va_wsS RX10 101 yX10_in wsX10_in) := goodIn_app (goodIn_of _ (by decide +kernel)) ggX10_advance_X10_in
set_option maxRecDepth 20000 in
theorem ggX10_town_X10_advance : GoodIn wsX10_town wsX10_advance := goodIn_r _ [13, 3, 14, 7, 15, 16, 17, 18, 19, 20, 21, 22, 23, 24, 25, 26, 12, 27, 2, 28, 29, 30, 31, 153, 154, 155, 156, 157, 158, 159, 160, 161, 162, 163, 164, 165, 166, 167, 168, 169, 170, 171, 172, 173, 174, 175, 176, 177, 178, 179, 180, 181, 182, 183, 184, 185, 186, 187, 188, 189, 190, 191, 192, 193] (by decide +kernel) (by decide +kernel)
set_option maxRecDepth 20000 in
theorem gX10_town_X10_advance : GoodIn wsX10_town (wsV RX10 166 RX10 yX10_advance wsX10_advance) := goodIn_app (goodIn_of _ (by decide +kernel)) ggX10_town_X10_advance
set_option maxRecDepth 20000 in
theorem ggX10_town_X10_good : GoodIn wsX10_town wsX10_good := goodIn_r _ [35, 4, 153, 154, 155, 156, 157, 158, 159, 160, 161, 162, 163, 164, 165, 166, 167, 168, 169, 170, 171, 172, 173, 174, 175, 176, 177, 178, 179, 180, 181, 182, 183, 184, 185, 186, 187, 188, 189, 190, 191, 192, 193] (by decide +kernel) (by decide +kernel)
set_option maxRecDepth 20000 in
theorem gX10_town_X10_good : GoodIn wsX10_town (wsV RX10 148 RX10 yX10_good wsX10_good) := goodIn_app (goodIn_of _ (by decide +kernel)) ggX10_town_X10_good
set_option maxRecDepth 20000 in
theorem ggX10_town_X10_ofHouse : GoodIn wsX10_town wsX10_ofHouse := goodIn_r _ [152, 8, 153, 154, 155, 156, 157, 158, 159, 160, 161, 162, 163, 164, 165, 166, 167, 168, 169, 170, 171, 172, 173, 174, 175, 176, 177, 178, 179, 180, 181, 182, 183, 184, 185, 186, 187, 188, 189, 190, 191, 192, 193] (by decide +kernel) (by decide +kernel)
set_option maxRecDepth 20000 in
theorem gX10_town_X10_ofHouse : GoodIn wsX10_town (wsV RX10 286 RX10 yX10_ofHouse wsX10_ofHouse) := goodIn_app (goodIn_of _ (by decide +kernel)) ggX10_town_X10_ofHouse
set_option maxRecDepth 20000 in
theorem ggX10_days_X10_in : GoodIn wsX10_days wsX10_in := goodIn_r _ [6] (by decide +kernel) (by decide +kernel)
set_option maxRecDepth 20000 in
theorem gX10_days_X10_in : GoodIn wsX10_days (va_wsS RX10 101 yX10_in wsX10_in) := goodIn_app (goodIn_of _ (by decide +kernel)) ggX10_days_X10_in
set_option maxRecDepth 20000 in
theorem ggX10_days_X10_today : GoodIn wsX10_days wsX10_today := goodIn_r _ [10, 2, 11, 12, 13, 14, 15, 16, 17, 18, 19, 20, 21, 22, 23, 24, 25, 26, 27, 28, 29, 30, 31, 32, 33, 34, 35, 36, 37, 38, 39, 40, 41, 42, 43, 44, 45, 46, 47, 48, 49, 50, 51] (by decide +kernel) (by decide +kernel)
set_option maxRecDepth 20000 in
theorem gX10_days_X10_today : GoodIn wsX10_days (wsV RX10 291 RX10 yX10_today wsX10_today) := goodIn_app (goodIn_of _ (by decide +kernel)) ggX10_days_X10_today
set_option maxRecDepth 20000 in
theorem ggX10_bars_X10_areTwo : GoodIn wsX10_bars wsX10_areTwo := goodIn_r _ [5, 6, 7, 8, 4, 9, 10, 11, 12, 13, 52, 53, 54, 55, 56, 57, 58, 59, 60, 61, 62, 63, 64, 65, 66, 67, 68, 69, 70, 71, 72, 73, 74, 75, 76, 77, 78, 79, 80, 81, 82, 83, 84, 85, 86, 87, 88, 89, 90, 91, 92] (by decide +kernel) (by decide +kernel)
set_option maxRecDepth 20000 in
theorem gX10_bars_X10_areTwo : GoodIn wsX10_bars (wsV RX10 315 RX10 yX10_areTwo wsX10_areTwo) := goodIn_app (goodIn_of _ (by decide +kernel)) ggX10_bars_X10_areTwo
set_option maxRecDepth 20000 in
theorem ggX10_known_X10_areTwo : GoodIn wsX10_known wsX10_areTwo := goodIn_r _ [5, 6, 7, 8, 4, 9, 10, 11, 12, 13, 21, 22, 23, 24, 25, 26, 27, 28, 29, 30, 31, 32, 33, 34, 35, 36, 37, 38, 39, 40, 41, 42, 43, 44, 45, 46, 47, 48, 49, 50, 51, 52, 53, 54, 55, 56, 57, 58, 59, 60, 61] (by decide +kernel) (by decide +kernel)
set_option maxRecDepth 20000 in
theorem gX10_known_X10_areTwo : GoodIn wsX10_known (wsV RX10 315 RX10 yX10_areTwo wsX10_areTwo) := goodIn_app (goodIn_of _ (by decide +kernel)) ggX10_known_X10_areTwo
set_option maxRecDepth 20000 in
theorem ggX10_does_X10_areTwo : GoodIn wsX10_does wsX10_areTwo := goodIn_r _ [6, 7, 8, 9, 5, 10, 1, 11, 12, 13, 107, 108, 109, 110, 111, 112, 113, 114, 115, 116, 117, 118, 119, 120, 121, 122, 123, 124, 125, 126, 127, 128, 129, 130, 131, 132, 133, 134, 135, 136, 137, 138, 139, 140, 141, 142, 143, 144, 145, 146, 147] (by decide +kernel) (by decide +kernel)
set_option maxRecDepth 20000 in
theorem gX10_does_X10_areTwo : GoodIn wsX10_does (wsV RX10 315 RX10 yX10_areTwo wsX10_areTwo) := goodIn_app (goodIn_of _ (by decide +kernel)) ggX10_does_X10_areTwo
set_option maxRecDepth 20000 in
theorem ggX10_meet_X10_areTwo : GoodIn wsX10_meet wsX10_areTwo := goodIn_r _ [6, 7, 8, 9, 5, 10, 1, 11, 12, 13, 84, 85, 86, 87, 88, 89, 90, 91, 92, 93, 94, 95, 96, 97, 98, 99, 100, 101, 102, 103, 104, 105, 106, 107, 108, 109, 110, 111, 112, 113, 114, 115, 116, 117, 118, 119, 120, 121, 122, 123, 124] (by decide +kernel) (by decide +kernel)
set_option maxRecDepth 20000 in
theorem gX10_meet_X10_areTwo : GoodIn wsX10_meet (wsV RX10 315 RX10 yX10_areTwo wsX10_areTwo) := goodIn_app (goodIn_of _ (by decide +kernel)) ggX10_meet_X10_areTwo
set_option maxRecDepth 20000 in
theorem ggX10_done_X10_isSlot : GoodIn wsX10_done wsX10_isSlot := goodIn_r _ [8, 9, 10, 11, 7, 12] (by decide +kernel) (by decide +kernel)
set_option maxRecDepth 20000 in
theorem gX10_done_X10_isSlot : GoodIn wsX10_done (va_wsS RX10 371 yX10_isSlot wsX10_isSlot) := goodIn_app (goodIn_of _ (by decide +kernel)) ggX10_done_X10_isSlot
set_option maxRecDepth 20000 in
theorem ggX10_done_X10_in : GoodIn wsX10_done wsX10_in := goodIn_r _ [12] (by decide +kernel) (by decide +kernel)
set_option maxRecDepth 20000 in
theorem gX10_done_X10_in : GoodIn wsX10_done (va_wsS RX10 101 yX10_in wsX10_in) := goodIn_app (goodIn_of _ (by decide +kernel)) ggX10_done_X10_in
set_option maxRecDepth 20000 in
theorem ggX10_done_X10_meet : GoodIn wsX10_done wsX10_meet := goodIn_r _ [16, 17, 18, 19, 20, 7, 21, 22, 23, 24, 25, 10, 11, 12, 26, 27, 28, 29, 30, 31, 32, 33, 34, 35, 36, 37, 38, 39, 40, 41, 42, 43, 44, 45, 46, 47, 48, 49, 50, 51, 52, 53, 54, 55, 56, 57, 58, 59, 60, 61, 62, 63, 64, 65, 66, 67, 68, 69, 70, 71, 72, 73, 74, 75, 76, 77, 78, 79, 80, 81, 82, 83, 84, 85, 86, 87, 88, 89, 90, 91, 92, 93, 94, 95, 122, 123, 124, 125, 126, 127, 128, 129, 130, 131, 132, 133, 134, 135, 136, 137, 138, 139, 140, 141, 142, 143, 144, 145, 146, 147, 148, 149, 150, 151, 152, 153, 154, 155, 156, 157, 158, 159, 160, 161, 162] (by decide +kernel) (by decide +kernel)
set_option maxRecDepth 20000 in
theorem gX10_done_X10_meet : GoodIn wsX10_done (wsV RX10 378 RX10 yX10_meet wsX10_meet) := goodIn_app (goodIn_of _ (by decide +kernel)) ggX10_done_X10_meet
set_option maxRecDepth 20000 in
theorem ggX10_done_X10_does : GoodIn wsX10_done wsX10_does := goodIn_r _ [99, 17, 18, 19, 20, 7, 21, 22, 23, 24, 25, 10, 11, 12, 100, 101, 102, 9, 103, 104, 105, 106, 37, 38, 39, 40, 107, 108, 109, 110, 70, 71, 72, 73, 26, 27, 28, 29, 30, 31, 32, 111, 112, 113, 114, 115, 116, 117, 118, 119, 120, 121, 33, 34, 35, 36, 41, 42, 43, 44, 45, 46, 47, 48, 49, 50, 51, 52, 53, 54, 55, 56, 57, 58, 59, 60, 61, 62, 63, 64, 65, 66, 67, 68, 69, 74, 75, 76, 77, 78, 79, 80, 81, 82, 83, 84, 85, 86, 87, 88, 89, 90, 91, 92, 93, 94, 95, 122, 123, 124, 125, 126, 127, 128, 129, 130, 131, 132, 133, 134, 135, 136, 137, 138, 139, 140, 141, 142, 143, 144, 145, 146, 147, 148, 149, 150, 151, 152, 153, 154, 155, 156, 157, 158, 159, 160, 161, 162] (by decide +kernel) (by decide +kernel)
set_option maxRecDepth 20000 in
theorem gX10_done_X10_does : GoodIn wsX10_done (wsV RX10 381 RX10 yX10_does wsX10_does) := goodIn_app (goodIn_of _ (by decide +kernel)) ggX10_done_X10_does
set_option maxRecDepth 20000 in
theorem ggX10_debts_X10_isHouse : GoodIn wsX10_debts wsX10_isHouse := goodIn_r _ [5, 6, 7, 8, 4, 9, 18, 19, 20, 21, 22, 23, 24, 25, 26, 27, 28, 29, 30, 31, 32, 33, 34, 35, 36, 37, 38, 39, 40, 41, 42, 43, 44, 45, 46, 47, 48, 49, 50, 51, 52, 53, 54, 55, 56, 57, 58] (by decide +kernel) (by decide +kernel)
set_option maxRecDepth 20000 in
theorem gX10_debts_X10_isHouse : GoodIn wsX10_debts (wsV RX10 105 RX10 yX10_isHouse wsX10_isHouse) := goodIn_app (goodIn_of _ (by decide +kernel)) ggX10_debts_X10_isHouse
set_option maxRecDepth 20000 in
theorem ggX10_debt_X10_isHouse : GoodIn wsX10_debt wsX10_isHouse := goodIn_r _ [6, 7, 8, 9, 5, 10, 19, 20, 21, 22, 23, 24, 25, 26, 27, 28, 29, 30, 31, 32, 33, 34, 35, 36, 37, 38, 39, 40, 41, 42, 43, 44, 45, 46, 47, 48, 49, 50, 51, 52, 53, 54, 55, 56, 57, 58, 59] (by decide +kernel) (by decide +kernel)
set_option maxRecDepth 20000 in
theorem gX10_debt_X10_isHouse : GoodIn wsX10_debt (wsV RX10 105 RX10 yX10_isHouse wsX10_isHouse) := goodIn_app (goodIn_of _ (by decide +kernel)) ggX10_debt_X10_isHouse
set_option maxRecDepth 20000 in
theorem ggX10_debt_X10_in : GoodIn wsX10_debt wsX10_in := goodIn_r _ [10] (by decide +kernel) (by decide +kernel)
set_option maxRecDepth 20000 in
theorem gX10_debt_X10_in : GoodIn wsX10_debt (va_wsS RX10 101 yX10_in wsX10_in) := goodIn_app (goodIn_of _ (by decide +kernel)) ggX10_debt_X10_in
set_option maxRecDepth 20000 in
theorem ggX10_slights_X10_isHouse : GoodIn wsX10_slights wsX10_isHouse := goodIn_r _ [5, 6, 7, 8, 4, 9, 22, 23, 24, 25, 26, 27, 28, 29, 30, 31, 32, 33, 34, 35, 36, 37, 38, 39, 40, 41, 42, 43, 44, 45, 46, 47, 48, 49, 50, 51, 52, 53, 54, 55, 56, 57, 58, 59, 60, 61, 62] (by decide +kernel) (by decide +kernel)
set_option maxRecDepth 20000 in
theorem gX10_slights_X10_isHouse : GoodIn wsX10_slights (wsV RX10 105 RX10 yX10_isHouse wsX10_isHouse) := goodIn_app (goodIn_of _ (by decide +kernel)) ggX10_slights_X10_isHouse
set_option maxRecDepth 20000 in
theorem ggX10_first_X10_ofHouse : GoodIn wsX10_first wsX10_ofHouse := goodIn_r _ [18, 1, 19, 20, 21, 22, 23, 24, 25, 26, 27, 28, 29, 30, 31, 32, 33, 34, 35, 36, 37, 38, 39, 40, 41, 42, 43, 44, 45, 46, 47, 48, 49, 50, 51, 52, 53, 54, 55, 56, 57, 58, 59] (by decide +kernel) (by decide +kernel)
set_option maxRecDepth 20000 in
theorem gX10_first_X10_ofHouse : GoodIn wsX10_first (wsV RX10 286 RX10 yX10_ofHouse wsX10_ofHouse) := goodIn_app (goodIn_of _ (by decide +kernel)) ggX10_first_X10_ofHouse
set_option maxRecDepth 20000 in
theorem ggX10_owes_X10_areTwo : GoodIn wsX10_owes wsX10_areTwo := goodIn_r _ [6, 7, 8, 9, 5, 10, 1, 11, 12, 13, 60, 61, 62, 63, 64, 65, 66, 67, 68, 69, 70, 71, 72, 73, 74, 75, 76, 77, 78, 79, 80, 81, 82, 83, 84, 85, 86, 87, 88, 89, 90, 91, 92, 93, 94, 95, 96, 97, 98, 99, 100] (by decide +kernel) (by decide +kernel)
set_option maxRecDepth 20000 in
theorem gX10_owes_X10_areTwo : GoodIn wsX10_owes (wsV RX10 315 RX10 yX10_areTwo wsX10_areTwo) := goodIn_app (goodIn_of _ (by decide +kernel)) ggX10_owes_X10_areTwo
set_option maxRecDepth 20000 in
theorem ggX10_owes_X10_today : GoodIn wsX10_owes wsX10_today := goodIn_r _ [28, 1, 60, 61, 62, 63, 64, 65, 66, 67, 68, 69, 70, 71, 72, 73, 74, 75, 76, 77, 78, 79, 80, 81, 82, 83, 84, 85, 86, 87, 88, 89, 90, 91, 92, 93, 94, 95, 96, 97, 98, 99, 100] (by decide +kernel) (by decide +kernel)
set_option maxRecDepth 20000 in
theorem gX10_owes_X10_today : GoodIn wsX10_owes (wsV RX10 291 RX10 yX10_today wsX10_today) := goodIn_app (goodIn_of _ (by decide +kernel)) ggX10_owes_X10_today
set_option maxRecDepth 20000 in
theorem ggX10_isRound_X10_isHouse : GoodIn wsX10_isRound wsX10_isHouse := goodIn_r _ [6, 7, 8, 9, 5, 10, 15, 16, 17, 18, 19, 20, 21, 22, 23, 24, 25, 26, 27, 28, 29, 30, 31, 32, 33, 34, 35, 36, 37, 38, 39, 40, 41, 42, 43, 44, 45, 46, 47, 48, 49, 50, 51, 52, 53, 54, 55] (by decide +kernel) (by decide +kernel)
set_option maxRecDepth 20000 in
theorem gX10_isRound_X10_isHouse : GoodIn wsX10_isRound (wsV RX10 105 RX10 yX10_isHouse wsX10_isHouse) := goodIn_app (goodIn_of _ (by decide +kernel)) ggX10_isRound_X10_isHouse
set_option maxRecDepth 20000 in
theorem ggX10_isRound_X10_today : GoodIn wsX10_isRound wsX10_today := goodIn_r _ [14, 7, 15, 16, 17, 18, 19, 20, 21, 22, 23, 24, 25, 26, 27, 28, 29, 30, 31, 32, 33, 34, 35, 36, 37, 38, 39, 40, 41, 42, 43, 44, 45, 46, 47, 48, 49, 50, 51, 52, 53, 54, 55] (by decide +kernel) (by decide +kernel)
set_option maxRecDepth 20000 in
theorem gX10_isRound_X10_today : GoodIn wsX10_isRound (wsV RX10 291 RX10 yX10_today wsX10_today) := goodIn_app (goodIn_of _ (by decide +kernel)) ggX10_isRound_X10_today
set_option maxRecDepth 20000 in
theorem ggX10_isRound_X10_in : GoodIn wsX10_isRound wsX10_in := goodIn_r _ [10] (by decide +kernel) (by decide +kernel)
set_option maxRecDepth 20000 in
theorem gX10_isRound_X10_in : GoodIn wsX10_isRound (va_wsS RX10 101 yX10_in wsX10_in) := goodIn_app (goodIn_of _ (by decide +kernel)) ggX10_isRound_X10_in
set_option maxRecDepth 20000 in
theorem ggX10_worth_X10_isRound : GoodIn wsX10_worth wsX10_isRound := goodIn_r _ [6, 7, 8, 9, 10, 5, 11, 12, 13, 14, 15, 16, 17, 18, 19, 73, 74, 75, 76, 77, 78, 79, 80, 81, 82, 83, 84, 85, 86, 87, 88, 89, 90, 91, 92, 93, 94, 95, 96, 97, 98, 99, 100, 101, 102, 103, 104, 105, 106, 107, 108, 109, 110, 111, 112, 113] (by decide +kernel) (by decide +kernel)
set_option maxRecDepth 20000 in
theorem gX10_worth_X10_isRound : GoodIn wsX10_worth (wsV RX10 429 RX10 yX10_isRound wsX10_isRound) := goodIn_app (goodIn_of _ (by decide +kernel)) ggX10_worth_X10_isRound
set_option maxRecDepth 20000 in
theorem ggX10_over_X10_isRound : GoodIn wsX10_over wsX10_isRound := goodIn_r _ [6, 7, 8, 9, 10, 5, 11, 12, 13, 14, 15, 16, 17, 18, 19, 73, 74, 75, 76, 77, 78, 79, 80, 81, 82, 83, 84, 85, 86, 87, 88, 89, 90, 91, 92, 93, 94, 95, 96, 97, 98, 99, 100, 101, 102, 103, 104, 105, 106, 107, 108, 109, 110, 111, 112, 113] (by decide +kernel) (by decide +kernel)
set_option maxRecDepth 20000 in
theorem gX10_over_X10_isRound : GoodIn wsX10_over (wsV RX10 429 RX10 yX10_isRound wsX10_isRound) := goodIn_app (goodIn_of _ (by decide +kernel)) ggX10_over_X10_isRound
set_option maxRecDepth 20000 in
theorem ggX10_round_X10_isRound : GoodIn wsX10_round wsX10_isRound := goodIn_r _ [7, 8, 9, 10, 11, 6, 12, 13, 14, 15, 16, 17, 18, 19, 20, 81, 82, 83, 84, 85, 86, 87, 88, 89, 90, 91, 92, 93, 94, 95, 96, 97, 98, 99, 100, 101, 102, 103, 104, 105, 106, 107, 108, 109, 110, 111, 112, 113, 114, 115, 116, 117, 118, 119, 120, 121] (by decide +kernel) (by decide +kernel)
set_option maxRecDepth 20000 in
theorem gX10_round_X10_isRound : GoodIn wsX10_round (wsV RX10 429 RX10 yX10_isRound wsX10_isRound) := goodIn_app (goodIn_of _ (by decide +kernel)) ggX10_round_X10_isRound
set_option maxRecDepth 20000 in
theorem ggX10_round_X10_in : GoodIn wsX10_round wsX10_in := goodIn_r _ [16] (by decide +kernel) (by decide +kernel)
set_option maxRecDepth 20000 in
theorem gX10_round_X10_in : GoodIn wsX10_round (va_wsS RX10 101 yX10_in wsX10_in) := goodIn_app (goodIn_of _ (by decide +kernel)) ggX10_round_X10_in
set_option maxRecDepth 20000 in
theorem ggX10_may_X10_isSlot : GoodIn wsX10_may wsX10_isSlot := goodIn_r _ [8, 9, 10, 11, 7, 12] (by decide +kernel) (by decide +kernel)
set_option maxRecDepth 20000 in
theorem gX10_may_X10_isSlot : GoodIn wsX10_may (va_wsS RX10 371 yX10_isSlot wsX10_isSlot) := goodIn_app (goodIn_of _ (by decide +kernel)) ggX10_may_X10_isSlot
set_option maxRecDepth 20000 in
theorem ggX10_may_X10_isRound : GoodIn wsX10_may wsX10_isRound := goodIn_r _ [16, 17, 18, 19, 20, 7, 21, 3, 10, 11, 12, 22, 23, 24, 25, 57, 58, 59, 60, 61, 62, 63, 64, 65, 66, 67, 68, 69, 70, 71, 72, 73, 74, 75, 76, 77, 78, 79, 80, 81, 82, 83, 84, 85, 86, 87, 88, 89, 90, 91, 92, 93, 94, 95, 96, 97] (by decide +kernel) (by decide +kernel)
set_option maxRecDepth 20000 in
theorem gX10_may_X10_isRound : GoodIn wsX10_may (wsV RX10 429 RX10 yX10_isRound wsX10_isRound) := goodIn_app (goodIn_of _ (by decide +kernel)) ggX10_may_X10_isRound
set_option maxRecDepth 20000 in
theorem ggX10_may_X10_in : GoodIn wsX10_may wsX10_in := goodIn_r _ [12] (by decide +kernel) (by decide +kernel)
set_option maxRecDepth 20000 in
theorem gX10_may_X10_in : GoodIn wsX10_may (va_wsS RX10 101 yX10_in wsX10_in) := goodIn_app (goodIn_of _ (by decide +kernel)) ggX10_may_X10_in
set_option maxRecDepth 20000 in
theorem ggX10_fewest_X10_isHouse : GoodIn wsX10_fewest wsX10_isHouse := goodIn_r _ [13, 14, 15, 16, 12, 17, 72, 73, 74, 75, 76, 77, 78, 79, 80, 81, 82, 83, 84, 85, 86, 87, 88, 89, 90, 91, 92, 93, 94, 95, 96, 97, 98, 99, 100, 101, 102, 103, 104, 105, 106, 107, 108, 109, 110, 111, 112] (by decide +kernel) (by decide +kernel)
set_option maxRecDepth 20000 in
theorem gX10_fewest_X10_isHouse : GoodIn wsX10_fewest (wsV RX10 105 RX10 yX10_isHouse wsX10_isHouse) := goodIn_app (goodIn_of _ (by decide +kernel)) ggX10_fewest_X10_isHouse
set_option maxRecDepth 20000 in
theorem ggX10_fewest_X10_today : GoodIn wsX10_fewest wsX10_today := goodIn_r _ [40, 14, 72, 73, 74, 75, 76, 77, 78, 79, 80, 81, 82, 83, 84, 85, 86, 87, 88, 89, 90, 91, 92, 93, 94, 95, 96, 97, 98, 99, 100, 101, 102, 103, 104, 105, 106, 107, 108, 109, 110, 111, 112] (by decide +kernel) (by decide +kernel)
set_option maxRecDepth 20000 in
theorem gX10_fewest_X10_today : GoodIn wsX10_fewest (wsV RX10 291 RX10 yX10_today wsX10_today) := goodIn_app (goodIn_of _ (by decide +kernel)) ggX10_fewest_X10_today
set_option maxRecDepth 20000 in
theorem ggX10_lost_X10_isHouse : GoodIn wsX10_lost wsX10_isHouse := goodIn_r _ [11, 12, 13, 14, 10, 15, 57, 58, 59, 60, 61, 62, 63, 64, 65, 66, 67, 68, 69, 70, 71, 72, 73, 74, 75, 76, 77, 78, 79, 80, 81, 82, 83, 84, 85, 86, 87, 88, 89, 90, 91, 92, 93, 94, 95, 96, 97] (by decide +kernel) (by decide +kernel)
set_option maxRecDepth 20000 in
theorem gX10_lost_X10_isHouse : GoodIn wsX10_lost (wsV RX10 105 RX10 yX10_isHouse wsX10_isHouse) := goodIn_app (goodIn_of _ (by decide +kernel)) ggX10_lost_X10_isHouse
set_option maxRecDepth 20000 in
theorem ggX10_lost_X10_today : GoodIn wsX10_lost wsX10_today := goodIn_r _ [38, 12, 57, 58, 59, 60, 61, 62, 63, 64, 65, 66, 67, 68, 69, 70, 71, 72, 73, 74, 75, 76, 77, 78, 79, 80, 81, 82, 83, 84, 85, 86, 87, 88, 89, 90, 91, 92, 93, 94, 95, 96, 97] (by decide +kernel) (by decide +kernel)
set_option maxRecDepth 20000 in
theorem gX10_lost_X10_today : GoodIn wsX10_lost (wsV RX10 291 RX10 yX10_today wsX10_today) := goodIn_app (goodIn_of _ (by decide +kernel)) ggX10_lost_X10_today
set_option maxRecDepth 20000 in
theorem ggX10_soon_X10_areTwo : GoodIn wsX10_soon wsX10_areTwo := goodIn_r _ [6, 7, 8, 9, 5, 10, 11, 12, 13, 14, 54, 55, 56, 57, 58, 59, 60, 61, 62, 63, 64, 65, 66, 67, 68, 69, 70, 71, 72, 73, 74, 75, 76, 77, 78, 79, 80, 81, 82, 83, 84, 85, 86, 87, 88, 89, 90, 91, 92, 93, 94] (by decide +kernel) (by decide +kernel)
set_option maxRecDepth 20000 in
theorem gX10_soon_X10_areTwo : GoodIn wsX10_soon (wsV RX10 315 RX10 yX10_areTwo wsX10_areTwo) := goodIn_app (goodIn_of _ (by decide +kernel)) ggX10_soon_X10_areTwo
set_option maxRecDepth 20000 in
theorem ggX10_path_X10_areTwo : GoodIn wsX10_path wsX10_areTwo := goodIn_r _ [7, 8, 9, 10, 6, 11, 12, 13, 14, 15, 54, 55, 56, 57, 58, 59, 60, 61, 62, 63, 64, 65, 66, 67, 68, 69, 70, 71, 72, 73, 74, 75, 76, 77, 78, 79, 80, 81, 82, 83, 84, 85, 86, 87, 88, 89, 90, 91, 92, 93, 94] (by decide +kernel) (by decide +kernel)
set_option maxRecDepth 20000 in
theorem gX10_path_X10_areTwo : GoodIn wsX10_path (wsV RX10 315 RX10 yX10_areTwo wsX10_areTwo) := goodIn_app (goodIn_of _ (by decide +kernel)) ggX10_path_X10_areTwo
set_option maxRecDepth 20000 in
theorem ggX10_path_X10_in : GoodIn wsX10_path wsX10_in := goodIn_r _ [15] (by decide +kernel) (by decide +kernel)
set_option maxRecDepth 20000 in
theorem gX10_path_X10_in : GoodIn wsX10_path (va_wsS RX10 101 yX10_in wsX10_in) := goodIn_app (goodIn_of _ (by decide +kernel)) ggX10_path_X10_in
set_option maxRecDepth 20000 in
theorem ggX10_reach_X10_isHouse : GoodIn wsX10_reach wsX10_isHouse := goodIn_r _ [5, 6, 7, 8, 4, 9, 17, 18, 19, 20, 21, 22, 23, 24, 25, 26, 27, 28, 29, 30, 31, 32, 33, 34, 35, 36, 37, 38, 39, 40, 41, 42, 43, 44, 45, 46, 47, 48, 49, 50, 51, 52, 53, 54, 55, 56, 57] (by decide +kernel) (by decide +kernel)
set_option maxRecDepth 20000 in
theorem gX10_reach_X10_isHouse : GoodIn wsX10_reach (wsV RX10 105 RX10 yX10_isHouse wsX10_isHouse) := goodIn_app (goodIn_of _ (by decide +kernel)) ggX10_reach_X10_isHouse
set_option maxRecDepth 20000 in
theorem ggX10_drop_X10_isHouse : GoodIn wsX10_drop wsX10_isHouse := goodIn_r _ [7, 1, 8, 9, 6, 10, 38, 39, 40, 41, 42, 43, 44, 45, 46, 47, 48, 49, 50, 51, 52, 53, 54, 55, 56, 57, 58, 59, 60, 61, 62, 63, 64, 65, 66, 67, 68, 69, 70, 71, 72, 73, 74, 75, 76, 77, 78] (by decide +kernel) (by decide +kernel)
set_option maxRecDepth 20000 in
theorem gX10_drop_X10_isHouse : GoodIn wsX10_drop (wsV RX10 105 RX10 yX10_isHouse wsX10_isHouse) := goodIn_app (goodIn_of _ (by decide +kernel)) ggX10_drop_X10_isHouse
set_option maxRecDepth 20000 in
theorem ggX10_drop_X10_ofHouse : GoodIn wsX10_drop wsX10_ofHouse := goodIn_r _ [37, 1, 38, 39, 40, 41, 42, 43, 44, 45, 46, 47, 48, 49, 50, 51, 52, 53, 54, 55, 56, 57, 58, 59, 60, 61, 62, 63, 64, 65, 66, 67, 68, 69, 70, 71, 72, 73, 74, 75, 76, 77, 78] (by decide +kernel) (by decide +kernel)
set_option maxRecDepth 20000 in
theorem gX10_drop_X10_ofHouse : GoodIn wsX10_drop (wsV RX10 286 RX10 yX10_ofHouse wsX10_ofHouse) := goodIn_app (goodIn_of _ (by decide +kernel)) ggX10_drop_X10_ofHouse
set_option maxRecDepth 20000 in
theorem ggX10_tie_X10_areTwo : GoodIn wsX10_tie wsX10_areTwo := goodIn_r _ [5, 6, 7, 8, 4, 9, 10, 11, 12, 13, 25, 26, 27, 28, 29, 30, 31, 32, 33, 34, 35, 36, 37, 38, 39, 40, 41, 42, 43, 44, 45, 46, 47, 48, 49, 50, 51, 52, 53, 54, 55, 56, 57, 58, 59, 60, 61, 62, 63, 64, 65] (by decide +kernel) (by decide +kernel)
set_option maxRecDepth 20000 in
theorem gX10_tie_X10_areTwo : GoodIn wsX10_tie (wsV RX10 315 RX10 yX10_areTwo wsX10_areTwo) := goodIn_app (goodIn_of _ (by decide +kernel)) ggX10_tie_X10_areTwo
set_option maxRecDepth 20000 in
theorem ggX10_callsAll_X10_in : GoodIn wsX10_callsAll wsX10_in := goodIn_r _ [8] (by decide +kernel) (by decide +kernel)
set_option maxRecDepth 20000 in
theorem gX10_callsAll_X10_in : GoodIn wsX10_callsAll (va_wsS RX10 101 yX10_in wsX10_in) := goodIn_app (goodIn_of _ (by decide +kernel)) ggX10_callsAll_X10_in
set_option maxRecDepth 20000 in
theorem ggX10_ring_X10_isHouse : GoodIn wsX10_ring wsX10_isHouse := goodIn_r _ [5, 6, 7, 8, 4, 9, 31, 32, 33, 34, 35, 36, 37, 38, 39, 40, 41, 42, 43, 44, 45, 46, 47, 48, 49, 50, 51, 52, 53, 54, 55, 56, 57, 58, 59, 60, 61, 62, 63, 64, 65, 66, 67, 68, 69, 70, 71] (by decide +kernel) (by decide +kernel)
set_option maxRecDepth 20000 in
theorem gX10_ring_X10_isHouse : GoodIn wsX10_ring (wsV RX10 105 RX10 yX10_isHouse wsX10_isHouse) := goodIn_app (goodIn_of _ (by decide +kernel)) ggX10_ring_X10_isHouse
set_option maxRecDepth 20000 in
theorem ggX10_ring_X10_callsAll : GoodIn wsX10_ring wsX10_callsAll := goodIn_r _ [13, 14, 6, 15, 16, 7, 8, 4, 9, 31, 32, 33, 34, 35, 36, 37, 38, 39, 40, 41, 42, 43, 44, 45, 46, 47, 48, 49, 50, 51, 52, 53, 54, 55, 56, 57, 58, 59, 60, 61, 62, 63, 64, 65, 66, 67, 68, 69, 70, 71] (by decide +kernel) (by decide +kernel)
set_option maxRecDepth 20000 in
theorem gX10_ring_X10_callsAll : GoodIn wsX10_ring (wsV RX10 462 RX10 yX10_callsAll wsX10_callsAll) := goodIn_app (goodIn_of _ (by decide +kernel)) ggX10_ring_X10_callsAll
set_option maxRecDepth 20000 in
theorem ggX10_rings_X10_callsAll : GoodIn wsX10_rings wsX10_callsAll := goodIn_r _ [6, 7, 1, 8, 9, 10, 11, 5, 12, 27, 28, 29, 30, 31, 32, 33, 34, 35, 36, 37, 38, 39, 40, 41, 42, 43, 44, 45, 46, 47, 48, 49, 50, 51, 52, 53, 54, 55, 56, 57, 58, 59, 60, 61, 62, 63, 64, 65, 66, 67] (by decide +kernel) (by decide +kernel)
set_option maxRecDepth 20000 in
theorem gX10_rings_X10_callsAll : GoodIn wsX10_rings (wsV RX10 462 RX10 yX10_callsAll wsX10_callsAll) := goodIn_app (goodIn_of _ (by decide +kernel)) ggX10_rings_X10_callsAll
set_option maxRecDepth 20000 in
theorem ggX10_house_X10_isHouse : GoodIn wsX10_house wsX10_isHouse := goodIn_r _ [10, 3, 11, 12, 9, 13, 18, 19, 20, 21, 22, 23, 24, 25, 26, 27, 28, 29, 30, 31, 32, 33, 34, 35, 36, 37, 38, 39, 40, 41, 42, 43, 44, 45, 46, 47, 48, 49, 50, 51, 52, 53, 54, 55, 56, 57, 58] (by decide +kernel) (by decide +kernel)
set_option maxRecDepth 20000 in
theorem gX10_house_X10_isHouse : GoodIn wsX10_house (wsV RX10 105 RX10 yX10_isHouse wsX10_isHouse) := goodIn_app (goodIn_of _ (by decide +kernel)) ggX10_house_X10_isHouse
set_option maxRecDepth 20000 in
theorem ggX10_house_X10_in : GoodIn wsX10_house wsX10_in := goodIn_r _ [13] (by decide +kernel) (by decide +kernel)
set_option maxRecDepth 20000 in
theorem gX10_house_X10_in : GoodIn wsX10_house (va_wsS RX10 101 yX10_in wsX10_in) := goodIn_app (goodIn_of _ (by decide +kernel)) ggX10_house_X10_in
set_option maxRecDepth 20000 in
theorem ggX10_house_X10_ofHouse : GoodIn wsX10_house wsX10_ofHouse := goodIn_r _ [17, 3, 18, 19, 20, 21, 22, 23, 24, 25, 26, 27, 28, 29, 30, 31, 32, 33, 34, 35, 36, 37, 38, 39, 40, 41, 42, 43, 44, 45, 46, 47, 48, 49, 50, 51, 52, 53, 54, 55, 56, 57, 58] (by decide +kernel) (by decide +kernel)
set_option maxRecDepth 20000 in
theorem gX10_house_X10_ofHouse : GoodIn wsX10_house (wsV RX10 286 RX10 yX10_ofHouse wsX10_ofHouse) := goodIn_app (goodIn_of _ (by decide +kernel)) ggX10_house_X10_ofHouse
set_option maxRecDepth 20000 in
theorem ggX10_beside_X10_in : GoodIn wsX10_beside wsX10_in := goodIn_r _ [9] (by decide +kernel) (by decide +kernel)
set_option maxRecDepth 20000 in
theorem gX10_beside_X10_in : GoodIn wsX10_beside (va_wsS RX10 101 yX10_in wsX10_in) := goodIn_app (goodIn_of _ (by decide +kernel)) ggX10_beside_X10_in
set_option maxRecDepth 20000 in
theorem ggX10_beside_X10_ofHouse : GoodIn wsX10_beside wsX10_ofHouse := goodIn_r _ [13, 4, 72, 73, 74, 75, 76, 77, 78, 79, 80, 81, 82, 83, 84, 85, 86, 87, 88, 89, 90, 91, 92, 93, 94, 95, 96, 97, 98, 99, 100, 101, 102, 103, 104, 105, 106, 107, 108, 109, 110, 111, 112] (by decide +kernel) (by decide +kernel)
set_option maxRecDepth 20000 in
theorem gX10_beside_X10_ofHouse : GoodIn wsX10_beside (wsV RX10 286 RX10 yX10_ofHouse wsX10_ofHouse) := goodIn_app (goodIn_of _ (by decide +kernel)) ggX10_beside_X10_ofHouse
set_option maxRecDepth 20000 in
theorem ggX10_count_X10_today : GoodIn wsX10_count wsX10_today := goodIn_r _ [8, 1, 13, 14, 15, 16, 17, 18, 19, 20, 21, 22, 23, 24, 25, 26, 27, 28, 29, 30, 31, 32, 33, 34, 35, 36, 37, 38, 39, 40, 41, 42, 43, 44, 45, 46, 47, 48, 49, 50, 51, 52, 53] (by decide +kernel) (by decide +kernel)
set_option maxRecDepth 20000 in
theorem gX10_count_X10_today : GoodIn wsX10_count (wsV RX10 291 RX10 yX10_today wsX10_today) := goodIn_app (goodIn_of _ (by decide +kernel)) ggX10_count_X10_today
set_option maxRecDepth 20000 in
theorem ggX10_isSlot_X10_in : GoodIn wsX10_isSlot wsX10_in := goodIn_r _ [5] (by decide +kernel) (by decide +kernel)
set_option maxRecDepth 20000 in
theorem gX10_isSlot_X10_in : GoodIn wsX10_isSlot (va_wsS RX10 101 yX10_in wsX10_in) := goodIn_app (goodIn_of _ (by decide +kernel)) ggX10_isSlot_X10_in
set_option maxRecDepth 20000 in
theorem ggX10_row_X10_isSlot : GoodIn wsX10_row wsX10_isSlot := goodIn_r _ [8, 1, 9, 10, 7, 11] (by decide +kernel) (by decide +kernel)
set_option maxRecDepth 20000 in
theorem gX10_row_X10_isSlot : GoodIn wsX10_row (va_wsS RX10 371 yX10_isSlot wsX10_isSlot) := goodIn_app (goodIn_of _ (by decide +kernel)) ggX10_row_X10_isSlot
set_option maxRecDepth 20000 in
theorem ggX10_row_X10_in : GoodIn wsX10_row wsX10_in := goodIn_r _ [11] (by decide +kernel) (by decide +kernel)
set_option maxRecDepth 20000 in
theorem gX10_row_X10_in : GoodIn wsX10_row (va_wsS RX10 101 yX10_in wsX10_in) := goodIn_app (goodIn_of _ (by decide +kernel)) ggX10_row_X10_in
set_option maxRecDepth 20000 in
theorem ggX10_write_X10_isSlot : GoodIn wsX10_write wsX10_isSlot := goodIn_r _ [7, 8, 9, 10, 6, 11] (by decide +kernel) (by decide +kernel)
set_option maxRecDepth 20000 in
theorem gX10_write_X10_isSlot : GoodIn wsX10_write (va_wsS RX10 371 yX10_isSlot wsX10_isSlot) := goodIn_app (goodIn_of _ (by decide +kernel)) ggX10_write_X10_isSlot
set_option maxRecDepth 20000 in
theorem ggX10_write_X10_in : GoodIn wsX10_write wsX10_in := goodIn_r _ [11] (by decide +kernel) (by decide +kernel)
set_option maxRecDepth 20000 in
theorem gX10_write_X10_in : GoodIn wsX10_write (va_wsS RX10 101 yX10_in wsX10_in) := goodIn_app (goodIn_of _ (by decide +kernel)) ggX10_write_X10_in
set_option maxRecDepth 20000 in
theorem ggX10_paste_X10_isSlot : GoodIn wsX10_paste wsX10_isSlot := goodIn_r _ [8, 9, 10, 11, 7, 12] (by decide +kernel) (by decide +kernel)
set_option maxRecDepth 20000 in
theorem gX10_paste_X10_isSlot : GoodIn wsX10_paste (va_wsS RX10 371 yX10_isSlot wsX10_isSlot) := goodIn_app (goodIn_of _ (by decide +kernel)) ggX10_paste_X10_isSlot
set_option maxRecDepth 20000 in
theorem ggL_law_X9_init : GoodIn wsL_law wsX9_init := goodIn_r _ [9, 10, 11, 12, 13, 14, 15, 16, 17, 18, 19, 20, 21, 22, 23, 24, 25, 26, 27, 28, 29, 30, 31, 32, 33, 34, 35, 36, 37, 38, 39, 40, 41, 42, 43, 44, 45, 46, 47, 48, 49, 50, 51, 52, 53, 54, 55, 56, 57, 58, 59, 60, 61, 62, 63, 64, 65, 66, 67, 68, 69, 70, 71, 72, 73, 74, 75, 76, 77, 78, 79, 80, 81, 82, 83, 84, 85, 86, 87, 88, 89, 90, 91, 92, 93, 94, 95, 96, 97, 98, 99, 100, 101, 102, 103, 104, 105, 106, 107, 108, 109, 110, 111, 112, 113, 114, 115, 116, 117, 118, 119, 120, 121, 122, 123, 124, 125, 126, 127, 128, 129, 130, 131, 132, 133, 134, 135, 136, 137, 138, 139, 1364, 1365, 1366, 1367, 1368, 1369, 1370, 1371, 1372, 1373, 1415, 1416, 1417, 1418, 1419, 1420, 1421, 1422, 1423, 1424, 1425, 1426, 1427, 1428, 1429, 1430, 1431, 1432, 1433, 1434, 1435, 1436, 1437, 1438, 1439, 1440, 1441, 1442, 1443, 1444, 1445, 1446, 1447, 1448, 1449, 1450, 1451, 1452, 1453, 1454, 1455, 1456, 1457, 1458, 1459, 1460, 1461, 1462, 1463, 1464, 1465, 1466, 1467, 1468, 1469, 1470, 1471, 1472, 1473, 1474, 1475, 1476, 1477, 1478, 1479, 1480, 1481, 1482, 1483, 1484, 1485, 1486, 1487, 1488, 1489, 1490, 1491, 1492, 1493, 1494, 1495, 1496, 1497, 1498, 1499] (by decide +kernel) (by decide +kernel)
set_option maxRecDepth 20000 in
theorem gL_law_X9_init : GoodIn wsL_law (wsX9_init) := ggL_law_X9_init
set_option maxRecDepth 20000 in
theorem ggL_law_X10_init : GoodIn wsL_law wsX10_init := goodIn_r _ [142, 143, 11, 12, 38, 144, 145, 146, 147, 13, 148, 149, 150, 151, 152, 153, 154, 155, 156, 157, 158, 159, 160, 161, 162, 163, 164, 165, 166, 167, 168, 169, 170, 138, 171, 172, 1374, 1375, 1376, 1377, 1378, 1379, 1380, 1381, 1382, 1383, 1384, 1385, 1386, 1387, 1388, 1389, 1390, 1391, 1392, 1393, 1394, 1395, 1396, 1397, 1398, 1399, 1400, 1401, 1402, 1403, 1404, 1405, 1406, 1407, 1408, 1409, 1410, 1411, 1412, 1413, 1414] (by decide +kernel) (by decide +kernel)
set_option maxRecDepth 20000 in
theorem gL_law_X10_init : GoodIn wsL_law (wsX10_init) := ggL_law_X10_init
set_option maxRecDepth 20000 in
theorem ggL_law_X9_feed : GoodIn wsL_law wsX9_feed := goodIn_r _ [176, 177, 178, 179, 180, 2, 181, 14, 1364, 1365, 1366, 1367, 1368, 1369, 1370, 1371, 1372, 1373] (by decide +kernel) (by decide +kernel)
set_option maxRecDepth 20000 in
theorem gL_law_X9_feed : GoodIn wsL_law (wsV RL 13 RX9 yX9_feed wsX9_feed) := goodIn_app (goodIn_of _ (by decide +kernel)) ggL_law_X9_feed
set_option maxRecDepth 20000 in
theorem ggL_law_X10_feed : GoodIn wsL_law wsX10_feed := goodIn_r _ [185, 186, 149, 148, 1374, 1375, 1376, 1377, 1378, 1379, 1380, 1381, 1382, 1383, 1384, 1385, 1386, 1387, 1388, 1389, 1390, 1391, 1392, 1393, 1394, 1395, 1396, 1397, 1398, 1399, 1400, 1401, 1402, 1403, 1404, 1405, 1406, 1407, 1408, 1409, 1410, 1411, 1412, 1413, 1414] (by decide +kernel) (by decide +kernel)
set_option maxRecDepth 20000 in
theorem gL_law_X10_feed : GoodIn wsL_law (wsV RL 17 RX10 yX10_feed wsX10_feed) := goodIn_app (goodIn_of _ (by decide +kernel)) ggL_law_X10_feed
set_option maxRecDepth 20000 in
theorem ggL_law_X9_end : GoodIn wsL_law wsX9_end := goodIn_r _ [190, 177, 1364, 1365, 1366, 1367, 1368, 1369, 1370, 1371, 1372, 1373] (by decide +kernel) (by decide +kernel)
set_option maxRecDepth 20000 in
theorem gL_law_X9_end : GoodIn wsL_law (wsV RL 18 RX9 yX9_end wsX9_end) := goodIn_app (goodIn_of _ (by decide +kernel)) ggL_law_X9_end
set_option maxRecDepth 20000 in
theorem ggL_law_X10_end : GoodIn wsL_law wsX10_end := goodIn_r _ [194, 186, 195, 196, 5, 197, 1374, 1375, 1376, 1377, 1378, 1379, 1380, 1381, 1382, 1383, 1384, 1385, 1386, 1387, 1388, 1389, 1390, 1391, 1392, 1393, 1394, 1395, 1396, 1397, 1398, 1399, 1400, 1401, 1402, 1403, 1404, 1405, 1406, 1407, 1408, 1409, 1410, 1411, 1412, 1413, 1414] (by decide +kernel) (by decide +kernel)
set_option maxRecDepth 20000 in
theorem gL_law_X10_end : GoodIn wsL_law (wsV RL 22 RX10 yX10_end wsX10_end) := goodIn_app (goodIn_of _ (by decide +kernel)) ggL_law_X10_end
set_option maxRecDepth 20000 in
theorem ggL_law_X9_town : GoodIn wsL_law wsX9_town := goodIn_r _ [201, 18, 14, 177, 202, 22, 203, 204, 205, 206, 207, 208, 209, 17, 210, 211, 212, 213, 214, 215, 216, 217, 218, 53, 48, 52, 219, 220, 221, 222, 47, 223, 224, 225, 57, 66, 226, 227, 228, 229, 230, 231, 232, 51, 233, 234, 235, 236, 237, 238, 239, 240, 241, 242, 243, 244, 245, 246, 247, 248, 249, 250, 251, 252, 253, 254, 255, 256, 257, 258, 259, 260, 261, 262, 263, 264, 265, 266, 267, 268, 269, 270, 271, 272, 273, 274, 275, 276, 277, 278, 279, 280, 281, 282, 283, 284, 285, 286, 287, 288, 289, 290, 291, 292, 293, 294, 295, 296, 297, 298, 299, 300, 301, 302, 303, 304, 305, 306, 307, 308, 309, 310, 311, 312, 313, 314, 315, 316, 317, 318, 319, 320, 321, 322, 323, 324, 325, 326, 327, 328, 329, 330, 331, 332, 333, 334, 335, 336, 337, 338, 75, 339, 340, 341, 342, 343, 344, 345, 346, 347, 348, 349, 350, 351, 352, 353, 354, 355, 356, 357, 358, 359, 360, 361, 362, 363, 364, 365, 366, 367, 368, 369, 21, 370, 81, 83, 85, 89, 371, 372, 90, 373, 374, 375, 376, 377, 378, 379, 380, 381, 382, 58, 383, 59, 60, 61, 62, 63, 64, 65, 384, 385, 386, 387, 70, 388, 71, 72, 73, 74, 389, 390, 391, 36, 392, 393, 100, 101, 394, 395, 396, 397, 2, 398, 29, 399, 33, 400, 1364, 1365, 1366, 1367, 1368, 1369, 1370, 1371, 1372, 1373, 1415, 1416, 1417, 1418, 1419, 1420, 1421, 1422, 1423, 1424, 1425, 1426, 1427, 1428, 1429, 1430, 1431, 1432, 1473, 1474, 1475, 1476, 1477, 1478, 1479, 1480, 1481, 1482, 1483, 1484, 1485, 1486, 1487, 1488, 1489, 1490, 1491, 1492, 1493, 1494, 1495, 1496, 1497, 1498, 1499, 1461, 1462, 1463, 1464, 1465, 1466, 1467, 1468, 1433, 1434, 1435, 1436, 1437, 1438, 1439, 1440, 1441, 1442, 1443, 1444, 1445, 1446, 1447, 1448, 1449, 1450, 1451, 1452, 1453, 1454, 1455, 1456, 1457, 1458, 1459, 1460] (by decide +kernel) (by decide +kernel)
set_option maxRecDepth 20000 in
theorem gL_law_X9_town : GoodIn wsL_law (wsV RL 23 RX9 yX9_town wsX9_town) := goodIn_app (goodIn_of _ (by decide +kernel)) ggL_law_X9_town
set_option maxRecDepth 20000 in
theorem ggL_law_X10_town : GoodIn wsL_law wsX10_town := goodIn_r _ [404, 186, 405, 406, 407, 150, 151, 408, 144, 409, 410, 411, 5, 412, 413, 414, 415, 416, 417, 418, 419, 213, 214, 215, 420, 421, 422, 423, 148, 195, 196, 197, 424, 425, 426, 427, 428, 429, 430, 431, 432, 433, 434, 435, 436, 437, 438, 439, 440, 256, 257, 258, 259, 260, 261, 262, 263, 264, 265, 266, 441, 268, 269, 270, 271, 272, 273, 274, 275, 276, 277, 278, 279, 280, 281, 282, 283, 284, 285, 286, 287, 288, 289, 290, 291, 292, 293, 294, 295, 296, 297, 298, 299, 300, 301, 302, 303, 442, 443, 444, 445, 446, 447, 448, 449, 450, 451, 452, 453, 454, 455, 456, 457, 458, 459, 460, 461, 462, 463, 464, 465, 466, 467, 468, 469, 470, 471, 472, 473, 474, 475, 476, 477, 478, 479, 480, 481, 482, 483, 484, 485, 486, 487, 488, 489, 490, 491, 492, 493, 494, 495, 496, 497, 1374, 1375, 1376, 1377, 1378, 1379, 1380, 1381, 1382, 1383, 1384, 1385, 1386, 1387, 1388, 1389, 1390, 1391, 1392, 1393, 1394, 1395, 1396, 1397, 1398, 1399, 1400, 1401, 1402, 1403, 1404, 1405, 1406, 1407, 1408, 1409, 1410, 1411, 1412, 1413, 1414] (by decide +kernel) (by decide +kernel)
set_option maxRecDepth 20000 in
theorem gL_law_X10_town : GoodIn wsL_law (wsV RL 27 RX10 yX10_town wsX10_town) := goodIn_app (goodIn_of _ (by decide +kernel)) ggL_law_X10_town
set_option maxRecDepth 20000 in
theorem ggL_law_X9_fault : GoodIn wsL_law wsX9_fault := goodIn_r _ [501, 18, 202, 502, 1364, 1365, 1366, 1367, 1368, 1369, 1370, 1371, 1372, 1373, 1415, 1416, 1417, 1418, 1419, 1420, 1421, 1422, 1423, 1424] (by decide +kernel) (by decide +kernel)
set_option maxRecDepth 20000 in
theorem gL_law_X9_fault : GoodIn wsL_law (wsV RL 28 RX9 yX9_fault wsX9_fault) := goodIn_app (goodIn_of _ (by decide +kernel)) ggL_law_X9_fault
set_option maxRecDepth 20000 in
theorem ggL_law_X10_fault : GoodIn wsL_law wsX10_fault := goodIn_r _ [506, 407, 150, 1374, 1375, 1376, 1377, 1378, 1379, 1380, 1381, 1382, 1383, 1384, 1385, 1386, 1387, 1388, 1389, 1390, 1391, 1392, 1393, 1394, 1395, 1396, 1397, 1398, 1399, 1400, 1401, 1402, 1403, 1404, 1405, 1406, 1407, 1408, 1409, 1410, 1411, 1412, 1413, 1414] (by decide +kernel) (by decide +kernel)
set_option maxRecDepth 20000 in
theorem gL_law_X10_fault : GoodIn wsL_law (wsV RL 31 RX10 yX10_fault wsX10_fault) := goodIn_app (goodIn_of _ (by decide +kernel)) ggL_law_X10_fault
set_option maxRecDepth 20000 in
theorem ggL_law_X9_days : GoodIn wsL_law wsX9_days := goodIn_r _ [510, 22, 511, 395, 396, 397, 2, 398, 29, 399, 33, 400, 1364, 1365, 1366, 1367, 1368, 1369, 1370, 1371, 1372, 1373, 1425, 1426, 1427, 1428, 1429, 1430, 1431, 1432, 1433, 1434, 1435, 1436, 1437, 1438, 1439, 1440, 1441, 1442, 1443, 1444, 1445, 1446, 1447, 1448, 1449, 1450, 1451, 1452, 1453, 1454, 1455, 1456, 1457, 1458, 1459, 1460] (by decide +kernel) (by decide +kernel)
set_option maxRecDepth 20000 in
theorem gL_law_X9_days : GoodIn wsL_law (wsV RL 32 RX9 yX9_days wsX9_days) := goodIn_app (goodIn_of _ (by decide +kernel)) ggL_law_X9_days
set_option maxRecDepth 20000 in
theorem ggL_law_X10_days : GoodIn wsL_law wsX10_days := goodIn_r _ [515, 516, 144, 195, 196, 5, 197, 517, 518, 519, 520, 1374, 1375, 1376, 1377, 1378, 1379, 1380, 1381, 1382, 1383, 1384, 1385, 1386, 1387, 1388, 1389, 1390, 1391, 1392, 1393, 1394, 1395, 1396, 1397, 1398, 1399, 1400, 1401, 1402, 1403, 1404, 1405, 1406, 1407, 1408, 1409, 1410, 1411, 1412, 1413, 1414] (by decide +kernel) (by decide +kernel)
set_option maxRecDepth 20000 in
theorem gL_law_X10_days : GoodIn wsL_law (wsV RL 35 RX10 yX10_days wsX10_days) := goodIn_app (goodIn_of _ (by decide +kernel)) ggL_law_X10_days
set_option maxRecDepth 20000 in
theorem ggL_law_X9_bars : GoodIn wsL_law wsX9_bars := goodIn_r _ [524, 22, 525, 526, 527, 2, 528, 205, 529, 530, 531, 47, 532, 533, 534, 535, 536, 224, 537, 538, 539, 21, 540, 81, 377, 541, 542, 543, 544, 545, 64, 546, 547, 548, 549, 90, 550, 551, 552, 553, 554, 555, 556, 557, 558, 225, 559, 560, 561, 562, 563, 564, 565, 566, 567, 568, 569, 65, 1364, 1365, 1366, 1367, 1368, 1369, 1370, 1371, 1372, 1373, 1425, 1426, 1427, 1428, 1429, 1430, 1431, 1432, 1473, 1474, 1475, 1476, 1477, 1478, 1479, 1480, 1481, 1482, 1483, 1484] (by decide +kernel) (by decide +kernel)
set_option maxRecDepth 20000 in
theorem gL_law_X9_bars : GoodIn wsL_law (wsV RL 36 RX9 yX9_bars wsX9_bars) := goodIn_app (goodIn_of _ (by decide +kernel)) ggL_law_X9_bars
set_option maxRecDepth 20000 in
theorem ggL_law_X10_bars : GoodIn wsL_law wsX10_bars := goodIn_r _ [573, 574, 575, 576, 5, 577, 578, 579, 580, 581, 144, 195, 196, 197, 582, 583, 584, 585, 586, 587, 588, 589, 517, 518, 519, 520, 590, 591, 592, 593, 494, 495, 496, 497, 594, 595, 596, 597, 598, 599, 600, 601, 602, 603, 604, 605, 606, 607, 608, 609, 610, 611, 1374, 1375, 1376, 1377, 1378, 1379, 1380, 1381, 1382, 1383, 1384, 1385, 1386, 1387, 1388, 1389, 1390, 1391, 1392, 1393, 1394, 1395, 1396, 1397, 1398, 1399, 1400, 1401, 1402, 1403, 1404, 1405, 1406, 1407, 1408, 1409, 1410, 1411, 1412, 1413, 1414] (by decide +kernel) (by decide +kernel)
set_option maxRecDepth 20000 in
theorem gL_law_X10_bars : GoodIn wsL_law (wsV RL 40 RX10 yX10_bars wsX10_bars) := goodIn_app (goodIn_of _ (by decide +kernel)) ggL_law_X10_bars
set_option maxRecDepth 20000 in
theorem ggL_law_X9_does : GoodIn wsL_law wsX9_does := goodIn_r _ [615, 22, 616, 525, 526, 527, 2, 528, 205, 529, 530, 531, 47, 532, 533, 534, 535, 536, 224, 537, 538, 539, 21, 540, 81, 377, 541, 542, 543, 544, 545, 64, 546, 547, 548, 549, 90, 550, 551, 552, 553, 554, 555, 556, 557, 558, 225, 559, 560, 561, 562, 563, 564, 565, 566, 567, 568, 569, 65, 617, 618, 619, 88, 620, 621, 395, 396, 397, 398, 29, 399, 33, 400, 622, 623, 624, 625, 85, 83, 378, 89, 626, 627, 628, 629, 630, 631, 632, 633, 634, 213, 214, 215, 635, 636, 637, 36, 638, 393, 95, 96, 97, 100, 101, 639, 640, 641, 642, 643, 644, 645, 646, 98, 99, 647, 648, 649, 51, 650, 76, 234, 70, 651, 652, 653, 654, 74, 655, 656, 73, 75, 657, 658, 659, 660, 661, 662, 663, 664, 665, 666, 667, 668, 669, 670, 671, 672, 673, 674, 675, 676, 677, 678, 679, 680, 681, 105, 106, 107, 108, 682, 683, 684, 1364, 1365, 1366, 1367, 1368, 1369, 1370, 1371, 1372, 1373, 1425, 1426, 1427, 1428, 1429, 1430, 1431, 1432, 1473, 1474, 1475, 1476, 1477, 1478, 1479, 1480, 1481, 1482, 1483, 1484, 1495, 1496, 1497, 1498, 1499, 1433, 1434, 1435, 1436, 1437, 1438, 1439, 1440, 1441, 1442, 1443, 1444, 1445, 1446, 1447, 1448, 1449, 1450, 1451, 1452, 1453, 1454, 1455, 1456, 1457, 1458, 1459, 1460, 1461, 1462, 1463, 1464, 1465, 1466, 1467, 1468, 1485, 1486, 1487, 1488, 1489, 1490, 1491, 1492, 1493, 1494] (by decide +kernel) (by decide +kernel)
set_option maxRecDepth 20000 in
theorem gL_law_X9_does : GoodIn wsL_law (wsV RL 41 RX9 yX9_does wsX9_does) := goodIn_app (goodIn_of _ (by decide +kernel)) ggL_law_X9_does
set_option maxRecDepth 20000 in
theorem ggL_law_X10_does : GoodIn wsL_law wsX10_does := goodIn_r _ [688, 144, 574, 575, 576, 5, 577, 578, 579, 580, 581, 195, 196, 197, 582, 583, 584, 585, 586, 587, 588, 589, 517, 518, 519, 520, 590, 591, 592, 593, 494, 495, 496, 497, 594, 595, 596, 597, 598, 599, 600, 601, 602, 603, 604, 605, 606, 607, 608, 609, 610, 611, 689, 690, 691, 692, 693, 694, 695, 696, 419, 213, 214, 215, 697, 698, 699, 700, 701, 702, 703, 704, 705, 706, 707, 708, 709, 710, 711, 712, 713, 714, 715, 716, 152, 717, 718, 719, 720, 721, 722, 723, 724, 725, 726, 727, 728, 729, 730, 731, 732, 733, 734, 735, 736, 737, 738, 1374, 1375, 1376, 1377, 1378, 1379, 1380, 1381, 1382, 1383, 1384, 1385, 1386, 1387, 1388, 1389, 1390, 1391, 1392, 1393, 1394, 1395, 1396, 1397, 1398, 1399, 1400, 1401, 1402, 1403, 1404, 1405, 1406, 1407, 1408, 1409, 1410, 1411, 1412, 1413, 1414] (by decide +kernel) (by decide +kernel)
set_option maxRecDepth 20000 in
theorem gL_law_X10_does : GoodIn wsL_law (wsV RL 44 RX10 yX10_does wsX10_does) := goodIn_app (goodIn_of _ (by decide +kernel)) ggL_law_X10_does
set_option maxRecDepth 20000 in
theorem ggL_law_X9_meet : GoodIn wsL_law wsX9_meet := goodIn_r _ [742, 22, 205, 616, 529, 530, 531, 47, 532, 533, 534, 535, 536, 224, 617, 618, 619, 88, 620, 621, 395, 396, 397, 2, 398, 29, 399, 33, 400, 743, 744, 745, 21, 746, 90, 89, 377, 551, 552, 553, 554, 682, 683, 684, 678, 679, 680, 681, 105, 106, 107, 108, 1364, 1365, 1366, 1367, 1368, 1369, 1370, 1371, 1372, 1373, 1425, 1426, 1427, 1428, 1429, 1430, 1431, 1432, 1473, 1474, 1475, 1476, 1477, 1478, 1479, 1480, 1481, 1482, 1483, 1484, 1495, 1496, 1497, 1498, 1499, 1433, 1434, 1435, 1436, 1437, 1438, 1439, 1440, 1441, 1442, 1443, 1444, 1445, 1446, 1447, 1448, 1449, 1450, 1451, 1452, 1453, 1454, 1455, 1456, 1457, 1458, 1459, 1460] (by decide +kernel) (by decide +kernel)
set_option maxRecDepth 20000 in
theorem gL_law_X9_meet : GoodIn wsL_law (wsV RL 45 RX9 yX9_meet wsX9_meet) := goodIn_app (goodIn_of _ (by decide +kernel)) ggL_law_X9_meet
set_option maxRecDepth 20000 in
theorem ggL_law_X10_meet : GoodIn wsL_law wsX10_meet := goodIn_r _ [750, 144, 574, 575, 576, 5, 577, 578, 579, 580, 581, 195, 196, 197, 594, 595, 596, 597, 598, 599, 600, 689, 690, 691, 692, 517, 518, 519, 520, 693, 694, 695, 696, 419, 213, 214, 215, 697, 698, 699, 700, 701, 702, 703, 704, 705, 706, 707, 708, 709, 710, 711, 712, 713, 714, 715, 716, 152, 494, 495, 496, 497, 717, 718, 719, 720, 721, 722, 723, 724, 725, 726, 727, 728, 729, 730, 731, 732, 733, 734, 735, 736, 737, 738, 1374, 1375, 1376, 1377, 1378, 1379, 1380, 1381, 1382, 1383, 1384, 1385, 1386, 1387, 1388, 1389, 1390, 1391, 1392, 1393, 1394, 1395, 1396, 1397, 1398, 1399, 1400, 1401, 1402, 1403, 1404, 1405, 1406, 1407, 1408, 1409, 1410, 1411, 1412, 1413, 1414] (by decide +kernel) (by decide +kernel)
set_option maxRecDepth 20000 in
theorem gL_law_X10_meet : GoodIn wsL_law (wsV RL 49 RX10 yX10_meet wsX10_meet) := goodIn_app (goodIn_of _ (by decide +kernel)) ggL_law_X10_meet
set_option maxRecDepth 20000 in
theorem ggL_law_X9_done : GoodIn wsL_law wsX9_done := goodIn_r _ [754, 25, 755, 756, 757, 758, 2, 759, 760, 761, 762, 41, 763, 764, 139, 765, 766, 740, 741, 742, 22, 205, 616, 529, 530, 531, 47, 532, 533, 534, 535, 536, 224, 617, 618, 619, 88, 620, 621, 395, 396, 397, 398, 29, 399, 33, 400, 743, 744, 745, 21, 746, 90, 89, 377, 551, 552, 553, 554, 682, 683, 684, 678, 679, 680, 681, 105, 106, 107, 108, 767, 613, 614, 615, 525, 526, 527, 528, 537, 538, 539, 540, 81, 541, 542, 543, 544, 545, 64, 546, 547, 548, 549, 550, 555, 556, 557, 558, 225, 559, 560, 561, 562, 563, 564, 565, 566, 567, 568, 569, 65, 622, 623, 624, 625, 85, 83, 378, 626, 627, 628, 629, 630, 631, 632, 633, 634, 213, 214, 215, 635, 636, 637, 36, 638, 393, 95, 96, 97, 100, 101, 639, 640, 641, 642, 643, 644, 645, 646, 98, 99, 647, 648, 649, 51, 650, 76, 234, 70, 651, 652, 653, 654, 74, 655, 656, 73, 75, 657, 658, 659, 660, 661, 662, 663, 664, 665, 666, 667, 668, 669, 670, 671, 672, 673, 674, 675, 676, 677, 1364, 1365, 1366, 1367, 1368, 1369, 1370, 1371, 1372, 1373, 1469, 1470, 1471, 1472, 1425, 1426, 1427, 1428, 1429, 1430, 1431, 1432, 1473, 1474, 1475, 1476, 1477, 1478, 1479, 1480, 1481, 1482, 1483, 1484, 1495, 1496, 1497, 1498, 1499, 1433, 1434, 1435, 1436, 1437, 1438, 1439, 1440, 1441, 1442, 1443, 1444, 1445, 1446, 1447, 1448, 1449, 1450, 1451, 1452, 1453, 1454, 1455, 1456, 1457, 1458, 1459, 1460, 1461, 1462, 1463, 1464, 1465, 1466, 1467, 1468, 1485, 1486, 1487, 1488, 1489, 1490, 1491, 1492, 1493, 1494] (by decide +kernel) (by decide +kernel)
set_option maxRecDepth 20000 in
theorem gL_law_X9_done : GoodIn wsL_law (wsV RL 50 RX9 yX9_done wsX9_done) := goodIn_app (goodIn_of _ (by decide +kernel)) ggL_law_X9_done
set_option maxRecDepth 20000 in
theorem ggL_law_X10_done : GoodIn wsL_law wsX10_done := goodIn_r _ [771, 169, 171, 772, 773, 774, 775, 5, 776, 585, 195, 196, 197, 777, 748, 749, 750, 144, 574, 575, 576, 577, 578, 579, 580, 581, 594, 595, 596, 597, 598, 599, 600, 689, 690, 691, 692, 517, 518, 519, 520, 693, 694, 695, 696, 419, 213, 214, 215, 697, 698, 699, 700, 701, 702, 703, 704, 705, 706, 707, 708, 709, 710, 711, 712, 713, 714, 715, 716, 152, 494, 495, 496, 497, 717, 718, 719, 720, 721, 722, 723, 724, 725, 726, 727, 728, 729, 730, 731, 732, 733, 734, 735, 736, 737, 738, 778, 686, 687, 688, 582, 583, 584, 586, 587, 588, 589, 590, 591, 592, 593, 601, 602, 603, 604, 605, 606, 607, 608, 609, 610, 611, 1374, 1375, 1376, 1377, 1378, 1379, 1380, 1381, 1382, 1383, 1384, 1385, 1386, 1387, 1388, 1389, 1390, 1391, 1392, 1393, 1394, 1395, 1396, 1397, 1398, 1399, 1400, 1401, 1402, 1403, 1404, 1405, 1406, 1407, 1408, 1409, 1410, 1411, 1412, 1413, 1414] (by decide +kernel) (by decide +kernel)
set_option maxRecDepth 20000 in
theorem gL_law_X10_done : GoodIn wsL_law (wsV RL 53 RX10 yX10_done wsX10_done) := goodIn_app (goodIn_of _ (by decide +kernel)) ggL_law_X10_done
set_option maxRecDepth 20000 in
theorem ggL_law_X9_known : GoodIn wsL_law wsX9_known := goodIn_r _ [782, 22, 205, 529, 530, 531, 47, 532, 533, 534, 535, 536, 224, 783, 552, 553, 21, 554, 90, 1364, 1365, 1366, 1367, 1368, 1369, 1370, 1371, 1372, 1373, 1425, 1426, 1427, 1428, 1429, 1430, 1431, 1432, 1473, 1474, 1475, 1476, 1477, 1478, 1479, 1480, 1481, 1482, 1483, 1484] (by decide +kernel) (by decide +kernel)
set_option maxRecDepth 20000 in
theorem gL_law_X9_known : GoodIn wsL_law (wsV RL 54 RX9 yX9_known wsX9_known) := goodIn_app (goodIn_of _ (by decide +kernel)) ggL_law_X9_known
set_option maxRecDepth 20000 in
theorem ggL_law_X10_known : GoodIn wsL_law wsX10_known := goodIn_r _ [787, 574, 575, 576, 5, 577, 578, 579, 580, 581, 144, 195, 196, 197, 594, 595, 596, 597, 598, 599, 600, 1374, 1375, 1376, 1377, 1378, 1379, 1380, 1381, 1382, 1383, 1384, 1385, 1386, 1387, 1388, 1389, 1390, 1391, 1392, 1393, 1394, 1395, 1396, 1397, 1398, 1399, 1400, 1401, 1402, 1403, 1404, 1405, 1406, 1407, 1408, 1409, 1410, 1411, 1412, 1413, 1414] (by decide +kernel) (by decide +kernel)
set_option maxRecDepth 20000 in
theorem gL_law_X10_known : GoodIn wsL_law (wsV RL 57 RX10 yX10_known wsX10_known) := goodIn_app (goodIn_of _ (by decide +kernel)) ggL_law_X10_known
set_option maxRecDepth 20000 in
theorem ggL_law_X9_debts : GoodIn wsL_law wsX9_debts := goodIn_r _ [791, 22, 205, 792, 793, 794, 534, 535, 47, 536, 224, 1364, 1365, 1366, 1367, 1368, 1369, 1370, 1371, 1372, 1373, 1425, 1426, 1427, 1428, 1429, 1430, 1431, 1432, 1461, 1462, 1463, 1464, 1465, 1466, 1467, 1468, 1473, 1474, 1475, 1476, 1477, 1478, 1479, 1480, 1481, 1482, 1483, 1484] (by decide +kernel) (by decide +kernel)
set_option maxRecDepth 20000 in
theorem gL_law_X9_debts : GoodIn wsL_law (wsV RL 58 RX9 yX9_debts wsX9_debts) := goodIn_app (goodIn_of _ (by decide +kernel)) ggL_law_X9_debts
set_option maxRecDepth 20000 in
theorem ggL_law_X10_debts : GoodIn wsL_law wsX10_debts := goodIn_r _ [798, 578, 579, 580, 5, 581, 144, 195, 196, 197, 717, 718, 719, 720, 705, 706, 707, 708, 1374, 1375, 1376, 1377, 1378, 1379, 1380, 1381, 1382, 1383, 1384, 1385, 1386, 1387, 1388, 1389, 1390, 1391, 1392, 1393, 1394, 1395, 1396, 1397, 1398, 1399, 1400, 1401, 1402, 1403, 1404, 1405, 1406, 1407, 1408, 1409, 1410, 1411, 1412, 1413, 1414] (by decide +kernel) (by decide +kernel)
set_option maxRecDepth 20000 in
theorem gL_law_X10_debts : GoodIn wsL_law (wsV RL 61 RX10 yX10_debts wsX10_debts) := goodIn_app (goodIn_of _ (by decide +kernel)) ggL_law_X10_debts
set_option maxRecDepth 20000 in
theorem ggL_law_X9_debt : GoodIn wsL_law wsX9_debt := goodIn_r _ [802, 22, 205, 792, 803, 804, 805, 806, 794, 534, 535, 47, 536, 224, 807, 808, 809, 36, 810, 100, 393, 95, 1364, 1365, 1366, 1367, 1368, 1369, 1370, 1371, 1372, 1373, 1425, 1426, 1427, 1428, 1429, 1430, 1431, 1432, 1461, 1462, 1463, 1464, 1465, 1466, 1467, 1468, 1473, 1474, 1475, 1476, 1477, 1478, 1479, 1480, 1481, 1482, 1483, 1484] (by decide +kernel) (by decide +kernel)
set_option maxRecDepth 20000 in
theorem gL_law_X9_debt : GoodIn wsL_law (wsV RL 62 RX9 yX9_debt wsX9_debt) := goodIn_app (goodIn_of _ (by decide +kernel)) ggL_law_X9_debt
set_option maxRecDepth 20000 in
theorem ggL_law_X10_debt : GoodIn wsL_law wsX10_debt := goodIn_r _ [814, 585, 578, 579, 580, 5, 581, 144, 195, 196, 197, 815, 816, 817, 818, 705, 706, 707, 708, 1374, 1375, 1376, 1377, 1378, 1379, 1380, 1381, 1382, 1383, 1384, 1385, 1386, 1387, 1388, 1389, 1390, 1391, 1392, 1393, 1394, 1395, 1396, 1397, 1398, 1399, 1400, 1401, 1402, 1403, 1404, 1405, 1406, 1407, 1408, 1409, 1410, 1411, 1412, 1413, 1414] (by decide +kernel) (by decide +kernel)
set_option maxRecDepth 20000 in
theorem gL_law_X10_debt : GoodIn wsL_law (wsV RL 65 RX10 yX10_debt wsX10_debt) := goodIn_app (goodIn_of _ (by decide +kernel)) ggL_law_X10_debt
set_option maxRecDepth 20000 in
theorem ggL_law_X9_slights : GoodIn wsL_law wsX9_slights := goodIn_r _ [822, 22, 205, 792, 511, 794, 534, 535, 47, 536, 224, 823, 824, 825, 36, 826, 393, 96, 98, 1364, 1365, 1366, 1367, 1368, 1369, 1370, 1371, 1372, 1373, 1425, 1426, 1427, 1428, 1429, 1430, 1431, 1432, 1473, 1474, 1475, 1476, 1477, 1478, 1479, 1480, 1481, 1482, 1483, 1484, 1461, 1462, 1463, 1464, 1465, 1466, 1467, 1468] (by decide +kernel) (by decide +kernel)
set_option maxRecDepth 20000 in
theorem gL_law_X9_slights : GoodIn wsL_law (wsV RL 66 RX9 yX9_slights wsX9_slights) := goodIn_app (goodIn_of _ (by decide +kernel)) ggL_law_X9_slights
set_option maxRecDepth 20000 in
theorem ggL_law_X10_slights : GoodIn wsL_law wsX10_slights := goodIn_r _ [830, 578, 579, 580, 5, 581, 144, 195, 196, 197, 831, 832, 833, 834, 705, 706, 707, 708, 517, 518, 519, 520, 1374, 1375, 1376, 1377, 1378, 1379, 1380, 1381, 1382, 1383, 1384, 1385, 1386, 1387, 1388, 1389, 1390, 1391, 1392, 1393, 1394, 1395, 1396, 1397, 1398, 1399, 1400, 1401, 1402, 1403, 1404, 1405, 1406, 1407, 1408, 1409, 1410, 1411, 1412, 1413, 1414] (by decide +kernel) (by decide +kernel)
set_option maxRecDepth 20000 in
theorem gL_law_X10_slights : GoodIn wsL_law (wsV RL 69 RX10 yX10_slights wsX10_slights) := goodIn_app (goodIn_of _ (by decide +kernel)) ggL_law_X10_slights
set_option maxRecDepth 20000 in
theorem ggL_law_X9_first : GoodIn wsL_law wsX9_first := goodIn_r _ [838, 22, 205, 206, 792, 511, 839, 823, 824, 825, 36, 826, 393, 96, 98, 1364, 1365, 1366, 1367, 1368, 1369, 1370, 1371, 1372, 1373, 1425, 1426, 1427, 1428, 1429, 1430, 1431, 1432, 1473, 1474, 1475, 1476, 1477, 1478, 1479, 1480, 1481, 1482, 1483, 1484, 1461, 1462, 1463, 1464, 1465, 1466, 1467, 1468] (by decide +kernel) (by decide +kernel)
set_option maxRecDepth 20000 in
theorem gL_law_X9_first : GoodIn wsL_law (wsV RL 70 RX9 yX9_first wsX9_first) := goodIn_app (goodIn_of _ (by decide +kernel)) ggL_law_X9_first
set_option maxRecDepth 20000 in
theorem ggL_law_X10_first : GoodIn wsL_law wsX10_first := goodIn_r _ [843, 144, 831, 832, 833, 5, 834, 705, 706, 707, 708, 517, 518, 519, 520, 494, 495, 496, 497, 1374, 1375, 1376, 1377, 1378, 1379, 1380, 1381, 1382, 1383, 1384, 1385, 1386, 1387, 1388, 1389, 1390, 1391, 1392, 1393, 1394, 1395, 1396, 1397, 1398, 1399, 1400, 1401, 1402, 1403, 1404, 1405, 1406, 1407, 1408, 1409, 1410, 1411, 1412, 1413, 1414] (by decide +kernel) (by decide +kernel)
set_option maxRecDepth 20000 in
theorem gL_law_X10_first : GoodIn wsL_law (wsV RL 73 RX10 yX10_first wsX10_first) := goodIn_app (goodIn_of _ (by decide +kernel)) ggL_law_X10_first
set_option maxRecDepth 20000 in
theorem ggL_law_X9_owes : GoodIn wsL_law wsX9_owes := goodIn_r _ [847, 22, 525, 526, 527, 2, 528, 205, 529, 530, 531, 47, 532, 533, 534, 535, 536, 224, 848, 849, 850, 21, 851, 83, 81, 630, 85, 631, 377, 632, 551, 552, 553, 554, 90, 647, 648, 649, 51, 650, 76, 234, 70, 651, 652, 653, 654, 74, 655, 213, 214, 215, 656, 73, 75, 657, 658, 659, 660, 661, 662, 663, 664, 665, 666, 667, 668, 669, 670, 671, 672, 673, 640, 641, 36, 642, 101, 1364, 1365, 1366, 1367, 1368, 1369, 1370, 1371, 1372, 1373, 1425, 1426, 1427, 1428, 1429, 1430, 1431, 1432, 1473, 1474, 1475, 1476, 1477, 1478, 1479, 1480, 1481, 1482, 1483, 1484, 1461, 1462, 1463, 1464, 1465, 1466, 1467, 1468, 1485, 1486, 1487, 1488, 1489, 1490, 1491, 1492, 1493, 1494] (by decide +kernel) (by decide +kernel)
set_option maxRecDepth 20000 in
theorem gL_law_X9_owes : GoodIn wsL_law (wsV RL 74 RX9 yX9_owes wsX9_owes) := goodIn_app (goodIn_of _ (by decide +kernel)) ggL_law_X9_owes
set_option maxRecDepth 20000 in
theorem ggL_law_X10_owes : GoodIn wsL_law wsX10_owes := goodIn_r _ [855, 144, 574, 575, 576, 5, 577, 578, 579, 580, 581, 195, 196, 197, 582, 583, 584, 585, 594, 595, 596, 597, 598, 599, 600, 517, 518, 519, 520, 713, 714, 715, 716, 152, 494, 495, 496, 497, 717, 718, 719, 720, 705, 706, 707, 708, 721, 722, 723, 724, 725, 726, 727, 728, 729, 730, 731, 732, 733, 734, 1374, 1375, 1376, 1377, 1378, 1379, 1380, 1381, 1382, 1383, 1384, 1385, 1386, 1387, 1388, 1389, 1390, 1391, 1392, 1393, 1394, 1395, 1396, 1397, 1398, 1399, 1400, 1401, 1402, 1403, 1404, 1405, 1406, 1407, 1408, 1409, 1410, 1411, 1412, 1413, 1414] (by decide +kernel) (by decide +kernel)
set_option maxRecDepth 20000 in
theorem gL_law_X10_owes : GoodIn wsL_law (wsV RL 77 RX10 yX10_owes wsX10_owes) := goodIn_app (goodIn_of _ (by decide +kernel)) ggL_law_X10_owes
set_option maxRecDepth 20000 in
theorem ggL_law_X9_worth : GoodIn wsL_law wsX9_worth := goodIn_r _ [859, 29, 22, 860, 861, 862, 863, 2, 864, 205, 511, 794, 534, 535, 47, 536, 224, 865, 866, 867, 28, 868, 869, 113, 114, 870, 871, 872, 873, 115, 874, 875, 640, 641, 36, 642, 101, 876, 877, 878, 879, 120, 880, 881, 882, 883, 117, 884, 118, 885, 119, 886, 887, 888, 889, 890, 891, 892, 58, 893, 894, 214, 895, 59, 896, 897, 898, 899, 900, 901, 902, 903, 904, 905, 906, 907, 122, 121, 908, 213, 215, 909, 910, 911, 912, 913, 914, 915, 916, 917, 918, 919, 920, 921, 922, 923, 924, 123, 925, 926, 561, 927, 928, 929, 930, 931, 932, 933, 934, 935, 936, 937, 938, 939, 940, 941, 942, 943, 944, 112, 1364, 1365, 1366, 1367, 1368, 1369, 1370, 1371, 1372, 1373, 1433, 1434, 1435, 1436, 1437, 1438, 1439, 1440, 1441, 1442, 1443, 1444, 1445, 1446, 1447, 1448, 1449, 1425, 1426, 1427, 1428, 1429, 1430, 1431, 1432, 1473, 1474, 1475, 1476, 1477, 1478, 1479, 1480, 1481, 1482, 1483, 1484, 1461, 1462, 1463, 1464, 1465, 1466, 1467, 1468] (by decide +kernel) (by decide +kernel)
set_option maxRecDepth 20000 in
theorem gL_law_X9_worth : GoodIn wsL_law (wsV RL 78 RX9 yX9_worth wsX9_worth) := goodIn_app (goodIn_of _ (by decide +kernel)) ggL_law_X9_worth
set_option maxRecDepth 20000 in
theorem ggL_law_X10_worth : GoodIn wsL_law wsX10_worth := goodIn_r _ [948, 949, 950, 951, 952, 5, 953, 954, 578, 579, 580, 581, 144, 195, 196, 197, 517, 518, 519, 520, 955, 956, 957, 958, 959, 960, 961, 154, 153, 962, 963, 964, 965, 966, 967, 968, 969, 155, 705, 706, 707, 708, 970, 971, 972, 973, 156, 598, 599, 600, 974, 975, 976, 977, 978, 918, 214, 919, 979, 980, 981, 982, 983, 894, 895, 494, 495, 496, 497, 984, 985, 986, 987, 1374, 1375, 1376, 1377, 1378, 1379, 1380, 1381, 1382, 1383, 1384, 1385, 1386, 1387, 1388, 1389, 1390, 1391, 1392, 1393, 1394, 1395, 1396, 1397, 1398, 1399, 1400, 1401, 1402, 1403, 1404, 1405, 1406, 1407, 1408, 1409, 1410, 1411, 1412, 1413, 1414] (by decide +kernel) (by decide +kernel)
set_option maxRecDepth 20000 in
theorem gL_law_X10_worth : GoodIn wsL_law (wsV RL 81 RX10 yX10_worth wsX10_worth) := goodIn_app (goodIn_of _ (by decide +kernel)) ggL_law_X10_worth
set_option maxRecDepth 20000 in
theorem ggL_law_X9_round : GoodIn wsL_law wsX9_round := goodIn_r _ [991, 29, 22, 992, 993, 861, 862, 863, 2, 864, 205, 511, 794, 534, 535, 47, 536, 224, 865, 866, 867, 28, 868, 869, 113, 114, 870, 871, 872, 873, 115, 874, 875, 640, 641, 36, 642, 101, 876, 877, 878, 879, 120, 880, 881, 882, 883, 117, 884, 118, 885, 119, 886, 887, 888, 889, 890, 891, 892, 58, 893, 894, 214, 895, 59, 896, 897, 898, 899, 900, 901, 902, 903, 904, 905, 906, 907, 122, 121, 908, 213, 215, 909, 910, 911, 912, 913, 914, 915, 916, 917, 918, 919, 920, 921, 922, 923, 924, 123, 925, 926, 561, 927, 928, 929, 930, 931, 932, 933, 934, 935, 936, 937, 938, 939, 940, 941, 942, 943, 944, 112, 1364, 1365, 1366, 1367, 1368, 1369, 1370, 1371, 1372, 1373, 1433, 1434, 1435, 1436, 1437, 1438, 1439, 1440, 1441, 1442, 1443, 1444, 1445, 1446, 1447, 1448, 1449, 1425, 1426, 1427, 1428, 1429, 1430, 1431, 1432, 1473, 1474, 1475, 1476, 1477, 1478, 1479, 1480, 1481, 1482, 1483, 1484, 1461, 1462, 1463, 1464, 1465, 1466, 1467, 1468] (by decide +kernel) (by decide +kernel)
set_option maxRecDepth 20000 in
theorem gL_law_X9_round : GoodIn wsL_law (wsV RL 82 RX9 yX9_round wsX9_round) := goodIn_app (goodIn_of _ (by decide +kernel)) ggL_law_X9_round
set_option maxRecDepth 20000 in
theorem ggL_law_X10_round : GoodIn wsL_law wsX10_round := goodIn_r _ [997, 960, 157, 950, 951, 952, 5, 953, 954, 578, 579, 580, 581, 144, 195, 196, 197, 517, 518, 519, 520, 955, 956, 957, 958, 959, 961, 949, 154, 153, 962, 963, 964, 965, 966, 967, 968, 969, 155, 705, 706, 707, 708, 970, 971, 972, 973, 156, 598, 599, 600, 974, 975, 976, 977, 978, 918, 214, 919, 979, 980, 981, 982, 983, 894, 895, 494, 495, 496, 497, 984, 985, 986, 987, 609, 610, 611, 998, 999, 1000, 1001, 1374, 1375, 1376, 1377, 1378, 1379, 1380, 1381, 1382, 1383, 1384, 1385, 1386, 1387, 1388, 1389, 1390, 1391, 1392, 1393, 1394, 1395, 1396, 1397, 1398, 1399, 1400, 1401, 1402, 1403, 1404, 1405, 1406, 1407, 1408, 1409, 1410, 1411, 1412, 1413, 1414] (by decide +kernel) (by decide +kernel)
set_option maxRecDepth 20000 in
theorem gL_law_X10_round : GoodIn wsL_law (wsV RL 85 RX10 yX10_round wsX10_round) := goodIn_app (goodIn_of _ (by decide +kernel)) ggL_law_X10_round
set_option maxRecDepth 20000 in
theorem ggL_law_X9_over : GoodIn wsL_law wsX9_over := goodIn_r _ [1005, 29, 22, 1006, 861, 862, 863, 2, 864, 205, 511, 794, 534, 535, 47, 536, 224, 865, 866, 867, 28, 868, 869, 113, 114, 870, 871, 872, 873, 115, 874, 875, 640, 641, 36, 642, 101, 876, 877, 878, 879, 120, 880, 881, 882, 883, 117, 884, 118, 885, 119, 886, 887, 888, 889, 890, 891, 892, 58, 893, 894, 214, 895, 59, 896, 897, 898, 899, 900, 901, 902, 903, 904, 905, 906, 907, 122, 121, 908, 213, 215, 909, 910, 911, 912, 913, 914, 915, 916, 917, 918, 919, 920, 921, 922, 923, 924, 123, 925, 926, 561, 927, 928, 929, 930, 931, 932, 933, 934, 935, 936, 937, 938, 939, 940, 941, 942, 943, 944, 112, 1364, 1365, 1366, 1367, 1368, 1369, 1370, 1371, 1372, 1373, 1433, 1434, 1435, 1436, 1437, 1438, 1439, 1440, 1441, 1442, 1443, 1444, 1445, 1446, 1447, 1448, 1449, 1425, 1426, 1427, 1428, 1429, 1430, 1431, 1432, 1473, 1474, 1475, 1476, 1477, 1478, 1479, 1480, 1481, 1482, 1483, 1484, 1461, 1462, 1463, 1464, 1465, 1466, 1467, 1468] (by decide +kernel) (by decide +kernel)
set_option maxRecDepth 20000 in
theorem gL_law_X9_over : GoodIn wsL_law (wsV RL 86 RX9 yX9_over wsX9_over) := goodIn_app (goodIn_of _ (by decide +kernel)) ggL_law_X9_over
set_option maxRecDepth 20000 in
theorem ggL_law_X10_over : GoodIn wsL_law wsX10_over := goodIn_r _ [1010, 961, 950, 951, 952, 5, 953, 954, 578, 579, 580, 581, 144, 195, 196, 197, 517, 518, 519, 520, 955, 956, 957, 958, 959, 960, 949, 154, 153, 962, 963, 964, 965, 966, 967, 968, 969, 155, 705, 706, 707, 708, 970, 971, 972, 973, 156, 598, 599, 600, 974, 975, 976, 977, 978, 918, 214, 919, 979, 980, 981, 982, 983, 894, 895, 494, 495, 496, 497, 984, 985, 986, 987, 1374, 1375, 1376, 1377, 1378, 1379, 1380, 1381, 1382, 1383, 1384, 1385, 1386, 1387, 1388, 1389, 1390, 1391, 1392, 1393, 1394, 1395, 1396, 1397, 1398, 1399, 1400, 1401, 1402, 1403, 1404, 1405, 1406, 1407, 1408, 1409, 1410, 1411, 1412, 1413, 1414] (by decide +kernel) (by decide +kernel)
set_option maxRecDepth 20000 in
theorem gL_law_X10_over : GoodIn wsL_law (wsV RL 89 RX10 yX10_over wsX10_over) := goodIn_app (goodIn_of _ (by decide +kernel)) ggL_law_X10_over
set_option maxRecDepth 20000 in
theorem ggL_law_X9_may : GoodIn wsL_law wsX9_may := goodIn_r _ [1014, 25, 755, 29, 22, 757, 758, 2, 759, 861, 862, 863, 864, 205, 511, 794, 534, 535, 47, 536, 224, 1015, 1016, 1017, 28, 1018, 1019, 871, 873, 1020, 761, 762, 41, 763, 764, 139, 765, 1021, 875, 640, 641, 36, 642, 101, 900, 901, 902, 903, 886, 887, 888, 880, 881, 882, 883, 117, 884, 118, 885, 119, 889, 890, 891, 892, 58, 893, 894, 214, 895, 59, 913, 914, 915, 916, 917, 918, 919, 1364, 1365, 1366, 1367, 1368, 1369, 1370, 1371, 1372, 1373, 1469, 1470, 1471, 1472, 1425, 1426, 1427, 1428, 1429, 1430, 1431, 1432, 1473, 1474, 1475, 1476, 1477, 1478, 1479, 1480, 1481, 1482, 1483, 1484, 1461, 1462, 1463, 1464, 1465, 1466, 1467, 1468, 1433, 1434, 1435, 1436, 1437, 1438, 1439, 1440, 1441, 1442, 1443, 1444, 1445, 1446, 1447, 1448, 1449] (by decide +kernel) (by decide +kernel)
set_option maxRecDepth 20000 in
theorem gL_law_X9_may : GoodIn wsL_law (wsV RL 90 RX9 yX9_may wsX9_may) := goodIn_app (goodIn_of _ (by decide +kernel)) ggL_law_X9_may
set_option maxRecDepth 20000 in
theorem ggL_law_X10_may : GoodIn wsL_law wsX10_may := goodIn_r _ [1025, 169, 171, 144, 154, 774, 775, 5, 776, 585, 195, 196, 197, 950, 951, 952, 953, 954, 578, 579, 580, 581, 517, 518, 519, 520, 966, 967, 968, 969, 155, 705, 706, 707, 708, 598, 599, 600, 974, 975, 976, 977, 978, 918, 214, 919, 979, 980, 981, 982, 983, 894, 895, 494, 495, 496, 497, 1374, 1375, 1376, 1377, 1378, 1379, 1380, 1381, 1382, 1383, 1384, 1385, 1386, 1387, 1388, 1389, 1390, 1391, 1392, 1393, 1394, 1395, 1396, 1397, 1398, 1399, 1400, 1401, 1402, 1403, 1404, 1405, 1406, 1407, 1408, 1409, 1410, 1411, 1412, 1413, 1414] (by decide +kernel) (by decide +kernel)
set_option maxRecDepth 20000 in
theorem gL_law_X10_may : GoodIn wsL_law (wsV RL 93 RX10 yX10_may wsX10_may) := goodIn_app (goodIn_of _ (by decide +kernel)) ggL_law_X10_may
set_option maxRecDepth 20000 in
theorem ggL_law_X9_fewest : GoodIn wsL_law wsX9_fewest := goodIn_r _ [1029, 22, 205, 29, 794, 534, 535, 47, 536, 224, 1030, 1031, 1032, 28, 1033, 869, 113, 870, 123, 1034, 1035, 1036, 1037, 1038, 873, 115, 1039, 116, 1040, 908, 213, 214, 215, 1041, 808, 809, 36, 810, 100, 393, 95, 876, 877, 878, 879, 120, 871, 880, 881, 882, 883, 117, 884, 118, 885, 119, 886, 887, 888, 875, 640, 641, 642, 101, 889, 890, 891, 892, 58, 893, 894, 895, 59, 904, 905, 906, 907, 122, 121, 909, 910, 911, 912, 913, 914, 915, 916, 917, 918, 919, 896, 897, 898, 899, 900, 901, 902, 903, 1042, 1043, 1044, 1045, 1046, 1047, 1048, 1049, 1364, 1365, 1366, 1367, 1368, 1369, 1370, 1371, 1372, 1373, 1425, 1426, 1427, 1428, 1429, 1430, 1431, 1432, 1473, 1474, 1475, 1476, 1477, 1478, 1479, 1480, 1481, 1482, 1483, 1484, 1433, 1434, 1435, 1436, 1437, 1438, 1439, 1440, 1441, 1442, 1443, 1444, 1445, 1446, 1447, 1448, 1449, 1461, 1462, 1463, 1464, 1465, 1466, 1467, 1468] (by decide +kernel) (by decide +kernel)
set_option maxRecDepth 20000 in
theorem gL_law_X9_fewest : GoodIn wsL_law (wsV RL 94 RX9 yX9_fewest wsX9_fewest) := goodIn_app (goodIn_of _ (by decide +kernel)) ggL_law_X9_fewest
set_option maxRecDepth 20000 in
theorem ggL_law_X10_fewest : GoodIn wsL_law wsX10_fewest := goodIn_r _ [1053, 1054, 159, 419, 213, 214, 215, 959, 160, 578, 579, 580, 5, 581, 144, 195, 196, 197, 1055, 1056, 1057, 1058, 158, 153, 966, 967, 968, 969, 154, 155, 705, 706, 707, 708, 598, 599, 600, 517, 518, 519, 520, 970, 971, 972, 973, 156, 974, 975, 976, 977, 978, 918, 919, 979, 980, 981, 982, 983, 894, 895, 494, 495, 496, 497, 984, 985, 986, 987, 1059, 1060, 1061, 1062, 1374, 1375, 1376, 1377, 1378, 1379, 1380, 1381, 1382, 1383, 1384, 1385, 1386, 1387, 1388, 1389, 1390, 1391, 1392, 1393, 1394, 1395, 1396, 1397, 1398, 1399, 1400, 1401, 1402, 1403, 1404, 1405, 1406, 1407, 1408, 1409, 1410, 1411, 1412, 1413, 1414] (by decide +kernel) (by decide +kernel)
set_option maxRecDepth 20000 in
theorem gL_law_X10_fewest : GoodIn wsL_law (wsV RL 97 RX10 yX10_fewest wsX10_fewest) := goodIn_app (goodIn_of _ (by decide +kernel)) ggL_law_X10_fewest
set_option maxRecDepth 20000 in
theorem ggL_law_X9_lost : GoodIn wsL_law wsX9_lost := goodIn_r _ [1066, 22, 205, 29, 794, 534, 535, 47, 536, 224, 1067, 1068, 1069, 28, 1070, 873, 1039, 1040, 1041, 808, 809, 36, 810, 100, 393, 95, 1071, 1072, 1073, 1074, 871, 1034, 880, 881, 882, 883, 117, 884, 118, 885, 119, 886, 887, 888, 875, 640, 641, 642, 101, 889, 890, 891, 892, 58, 893, 894, 214, 895, 59, 913, 914, 915, 916, 917, 918, 919, 900, 901, 902, 903, 1364, 1365, 1366, 1367, 1368, 1369, 1370, 1371, 1372, 1373, 1425, 1426, 1427, 1428, 1429, 1430, 1431, 1432, 1473, 1474, 1475, 1476, 1477, 1478, 1479, 1480, 1481, 1482, 1483, 1484, 1461, 1462, 1463, 1464, 1465, 1466, 1467, 1468, 1433, 1434, 1435, 1436, 1437, 1438, 1439, 1440, 1441, 1442, 1443, 1444, 1445, 1446, 1447, 1448, 1449] (by decide +kernel) (by decide +kernel)
set_option maxRecDepth 20000 in
theorem gL_law_X9_lost : GoodIn wsL_law (wsV RL 98 RX9 yX9_lost wsX9_lost) := goodIn_app (goodIn_of _ (by decide +kernel)) ggL_law_X9_lost
set_option maxRecDepth 20000 in
theorem ggL_law_X10_lost : GoodIn wsL_law wsX10_lost := goodIn_r _ [1078, 1054, 419, 213, 214, 215, 158, 578, 579, 580, 5, 581, 144, 195, 196, 197, 1055, 1056, 1057, 1058, 959, 153, 966, 967, 968, 969, 154, 155, 705, 706, 707, 708, 598, 599, 600, 517, 518, 519, 520, 974, 975, 976, 977, 978, 918, 919, 979, 980, 981, 982, 983, 894, 895, 494, 495, 496, 497, 1374, 1375, 1376, 1377, 1378, 1379, 1380, 1381, 1382, 1383, 1384, 1385, 1386, 1387, 1388, 1389, 1390, 1391, 1392, 1393, 1394, 1395, 1396, 1397, 1398, 1399, 1400, 1401, 1402, 1403, 1404, 1405, 1406, 1407, 1408, 1409, 1410, 1411, 1412, 1413, 1414] (by decide +kernel) (by decide +kernel)
set_option maxRecDepth 20000 in
theorem gL_law_X10_lost : GoodIn wsL_law (wsV RL 101 RX10 yX10_lost wsX10_lost) := goodIn_app (goodIn_of _ (by decide +kernel)) ggL_law_X10_lost
set_option maxRecDepth 20000 in
theorem ggL_law_X9_soon : GoodIn wsL_law wsX9_soon := goodIn_r _ [1082, 22, 205, 33, 1083, 529, 530, 531, 47, 532, 533, 534, 535, 536, 224, 1084, 1085, 1086, 32, 1087, 1088, 128, 129, 1089, 1090, 1091, 552, 553, 21, 554, 90, 1092, 1093, 1094, 1095, 1096, 1097, 1098, 1099, 543, 544, 545, 64, 1100, 560, 561, 562, 563, 564, 565, 1101, 1102, 1103, 1104, 1105, 130, 131, 132, 1106, 1107, 1108, 1109, 1110, 1111, 1112, 1113, 134, 133, 1114, 1115, 1116, 1117, 127, 1364, 1365, 1366, 1367, 1368, 1369, 1370, 1371, 1372, 1373, 1425, 1426, 1427, 1428, 1429, 1430, 1431, 1432, 1450, 1451, 1452, 1453, 1454, 1455, 1456, 1457, 1458, 1459, 1460, 1473, 1474, 1475, 1476, 1477, 1478, 1479, 1480, 1481, 1482, 1483, 1484] (by decide +kernel) (by decide +kernel)
set_option maxRecDepth 20000 in
theorem gL_law_X9_soon : GoodIn wsL_law (wsV RL 102 RX9 yX9_soon wsX9_soon) := goodIn_app (goodIn_of _ (by decide +kernel)) ggL_law_X9_soon
set_option maxRecDepth 20000 in
theorem ggL_law_X10_soon : GoodIn wsL_law wsX10_soon := goodIn_r _ [1121, 1122, 574, 575, 576, 5, 577, 578, 579, 580, 581, 144, 195, 196, 197, 594, 595, 596, 597, 598, 599, 600, 1123, 1124, 1125, 1126, 165, 162, 164, 163, 517, 518, 519, 520, 590, 591, 592, 593, 494, 495, 496, 497, 605, 606, 607, 608, 609, 610, 611, 1127, 1128, 1129, 1130, 166, 1374, 1375, 1376, 1377, 1378, 1379, 1380, 1381, 1382, 1383, 1384, 1385, 1386, 1387, 1388, 1389, 1390, 1391, 1392, 1393, 1394, 1395, 1396, 1397, 1398, 1399, 1400, 1401, 1402, 1403, 1404, 1405, 1406, 1407, 1408, 1409, 1410, 1411, 1412, 1413, 1414] (by decide +kernel) (by decide +kernel)
set_option maxRecDepth 20000 in
theorem gL_law_X10_soon : GoodIn wsL_law (wsV RL 105 RX10 yX10_soon wsX10_soon) := goodIn_app (goodIn_of _ (by decide +kernel)) ggL_law_X10_soon
set_option maxRecDepth 20000 in
theorem ggL_law_X9_path : GoodIn wsL_law wsX9_path := goodIn_r _ [1134, 22, 205, 33, 1083, 1135, 529, 530, 531, 47, 532, 533, 534, 535, 536, 224, 1084, 1085, 1086, 32, 1087, 1088, 128, 129, 1089, 1090, 1091, 552, 553, 21, 554, 90, 1092, 1093, 1094, 1095, 1096, 1097, 1098, 1099, 543, 544, 545, 64, 1100, 560, 561, 562, 563, 564, 565, 1101, 1102, 1103, 1104, 1105, 130, 131, 132, 1106, 1107, 1108, 1109, 1110, 1111, 1112, 1113, 134, 133, 1114, 1115, 1116, 1117, 127, 1364, 1365, 1366, 1367, 1368, 1369, 1370, 1371, 1372, 1373, 1425, 1426, 1427, 1428, 1429, 1430, 1431, 1432, 1450, 1451, 1452, 1453, 1454, 1455, 1456, 1457, 1458, 1459, 1460, 1473, 1474, 1475, 1476, 1477, 1478, 1479, 1480, 1481, 1482, 1483, 1484] (by decide +kernel) (by decide +kernel)
set_option maxRecDepth 20000 in
theorem gL_law_X9_path : GoodIn wsL_law (wsV RL 106 RX9 yX9_path wsX9_path) := goodIn_app (goodIn_of _ (by decide +kernel)) ggL_law_X9_path
set_option maxRecDepth 20000 in
theorem ggL_law_X10_path : GoodIn wsL_law wsX10_path := goodIn_r _ [1139, 1122, 166, 574, 575, 576, 5, 577, 578, 579, 580, 581, 144, 195, 196, 197, 594, 595, 596, 597, 598, 599, 600, 1123, 1124, 1125, 1126, 165, 162, 164, 163, 517, 518, 519, 520, 590, 591, 592, 593, 494, 495, 496, 497, 605, 606, 607, 608, 609, 610, 611, 1127, 1128, 1129, 1130, 1374, 1375, 1376, 1377, 1378, 1379, 1380, 1381, 1382, 1383, 1384, 1385, 1386, 1387, 1388, 1389, 1390, 1391, 1392, 1393, 1394, 1395, 1396, 1397, 1398, 1399, 1400, 1401, 1402, 1403, 1404, 1405, 1406, 1407, 1408, 1409, 1410, 1411, 1412, 1413, 1414] (by decide +kernel) (by decide +kernel)
set_option maxRecDepth 20000 in
theorem gL_law_X10_path : GoodIn wsL_law (wsV RL 109 RX10 yX10_path wsX10_path) := goodIn_app (goodIn_of _ (by decide +kernel)) ggL_law_X10_path
set_option maxRecDepth 20000 in
theorem ggL_law_X9_reach : GoodIn wsL_law wsX9_reach := goodIn_r _ [1143, 22, 205, 794, 534, 535, 47, 536, 224, 1144, 1145, 1146, 21, 1147, 90, 1364, 1365, 1366, 1367, 1368, 1369, 1370, 1371, 1372, 1373, 1425, 1426, 1427, 1428, 1429, 1430, 1431, 1432, 1473, 1474, 1475, 1476, 1477, 1478, 1479, 1480, 1481, 1482, 1483, 1484] (by decide +kernel) (by decide +kernel)
set_option maxRecDepth 20000 in
theorem gL_law_X9_reach : GoodIn wsL_law (wsV RL 110 RX9 yX9_reach wsX9_reach) := goodIn_app (goodIn_of _ (by decide +kernel)) ggL_law_X9_reach
set_option maxRecDepth 20000 in
theorem ggL_law_X10_reach : GoodIn wsL_law wsX10_reach := goodIn_r _ [1151, 578, 579, 580, 5, 581, 144, 195, 196, 197, 1152, 1153, 1154, 1155, 598, 599, 600, 1374, 1375, 1376, 1377, 1378, 1379, 1380, 1381, 1382, 1383, 1384, 1385, 1386, 1387, 1388, 1389, 1390, 1391, 1392, 1393, 1394, 1395, 1396, 1397, 1398, 1399, 1400, 1401, 1402, 1403, 1404, 1405, 1406, 1407, 1408, 1409, 1410, 1411, 1412, 1413, 1414] (by decide +kernel) (by decide +kernel)
set_option maxRecDepth 20000 in
theorem gL_law_X10_reach : GoodIn wsL_law (wsV RL 113 RX10 yX10_reach wsX10_reach) := goodIn_app (goodIn_of _ (by decide +kernel)) ggL_law_X10_reach
set_option maxRecDepth 20000 in
theorem ggL_law_X9_drop : GoodIn wsL_law wsX9_drop := goodIn_r _ [1159, 22, 205, 206, 839, 794, 534, 535, 47, 536, 224, 1160, 1161, 1162, 21, 1163, 85, 551, 552, 553, 554, 90, 673, 640, 641, 36, 642, 101, 1164, 1165, 1166, 1167, 1168, 1145, 1146, 1147, 1364, 1365, 1366, 1367, 1368, 1369, 1370, 1371, 1372, 1373, 1425, 1426, 1427, 1428, 1429, 1430, 1431, 1432, 1473, 1474, 1475, 1476, 1477, 1478, 1479, 1480, 1481, 1482, 1483, 1484, 1461, 1462, 1463, 1464, 1465, 1466, 1467, 1468] (by decide +kernel) (by decide +kernel)
set_option maxRecDepth 20000 in
theorem gL_law_X9_drop : GoodIn wsL_law (wsV RL 114 RX9 yX9_drop wsX9_drop) := goodIn_app (goodIn_of _ (by decide +kernel)) ggL_law_X9_drop
set_option maxRecDepth 20000 in
theorem ggL_law_X10_drop : GoodIn wsL_law wsX10_drop := goodIn_r _ [1172, 144, 154, 578, 579, 580, 5, 581, 195, 196, 197, 966, 967, 968, 969, 155, 705, 706, 707, 708, 1152, 1153, 1154, 1155, 598, 599, 600, 609, 610, 611, 594, 595, 596, 597, 494, 495, 496, 497, 1374, 1375, 1376, 1377, 1378, 1379, 1380, 1381, 1382, 1383, 1384, 1385, 1386, 1387, 1388, 1389, 1390, 1391, 1392, 1393, 1394, 1395, 1396, 1397, 1398, 1399, 1400, 1401, 1402, 1403, 1404, 1405, 1406, 1407, 1408, 1409, 1410, 1411, 1412, 1413, 1414] (by decide +kernel) (by decide +kernel)
set_option maxRecDepth 20000 in
theorem gL_law_X10_drop : GoodIn wsL_law (wsV RL 117 RX10 yX10_drop wsX10_drop) := goodIn_app (goodIn_of _ (by decide +kernel)) ggL_law_X10_drop
set_option maxRecDepth 20000 in
theorem ggL_law_X9_tie : GoodIn wsL_law wsX9_tie := goodIn_r _ [1176, 22, 205, 529, 530, 531, 47, 532, 533, 534, 535, 536, 224, 783, 552, 553, 21, 554, 90, 1177, 1165, 1166, 1167, 1168, 1145, 1146, 1147, 1364, 1365, 1366, 1367, 1368, 1369, 1370, 1371, 1372, 1373, 1425, 1426, 1427, 1428, 1429, 1430, 1431, 1432, 1473, 1474, 1475, 1476, 1477, 1478, 1479, 1480, 1481, 1482, 1483, 1484] (by decide +kernel) (by decide +kernel)
set_option maxRecDepth 20000 in
theorem gL_law_X9_tie : GoodIn wsL_law (wsV RL 118 RX9 yX9_tie wsX9_tie) := goodIn_app (goodIn_of _ (by decide +kernel)) ggL_law_X9_tie
set_option maxRecDepth 20000 in
theorem ggL_law_X10_tie : GoodIn wsL_law wsX10_tie := goodIn_r _ [1181, 574, 575, 576, 5, 577, 578, 579, 580, 581, 144, 195, 196, 197, 594, 595, 596, 597, 598, 599, 600, 1152, 1153, 1154, 1155, 1374, 1375, 1376, 1377, 1378, 1379, 1380, 1381, 1382, 1383, 1384, 1385, 1386, 1387, 1388, 1389, 1390, 1391, 1392, 1393, 1394, 1395, 1396, 1397, 1398, 1399, 1400, 1401, 1402, 1403, 1404, 1405, 1406, 1407, 1408, 1409, 1410, 1411, 1412, 1413, 1414] (by decide +kernel) (by decide +kernel)
set_option maxRecDepth 20000 in
theorem gL_law_X10_tie : GoodIn wsL_law (wsV RL 121 RX10 yX10_tie wsX10_tie) := goodIn_app (goodIn_of _ (by decide +kernel)) ggL_law_X10_tie
set_option maxRecDepth 20000 in
theorem ggL_law_X9_rings : GoodIn wsL_law wsX9_rings := goodIn_r _ [1185, 22, 205, 206, 1186, 1187, 1188, 21, 1189, 91, 89, 371, 1190, 1191, 1192, 1193, 1194, 1195, 1196, 559, 560, 561, 562, 563, 564, 565, 1197, 926, 927, 928, 1364, 1365, 1366, 1367, 1368, 1369, 1370, 1371, 1372, 1373, 1425, 1426, 1427, 1428, 1429, 1430, 1431, 1432, 1473, 1474, 1475, 1476, 1477, 1478, 1479, 1480, 1481, 1482, 1483, 1484, 1495, 1496, 1497, 1498, 1499] (by decide +kernel) (by decide +kernel)
set_option maxRecDepth 20000 in
theorem gL_law_X9_rings : GoodIn wsL_law (wsV RL 122 RX9 yX9_rings wsX9_rings) := goodIn_app (goodIn_of _ (by decide +kernel)) ggL_law_X9_rings
set_option maxRecDepth 20000 in
theorem ggL_law_X10_rings : GoodIn wsL_law wsX10_rings := goodIn_r _ [1201, 144, 1202, 1203, 1204, 5, 1205, 167, 1206, 585, 195, 196, 197, 1207, 1208, 1209, 1210, 1211, 1212, 1213, 1214, 598, 599, 600, 609, 610, 611, 1374, 1375, 1376, 1377, 1378, 1379, 1380, 1381, 1382, 1383, 1384, 1385, 1386, 1387, 1388, 1389, 1390, 1391, 1392, 1393, 1394, 1395, 1396, 1397, 1398, 1399, 1400, 1401, 1402, 1403, 1404, 1405, 1406, 1407, 1408, 1409, 1410, 1411, 1412, 1413, 1414] (by decide +kernel) (by decide +kernel)
set_option maxRecDepth 20000 in
theorem gL_law_X10_rings : GoodIn wsL_law (wsV RL 125 RX10 yX10_rings wsX10_rings) := goodIn_app (goodIn_of _ (by decide +kernel)) ggL_law_X10_rings
set_option maxRecDepth 20000 in
theorem ggL_law_X9_ring : GoodIn wsL_law wsX9_ring := goodIn_r _ [1218, 22, 205, 794, 534, 535, 47, 536, 224, 1186, 1187, 1188, 21, 1189, 91, 89, 371, 1190, 1191, 1192, 1193, 1194, 1195, 1196, 559, 560, 561, 562, 563, 564, 565, 1364, 1365, 1366, 1367, 1368, 1369, 1370, 1371, 1372, 1373, 1425, 1426, 1427, 1428, 1429, 1430, 1431, 1432, 1473, 1474, 1475, 1476, 1477, 1478, 1479, 1480, 1481, 1482, 1483, 1484, 1495, 1496, 1497, 1498, 1499] (by decide +kernel) (by decide +kernel)
set_option maxRecDepth 20000 in
theorem gL_law_X9_ring : GoodIn wsL_law (wsV RL 126 RX9 yX9_ring wsX9_ring) := goodIn_app (goodIn_of _ (by decide +kernel)) ggL_law_X9_ring
set_option maxRecDepth 20000 in
theorem ggL_law_X10_ring : GoodIn wsL_law wsX10_ring := goodIn_r _ [1222, 578, 579, 580, 5, 581, 144, 195, 196, 197, 1202, 1203, 1204, 1205, 167, 1206, 585, 1207, 1208, 1209, 1210, 1211, 1212, 1213, 1214, 598, 599, 600, 609, 610, 611, 1374, 1375, 1376, 1377, 1378, 1379, 1380, 1381, 1382, 1383, 1384, 1385, 1386, 1387, 1388, 1389, 1390, 1391, 1392, 1393, 1394, 1395, 1396, 1397, 1398, 1399, 1400, 1401, 1402, 1403, 1404, 1405, 1406, 1407, 1408, 1409, 1410, 1411, 1412, 1413, 1414] (by decide +kernel) (by decide +kernel)
set_option maxRecDepth 20000 in
theorem gL_law_X10_ring : GoodIn wsL_law (wsV RL 129 RX10 yX10_ring wsX10_ring) := goodIn_app (goodIn_of _ (by decide +kernel)) ggL_law_X10_ring
set_option maxRecDepth 20000 in
theorem ggL_law_X9_house : GoodIn wsL_law wsX9_house := goodIn_r _ [1226, 22, 205, 1227, 1228, 1229, 839, 1230, 1231, 1232, 1233, 616, 794, 534, 535, 47, 536, 224, 1234, 1235, 1236, 88, 1237, 621, 107, 105, 1238, 1239, 1240, 1241, 106, 1364, 1365, 1366, 1367, 1368, 1369, 1370, 1371, 1372, 1373, 1425, 1426, 1427, 1428, 1429, 1430, 1431, 1432, 1473, 1474, 1475, 1476, 1477, 1478, 1479, 1480, 1481, 1482, 1483, 1484, 1495, 1496, 1497, 1498, 1499] (by decide +kernel) (by decide +kernel)
set_option maxRecDepth 20000 in
theorem gL_law_X9_house : GoodIn wsL_law (wsV RL 130 RX9 yX9_house wsX9_house) := goodIn_app (goodIn_of _ (by decide +kernel)) ggL_law_X9_house
set_option maxRecDepth 20000 in
theorem ggL_law_X10_house : GoodIn wsL_law wsX10_house := goodIn_r _ [1245, 1246, 1247, 144, 1206, 585, 578, 579, 580, 5, 581, 195, 196, 197, 494, 495, 496, 497, 1374, 1375, 1376, 1377, 1378, 1379, 1380, 1381, 1382, 1383, 1384, 1385, 1386, 1387, 1388, 1389, 1390, 1391, 1392, 1393, 1394, 1395, 1396, 1397, 1398, 1399, 1400, 1401, 1402, 1403, 1404, 1405, 1406, 1407, 1408, 1409, 1410, 1411, 1412, 1413, 1414] (by decide +kernel) (by decide +kernel)
set_option maxRecDepth 20000 in
theorem gL_law_X10_house : GoodIn wsL_law (wsV RL 133 RX10 yX10_house wsX10_house) := goodIn_app (goodIn_of _ (by decide +kernel)) ggL_law_X10_house
set_option maxRecDepth 20000 in
theorem ggL_law_X9_beside : GoodIn wsL_law wsX9_beside := goodIn_r _ [1251, 23, 22, 1252, 37, 39, 1253, 1254, 1255, 2, 1256, 1257, 1258, 1259, 21, 1260, 81, 372, 373, 374, 375, 376, 89, 371, 1191, 1192, 1190, 1261, 389, 390, 391, 36, 392, 393, 100, 101, 394, 227, 228, 229, 626, 627, 628, 629, 630, 631, 632, 633, 634, 213, 214, 215, 635, 636, 637, 638, 95, 96, 97, 639, 640, 641, 642, 643, 644, 645, 646, 98, 99, 647, 648, 649, 51, 650, 76, 234, 70, 651, 652, 653, 654, 74, 655, 656, 73, 75, 657, 658, 659, 660, 661, 662, 663, 664, 665, 666, 667, 668, 669, 670, 671, 672, 673, 674, 675, 676, 677, 682, 683, 684, 1364, 1365, 1366, 1367, 1368, 1369, 1370, 1371, 1372, 1373, 1425, 1426, 1427, 1428, 1429, 1430, 1431, 1432, 1461, 1462, 1463, 1464, 1465, 1466, 1467, 1468, 1473, 1474, 1475, 1476, 1477, 1478, 1479, 1480, 1481, 1482, 1483, 1484, 1495, 1496, 1497, 1498, 1499, 1485, 1486, 1487, 1488, 1489, 1490, 1491, 1492, 1493, 1494] (by decide +kernel) (by decide +kernel)
set_option maxRecDepth 20000 in
theorem gL_law_X9_beside : GoodIn wsL_law (wsV RL 134 RX9 yX9_beside wsX9_beside) := goodIn_app (goodIn_of _ (by decide +kernel)) ggL_law_X9_beside
set_option maxRecDepth 20000 in
theorem ggL_law_X10_beside : GoodIn wsL_law wsX10_beside := goodIn_r _ [1265, 1206, 147, 168, 144, 145, 195, 196, 5, 197, 494, 495, 496, 497, 693, 694, 695, 696, 419, 213, 214, 215, 697, 698, 699, 700, 701, 702, 703, 704, 705, 706, 707, 708, 709, 710, 711, 712, 594, 595, 596, 597, 598, 599, 600, 713, 714, 715, 716, 152, 717, 718, 719, 720, 721, 722, 723, 724, 725, 726, 727, 728, 729, 730, 731, 732, 733, 734, 735, 736, 737, 738, 1374, 1375, 1376, 1377, 1378, 1379, 1380, 1381, 1382, 1383, 1384, 1385, 1386, 1387, 1388, 1389, 1390, 1391, 1392, 1393, 1394, 1395, 1396, 1397, 1398, 1399, 1400, 1401, 1402, 1403, 1404, 1405, 1406, 1407, 1408, 1409, 1410, 1411, 1412, 1413, 1414] (by decide +kernel) (by decide +kernel)
set_option maxRecDepth 20000 in
theorem gL_law_X10_beside : GoodIn wsL_law (wsV RL 137 RX10 yX10_beside wsX10_beside) := goodIn_app (goodIn_of _ (by decide +kernel)) ggL_law_X10_beside
set_option maxRecDepth 20000 in
theorem ggL_law_X9_count : GoodIn wsL_law wsX9_count := goodIn_r _ [1269, 22, 205, 206, 1252, 1270, 511, 792, 1253, 616, 1271, 1272, 177, 1273, 1274, 1275, 1276, 1277, 36, 1278, 393, 98, 1279, 1280, 1281, 2, 1282, 25, 755, 1364, 1365, 1366, 1367, 1368, 1369, 1370, 1371, 1372, 1373, 1425, 1426, 1427, 1428, 1429, 1430, 1431, 1432, 1473, 1474, 1475, 1476, 1477, 1478, 1479, 1480, 1481, 1482, 1483, 1484, 1485, 1486, 1487, 1488, 1489, 1490, 1491, 1492, 1493, 1494, 1461, 1462, 1463, 1464, 1465, 1466, 1467, 1468, 1495, 1496, 1497, 1498, 1499, 1469, 1470, 1471, 1472] (by decide +kernel) (by decide +kernel)
set_option maxRecDepth 20000 in
theorem gL_law_X9_count : GoodIn wsL_law (wsV RL 138 RX9 yX9_count wsX9_count) := goodIn_app (goodIn_of _ (by decide +kernel)) ggL_law_X9_count
set_option maxRecDepth 20000 in
theorem ggL_law_X10_count : GoodIn wsL_law wsX10_count := goodIn_r _ [1286, 144, 186, 169, 517, 518, 519, 5, 520, 705, 706, 707, 708, 1374, 1375, 1376, 1377, 1378, 1379, 1380, 1381, 1382, 1383, 1384, 1385, 1386, 1387, 1388, 1389, 1390, 1391, 1392, 1393, 1394, 1395, 1396, 1397, 1398, 1399, 1400, 1401, 1402, 1403, 1404, 1405, 1406, 1407, 1408, 1409, 1410, 1411, 1412, 1413, 1414] (by decide +kernel) (by decide +kernel)
set_option maxRecDepth 20000 in
theorem gL_law_X10_count : GoodIn wsL_law (wsV RL 141 RX10 yX10_count wsX10_count) := goodIn_app (goodIn_of _ (by decide +kernel)) ggL_law_X10_count
set_option maxRecDepth 20000 in
theorem ggL_law_X9_keep : GoodIn wsL_law wsX9_keep := goodIn_r _ [1290, 23, 19, 20, 21, 22, 1254, 1255, 2, 1256, 77, 78, 79, 11, 12, 80, 46, 47, 81, 82, 50, 51, 83, 84, 35, 36, 85, 86, 87, 88, 89, 38, 90, 91, 54, 55, 56, 57, 58, 59, 60, 61, 62, 63, 64, 65, 66, 67, 68, 69, 70, 71, 72, 73, 74, 75, 76, 92, 93, 94, 95, 96, 97, 98, 99, 100, 101, 102, 103, 104, 105, 106, 107, 108, 1291, 1292, 1293, 1294, 373, 374, 375, 376, 377, 378, 379, 380, 381, 382, 224, 225, 383, 384, 385, 386, 387, 234, 235, 388, 1295, 1296, 1297, 1298, 393, 1299, 1300, 1301, 1302, 1303, 621, 1304, 1364, 1365, 1366, 1367, 1368, 1369, 1370, 1371, 1372, 1373, 1425, 1426, 1427, 1428, 1429, 1430, 1431, 1432, 1473, 1474, 1475, 1476, 1477, 1478, 1479, 1480, 1481, 1482, 1483, 1484, 1485, 1486, 1487, 1488, 1489, 1490, 1491, 1492, 1493, 1494, 1461, 1462, 1463, 1464, 1465, 1466, 1467, 1468, 1495, 1496, 1497, 1498, 1499] (by decide +kernel) (by decide +kernel)
set_option maxRecDepth 20000 in
theorem gL_law_X9_keep : GoodIn wsL_law (wsV RL 142 RX9 yX9_keep wsX9_keep) := goodIn_app (goodIn_of _ (by decide +kernel)) ggL_law_X9_keep
set_option maxRecDepth 20000 in
theorem ggL_law_X10_keep : GoodIn wsL_law wsX10_keep := goodIn_r _ [1308, 1206, 145, 144, 147, 195, 196, 5, 197, 1374, 1375, 1376, 1377, 1378, 1379, 1380, 1381, 1382, 1383, 1384, 1385, 1386, 1387, 1388, 1389, 1390, 1391, 1392, 1393, 1394, 1395, 1396, 1397, 1398, 1399, 1400, 1401, 1402, 1403, 1404, 1405, 1406, 1407, 1408, 1409, 1410, 1411, 1412, 1413, 1414] (by decide +kernel) (by decide +kernel)
set_option maxRecDepth 20000 in
theorem gL_law_X10_keep : GoodIn wsL_law (wsV RL 145 RX10 yX10_keep wsX10_keep) := goodIn_app (goodIn_of _ (by decide +kernel)) ggL_law_X10_keep
set_option maxRecDepth 20000 in
theorem ggL_law_X9_back : GoodIn wsL_law wsX9_back := goodIn_r _ [1312, 23, 22, 1254, 1255, 2, 1256, 1291, 1292, 1293, 21, 1294, 81, 83, 85, 89, 90, 373, 374, 375, 376, 377, 378, 379, 380, 381, 47, 382, 224, 225, 57, 58, 383, 59, 60, 61, 62, 63, 64, 65, 66, 384, 385, 386, 51, 387, 234, 235, 70, 388, 71, 72, 73, 74, 75, 1295, 1296, 1297, 36, 1298, 393, 95, 1299, 96, 97, 98, 99, 100, 101, 1300, 1301, 1302, 88, 1303, 621, 105, 1304, 106, 107, 108, 395, 396, 397, 398, 29, 399, 33, 400, 1364, 1365, 1366, 1367, 1368, 1369, 1370, 1371, 1372, 1373, 1425, 1426, 1427, 1428, 1429, 1430, 1431, 1432, 1473, 1474, 1475, 1476, 1477, 1478, 1479, 1480, 1481, 1482, 1483, 1484, 1485, 1486, 1487, 1488, 1489, 1490, 1491, 1492, 1493, 1494, 1461, 1462, 1463, 1464, 1465, 1466, 1467, 1468, 1495, 1496, 1497, 1498, 1499, 1433, 1434, 1435, 1436, 1437, 1438, 1439, 1440, 1441, 1442, 1443, 1444, 1445, 1446, 1447, 1448, 1449, 1450, 1451, 1452, 1453, 1454, 1455, 1456, 1457, 1458, 1459, 1460] (by decide +kernel) (by decide +kernel)
set_option maxRecDepth 20000 in
theorem gL_law_X9_back : GoodIn wsL_law (wsV RL 146 RX9 yX9_back wsX9_back) := goodIn_app (goodIn_of _ (by decide +kernel)) ggL_law_X9_back
set_option maxRecDepth 20000 in
theorem ggL_law_X10_back : GoodIn wsL_law wsX10_back := goodIn_r _ [1316, 1206, 147, 144, 145, 195, 196, 5, 197, 1374, 1375, 1376, 1377, 1378, 1379, 1380, 1381, 1382, 1383, 1384, 1385, 1386, 1387, 1388, 1389, 1390, 1391, 1392, 1393, 1394, 1395, 1396, 1397, 1398, 1399, 1400, 1401, 1402, 1403, 1404, 1405, 1406, 1407, 1408, 1409, 1410, 1411, 1412, 1413, 1414] (by decide +kernel) (by decide +kernel)
set_option maxRecDepth 20000 in
theorem gL_law_X10_back : GoodIn wsL_law (wsV RL 149 RX10 yX10_back wsX10_back) := goodIn_app (goodIn_of _ (by decide +kernel)) ggL_law_X10_back
set_option maxRecDepth 20000 in
theorem ggL_law_X9_row : GoodIn wsL_law wsX9_row := goodIn_r _ [1320, 25, 757, 758, 2, 759, 1321, 1322, 1323, 41, 1324, 1325, 1326, 764, 139, 1327, 1328, 228, 1329, 1364, 1365, 1366, 1367, 1368, 1369, 1370, 1371, 1372, 1373, 1469, 1470, 1471, 1472] (by decide +kernel) (by decide +kernel)
set_option maxRecDepth 20000 in
theorem gL_law_X9_row : GoodIn wsL_law (wsV RL 150 RX9 yX9_row wsX9_row) := goodIn_app (goodIn_of _ (by decide +kernel)) ggL_law_X9_row
set_option maxRecDepth 20000 in
theorem ggL_law_X10_row : GoodIn wsL_law wsX10_row := goodIn_r _ [1333, 585, 169, 170, 171, 774, 775, 5, 776, 195, 196, 197, 1374, 1375, 1376, 1377, 1378, 1379, 1380, 1381, 1382, 1383, 1384, 1385, 1386, 1387, 1388, 1389, 1390, 1391, 1392, 1393, 1394, 1395, 1396, 1397, 1398, 1399, 1400, 1401, 1402, 1403, 1404, 1405, 1406, 1407, 1408, 1409, 1410, 1411, 1412, 1413, 1414] (by decide +kernel) (by decide +kernel)
set_option maxRecDepth 20000 in
theorem gL_law_X10_row : GoodIn wsL_law (wsV RL 153 RX10 yX10_row wsX10_row) := goodIn_app (goodIn_of _ (by decide +kernel)) ggL_law_X10_row
set_option maxRecDepth 20000 in
theorem ggL_law_X9_write : GoodIn wsL_law wsX9_write := goodIn_r _ [1337, 25, 755, 756, 1338, 757, 758, 2, 759, 1339, 1340, 1341, 41, 1342, 1326, 1364, 1365, 1366, 1367, 1368, 1369, 1370, 1371, 1372, 1373, 1469, 1470, 1471, 1472] (by decide +kernel) (by decide +kernel)
set_option maxRecDepth 20000 in
theorem gL_law_X9_write : GoodIn wsL_law (wsV RL 156 RX9 yX9_write wsX9_write) := goodIn_app (goodIn_of _ (by decide +kernel)) ggL_law_X9_write
set_option maxRecDepth 20000 in
theorem ggL_law_X10_write : GoodIn wsL_law wsX10_write := goodIn_r _ [1346, 169, 171, 170, 774, 775, 5, 776, 585, 195, 196, 197, 1347, 1348, 1349, 1374, 1375, 1376, 1377, 1378, 1379, 1380, 1381, 1382, 1383, 1384, 1385, 1386, 1387, 1388, 1389, 1390, 1391, 1392, 1393, 1394, 1395, 1396, 1397, 1398, 1399, 1400, 1401, 1402, 1403, 1404, 1405, 1406, 1407, 1408, 1409, 1410, 1411, 1412, 1413, 1414] (by decide +kernel) (by decide +kernel)
set_option maxRecDepth 20000 in
theorem gL_law_X10_write : GoodIn wsL_law (wsV RL 160 RX10 yX10_write wsX10_write) := goodIn_app (goodIn_of _ (by decide +kernel)) ggL_law_X10_write
set_option maxRecDepth 20000 in
theorem ggL_law_X9_paste : GoodIn wsL_law wsX9_paste := goodIn_r _ [1353, 25, 755, 1354, 1338, 1355, 374, 375, 376, 757, 758, 2, 759, 1356, 1357, 1358, 41, 1359, 764, 1364, 1365, 1366, 1367, 1368, 1369, 1370, 1371, 1372, 1373, 1469, 1470, 1471, 1472] (by decide +kernel) (by decide +kernel)
set_option maxRecDepth 20000 in
theorem gL_law_X9_paste : GoodIn wsL_law (wsV RL 161 RX9 yX9_paste wsX9_paste) := goodIn_app (goodIn_of _ (by decide +kernel)) ggL_law_X9_paste
set_option maxRecDepth 20000 in
theorem ggL_law_X10_paste : GoodIn wsL_law wsX10_paste := goodIn_r _ [1363, 169, 170, 172, 171, 774, 775, 5, 776, 585, 195, 196, 197, 1374, 1375, 1376, 1377, 1378, 1379, 1380, 1381, 1382, 1383, 1384, 1385, 1386, 1387, 1388, 1389, 1390, 1391, 1392, 1393, 1394, 1395, 1396, 1397, 1398, 1399, 1400, 1401, 1402, 1403, 1404, 1405, 1406, 1407, 1408, 1409, 1410, 1411, 1412, 1413, 1414] (by decide +kernel) (by decide +kernel)
set_option maxRecDepth 20000 in
theorem gL_law_X10_paste : GoodIn wsL_law (wsV RL 164 RX10 yX10_paste wsX10_paste) := goodIn_app (goodIn_of _ (by decide +kernel)) ggL_law_X10_paste
end
