section
-- ===== PART A: goes FIRST, ahead of the names: the tables' words, and 'selects' of the private methods out of them =====
/-- a private method of a class that the tables say can be made, by its rows of tables_1 -/
def lw_okq (q : MethodName × Nat) : Prop := (q.1.cls ≠ "java/lang/invoke/MethodHandle" ∧ q.1.cls ≠ "java/lang/invoke/VarHandle") ∧ Cond.instantiable q.1.cls q.2 ∈ tables_1 ∧ Cond.privateMethod q.1 ∈ tables_1 ∧ Cond.instanceMethod q.1 ∈ tables_1
theorem lw_p0 : lw_okq (⟨"NoArmsCrossed", "refuse", "(I)I"⟩, 11) := ⟨⟨by decide +kernel, by decide +kernel⟩, List.mem_of_getElem? (i := 18) (by decide +kernel), List.mem_of_getElem? (i := 240) (by decide +kernel), List.mem_of_getElem? (i := 241) (by decide +kernel)⟩
theorem lw_p1 : lw_okq (⟨"NoArmsCrossed", "refusalOfRow", "(I)I"⟩, 11) := ⟨⟨by decide +kernel, by decide +kernel⟩, List.mem_of_getElem? (i := 18) (by decide +kernel), List.mem_of_getElem? (i := 258) (by decide +kernel), List.mem_of_getElem? (i := 259) (by decide +kernel)⟩
theorem lw_p2 : lw_okq (⟨"NoArmsCrossed$Shelf", "kept", "(J)J"⟩, 3) := ⟨⟨by decide +kernel, by decide +kernel⟩, List.mem_of_getElem? (i := 179) (by decide +kernel), List.mem_of_getElem? (i := 279) (by decide +kernel), List.mem_of_getElem? (i := 280) (by decide +kernel)⟩
theorem lw_p3 : lw_okq (⟨"NoArmsCrossed", "wordsOf", "(II)I"⟩, 11) := ⟨⟨by decide +kernel, by decide +kernel⟩, List.mem_of_getElem? (i := 18) (by decide +kernel), List.mem_of_getElem? (i := 327) (by decide +kernel), List.mem_of_getElem? (i := 328) (by decide +kernel)⟩
theorem lw_p4 : lw_okq (⟨"NoArmsCrossed", "refusalOfPair", "(II)I"⟩, 11) := ⟨⟨by decide +kernel, by decide +kernel⟩, List.mem_of_getElem? (i := 18) (by decide +kernel), List.mem_of_getElem? (i := 406) (by decide +kernel), List.mem_of_getElem? (i := 407) (by decide +kernel)⟩
theorem lw_p5 : lw_okq (⟨"NoArmsCrossed$Reader", "readItem", "(LNoArmsCrossed$Shelf;LNoArmsCrossed$Table;)Z"⟩, 1) := ⟨⟨by decide +kernel, by decide +kernel⟩, List.mem_of_getElem? (i := 146) (by decide +kernel), List.mem_of_getElem? (i := 435) (by decide +kernel), List.mem_of_getElem? (i := 436) (by decide +kernel)⟩
theorem lw_p6 : lw_okq (⟨"NoArmsCrossed$Reader", "readWordIf", "(ZLNoArmsCrossed$Shelf;Ljava/lang/String;)Z"⟩, 1) := ⟨⟨by decide +kernel, by decide +kernel⟩, List.mem_of_getElem? (i := 146) (by decide +kernel), List.mem_of_getElem? (i := 444) (by decide +kernel), List.mem_of_getElem? (i := 445) (by decide +kernel)⟩
theorem lw_p7 : lw_okq (⟨"NoArmsCrossed$Reader", "readWord", "(LNoArmsCrossed$Shelf;Ljava/lang/String;)Z"⟩, 1) := ⟨⟨by decide +kernel, by decide +kernel⟩, List.mem_of_getElem? (i := 146) (by decide +kernel), List.mem_of_getElem? (i := 448) (by decide +kernel), List.mem_of_getElem? (i := 449) (by decide +kernel)⟩
theorem lw_p8 : lw_okq (⟨"NoArmsCrossed$Reader", "readSeats", "(LNoArmsCrossed$Shelf;LNoArmsCrossed$Table;)Z"⟩, 1) := ⟨⟨by decide +kernel, by decide +kernel⟩, List.mem_of_getElem? (i := 146) (by decide +kernel), List.mem_of_getElem? (i := 500) (by decide +kernel), List.mem_of_getElem? (i := 501) (by decide +kernel)⟩
theorem lw_p9 : lw_okq (⟨"NoArmsCrossed$Reader", "readNumber", "(LNoArmsCrossed$Shelf;I)I"⟩, 1) := ⟨⟨by decide +kernel, by decide +kernel⟩, List.mem_of_getElem? (i := 146) (by decide +kernel), List.mem_of_getElem? (i := 504) (by decide +kernel), List.mem_of_getElem? (i := 505) (by decide +kernel)⟩
theorem lw_p10 : lw_okq (⟨"NoArmsCrossed$Reader", "readGuest", "(LNoArmsCrossed$Shelf;LNoArmsCrossed$Table;)Z"⟩, 1) := ⟨⟨by decide +kernel, by decide +kernel⟩, List.mem_of_getElem? (i := 146) (by decide +kernel), List.mem_of_getElem? (i := 513) (by decide +kernel), List.mem_of_getElem? (i := 514) (by decide +kernel)⟩
theorem lw_p11 : lw_okq (⟨"NoArmsCrossed$Reader", "readPair", "(LNoArmsCrossed$Shelf;LNoArmsCrossed$Table;[I)Z"⟩, 1) := ⟨⟨by decide +kernel, by decide +kernel⟩, List.mem_of_getElem? (i := 146) (by decide +kernel), List.mem_of_getElem? (i := 520) (by decide +kernel), List.mem_of_getElem? (i := 521) (by decide +kernel)⟩
theorem lw_p12 : lw_okq (⟨"NoArmsCrossed$Reader", "readEyes", "(LNoArmsCrossed$Shelf;LNoArmsCrossed$Table;)Z"⟩, 1) := ⟨⟨by decide +kernel, by decide +kernel⟩, List.mem_of_getElem? (i := 146) (by decide +kernel), List.mem_of_getElem? (i := 536) (by decide +kernel), List.mem_of_getElem? (i := 537) (by decide +kernel)⟩
theorem lw_p13 : lw_okq (⟨"NoArmsCrossed$Reader", "readMove", "(LNoArmsCrossed$Shelf;LNoArmsCrossed$Table;)Z"⟩, 1) := ⟨⟨by decide +kernel, by decide +kernel⟩, List.mem_of_getElem? (i := 146) (by decide +kernel), List.mem_of_getElem? (i := 541) (by decide +kernel), List.mem_of_getElem? (i := 542) (by decide +kernel)⟩
theorem lw_p14 : lw_okq (⟨"NoArmsCrossed$Table", "hasKind", "(III)Z"⟩, 11) := ⟨⟨by decide +kernel, by decide +kernel⟩, List.mem_of_getElem? (i := 26) (by decide +kernel), List.mem_of_getElem? (i := 580) (by decide +kernel), List.mem_of_getElem? (i := 581) (by decide +kernel)⟩
theorem lw_p15 : lw_okq (⟨"NoArmsCrossed$Table", "sitsBetween", "(III)Z"⟩, 11) := ⟨⟨by decide +kernel, by decide +kernel⟩, List.mem_of_getElem? (i := 26) (by decide +kernel), List.mem_of_getElem? (i := 584) (by decide +kernel), List.mem_of_getElem? (i := 585) (by decide +kernel)⟩
def lw_privs_1 : List (MethodName × Nat) := [(⟨"NoArmsCrossed", "refuse", "(I)I"⟩, 11), (⟨"NoArmsCrossed", "refusalOfRow", "(I)I"⟩, 11), (⟨"NoArmsCrossed$Shelf", "kept", "(J)J"⟩, 3), (⟨"NoArmsCrossed", "wordsOf", "(II)I"⟩, 11), (⟨"NoArmsCrossed", "refusalOfPair", "(II)I"⟩, 11), (⟨"NoArmsCrossed$Reader", "readItem", "(LNoArmsCrossed$Shelf;LNoArmsCrossed$Table;)Z"⟩, 1), (⟨"NoArmsCrossed$Reader", "readWordIf", "(ZLNoArmsCrossed$Shelf;Ljava/lang/String;)Z"⟩, 1), (⟨"NoArmsCrossed$Reader", "readWord", "(LNoArmsCrossed$Shelf;Ljava/lang/String;)Z"⟩, 1), (⟨"NoArmsCrossed$Reader", "readSeats", "(LNoArmsCrossed$Shelf;LNoArmsCrossed$Table;)Z"⟩, 1), (⟨"NoArmsCrossed$Reader", "readNumber", "(LNoArmsCrossed$Shelf;I)I"⟩, 1), (⟨"NoArmsCrossed$Reader", "readGuest", "(LNoArmsCrossed$Shelf;LNoArmsCrossed$Table;)Z"⟩, 1), (⟨"NoArmsCrossed$Reader", "readPair", "(LNoArmsCrossed$Shelf;LNoArmsCrossed$Table;[I)Z"⟩, 1), (⟨"NoArmsCrossed$Reader", "readEyes", "(LNoArmsCrossed$Shelf;LNoArmsCrossed$Table;)Z"⟩, 1), (⟨"NoArmsCrossed$Reader", "readMove", "(LNoArmsCrossed$Shelf;LNoArmsCrossed$Table;)Z"⟩, 1), (⟨"NoArmsCrossed$Table", "hasKind", "(III)Z"⟩, 11), (⟨"NoArmsCrossed$Table", "sitsBetween", "(III)Z"⟩, 11)]
theorem lw_r1 : ∀ q ∈ lw_privs_1, lw_okq q := List.forall_mem_cons.mpr ⟨lw_p0, List.forall_mem_cons.mpr ⟨lw_p1, List.forall_mem_cons.mpr ⟨lw_p2, List.forall_mem_cons.mpr ⟨lw_p3, List.forall_mem_cons.mpr ⟨lw_p4, List.forall_mem_cons.mpr ⟨lw_p5, List.forall_mem_cons.mpr ⟨lw_p6, List.forall_mem_cons.mpr ⟨lw_p7, List.forall_mem_cons.mpr ⟨lw_p8, List.forall_mem_cons.mpr ⟨lw_p9, List.forall_mem_cons.mpr ⟨lw_p10, List.forall_mem_cons.mpr ⟨lw_p11, List.forall_mem_cons.mpr ⟨lw_p12, List.forall_mem_cons.mpr ⟨lw_p13, List.forall_mem_cons.mpr ⟨lw_p14, List.forall_mem_cons.mpr ⟨lw_p15, fun _ h => absurd h List.not_mem_nil⟩⟩⟩⟩⟩⟩⟩⟩⟩⟩⟩⟩⟩⟩⟩⟩
theorem lw_p16 : lw_okq (⟨"NoArmsCrossed$Plan", "addPair", "(LNoArmsCrossed$Table;II)V"⟩, 10) := ⟨⟨by decide +kernel, by decide +kernel⟩, List.mem_of_getElem? (i := 87) (by decide +kernel), List.mem_of_getElem? (i := 598) (by decide +kernel), List.mem_of_getElem? (i := 599) (by decide +kernel)⟩
theorem lw_p17 : lw_okq (⟨"NoArmsCrossed$Plan", "guestsOf", "(I)I"⟩, 10) := ⟨⟨by decide +kernel, by decide +kernel⟩, List.mem_of_getElem? (i := 87) (by decide +kernel), List.mem_of_getElem? (i := 603) (by decide +kernel), List.mem_of_getElem? (i := 604) (by decide +kernel)⟩
theorem lw_p18 : lw_okq (⟨"NoArmsCrossed$Plan", "note", "([JI)V"⟩, 10) := ⟨⟨by decide +kernel, by decide +kernel⟩, List.mem_of_getElem? (i := 87) (by decide +kernel), List.mem_of_getElem? (i := 608) (by decide +kernel), List.mem_of_getElem? (i := 609) (by decide +kernel)⟩
theorem lw_p19 : lw_okq (⟨"NoArmsCrossed$Plan", "guestsIn", "(J)I"⟩, 10) := ⟨⟨by decide +kernel, by decide +kernel⟩, List.mem_of_getElem? (i := 87) (by decide +kernel), List.mem_of_getElem? (i := 632) (by decide +kernel), List.mem_of_getElem? (i := 633) (by decide +kernel)⟩
theorem lw_p20 : lw_okq (⟨"NoArmsCrossed$Plan", "roomFrom", "(II)I"⟩, 10) := ⟨⟨by decide +kernel, by decide +kernel⟩, List.mem_of_getElem? (i := 87) (by decide +kernel), List.mem_of_getElem? (i := 642) (by decide +kernel), List.mem_of_getElem? (i := 643) (by decide +kernel)⟩
theorem lw_p21 : lw_okq (⟨"NoArmsCrossed", "toldOfSet", "(JI)I"⟩, 11) := ⟨⟨by decide +kernel, by decide +kernel⟩, List.mem_of_getElem? (i := 18) (by decide +kernel), List.mem_of_getElem? (i := 648) (by decide +kernel), List.mem_of_getElem? (i := 649) (by decide +kernel)⟩
theorem lw_p22 : lw_okq (⟨"NoArmsCrossed$Plan", "partsWith", "(II)I"⟩, 10) := ⟨⟨by decide +kernel, by decide +kernel⟩, List.mem_of_getElem? (i := 87) (by decide +kernel), List.mem_of_getElem? (i := 696) (by decide +kernel), List.mem_of_getElem? (i := 697) (by decide +kernel)⟩
theorem lw_p23 : lw_okq (⟨"NoArmsCrossed", "bestFreeSeat", "(II)I"⟩, 11) := ⟨⟨by decide +kernel, by decide +kernel⟩, List.mem_of_getElem? (i := 18) (by decide +kernel), List.mem_of_getElem? (i := 745) (by decide +kernel), List.mem_of_getElem? (i := 746) (by decide +kernel)⟩
theorem lw_p24 : lw_okq (⟨"NoArmsCrossed", "refusalOfEvening", "(II)I"⟩, 11) := ⟨⟨by decide +kernel, by decide +kernel⟩, List.mem_of_getElem? (i := 18) (by decide +kernel), List.mem_of_getElem? (i := 757) (by decide +kernel), List.mem_of_getElem? (i := 758) (by decide +kernel)⟩
theorem lw_p25 : lw_okq (⟨"NoArmsCrossed", "refuseLower", "(I)I"⟩, 11) := ⟨⟨by decide +kernel, by decide +kernel⟩, List.mem_of_getElem? (i := 18) (by decide +kernel), List.mem_of_getElem? (i := 761) (by decide +kernel), List.mem_of_getElem? (i := 762) (by decide +kernel)⟩
theorem lw_p26 : lw_okq (⟨"NoArmsCrossed", "disputed", "(LNoArmsCrossed$Shelf;I)I"⟩, 11) := ⟨⟨by decide +kernel, by decide +kernel⟩, List.mem_of_getElem? (i := 18) (by decide +kernel), List.mem_of_getElem? (i := 787) (by decide +kernel), List.mem_of_getElem? (i := 788) (by decide +kernel)⟩
theorem lw_p27 : lw_okq (⟨"NoArmsCrossed", "liar", "(LNoArmsCrossed$Shelf;)I"⟩, 11) := ⟨⟨by decide +kernel, by decide +kernel⟩, List.mem_of_getElem? (i := 18) (by decide +kernel), List.mem_of_getElem? (i := 791) (by decide +kernel), List.mem_of_getElem? (i := 792) (by decide +kernel)⟩
theorem lw_p28 : lw_okq (⟨"NoArmsCrossed", "clinkTogether", "(J)I"⟩, 11) := ⟨⟨by decide +kernel, by decide +kernel⟩, List.mem_of_getElem? (i := 18) (by decide +kernel), List.mem_of_getElem? (i := 822) (by decide +kernel), List.mem_of_getElem? (i := 823) (by decide +kernel)⟩
theorem lw_p29 : lw_okq (⟨"NoArmsCrossed", "emptyShelvesOfGone", "()V"⟩, 11) := ⟨⟨by decide +kernel, by decide +kernel⟩, List.mem_of_getElem? (i := 18) (by decide +kernel), List.mem_of_getElem? (i := 841) (by decide +kernel), List.mem_of_getElem? (i := 842) (by decide +kernel)⟩
theorem lw_p30 : lw_okq (⟨"NoArmsCrossed", "feastOnce", "()V"⟩, 11) := ⟨⟨by decide +kernel, by decide +kernel⟩, List.mem_of_getElem? (i := 18) (by decide +kernel), List.mem_of_getElem? (i := 849) (by decide +kernel), List.mem_of_getElem? (i := 850) (by decide +kernel)⟩
theorem lw_p31 : lw_okq (⟨"NoArmsCrossed$Acts", "clinksOf", "(I)I"⟩, 5) := ⟨⟨by decide +kernel, by decide +kernel⟩, List.mem_of_getElem? (i := 157) (by decide +kernel), List.mem_of_getElem? (i := 876) (by decide +kernel), List.mem_of_getElem? (i := 877) (by decide +kernel)⟩
def lw_privs_2 : List (MethodName × Nat) := [(⟨"NoArmsCrossed$Plan", "addPair", "(LNoArmsCrossed$Table;II)V"⟩, 10), (⟨"NoArmsCrossed$Plan", "guestsOf", "(I)I"⟩, 10), (⟨"NoArmsCrossed$Plan", "note", "([JI)V"⟩, 10), (⟨"NoArmsCrossed$Plan", "guestsIn", "(J)I"⟩, 10), (⟨"NoArmsCrossed$Plan", "roomFrom", "(II)I"⟩, 10), (⟨"NoArmsCrossed", "toldOfSet", "(JI)I"⟩, 11), (⟨"NoArmsCrossed$Plan", "partsWith", "(II)I"⟩, 10), (⟨"NoArmsCrossed", "bestFreeSeat", "(II)I"⟩, 11), (⟨"NoArmsCrossed", "refusalOfEvening", "(II)I"⟩, 11), (⟨"NoArmsCrossed", "refuseLower", "(I)I"⟩, 11), (⟨"NoArmsCrossed", "disputed", "(LNoArmsCrossed$Shelf;I)I"⟩, 11), (⟨"NoArmsCrossed", "liar", "(LNoArmsCrossed$Shelf;)I"⟩, 11), (⟨"NoArmsCrossed", "clinkTogether", "(J)I"⟩, 11), (⟨"NoArmsCrossed", "emptyShelvesOfGone", "()V"⟩, 11), (⟨"NoArmsCrossed", "feastOnce", "()V"⟩, 11), (⟨"NoArmsCrossed$Acts", "clinksOf", "(I)I"⟩, 5)]
theorem lw_r2 : ∀ q ∈ lw_privs_2, lw_okq q := List.forall_mem_cons.mpr ⟨lw_p16, List.forall_mem_cons.mpr ⟨lw_p17, List.forall_mem_cons.mpr ⟨lw_p18, List.forall_mem_cons.mpr ⟨lw_p19, List.forall_mem_cons.mpr ⟨lw_p20, List.forall_mem_cons.mpr ⟨lw_p21, List.forall_mem_cons.mpr ⟨lw_p22, List.forall_mem_cons.mpr ⟨lw_p23, List.forall_mem_cons.mpr ⟨lw_p24, List.forall_mem_cons.mpr ⟨lw_p25, List.forall_mem_cons.mpr ⟨lw_p26, List.forall_mem_cons.mpr ⟨lw_p27, List.forall_mem_cons.mpr ⟨lw_p28, List.forall_mem_cons.mpr ⟨lw_p29, List.forall_mem_cons.mpr ⟨lw_p30, List.forall_mem_cons.mpr ⟨lw_p31, fun _ h => absurd h List.not_mem_nil⟩⟩⟩⟩⟩⟩⟩⟩⟩⟩⟩⟩⟩⟩⟩⟩
theorem lw_p32 : lw_okq (⟨"NoArmsCrossed$Acts", "beginIf", "(II)V"⟩, 5) := ⟨⟨by decide +kernel, by decide +kernel⟩, List.mem_of_getElem? (i := 157) (by decide +kernel), List.mem_of_getElem? (i := 880) (by decide +kernel), List.mem_of_getElem? (i := 881) (by decide +kernel)⟩
theorem lw_p33 : lw_okq (⟨"NoArmsCrossed$Acts", "is", "(I)Z"⟩, 5) := ⟨⟨by decide +kernel, by decide +kernel⟩, List.mem_of_getElem? (i := 157) (by decide +kernel), List.mem_of_getElem? (i := 884) (by decide +kernel), List.mem_of_getElem? (i := 885) (by decide +kernel)⟩
theorem lw_p34 : lw_okq (⟨"NoArmsCrossed$Acts", "begin", "(I)V"⟩, 5) := ⟨⟨by decide +kernel, by decide +kernel⟩, List.mem_of_getElem? (i := 157) (by decide +kernel), List.mem_of_getElem? (i := 888) (by decide +kernel), List.mem_of_getElem? (i := 889) (by decide +kernel)⟩
theorem lw_p35 : lw_okq (⟨"NoArmsCrossed$Acts", "waitsOf", "(I)I"⟩, 5) := ⟨⟨by decide +kernel, by decide +kernel⟩, List.mem_of_getElem? (i := 157) (by decide +kernel), List.mem_of_getElem? (i := 892) (by decide +kernel), List.mem_of_getElem? (i := 893) (by decide +kernel)⟩
theorem lw_p36 : lw_okq (⟨"NoArmsCrossed$Acts", "looksOf", "(I)I"⟩, 5) := ⟨⟨by decide +kernel, by decide +kernel⟩, List.mem_of_getElem? (i := 157) (by decide +kernel), List.mem_of_getElem? (i := 896) (by decide +kernel), List.mem_of_getElem? (i := 897) (by decide +kernel)⟩
theorem lw_p37 : lw_okq (⟨"NoArmsCrossedModel", "isShelf", "(I)Z"⟩, 42) := ⟨⟨by decide +kernel, by decide +kernel⟩, List.mem_of_getElem? (i := 924) (by decide +kernel), List.mem_of_getElem? (i := 1061) (by decide +kernel), List.mem_of_getElem? (i := 1062) (by decide +kernel)⟩
theorem lw_p38 : lw_okq (⟨"NoArmsCrossedModel", "no", "(I)I"⟩, 42) := ⟨⟨by decide +kernel, by decide +kernel⟩, List.mem_of_getElem? (i := 924) (by decide +kernel), List.mem_of_getElem? (i := 1065) (by decide +kernel), List.mem_of_getElem? (i := 1066) (by decide +kernel)⟩
theorem lw_p39 : lw_okq (⟨"NoArmsCrossedModel", "isGuest", "(I)Z"⟩, 42) := ⟨⟨by decide +kernel, by decide +kernel⟩, List.mem_of_getElem? (i := 924) (by decide +kernel), List.mem_of_getElem? (i := 1085) (by decide +kernel), List.mem_of_getElem? (i := 1086) (by decide +kernel)⟩
theorem lw_p40 : lw_okq (⟨"NoArmsCrossedModel", "mayBe", "(II)Z"⟩, 42) := ⟨⟨by decide +kernel, by decide +kernel⟩, List.mem_of_getElem? (i := 924) (by decide +kernel), List.mem_of_getElem? (i := 1097) (by decide +kernel), List.mem_of_getElem? (i := 1098) (by decide +kernel)⟩
theorem lw_p41 : lw_okq (⟨"NoArmsCrossedModel", "isIn", "(II)Z"⟩, 42) := ⟨⟨by decide +kernel, by decide +kernel⟩, List.mem_of_getElem? (i := 924) (by decide +kernel), List.mem_of_getElem? (i := 1101) (by decide +kernel), List.mem_of_getElem? (i := 1102) (by decide +kernel)⟩
theorem lw_p42 : lw_okq (⟨"NoArmsCrossedModel", "farOf", "(II)I"⟩, 42) := ⟨⟨by decide +kernel, by decide +kernel⟩, List.mem_of_getElem? (i := 924) (by decide +kernel), List.mem_of_getElem? (i := 1105) (by decide +kernel), List.mem_of_getElem? (i := 1106) (by decide +kernel)⟩
theorem lw_p43 : lw_okq (⟨"NoArmsCrossedModel", "reaches", "(II)Z"⟩, 42) := ⟨⟨by decide +kernel, by decide +kernel⟩, List.mem_of_getElem? (i := 924) (by decide +kernel), List.mem_of_getElem? (i := 1109) (by decide +kernel), List.mem_of_getElem? (i := 1110) (by decide +kernel)⟩
theorem lw_p44 : lw_okq (⟨"NoArmsCrossedModel", "lacks", "(I)I"⟩, 42) := ⟨⟨by decide +kernel, by decide +kernel⟩, List.mem_of_getElem? (i := 924) (by decide +kernel), List.mem_of_getElem? (i := 1113) (by decide +kernel), List.mem_of_getElem? (i := 1114) (by decide +kernel)⟩
theorem lw_p45 : lw_okq (⟨"NoArmsCrossedModel", "isWanted", "(II)Z"⟩, 42) := ⟨⟨by decide +kernel, by decide +kernel⟩, List.mem_of_getElem? (i := 924) (by decide +kernel), List.mem_of_getElem? (i := 1117) (by decide +kernel), List.mem_of_getElem? (i := 1118) (by decide +kernel)⟩
theorem lw_p46 : lw_okq (⟨"NoArmsCrossedModel", "count", "(I)I"⟩, 42) := ⟨⟨by decide +kernel, by decide +kernel⟩, List.mem_of_getElem? (i := 924) (by decide +kernel), List.mem_of_getElem? (i := 1121) (by decide +kernel), List.mem_of_getElem? (i := 1122) (by decide +kernel)⟩
theorem lw_p47 : lw_okq (⟨"NoArmsCrossedModel", "isFree", "(I)Z"⟩, 42) := ⟨⟨by decide +kernel, by decide +kernel⟩, List.mem_of_getElem? (i := 924) (by decide +kernel), List.mem_of_getElem? (i := 1133) (by decide +kernel), List.mem_of_getElem? (i := 1134) (by decide +kernel)⟩
def lw_privs_3 : List (MethodName × Nat) := [(⟨"NoArmsCrossed$Acts", "beginIf", "(II)V"⟩, 5), (⟨"NoArmsCrossed$Acts", "is", "(I)Z"⟩, 5), (⟨"NoArmsCrossed$Acts", "begin", "(I)V"⟩, 5), (⟨"NoArmsCrossed$Acts", "waitsOf", "(I)I"⟩, 5), (⟨"NoArmsCrossed$Acts", "looksOf", "(I)I"⟩, 5), (⟨"NoArmsCrossedModel", "isShelf", "(I)Z"⟩, 42), (⟨"NoArmsCrossedModel", "no", "(I)I"⟩, 42), (⟨"NoArmsCrossedModel", "isGuest", "(I)Z"⟩, 42), (⟨"NoArmsCrossedModel", "mayBe", "(II)Z"⟩, 42), (⟨"NoArmsCrossedModel", "isIn", "(II)Z"⟩, 42), (⟨"NoArmsCrossedModel", "farOf", "(II)I"⟩, 42), (⟨"NoArmsCrossedModel", "reaches", "(II)Z"⟩, 42), (⟨"NoArmsCrossedModel", "lacks", "(I)I"⟩, 42), (⟨"NoArmsCrossedModel", "isWanted", "(II)Z"⟩, 42), (⟨"NoArmsCrossedModel", "count", "(I)I"⟩, 42), (⟨"NoArmsCrossedModel", "isFree", "(I)Z"⟩, 42)]
theorem lw_r3 : ∀ q ∈ lw_privs_3, lw_okq q := List.forall_mem_cons.mpr ⟨lw_p32, List.forall_mem_cons.mpr ⟨lw_p33, List.forall_mem_cons.mpr ⟨lw_p34, List.forall_mem_cons.mpr ⟨lw_p35, List.forall_mem_cons.mpr ⟨lw_p36, List.forall_mem_cons.mpr ⟨lw_p37, List.forall_mem_cons.mpr ⟨lw_p38, List.forall_mem_cons.mpr ⟨lw_p39, List.forall_mem_cons.mpr ⟨lw_p40, List.forall_mem_cons.mpr ⟨lw_p41, List.forall_mem_cons.mpr ⟨lw_p42, List.forall_mem_cons.mpr ⟨lw_p43, List.forall_mem_cons.mpr ⟨lw_p44, List.forall_mem_cons.mpr ⟨lw_p45, List.forall_mem_cons.mpr ⟨lw_p46, List.forall_mem_cons.mpr ⟨lw_p47, fun _ h => absurd h List.not_mem_nil⟩⟩⟩⟩⟩⟩⟩⟩⟩⟩⟩⟩⟩⟩⟩⟩
theorem lw_p48 : lw_okq (⟨"NoArmsCrossedModel", "guestAt", "(I)I"⟩, 42) := ⟨⟨by decide +kernel, by decide +kernel⟩, List.mem_of_getElem? (i := 924) (by decide +kernel), List.mem_of_getElem? (i := 1137) (by decide +kernel), List.mem_of_getElem? (i := 1138) (by decide +kernel)⟩
theorem lw_p49 : lw_okq (⟨"NoArmsCrossedModel", "adds", "(III)I"⟩, 42) := ⟨⟨by decide +kernel, by decide +kernel⟩, List.mem_of_getElem? (i := 924) (by decide +kernel), List.mem_of_getElem? (i := 1141) (by decide +kernel), List.mem_of_getElem? (i := 1142) (by decide +kernel)⟩
theorem lw_p50 : lw_okq (⟨"NoArmsCrossedModel", "pair", "(II)I"⟩, 42) := ⟨⟨by decide +kernel, by decide +kernel⟩, List.mem_of_getElem? (i := 924) (by decide +kernel), List.mem_of_getElem? (i := 1153) (by decide +kernel), List.mem_of_getElem? (i := 1154) (by decide +kernel)⟩
theorem lw_p51 : lw_okq (⟨"NoArmsCrossedModel", "puts", "([IIIZ)I"⟩, 42) := ⟨⟨by decide +kernel, by decide +kernel⟩, List.mem_of_getElem? (i := 924) (by decide +kernel), List.mem_of_getElem? (i := 1157) (by decide +kernel), List.mem_of_getElem? (i := 1158) (by decide +kernel)⟩
theorem lw_p52 : lw_okq (⟨"NoArmsCrossedModel", "needed", "(I)I"⟩, 42) := ⟨⟨by decide +kernel, by decide +kernel⟩, List.mem_of_getElem? (i := 924) (by decide +kernel), List.mem_of_getElem? (i := 1173) (by decide +kernel), List.mem_of_getElem? (i := 1174) (by decide +kernel)⟩
theorem lw_p53 : lw_okq (⟨"NoArmsCrossedModel", "all", "([IZ)V"⟩, 42) := ⟨⟨by decide +kernel, by decide +kernel⟩, List.mem_of_getElem? (i := 924) (by decide +kernel), List.mem_of_getElem? (i := 1177) (by decide +kernel), List.mem_of_getElem? (i := 1178) (by decide +kernel)⟩
theorem lw_p54 : lw_okq (⟨"NoArmsCrossedModel", "carries", "([II[IIZ)I"⟩, 42) := ⟨⟨by decide +kernel, by decide +kernel⟩, List.mem_of_getElem? (i := 924) (by decide +kernel), List.mem_of_getElem? (i := 1181) (by decide +kernel), List.mem_of_getElem? (i := 1182) (by decide +kernel)⟩
theorem lw_p55 : lw_okq (⟨"NoArmsCrossedModel", "item", "()Z"⟩, 42) := ⟨⟨by decide +kernel, by decide +kernel⟩, List.mem_of_getElem? (i := 924) (by decide +kernel), List.mem_of_getElem? (i := 1185) (by decide +kernel), List.mem_of_getElem? (i := 1186) (by decide +kernel)⟩
theorem lw_p56 : lw_okq (⟨"NoArmsCrossedModel", "isWordAt", "(I)Z"⟩, 42) := ⟨⟨by decide +kernel, by decide +kernel⟩, List.mem_of_getElem? (i := 924) (by decide +kernel), List.mem_of_getElem? (i := 1189) (by decide +kernel), List.mem_of_getElem? (i := 1190) (by decide +kernel)⟩
theorem lw_p57 : lw_okq (⟨"NoArmsCrossedModel", "wrong", "(I)Z"⟩, 42) := ⟨⟨by decide +kernel, by decide +kernel⟩, List.mem_of_getElem? (i := 924) (by decide +kernel), List.mem_of_getElem? (i := 1193) (by decide +kernel), List.mem_of_getElem? (i := 1194) (by decide +kernel)⟩
theorem lw_p58 : lw_okq (⟨"NoArmsCrossedModel", "word", "()I"⟩, 42) := ⟨⟨by decide +kernel, by decide +kernel⟩, List.mem_of_getElem? (i := 924) (by decide +kernel), List.mem_of_getElem? (i := 1197) (by decide +kernel), List.mem_of_getElem? (i := 1198) (by decide +kernel)⟩
theorem lw_p59 : lw_okq (⟨"NoArmsCrossedModel", "reads", "()Z"⟩, 42) := ⟨⟨by decide +kernel, by decide +kernel⟩, List.mem_of_getElem? (i := 924) (by decide +kernel), List.mem_of_getElem? (i := 1201) (by decide +kernel), List.mem_of_getElem? (i := 1202) (by decide +kernel)⟩
theorem lw_p60 : lw_okq (⟨"NoArmsCrossedModel", "isDigit", "()Z"⟩, 42) := ⟨⟨by decide +kernel, by decide +kernel⟩, List.mem_of_getElem? (i := 924) (by decide +kernel), List.mem_of_getElem? (i := 1205) (by decide +kernel), List.mem_of_getElem? (i := 1206) (by decide +kernel)⟩
theorem lw_p61 : lw_okq (⟨"NoArmsCrossedModel", "isSo", "(II)Z"⟩, 42) := ⟨⟨by decide +kernel, by decide +kernel⟩, List.mem_of_getElem? (i := 924) (by decide +kernel), List.mem_of_getElem? (i := 1209) (by decide +kernel), List.mem_of_getElem? (i := 1210) (by decide +kernel)⟩
theorem lw_p62 : lw_okq (⟨"NoArmsCrossedModel", "takesOf", "(II)I"⟩, 42) := ⟨⟨by decide +kernel, by decide +kernel⟩, List.mem_of_getElem? (i := 924) (by decide +kernel), List.mem_of_getElem? (i := 1229) (by decide +kernel), List.mem_of_getElem? (i := 1230) (by decide +kernel)⟩
theorem lw_p63 : lw_okq (⟨"NoArmsCrossedModel", "slow", "(I)I"⟩, 42) := ⟨⟨by decide +kernel, by decide +kernel⟩, List.mem_of_getElem? (i := 924) (by decide +kernel), List.mem_of_getElem? (i := 1233) (by decide +kernel), List.mem_of_getElem? (i := 1234) (by decide +kernel)⟩
def lw_privs_4 : List (MethodName × Nat) := [(⟨"NoArmsCrossedModel", "guestAt", "(I)I"⟩, 42), (⟨"NoArmsCrossedModel", "adds", "(III)I"⟩, 42), (⟨"NoArmsCrossedModel", "pair", "(II)I"⟩, 42), (⟨"NoArmsCrossedModel", "puts", "([IIIZ)I"⟩, 42), (⟨"NoArmsCrossedModel", "needed", "(I)I"⟩, 42), (⟨"NoArmsCrossedModel", "all", "([IZ)V"⟩, 42), (⟨"NoArmsCrossedModel", "carries", "([II[IIZ)I"⟩, 42), (⟨"NoArmsCrossedModel", "item", "()Z"⟩, 42), (⟨"NoArmsCrossedModel", "isWordAt", "(I)Z"⟩, 42), (⟨"NoArmsCrossedModel", "wrong", "(I)Z"⟩, 42), (⟨"NoArmsCrossedModel", "word", "()I"⟩, 42), (⟨"NoArmsCrossedModel", "reads", "()Z"⟩, 42), (⟨"NoArmsCrossedModel", "isDigit", "()Z"⟩, 42), (⟨"NoArmsCrossedModel", "isSo", "(II)Z"⟩, 42), (⟨"NoArmsCrossedModel", "takesOf", "(II)I"⟩, 42), (⟨"NoArmsCrossedModel", "slow", "(I)I"⟩, 42)]
theorem lw_r4 : ∀ q ∈ lw_privs_4, lw_okq q := List.forall_mem_cons.mpr ⟨lw_p48, List.forall_mem_cons.mpr ⟨lw_p49, List.forall_mem_cons.mpr ⟨lw_p50, List.forall_mem_cons.mpr ⟨lw_p51, List.forall_mem_cons.mpr ⟨lw_p52, List.forall_mem_cons.mpr ⟨lw_p53, List.forall_mem_cons.mpr ⟨lw_p54, List.forall_mem_cons.mpr ⟨lw_p55, List.forall_mem_cons.mpr ⟨lw_p56, List.forall_mem_cons.mpr ⟨lw_p57, List.forall_mem_cons.mpr ⟨lw_p58, List.forall_mem_cons.mpr ⟨lw_p59, List.forall_mem_cons.mpr ⟨lw_p60, List.forall_mem_cons.mpr ⟨lw_p61, List.forall_mem_cons.mpr ⟨lw_p62, List.forall_mem_cons.mpr ⟨lw_p63, fun _ h => absurd h List.not_mem_nil⟩⟩⟩⟩⟩⟩⟩⟩⟩⟩⟩⟩⟩⟩⟩⟩
theorem lw_p64 : lw_okq (⟨"NoArmsCrossedModel", "crosses", "(IIII)Z"⟩, 42) := ⟨⟨by decide +kernel, by decide +kernel⟩, List.mem_of_getElem? (i := 924) (by decide +kernel), List.mem_of_getElem? (i := 1241) (by decide +kernel), List.mem_of_getElem? (i := 1242) (by decide +kernel)⟩
theorem lw_p65 : lw_okq (⟨"NoArmsCrossedModel", "isBetween", "(III)Z"⟩, 42) := ⟨⟨by decide +kernel, by decide +kernel⟩, List.mem_of_getElem? (i := 924) (by decide +kernel), List.mem_of_getElem? (i := 1245) (by decide +kernel), List.mem_of_getElem? (i := 1246) (by decide +kernel)⟩
theorem lw_p66 : lw_okq (⟨"NoArmsCrossedModel", "isLeft", "(II)Z"⟩, 42) := ⟨⟨by decide +kernel, by decide +kernel⟩, List.mem_of_getElem? (i := 924) (by decide +kernel), List.mem_of_getElem? (i := 1249) (by decide +kernel), List.mem_of_getElem? (i := 1250) (by decide +kernel)⟩
theorem lw_p67 : lw_okq (⟨"NoArmsCrossedModel", "lists", "()I"⟩, 42) := ⟨⟨by decide +kernel, by decide +kernel⟩, List.mem_of_getElem? (i := 924) (by decide +kernel), List.mem_of_getElem? (i := 1257) (by decide +kernel), List.mem_of_getElem? (i := 1258) (by decide +kernel)⟩
theorem lw_p68 : lw_okq (⟨"NoArmsCrossedModel", "codeOf", "(I)I"⟩, 42) := ⟨⟨by decide +kernel, by decide +kernel⟩, List.mem_of_getElem? (i := 924) (by decide +kernel), List.mem_of_getElem? (i := 1261) (by decide +kernel), List.mem_of_getElem? (i := 1262) (by decide +kernel)⟩
theorem lw_p69 : lw_okq (⟨"NoArmsCrossedModel", "mostOf", "()I"⟩, 42) := ⟨⟨by decide +kernel, by decide +kernel⟩, List.mem_of_getElem? (i := 924) (by decide +kernel), List.mem_of_getElem? (i := 1269) (by decide +kernel), List.mem_of_getElem? (i := 1270) (by decide +kernel)⟩
theorem lw_p70 : lw_okq (⟨"NoArmsCrossedModel", "chooses", "(II)V"⟩, 42) := ⟨⟨by decide +kernel, by decide +kernel⟩, List.mem_of_getElem? (i := 924) (by decide +kernel), List.mem_of_getElem? (i := 1273) (by decide +kernel), List.mem_of_getElem? (i := 1274) (by decide +kernel)⟩
theorem lw_p71 : lw_okq (⟨"NoArmsCrossedModel", "fits", "(II)Z"⟩, 42) := ⟨⟨by decide +kernel, by decide +kernel⟩, List.mem_of_getElem? (i := 924) (by decide +kernel), List.mem_of_getElem? (i := 1277) (by decide +kernel), List.mem_of_getElem? (i := 1278) (by decide +kernel)⟩
theorem lw_p72 : lw_okq (⟨"NoArmsCrossedModel", "keepsHad", "()V"⟩, 42) := ⟨⟨by decide +kernel, by decide +kernel⟩, List.mem_of_getElem? (i := 924) (by decide +kernel), List.mem_of_getElem? (i := 1289) (by decide +kernel), List.mem_of_getElem? (i := 1290) (by decide +kernel)⟩
theorem lw_p73 : lw_okq (⟨"NoArmsCrossedModel", "round", "()I"⟩, 42) := ⟨⟨by decide +kernel, by decide +kernel⟩, List.mem_of_getElem? (i := 924) (by decide +kernel), List.mem_of_getElem? (i := 1293) (by decide +kernel), List.mem_of_getElem? (i := 1294) (by decide +kernel)⟩
theorem lw_p74 : lw_okq (⟨"NoArmsCrossedModel", "bringsHad", "()V"⟩, 42) := ⟨⟨by decide +kernel, by decide +kernel⟩, List.mem_of_getElem? (i := 924) (by decide +kernel), List.mem_of_getElem? (i := 1297) (by decide +kernel), List.mem_of_getElem? (i := 1298) (by decide +kernel)⟩
theorem lw_p75 : lw_okq (⟨"NoArmsCrossedModel", "isAtOnce", "(I)Z"⟩, 42) := ⟨⟨by decide +kernel, by decide +kernel⟩, List.mem_of_getElem? (i := 924) (by decide +kernel), List.mem_of_getElem? (i := 1309) (by decide +kernel), List.mem_of_getElem? (i := 1310) (by decide +kernel)⟩
theorem lw_p76 : lw_okq (⟨"NoArmsCrossedModel", "changes", "(II)V"⟩, 42) := ⟨⟨by decide +kernel, by decide +kernel⟩, List.mem_of_getElem? (i := 924) (by decide +kernel), List.mem_of_getElem? (i := 1333) (by decide +kernel), List.mem_of_getElem? (i := 1334) (by decide +kernel)⟩
theorem lw_p77 : lw_okq (⟨"NoArmsCrossedModel", "barsOf", "(II)I"⟩, 42) := ⟨⟨by decide +kernel, by decide +kernel⟩, List.mem_of_getElem? (i := 924) (by decide +kernel), List.mem_of_getElem? (i := 1345) (by decide +kernel), List.mem_of_getElem? (i := 1346) (by decide +kernel)⟩
theorem lw_p78 : lw_okq (⟨"NoArmsCrossedModel", "bars", "(II)I"⟩, 42) := ⟨⟨by decide +kernel, by decide +kernel⟩, List.mem_of_getElem? (i := 924) (by decide +kernel), List.mem_of_getElem? (i := 1349) (by decide +kernel), List.mem_of_getElem? (i := 1350) (by decide +kernel)⟩
theorem lw_p79 : lw_okq (⟨"NoArmsCrossedModel", "noTen", "(I)I"⟩, 42) := ⟨⟨by decide +kernel, by decide +kernel⟩, List.mem_of_getElem? (i := 924) (by decide +kernel), List.mem_of_getElem? (i := 1353) (by decide +kernel), List.mem_of_getElem? (i := 1354) (by decide +kernel)⟩
def lw_privs_5 : List (MethodName × Nat) := [(⟨"NoArmsCrossedModel", "crosses", "(IIII)Z"⟩, 42), (⟨"NoArmsCrossedModel", "isBetween", "(III)Z"⟩, 42), (⟨"NoArmsCrossedModel", "isLeft", "(II)Z"⟩, 42), (⟨"NoArmsCrossedModel", "lists", "()I"⟩, 42), (⟨"NoArmsCrossedModel", "codeOf", "(I)I"⟩, 42), (⟨"NoArmsCrossedModel", "mostOf", "()I"⟩, 42), (⟨"NoArmsCrossedModel", "chooses", "(II)V"⟩, 42), (⟨"NoArmsCrossedModel", "fits", "(II)Z"⟩, 42), (⟨"NoArmsCrossedModel", "keepsHad", "()V"⟩, 42), (⟨"NoArmsCrossedModel", "round", "()I"⟩, 42), (⟨"NoArmsCrossedModel", "bringsHad", "()V"⟩, 42), (⟨"NoArmsCrossedModel", "isAtOnce", "(I)Z"⟩, 42), (⟨"NoArmsCrossedModel", "changes", "(II)V"⟩, 42), (⟨"NoArmsCrossedModel", "barsOf", "(II)I"⟩, 42), (⟨"NoArmsCrossedModel", "bars", "(II)I"⟩, 42), (⟨"NoArmsCrossedModel", "noTen", "(I)I"⟩, 42)]
theorem lw_r5 : ∀ q ∈ lw_privs_5, lw_okq q := List.forall_mem_cons.mpr ⟨lw_p64, List.forall_mem_cons.mpr ⟨lw_p65, List.forall_mem_cons.mpr ⟨lw_p66, List.forall_mem_cons.mpr ⟨lw_p67, List.forall_mem_cons.mpr ⟨lw_p68, List.forall_mem_cons.mpr ⟨lw_p69, List.forall_mem_cons.mpr ⟨lw_p70, List.forall_mem_cons.mpr ⟨lw_p71, List.forall_mem_cons.mpr ⟨lw_p72, List.forall_mem_cons.mpr ⟨lw_p73, List.forall_mem_cons.mpr ⟨lw_p74, List.forall_mem_cons.mpr ⟨lw_p75, List.forall_mem_cons.mpr ⟨lw_p76, List.forall_mem_cons.mpr ⟨lw_p77, List.forall_mem_cons.mpr ⟨lw_p78, List.forall_mem_cons.mpr ⟨lw_p79, fun _ h => absurd h List.not_mem_nil⟩⟩⟩⟩⟩⟩⟩⟩⟩⟩⟩⟩⟩⟩⟩⟩
theorem lw_p80 : lw_okq (⟨"NoArmsCrossedModel", "wrongIn", "(II)I"⟩, 42) := ⟨⟨by decide +kernel, by decide +kernel⟩, List.mem_of_getElem? (i := 924) (by decide +kernel), List.mem_of_getElem? (i := 1357) (by decide +kernel), List.mem_of_getElem? (i := 1358) (by decide +kernel)⟩
theorem lw_p81 : lw_okq (⟨"NoArmsCrossedModel", "intAt", "(II)I"⟩, 42) := ⟨⟨by decide +kernel, by decide +kernel⟩, List.mem_of_getElem? (i := 924) (by decide +kernel), List.mem_of_getElem? (i := 1361) (by decide +kernel), List.mem_of_getElem? (i := 1362) (by decide +kernel)⟩
theorem lw_p82 : lw_okq (⟨"NoArmsCrossedModel", "unlike", "(II)I"⟩, 42) := ⟨⟨by decide +kernel, by decide +kernel⟩, List.mem_of_getElem? (i := 924) (by decide +kernel), List.mem_of_getElem? (i := 1373) (by decide +kernel), List.mem_of_getElem? (i := 1374) (by decide +kernel)⟩
theorem lw_p83 : lw_okq (⟨"NoArmsCrossedModel", "isShared", "(II)Z"⟩, 42) := ⟨⟨by decide +kernel, by decide +kernel⟩, List.mem_of_getElem? (i := 924) (by decide +kernel), List.mem_of_getElem? (i := 1381) (by decide +kernel), List.mem_of_getElem? (i := 1382) (by decide +kernel)⟩
theorem lw_p84 : lw_okq (⟨"NoArmsCrossedModel", "clinks", "(II)V"⟩, 42) := ⟨⟨by decide +kernel, by decide +kernel⟩, List.mem_of_getElem? (i := 924) (by decide +kernel), List.mem_of_getElem? (i := 1389) (by decide +kernel), List.mem_of_getElem? (i := 1390) (by decide +kernel)⟩
theorem lw_p85 : lw_okq (⟨"NoArmsCrossedModel", "shelvesFall", "()V"⟩, 42) := ⟨⟨by decide +kernel, by decide +kernel⟩, List.mem_of_getElem? (i := 924) (by decide +kernel), List.mem_of_getElem? (i := 1405) (by decide +kernel), List.mem_of_getElem? (i := 1406) (by decide +kernel)⟩
theorem lw_p86 : lw_okq (⟨"NoArmsCrossedModel", "draw", "(I)I"⟩, 42) := ⟨⟨by decide +kernel, by decide +kernel⟩, List.mem_of_getElem? (i := 924) (by decide +kernel), List.mem_of_getElem? (i := 1413) (by decide +kernel), List.mem_of_getElem? (i := 1414) (by decide +kernel)⟩
theorem lw_p87 : lw_okq (⟨"NoArmsCrossedModel", "clinking", "(II)I"⟩, 42) := ⟨⟨by decide +kernel, by decide +kernel⟩, List.mem_of_getElem? (i := 924) (by decide +kernel), List.mem_of_getElem? (i := 1426) (by decide +kernel), List.mem_of_getElem? (i := 1427) (by decide +kernel)⟩
theorem lw_p88 : lw_okq (⟨"NoArmsCrossedModel", "body", "(I)V"⟩, 42) := ⟨⟨by decide +kernel, by decide +kernel⟩, List.mem_of_getElem? (i := 924) (by decide +kernel), List.mem_of_getElem? (i := 1430) (by decide +kernel), List.mem_of_getElem? (i := 1431) (by decide +kernel)⟩
theorem lw_p89 : lw_okq (⟨"NoArmsCrossedModel", "waiting", "(II)I"⟩, 42) := ⟨⟨by decide +kernel, by decide +kernel⟩, List.mem_of_getElem? (i := 924) (by decide +kernel), List.mem_of_getElem? (i := 1434) (by decide +kernel), List.mem_of_getElem? (i := 1435) (by decide +kernel)⟩
theorem lw_p90 : lw_okq (⟨"NoArmsCrossedModel", "looking", "(II)I"⟩, 42) := ⟨⟨by decide +kernel, by decide +kernel⟩, List.mem_of_getElem? (i := 924) (by decide +kernel), List.mem_of_getElem? (i := 1438) (by decide +kernel), List.mem_of_getElem? (i := 1439) (by decide +kernel)⟩
def lw_privs_6 : List (MethodName × Nat) := [(⟨"NoArmsCrossedModel", "wrongIn", "(II)I"⟩, 42), (⟨"NoArmsCrossedModel", "intAt", "(II)I"⟩, 42), (⟨"NoArmsCrossedModel", "unlike", "(II)I"⟩, 42), (⟨"NoArmsCrossedModel", "isShared", "(II)Z"⟩, 42), (⟨"NoArmsCrossedModel", "clinks", "(II)V"⟩, 42), (⟨"NoArmsCrossedModel", "shelvesFall", "()V"⟩, 42), (⟨"NoArmsCrossedModel", "draw", "(I)I"⟩, 42), (⟨"NoArmsCrossedModel", "clinking", "(II)I"⟩, 42), (⟨"NoArmsCrossedModel", "body", "(I)V"⟩, 42), (⟨"NoArmsCrossedModel", "waiting", "(II)I"⟩, 42), (⟨"NoArmsCrossedModel", "looking", "(II)I"⟩, 42)]
theorem lw_r6 : ∀ q ∈ lw_privs_6, lw_okq q := List.forall_mem_cons.mpr ⟨lw_p80, List.forall_mem_cons.mpr ⟨lw_p81, List.forall_mem_cons.mpr ⟨lw_p82, List.forall_mem_cons.mpr ⟨lw_p83, List.forall_mem_cons.mpr ⟨lw_p84, List.forall_mem_cons.mpr ⟨lw_p85, List.forall_mem_cons.mpr ⟨lw_p86, List.forall_mem_cons.mpr ⟨lw_p87, List.forall_mem_cons.mpr ⟨lw_p88, List.forall_mem_cons.mpr ⟨lw_p89, List.forall_mem_cons.mpr ⟨lw_p90, fun _ h => absurd h List.not_mem_nil⟩⟩⟩⟩⟩⟩⟩⟩⟩⟩⟩
def lw_privs : List (MethodName × Nat) := lw_privs_1 ++ (lw_privs_2 ++ (lw_privs_3 ++ (lw_privs_4 ++ (lw_privs_5 ++ (lw_privs_6)))))
def lw_tbl : List Cond := k2_sels lw_privs ++ tables_1
theorem lw_privs_ok : ∀ q ∈ lw_privs, lw_okq q := by
  show ∀ q ∈ lw_privs_1 ++ (lw_privs_2 ++ (lw_privs_3 ++ (lw_privs_4 ++ (lw_privs_5 ++ (lw_privs_6))))), lw_okq q
  exact List.forall_mem_append.mpr ⟨lw_r1, List.forall_mem_append.mpr ⟨lw_r2, List.forall_mem_append.mpr ⟨lw_r3, List.forall_mem_append.mpr ⟨lw_r4, List.forall_mem_append.mpr ⟨lw_r5, lw_r6⟩⟩⟩⟩⟩
end
section
def RX0 : String := "NoArmsCrossed$Acts"
def TX0 : u_T := fun k => match k with
  | 0 => ("NoArmsCrossed$Acts", "bodies", "[I", true)
  | 1 => ("NoArmsCrossed$Acts", "ran", "I", false)
  | 2 => ("NoArmsCrossed$Acts", "line", "I", false)
  | 3 => ("NoArmsCrossed$Acts", "m", "I", false)
  | _ => ("NoArmsCrossed$Acts", "k", "I", false)
def tyX0 : Nat → FieldType := fun k => match k with
  | 0 => .array .int
  | 1 => .int
  | 2 => .int
  | 3 => .int
  | _ => .int
abbrev wsX00 : List Cond := u_ws RX0 TX0 5
theorem nmX0 : ∀ a, a < 5 → ∀ b, b < 5 → a ≠ b → (TX0 a).2.1 ≠ (TX0 b).2.1 := by decide +kernel
theorem tyX0_ok : ∀ k, k < 5 → parseFieldDescriptor (TX0 k).2.2.1 = some (tyX0 k) := by decide +kernel
abbrev cX0_init : ByteArray := prog_2_method_1_code
def yX0_init : MethodName := ⟨RX0, "<init>", "()V"⟩
abbrev cX0_forget : ByteArray := prog_2_method_2_code
def yX0_forget : MethodName := ⟨RX0, "forget", "()V"⟩
abbrev cX0_bodyAt : ByteArray := prog_2_method_3_code
def yX0_bodyAt : MethodName := ⟨RX0, "bodyAt", "(I)I"⟩
abbrev cX0_run : ByteArray := prog_2_method_4_code
def yX0_run : MethodName := ⟨RX0, "run", "(IIIII)I"⟩
abbrev cX0_is : ByteArray := prog_2_method_5_code
def yX0_is : MethodName := ⟨RX0, "is", "(I)Z"⟩
abbrev cX0_begin : ByteArray := prog_2_method_6_code
def yX0_begin : MethodName := ⟨RX0, "begin", "(I)V"⟩
abbrev cX0_beginIf : ByteArray := prog_2_method_7_code
def yX0_beginIf : MethodName := ⟨RX0, "beginIf", "(II)V"⟩
abbrev cX0_clinksOf : ByteArray := prog_2_method_8_code
def yX0_clinksOf : MethodName := ⟨RX0, "clinksOf", "(I)I"⟩
abbrev cX0_waitsOf : ByteArray := prog_2_method_9_code
def yX0_waitsOf : MethodName := ⟨RX0, "waitsOf", "(I)I"⟩
abbrev cX0_looksOf : ByteArray := prog_2_method_10_code
def yX0_looksOf : MethodName := ⟨RX0, "looksOf", "(I)I"⟩
def RX1 : String := "NoArmsCrossed$Evening"
def TX1 : u_T := fun k => match k with
  | 0 => ("NoArmsCrossed$Evening", "left", "J", false)
  | _ => ("NoArmsCrossed$Evening", "parts", "I", false)
def tyX1 : Nat → FieldType := fun k => match k with
  | 0 => .long
  | _ => .int
abbrev wsX10 : List Cond := u_ws RX1 TX1 2
theorem nmX1 : ∀ a, a < 2 → ∀ b, b < 2 → a ≠ b → (TX1 a).2.1 ≠ (TX1 b).2.1 := by decide +kernel
theorem tyX1_ok : ∀ k, k < 2 → parseFieldDescriptor (TX1 k).2.2.1 = some (tyX1 k) := by decide +kernel
abbrev cX1_init : ByteArray := prog_3_method_1_code
def yX1_init : MethodName := ⟨RX1, "<init>", "()V"⟩
abbrev cX1_hear : ByteArray := prog_3_method_2_code
def yX1_hear : MethodName := ⟨RX1, "hear", "(LNoArmsCrossed$Shelf;ILNoArmsCrossed$Plan;)I"⟩
def RX2 : String := "NoArmsCrossed$Plan"
def TX2 : u_T := fun k => match k with
  | 0 => ("NoArmsCrossed$Plan", "lesser", "[I", true)
  | 1 => ("NoArmsCrossed$Plan", "other", "[I", true)
  | 2 => ("NoArmsCrossed$Plan", "spans", "[I", true)
  | 3 => ("NoArmsCrossed$Plan", "crossed", "[J", true)
  | 4 => ("NoArmsCrossed$Plan", "barring", "[J", true)
  | 5 => ("NoArmsCrossed$Plan", "groups", "[J", true)
  | 6 => ("NoArmsCrossed$Plan", "parts", "[I", true)
  | 7 => ("NoArmsCrossed$Plan", "count", "I", false)
  | 8 => ("NoArmsCrossed$Plan", "mostSize", "I", false)
  | _ => ("NoArmsCrossed$Plan", "mostPairs", "J", false)
def tyX2 : Nat → FieldType := fun k => match k with
  | 0 => .array .int
  | 1 => .array .int
  | 2 => .array .int
  | 3 => .array .long
  | 4 => .array .long
  | 5 => .array .long
  | 6 => .array .int
  | 7 => .int
  | 8 => .int
  | _ => .long
abbrev wsX20 : List Cond := u_ws RX2 TX2 10
theorem nmX2 : ∀ a, a < 10 → ∀ b, b < 10 → a ≠ b → (TX2 a).2.1 ≠ (TX2 b).2.1 := by decide +kernel
theorem tyX2_ok : ∀ k, k < 10 → parseFieldDescriptor (TX2 k).2.2.1 = some (tyX2 k) := by decide +kernel
abbrev cX2_init : ByteArray := prog_4_method_1_code
def yX2_init : MethodName := ⟨RX2, "<init>", "()V"⟩
abbrev cX2_draw : ByteArray := prog_4_method_2_code
def yX2_draw : MethodName := ⟨RX2, "draw", "(LNoArmsCrossed$Table;)V"⟩
abbrev cX2_addPair : ByteArray := prog_4_method_3_code
def yX2_addPair : MethodName := ⟨RX2, "addPair", "(LNoArmsCrossed$Table;II)V"⟩
abbrev cX2_note : ByteArray := prog_4_method_4_code
def yX2_note : MethodName := ⟨RX2, "note", "([JI)V"⟩
abbrev cX2_isIn : ByteArray := prog_4_method_5_code
def yX2_isIn : MethodName := ⟨RX2, "isIn", "(JI)Z"⟩
abbrev cX2_all : ByteArray := prog_4_method_6_code
def yX2_all : MethodName := ⟨RX2, "all", "()J"⟩
abbrev cX2_codeOf : ByteArray := prog_4_method_7_code
def yX2_codeOf : MethodName := ⟨RX2, "codeOf", "(I)I"⟩
abbrev cX2_guestsOf : ByteArray := prog_4_method_8_code
def yX2_guestsOf : MethodName := ⟨RX2, "guestsOf", "(I)I"⟩
abbrev cX2_pairTold : ByteArray := prog_4_method_9_code
def yX2_pairTold : MethodName := ⟨RX2, "pairTold", "(JI)I"⟩
abbrev cX2_pairAt : ByteArray := prog_4_method_10_code
def yX2_pairAt : MethodName := ⟨RX2, "pairAt", "(JI)I"⟩
abbrev cX2_guestsIn : ByteArray := prog_4_method_11_code
def yX2_guestsIn : MethodName := ⟨RX2, "guestsIn", "(J)I"⟩
abbrev cX2_largest : ByteArray := prog_4_method_12_code
def yX2_largest : MethodName := ⟨RX2, "largest", "(JI)J"⟩
abbrev cX2_seek : ByteArray := prog_4_method_13_code
def yX2_seek : MethodName := ⟨RX2, "seek", "(LNoArmsCrossed$Plan;IJIJI)V"⟩
abbrev cX2_roomFrom : ByteArray := prog_4_method_14_code
def yX2_roomFrom : MethodName := ⟨RX2, "roomFrom", "(II)I"⟩
abbrev cX2_countLargest : ByteArray := prog_4_method_15_code
def yX2_countLargest : MethodName := ⟨RX2, "countLargest", "()I"⟩
abbrev cX2_countSets : ByteArray := prog_4_method_16_code
def yX2_countSets : MethodName := ⟨RX2, "countSets", "(LNoArmsCrossed$Plan;IJII)I"⟩
abbrev cX2_makeRounds : ByteArray := prog_4_method_17_code
def yX2_makeRounds : MethodName := ⟨RX2, "makeRounds", "(I)I"⟩
abbrev cX2_longest : ByteArray := prog_4_method_18_code
def yX2_longest : MethodName := ⟨RX2, "longest", "(J)I"⟩
abbrev cX2_secondsInRounds : ByteArray := prog_4_method_19_code
def yX2_secondsInRounds : MethodName := ⟨RX2, "secondsInRounds", "()I"⟩
abbrev cX2_secondsAlone : ByteArray := prog_4_method_20_code
def yX2_secondsAlone : MethodName := ⟨RX2, "secondsAlone", "()I"⟩
abbrev cX2_makeLayers : ByteArray := prog_4_method_21_code
def yX2_makeLayers : MethodName := ⟨RX2, "makeLayers", "()I"⟩
abbrev cX2_fewestSets : ByteArray := prog_4_method_22_code
def yX2_fewestSets : MethodName := ⟨RX2, "fewestSets", "()I"⟩
abbrev cX2_partsWith : ByteArray := prog_4_method_23_code
def yX2_partsWith : MethodName := ⟨RX2, "partsWith", "(II)I"⟩
def RX3 : String := "NoArmsCrossed$Reader"
def TX3 : u_T := fun k => match k with
  | _ => ("NoArmsCrossed$Reader", "at", "I", false)
def tyX3 : Nat → FieldType := fun k => match k with
  | _ => .int
abbrev wsX30 : List Cond := u_ws RX3 TX3 1
theorem nmX3 : ∀ a, a < 1 → ∀ b, b < 1 → a ≠ b → (TX3 a).2.1 ≠ (TX3 b).2.1 := by decide +kernel
theorem tyX3_ok : ∀ k, k < 1 → parseFieldDescriptor (TX3 k).2.2.1 = some (tyX3 k) := by decide +kernel
abbrev cX3_init : ByteArray := prog_5_method_1_code
def yX3_init : MethodName := ⟨RX3, "<init>", "()V"⟩
abbrev cX3_read : ByteArray := prog_5_method_2_code
def yX3_read : MethodName := ⟨RX3, "read", "(LNoArmsCrossed$Shelf;LNoArmsCrossed$Table;)I"⟩
abbrev cX3_readItem : ByteArray := prog_5_method_3_code
def yX3_readItem : MethodName := ⟨RX3, "readItem", "(LNoArmsCrossed$Shelf;LNoArmsCrossed$Table;)Z"⟩
abbrev cX3_readWordIf : ByteArray := prog_5_method_4_code
def yX3_readWordIf : MethodName := ⟨RX3, "readWordIf", "(ZLNoArmsCrossed$Shelf;Ljava/lang/String;)Z"⟩
abbrev cX3_readWord : ByteArray := prog_5_method_5_code
def yX3_readWord : MethodName := ⟨RX3, "readWord", "(LNoArmsCrossed$Shelf;Ljava/lang/String;)Z"⟩
abbrev cX3_readNumber : ByteArray := prog_5_method_6_code
def yX3_readNumber : MethodName := ⟨RX3, "readNumber", "(LNoArmsCrossed$Shelf;I)I"⟩
abbrev cX3_digit : ByteArray := prog_5_method_7_code
def yX3_digit : MethodName := ⟨RX3, "digit", "(I)I"⟩
abbrev cX3_readSeats : ByteArray := prog_5_method_8_code
def yX3_readSeats : MethodName := ⟨RX3, "readSeats", "(LNoArmsCrossed$Shelf;LNoArmsCrossed$Table;)Z"⟩
abbrev cX3_readGuest : ByteArray := prog_5_method_9_code
def yX3_readGuest : MethodName := ⟨RX3, "readGuest", "(LNoArmsCrossed$Shelf;LNoArmsCrossed$Table;)Z"⟩
abbrev cX3_readPair : ByteArray := prog_5_method_10_code
def yX3_readPair : MethodName := ⟨RX3, "readPair", "(LNoArmsCrossed$Shelf;LNoArmsCrossed$Table;[I)Z"⟩
abbrev cX3_readEyes : ByteArray := prog_5_method_11_code
def yX3_readEyes : MethodName := ⟨RX3, "readEyes", "(LNoArmsCrossed$Shelf;LNoArmsCrossed$Table;)Z"⟩
abbrev cX3_readMove : ByteArray := prog_5_method_12_code
def yX3_readMove : MethodName := ⟨RX3, "readMove", "(LNoArmsCrossed$Shelf;LNoArmsCrossed$Table;)Z"⟩
def RX4 : String := "NoArmsCrossed$Shelf"
def TX4 : u_T := fun k => match k with
  | 0 => ("NoArmsCrossed$Shelf", "elements", "[J", true)
  | 1 => ("NoArmsCrossed$Shelf", "held", "I", false)
  | _ => ("NoArmsCrossed$Shelf", "length", "I", false)
def tyX4 : Nat → FieldType := fun k => match k with
  | 0 => .array .long
  | 1 => .int
  | _ => .int
abbrev wsX40 : List Cond := u_ws RX4 TX4 3
theorem nmX4 : ∀ a, a < 3 → ∀ b, b < 3 → a ≠ b → (TX4 a).2.1 ≠ (TX4 b).2.1 := by decide +kernel
theorem tyX4_ok : ∀ k, k < 3 → parseFieldDescriptor (TX4 k).2.2.1 = some (tyX4 k) := by decide +kernel
abbrev cX4_init : ByteArray := prog_6_method_1_code
def yX4_init : MethodName := ⟨RX4, "<init>", "()V"⟩
abbrev cX4_isEmpty : ByteArray := prog_6_method_2_code
def yX4_isEmpty : MethodName := ⟨RX4, "isEmpty", "()Z"⟩
abbrev cX4_holdsGuest : ByteArray := prog_6_method_3_code
def yX4_holdsGuest : MethodName := ⟨RX4, "holdsGuest", "()Z"⟩
abbrev cX4_has : ByteArray := prog_6_method_4_code
def yX4_has : MethodName := ⟨RX4, "has", "(I)Z"⟩
abbrev cX4_hasPart : ByteArray := prog_6_method_5_code
def yX4_hasPart : MethodName := ⟨RX4, "hasPart", "(II)Z"⟩
abbrev cX4_hold : ByteArray := prog_6_method_6_code
def yX4_hold : MethodName := ⟨RX4, "hold", "(I)V"⟩
abbrev cX4_become : ByteArray := prog_6_method_7_code
def yX4_become : MethodName := ⟨RX4, "become", "(II)V"⟩
abbrev cX4_put : ByteArray := prog_6_method_8_code
def yX4_put : MethodName := ⟨RX4, "put", "(IJ)V"⟩
abbrev cX4_kept : ByteArray := prog_6_method_9_code
def yX4_kept : MethodName := ⟨RX4, "kept", "(J)J"⟩
abbrev cX4_number : ByteArray := prog_6_method_10_code
def yX4_number : MethodName := ⟨RX4, "number", "(I)I"⟩
def RX5 : String := "NoArmsCrossed$Table"
def TX5 : u_T := fun k => match k with
  | 0 => ("NoArmsCrossed$Table", "kinds", "[I", true)
  | 1 => ("NoArmsCrossed$Table", "places", "[I", true)
  | 2 => ("NoArmsCrossed$Table", "amounts", "[I", true)
  | 3 => ("NoArmsCrossed$Table", "barredBits", "[I", true)
  | 4 => ("NoArmsCrossed$Table", "hadBits", "[I", true)
  | 5 => ("NoArmsCrossed$Table", "size", "I", false)
  | 6 => ("NoArmsCrossed$Table", "count", "I", false)
  | 7 => ("NoArmsCrossed$Table", "eyeing", "I", false)
  | 8 => ("NoArmsCrossed$Table", "clinks", "I", false)
  | 9 => ("NoArmsCrossed$Table", "seconds", "I", false)
  | _ => ("NoArmsCrossed$Table", "seeded", "I", false)
def tyX5 : Nat → FieldType := fun k => match k with
  | 0 => .array .int
  | 1 => .array .int
  | 2 => .array .int
  | 3 => .array .int
  | 4 => .array .int
  | 5 => .int
  | 6 => .int
  | 7 => .int
  | 8 => .int
  | 9 => .int
  | _ => .int
abbrev wsX50 : List Cond := u_ws RX5 TX5 11
theorem nmX5 : ∀ a, a < 11 → ∀ b, b < 11 → a ≠ b → (TX5 a).2.1 ≠ (TX5 b).2.1 := by decide +kernel
theorem tyX5_ok : ∀ k, k < 11 → parseFieldDescriptor (TX5 k).2.2.1 = some (tyX5 k) := by decide +kernel
abbrev cX5_init : ByteArray := prog_7_method_1_code
def yX5_init : MethodName := ⟨RX5, "<init>", "()V"⟩
abbrev cX5_takeOver : ByteArray := prog_7_method_2_code
def yX5_takeOver : MethodName := ⟨RX5, "takeOver", "(LNoArmsCrossed$Table;)V"⟩
abbrev cX5_exists : ByteArray := prog_7_method_3_code
def yX5_exists : MethodName := ⟨RX5, "exists", "(I)Z"⟩
abbrev cX5_isFull : ByteArray := prog_7_method_4_code
def yX5_isFull : MethodName := ⟨RX5, "isFull", "()Z"⟩
abbrev cX5_isOf : ByteArray := prog_7_method_5_code
def yX5_isOf : MethodName := ⟨RX5, "isOf", "(II)Z"⟩
abbrev cX5_guestBits : ByteArray := prog_7_method_6_code
def yX5_guestBits : MethodName := ⟨RX5, "guestBits", "()I"⟩
abbrev cX5_othersOf : ByteArray := prog_7_method_7_code
def yX5_othersOf : MethodName := ⟨RX5, "othersOf", "(I)I"⟩
abbrev cX5_freeBits : ByteArray := prog_7_method_8_code
def yX5_freeBits : MethodName := ⟨RX5, "freeBits", "()I"⟩
abbrev cX5_isFree : ByteArray := prog_7_method_9_code
def yX5_isFree : MethodName := ⟨RX5, "isFree", "(I)Z"⟩
abbrev cX5_add : ByteArray := prog_7_method_10_code
def yX5_add : MethodName := ⟨RX5, "add", "(III)V"⟩
abbrev cX5_removeLast : ByteArray := prog_7_method_11_code
def yX5_removeLast : MethodName := ⟨RX5, "removeLast", "()V"⟩
abbrev cX5_swap : ByteArray := prog_7_method_12_code
def yX5_swap : MethodName := ⟨RX5, "swap", "(II)V"⟩
abbrev cX5_mark : ByteArray := prog_7_method_13_code
def yX5_mark : MethodName := ⟨RX5, "mark", "([IIIZ)Z"⟩
abbrev cX5_distance : ByteArray := prog_7_method_14_code
def yX5_distance : MethodName := ⟨RX5, "distance", "(II)I"⟩
abbrev cX5_mayClink : ByteArray := prog_7_method_15_code
def yX5_mayClink : MethodName := ⟨RX5, "mayClink", "(II)Z"⟩
abbrev cX5_slownessOf : ByteArray := prog_7_method_16_code
def yX5_slownessOf : MethodName := ⟨RX5, "slownessOf", "(I)I"⟩
abbrev cX5_secondsOf : ByteArray := prog_7_method_17_code
def yX5_secondsOf : MethodName := ⟨RX5, "secondsOf", "(II)I"⟩
abbrev cX5_sitsBetween : ByteArray := prog_7_method_18_code
def yX5_sitsBetween : MethodName := ⟨RX5, "sitsBetween", "(III)Z"⟩
abbrev cX5_hasKind : ByteArray := prog_7_method_19_code
def yX5_hasKind : MethodName := ⟨RX5, "hasKind", "(III)Z"⟩
abbrev cX5_armsCross : ByteArray := prog_7_method_20_code
def yX5_armsCross : MethodName := ⟨RX5, "armsCross", "(IIII)Z"⟩
abbrev cX5_isWanted : ByteArray := prog_7_method_21_code
def yX5_isWanted : MethodName := ⟨RX5, "isWanted", "(II)Z"⟩
abbrev cX5_lacksOf : ByteArray := prog_7_method_22_code
def yX5_lacksOf : MethodName := ⟨RX5, "lacksOf", "(I)I"⟩
abbrev cX5_wantsOf : ByteArray := prog_7_method_23_code
def yX5_wantsOf : MethodName := ⟨RX5, "wantsOf", "(I)I"⟩
abbrev cX5_mayOf : ByteArray := prog_7_method_24_code
def yX5_mayOf : MethodName := ⟨RX5, "mayOf", "(I)I"⟩
abbrev cX5_wantedPairs : ByteArray := prog_7_method_25_code
def yX5_wantedPairs : MethodName := ⟨RX5, "wantedPairs", "()I"⟩
abbrev cX5_hadPairs : ByteArray := prog_7_method_26_code
def yX5_hadPairs : MethodName := ⟨RX5, "hadPairs", "()I"⟩
abbrev cX5_clinkAlone : ByteArray := prog_7_method_27_code
def yX5_clinkAlone : MethodName := ⟨RX5, "clinkAlone", "(II)V"⟩
abbrev cX5_clinkUncounted : ByteArray := prog_7_method_28_code
def yX5_clinkUncounted : MethodName := ⟨RX5, "clinkUncounted", "(II)V"⟩
abbrev cX5_drawBelow : ByteArray := prog_7_method_29_code
def yX5_drawBelow : MethodName := ⟨RX5, "drawBelow", "(I)I"⟩
def RX6 : String := "NoArmsCrossed"
def TX6 : u_T := fun k => match k with
  | 0 => ("NoArmsCrossed", "now", "LNoArmsCrossed$Table;", true)
  | 1 => ("NoArmsCrossed", "draft", "LNoArmsCrossed$Table;", true)
  | 2 => ("NoArmsCrossed", "picture", "LNoArmsCrossed$Table;", true)
  | 3 => ("NoArmsCrossed", "pictured", "Z", false)
  | 4 => ("NoArmsCrossed", "shelves", "[LNoArmsCrossed$Shelf;", true)
  | 5 => ("NoArmsCrossed", "plan", "LNoArmsCrossed$Plan;", true)
  | 6 => ("NoArmsCrossed", "evening", "LNoArmsCrossed$Evening;", true)
  | 7 => ("NoArmsCrossed", "reader", "LNoArmsCrossed$Reader;", true)
  | 8 => ("NoArmsCrossed", "acts", "LNoArmsCrossed$Acts;", true)
  | 9 => ("NoArmsCrossed", "refused", "[I", true)
  | _ => ("NoArmsCrossed", "latestFault", "I", false)
def tyX6 : Nat → FieldType := fun k => match k with
  | 0 => .object "NoArmsCrossed$Table"
  | 1 => .object "NoArmsCrossed$Table"
  | 2 => .object "NoArmsCrossed$Table"
  | 3 => .boolean
  | 4 => .array (.object "NoArmsCrossed$Shelf")
  | 5 => .object "NoArmsCrossed$Plan"
  | 6 => .object "NoArmsCrossed$Evening"
  | 7 => .object "NoArmsCrossed$Reader"
  | 8 => .object "NoArmsCrossed$Acts"
  | 9 => .array .int
  | _ => .int
abbrev wsX60 : List Cond := u_ws RX6 TX6 11
theorem nmX6 : ∀ a, a < 11 → ∀ b, b < 11 → a ≠ b → (TX6 a).2.1 ≠ (TX6 b).2.1 := by decide +kernel
theorem tyX6_ok : ∀ k, k < 11 → parseFieldDescriptor (TX6 k).2.2.1 = some (tyX6 k) := by decide +kernel
abbrev cX6_init : ByteArray := prog_1_method_1_code
def yX6_init : MethodName := ⟨RX6, "<init>", "()V"⟩
abbrev cX6_row : ByteArray := prog_1_method_2_code
def yX6_row : MethodName := ⟨RX6, "row", "(III)I"⟩
abbrev cX6_set : ByteArray := prog_1_method_3_code
def yX6_set : MethodName := ⟨RX6, "set", "(IIJ)I"⟩
abbrev cX6_copy : ByteArray := prog_1_method_4_code
def yX6_copy : MethodName := ⟨RX6, "copy", "(IIIII)I"⟩
abbrev cX6_element : ByteArray := prog_1_method_5_code
def yX6_element : MethodName := ⟨RX6, "element", "(II)J"⟩
abbrev cX6_show : ByteArray := prog_1_method_6_code
def yX6_show : MethodName := ⟨RX6, "show", "(II)I"⟩
abbrev cX6_holds : ByteArray := prog_1_method_7_code
def yX6_holds : MethodName := ⟨RX6, "holds", "(I)I"⟩
abbrev cX6_says : ByteArray := prog_1_method_8_code
def yX6_says : MethodName := ⟨RX6, "says", "(II)I"⟩
abbrev cX6_seats : ByteArray := prog_1_method_9_code
def yX6_seats : MethodName := ⟨RX6, "seats", "(I)I"⟩
abbrev cX6_guest : ByteArray := prog_1_method_10_code
def yX6_guest : MethodName := ⟨RX6, "guest", "(III)I"⟩
abbrev cX6_guestOf : ByteArray := prog_1_method_11_code
def yX6_guestOf : MethodName := ⟨RX6, "guestOf", "(II)I"⟩
abbrev cX6_bar : ByteArray := prog_1_method_12_code
def yX6_bar : MethodName := ⟨RX6, "bar", "(IIZ)I"⟩
abbrev cX6_had : ByteArray := prog_1_method_13_code
def yX6_had : MethodName := ⟨RX6, "had", "(IIZ)I"⟩
abbrev cX6_eyes : ByteArray := prog_1_method_14_code
def yX6_eyes : MethodName := ⟨RX6, "eyes", "(I)I"⟩
abbrev cX6_table : ByteArray := prog_1_method_15_code
def yX6_table : MethodName := ⟨RX6, "table", "(I)I"⟩
abbrev cX6_fault : ByteArray := prog_1_method_16_code
def yX6_fault : MethodName := ⟨RX6, "fault", "()I"⟩
abbrev cX6_far : ByteArray := prog_1_method_17_code
def yX6_far : MethodName := ⟨RX6, "far", "(II)I"⟩
abbrev cX6_may : ByteArray := prog_1_method_18_code
def yX6_may : MethodName := ⟨RX6, "may", "(II)I"⟩
abbrev cX6_takes : ByteArray := prog_1_method_19_code
def yX6_takes : MethodName := ⟨RX6, "takes", "(II)I"⟩
abbrev cX6_cross : ByteArray := prog_1_method_20_code
def yX6_cross : MethodName := ⟨RX6, "cross", "(IIII)I"⟩
abbrev cX6_wanted : ByteArray := prog_1_method_21_code
def yX6_wanted : MethodName := ⟨RX6, "wanted", "(I)I"⟩
abbrev cX6_most : ByteArray := prog_1_method_22_code
def yX6_most : MethodName := ⟨RX6, "most", "(I)I"⟩
abbrev cX6_ways : ByteArray := prog_1_method_23_code
def yX6_ways : MethodName := ⟨RX6, "ways", "()I"⟩
abbrev cX6_rounds : ByteArray := prog_1_method_24_code
def yX6_rounds : MethodName := ⟨RX6, "rounds", "()I"⟩
abbrev cX6_roundOf : ByteArray := prog_1_method_25_code
def yX6_roundOf : MethodName := ⟨RX6, "roundOf", "(II)I"⟩
abbrev cX6_fewest : ByteArray := prog_1_method_26_code
def yX6_fewest : MethodName := ⟨RX6, "fewest", "()I"⟩
abbrev cX6_bound : ByteArray := prog_1_method_27_code
def yX6_bound : MethodName := ⟨RX6, "bound", "()I"⟩
abbrev cX6_lasts : ByteArray := prog_1_method_28_code
def yX6_lasts : MethodName := ⟨RX6, "lasts", "(I)I"⟩
abbrev cX6_leftOut : ByteArray := prog_1_method_29_code
def yX6_leftOut : MethodName := ⟨RX6, "leftOut", "()I"⟩
abbrev cX6_never : ByteArray := prog_1_method_30_code
def yX6_never : MethodName := ⟨RX6, "never", "()I"⟩
abbrev cX6_bestChange : ByteArray := prog_1_method_31_code
def yX6_bestChange : MethodName := ⟨RX6, "bestChange", "()I"⟩
abbrev cX6_freeSeat : ByteArray := prog_1_method_32_code
def yX6_freeSeat : MethodName := ⟨RX6, "freeSeat", "(II)I"⟩
abbrev cX6_judge : ByteArray := prog_1_method_33_code
def yX6_judge : MethodName := ⟨RX6, "judge", "(II)I"⟩
abbrev cX6_behind : ByteArray := prog_1_method_34_code
def yX6_behind : MethodName := ⟨RX6, "behind", "(III)I"⟩
abbrev cX6_told : ByteArray := prog_1_method_35_code
def yX6_told : MethodName := ⟨RX6, "told", "(II)I"⟩
abbrev cX6_layers : ByteArray := prog_1_method_36_code
def yX6_layers : MethodName := ⟨RX6, "layers", "()I"⟩
abbrev cX6_clink : ByteArray := prog_1_method_37_code
def yX6_clink : MethodName := ⟨RX6, "clink", "(II)I"⟩
abbrev cX6_goes : ByteArray := prog_1_method_38_code
def yX6_goes : MethodName := ⟨RX6, "goes", "(I)I"⟩
abbrev cX6_change : ByteArray := prog_1_method_39_code
def yX6_change : MethodName := ⟨RX6, "change", "(II)I"⟩
abbrev cX6_leaves : ByteArray := prog_1_method_40_code
def yX6_leaves : MethodName := ⟨RX6, "leaves", "()I"⟩
abbrev cX6_feast : ByteArray := prog_1_method_41_code
def yX6_feast : MethodName := ⟨RX6, "feast", "(I)I"⟩
abbrev cX6_seed : ByteArray := prog_1_method_42_code
def yX6_seed : MethodName := ⟨RX6, "seed", "(I)I"⟩
abbrev cX6_act : ByteArray := prog_1_method_43_code
def yX6_act : MethodName := ⟨RX6, "act", "(III)I"⟩
abbrev cX6_trace : ByteArray := prog_1_method_44_code
def yX6_trace : MethodName := ⟨RX6, "trace", "(I)I"⟩
abbrev cX6_image : ByteArray := prog_1_method_45_code
def yX6_image : MethodName := ⟨RX6, "image", "()I"⟩
abbrev cX6_restore : ByteArray := prog_1_method_46_code
def yX6_restore : MethodName := ⟨RX6, "restore", "()I"⟩
abbrev cX6_status : ByteArray := prog_1_method_47_code
def yX6_status : MethodName := ⟨RX6, "status", "(I)I"⟩
abbrev cX6_refuse : ByteArray := prog_1_method_48_code
def yX6_refuse : MethodName := ⟨RX6, "refuse", "(I)I"⟩
abbrev cX6_refuseLower : ByteArray := prog_1_method_49_code
def yX6_refuseLower : MethodName := ⟨RX6, "refuseLower", "(I)I"⟩
abbrev cX6_isShelf : ByteArray := prog_1_method_50_code
def yX6_isShelf : MethodName := ⟨RX6, "isShelf", "(I)Z"⟩
abbrev cX6_isKind : ByteArray := prog_1_method_51_code
def yX6_isKind : MethodName := ⟨RX6, "isKind", "(I)Z"⟩
abbrev cX6_isAmount : ByteArray := prog_1_method_52_code
def yX6_isAmount : MethodName := ⟨RX6, "isAmount", "(I)Z"⟩
abbrev cX6_bit : ByteArray := prog_1_method_53_code
def yX6_bit : MethodName := ⟨RX6, "bit", "(I)I"⟩
abbrev cX6_codeOfPair : ByteArray := prog_1_method_54_code
def yX6_codeOfPair : MethodName := ⟨RX6, "codeOfPair", "(II)I"⟩
abbrev cX6_refusalOfRow : ByteArray := prog_1_method_55_code
def yX6_refusalOfRow : MethodName := ⟨RX6, "refusalOfRow", "(I)I"⟩
abbrev cX6_refusalOfPair : ByteArray := prog_1_method_56_code
def yX6_refusalOfPair : MethodName := ⟨RX6, "refusalOfPair", "(II)I"⟩
abbrev cX6_refusalOfEvening : ByteArray := prog_1_method_57_code
def yX6_refusalOfEvening : MethodName := ⟨RX6, "refusalOfEvening", "(II)I"⟩
abbrev cX6_wordsOf : ByteArray := prog_1_method_58_code
def yX6_wordsOf : MethodName := ⟨RX6, "wordsOf", "(II)I"⟩
abbrev cX6_toldOfSet : ByteArray := prog_1_method_59_code
def yX6_toldOfSet : MethodName := ⟨RX6, "toldOfSet", "(JI)I"⟩
abbrev cX6_bestFreeSeat : ByteArray := prog_1_method_60_code
def yX6_bestFreeSeat : MethodName := ⟨RX6, "bestFreeSeat", "(II)I"⟩
abbrev cX6_disputed : ByteArray := prog_1_method_61_code
def yX6_disputed : MethodName := ⟨RX6, "disputed", "(LNoArmsCrossed$Shelf;I)I"⟩
abbrev cX6_liar : ByteArray := prog_1_method_62_code
def yX6_liar : MethodName := ⟨RX6, "liar", "(LNoArmsCrossed$Shelf;)I"⟩
abbrev cX6_clinkTogether : ByteArray := prog_1_method_63_code
def yX6_clinkTogether : MethodName := ⟨RX6, "clinkTogether", "(J)I"⟩
abbrev cX6_feastOnce : ByteArray := prog_1_method_64_code
def yX6_feastOnce : MethodName := ⟨RX6, "feastOnce", "()V"⟩
abbrev cX6_emptyShelvesOfGone : ByteArray := prog_1_method_65_code
def yX6_emptyShelvesOfGone : MethodName := ⟨RX6, "emptyShelvesOfGone", "()V"⟩
def RX7 : String := "NoArmsCrossedModel"
def TX7 : u_T := fun k => match k with
  | 0 => ("NoArmsCrossedModel", "many", "I", false)
  | 1 => ("NoArmsCrossedModel", "seats", "I", false)
  | 2 => ("NoArmsCrossedModel", "eyes", "I", false)
  | 3 => ("NoArmsCrossedModel", "clinked", "I", false)
  | 4 => ("NoArmsCrossedModel", "seconds", "I", false)
  | 5 => ("NoArmsCrossedModel", "seed", "I", false)
  | 6 => ("NoArmsCrossedModel", "fault", "I", false)
  | 7 => ("NoArmsCrossedModel", "refused", "[I", true)
  | 8 => ("NoArmsCrossedModel", "kind", "[I", true)
  | 9 => ("NoArmsCrossedModel", "part", "[I", true)
  | 10 => ("NoArmsCrossedModel", "seat", "[I", true)
  | 11 => ("NoArmsCrossedModel", "barred", "[I", true)
  | 12 => ("NoArmsCrossedModel", "had", "[I", true)
  | 13 => ("NoArmsCrossedModel", "held", "[I", true)
  | 14 => ("NoArmsCrossedModel", "sort", "[I", true)
  | 15 => ("NoArmsCrossedModel", "size", "[I", true)
  | 16 => ("NoArmsCrossedModel", "shown", "[I", true)
  | 17 => ("NoArmsCrossedModel", "cells", "[J", true)
  | 18 => ("NoArmsCrossedModel", "carried", "[J", true)
  | 19 => ("NoArmsCrossedModel", "words", "[I", true)
  | 20 => ("NoArmsCrossedModel", "tell", "[I", true)
  | 21 => ("NoArmsCrossedModel", "base", "I", false)
  | 22 => ("NoArmsCrossedModel", "at", "I", false)
  | 23 => ("NoArmsCrossedModel", "end", "I", false)
  | 24 => ("NoArmsCrossedModel", "number", "I", false)
  | 25 => ("NoArmsCrossedModel", "wrongAt", "I", false)
  | 26 => ("NoArmsCrossedModel", "was", "[I", true)
  | 27 => ("NoArmsCrossedModel", "kept", "[I", true)
  | 28 => ("NoArmsCrossedModel", "one", "[I", true)
  | 29 => ("NoArmsCrossedModel", "two", "[I", true)
  | 30 => ("NoArmsCrossedModel", "pairs", "I", false)
  | 31 => ("NoArmsCrossedModel", "chosen", "[I", true)
  | 32 => ("NoArmsCrossedModel", "best", "[I", true)
  | 33 => ("NoArmsCrossedModel", "bestMany", "I", false)
  | 34 => ("NoArmsCrossedModel", "ways", "I", false)
  | 35 => ("NoArmsCrossedModel", "hadBefore", "[I", true)
  | 36 => ("NoArmsCrossedModel", "least", "[I", true)
  | 37 => ("NoArmsCrossedModel", "told", "I", false)
  | 38 => ("NoArmsCrossedModel", "layer", "[I", true)
  | 39 => ("NoArmsCrossedModel", "trace", "[I", true)
  | 40 => ("NoArmsCrossedModel", "ran", "I", false)
  | _ => ("NoArmsCrossedModel", "isKept", "Z", false)
def tyX7 : Nat → FieldType := fun k => match k with
  | 0 => .int
  | 1 => .int
  | 2 => .int
  | 3 => .int
  | 4 => .int
  | 5 => .int
  | 6 => .int
  | 7 => .array .int
  | 8 => .array .int
  | 9 => .array .int
  | 10 => .array .int
  | 11 => .array .int
  | 12 => .array .int
  | 13 => .array .int
  | 14 => .array .int
  | 15 => .array .int
  | 16 => .array .int
  | 17 => .array .long
  | 18 => .array .long
  | 19 => .array .int
  | 20 => .array .int
  | 21 => .int
  | 22 => .int
  | 23 => .int
  | 24 => .int
  | 25 => .int
  | 26 => .array .int
  | 27 => .array .int
  | 28 => .array .int
  | 29 => .array .int
  | 30 => .int
  | 31 => .array .int
  | 32 => .array .int
  | 33 => .int
  | 34 => .int
  | 35 => .array .int
  | 36 => .array .int
  | 37 => .int
  | 38 => .array .int
  | 39 => .array .int
  | 40 => .int
  | _ => .boolean
abbrev wsX70 : List Cond := u_ws RX7 TX7 42
theorem nmX7 : ∀ a, a < 42 → ∀ b, b < 42 → a ≠ b → (TX7 a).2.1 ≠ (TX7 b).2.1 := by decide +kernel
theorem tyX7_ok : ∀ k, k < 42 → parseFieldDescriptor (TX7 k).2.2.1 = some (tyX7 k) := by decide +kernel
abbrev cX7_init : ByteArray := prog_9_method_1_code
def yX7_init : MethodName := ⟨RX7, "<init>", "()V"⟩
abbrev cX7_no : ByteArray := prog_9_method_2_code
def yX7_no : MethodName := ⟨RX7, "no", "(I)I"⟩
abbrev cX7_noTen : ByteArray := prog_9_method_3_code
def yX7_noTen : MethodName := ⟨RX7, "noTen", "(I)I"⟩
abbrev cX7_isShelf : ByteArray := prog_9_method_4_code
def yX7_isShelf : MethodName := ⟨RX7, "isShelf", "(I)Z"⟩
abbrev cX7_isGuest : ByteArray := prog_9_method_5_code
def yX7_isGuest : MethodName := ⟨RX7, "isGuest", "(I)Z"⟩
abbrev cX7_isIn : ByteArray := prog_9_method_6_code
def yX7_isIn : MethodName := ⟨RX7, "isIn", "(II)Z"⟩
abbrev cX7_count : ByteArray := prog_9_method_7_code
def yX7_count : MethodName := ⟨RX7, "count", "(I)I"⟩
abbrev cX7_row : ByteArray := prog_9_method_8_code
def yX7_row : MethodName := ⟨RX7, "row", "(III)I"⟩
abbrev cX7_set : ByteArray := prog_9_method_9_code
def yX7_set : MethodName := ⟨RX7, "set", "(IIJ)I"⟩
abbrev cX7_copy : ByteArray := prog_9_method_10_code
def yX7_copy : MethodName := ⟨RX7, "copy", "(IIIII)I"⟩
abbrev cX7_element : ByteArray := prog_9_method_11_code
def yX7_element : MethodName := ⟨RX7, "element", "(II)J"⟩
abbrev cX7_show : ByteArray := prog_9_method_12_code
def yX7_show : MethodName := ⟨RX7, "show", "(II)I"⟩
abbrev cX7_holds : ByteArray := prog_9_method_13_code
def yX7_holds : MethodName := ⟨RX7, "holds", "(I)I"⟩
abbrev cX7_says : ByteArray := prog_9_method_14_code
def yX7_says : MethodName := ⟨RX7, "says", "(II)I"⟩
abbrev cX7_needed : ByteArray := prog_9_method_15_code
def yX7_needed : MethodName := ⟨RX7, "needed", "(I)I"⟩
abbrev cX7_intAt : ByteArray := prog_9_method_16_code
def yX7_intAt : MethodName := ⟨RX7, "intAt", "(II)I"⟩
abbrev cX7_bars : ByteArray := prog_9_method_17_code
def yX7_bars : MethodName := ⟨RX7, "bars", "(II)I"⟩
abbrev cX7_guestAt : ByteArray := prog_9_method_18_code
def yX7_guestAt : MethodName := ⟨RX7, "guestAt", "(I)I"⟩
abbrev cX7_isFree : ByteArray := prog_9_method_19_code
def yX7_isFree : MethodName := ⟨RX7, "isFree", "(I)Z"⟩
abbrev cX7_seats : ByteArray := prog_9_method_20_code
def yX7_seats : MethodName := ⟨RX7, "seats", "(I)I"⟩
abbrev cX7_adds : ByteArray := prog_9_method_21_code
def yX7_adds : MethodName := ⟨RX7, "adds", "(III)I"⟩
abbrev cX7_guest : ByteArray := prog_9_method_22_code
def yX7_guest : MethodName := ⟨RX7, "guest", "(III)I"⟩
abbrev cX7_guestOf : ByteArray := prog_9_method_23_code
def yX7_guestOf : MethodName := ⟨RX7, "guestOf", "(II)I"⟩
abbrev cX7_pair : ByteArray := prog_9_method_24_code
def yX7_pair : MethodName := ⟨RX7, "pair", "(II)I"⟩
abbrev cX7_puts : ByteArray := prog_9_method_25_code
def yX7_puts : MethodName := ⟨RX7, "puts", "([IIIZ)I"⟩
abbrev cX7_bar : ByteArray := prog_9_method_26_code
def yX7_bar : MethodName := ⟨RX7, "bar", "(IIZ)I"⟩
abbrev cX7_had : ByteArray := prog_9_method_27_code
def yX7_had : MethodName := ⟨RX7, "had", "(IIZ)I"⟩
abbrev cX7_eyes : ByteArray := prog_9_method_28_code
def yX7_eyes : MethodName := ⟨RX7, "eyes", "(I)I"⟩
abbrev cX7_wrong : ByteArray := prog_9_method_29_code
def yX7_wrong : MethodName := ⟨RX7, "wrong", "(I)Z"⟩
abbrev cX7_isWordAt : ByteArray := prog_9_method_30_code
def yX7_isWordAt : MethodName := ⟨RX7, "isWordAt", "(I)Z"⟩
abbrev cX7_word : ByteArray := prog_9_method_31_code
def yX7_word : MethodName := ⟨RX7, "word", "()I"⟩
abbrev cX7_isDigit : ByteArray := prog_9_method_32_code
def yX7_isDigit : MethodName := ⟨RX7, "isDigit", "()Z"⟩
abbrev cX7_reads : ByteArray := prog_9_method_33_code
def yX7_reads : MethodName := ⟨RX7, "reads", "()Z"⟩
abbrev cX7_isSo : ByteArray := prog_9_method_34_code
def yX7_isSo : MethodName := ⟨RX7, "isSo", "(II)Z"⟩
abbrev cX7_item : ByteArray := prog_9_method_35_code
def yX7_item : MethodName := ⟨RX7, "item", "()Z"⟩
abbrev cX7_carries : ByteArray := prog_9_method_36_code
def yX7_carries : MethodName := ⟨RX7, "carries", "([II[IIZ)I"⟩
abbrev cX7_all : ByteArray := prog_9_method_37_code
def yX7_all : MethodName := ⟨RX7, "all", "([IZ)V"⟩
abbrev cX7_table : ByteArray := prog_9_method_38_code
def yX7_table : MethodName := ⟨RX7, "table", "(I)I"⟩
abbrev cX7_fault : ByteArray := prog_9_method_39_code
def yX7_fault : MethodName := ⟨RX7, "fault", "()I"⟩
abbrev cX7_farOf : ByteArray := prog_9_method_40_code
def yX7_farOf : MethodName := ⟨RX7, "farOf", "(II)I"⟩
abbrev cX7_reaches : ByteArray := prog_9_method_41_code
def yX7_reaches : MethodName := ⟨RX7, "reaches", "(II)Z"⟩
abbrev cX7_mayBe : ByteArray := prog_9_method_42_code
def yX7_mayBe : MethodName := ⟨RX7, "mayBe", "(II)Z"⟩
abbrev cX7_slow : ByteArray := prog_9_method_43_code
def yX7_slow : MethodName := ⟨RX7, "slow", "(I)I"⟩
abbrev cX7_takesOf : ByteArray := prog_9_method_44_code
def yX7_takesOf : MethodName := ⟨RX7, "takesOf", "(II)I"⟩
abbrev cX7_isBetween : ByteArray := prog_9_method_45_code
def yX7_isBetween : MethodName := ⟨RX7, "isBetween", "(III)Z"⟩
abbrev cX7_isLeft : ByteArray := prog_9_method_46_code
def yX7_isLeft : MethodName := ⟨RX7, "isLeft", "(II)Z"⟩
abbrev cX7_crosses : ByteArray := prog_9_method_47_code
def yX7_crosses : MethodName := ⟨RX7, "crosses", "(IIII)Z"⟩
abbrev cX7_far : ByteArray := prog_9_method_48_code
def yX7_far : MethodName := ⟨RX7, "far", "(II)I"⟩
abbrev cX7_may : ByteArray := prog_9_method_49_code
def yX7_may : MethodName := ⟨RX7, "may", "(II)I"⟩
abbrev cX7_takes : ByteArray := prog_9_method_50_code
def yX7_takes : MethodName := ⟨RX7, "takes", "(II)I"⟩
abbrev cX7_cross : ByteArray := prog_9_method_51_code
def yX7_cross : MethodName := ⟨RX7, "cross", "(IIII)I"⟩
abbrev cX7_isWanted : ByteArray := prog_9_method_52_code
def yX7_isWanted : MethodName := ⟨RX7, "isWanted", "(II)Z"⟩
abbrev cX7_lacks : ByteArray := prog_9_method_53_code
def yX7_lacks : MethodName := ⟨RX7, "lacks", "(I)I"⟩
abbrev cX7_lists : ByteArray := prog_9_method_54_code
def yX7_lists : MethodName := ⟨RX7, "lists", "()I"⟩
abbrev cX7_codeOf : ByteArray := prog_9_method_55_code
def yX7_codeOf : MethodName := ⟨RX7, "codeOf", "(I)I"⟩
abbrev cX7_wanted : ByteArray := prog_9_method_56_code
def yX7_wanted : MethodName := ⟨RX7, "wanted", "(I)I"⟩
abbrev cX7_fits : ByteArray := prog_9_method_57_code
def yX7_fits : MethodName := ⟨RX7, "fits", "(II)Z"⟩
abbrev cX7_chooses : ByteArray := prog_9_method_58_code
def yX7_chooses : MethodName := ⟨RX7, "chooses", "(II)V"⟩
abbrev cX7_mostOf : ByteArray := prog_9_method_59_code
def yX7_mostOf : MethodName := ⟨RX7, "mostOf", "()I"⟩
abbrev cX7_most : ByteArray := prog_9_method_60_code
def yX7_most : MethodName := ⟨RX7, "most", "(I)I"⟩
abbrev cX7_ways : ByteArray := prog_9_method_61_code
def yX7_ways : MethodName := ⟨RX7, "ways", "()I"⟩
abbrev cX7_keepsHad : ByteArray := prog_9_method_62_code
def yX7_keepsHad : MethodName := ⟨RX7, "keepsHad", "()V"⟩
abbrev cX7_bringsHad : ByteArray := prog_9_method_63_code
def yX7_bringsHad : MethodName := ⟨RX7, "bringsHad", "()V"⟩
abbrev cX7_round : ByteArray := prog_9_method_64_code
def yX7_round : MethodName := ⟨RX7, "round", "()I"⟩
abbrev cX7_rounds : ByteArray := prog_9_method_65_code
def yX7_rounds : MethodName := ⟨RX7, "rounds", "()I"⟩
abbrev cX7_roundOf : ByteArray := prog_9_method_66_code
def yX7_roundOf : MethodName := ⟨RX7, "roundOf", "(II)I"⟩
abbrev cX7_isAtOnce : ByteArray := prog_9_method_67_code
def yX7_isAtOnce : MethodName := ⟨RX7, "isAtOnce", "(I)Z"⟩
abbrev cX7_fewest : ByteArray := prog_9_method_68_code
def yX7_fewest : MethodName := ⟨RX7, "fewest", "()I"⟩
abbrev cX7_bound : ByteArray := prog_9_method_69_code
def yX7_bound : MethodName := ⟨RX7, "bound", "()I"⟩
abbrev cX7_lasts : ByteArray := prog_9_method_70_code
def yX7_lasts : MethodName := ⟨RX7, "lasts", "(I)I"⟩
abbrev cX7_leftOut : ByteArray := prog_9_method_71_code
def yX7_leftOut : MethodName := ⟨RX7, "leftOut", "()I"⟩
abbrev cX7_never : ByteArray := prog_9_method_72_code
def yX7_never : MethodName := ⟨RX7, "never", "()I"⟩
abbrev cX7_changes : ByteArray := prog_9_method_73_code
def yX7_changes : MethodName := ⟨RX7, "changes", "(II)V"⟩
abbrev cX7_bestChange : ByteArray := prog_9_method_74_code
def yX7_bestChange : MethodName := ⟨RX7, "bestChange", "()I"⟩
abbrev cX7_freeSeat : ByteArray := prog_9_method_75_code
def yX7_freeSeat : MethodName := ⟨RX7, "freeSeat", "(II)I"⟩
abbrev cX7_wrongIn : ByteArray := prog_9_method_76_code
def yX7_wrongIn : MethodName := ⟨RX7, "wrongIn", "(II)I"⟩
abbrev cX7_barsOf : ByteArray := prog_9_method_77_code
def yX7_barsOf : MethodName := ⟨RX7, "barsOf", "(II)I"⟩
abbrev cX7_judge : ByteArray := prog_9_method_78_code
def yX7_judge : MethodName := ⟨RX7, "judge", "(II)I"⟩
abbrev cX7_behind : ByteArray := prog_9_method_79_code
def yX7_behind : MethodName := ⟨RX7, "behind", "(III)I"⟩
abbrev cX7_unlike : ByteArray := prog_9_method_80_code
def yX7_unlike : MethodName := ⟨RX7, "unlike", "(II)I"⟩
abbrev cX7_told : ByteArray := prog_9_method_81_code
def yX7_told : MethodName := ⟨RX7, "told", "(II)I"⟩
abbrev cX7_isShared : ByteArray := prog_9_method_82_code
def yX7_isShared : MethodName := ⟨RX7, "isShared", "(II)Z"⟩
abbrev cX7_layers : ByteArray := prog_9_method_83_code
def yX7_layers : MethodName := ⟨RX7, "layers", "()I"⟩
abbrev cX7_clinks : ByteArray := prog_9_method_84_code
def yX7_clinks : MethodName := ⟨RX7, "clinks", "(II)V"⟩
abbrev cX7_clink : ByteArray := prog_9_method_85_code
def yX7_clink : MethodName := ⟨RX7, "clink", "(II)I"⟩
abbrev cX7_goes : ByteArray := prog_9_method_86_code
def yX7_goes : MethodName := ⟨RX7, "goes", "(I)I"⟩
abbrev cX7_change : ByteArray := prog_9_method_87_code
def yX7_change : MethodName := ⟨RX7, "change", "(II)I"⟩
abbrev cX7_leaves : ByteArray := prog_9_method_88_code
def yX7_leaves : MethodName := ⟨RX7, "leaves", "()I"⟩
abbrev cX7_shelvesFall : ByteArray := prog_9_method_89_code
def yX7_shelvesFall : MethodName := ⟨RX7, "shelvesFall", "()V"⟩
abbrev cX7_draw : ByteArray := prog_9_method_90_code
def yX7_draw : MethodName := ⟨RX7, "draw", "(I)I"⟩
abbrev cX7_feast : ByteArray := prog_9_method_91_code
def yX7_feast : MethodName := ⟨RX7, "feast", "(I)I"⟩
abbrev cX7_seed : ByteArray := prog_9_method_92_code
def yX7_seed : MethodName := ⟨RX7, "seed", "(I)I"⟩
abbrev cX7_body : ByteArray := prog_9_method_93_code
def yX7_body : MethodName := ⟨RX7, "body", "(I)V"⟩
abbrev cX7_clinking : ByteArray := prog_9_method_94_code
def yX7_clinking : MethodName := ⟨RX7, "clinking", "(II)I"⟩
abbrev cX7_waiting : ByteArray := prog_9_method_95_code
def yX7_waiting : MethodName := ⟨RX7, "waiting", "(II)I"⟩
abbrev cX7_looking : ByteArray := prog_9_method_96_code
def yX7_looking : MethodName := ⟨RX7, "looking", "(II)I"⟩
abbrev cX7_act : ByteArray := prog_9_method_97_code
def yX7_act : MethodName := ⟨RX7, "act", "(III)I"⟩
abbrev cX7_trace : ByteArray := prog_9_method_98_code
def yX7_trace : MethodName := ⟨RX7, "trace", "(I)I"⟩
abbrev cX7_image : ByteArray := prog_9_method_99_code
def yX7_image : MethodName := ⟨RX7, "image", "()I"⟩
abbrev cX7_restore : ByteArray := prog_9_method_100_code
def yX7_restore : MethodName := ⟨RX7, "restore", "()I"⟩
abbrev cX7_status : ByteArray := prog_9_method_101_code
def yX7_status : MethodName := ⟨RX7, "status", "(I)I"⟩
def RJ6 : String := "java/lang/Integer"
def TJ6 : u_T := fun k => match k with
  | _ => ("", "", "", false)
def tyJ6 : Nat → FieldType := fun k => match k with
  | _ => .int
abbrev wsJ60 : List Cond := u_ws RJ6 TJ6 0
theorem nmJ6 : ∀ a, a < 0 → ∀ b, b < 0 → a ≠ b → (TJ6 a).2.1 ≠ (TJ6 b).2.1 := by decide +kernel
theorem tyJ6_ok : ∀ k, k < 0 → parseFieldDescriptor (TJ6 k).2.2.1 = some (tyJ6 k) := by decide +kernel
abbrev cJ6_bitCount_0f7a4 : ByteArray := prog_10_method_49_code
def yJ6_bitCount_0f7a4 : MethodName := ⟨RJ6, "bitCount", "(I)I"⟩
def RJ13 : String := "java/lang/Long"
def TJ13 : u_T := fun k => match k with
  | _ => ("", "", "", false)
def tyJ13 : Nat → FieldType := fun k => match k with
  | _ => .int
abbrev wsJ130 : List Cond := u_ws RJ13 TJ13 0
theorem nmJ13 : ∀ a, a < 0 → ∀ b, b < 0 → a ≠ b → (TJ13 a).2.1 ≠ (TJ13 b).2.1 := by decide +kernel
theorem tyJ13_ok : ∀ k, k < 0 → parseFieldDescriptor (TJ13 k).2.2.1 = some (tyJ13 k) := by decide +kernel
abbrev cJ13_bitCount_95d88 : ByteArray := prog_11_method_50_code
def yJ13_bitCount_95d88 : MethodName := ⟨RJ13, "bitCount", "(J)I"⟩
def RJ9 : String := "java/lang/Math"
def TJ9 : u_T := fun k => match k with
  | _ => ("", "", "", false)
def tyJ9 : Nat → FieldType := fun k => match k with
  | _ => .int
abbrev wsJ90 : List Cond := u_ws RJ9 TJ9 0
theorem nmJ9 : ∀ a, a < 0 → ∀ b, b < 0 → a ≠ b → (TJ9 a).2.1 ≠ (TJ9 b).2.1 := by decide +kernel
theorem tyJ9_ok : ∀ k, k < 0 → parseFieldDescriptor (TJ9 k).2.2.1 = some (tyJ9 k) := by decide +kernel
abbrev cJ9_max_7cf53 : ByteArray := prog_12_method_65_code
def yJ9_max_7cf53 : MethodName := ⟨RJ9, "max", "(II)I"⟩
abbrev cJ9_min_7cf53 : ByteArray := prog_12_method_69_code
def yJ9_min_7cf53 : MethodName := ⟨RJ9, "min", "(II)I"⟩
def RJ0 : String := "java/lang/String"
def TJ0 : u_T := fun k => match k with
  | _ => ("", "", "", false)
def tyJ0 : Nat → FieldType := fun k => match k with
  | _ => .int
abbrev wsJ00 : List Cond := u_ws RJ0 TJ0 0
theorem nmJ0 : ∀ a, a < 0 → ∀ b, b < 0 → a ≠ b → (TJ0 a).2.1 ≠ (TJ0 b).2.1 := by decide +kernel
theorem tyJ0_ok : ∀ k, k < 0 → parseFieldDescriptor (TJ0 k).2.2.1 = some (tyJ0 k) := by decide +kernel
abbrev cJ0_length_8abf5 : ByteArray := prog_13_method_54_code
def yJ0_length_8abf5 : MethodName := ⟨RJ0, "length", "()I"⟩
abbrev cJ0_charAt_5068e : ByteArray := prog_13_method_56_code
def yJ0_charAt_5068e : MethodName := ⟨RJ0, "charAt", "(I)C"⟩
abbrev cJ0_coder_7d493 : ByteArray := prog_13_method_152_code
def yJ0_coder_7d493 : MethodName := ⟨RJ0, "coder", "()B"⟩
abbrev cJ0_isLatin1_aae02 : ByteArray := prog_13_method_154_code
def yJ0_isLatin1_aae02 : MethodName := ⟨RJ0, "isLatin1", "()Z"⟩
abbrev cJ0_checkIndex_df160 : ByteArray := prog_13_method_155_code
def yJ0_checkIndex_df160 : MethodName := ⟨RJ0, "checkIndex", "(II)V"⟩
def RJ1 : String := "java/lang/StringLatin1"
def TJ1 : u_T := fun k => match k with
  | _ => ("", "", "", false)
def tyJ1 : Nat → FieldType := fun k => match k with
  | _ => .int
abbrev wsJ10 : List Cond := u_ws RJ1 TJ1 0
theorem nmJ1 : ∀ a, a < 0 → ∀ b, b < 0 → a ≠ b → (TJ1 a).2.1 ≠ (TJ1 b).2.1 := by decide +kernel
theorem tyJ1_ok : ∀ k, k < 0 → parseFieldDescriptor (TJ1 k).2.2.1 = some (tyJ1 k) := by decide +kernel
abbrev cJ1_charAt_3b067 : ByteArray := prog_14_method_2_code
def yJ1_charAt_3b067 : MethodName := ⟨RJ1, "charAt", "([BI)C"⟩
def RJ2 : String := "java/lang/StringUTF16"
def TJ2 : u_T := fun k => match k with
  | _ => ("", "", "", false)
def tyJ2 : Nat → FieldType := fun k => match k with
  | _ => .int
abbrev wsJ20 : List Cond := u_ws RJ2 TJ2 0
theorem nmJ2 : ∀ a, a < 0 → ∀ b, b < 0 → a ≠ b → (TJ2 a).2.1 ≠ (TJ2 b).2.1 := by decide +kernel
theorem tyJ2_ok : ∀ k, k < 0 → parseFieldDescriptor (TJ2 k).2.2.1 = some (tyJ2 k) := by decide +kernel
abbrev cJ2_getChar_3b067 : ByteArray := prog_15_method_5_code
def yJ2_getChar_3b067 : MethodName := ⟨RJ2, "getChar", "([BI)C"⟩
abbrev cJ2_length_9d52b : ByteArray := prog_15_method_6_code
def yJ2_length_9d52b : MethodName := ⟨RJ2, "length", "([B)I"⟩
abbrev cJ2_charAt_3b067 : ByteArray := prog_15_method_83_code
def yJ2_charAt_3b067 : MethodName := ⟨RJ2, "charAt", "([BI)C"⟩
abbrev cJ2_checkIndex_2214a : ByteArray := prog_15_method_91_code
def yJ2_checkIndex_2214a : MethodName := ⟨RJ2, "checkIndex", "(I[B)V"⟩
def RJ10 : String := "java/lang/System"
def TJ10 : u_T := fun k => match k with
  | _ => ("", "", "", false)
def tyJ10 : Nat → FieldType := fun k => match k with
  | _ => .int
abbrev wsJ100 : List Cond := u_ws RJ10 TJ10 0
theorem nmJ10 : ∀ a, a < 0 → ∀ b, b < 0 → a ≠ b → (TJ10 a).2.1 ≠ (TJ10 b).2.1 := by decide +kernel
theorem tyJ10_ok : ∀ k, k < 0 → parseFieldDescriptor (TJ10 k).2.2.1 = some (tyJ10 k) := by decide +kernel
def RJ3 : String := "jdk/internal/util/Preconditions"
def TJ3 : u_T := fun k => match k with
  | _ => ("", "", "", false)
def tyJ3 : Nat → FieldType := fun k => match k with
  | _ => .int
abbrev wsJ30 : List Cond := u_ws RJ3 TJ3 0
theorem nmJ3 : ∀ a, a < 0 → ∀ b, b < 0 → a ≠ b → (TJ3 a).2.1 ≠ (TJ3 b).2.1 := by decide +kernel
theorem tyJ3_ok : ∀ k, k < 0 → parseFieldDescriptor (TJ3 k).2.2.1 = some (tyJ3 k) := by decide +kernel
abbrev cJ3_checkIndex_8e157 : ByteArray := prog_17_method_11_code
def yJ3_checkIndex_8e157 : MethodName := ⟨RJ3, "checkIndex", "(IILjava/util/function/BiFunction;)I"⟩
def RL : String := "NoArmsCrossedLaw"
abbrev cL_law : ByteArray := code
def yL_law : MethodName := ⟨RL, "law", "([I)Z"⟩
abbrev vwCl : List vw_C := [(RX0, TX0, 5), (RX1, TX1, 2), (RX2, TX2, 10), (RX3, TX3, 1), (RX4, TX4, 3), (RX5, TX5, 11), (RX6, TX6, 11), (RX7, TX7, 42)]
set_option maxRecDepth 20000 in
theorem inX0 : ∀ w ∈ wsX00, w ∈ lw_tbl := by decide +kernel
set_option maxRecDepth 20000 in
theorem inX1 : ∀ w ∈ wsX10, w ∈ lw_tbl := by decide +kernel
set_option maxRecDepth 20000 in
theorem inX2 : ∀ w ∈ wsX20, w ∈ lw_tbl := by decide +kernel
set_option maxRecDepth 20000 in
theorem inX3 : ∀ w ∈ wsX30, w ∈ lw_tbl := by decide +kernel
set_option maxRecDepth 20000 in
theorem inX4 : ∀ w ∈ wsX40, w ∈ lw_tbl := by decide +kernel
set_option maxRecDepth 20000 in
theorem inX5 : ∀ w ∈ wsX50, w ∈ lw_tbl := by decide +kernel
set_option maxRecDepth 20000 in
theorem inX6 : ∀ w ∈ wsX60, w ∈ lw_tbl := by decide +kernel
set_option maxRecDepth 20000 in
theorem inX7 : ∀ w ∈ wsX70, w ∈ lw_tbl := by decide +kernel
end
section
/-! THE PURE MACHINE: storage classes (a class's objects, or one array field of it), memory as functions, micro steps as weakest preconditions -/
abbrev zMem : Type := (Nat → Nat → Nat → Int32) × (Nat → Nat → Nat → Int64)
abbrev zWM : Type := zMem × zMem
abbrev zPV : Type := Int32 ⊕ Int64 ⊕ (Nat × Nat)
abbrev zSt : Type := List (Option zPV) × List zPV × zWM
abbrev zOp : Type := Instr × Nat × zPV
abbrev pI (x : Int32) : zPV := .inl x
abbrev pL (x : Int64) : zPV := .inr (.inl x)
abbrev pR (c j : Nat) : zPV := .inr (.inr (c, j))
def zs {α : Type} (f : Nat → Nat → α) (c j : Nat) (g : α) : Nat → Nat → α := fun c' => if c' = c then (fun j' => if j' = j then g else f c j') else f c'
def zp {α : Type} (f : Nat → α) (k : Nat) (x : α) : Nat → α := fun j => if j = k then x else f j
/-- one int, one long, a whole row of a memory -/
def wI (m : zMem) (c j k : Nat) (x : Int32) : zMem := (zs m.1 c j (zp (m.1 c j) k x), m.2)
def wL (m : zMem) (c j k : Nat) (x : Int64) : zMem := (m.1, zs m.2 c j (zp (m.2 c j) k x))
def wIs (m : zMem) (c j : Nat) (g : Nat → Int32) : zMem := (zs m.1 c j g, m.2)
def wLs (m : zMem) (c j : Nat) (g : Nat → Int64) : zMem := (m.1, zs m.2 c j g)
def rdI (M : zWM) (c j : Nat) : Nat → Int32 := bif Nat.ble 64 c then M.2.1 c j else M.1.1 c j
def rdL (M : zWM) (c j : Nat) : Nat → Int64 := bif Nat.ble 64 c then M.2.2 c j else M.1.2 c j
def wrI (M : zWM) (c j : Nat) (g : Nat → Int32) : zWM := bif Nat.ble 64 c then (M.1, wIs M.2 c j g) else (wIs M.1 c j g, M.2)
def wrL (M : zWM) (c j : Nat) (g : Nat → Int64) : zWM := bif Nat.ble 64 c then (M.1, wLs M.2 c j g) else (wLs M.1 c j g, M.2)
/-- an index, and whether it is in -/
abbrev ix (i : Int32) : Nat := i.toNatClampNeg
def inb (i : Int32) (n : Nat) : Bool := Nat.blt i.toNatClampNeg n && decide (¬ i < 0)
def jushr (x y : Int32) : Int32 := (x.toUInt32 >>> (y.toUInt32 &&& Int32.toUInt32 31)).toInt32
def jshl (x y : Int32) : Int32 := x <<< (y &&& 31)
def jshr (x y : Int32) : Int32 := x >>> (y &&& 31)
def jlushr (x : Int64) (y : Int32) : Int64 := (x.toUInt64 >>> (y.toInt64.toUInt64 &&& Int64.toUInt64 63)).toInt64
def jlshl (x : Int64) (y : Int32) : Int64 := x <<< (y.toInt64 &&& 63)
def jlshr (x : Int64) (y : Int32) : Int64 := x >>> (y.toInt64 &&& 63)
def jrem (x y : Int32) : Int32 := x - x / y * y
def jmax (x y : Int32) : Int32 := if x < y then y else x
def jmin (x y : Int32) : Int32 := if y < x then y else x
def jb (x : Int32) : Int32 := x.toInt8.toInt32
def js (x : Int32) : Int32 := x.toInt16.toInt32
def zkd (c : Nat) : Nat := bif Nat.ble 64 c then [0, 1, 1, 1, 1, 1, 1, 1, 1, 1, 1, 2, 2, 1, 1, 1, 1, 1, 1, 1, 1, 1, 1, 1, 1].getD (c - 64) 9 else [0, 0, 1, 1, 1, 1, 1, 3, 0, 2, 0, 1, 1, 1, 2, 2, 2, 1, 0, 0, 0, 1, 1].getD c 9
def zcnt (c : Nat) : Nat := bif Nat.ble 64 c then [1, 1, 1, 1, 1, 1, 1, 1, 1, 1, 1, 1, 1, 1, 1, 1, 1, 1, 1, 1, 1, 1, 1, 1, 1].getD (c - 64) 0 else [1, 3, 3, 3, 3, 3, 3, 1, 8, 8, 1, 1, 1, 1, 1, 1, 1, 1, 1, 1, 1, 1, 1].getD c 0
def zlen (c : Nat) : Nat := bif Nat.ble 64 c then [42, 8, 10, 10, 10, 10, 10, 8, 8, 8, 8, 1280, 160, 36, 3, 60, 60, 45, 45, 5, 5, 10, 1024, 45, 20].getD (c - 64) 0 else [11, 11, 10, 10, 10, 10, 10, 8, 3, 160, 10, 45, 45, 45, 45, 45, 45, 1024, 2, 1, 5, 20, 8].getD c 0
def zci (c : Nat) : Nat := bif Nat.ble 64 c then [7, 0, 0, 0, 0, 0, 0, 0, 0, 0, 0, 0, 0, 0, 0, 0, 0, 0, 0, 0, 0, 0, 0, 0, 0].getD (c - 64) 0 else [6, 5, 0, 0, 0, 0, 0, 0, 4, 0, 2, 0, 0, 0, 0, 0, 0, 0, 1, 3, 0, 0, 0].getD c 0
def zbase (c : Nat) : Nat := bif Nat.ble 64 c then [49, 50, 51, 52, 53, 54, 55, 56, 57, 58, 59, 60, 61, 62, 63, 64, 65, 66, 67, 68, 69, 70, 71, 72, 73].getD (c - 64) 0 else [0, 1, 4, 7, 10, 13, 16, 19, 20, 28, 36, 37, 38, 39, 40, 41, 42, 43, 44, 45, 46, 47, 48].getD c 0
def zfk (c k : Nat) : Nat := bif Nat.beq c 0 then [2, 2, 2, 0, 2, 2, 2, 2, 2, 2, 0].getD k 9 else bif Nat.beq c 1 then [2, 2, 2, 2, 2, 0, 0, 0, 0, 0, 0].getD k 9 else bif Nat.beq c 8 then [2, 0, 0].getD k 9 else bif Nat.beq c 10 then [2, 2, 2, 2, 2, 2, 2, 0, 0, 1].getD k 9 else bif Nat.beq c 18 then [1, 0].getD k 9 else bif Nat.beq c 19 then [0].getD k 9 else bif Nat.beq c 20 then [2, 0, 0, 0, 0].getD k 9 else bif Nat.beq c 64 then [0, 0, 0, 0, 0, 0, 0, 2, 2, 2, 2, 2, 2, 2, 2, 2, 2, 2, 2, 2, 2, 0, 0, 0, 0, 0, 2, 2, 2, 2, 0, 2, 2, 0, 0, 2, 2, 0, 2, 2, 0, 0].getD k 9 else 9
def zrc (c k : Nat) : Nat := bif Nat.beq c 0 then [1, 1, 1, 0, 7, 10, 18, 19, 20, 22, 0].getD k 0 else bif Nat.beq c 1 then [2, 3, 4, 5, 6, 0, 0, 0, 0, 0, 0].getD k 0 else bif Nat.beq c 8 then [9, 0, 0].getD k 0 else bif Nat.beq c 10 then [11, 12, 13, 14, 15, 16, 17, 0, 0, 0].getD k 0 else bif Nat.beq c 18 then [0, 0].getD k 0 else bif Nat.beq c 19 then [0].getD k 0 else bif Nat.beq c 20 then [21, 0, 0, 0, 0].getD k 0 else bif Nat.beq c 64 then [0, 0, 0, 0, 0, 0, 0, 65, 66, 67, 68, 69, 70, 71, 72, 73, 74, 75, 76, 77, 78, 0, 0, 0, 0, 0, 79, 80, 81, 82, 0, 83, 84, 0, 0, 85, 86, 0, 87, 88, 0, 0].getD k 0 else 0
def zrj (c k : Nat) : Nat := bif Nat.beq c 0 then [0, 1, 2, 0, 0, 0, 0, 0, 0, 99, 0].getD k 0 else bif Nat.beq c 1 then [99, 99, 99, 99, 99, 0, 0, 0, 0, 0, 0].getD k 0 else bif Nat.beq c 8 then [99, 0, 0].getD k 0 else bif Nat.beq c 10 then [99, 99, 99, 99, 99, 99, 99, 0, 0, 0].getD k 0 else bif Nat.beq c 18 then [0, 0].getD k 0 else bif Nat.beq c 19 then [0].getD k 0 else bif Nat.beq c 20 then [99, 0, 0, 0, 0].getD k 0 else bif Nat.beq c 64 then [0, 0, 0, 0, 0, 0, 0, 99, 99, 99, 99, 99, 99, 99, 99, 99, 99, 99, 99, 99, 99, 0, 0, 0, 0, 0, 99, 99, 99, 99, 0, 99, 99, 0, 0, 99, 99, 0, 99, 99, 0, 0].getD k 0 else 0
def zrt (c j k : Nat) : Nat × Nat := (zrc c k, bif Nat.beq (zrj c k) 99 then j else zrj c k)
def zbz (c k : Nat) : Bool := (Nat.beq c 0 && Nat.beq k 3) || (Nat.beq c 64 && Nat.beq k 41)
def zhs : List (Nat × Nat) := [(0, 0), (1, 0), (1, 1), (1, 2), (2, 0), (2, 1), (2, 2), (3, 0), (3, 1), (3, 2), (4, 0), (4, 1), (4, 2), (5, 0), (5, 1), (5, 2), (6, 0), (6, 1), (6, 2), (7, 0), (8, 0), (8, 1), (8, 2), (8, 3), (8, 4), (8, 5), (8, 6), (8, 7), (9, 0), (9, 1), (9, 2), (9, 3), (9, 4), (9, 5), (9, 6), (9, 7), (10, 0), (11, 0), (12, 0), (13, 0), (14, 0), (15, 0), (16, 0), (17, 0), (18, 0), (19, 0), (20, 0), (21, 0), (22, 0), (64, 0), (65, 0), (66, 0), (67, 0), (68, 0), (69, 0), (70, 0), (71, 0), (72, 0), (73, 0), (74, 0), (75, 0), (76, 0), (77, 0), (78, 0), (79, 0), (80, 0), (81, 0), (82, 0), (83, 0), (84, 0), (85, 0), (86, 0), (87, 0), (88, 0)]
def zpos (c j : Nat) : Nat := zbase c + j
def zLN : List Int32 := [1, 3, 5, 11, 17, 37, 81]
def zSL : List Nat := [5, 5, 3, 3, 4, 4]
def zSB : List (List Int32) := [[115, 101, 97, 116, 115], [103, 117, 101, 115, 116], [98, 97, 114], [104, 97, 100], [101, 121, 101, 115], [109, 111, 118, 101]]
def zN (o : Nat) : String := bif Nat.beq o 0 then RX0 else bif Nat.beq o 1 then RX1 else bif Nat.beq o 2 then RX2 else bif Nat.beq o 3 then RX3 else bif Nat.beq o 4 then RX4 else bif Nat.beq o 5 then RX5 else bif Nat.beq o 6 then RX6 else bif Nat.beq o 7 then RX7 else bif Nat.beq o 8 then RL else bif Nat.beq o 9 then RJ6 else bif Nat.beq o 10 then RJ13 else ""
def zT (c : Nat) : u_T := bif Nat.beq c 0 then TX6 else bif Nat.beq c 1 then TX5 else bif Nat.beq c 8 then TX4 else bif Nat.beq c 10 then TX2 else bif Nat.beq c 18 then TX1 else bif Nat.beq c 19 then TX3 else bif Nat.beq c 20 then TX0 else bif Nat.beq c 64 then TX7 else TX0
def zR (c : Nat) : String := bif Nat.beq c 0 then RX6 else bif Nat.beq c 1 then RX5 else bif Nat.beq c 8 then RX4 else bif Nat.beq c 10 then RX2 else bif Nat.beq c 18 then RX1 else bif Nat.beq c 19 then RX3 else bif Nat.beq c 20 then RX0 else bif Nat.beq c 64 then RX7 else RX0
/-- field links: owner, pool index, class, field, place in lw_tbl -/
def zFL : List (Nat × Nat × Nat × Nat × Nat) := [(5, 9, 1, 0, 122), (6, 151, 1, 0, 123), (5, 15, 1, 1, 124), (6, 154, 1, 1, 125), (3, 119, 1, 1, 126), (5, 18, 1, 2, 127), (6, 157, 1, 2, 128), (5, 21, 1, 3, 129), (3, 57, 1, 3, 130), (6, 163, 1, 3, 131), (5, 24, 1, 4, 132), (3, 67, 1, 4, 133), (6, 160, 1, 4, 134), (5, 27, 1, 5, 135), (3, 96, 1, 5, 136), (6, 135, 1, 5, 137), (5, 31, 1, 6, 138), (2, 45, 1, 6, 139), (3, 28, 1, 6, 140), (6, 132, 1, 6, 141), (5, 34, 1, 7, 142), (3, 116, 1, 7, 143), (6, 176, 1, 7, 144), (5, 37, 1, 8, 145), (6, 332, 1, 8, 146), (5, 40, 1, 9, 147), (6, 354, 1, 9, 148), (5, 43, 1, 10, 149), (6, 338, 1, 10, 150), (2, 9, 10, 0, 183), (6, 376, 10, 0, 184), (2, 15, 10, 1, 185), (6, 379, 10, 1, 186), (2, 18, 10, 2, 187), (2, 21, 10, 3, 188), (2, 25, 10, 4, 189), (1, 35, 10, 4, 190), (2, 28, 10, 5, 191), (6, 237, 10, 5, 192), (2, 31, 10, 6, 193), (2, 34, 10, 7, 194), (6, 214, 10, 7, 195), (2, 38, 10, 8, 196), (6, 257, 10, 8, 197), (2, 41, 10, 9, 198), (1, 9, 18, 0, 227), (6, 282, 18, 0, 228), (1, 15, 18, 1, 229), (6, 291, 18, 1, 230), (3, 9, 19, 0, 242), (6, 187, 19, 0, 243), (0, 9, 20, 0, 253), (0, 15, 20, 1, 254), (6, 357, 20, 1, 255), (0, 19, 20, 2, 256), (0, 22, 20, 3, 257), (0, 25, 20, 4, 258), (4, 9, 8, 0, 275), (6, 105, 8, 0, 276), (4, 15, 8, 1, 277), (6, 98, 8, 1, 278), (4, 19, 8, 2, 279), (3, 19, 8, 2, 280), (6, 294, 8, 2, 281), (6, 10, 0, 0, 289), (6, 16, 0, 1, 290), (6, 19, 0, 2, 291), (6, 22, 0, 3, 292), (6, 28, 0, 4, 293), (6, 35, 0, 5, 294), (6, 42, 0, 6, 295), (6, 49, 0, 7, 296), (6, 56, 0, 8, 297), (6, 60, 0, 9, 298), (6, 64, 0, 10, 299), (7, 93, 64, 0, 1020), (7, 7, 64, 1, 1021), (7, 141, 64, 2, 1022), (7, 183, 64, 3, 1023), (7, 186, 64, 4, 1024), (7, 13, 64, 5, 1025), (7, 16, 64, 6, 1026), (7, 19, 64, 7, 1027), (7, 23, 64, 8, 1028), (7, 26, 64, 9, 1029), (7, 29, 64, 10, 1030), (7, 32, 64, 11, 1031), (7, 35, 64, 12, 1032), (7, 38, 64, 13, 1033), (7, 41, 64, 14, 1034), (7, 44, 64, 15, 1035), (7, 47, 64, 16, 1036), (7, 50, 64, 17, 1037), (7, 54, 64, 18, 1038), (7, 57, 64, 19, 1039), (7, 60, 64, 20, 1040), (7, 153, 64, 21, 1041), (7, 147, 64, 22, 1042), (7, 150, 64, 23, 1043), (7, 156, 64, 24, 1044), (7, 144, 64, 25, 1045), (7, 63, 64, 26, 1046), (7, 66, 64, 27, 1047), (7, 69, 64, 28, 1048), (7, 72, 64, 29, 1049), (7, 222, 64, 30, 1050), (7, 75, 64, 31, 1051), (7, 78, 64, 32, 1052), (7, 231, 64, 33, 1053), (7, 234, 64, 34, 1054), (7, 81, 64, 35, 1055), (7, 84, 64, 36, 1056), (7, 262, 64, 37, 1057), (7, 87, 64, 38, 1058), (7, 90, 64, 39, 1059), (7, 296, 64, 40, 1060), (7, 312, 64, 41, 1061)]
def zCI : List (Nat × Nat × Int32 × Nat) := [(9, 265, 1431655765, 456), (9, 266, 858993459, 457), (9, 267, 252645135, 458), (5, 121, 1103515245, 947), (7, 292, 1103515245, 1507)]
def zCL : List (Nat × Nat × Int64 × Nat) := [(2, 96, -1, 737), (10, 314, 6148914691236517205, 745), (10, 316, 3689348814741910323, 746), (10, 318, 1085102592571150095, 747), (1, 39, -1, 866), (8, 18, 4294967295, 1548)]
def zSX : List (Nat × Nat) := [(33, 3), (46, 3), (51, 3), (65, 3), (70, 3), (75, 3)]
def zMX : List (Nat × Nat × Nat × Nat) := [(4, 22, 1, 338), (4, 28, 0, 341), (5, 81, 0, 659), (5, 86, 1, 678), (2, 126, 1, 785), (6, 246, 0, 794), (2, 115, 0, 808)]
def zAC : List (Nat × Nat × Nat) := [(6, 109, 381), (5, 46, 520)]
/-- what an op's aux must be -/
def zaux (o : Nat) : Instr → zPV → Bool
  | .iconst n, .inl x => decide (Int32.ofInt n = x)
  | .bipush n, .inl x => decide ((Int8.ofInt n).toInt32 = x)
  | .sipush n, .inl x => decide ((Int16.ofInt n).toInt32 = x)
  | .iinc _ n, .inl x => decide (Int32.ofInt n = x)
  | .lconst n, .inr (.inl y) => decide (Int64.ofNat (n : Nat) = y)
  | .ldc i, .inl x => zCI.any (fun q => Nat.beq q.1 o && (Nat.beq q.2.1 i && decide (q.2.2.1 = x)))
  | .ldc i, .inr (.inr (_, k)) => Nat.beq o 3 && (Nat.blt k 6 && Nat.beq ([33, 46, 51, 65, 70, 75].getD k 0) i)
  | .ldc_w i, .inl x => zCI.any (fun q => Nat.beq q.1 o && (Nat.beq q.2.1 i && decide (q.2.2.1 = x)))
  | .ldc2_w i, .inr (.inl y) => zCL.any (fun q => Nat.beq q.1 o && (Nat.beq q.2.1 i && decide (q.2.2.1 = y)))
  | .getfield i, .inr (.inr (c, k)) => zFL.any (fun q => Nat.beq q.1 o && (Nat.beq q.2.1 i && (Nat.beq q.2.2.1 c && Nat.beq q.2.2.2.1 k)))
  | .putfield i, .inr (.inr (c, k)) => zFL.any (fun q => Nat.beq q.1 o && (Nat.beq q.2.1 i && (Nat.beq q.2.2.1 c && Nat.beq q.2.2.2.1 k)))
  | .getstatic i, _ => (Nat.beq o 5 && Nat.beq i 52) || (Nat.beq o 0 && Nat.beq i 32)
  | .invokestatic i, .inr (.inr (200, k)) => zMX.any (fun q => Nat.beq q.1 o && (Nat.beq q.2.1 i && Nat.beq q.2.2.1 k))
  | .invokestatic i, .inr (.inr (201, _)) => zAC.any (fun q => Nat.beq q.1 o && Nat.beq q.2.1 i)
  | .invokestatic _, _ => false
  | .getfield _, _ => false
  | .putfield _, _ => false
  | .iconst _, _ => false
  | .bipush _, _ => false
  | .sipush _, _ => false
  | .iinc _ _, _ => false
  | .lconst _, _ => false
  | .ldc _, _ => false
  | .ldc_w _, _ => false
  | .ldc2_w _, _ => false
  | _, _ => true
def zil : Instr → Nat
  | .bipush _ => 2
  | .sipush _ => 3
  | .ldc _ => 2
  | .ldc_w _ => 3
  | .ldc2_w _ => 3
  | .iload _ => 2
  | .lload _ => 2
  | .aload _ => 2
  | .istore _ => 2
  | .lstore _ => 2
  | .astore _ => 2
  | .iinc _ _ => 3
  | .getfield _ => 3
  | .putfield _ => 3
  | .getstatic _ => 3
  | .invokestatic _ => 3
  | _ => 1
def zlenB : List zOp → Nat
  | [] => 0
  | q :: r => q.2.1 + zlenB r
def zcode (o : Nat) (b : ByteArray) : Nat → List zOp → Bool
  | _, [] => true
  | pc, q :: r => decide (decode b pc = .ok (q.1, q.2.1)) && (Nat.beq q.2.1 (zil q.1) && zaux o q.1 q.2.2 && zcode o b (pc + q.2.1) r)
/-! the steps -/
def zpush (x : zPV) (s : zSt) (K : zSt → Prop) : Prop := K (s.1, x :: s.2.1, s.2.2)
def zldI (k : Nat) (s : zSt) (K : zSt → Prop) : Prop := match s.1.getD k none with
  | some (.inl x) => K (s.1, .inl x :: s.2.1, s.2.2)
  | _ => False
def zldL (k : Nat) (s : zSt) (K : zSt → Prop) : Prop := match s.1.getD k none with
  | some (.inr (.inl x)) => K (s.1, .inr (.inl x) :: s.2.1, s.2.2)
  | _ => False
def zldR (k : Nat) (s : zSt) (K : zSt → Prop) : Prop := match s.1.getD k none with
  | some (.inr (.inr q)) => K (s.1, .inr (.inr q) :: s.2.1, s.2.2)
  | _ => False
def zis2 : Option zPV → Bool
  | some (.inr (.inl _)) => true
  | _ => false
def zclr (L : List (Option zPV)) (i : Nat) : List (Option zPV) := match i with
  | 0 => L
  | j + 1 => bif zis2 (L.getD j none) then L.set j none else L
def zst1 (L : List (Option zPV)) (i : Nat) (v : zPV) : List (Option zPV) := (zclr L i).set i (some v)
def zst2 (L : List (Option zPV)) (i : Nat) (v : zPV) : List (Option zPV) := ((zclr L i).set i (some v)).set (i + 1) none
def zstI (k : Nat) (s : zSt) (K : zSt → Prop) : Prop := match s.2.1 with
  | .inl x :: st => Nat.blt k s.1.length = true ∧ K (zst1 s.1 k (.inl x), st, s.2.2)
  | _ => False
def zstL (k : Nat) (s : zSt) (K : zSt → Prop) : Prop := match s.2.1 with
  | .inr (.inl x) :: st => Nat.blt (k + 1) s.1.length = true ∧ K (zst2 s.1 k (.inr (.inl x)), st, s.2.2)
  | _ => False
def zstR (k : Nat) (s : zSt) (K : zSt → Prop) : Prop := match s.2.1 with
  | .inr (.inr x) :: st => Nat.blt k s.1.length = true ∧ K (zst1 s.1 k (.inr (.inr x)), st, s.2.2)
  | _ => False
def zinc (k : Nat) (a : zPV) (s : zSt) (K : zSt → Prop) : Prop := match a, s.1.getD k none with
  | .inl y, some (.inl x) => Nat.blt k s.1.length = true ∧ K (zst1 s.1 k (.inl (x + y)), s.2.1, s.2.2)
  | _, _ => False
def z2I (op : Int32 → Int32 → Int32) (s : zSt) (K : zSt → Prop) : Prop := match s.2.1 with
  | .inl y :: .inl x :: st => K (s.1, .inl (op x y) :: st, s.2.2)
  | _ => False
def z2D (op : Int32 → Int32 → Int32) (s : zSt) (K : zSt → Prop) : Prop := match s.2.1 with
  | .inl y :: .inl x :: st => ¬ y = 0 ∧ K (s.1, .inl (op x y) :: st, s.2.2)
  | _ => False
def z1I (op : Int32 → Int32) (s : zSt) (K : zSt → Prop) : Prop := match s.2.1 with
  | .inl x :: st => K (s.1, .inl (op x) :: st, s.2.2)
  | _ => False
def z2L (op : Int64 → Int64 → Int64) (s : zSt) (K : zSt → Prop) : Prop := match s.2.1 with
  | .inr (.inl y) :: .inr (.inl x) :: st => K (s.1, .inr (.inl (op x y)) :: st, s.2.2)
  | _ => False
def zLI (op : Int64 → Int32 → Int64) (s : zSt) (K : zSt → Prop) : Prop := match s.2.1 with
  | .inl y :: .inr (.inl x) :: st => K (s.1, .inr (.inl (op x y)) :: st, s.2.2)
  | _ => False
def zcmp (s : zSt) (K : zSt → Prop) : Prop := match s.2.1 with
  | .inr (.inl y) :: .inr (.inl x) :: st => K (s.1, .inl (lg_cmp x y) :: st, s.2.2)
  | _ => False
def zi2l (s : zSt) (K : zSt → Prop) : Prop := match s.2.1 with
  | .inl x :: st => K (s.1, .inr (.inl x.toInt64) :: st, s.2.2)
  | _ => False
def zl2i (s : zSt) (K : zSt → Prop) : Prop := match s.2.1 with
  | .inr (.inl x) :: st => K (s.1, .inl x.toInt32 :: st, s.2.2)
  | _ => False
def zcat : zPV → Bool
  | .inr (.inl _) => true
  | _ => false
def zdup (s : zSt) (K : zSt → Prop) : Prop := match s.2.1 with
  | v :: st => zcat v = false ∧ K (s.1, v :: v :: st, s.2.2)
  | _ => False
def zdupx (s : zSt) (K : zSt → Prop) : Prop := match s.2.1 with
  | v :: u :: st => (zcat v || zcat u) = false ∧ K (s.1, v :: u :: v :: st, s.2.2)
  | _ => False
def zdup2 (s : zSt) (K : zSt → Prop) : Prop := match s.2.1 with
  | v :: u :: st => (zcat v || zcat u) = false ∧ K (s.1, v :: u :: v :: u :: st, s.2.2)
  | _ => False
def zpop (s : zSt) (K : zSt → Prop) : Prop := match s.2.1 with
  | v :: st => zcat v = false ∧ K (s.1, st, s.2.2)
  | _ => False
def zpop2 (s : zSt) (K : zSt → Prop) : Prop := match s.2.1 with
  | v :: st => zcat v = true ∧ K (s.1, st, s.2.2)
  | _ => False
/-- a field's value -/
def zfv (M : zWM) (c j k : Nat) : zPV := match zfk c k with
  | 0 => .inl (rdI M c j k)
  | 1 => .inr (.inl (rdL M c j k))
  | _ => .inr (.inr (zrt c j k))
def zget (a : zPV) (s : zSt) (K : zSt → Prop) : Prop := match a, s.2.1 with
  | .inr (.inr (c, k)), .inr (.inr (c', j)) :: st => (Nat.beq c' c && (Nat.beq (zkd c) 0 && Nat.blt k (zlen c))) = true ∧ Nat.blt j (zcnt c') = true ∧ K (s.1, zfv s.2.2 c' j k :: st, s.2.2)
  | _, _ => False
def zput (a : zPV) (s : zSt) (K : zSt → Prop) : Prop := match a, s.2.1 with
  | .inr (.inr (c, k)), .inl x :: .inr (.inr (c', j)) :: st => (Nat.beq c' c && (Nat.beq (zkd c) 0 && (Nat.blt k (zlen c) && Nat.beq (zfk c k) 0))) = true ∧ Nat.blt j (zcnt c') = true ∧ (bif zbz c k then x = 0 ∨ x = 1 else True) ∧ K (s.1, st, wrI s.2.2 c' j (zp (rdI s.2.2 c' j) k x))
  | .inr (.inr (c, k)), .inr (.inl x) :: .inr (.inr (c', j)) :: st => (Nat.beq c' c && (Nat.beq (zkd c) 0 && (Nat.blt k (zlen c) && Nat.beq (zfk c k) 1))) = true ∧ Nat.blt j (zcnt c') = true ∧ K (s.1, st, wrL s.2.2 c' j (zp (rdL s.2.2 c' j) k x))
  | _, _ => False
abbrev zScr : Type := Bool × Nat × (Nat → Int32)
def ziald (z : zScr) (s : zSt) (K : zSt → Prop) : Prop := match s.2.1 with
  | .inl i :: .inr (.inr (c, j)) :: st =>
    bif Nat.beq c 60 then Nat.beq j 0 = true ∧ inb i 7 = true ∧ K (s.1, .inl (zLN.getD (ix i) 0) :: st, s.2.2)
    else bif Nat.beq c 63 then Nat.beq j 0 = true ∧ z.1 = true ∧ inb i z.2.1 = true ∧ K (s.1, .inl (z.2.2 (ix i)) :: st, s.2.2)
    else Nat.beq (zkd c) 1 = true ∧ Nat.blt j (zcnt c) = true ∧ inb i (zlen c) = true ∧ K (s.1, .inl (rdI s.2.2 c j (ix i)) :: st, s.2.2)
  | _ => False
def zlald (s : zSt) (K : zSt → Prop) : Prop := match s.2.1 with
  | .inl i :: .inr (.inr (c, j)) :: st => Nat.beq (zkd c) 2 = true ∧ Nat.blt j (zcnt c) = true ∧ inb i (zlen c) = true ∧ K (s.1, .inr (.inl (rdL s.2.2 c j (ix i))) :: st, s.2.2)
  | _ => False
def zaald (s : zSt) (K : zSt → Prop) : Prop := match s.2.1 with
  | .inl i :: .inr (.inr (c, j)) :: st => (Nat.beq c 7 && Nat.beq j 0) = true ∧ inb i 8 = true ∧ K (s.1, .inr (.inr (8, ix i)) :: st, s.2.2)
  | _ => False
def ziast (s : zSt) (K : zSt → Prop) : Prop := match s.2.1 with
  | .inl x :: .inl i :: .inr (.inr (c, j)) :: st => Nat.beq (zkd c) 1 = true ∧ Nat.blt j (zcnt c) = true ∧ inb i (zlen c) = true ∧ K (s.1, st, wrI s.2.2 c j (zp (rdI s.2.2 c j) (ix i) x))
  | _ => False
def zlast (s : zSt) (K : zSt → Prop) : Prop := match s.2.1 with
  | .inr (.inl x) :: .inl i :: .inr (.inr (c, j)) :: st => Nat.beq (zkd c) 2 = true ∧ Nat.blt j (zcnt c) = true ∧ inb i (zlen c) = true ∧ K (s.1, st, wrL s.2.2 c j (zp (rdL s.2.2 c j) (ix i) x))
  | _ => False
def zalen (z : zScr) (s : zSt) (K : zSt → Prop) : Prop := match s.2.1 with
  | .inr (.inr (c, j)) :: st => (Nat.beq c 63 && Nat.beq j 0) = true ∧ z.1 = true ∧ K (s.1, .inl (Int32.ofNat z.2.1) :: st, s.2.2)
  | _ => False
/-- Math.max, min; System.arraycopy of ints, of longs -/
def zsys (a : zPV) (s : zSt) (K : zSt → Prop) : Prop := match a, s.2.1 with
  | .inr (.inr (200, k)), .inl y :: .inl x :: st => Nat.ble (st.length) 3 = true ∧ K (s.1, .inl (bif Nat.beq k 0 then jmax x y else jmin x y) :: st, s.2.2)
  | .inr (.inr (201, _)), .inl n :: .inl dp :: .inr (.inr (c1, j1)) :: .inl sp :: .inr (.inr (c0, j0)) :: st =>
    Nat.ble (st.length) 3 = true ∧ (Nat.blt j1 (zcnt c1) = true ∧ Nat.blt j0 (zcnt c0) = true) ∧ (decide (¬ n < 0) && (decide (¬ dp < 0) && decide (¬ sp < 0))) = true ∧ (Nat.ble (ix sp + ix n) (zlen c0) = true ∧ Nat.ble (ix dp + ix n) (zlen c1) = true) ∧
    (bif Nat.beq (zkd c0) 1 then Nat.beq (zkd c1) 1 = true ∧ K (s.1, st, wrI s.2.2 c1 j1 (va_cpy (rdI s.2.2 c0 j0) (rdI s.2.2 c1 j1) (ix sp) (ix dp) (ix n)))
     else Nat.beq (zkd c0) 2 = true ∧ Nat.beq (zkd c1) 2 = true ∧ K (s.1, st, wrL s.2.2 c1 j1 (va_cpy (rdL s.2.2 c0 j0) (rdL s.2.2 c1 j1) (ix sp) (ix dp) (ix n))))
  | _, _ => False
def zw1 (z : zScr) (i : Instr) (a : zPV) (s : zSt) (K : zSt → Prop) : Prop := match i with
  | .iconst _ => zpush a s K
  | .bipush _ => zpush a s K
  | .sipush _ => zpush a s K
  | .lconst _ => zpush a s K
  | .ldc _ => zpush (match a with | .inr (.inr q) => .inr (.inr (61, q.2)) | v => v) s K
  | .ldc_w _ => zpush a s K
  | .ldc2_w _ => zpush a s K
  | .iload_n k => zldI k s K
  | .iload k => zldI k s K
  | .lload_n k => zldL k s K
  | .lload k => zldL k s K
  | .aload_n k => zldR k s K
  | .aload k => zldR k s K
  | .istore_n k => zstI k s K
  | .istore k => zstI k s K
  | .lstore_n k => zstL k s K
  | .lstore k => zstL k s K
  | .astore_n k => zstR k s K
  | .astore k => zstR k s K
  | .iinc k _ => zinc k a s K
  | .dup => zdup s K
  | .dup_x1 => zdupx s K
  | .dup2 => zdup2 s K
  | .pop => zpop s K
  | .pop2 => zpop2 s K
  | .iadd => z2I (· + ·) s K
  | .isub => z2I (· - ·) s K
  | .imul => z2I (· * ·) s K
  | .iand => z2I (· &&& ·) s K
  | .ior => z2I (· ||| ·) s K
  | .ixor => z2I (· ^^^ ·) s K
  | .ishl => z2I jshl s K
  | .ishr => z2I jshr s K
  | .iushr => z2I jushr s K
  | .idiv => z2D (· / ·) s K
  | .irem => z2D jrem s K
  | .ineg => z1I (- ·) s K
  | .i2b => z1I jb s K
  | .i2s => z1I js s K
  | .ladd => z2L (· + ·) s K
  | .lsub => z2L (· - ·) s K
  | .land => z2L (· &&& ·) s K
  | .lor => z2L (· ||| ·) s K
  | .lxor => z2L (· ^^^ ·) s K
  | .lshl => zLI jlshl s K
  | .lshr => zLI jlshr s K
  | .lushr => zLI jlushr s K
  | .lcmp => zcmp s K
  | .i2l => zi2l s K
  | .l2i => zl2i s K
  | .getfield _ => zget a s K
  | .putfield _ => zput a s K
  | .getstatic _ => zpush (.inr (.inr (60, 0))) s K
  | .iaload => ziald z s K
  | .laload => zlald s K
  | .aaload => zaald s K
  | .iastore => ziast s K
  | .lastore => zlast s K
  | .arraylength => zalen z s K
  | .invokestatic _ => zsys a s K
  | _ => False
def zwB (z : zScr) : List zOp → zSt → (zSt → Prop) → Prop
  | [], s, K => K s
  | q :: r, s, K => zw1 z q.1 q.2.2 s (fun s' => zwB z r s' K)
end
section
/-! THE PURE MACHINE IS THE MACHINE: worlds, frames, one step -/
abbrev zWd : Type := va_G × (ClassId × ClassId × ClassId) × (Nat → Nat → Nat) × (Nat → Prop)
/-- the words that a callee may ask -/
def zGW : List Cond := lw_tbl.filter goodWord
theorem zgw {x : Cond} (h : x ∈ lw_tbl) (hg : goodWord x = true) : x ∈ zGW := List.mem_filter.mpr ⟨h, hg⟩
abbrev zFr : Type := Program × Launch × Env × Room × State × MethodId × Array Value × List Frame × Method × Code × Nat × Nat × (State → Prop) × zScr
def zcv (ad : Nat → Nat → Nat) : zPV → Value
  | .inl x => .int x
  | .inr (.inl x) => .long x
  | .inr (.inr q) => .ref (ad q.1 q.2)
def zcell (w : zWd) (M : zWM) (c j : Nat) : va_E := match zkd c with
  | 0 => .inr (zci c, (List.range (zlen c)).map (fun k => zcv w.2.2.1 (zfv M c j k)))
  | 1 => .inl (w.2.1.1, zlen c, .inl (rdI M c j))
  | 2 => .inl (w.2.1.2.1, zlen c, .inr (.inl (rdL M c j)))
  | _ => .inl (w.2.1.2.2, zlen c, .inr (.inr (.inr (.inr (fun i => some (w.2.2.1 8 i))))))
def zcells (w : zWd) (M : zWM) : va_W := zhs.map (fun q => (w.2.2.1 q.1 q.2, zcell w M q.1 q.2))
def ztys (w : zWd) : List (ClassId × FieldType) := [(w.2.1.1, .int), (w.2.1.2.1, .long), (w.2.1.2.2, .object "NoArmsCrossed$Shelf")]
def znest : List Cond := [.methodLinkNest RX5 55 yX6_bit RX6, .methodLinkNest RX2 75 yX6_bit RX6, .methodLinkNest RX2 72 yX6_codeOfPair RX6, .methodLinkNest RX0 28 yX6_isKind RX6, .fieldLinkNest RX5 52 RX6 "LINES" "[I" RX6, .fieldLinkNest RX0 32 RX6 "LINES" "[I" RX6]
def zsi (i : Nat) : Nat := [33, 46, 51, 65, 70, 75].getD i 0
def zst (i : Nat) : String := ["seats", "guest", "bar", "had", "eyes", "move"].getD i ""
/-- what stands still: the tables of our classes, the static row, the links of nest mates, the String constants -/
def zSP (w : zWd) (U : State) (H : Heap) : Prop :=
  va_K w.1 vwCl (ztys w) U ∧ va_Z RX6 "LINES" "[I" (.ref (w.2.2.1 60 0)) w.2.2.2 U H ∧ va_T .int (w.2.2.1 60 0) 7 (fun j => .int (zLN.getD j 0)) w.2.2.2 U H ∧
  (∀ x ∈ znest, va_Nw x U) ∧ vk_S 6 zSL zSB (w.2.2.1 61) (w.2.2.1 62) w.2.2.2 U H ∧ (∀ i, i < 6 → vk_R RX3 (zsi i) (zst i) (w.2.2.1 61 i) U) ∧
  va_Z RJ0 "COMPACT_STRINGS" "Z" (.int 1) w.2.2.2 U H ∧ va_Zq RJ3 "SIOOBE_FORMATTER" "Ljava/util/function/BiFunction;" w.2.2.2 U H
theorem zSP.warm {w : zWd} {s U : State} {H : Heap} (hW : s.WarmedH U.vm) (h : zSP w s H) : zSP w U H := by
  obtain ⟨h1, h2, h3, h4, h5, h6, h7, h8⟩ := h
  have hA : s.vm.Alike U.vm := hW.alike
  refine ⟨h1.moved hA, h2.moved hA, h3.moved hA, ?_, h5.moved hA, fun i hi => (h6 i hi).warm hW, h7.moved hA, h8.moved hA⟩
  intro x hx
  have hx' := h4 x hx
  simp only [znest, List.mem_cons, List.not_mem_nil, or_false] at hx
  rcases hx with rfl | rfl | rfl | rfl | rfl | rfl
  · exact va_Nw.warmM hW hx'
  · exact va_Nw.warmM hW hx'
  · exact va_Nw.warmM hW hx'
  · exact va_Nw.warmM hW hx'
  · exact va_Nw.warmF hW hx'
  · exact va_Nw.warmF hW hx'
theorem zSP.same {w : zWd} {u U : State} {H : Heap} (hv : u.vm = U.vm) (h : zSP w u H) : zSP w U H := by
  obtain ⟨h1, h2, h3, h4, h5, h6, h7, h8⟩ := h
  have hA : u.vm.Alike U.vm := by rw [hv]; exact Vm.Alike.refl _
  refine ⟨h1.moved hA, h2.moved hA, h3.moved hA, ?_, h5.moved hA, fun i hi => (h6 i hi).same hv.symm, h7.moved hA, h8.moved hA⟩
  intro x hx
  have hx' := h4 x hx
  simp only [znest, List.mem_cons, List.not_mem_nil, or_false] at hx
  rcases hx with rfl | rfl | rfl | rfl | rfl | rfl
  all_goals exact va_Nw.same rfl hv hx'
theorem zSP.kept {w : zWd} {U : State} {H H1 : Heap} (h : zSP w U H) (hq : ∀ a : Nat, a < H.size → ¬ w.2.2.2 a → H1[a]? = H[a]?) : zSP w U H1 := by
  obtain ⟨h1, h2, h3, h4, h5, h6, h7, h8⟩ := h
  exact ⟨h1, h2.kept hq, h3.kept hq, h4, h5.kept hq, h6, h7.kept hq, h8.kept hq⟩
def zLH (ad : Nat → Nat → Nat) (ls : Array Slot) (nL : Nat) (L : List (Option zPV)) : Prop := ls.size = nL ∧ lv_wf ls ∧ ∀ j v, L.getD j none = some v → ls[j]? = some (.val (zcv ad v))
def zG (w : zWd) (f : zFr) (nL pc : Nat) (X : zSt) : Prop :=
  X.1.length = nL → ∀ (H : Heap) (locs : List Loc) (ls : Array Slot), va_P w.1 vwCl (zcells w X.2.2) H → va_S w.2.2.2 f.2.2.2.2.1.heap H locs → zLH w.2.2.1 ls nL X.1 →
    W f.1 f.2.1 f.2.2.1 f.2.2.2.1 f.2.2.2.2.1 f.2.2.2.2.2.1 f.2.2.2.2.2.2.1 f.2.2.2.2.2.2.2.1 f.2.2.2.2.2.2.2.2.1 f.2.2.2.2.2.2.2.2.2.1 H locs f.2.2.2.2.2.2.2.2.2.2.1 f.2.2.2.2.2.2.2.2.2.2.2.1 f.2.2.2.2.2.2.2.2.2.2.2.2.1 (F0 f.2.2.2.2.2.1 pc ls (X.2.1.map (zcv w.2.2.1)))
def zFOK (w : zWd) (f : zFr) (o : Nat) (cc : ByteArray) (nL d : Nat) : Prop :=
  f.1.tables.exec = Jvm.exec ∧ f.2.2.2.2.2.2.2.2.2.1.code = cc ∧ f.2.2.2.2.2.2.2.2.2.1.maxLocals = nL ∧ f.2.2.2.2.1.vm.findClass (zN o) = some f.2.2.2.2.2.1.cls ∧
  (∀ x ∈ zGW, x.before f.2.2.2.2.2.2.1 f.2.2.2.2.1 = true) ∧ f.2.2.2.2.2.2.2.2.1.locks = false ∧
  (1 ≤ d ∧ d ≤ f.2.2.2.1.frames ∧ 100 * d ≤ f.2.2.2.1.locals ∧ f.2.2.2.2.2.2.2.2.2.2.1 ≤ f.2.2.2.1.cells ∧ f.2.2.2.2.2.2.2.2.2.2.2.1 ≤ f.2.2.2.1.slots) ∧
  zSP w f.2.2.2.2.1 f.2.2.2.2.1.heap ∧ va_D w.2.2.2 (zcells w ((fun _ _ _ => 0, fun _ _ _ => 0), (fun _ _ _ => 0, fun _ _ _ => 0))) ∧
  (f.2.2.2.2.2.2.2.2.2.2.2.2.2.1 = true → va_X (w.2.2.1 63 0) f.2.2.2.2.2.2.2.2.2.2.2.2.2.2.1 f.2.2.2.2.2.2.2.2.2.2.2.2.2.2.2 f.2.2.2.2.1 f.2.2.2.2.1.heap ∧ w.2.2.1 63 0 < f.2.2.2.2.1.heap.size ∧ ¬ w.2.2.2 (w.2.2.1 63 0))
/-! places of the world -/
theorem zhs_pos0 : ∀ c, c < 100 → ∀ j, j < 8 → Nat.blt j (zcnt c) = true → zhs[zpos c j]? = some (c, j) := by decide +kernel
theorem zcnt_le : ∀ c, c < 100 → zcnt c ≤ 8 := by decide +kernel
theorem getD_far {l : List Nat} {n : Nat} (h : l.length ≤ n) : l.getD n 0 = 0 := by
  rw [List.getD_eq_getElem?_getD, List.getElem?_eq_none h]; rfl
theorem zcnt_far {c : Nat} (h : 100 ≤ c) : zcnt c = 0 := by
  unfold zcnt
  rw [show Nat.ble 64 c = true from Nat.ble_eq_true_of_le (by omega)]
  exact getD_far (by simp; omega)
theorem zhs_pos {c j : Nat} (h : Nat.blt j (zcnt c) = true) : zhs[zpos c j]? = some (c, j) := by
  have h1 : j < zcnt c := Nat.blt_eq.mp h
  rcases Nat.lt_or_ge c 100 with q | q
  · exact zhs_pos0 c q j (Nat.lt_of_lt_of_le h1 (zcnt_le c q)) h
  · rw [zcnt_far q] at h1
    exact absurd h1 (Nat.not_lt_zero j)
theorem zhs_inj0 : ∀ i, i < 74 → zpos (zhs.getD i (0, 0)).1 (zhs.getD i (0, 0)).2 = i := by decide +kernel
theorem zhs_inj {i c j : Nat} (h : zhs[i]? = some (c, j)) : i = zpos c j := by
  have hl : i < 74 := (List.getElem?_eq_some_iff.mp h).1
  have h1 := zhs_inj0 i hl
  rw [List.getD_eq_getElem?_getD, h] at h1
  exact h1.symm
theorem zcells_at {w : zWd} {M : zWM} {c j : Nat} (h : Nat.blt j (zcnt c) = true) : (zcells w M)[zpos c j]? = some (w.2.2.1 c j, zcell w M c j) := by
  unfold zcells
  rw [List.getElem?_map, zhs_pos h]
  rfl
theorem zcells_set {w : zWd} {M M' : zWM} {c j : Nat} (h : Nat.blt j (zcnt c) = true) (hk : ∀ c' j', ¬ (c' = c ∧ j' = j) → zcell w M' c' j' = zcell w M c' j') : (zcells w M).set (zpos c j) (w.2.2.1 c j, zcell w M' c j) = zcells w M' := by
  refine List.ext_getElem? fun i => ?_
  rw [List.getElem?_set]
  by_cases hi : zpos c j = i
  · subst hi
    have h2 : zpos c j < (zcells w M).length := (List.getElem?_eq_some_iff.mp (zcells_at (w := w) (M := M) h)).1
    rw [if_pos rfl, if_pos h2, zcells_at h]
  · rw [if_neg hi]
    unfold zcells
    rw [List.getElem?_map, List.getElem?_map]
    cases hq : zhs[i]? with
    | none => rfl
    | some q =>
      obtain ⟨c', j'⟩ := q
      have h3 := zhs_inj hq
      show some (w.2.2.1 c' j', zcell w M c' j') = some (w.2.2.1 c' j', zcell w M' c' j')
      rw [hk c' j' (fun e => hi (by rw [h3, e.1, e.2]))]
theorem zD_all {w : zWd} {M M' : zWM} (h : va_D w.2.2.2 (zcells w M)) : va_D w.2.2.2 (zcells w M') := by
  have key : ∀ (i : Nat) (p : Nat × va_E), (zcells w M')[i]? = some p → ∃ e, (zcells w M)[i]? = some (p.1, e) := by
    intro i p hp
    unfold zcells at hp ⊢
    rw [List.getElem?_map] at hp ⊢
    cases hq : zhs[i]? with
    | none => rw [hq] at hp; cases hp
    | some q => rw [hq] at hp; cases hp; exact ⟨_, rfl⟩
  refine ⟨fun i j p q hi hj e => ?_, fun k q hk => ?_⟩
  · obtain ⟨e1, g1⟩ := key i p hi
    obtain ⟨e2, g2⟩ := key j q hj
    exact h.1 i j _ _ g1 g2 e
  · obtain ⟨e1, g1⟩ := key k q hk
    exact h.2 k (q.1, e1) g1
/-! reads behind writes -/
theorem zs_self {α : Type} (f : Nat → Nat → α) (c j : Nat) (g : α) : zs f c j g c j = g := by simp [zs]
theorem zs_ne {α : Type} (f : Nat → Nat → α) (c j : Nat) (g : α) {c' j' : Nat} (h : ¬ (c' = c ∧ j' = j)) : zs f c j g c' j' = f c' j' := by
  unfold zs
  by_cases h1 : c' = c
  · rw [if_pos h1, h1]
    show (if j' = j then g else f c j') = _
    rw [if_neg (fun e => h ⟨h1, e⟩)]
  · rw [if_neg h1]
theorem rdI_wrI (M : zWM) (c j : Nat) (g : Nat → Int32) : rdI (wrI M c j g) c j = g := by
  unfold rdI wrI wIs
  cases Nat.ble 64 c <;> exact zs_self _ _ _ _
theorem rdL_wrL (M : zWM) (c j : Nat) (g : Nat → Int64) : rdL (wrL M c j g) c j = g := by
  unfold rdL wrL wLs
  cases Nat.ble 64 c <;> exact zs_self _ _ _ _
theorem rdI_wrI_ne (M : zWM) (c j : Nat) (g : Nat → Int32) {c' j' : Nat} (h : ¬ (c' = c ∧ j' = j)) : rdI (wrI M c j g) c' j' = rdI M c' j' := by
  unfold rdI wrI wIs
  cases Nat.ble 64 c <;> cases Nat.ble 64 c' <;> first | rfl | exact zs_ne _ _ _ _ h
theorem rdL_wrL_ne (M : zWM) (c j : Nat) (g : Nat → Int64) {c' j' : Nat} (h : ¬ (c' = c ∧ j' = j)) : rdL (wrL M c j g) c' j' = rdL M c' j' := by
  unfold rdL wrL wLs
  cases Nat.ble 64 c <;> cases Nat.ble 64 c' <;> first | rfl | exact zs_ne _ _ _ _ h
theorem rdL_wrI (M : zWM) (c j : Nat) (g : Nat → Int32) (c' j' : Nat) : rdL (wrI M c j g) c' j' = rdL M c' j' := by
  unfold rdL wrI wIs
  cases Nat.ble 64 c <;> cases Nat.ble 64 c' <;> rfl
theorem rdI_wrL (M : zWM) (c j : Nat) (g : Nat → Int64) (c' j' : Nat) : rdI (wrL M c j g) c' j' = rdI M c' j' := by
  unfold rdI wrL wLs
  cases Nat.ble 64 c <;> cases Nat.ble 64 c' <;> rfl
theorem zcell_ext {w : zWd} {M M' : zWM} {c j : Nat} (h1 : rdI M' c j = rdI M c j) (h2 : rdL M' c j = rdL M c j) : zcell w M' c j = zcell w M c j := by
  unfold zcell zfv
  rw [h1, h2]
theorem zcell_wrI {w : zWd} (M : zWM) (c j : Nat) (g : Nat → Int32) : ∀ c' j', ¬ (c' = c ∧ j' = j) → zcell w (wrI M c j g) c' j' = zcell w M c' j' := fun c' j' h => zcell_ext (rdI_wrI_ne M c j g h) (rdL_wrI M c j g c' j')
theorem zcell_wrL {w : zWd} (M : zWM) (c j : Nat) (g : Nat → Int64) : ∀ c' j', ¬ (c' = c ∧ j' = j) → zcell w (wrL M c j g) c' j' = zcell w M c' j' := fun c' j' h => zcell_ext (rdI_wrL M c j g c' j') (rdL_wrL_ne M c j g h)
theorem zcell_int {w : zWd} {M : zWM} {c j : Nat} (h : zkd c = 1) : zcell w M c j = .inl (w.2.1.1, zlen c, .inl (rdI M c j)) := by unfold zcell; rw [h]; rfl
theorem zcell_long {w : zWd} {M : zWM} {c j : Nat} (h : zkd c = 2) : zcell w M c j = .inl (w.2.1.2.1, zlen c, .inr (.inl (rdL M c j))) := by unfold zcell; rw [h]; rfl
theorem zcell_obj {w : zWd} {M : zWM} {c j : Nat} (h : zkd c = 0) : zcell w M c j = .inr (zci c, (List.range (zlen c)).map (fun k => zcv w.2.2.1 (zfv M c j k))) := by unfold zcell; rw [h]; rfl
theorem zrange_set {α : Type} {f g : Nat → α} {n k : Nat} {v : α} (hv : g k = v) (hg : ∀ i, i ≠ k → g i = f i) : ((List.range n).map f).set k v = (List.range n).map g := by
  refine List.ext_getElem? fun i => ?_
  rw [List.getElem?_set]
  by_cases hi : k = i
  · subst hi
    rw [if_pos rfl]
    by_cases hl : k < n
    · simp [hl, hv]
    · simp [hl]
  · rw [if_neg hi]
    by_cases hl : i < n
    · simp [hl, hg i (Ne.symm hi)]
    · simp [hl]
theorem zp_self {α : Type} (f : Nat → α) (k : Nat) (x : α) : zp f k x k = x := by simp [zp]
theorem zp_ne {α : Type} (f : Nat → α) {k i : Nat} (x : α) (h : i ≠ k) : zp f k x i = f i := by simp [zp, h]
theorem zinb {i : Int32} {n : Nat} (h : inb i n = true) : vp_in i n := by
  unfold inb at h
  rw [Bool.and_eq_true] at h
  have h1 : i.toNatClampNeg < n := Nat.blt_eq.mp h.1
  have h2 : ¬ i < 0 := of_decide_eq_true h.2
  exact fun q => q.elim h2 (fun q => absurd h1 (Nat.not_lt.mpr q))
/-! locals -/
theorem zLH.at {ad : Nat → Nat → Nat} {ls : Array Slot} {nL k : Nat} {L : List (Option zPV)} {v : zPV} (h : zLH ad ls nL L) (hk : L.getD k none = some v) : ls[k]? = some (.val (zcv ad v)) := h.2.2 k v hk
def zlv (ad : Nat → Nat → Nat) (nL : Nat) (L : List (Option zPV)) : List (Nat × Value) := (List.range nL).filterMap (fun j => (L.getD j none).map (fun v => (j, zcv ad v)))
theorem zlv_mem {ad : Nat → Nat → Nat} {nL j : Nat} {L : List (Option zPV)} {v : zPV} (hj : j < nL) (h : L.getD j none = some v) : (j, zcv ad v) ∈ zlv ad nL L := by
  unfold zlv
  refine List.mem_filterMap.mpr ⟨j, List.mem_range.mpr hj, ?_⟩
  rw [h]; rfl
theorem zLH.has {ad : Nat → Nat → Nat} {ls : Array Slot} {nL : Nat} {L : List (Option zPV)} (h : zLH ad ls nL L) : lv_has ls nL (zlv ad nL L) := by
  refine ⟨h.1, h.2.1, fun q hq => ?_⟩
  obtain ⟨j, -, hj⟩ := List.mem_filterMap.mp hq
  cases hv : L.getD j none with
  | none => rw [hv] at hj; cases hj
  | some v => rw [hv] at hj; cases hj; exact h.2.2 j v hv
theorem zLH.lt {ad : Nat → Nat → Nat} {ls : Array Slot} {nL j : Nat} {L : List (Option zPV)} {v : zPV} (h : zLH ad ls nL L) (hj : L.getD j none = some v) : j < nL := by
  rw [← h.1]; exact (Array.getElem?_eq_some_iff.mp (h.2.2 j v hj)).1
theorem zgetD_set {α : Type} (L : List (Option α)) (i j : Nat) (v : Option α) : (L.set i v).getD j none = if i = j ∧ i < L.length then v else L.getD j none := by
  rw [List.getD_eq_getElem?_getD, List.getElem?_set, List.getD_eq_getElem?_getD]
  by_cases h : i = j
  · subst h
    by_cases h2 : i < L.length
    · simp [h2]
    · simp [h2, List.getElem?_eq_none (Nat.not_lt.mp h2)]
  · simp [h]
theorem zis2_cat {ad : Nat → Nat → Nat} {v : zPV} : (zcv ad v).category = 2 ↔ zis2 (some v) = true := by
  rcases v with x | x | x <;> simp [zcv, zis2, Value.category]
theorem zclr_getD {L : List (Option zPV)} {i j : Nat} {v : zPV} (h : (zclr L i).getD j none = some v) : L.getD j none = some v ∧ ¬ (j + 1 = i ∧ zis2 (some v) = true) := by
  unfold zclr at h
  cases i with
  | zero => exact ⟨h, by omega⟩
  | succ i =>
    dsimp only at h
    cases hb : zis2 (L.getD i none) with
    | false =>
      rw [hb] at h
      refine ⟨h, fun ⟨e, e2⟩ => ?_⟩
      have : i = j := by omega
      subst this
      rw [cond_false] at h
      rw [h, e2] at hb; cases hb
    | true =>
      rw [hb, cond_true, zgetD_set] at h
      by_cases hij : i = j ∧ i < L.length
      · rw [if_pos hij] at h; cases h
      · rw [if_neg hij] at h
        refine ⟨h, fun e0 => hij ⟨by omega, ?_⟩⟩
        have e := e0.1
        have : i = j := by omega
        subst this
        rcases Nat.lt_or_ge i L.length with q | q
        · exact q
        · rw [List.getD_eq_getElem?_getD, List.getElem?_eq_none q] at h; cases h
theorem zst1_getD {L : List (Option zPV)} {i j : Nat} {x v : zPV} (h : (zst1 L i x).getD j none = some v) : (j = i ∧ v = x) ∨ (j ≠ i ∧ L.getD j none = some v ∧ ¬ (j + 1 = i ∧ zis2 (some v) = true)) := by
  unfold zst1 at h
  rw [zgetD_set] at h
  by_cases hij : i = j ∧ i < (zclr L i).length
  · rw [if_pos hij] at h
    exact Or.inl ⟨hij.1.symm, (Option.some.inj h).symm⟩
  · rw [if_neg hij] at h
    obtain ⟨h1, h2⟩ := zclr_getD h
    refine Or.inr ⟨fun e => hij ⟨e.symm, ?_⟩, h1, h2⟩
    subst e
    rcases Nat.lt_or_ge j (zclr L j).length with q | q
    · exact q
    · rw [List.getD_eq_getElem?_getD, List.getElem?_eq_none q] at h; cases h
theorem zst2_getD {L : List (Option zPV)} {i j : Nat} {x v : zPV} (h : (zst2 L i x).getD j none = some v) : (j = i ∧ v = x) ∨ (j ≠ i ∧ j ≠ i + 1 ∧ L.getD j none = some v ∧ ¬ (j + 1 = i ∧ zis2 (some v) = true)) := by
  unfold zst2 at h
  rw [zgetD_set] at h
  by_cases hij : i + 1 = j ∧ i + 1 < ((zclr L i).set i (some x)).length
  · rw [if_pos hij] at h; cases h
  · rw [if_neg hij] at h
    have hne : j ≠ i + 1 := by
      intro e
      subst e
      refine hij ⟨rfl, ?_⟩
      rcases Nat.lt_or_ge (i + 1) ((zclr L i).set i (some x)).length with q | q
      · exact q
      · rw [List.getD_eq_getElem?_getD, List.getElem?_eq_none q] at h; cases h
    rcases zst1_getD (L := L) (i := i) (x := x) h with q | ⟨q1, q2, q3⟩
    · exact Or.inl q
    · exact Or.inr ⟨q1, hne, q2, q3⟩
theorem zLH.set1 {ad : Nat → Nat → Nat} {ls ls' : Array Slot} {nL i : Nat} {L : List (Option zPV)} {x : zPV} (h : zLH ad ls nL L) (h' : lv_has ls' nL ((i, zcv ad x) :: (zlv ad nL L).filter (fun q => !(q.1 == i) && !(q.1 + 1 == i && q.2.category == 2)))) : zLH ad ls' nL (zst1 L i x) := by
  refine ⟨h'.1, h'.2.1, fun j v hj => ?_⟩
  rcases zst1_getD hj with ⟨rfl, rfl⟩ | ⟨h1, h2, h3⟩
  · exact h'.2.2 (j, zcv ad v) List.mem_cons_self
  · refine h'.2.2 (j, zcv ad v) (List.mem_cons_of_mem _ (List.mem_filter.mpr ⟨zlv_mem (h.lt h2) h2, ?_⟩))
    have e : ¬ (j + 1 = i ∧ (zcv ad v).category = 2) := fun q => h3 ⟨q.1, zis2_cat.mp q.2⟩
    simp only [Bool.and_eq_true, Bool.not_eq_true', beq_eq_false_iff_ne, Bool.and_eq_false_iff, ne_eq]
    refine ⟨h1, ?_⟩
    by_cases q : j + 1 = i
    · exact Or.inr fun q2 => e ⟨q, q2⟩
    · exact Or.inl q
theorem zLH.set2 {ad : Nat → Nat → Nat} {ls ls' : Array Slot} {nL i : Nat} {L : List (Option zPV)} {x : zPV} (h : zLH ad ls nL L) (h' : lv_has ls' nL ((i, zcv ad x) :: (zlv ad nL L).filter (fun q => !(q.1 == i) && (!(q.1 == i + 1) && !(q.1 + 1 == i && q.2.category == 2))))) : zLH ad ls' nL (zst2 L i x) := by
  refine ⟨h'.1, h'.2.1, fun j v hj => ?_⟩
  rcases zst2_getD hj with ⟨rfl, rfl⟩ | ⟨h1, h1', h2, h3⟩
  · exact h'.2.2 (j, zcv ad v) List.mem_cons_self
  · refine h'.2.2 (j, zcv ad v) (List.mem_cons_of_mem _ (List.mem_filter.mpr ⟨zlv_mem (h.lt h2) h2, ?_⟩))
    have e : ¬ (j + 1 = i ∧ (zcv ad v).category = 2) := fun q => h3 ⟨q.1, zis2_cat.mp q.2⟩
    simp only [Bool.and_eq_true, Bool.not_eq_true', beq_eq_false_iff_ne, Bool.and_eq_false_iff, ne_eq]
    refine ⟨h1, h1', ?_⟩
    by_cases q : j + 1 = i
    · exact Or.inr fun q2 => e ⟨q, q2⟩
    · exact Or.inl q
theorem zclr_len (L : List (Option zPV)) (i : Nat) : (zclr L i).length = L.length := by
  unfold zclr
  cases i with
  | zero => rfl
  | succ j =>
    dsimp only
    cases zis2 (L.getD j none) <;> simp
theorem zst1_len (L : List (Option zPV)) (i : Nat) (v : zPV) : (zst1 L i v).length = L.length := by
  unfold zst1
  rw [List.length_set, zclr_len]
theorem zst2_len (L : List (Option zPV)) (i : Nat) (v : zPV) : (zst2 L i v).length = L.length := by
  unfold zst2
  rw [List.length_set, List.length_set, zclr_len]
/-! one step -/
theorem zfl_find {o i c k : Nat} (h : zFL.any (fun q => Nat.beq q.1 o && (Nat.beq q.2.1 i && (Nat.beq q.2.2.1 c && Nat.beq q.2.2.2.1 k))) = true) : ∃ p, (o, i, c, k, p) ∈ zFL := by
  obtain ⟨q, hq, h⟩ := List.any_eq_true.mp h
  simp only [Bool.and_eq_true, Nat.beq_eq] at h
  obtain ⟨h1, h2, h3, h4⟩ := h
  obtain ⟨a, b, c', d, e⟩ := q
  dsimp only at h1 h2 h3 h4
  subst h1 h2 h3 h4
  exact ⟨e, hq⟩
set_option maxRecDepth 20000 in
theorem zFL_ok : ∀ q ∈ zFL, lw_tbl[q.2.2.2.2]? = some (.fieldLink (zN q.1) q.2.1 (zR q.2.2.1) (zT q.2.2.1 q.2.2.2.1).2.1 (zT q.2.2.1 q.2.2.2.1).2.2.1) := by decide +kernel
theorem zFL_in {o i c k : Nat} (h : zFL.any (fun q => Nat.beq q.1 o && (Nat.beq q.2.1 i && (Nat.beq q.2.2.1 c && Nat.beq q.2.2.2.1 k))) = true) : Cond.fieldLink (zN o) i (zR c) (zT c k).2.1 (zT c k).2.2.1 ∈ zGW := by
  obtain ⟨p, hp⟩ := zfl_find h
  exact zgw (List.mem_of_getElem? (zFL_ok _ hp)) rfl
set_option maxRecDepth 20000 in
theorem zCI_ok : ∀ q ∈ zCI, lw_tbl[q.2.2.2]? = some (.constant (zN q.1) q.2.1 q.2.2.1) := by decide +kernel
set_option maxRecDepth 20000 in
theorem zCL_ok : ∀ q ∈ zCL, lw_tbl[q.2.2.2]? = some (.constantLong (zN q.1) q.2.1 q.2.2.1) := by decide +kernel
theorem zCI_in {o i : Nat} {x : Int32} (h : zCI.any (fun q => Nat.beq q.1 o && (Nat.beq q.2.1 i && decide (q.2.2.1 = x))) = true) : Cond.constant (zN o) i x ∈ zGW := by
  obtain ⟨q, hq, h⟩ := List.any_eq_true.mp h
  simp only [Bool.and_eq_true, Nat.beq_eq, decide_eq_true_eq] at h
  obtain ⟨h1, h2, h3⟩ := h
  obtain ⟨a, b, c', d⟩ := q
  dsimp only at h1 h2 h3
  subst h1 h2 h3
  exact zgw (List.mem_of_getElem? (zCI_ok _ hq)) rfl
theorem zCL_in {o i : Nat} {x : Int64} (h : zCL.any (fun q => Nat.beq q.1 o && (Nat.beq q.2.1 i && decide (q.2.2.1 = x))) = true) : Cond.constantLong (zN o) i x ∈ zGW := by
  obtain ⟨q, hq, h⟩ := List.any_eq_true.mp h
  simp only [Bool.and_eq_true, Nat.beq_eq, decide_eq_true_eq] at h
  obtain ⟨h1, h2, h3⟩ := h
  obtain ⟨a, b, c', d⟩ := q
  dsimp only at h1 h2 h3
  subst h1 h2 h3
  exact zgw (List.mem_of_getElem? (zCL_ok _ hq)) rfl
set_option maxRecDepth 20000 in
theorem zMX_ok : ∀ q ∈ zMX, lw_tbl[q.2.2.2]? = some (.methodLink (zN q.1) q.2.1 (bif Nat.beq q.2.2.1 0 then Lib.Math.max.name else Lib.Math.min.name)) := by decide +kernel
set_option maxRecDepth 20000 in
theorem zAC_ok : ∀ q ∈ zAC, lw_tbl[q.2.2]? = some (.methodLink (zN q.1) q.2.1 arraycopyName) := by decide +kernel
set_option maxRecDepth 20000 in
theorem zmath_in : Cond.static Lib.Math.max.name ∈ zGW ∧ Cond.initialized "java/lang/Math" ∈ zGW ∧ Cond.code Lib.Math.max.name Lib.Math.max.code 2 (some .int) ∈ zGW ∧ Cond.static Lib.Math.min.name ∈ zGW ∧ Cond.code Lib.Math.min.name Lib.Math.min.code 2 (some .int) ∈ zGW := ⟨zgw (List.mem_of_getElem? (i := 342) (by decide +kernel)) rfl, zgw (List.mem_of_getElem? (i := 100) (by decide +kernel)) rfl, zgw (List.mem_of_getElem? (i := 343) (by decide +kernel)) rfl, zgw (List.mem_of_getElem? (i := 339) (by decide +kernel)) rfl, zgw (List.mem_of_getElem? (i := 340) (by decide +kernel)) rfl⟩
theorem zcopy_in : Cond.native arraycopyName ∈ zGW ∧ Cond.static arraycopyName ∈ zGW ∧ Cond.initialized "java/lang/System" ∈ zGW := ⟨zgw (List.mem_of_getElem? (i := 383) (by decide +kernel)) rfl, zgw (List.mem_of_getElem? (i := 382) (by decide +kernel)) rfl, zgw (List.mem_of_getElem? (i := 101) (by decide +kernel)) rfl⟩
/-- what is known of the classes of objects -/
theorem zinX0 : ∀ x ∈ wsX00, x ∈ zGW := fun x h => zgw (inX0 x h) (List.all_eq_true.mp (show wsX00.all goodWord = true by decide +kernel) x h)
theorem zinX1 : ∀ x ∈ wsX10, x ∈ zGW := fun x h => zgw (inX1 x h) (List.all_eq_true.mp (show wsX10.all goodWord = true by decide +kernel) x h)
theorem zinX2 : ∀ x ∈ wsX20, x ∈ zGW := fun x h => zgw (inX2 x h) (List.all_eq_true.mp (show wsX20.all goodWord = true by decide +kernel) x h)
theorem zinX3 : ∀ x ∈ wsX30, x ∈ zGW := fun x h => zgw (inX3 x h) (List.all_eq_true.mp (show wsX30.all goodWord = true by decide +kernel) x h)
theorem zinX4 : ∀ x ∈ wsX40, x ∈ zGW := fun x h => zgw (inX4 x h) (List.all_eq_true.mp (show wsX40.all goodWord = true by decide +kernel) x h)
theorem zinX5 : ∀ x ∈ wsX50, x ∈ zGW := fun x h => zgw (inX5 x h) (List.all_eq_true.mp (show wsX50.all goodWord = true by decide +kernel) x h)
theorem zinX6 : ∀ x ∈ wsX60, x ∈ zGW := fun x h => zgw (inX6 x h) (List.all_eq_true.mp (show wsX60.all goodWord = true by decide +kernel) x h)
theorem zinX7 : ∀ x ∈ wsX70, x ∈ zGW := fun x h => zgw (inX7 x h) (List.all_eq_true.mp (show wsX70.all goodWord = true by decide +kernel) x h)
theorem zkd_far {c : Nat} (h : 100 ≤ c) : zkd c = 9 := by
  unfold zkd
  rw [show Nat.ble 64 c = true from Nat.ble_eq_true_of_le (by omega)]
  show List.getD _ _ _ = 9
  rw [List.getD_eq_getElem?_getD, List.getElem?_eq_none (by simp; omega)]; rfl
theorem zobj_cases {c : Nat} (h : zkd c = 0) : c = 0 ∨ c = 1 ∨ c = 8 ∨ c = 10 ∨ c = 18 ∨ c = 19 ∨ c = 20 ∨ c = 64 := by
  rcases Nat.lt_or_ge c 100 with q | q
  · have key : ∀ c, c < 100 → zkd c = 0 → (c = 0 ∨ c = 1 ∨ c = 8 ∨ c = 10 ∨ c = 18 ∨ c = 19 ∨ c = 20 ∨ c = 64) := by decide +kernel
    exact key c q h
  · rw [zkd_far q] at h; cases h
theorem zobj {c : Nat} (h : zkd c = 0) : vwCl[zci c]? = some (zR c, zT c, zlen c) ∧ (∀ x ∈ u_ws (zR c) (zT c) (zlen c), x ∈ zGW) ∧ (∀ a, a < zlen c → ∀ b, b < zlen c → a ≠ b → (zT c a).2.1 ≠ (zT c b).2.1) ∧ (∃ ty : Nat → FieldType, ∀ k, k < zlen c → parseFieldDescriptor (zT c k).2.2.1 = some (ty k)) := by
  rcases zobj_cases h with rfl | rfl | rfl | rfl | rfl | rfl | rfl | rfl
  · exact ⟨rfl, zinX6, nmX6, tyX6, tyX6_ok⟩
  · exact ⟨rfl, zinX5, nmX5, tyX5, tyX5_ok⟩
  · exact ⟨rfl, zinX4, nmX4, tyX4, tyX4_ok⟩
  · exact ⟨rfl, zinX2, nmX2, tyX2, tyX2_ok⟩
  · exact ⟨rfl, zinX1, nmX1, tyX1, tyX1_ok⟩
  · exact ⟨rfl, zinX3, nmX3, tyX3, tyX3_ok⟩
  · exact ⟨rfl, zinX0, nmX0, tyX0, tyX0_ok⟩
  · exact ⟨rfl, zinX7, nmX7, tyX7, tyX7_ok⟩
set_option maxRecDepth 20000 in
theorem zown0 : ∀ c, c < 100 → zkd c = 0 → ∀ k, k < 42 → k < zlen c → (zT c k).1 = zR c := by decide +kernel
theorem zlen_le : ∀ c, c < 100 → zkd c = 0 → zlen c ≤ 42 := by decide +kernel
theorem zown {c k : Nat} (h : zkd c = 0) (hk : k < zlen c) : (zT c k).1 = zR c := by
  have hc : c < 100 := by rcases zobj_cases h with rfl | rfl | rfl | rfl | rfl | rfl | rfl | rfl <;> decide
  exact zown0 c hc h k (Nat.lt_of_lt_of_le hk (zlen_le c hc h)) hk
def zfty (c k : Nat) : FieldType := bif Nat.beq (zfk c k) 1 then .long else (bif zbz c k then .boolean else .int)
set_option maxRecDepth 20000 in
theorem zfin0a : ∀ c, c < 100 → zkd c = 0 → ∀ k, k < 42 → k < zlen c → zfk c k < 2 → (zT c k).2.2.2 = false := by decide +kernel
set_option maxRecDepth 20000 in
theorem zfin0b : ∀ c, c < 100 → ∀ k, k < 42 → (bif Nat.beq (zkd c) 0 && (Nat.blt k (zlen c) && Nat.blt (zfk c k) 2) then decide (parseFieldDescriptor (zT c k).2.2.1 = some (zfty c k)) else true) = true := by decide +kernel
theorem zfin {c k : Nat} (h : zkd c = 0) (hk : k < zlen c) (h2 : zfk c k < 2) : (zT c k).2.2.2 = false ∧ parseFieldDescriptor (zT c k).2.2.1 = some (zfty c k) := by
  have hc : c < 100 := by rcases zobj_cases h with rfl | rfl | rfl | rfl | rfl | rfl | rfl | rfl <;> decide
  have hl := Nat.lt_of_lt_of_le hk (zlen_le c hc h)
  have hb := zfin0b c hc k hl
  rw [show (Nat.beq (zkd c) 0 && (Nat.blt k (zlen c) && Nat.blt (zfk c k) 2)) = true from by rw [Bool.and_eq_true, Bool.and_eq_true]; exact ⟨Nat.beq_eq.mpr h, Nat.blt_eq.mpr hk, Nat.blt_eq.mpr h2⟩, cond_true] at hb
  exact ⟨zfin0a c hc h k hl hk h2, of_decide_eq_true hb⟩
theorem zfv_wrI {M : zWM} {c j k : Nat} {x : Int32} (hk : zfk c k = 0) : zfv (wrI M c j (zp (rdI M c j) k x)) c j k = .inl x := by
  unfold zfv
  rw [hk]
  show Sum.inl _ = _
  rw [rdI_wrI, zp_self]
theorem zfv_wrI_ne {M : zWM} {c j k i : Nat} {x : Int32} (hi : i ≠ k) : zfv (wrI M c j (zp (rdI M c j) k x)) c j i = zfv M c j i := by
  unfold zfv
  rw [rdI_wrI, zp_ne _ _ hi, rdL_wrI]
theorem zfv_wrL {M : zWM} {c j k : Nat} {x : Int64} (hk : zfk c k = 1) : zfv (wrL M c j (zp (rdL M c j) k x)) c j k = .inr (.inl x) := by
  unfold zfv
  rw [hk]
  show Sum.inr (Sum.inl _) = _
  rw [rdL_wrL, zp_self]
theorem zfv_wrL_ne {M : zWM} {c j k i : Nat} {x : Int64} (hi : i ≠ k) : zfv (wrL M c j (zp (rdL M c j) k x)) c j i = zfv M c j i := by
  unfold zfv
  rw [rdL_wrL, zp_ne _ _ hi, rdI_wrL]
theorem zcat_val {ad : Nat → Nat → Nat} {v : zPV} (h : zcat v = false) : (zcv ad v).category = 1 := by
  rcases v with x | x | x <;> simp [zcv, zcat, Value.category] at h ⊢
theorem zcat_val2 {ad : Nat → Nat → Nat} {v : zPV} (h : zcat v = true) : (zcv ad v).category = 2 := by
  rcases v with x | x | x <;> simp [zcv, zcat, Value.category] at h ⊢
theorem zcat_sum {ad : Nat → Nat → Nat} (st : List zPV) : ((st.map (zcv ad)).map fun v => v.category).sum ≤ 2 * st.length := by
  induction st with
  | nil => simp
  | cons v st ih =>
    have h : (zcv ad v).category ≤ 2 := by rcases v with x | x | x <;> simp [zcv, Value.category]
    simp only [List.map_cons, List.sum_cons, List.length_cons]
    omega
end
section
/-! the rows, over the pure machine -/
section ZSTEP
variable {w : zWd} {f : zFr} {o nL d pc n : Nat} {cc : ByteArray} {i : Instr} {a : zPV} {s : zSt}
theorem zstep_push {v : zPV} (row : ∀ {p : Program} {l : Launch} {e : Env} {R : Room} {st : State} {m : MethodId} {args : Array Value} {below : List Frame} {meth : Method} {c : Code} {H : Heap} {locs : List Loc} {cells slots : Nat} {Q : State → Prop} {ls : Array Slot} {rest : List Value}, p.tables.exec = Jvm.exec → c.code = cc → st.vm.findClass (zN o) = some m.cls → (∀ x ∈ zGW, x.before args st = true) → zSP w st st.heap → va_S w.2.2.2 st.heap H locs →
    W p l e R st m args below meth c H locs cells slots Q (F0 m (pc + n) ls (zcv w.2.2.1 v :: rest)) → W p l e R st m args below meth c H locs cells slots Q (F0 m pc ls rest)) (hF : zFOK w f o cc nL d) (h : zpush v s (zG w f nL (pc + n))) : zG w f nL pc s := by
  obtain ⟨p, l, e, R, st, m, args, below, meth, c, cells, slots, Q, z⟩ := f
  obtain ⟨hx, hb, hml, hown, hts, hlk, hrm, hsp, hD, hz⟩ := hF
  intro hn H locs ls hP hS hL
  exact row hx hb hown hts hsp hS (h hn H locs ls hP hS hL)
end ZSTEP
section ZST2
variable {w : zWd} {f : zFr} {o nL d pc : Nat} {cc : ByteArray} {s : zSt}
theorem zstep_z2I {i : Instr} {op : Int32 → Int32 → Int32} (row : ∀ {p : Program} {l : Launch} {e : Env} {R : Room} {st : State} {m : MethodId} {args : Array Value} {below : List Frame} {meth : Method} {c : Code} {H : Heap} {locs : List Loc} {cells slots : Nat} {Q : State → Prop} {ls : Array Slot} {rest : List Value} {x y : Int32}, p.tables.exec = Jvm.exec → c.code = cc →
    W p l e R st m args below meth c H locs cells slots Q (F0 m (pc + 1) ls (.int (op x y) :: rest)) → W p l e R st m args below meth c H locs cells slots Q (F0 m pc ls (.int y :: .int x :: rest))) (hF : zFOK w f o cc nL d) (h : z2I op s (zG w f nL (pc + 1))) : zG w f nL pc s := by
  obtain ⟨p, l, e, R, st, m, args, below, meth, c, cells, slots, Q, z⟩ := f
  obtain ⟨hx, hb, -⟩ := hF
  obtain ⟨L, sk, M⟩ := s
  intro hn H locs ls hP hS hL
  match sk, h with
  | .inl y :: .inl x :: r, h => exact row hx hb (h hn H locs ls hP hS hL)
theorem zstep_z2D {op : Int32 → Int32 → Int32} (row : ∀ {p : Program} {l : Launch} {e : Env} {R : Room} {st : State} {m : MethodId} {args : Array Value} {below : List Frame} {meth : Method} {c : Code} {H : Heap} {locs : List Loc} {cells slots : Nat} {Q : State → Prop} {ls : Array Slot} {rest : List Value} {x y : Int32}, p.tables.exec = Jvm.exec → c.code = cc → ¬ y = 0 →
    W p l e R st m args below meth c H locs cells slots Q (F0 m (pc + 1) ls (.int (op x y) :: rest)) → W p l e R st m args below meth c H locs cells slots Q (F0 m pc ls (.int y :: .int x :: rest))) (hF : zFOK w f o cc nL d) (h : z2D op s (zG w f nL (pc + 1))) : zG w f nL pc s := by
  obtain ⟨p, l, e, R, st, m, args, below, meth, c, cells, slots, Q, z⟩ := f
  obtain ⟨hx, hb, -⟩ := hF
  obtain ⟨L, sk, M⟩ := s
  intro hn H locs ls hP hS hL
  match sk, h with
  | .inl y :: .inl x :: r, h => exact row hx hb h.1 (h.2 hn H locs ls hP hS hL)
theorem zstep_z1I {op : Int32 → Int32} (row : ∀ {p : Program} {l : Launch} {e : Env} {R : Room} {st : State} {m : MethodId} {args : Array Value} {below : List Frame} {meth : Method} {c : Code} {H : Heap} {locs : List Loc} {cells slots : Nat} {Q : State → Prop} {ls : Array Slot} {rest : List Value} {x : Int32}, p.tables.exec = Jvm.exec → c.code = cc →
    W p l e R st m args below meth c H locs cells slots Q (F0 m (pc + 1) ls (.int (op x) :: rest)) → W p l e R st m args below meth c H locs cells slots Q (F0 m pc ls (.int x :: rest))) (hF : zFOK w f o cc nL d) (h : z1I op s (zG w f nL (pc + 1))) : zG w f nL pc s := by
  obtain ⟨p, l, e, R, st, m, args, below, meth, c, cells, slots, Q, z⟩ := f
  obtain ⟨hx, hb, -⟩ := hF
  obtain ⟨L, sk, M⟩ := s
  intro hn H locs ls hP hS hL
  match sk, h with
  | .inl x :: r, h => exact row hx hb (h hn H locs ls hP hS hL)
theorem zstep_z2L {op : Int64 → Int64 → Int64} (row : ∀ {p : Program} {l : Launch} {e : Env} {R : Room} {st : State} {m : MethodId} {args : Array Value} {below : List Frame} {meth : Method} {c : Code} {H : Heap} {locs : List Loc} {cells slots : Nat} {Q : State → Prop} {ls : Array Slot} {rest : List Value} {x y : Int64}, p.tables.exec = Jvm.exec → c.code = cc →
    W p l e R st m args below meth c H locs cells slots Q (F0 m (pc + 1) ls (.long (op x y) :: rest)) → W p l e R st m args below meth c H locs cells slots Q (F0 m pc ls (.long y :: .long x :: rest))) (hF : zFOK w f o cc nL d) (h : z2L op s (zG w f nL (pc + 1))) : zG w f nL pc s := by
  obtain ⟨p, l, e, R, st, m, args, below, meth, c, cells, slots, Q, z⟩ := f
  obtain ⟨hx, hb, -⟩ := hF
  obtain ⟨L, sk, M⟩ := s
  intro hn H locs ls hP hS hL
  match sk, h with
  | .inr (.inl y) :: .inr (.inl x) :: r, h => exact row hx hb (h hn H locs ls hP hS hL)
theorem zstep_zLI {op : Int64 → Int32 → Int64} (row : ∀ {p : Program} {l : Launch} {e : Env} {R : Room} {st : State} {m : MethodId} {args : Array Value} {below : List Frame} {meth : Method} {c : Code} {H : Heap} {locs : List Loc} {cells slots : Nat} {Q : State → Prop} {ls : Array Slot} {rest : List Value} {x : Int64} {y : Int32}, p.tables.exec = Jvm.exec → c.code = cc →
    W p l e R st m args below meth c H locs cells slots Q (F0 m (pc + 1) ls (.long (op x y) :: rest)) → W p l e R st m args below meth c H locs cells slots Q (F0 m pc ls (.int y :: .long x :: rest))) (hF : zFOK w f o cc nL d) (h : zLI op s (zG w f nL (pc + 1))) : zG w f nL pc s := by
  obtain ⟨p, l, e, R, st, m, args, below, meth, c, cells, slots, Q, z⟩ := f
  obtain ⟨hx, hb, -⟩ := hF
  obtain ⟨L, sk, M⟩ := s
  intro hn H locs ls hP hS hL
  match sk, h with
  | .inl y :: .inr (.inl x) :: r, h => exact row hx hb (h hn H locs ls hP hS hL)
theorem zstep_cmp (hd : decode cc pc = .ok (.lcmp, 1)) (hF : zFOK w f o cc nL d) (h : zcmp s (zG w f nL (pc + 1))) : zG w f nL pc s := by
  obtain ⟨p, l, e, R, st, m, args, below, meth, c, cells, slots, Q, z⟩ := f
  obtain ⟨hx, hb, -⟩ := hF
  obtain ⟨L, sk, M⟩ := s
  intro hn H locs ls hP hS hL
  match sk, h with
  | .inr (.inl y) :: .inr (.inl x) :: r, h => exact W.lcmp hx hb hd (h hn H locs ls hP hS hL)
theorem zstep_i2l (hd : decode cc pc = .ok (.i2l, 1)) (hF : zFOK w f o cc nL d) (h : zi2l s (zG w f nL (pc + 1))) : zG w f nL pc s := by
  obtain ⟨p, l, e, R, st, m, args, below, meth, c, cells, slots, Q, z⟩ := f
  obtain ⟨hx, hb, -⟩ := hF
  obtain ⟨L, sk, M⟩ := s
  intro hn H locs ls hP hS hL
  match sk, h with
  | .inl x :: r, h => exact lv_i2l hx hb hd rfl (h hn H locs ls hP hS hL)
theorem zstep_l2i (hd : decode cc pc = .ok (.l2i, 1)) (hF : zFOK w f o cc nL d) (h : zl2i s (zG w f nL (pc + 1))) : zG w f nL pc s := by
  obtain ⟨p, l, e, R, st, m, args, below, meth, c, cells, slots, Q, z⟩ := f
  obtain ⟨hx, hb, -⟩ := hF
  obtain ⟨L, sk, M⟩ := s
  intro hn H locs ls hP hS hL
  match sk, h with
  | .inr (.inl x) :: r, h => exact lv_l2i hx hb hd rfl (h hn H locs ls hP hS hL)
theorem zstep_dup (hd : decode cc pc = .ok (.dup, 1)) (hF : zFOK w f o cc nL d) (h : zdup s (zG w f nL (pc + 1))) : zG w f nL pc s := by
  obtain ⟨p, l, e, R, st, m, args, below, meth, c, cells, slots, Q, z⟩ := f
  obtain ⟨hx, hb, -⟩ := hF
  obtain ⟨L, sk, M⟩ := s
  intro hn H locs ls hP hS hL
  match sk, h with
  | v :: r, h => exact lv_dup hx hb hd (zcat_val h.1) (h.2 hn H locs ls hP hS hL)
theorem zstep_dupx (hd : decode cc pc = .ok (.dup_x1, 1)) (hF : zFOK w f o cc nL d) (h : zdupx s (zG w f nL (pc + 1))) : zG w f nL pc s := by
  obtain ⟨p, l, e, R, st, m, args, below, meth, c, cells, slots, Q, z⟩ := f
  obtain ⟨hx, hb, -⟩ := hF
  obtain ⟨L, sk, M⟩ := s
  intro hn H locs ls hP hS hL
  match sk, h with
  | v :: u :: r, h => exact lv_dup_x1 hx hb hd (zcat_val (Bool.or_eq_false_iff.mp h.1).1) (zcat_val (Bool.or_eq_false_iff.mp h.1).2) (h.2 hn H locs ls hP hS hL)
theorem zstep_dup2 (hd : decode cc pc = .ok (.dup2, 1)) (hF : zFOK w f o cc nL d) (h : zdup2 s (zG w f nL (pc + 1))) : zG w f nL pc s := by
  obtain ⟨p, l, e, R, st, m, args, below, meth, c, cells, slots, Q, z⟩ := f
  obtain ⟨hx, hb, -⟩ := hF
  obtain ⟨L, sk, M⟩ := s
  intro hn H locs ls hP hS hL
  match sk, h with
  | v :: u :: r, h => exact lv_dup2_11 hx hb hd (zcat_val (Bool.or_eq_false_iff.mp h.1).1) (zcat_val (Bool.or_eq_false_iff.mp h.1).2) (h.2 hn H locs ls hP hS hL)
theorem zstep_pop (hd : decode cc pc = .ok (.pop, 1)) (hF : zFOK w f o cc nL d) (h : zpop s (zG w f nL (pc + 1))) : zG w f nL pc s := by
  obtain ⟨p, l, e, R, st, m, args, below, meth, c, cells, slots, Q, z⟩ := f
  obtain ⟨hx, hb, -⟩ := hF
  obtain ⟨L, sk, M⟩ := s
  intro hn H locs ls hP hS hL
  match sk, h with
  | v :: r, h => exact lv_pop hx hb hd (zcat_val h.1) (h.2 hn H locs ls hP hS hL)
theorem zstep_pop2 (hd : decode cc pc = .ok (.pop2, 1)) (hF : zFOK w f o cc nL d) (h : zpop2 s (zG w f nL (pc + 1))) : zG w f nL pc s := by
  obtain ⟨p, l, e, R, st, m, args, below, meth, c, cells, slots, Q, z⟩ := f
  obtain ⟨hx, hb, -⟩ := hF
  obtain ⟨L, sk, M⟩ := s
  intro hn H locs ls hP hS hL
  match sk, h with
  | v :: r, h => exact lv_pop2_2 hx hb hd (zcat_val2 h.1) (h.2 hn H locs ls hP hS hL)
theorem zstep_ldI {k n : Nat} (row : ∀ {p : Program} {l : Launch} {e : Env} {R : Room} {st : State} {m : MethodId} {args : Array Value} {below : List Frame} {meth : Method} {c : Code} {H : Heap} {locs : List Loc} {cells slots : Nat} {Q : State → Prop} {ls : Array Slot} {rest : List Value} {x : Int32}, p.tables.exec = Jvm.exec → c.code = cc → ls[k]? = some (.val (.int x)) →
    W p l e R st m args below meth c H locs cells slots Q (F0 m (pc + n) ls (.int x :: rest)) → W p l e R st m args below meth c H locs cells slots Q (F0 m pc ls rest)) (hF : zFOK w f o cc nL d) (h : zldI k s (zG w f nL (pc + n))) : zG w f nL pc s := by
  obtain ⟨p, l, e, R, st, m, args, below, meth, c, cells, slots, Q, z⟩ := f
  obtain ⟨hx, hb, -⟩ := hF
  obtain ⟨L, sk, M⟩ := s
  intro hn H locs ls hP hS hL
  unfold zldI at h
  split at h
  · rename_i x hv
    exact row hx hb (hL.at hv) (h hn H locs ls hP hS hL)
  · exact h.elim
theorem zstep_ldL {k n : Nat} (row : ∀ {p : Program} {l : Launch} {e : Env} {R : Room} {st : State} {m : MethodId} {args : Array Value} {below : List Frame} {meth : Method} {c : Code} {H : Heap} {locs : List Loc} {cells slots : Nat} {Q : State → Prop} {ls : Array Slot} {rest : List Value} {x : Int64}, p.tables.exec = Jvm.exec → c.code = cc → ls[k]? = some (.val (.long x)) →
    W p l e R st m args below meth c H locs cells slots Q (F0 m (pc + n) ls (.long x :: rest)) → W p l e R st m args below meth c H locs cells slots Q (F0 m pc ls rest)) (hF : zFOK w f o cc nL d) (h : zldL k s (zG w f nL (pc + n))) : zG w f nL pc s := by
  obtain ⟨p, l, e, R, st, m, args, below, meth, c, cells, slots, Q, z⟩ := f
  obtain ⟨hx, hb, -⟩ := hF
  obtain ⟨L, sk, M⟩ := s
  intro hn H locs ls hP hS hL
  unfold zldL at h
  split at h
  · rename_i x hv
    exact row hx hb (hL.at hv) (h hn H locs ls hP hS hL)
  · exact h.elim
theorem zstep_ldR {k n : Nat} (row : ∀ {p : Program} {l : Launch} {e : Env} {R : Room} {st : State} {m : MethodId} {args : Array Value} {below : List Frame} {meth : Method} {c : Code} {H : Heap} {locs : List Loc} {cells slots : Nat} {Q : State → Prop} {ls : Array Slot} {rest : List Value} {x : Nat}, p.tables.exec = Jvm.exec → c.code = cc → ls[k]? = some (.val (.ref x)) →
    W p l e R st m args below meth c H locs cells slots Q (F0 m (pc + n) ls (.ref x :: rest)) → W p l e R st m args below meth c H locs cells slots Q (F0 m pc ls rest)) (hF : zFOK w f o cc nL d) (h : zldR k s (zG w f nL (pc + n))) : zG w f nL pc s := by
  obtain ⟨p, l, e, R, st, m, args, below, meth, c, cells, slots, Q, z⟩ := f
  obtain ⟨hx, hb, -⟩ := hF
  obtain ⟨L, sk, M⟩ := s
  intro hn H locs ls hP hS hL
  unfold zldR at h
  split at h
  · rename_i x hv
    exact row hx hb (hL.at hv) (h hn H locs ls hP hS hL)
  · exact h.elim
theorem zstep_stI {k n : Nat} (row : ∀ {p : Program} {l : Launch} {e : Env} {R : Room} {st : State} {m : MethodId} {args : Array Value} {below : List Frame} {meth : Method} {c : Code} {H : Heap} {locs : List Loc} {cells slots : Nat} {Q : State → Prop} {ls : Array Slot} {rest : List Value} {x : Int32} {lv lv' : List (Nat × Value)} {nL : Nat}, p.tables.exec = Jvm.exec → c.code = cc → lv_has ls nL lv → k < nL → (k, Value.int x) :: lv.filter (fun q => !(q.1 == k) && !(q.1 + 1 == k && q.2.category == 2)) = lv' →
    (∀ ls' : Array Slot, lv_has ls' nL lv' → W p l e R st m args below meth c H locs cells slots Q (F0 m (pc + n) ls' rest)) → W p l e R st m args below meth c H locs cells slots Q (F0 m pc ls (.int x :: rest))) (hF : zFOK w f o cc nL d) (h : zstI k s (zG w f nL (pc + n))) : zG w f nL pc s := by
  obtain ⟨p, l, e, R, st, m, args, below, meth, c, cells, slots, Q, z⟩ := f
  obtain ⟨hx, hb, -⟩ := hF
  obtain ⟨L, sk, M⟩ := s
  intro hn H locs ls hP hS hL
  match sk, h with
  | .inl x :: r, h => exact row hx hb hL.has (by rw [← show L.length = nL from hn]; exact Nat.blt_eq.mp h.1) rfl (fun ls' h' => h.2 ((zst1_len _ _ _).trans hn) H locs ls' hP hS (hL.set1 h'))
theorem zstep_stL {k n : Nat} (row : ∀ {p : Program} {l : Launch} {e : Env} {R : Room} {st : State} {m : MethodId} {args : Array Value} {below : List Frame} {meth : Method} {c : Code} {H : Heap} {locs : List Loc} {cells slots : Nat} {Q : State → Prop} {ls : Array Slot} {rest : List Value} {x : Int64} {lv lv' : List (Nat × Value)} {nL : Nat}, p.tables.exec = Jvm.exec → c.code = cc → lv_has ls nL lv → k + 1 < nL → (k, Value.long x) :: lv.filter (fun q => !(q.1 == k) && (!(q.1 == k + 1) && !(q.1 + 1 == k && q.2.category == 2))) = lv' →
    (∀ ls' : Array Slot, lv_has ls' nL lv' → W p l e R st m args below meth c H locs cells slots Q (F0 m (pc + n) ls' rest)) → W p l e R st m args below meth c H locs cells slots Q (F0 m pc ls (.long x :: rest))) (hF : zFOK w f o cc nL d) (h : zstL k s (zG w f nL (pc + n))) : zG w f nL pc s := by
  obtain ⟨p, l, e, R, st, m, args, below, meth, c, cells, slots, Q, z⟩ := f
  obtain ⟨hx, hb, -⟩ := hF
  obtain ⟨L, sk, M⟩ := s
  intro hn H locs ls hP hS hL
  match sk, h with
  | .inr (.inl x) :: r, h => exact row hx hb hL.has (by rw [← show L.length = nL from hn]; exact Nat.blt_eq.mp h.1) rfl (fun ls' h' => h.2 ((zst2_len _ _ _).trans hn) H locs ls' hP hS (hL.set2 h'))
theorem zstep_stR {k n : Nat} (row : ∀ {p : Program} {l : Launch} {e : Env} {R : Room} {st : State} {m : MethodId} {args : Array Value} {below : List Frame} {meth : Method} {c : Code} {H : Heap} {locs : List Loc} {cells slots : Nat} {Q : State → Prop} {ls : Array Slot} {rest : List Value} {x : Nat} {lv lv' : List (Nat × Value)} {nL : Nat}, p.tables.exec = Jvm.exec → c.code = cc → lv_has ls nL lv → k < nL → (k, Value.ref x) :: lv.filter (fun q => !(q.1 == k) && !(q.1 + 1 == k && q.2.category == 2)) = lv' →
    (∀ ls' : Array Slot, lv_has ls' nL lv' → W p l e R st m args below meth c H locs cells slots Q (F0 m (pc + n) ls' rest)) → W p l e R st m args below meth c H locs cells slots Q (F0 m pc ls (.ref x :: rest))) (hF : zFOK w f o cc nL d) (h : zstR k s (zG w f nL (pc + n))) : zG w f nL pc s := by
  obtain ⟨p, l, e, R, st, m, args, below, meth, c, cells, slots, Q, z⟩ := f
  obtain ⟨hx, hb, -⟩ := hF
  obtain ⟨L, sk, M⟩ := s
  intro hn H locs ls hP hS hL
  match sk, h with
  | .inr (.inr x) :: r, h => exact row hx hb hL.has (by rw [← show L.length = nL from hn]; exact Nat.blt_eq.mp h.1) rfl (fun ls' h' => h.2 ((zst1_len _ _ _).trans hn) H locs ls' hP hS (hL.set1 h'))
theorem zstep_inc {k : Nat} {v : Int} {x : Int32} (hd : decode cc pc = .ok (.iinc k v, 3)) (hv : Int32.ofInt v = x) (hF : zFOK w f o cc nL d) (h : zinc k (.inl x) s (zG w f nL (pc + 3))) : zG w f nL pc s := by
  obtain ⟨p, l, e, R, st, m, args, below, meth, c, cells, slots, Q, z⟩ := f
  obtain ⟨hx, hb, -⟩ := hF
  obtain ⟨L, sk, M⟩ := s
  intro hn H locs ls hP hS hL
  unfold zinc at h
  split at h
  · rename_i q1 q2 y e hv'
    cases e
    have hk : k < nL := by rw [← show L.length = nL from hn]; exact Nat.blt_eq.mp h.1
    have hm := zlv_mem (ad := w.2.2.1) hk hv'
    obtain ⟨k9, hk9⟩ := List.getElem?_of_mem hm
    subst hv
    exact lv_iinc hx hb hd hL.has hk9 rfl hk rfl (fun ls' h' => h.2 ((zst1_len _ _ _).trans hn) H locs ls' hP hS (hL.set1 h'))
  · exact h.elim
end ZST2
end
section
section ZST3
variable {w : zWd} {f : zFr} {o nL d pc : Nat} {cc : ByteArray} {s : zSt} {a : zPV}
theorem zstep_get {i : Nat} (hd : decode cc pc = .ok (.getfield i, 3)) (ha : zaux o (.getfield i) a = true) (hF : zFOK w f o cc nL d) (h : zget a s (zG w f nL (pc + 3))) : zG w f nL pc s := by
  obtain ⟨p, l, e, R, st, m, args, below, meth, c, cells, slots, Q, z⟩ := f
  obtain ⟨hx, hb, hml, hown, hts, hlk, hrm, hsp, hD, hz⟩ := hF
  obtain ⟨L, sk, M⟩ := s
  intro hn H locs ls hP hS hL
  match a, ha, sk, h with
  | .inr (.inr (c1, k)), ha, .inr (.inr (c', j)) :: r, h =>
    obtain ⟨h1, h2, h3⟩ := h
    simp only [Bool.and_eq_true, Nat.beq_eq] at h1
    obtain ⟨rfl, hk0, hkl⟩ := h1
    have hkl := Nat.blt_eq.mp hkl
    obtain ⟨g1, g2, g3, g4⟩ := zobj hk0
    have hat := zcells_at (w := w) (M := M) h2
    rw [zcell_obj hk0] at hat
    refine va_get (C := zR c') (T := zT c') (N := zlen c') (ref := zR c') (index := i) hx hb hts g2 hown hsp.1 hP (zpos c' j) hat g1 k hkl (hts _ (zFL_in ha)) (fun x hx => by rw [zown hk0 hkl] at hx; exact hx) (v := zcv w.2.2.1 (zfv M c' j k)) (by simp [hkl]) hd ?_
    exact h3 hn H locs ls hP hS hL
theorem zstep_put {i : Nat} (hd : decode cc pc = .ok (.putfield i, 3)) (ha : zaux o (.putfield i) a = true) (hF : zFOK w f o cc nL d) (h : zput a s (zG w f nL (pc + 3))) : zG w f nL pc s := by
  obtain ⟨p, l, e, R, st, m, args, below, meth, c, cells, slots, Q, z⟩ := f
  obtain ⟨hx, hb, hml, hown, hts, hlk, hrm, hsp, hD, hz⟩ := hF
  obtain ⟨L, sk, M⟩ := s
  intro hn H locs ls hP hS hL
  match a, ha, sk, h with
  | .inr (.inr (c1, k)), ha, .inl x :: .inr (.inr (c', j)) :: r, h =>
    obtain ⟨h1, h2, h3, h4⟩ := h
    simp only [Bool.and_eq_true, Nat.beq_eq] at h1
    obtain ⟨rfl, hk0, hkl, hfk⟩ := h1
    have hkl := Nat.blt_eq.mp hkl
    obtain ⟨g1, g2, g3, ty, g4⟩ := zobj hk0
    obtain ⟨q1, q2⟩ := zfin hk0 hkl (by omega)
    have hat := zcells_at (w := w) (M := M) h2
    rw [zcell_obj hk0] at hat
    have hty : narrow (zfty c' k) (.int x) = .int x ∧ fits (zfty c' k) (.int x) = true := by
      unfold zfty
      rw [hfk]
      show narrow (bif zbz c' k then FieldType.boolean else .int) (.int x) = .int x ∧ _
      cases hbz : zbz c' k with
      | false => exact ⟨rfl, rfl⟩
      | true =>
        rw [hbz] at h3
        rcases h3 with rfl | rfl <;> exact ⟨by decide +kernel, by decide +kernel⟩
    refine va_put (C := zR c') (T := zT c') (N := zlen c') (ref := zR c') (index := i) hx hb hts g2 ty g4 g3 hown hsp.1 hP (zD_all hD) hS (zpos c' j) hat g1 k hkl (hts _ (zFL_in ha)) (fun x hx => by rw [zown hk0 hkl] at hx; exact hx) q1 q2 (v := .int x) hty.1 hty.2 (by simp [hkl]) hd (fun H1 locs1 hP1 hD1 hS1 => ?_)
    have e1 : zcell w (wrI M c' j (zp (rdI M c' j) k x)) c' j = .inr (zci c', ((List.range (zlen c')).map (fun k => zcv w.2.2.1 (zfv M c' j k))).set k (.int x)) := by
      rw [zcell_obj hk0, zrange_set (g := fun i => zcv w.2.2.1 (zfv (wrI M c' j (zp (rdI M c' j) k x)) c' j i)) (by rw [zfv_wrI hfk]; rfl) (fun i hi => by rw [zfv_wrI_ne hi])]
    rw [← e1, zcells_set h2 (zcell_wrI M c' j _)] at hP1
    exact h4 hn H1 locs1 ls hP1 hS1 hL
  | .inr (.inr (c1, k)), ha, .inr (.inl x) :: .inr (.inr (c', j)) :: r, h =>
    obtain ⟨h1, h2, h4⟩ := h
    simp only [Bool.and_eq_true, Nat.beq_eq] at h1
    obtain ⟨rfl, hk0, hkl, hfk⟩ := h1
    have hkl := Nat.blt_eq.mp hkl
    obtain ⟨g1, g2, g3, ty, g4⟩ := zobj hk0
    obtain ⟨q1, q2⟩ := zfin hk0 hkl (by omega)
    have hat := zcells_at (w := w) (M := M) h2
    rw [zcell_obj hk0] at hat
    have hty : narrow (zfty c' k) (.long x) = .long x ∧ fits (zfty c' k) (.long x) = true := by
      unfold zfty
      rw [hfk]
      exact ⟨rfl, rfl⟩
    refine va_put (C := zR c') (T := zT c') (N := zlen c') (ref := zR c') (index := i) hx hb hts g2 ty g4 g3 hown hsp.1 hP (zD_all hD) hS (zpos c' j) hat g1 k hkl (hts _ (zFL_in ha)) (fun x hx => by rw [zown hk0 hkl] at hx; exact hx) q1 q2 (v := .long x) hty.1 hty.2 (by simp [hkl]) hd (fun H1 locs1 hP1 hD1 hS1 => ?_)
    have e1 : zcell w (wrL M c' j (zp (rdL M c' j) k x)) c' j = .inr (zci c', ((List.range (zlen c')).map (fun k => zcv w.2.2.1 (zfv M c' j k))).set k (.long x)) := by
      rw [zcell_obj hk0, zrange_set (g := fun i => zcv w.2.2.1 (zfv (wrL M c' j (zp (rdL M c' j) k x)) c' j i)) (by rw [zfv_wrL hfk]; rfl) (fun i hi => by rw [zfv_wrL_ne hi])]
    rw [← e1, zcells_set h2 (zcell_wrL M c' j _)] at hP1
    exact h4 hn H1 locs1 ls hP1 hS1 hL
theorem zstep_gets {i : Nat} (hd : decode cc pc = .ok (.getstatic i, 3)) (ha : zaux o (.getstatic i) a = true) (hF : zFOK w f o cc nL d) (h : zpush (.inr (.inr (60, 0))) s (zG w f nL (pc + 3))) : zG w f nL pc s := by
  obtain ⟨p, l, e, R, st, m, args, below, meth, c, cells, slots, Q, z⟩ := f
  obtain ⟨hx, hb, hml, hown, hts, hlk, hrm, hsp, hD, hz⟩ := hF
  intro hn H locs ls hP hS hL
  have ha' : (Nat.beq o 5 && Nat.beq i 52 || Nat.beq o 0 && Nat.beq i 32) = true := ha
  simp only [Bool.or_eq_true, Bool.and_eq_true, Nat.beq_eq] at ha'
  have hl : (Cond.fieldLinkNest (zN o) i RX6 "LINES" "[I" RX6).before args st = true := by
    rcases ha' with ⟨rfl, rfl⟩ | ⟨rfl, rfl⟩
    · exact va_Nw.use rfl (hsp.2.2.2.1 _ (List.mem_of_getElem? (i := 4) rfl))
    · exact va_Nw.use rfl (hsp.2.2.2.1 _ (List.mem_of_getElem? (i := 5) rfl))
  exact va_getsN hx hb hsp.2.1 hS hown hl (fun _ h9 => h9) hd (h hn H locs ls hP hS hL)
theorem zstep_ldcS {i : Nat} (hd : decode cc pc = .ok (.ldc i, 2)) {q : Nat × Nat} (ha : zaux o (.ldc i) (.inr (.inr q)) = true) (hF : zFOK w f o cc nL d) (h : zpush (.inr (.inr (61, q.2))) s (zG w f nL (pc + 2))) : zG w f nL pc s := by
  obtain ⟨p, l, e, R, st, m, args, below, meth, c, cells, slots, Q, z⟩ := f
  obtain ⟨hx, hb, hml, hown, hts, hlk, hrm, hsp, hD, hz⟩ := hF
  intro hn H locs ls hP hS hL
  obtain ⟨q0, k⟩ := q
  have ha' : (Nat.beq o 3 && (Nat.blt k 6 && Nat.beq ([33, 46, 51, 65, 70, 75].getD k 0) i)) = true := ha
  simp only [Bool.and_eq_true, Nat.beq_eq] at ha'
  obtain ⟨rfl, hk, hi⟩ := ha'
  have hr := hsp.2.2.2.2.2.1 k (Nat.blt_eq.mp hk)
  have hi : zsi k = i := hi
  rw [hi] at hr
  exact va_ldcS hx hb (own := RX3) hown hr hd (h hn H locs ls hP hS hL)
theorem zbeq {a b : Nat} (h : Nat.beq a b = true) : a = b := Nat.beq_eq.mp h
theorem zstep_iald (hd : decode cc pc = .ok (.iaload, 1)) (hF : zFOK w f o cc nL d) (h : ziald f.2.2.2.2.2.2.2.2.2.2.2.2.2 s (zG w f nL (pc + 1))) : zG w f nL pc s := by
  obtain ⟨p, l, e, R, st, m, args, below, meth, c, cells, slots, Q, z⟩ := f
  obtain ⟨hx, hb, hml, hown, hts, hlk, hrm, hsp, hD, hz⟩ := hF
  obtain ⟨L, sk, M⟩ := s
  intro hn H locs ls hP hS hL
  match sk, h with
  | .inl i :: .inr (.inr (c1, j)) :: r, h =>
    unfold ziald at h
    dsimp only at h
    cases h60 : Nat.beq c1 60 with
    | true =>
      rw [h60, cond_true] at h
      have e60 := zbeq h60
      subst e60
      obtain ⟨h1, h2, h3⟩ := h
      have e0 := zbeq h1
      subst e0
      exact va_ti hx hb hsp.2.2.1 hS (zinb h2) rfl hd (h3 hn H locs ls hP hS hL)
    | false =>
      rw [h60, cond_false] at h
      cases h63 : Nat.beq c1 63 with
      | true =>
        rw [h63, cond_true] at h
        have e63 := zbeq h63
        subst e63
        obtain ⟨h1, h2, h3, h4⟩ := h
        have e0 := zbeq h1
        subst e0
        obtain ⟨g1, g2, g3⟩ := hz h2
        exact va_sld hx hb g1 g2 g3 hS (zinb h3) hd (h4 hn H locs ls hP hS hL)
      | false =>
        rw [h63, cond_false] at h
        obtain ⟨h1, h2, h3, h4⟩ := h
        have hk := zbeq h1
        have hat := zcells_at (w := w) (M := M) h2
        rw [zcell_int hk] at hat
        exact va_iald hx hb hsp.1 hP (zpos c1 j) 0 hat rfl (zinb h3) hd (h4 hn H locs ls hP hS hL)
theorem zstep_lald (hd : decode cc pc = .ok (.laload, 1)) (hF : zFOK w f o cc nL d) (h : zlald s (zG w f nL (pc + 1))) : zG w f nL pc s := by
  obtain ⟨p, l, e, R, st, m, args, below, meth, c, cells, slots, Q, z⟩ := f
  obtain ⟨hx, hb, hml, hown, hts, hlk, hrm, hsp, hD, hz⟩ := hF
  obtain ⟨L, sk, M⟩ := s
  intro hn H locs ls hP hS hL
  match sk, h with
  | .inl i :: .inr (.inr (c1, j)) :: r, h =>
    obtain ⟨h1, h2, h3, h4⟩ := h
    have hk := zbeq h1
    have hat := zcells_at (w := w) (M := M) h2
    rw [zcell_long hk] at hat
    exact va_lald hx hb hsp.1 hP (zpos c1 j) 1 hat rfl (zinb h3) hd (h4 hn H locs ls hP hS hL)
theorem zstep_aald (hd : decode cc pc = .ok (.aaload, 1)) (hF : zFOK w f o cc nL d) (h : zaald s (zG w f nL (pc + 1))) : zG w f nL pc s := by
  obtain ⟨p, l, e, R, st, m, args, below, meth, c, cells, slots, Q, z⟩ := f
  obtain ⟨hx, hb, hml, hown, hts, hlk, hrm, hsp, hD, hz⟩ := hF
  obtain ⟨L, sk, M⟩ := s
  intro hn H locs ls hP hS hL
  match sk, h with
  | .inl i :: .inr (.inr (c1, j)) :: r, h =>
    obtain ⟨h1, h3, h4⟩ := h
    simp only [Bool.and_eq_true, Nat.beq_eq] at h1
    obtain ⟨rfl, rfl⟩ := h1
    have hat := zcells_at (w := w) (M := M) (c := 7) (j := 0) rfl
    have e7 : zcell w M 7 0 = .inl (w.2.1.2.2, 8, .inr (.inr (.inr (.inr (fun i => some (w.2.2.1 8 i)))))) := rfl
    rw [e7] at hat
    exact va_aldq (C := "NoArmsCrossed$Shelf") hx hb hsp.1 hP (zpos 7 0) 2 hat rfl (zinb h3) hd (h4 hn H locs ls hP hS hL)
theorem zstep_iast (hd : decode cc pc = .ok (.iastore, 1)) (hF : zFOK w f o cc nL d) (h : ziast s (zG w f nL (pc + 1))) : zG w f nL pc s := by
  obtain ⟨p, l, e, R, st, m, args, below, meth, c, cells, slots, Q, z⟩ := f
  obtain ⟨hx, hb, hml, hown, hts, hlk, hrm, hsp, hD, hz⟩ := hF
  obtain ⟨L, sk, M⟩ := s
  intro hn H locs ls hP hS hL
  match sk, h with
  | .inl x :: .inl i :: .inr (.inr (c1, j)) :: r, h =>
    obtain ⟨h1, h2, h3, h4⟩ := h
    have hk := zbeq h1
    have hat := zcells_at (w := w) (M := M) h2
    rw [zcell_int hk] at hat
    refine va_iast hx hb hsp.1 hP (zD_all hD) hS (zpos c1 j) 0 hat rfl (zinb h3) hd (fun H1 locs1 hP1 hD1 hS1 => ?_)
    have e1 : zcell w (wrI M c1 j (zp (rdI M c1 j) (ix i) x)) c1 j = .inl (w.2.1.1, zlen c1, .inl (upd (rdI M c1 j) i.toNatClampNeg x)) := by
      rw [zcell_int hk, rdI_wrI]; rfl
    rw [← e1, zcells_set h2 (zcell_wrI M c1 j _)] at hP1
    exact h4 hn H1 locs1 ls hP1 hS1 hL
theorem zstep_last (hd : decode cc pc = .ok (.lastore, 1)) (hF : zFOK w f o cc nL d) (h : zlast s (zG w f nL (pc + 1))) : zG w f nL pc s := by
  obtain ⟨p, l, e, R, st, m, args, below, meth, c, cells, slots, Q, z⟩ := f
  obtain ⟨hx, hb, hml, hown, hts, hlk, hrm, hsp, hD, hz⟩ := hF
  obtain ⟨L, sk, M⟩ := s
  intro hn H locs ls hP hS hL
  match sk, h with
  | .inr (.inl x) :: .inl i :: .inr (.inr (c1, j)) :: r, h =>
    obtain ⟨h1, h2, h3, h4⟩ := h
    have hk := zbeq h1
    have hat := zcells_at (w := w) (M := M) h2
    rw [zcell_long hk] at hat
    refine va_last hx hb hsp.1 hP (zD_all hD) hS (zpos c1 j) 1 hat rfl (zinb h3) hd (fun H1 locs1 hP1 hD1 hS1 => ?_)
    have e1 : zcell w (wrL M c1 j (zp (rdL M c1 j) (ix i) x)) c1 j = .inl (w.2.1.2.1, zlen c1, .inr (.inl (vp_updL (rdL M c1 j) i.toNatClampNeg x))) := by
      rw [zcell_long hk, rdL_wrL]; rfl
    rw [← e1, zcells_set h2 (zcell_wrL M c1 j _)] at hP1
    exact h4 hn H1 locs1 ls hP1 hS1 hL
theorem zstep_alen (hd : decode cc pc = .ok (.arraylength, 1)) (hF : zFOK w f o cc nL d) (h : zalen f.2.2.2.2.2.2.2.2.2.2.2.2.2 s (zG w f nL (pc + 1))) : zG w f nL pc s := by
  obtain ⟨p, l, e, R, st, m, args, below, meth, c, cells, slots, Q, z⟩ := f
  obtain ⟨hx, hb, hml, hown, hts, hlk, hrm, hsp, hD, hz⟩ := hF
  obtain ⟨L, sk, M⟩ := s
  intro hn H locs ls hP hS hL
  match sk, h with
  | .inr (.inr (c1, j)) :: r, h =>
    obtain ⟨h1, h2, h4⟩ := h
    simp only [Bool.and_eq_true, Nat.beq_eq] at h1
    obtain ⟨rfl, rfl⟩ := h1
    obtain ⟨g1, g2, g3⟩ := hz h2
    exact va_slen hx hb g1 g2 g3 hS hd (h4 hn H locs ls hP hS hL)
theorem zMX_in {o i k : Nat} (h : zMX.any (fun q => Nat.beq q.1 o && (Nat.beq q.2.1 i && Nat.beq q.2.2.1 k)) = true) : Cond.methodLink (zN o) i (bif Nat.beq k 0 then Lib.Math.max.name else Lib.Math.min.name) ∈ zGW := by
  obtain ⟨q, hq, h⟩ := List.any_eq_true.mp h
  simp only [Bool.and_eq_true, Nat.beq_eq] at h
  obtain ⟨h1, h2, h3⟩ := h
  obtain ⟨a, b, c', d⟩ := q
  dsimp only at h1 h2 h3
  subst h1 h2 h3
  exact zgw (List.mem_of_getElem? (zMX_ok _ hq)) rfl
theorem zAC_in {o i : Nat} (h : zAC.any (fun q => Nat.beq q.1 o && Nat.beq q.2.1 i) = true) : Cond.methodLink (zN o) i arraycopyName ∈ zGW := by
  obtain ⟨q, hq, h⟩ := List.any_eq_true.mp h
  simp only [Bool.and_eq_true, Nat.beq_eq] at h
  obtain ⟨h1, h2⟩ := h
  obtain ⟨a, b, c'⟩ := q
  dsimp only at h1 h2
  subst h1 h2
  exact zgw (List.mem_of_getElem? (zAC_ok _ hq)) rfl
theorem zstep_sys {i : Nat} (hd : decode cc pc = .ok (.invokestatic i, 3)) (ha : zaux o (.invokestatic i) a = true) (hF : zFOK w f o cc nL d) (h : zsys a s (zG w f nL (pc + 3))) : zG w f nL pc s := by
  obtain ⟨p, l, e, R, st, m, args, below, meth, c, cells, slots, Q, z⟩ := f
  obtain ⟨hx, hb, hml, hown, hts, hlk, ⟨r1, r2, r3, r4, r5⟩, hsp, hD, hz⟩ := hF
  have r3 : 100 * d ≤ R.locals := r3
  have r2 : d ≤ R.frames := r2
  obtain ⟨L, sk, M⟩ := s
  intro hn H locs ls hP hS hL
  match a, ha, sk, h with
  | .inr (.inr (200, k)), ha, .inl y :: .inl x :: r, h =>
    obtain ⟨h1, h2⟩ := h
    have hln := Nat.le_of_ble_eq_true h1
    have hsum := zcat_sum (ad := w.2.2.1) r
    have hin := zMX_in ha
    cases hk : Nat.beq k 0 with
    | true =>
      rw [hk] at hin h2
      exact va_mmax hx hb (hml.trans hL.1.symm) hown (hts _ hin) (hts _ zmath_in.1) (hts _ zmath_in.2.1) (hts _ zmath_in.2.2.1) (by omega) (by omega) r4 r5 hd (h2 hn H locs ls hP hS hL)
    | false =>
      rw [hk] at hin h2
      exact va_mmin hx hb (hml.trans hL.1.symm) hown (hts _ hin) (hts _ zmath_in.2.2.2.1) (hts _ zmath_in.2.1) (hts _ zmath_in.2.2.2.2) (by omega) (by omega) r4 r5 hd (h2 hn H locs ls hP hS hL)
  | .inr (.inr (201, k)), ha, .inl n :: .inl dp :: .inr (.inr (c1, j1)) :: .inl sp :: .inr (.inr (c0, j0)) :: r, h =>
    obtain ⟨h1, ⟨h2, h3⟩, h4, ⟨h5, h6⟩, h7⟩ := h
    have hln := Nat.le_of_ble_eq_true h1
    have hsum := zcat_sum (ad := w.2.2.1) r
    have hin := zAC_in ha
    simp only [Bool.and_eq_true, decide_eq_true_eq] at h4
    obtain ⟨p1, p2, p3⟩ := h4
    have nf : nativeFrameWords "java/lang/System" "arraycopy" 5 + 11 ≤ 90 := by decide +kernel
    cases hk0 : Nat.beq (zkd c0) 1 with
    | true =>
      rw [hk0, cond_true] at h7
      obtain ⟨hk1, h7⟩ := h7
      have hat0 := zcells_at (w := w) (M := M) h3
      rw [zcell_int (zbeq hk0)] at hat0
      have hat1 := zcells_at (w := w) (M := M) h2
      rw [zcell_int (zbeq hk1)] at hat1
      refine va_copyi (ty := .int) hx hb (hml.trans hL.1.symm) hown (hts _ hin) (hts _ zcopy_in.1) (hts _ zcopy_in.2.1) (hts _ zcopy_in.2.2) hsp.1 hP (zD_all hD) hS (zpos c0 j0) (zpos c1 j1) 0 0 hat0 hat1 rfl rfl rfl p3 p2 p1 (Nat.le_of_ble_eq_true h5) (Nat.le_of_ble_eq_true h6) (fun _ _ => rfl) (by omega) (by omega) hd (fun H1 locs1 hP1 hD1 hS1 => ?_)
      have e1 : zcell w (wrI M c1 j1 (va_cpy (rdI M c0 j0) (rdI M c1 j1) (ix sp) (ix dp) (ix n))) c1 j1 = .inl (w.2.1.1, zlen c1, .inl (va_cpy (rdI M c0 j0) (rdI M c1 j1) (ix sp) (ix dp) (ix n))) := by
        rw [zcell_int (zbeq hk1), rdI_wrI]
      rw [← e1, zcells_set h2 (zcell_wrI M c1 j1 _)] at hP1
      exact h7 hn H1 locs1 ls hP1 hS1 hL
    | false =>
      rw [hk0, cond_false] at h7
      obtain ⟨hk0, hk1, h7⟩ := h7
      have hat0 := zcells_at (w := w) (M := M) h3
      rw [zcell_long (zbeq hk0)] at hat0
      have hat1 := zcells_at (w := w) (M := M) h2
      rw [zcell_long (zbeq hk1)] at hat1
      refine va_copyl (ty := .long) hx hb (hml.trans hL.1.symm) hown (hts _ hin) (hts _ zcopy_in.1) (hts _ zcopy_in.2.1) (hts _ zcopy_in.2.2) hsp.1 hP (zD_all hD) hS (zpos c0 j0) (zpos c1 j1) 1 1 hat0 hat1 rfl rfl rfl p3 p2 p1 (Nat.le_of_ble_eq_true h5) (Nat.le_of_ble_eq_true h6) (fun _ _ => rfl) (by omega) (by omega) hd (fun H1 locs1 hP1 hD1 hS1 => ?_)
      have e1 : zcell w (wrL M c1 j1 (va_cpy (rdL M c0 j0) (rdL M c1 j1) (ix sp) (ix dp) (ix n))) c1 j1 = .inl (w.2.1.2.1, zlen c1, .inr (.inl (va_cpy (rdL M c0 j0) (rdL M c1 j1) (ix sp) (ix dp) (ix n)))) := by
        rw [zcell_long (zbeq hk1), rdL_wrL]
      rw [← e1, zcells_set h2 (zcell_wrL M c1 j1 _)] at hP1
      exact h7 hn H1 locs1 ls hP1 hS1 hL
end ZST3
end
section
section ZMONO
variable {z : zScr} {a : zPV} {s : zSt} {K K' : zSt → Prop}
theorem zldI_mono {k : Nat} (e : ∀ s', K s' → K' s') (h : zldI k s K) : zldI k s K' := by
  unfold zldI at h ⊢
  generalize s.1.getD k none = v at h ⊢
  match v, h with
  | some (.inl x), h => exact e _ h
theorem zldL_mono {k : Nat} (e : ∀ s', K s' → K' s') (h : zldL k s K) : zldL k s K' := by
  unfold zldL at h ⊢
  generalize s.1.getD k none = v at h ⊢
  match v, h with
  | some (.inr (.inl x)), h => exact e _ h
theorem zldR_mono {k : Nat} (e : ∀ s', K s' → K' s') (h : zldR k s K) : zldR k s K' := by
  unfold zldR at h ⊢
  generalize s.1.getD k none = v at h ⊢
  match v, h with
  | some (.inr (.inr x)), h => exact e _ h
theorem zinc_mono {k : Nat} (e : ∀ s', K s' → K' s') (h : zinc k a s K) : zinc k a s K' := by
  unfold zinc at h ⊢
  generalize s.1.getD k none = v at h ⊢
  match a, v, h with
  | .inl y, some (.inl x), h => exact ⟨h.1, e _ h.2⟩
theorem zw1_mono {i : Instr} (e : ∀ s', K s' → K' s') (h : zw1 z i a s K) : zw1 z i a s K' := by
  obtain ⟨L, sk, M⟩ := s
  cases i <;> try exact False.elim h
  case iconst v => exact e _ h
  case bipush v => exact e _ h
  case sipush v => exact e _ h
  case lconst v => exact e _ h
  case ldc v => exact e _ h
  case ldc_w v => exact e _ h
  case ldc2_w v => exact e _ h
  case getstatic i => exact e _ h
  all_goals first
    | (unfold zw1 at h ⊢
       first
       | exact zldI_mono e h
       | exact zldL_mono e h
       | exact zldR_mono e h
       | exact zinc_mono e h
       | (unfold z2I at h ⊢; dsimp only at h ⊢; split at h <;> first | exact e _ h | exact h.elim)
       | (unfold z1I at h ⊢; dsimp only at h ⊢; split at h <;> first | exact e _ h | exact h.elim)
       | (unfold z2L at h ⊢; dsimp only at h ⊢; split at h <;> first | exact e _ h | exact h.elim)
       | (unfold zLI at h ⊢; dsimp only at h ⊢; split at h <;> first | exact e _ h | exact h.elim)
       | (unfold zcmp at h ⊢; dsimp only at h ⊢; split at h <;> first | exact e _ h | exact h.elim)
       | (unfold zi2l at h ⊢; dsimp only at h ⊢; split at h <;> first | exact e _ h | exact h.elim)
       | (unfold zl2i at h ⊢; dsimp only at h ⊢; split at h <;> first | exact e _ h | exact h.elim)
       | (unfold z2D at h ⊢; dsimp only at h ⊢; split at h <;> first | exact ⟨h.1, e _ h.2⟩ | exact h.elim)
       | (unfold zstI at h ⊢; dsimp only at h ⊢; split at h <;> first | exact ⟨h.1, e _ h.2⟩ | exact h.elim)
       | (unfold zstL at h ⊢; dsimp only at h ⊢; split at h <;> first | exact ⟨h.1, e _ h.2⟩ | exact h.elim)
       | (unfold zstR at h ⊢; dsimp only at h ⊢; split at h <;> first | exact ⟨h.1, e _ h.2⟩ | exact h.elim)
       | (unfold zdup at h ⊢; dsimp only at h ⊢; split at h <;> first | exact ⟨h.1, e _ h.2⟩ | exact h.elim)
       | (unfold zdupx at h ⊢; dsimp only at h ⊢; split at h <;> first | exact ⟨h.1, e _ h.2⟩ | exact h.elim)
       | (unfold zdup2 at h ⊢; dsimp only at h ⊢; split at h <;> first | exact ⟨h.1, e _ h.2⟩ | exact h.elim)
       | (unfold zpop at h ⊢; dsimp only at h ⊢; split at h <;> first | exact ⟨h.1, e _ h.2⟩ | exact h.elim)
       | (unfold zpop2 at h ⊢; dsimp only at h ⊢; split at h <;> first | exact ⟨h.1, e _ h.2⟩ | exact h.elim)
       | (unfold zget at h ⊢; dsimp only at h ⊢; split at h <;> first | exact ⟨h.1, h.2.1, e _ h.2.2⟩ | exact h.elim)
       | (unfold zlald at h ⊢; dsimp only at h ⊢; split at h <;> first | exact ⟨h.1, h.2.1, h.2.2.1, e _ h.2.2.2⟩ | exact h.elim)
       | (unfold zaald at h ⊢; dsimp only at h ⊢; split at h <;> first | exact ⟨h.1, h.2.1, e _ h.2.2⟩ | exact h.elim)
       | (unfold ziast at h ⊢; dsimp only at h ⊢; split at h <;> first | exact ⟨h.1, h.2.1, h.2.2.1, e _ h.2.2.2⟩ | exact h.elim)
       | (unfold zlast at h ⊢; dsimp only at h ⊢; split at h <;> first | exact ⟨h.1, h.2.1, h.2.2.1, e _ h.2.2.2⟩ | exact h.elim)
       | (unfold zalen at h ⊢; dsimp only at h ⊢; split at h <;> first | exact ⟨h.1, h.2.1, e _ h.2.2⟩ | exact h.elim)
       | (unfold zput at h ⊢; dsimp only at h ⊢; split at h <;> first | exact ⟨h.1, h.2.1, h.2.2.1, e _ h.2.2.2⟩ | exact ⟨h.1, h.2.1, e _ h.2.2⟩ | exact h.elim)
       | (unfold ziald at h ⊢; dsimp only at h ⊢; split at h
          · rename_i i c j st
            cases h60 : Nat.beq c 60 <;> rw [h60] at h <;> dsimp only [cond_true, cond_false] at h ⊢
            · cases h63 : Nat.beq c 63 <;> rw [h63] at h <;> dsimp only [cond_true, cond_false] at h ⊢
              · exact ⟨h.1, h.2.1, h.2.2.1, e _ h.2.2.2⟩
              · exact ⟨h.1, h.2.1, h.2.2.1, e _ h.2.2.2⟩
            · exact ⟨h.1, h.2.1, e _ h.2.2⟩
          · exact h.elim)
       | (unfold zsys at h ⊢; dsimp only at h ⊢; split at h
          · exact ⟨h.1, e _ h.2⟩
          · rename_i c1 j1 _ c0 j0 _
            obtain ⟨h1, h2, h3, h4, h5⟩ := h
            refine ⟨h1, h2, h3, h4, ?_⟩
            cases hk : Nat.beq (zkd _) 1 <;> rw [hk] at h5 <;> dsimp only [cond_true, cond_false] at h5 ⊢
            · exact ⟨h5.1, h5.2.1, e _ h5.2.2⟩
            · exact ⟨h5.1, e _ h5.2⟩
          · exact h.elim))
end ZMONO
section ZSTEPS
variable {w : zWd} {f : zFr} {o nL d pc : Nat} {cc : ByteArray} {s : zSt} {a : zPV}
set_option maxHeartbeats 4000000 in
theorem zstep {i : Instr} (hd : decode cc pc = .ok (i, zil i)) (ha : zaux o i a = true) (hF : zFOK w f o cc nL d) (h : zw1 f.2.2.2.2.2.2.2.2.2.2.2.2.2 i a s (zG w f nL (pc + zil i))) : zG w f nL pc s := by
  cases i <;> try exact False.elim h
  case iconst v => exact match a, ha, h with
    | .inl x, ha, h => zstep_push (n := 1) (v := .inl x) (fun hx hb _ _ _ _ k => lv_iconst hx hb hd (of_decide_eq_true ha) k) hF h
  case bipush v => exact match a, ha, h with
    | .inl x, ha, h => zstep_push (n := 2) (v := .inl x) (fun hx hb _ _ _ _ k => lv_bipush hx hb hd (of_decide_eq_true ha) k) hF h
  case sipush v => exact match a, ha, h with
    | .inl x, ha, h => zstep_push (n := 3) (v := .inl x) (fun hx hb _ _ _ _ k => lv_sipush hx hb hd (of_decide_eq_true ha) k) hF h
  case lconst v => exact match a, ha, h with
    | .inr (.inl x), ha, h => zstep_push (n := 1) (v := .inr (.inl x)) (fun hx hb _ _ _ _ k => lv_lconst hx hb hd (of_decide_eq_true ha) k) hF h
  case ldc v => exact match a, ha, h with
    | .inl x, ha, h => zstep_push (n := 2) (v := .inl x) (fun hx hb ho ht _ _ k => lv_ldc hx hb ho (ht _ (zCI_in ha)) hd k) hF h
    | .inr (.inr q), ha, h => zstep_ldcS hd ha hF h
  case ldc_w v => exact match a, ha, h with
    | .inl x, ha, h => zstep_push (n := 3) (v := .inl x) (fun hx hb ho ht _ _ k => lv_ldcw hx hb ho (ht _ (zCI_in ha)) hd k) hF h
  case ldc2_w v => exact match a, ha, h with
    | .inr (.inl x), ha, h => zstep_push (n := 3) (v := .inr (.inl x)) (fun hx hb ho ht _ _ k => lv_ldc2 hx hb ho (ht _ (zCL_in ha)) hd k) hF h
  case iload_n k => exact zstep_ldI (n := 1) (fun hx hb hl q => lv_iload_n hx hb hd rfl hl q) hF h
  case iload k => exact zstep_ldI (n := 2) (fun hx hb hl q => lv_iload hx hb hd hl q) hF h
  case lload_n k => exact zstep_ldL (n := 1) (fun hx hb hl q => lv_lload_n hx hb hd rfl hl q) hF h
  case lload k => exact zstep_ldL (n := 2) (fun hx hb hl q => lv_lload hx hb hd hl q) hF h
  case aload_n k => exact zstep_ldR (n := 1) (fun hx hb hl q => lv_aload_n hx hb hd rfl hl q) hF h
  case aload k => exact zstep_ldR (n := 2) (fun hx hb hl q => lv_aload hx hb hd hl q) hF h
  case istore_n k => exact zstep_stI (n := 1) (fun hx hb hl hk e q => lv_istore_n hx hb hd rfl hl hk e q) hF h
  case istore k => exact zstep_stI (n := 2) (fun hx hb hl hk e q => lv_istore hx hb hd hl hk e q) hF h
  case lstore_n k => exact zstep_stL (n := 1) (fun hx hb hl hk e q => lv_lstore_n hx hb hd rfl hl hk e q) hF h
  case lstore k => exact zstep_stL (n := 2) (fun hx hb hl hk e q => lv_lstore hx hb hd hl hk e q) hF h
  case astore_n k => exact zstep_stR (n := 1) (fun hx hb hl hk e q => lv_astore_n hx hb hd rfl hl hk e q) hF h
  case astore k => exact zstep_stR (n := 2) (fun hx hb hl hk e q => lv_astore hx hb hd hl hk e q) hF h
  case iinc k v => exact match a, ha, h with
    | .inl x, ha, h => zstep_inc hd (of_decide_eq_true ha) hF h
  case dup => exact zstep_dup hd hF h
  case dup_x1 => exact zstep_dupx hd hF h
  case dup2 => exact zstep_dup2 hd hF h
  case pop => exact zstep_pop hd hF h
  case pop2 => exact zstep_pop2 hd hF h
  case iadd => exact zstep_z2I (i := .iadd) (fun hx hb k => lv_iadd hx hb hd k) hF h
  case isub => exact zstep_z2I (i := .iadd) (fun hx hb k => lv_isub hx hb hd k) hF h
  case imul => exact zstep_z2I (i := .iadd) (fun hx hb k => lv_imul hx hb hd k) hF h
  case iand => exact zstep_z2I (i := .iadd) (fun hx hb k => lv_iand hx hb hd k) hF h
  case ior => exact zstep_z2I (i := .iadd) (fun hx hb k => lv_ior hx hb hd k) hF h
  case ixor => exact zstep_z2I (i := .iadd) (fun hx hb k => lv_ixor hx hb hd k) hF h
  case ishl => exact zstep_z2I (i := .iadd) (fun hx hb k => lv_ishl hx hb hd k) hF h
  case ishr => exact zstep_z2I (i := .iadd) (fun hx hb k => lv_ishr hx hb hd k) hF h
  case iushr => exact zstep_z2I (i := .iadd) (op := jushr) (fun hx hb k => lv_iushr hx hb hd rfl k) hF h
  case idiv => exact zstep_z2D (fun hx hb hn k => lv_idiv hx hb hd hn k) hF h
  case irem => exact zstep_z2D (op := jrem) (fun hx hb hn k => lv_irem hx hb hd hn k) hF h
  case ineg => exact zstep_z1I (fun hx hb k => lv_ineg hx hb hd k) hF h
  case i2b => exact zstep_z1I (op := jb) (fun hx hb k => lv_i2b hx hb hd rfl k) hF h
  case i2s => exact zstep_z1I (op := js) (fun hx hb k => lv_i2s hx hb hd rfl k) hF h
  case ladd => exact zstep_z2L (fun hx hb k => lv_ladd hx hb hd k) hF h
  case lsub => exact zstep_z2L (fun hx hb k => lv_lsub hx hb hd k) hF h
  case land => exact zstep_z2L (fun hx hb k => lv_land hx hb hd k) hF h
  case lor => exact zstep_z2L (fun hx hb k => lv_lor hx hb hd k) hF h
  case lxor => exact zstep_z2L (fun hx hb k => lv_lxor hx hb hd k) hF h
  case lshl => exact zstep_zLI (op := jlshl) (fun hx hb k => lv_lshl hx hb hd rfl k) hF h
  case lshr => exact zstep_zLI (op := jlshr) (fun hx hb k => lv_lshr hx hb hd rfl k) hF h
  case lushr => exact zstep_zLI (op := jlushr) (fun hx hb k => lv_lushr hx hb hd rfl k) hF h
  case lcmp => exact zstep_cmp hd hF h
  case i2l => exact zstep_i2l hd hF h
  case l2i => exact zstep_l2i hd hF h
  case getfield i => exact zstep_get hd ha hF h
  case putfield i => exact zstep_put hd ha hF h
  case getstatic i => exact zstep_gets hd ha hF h
  case iaload => exact zstep_iald hd hF h
  case laload => exact zstep_lald hd hF h
  case aaload => exact zstep_aald hd hF h
  case iastore => exact zstep_iast hd hF h
  case lastore => exact zstep_last hd hF h
  case arraylength => exact zstep_alen hd hF h
  case invokestatic i => exact zstep_sys hd ha hF h
/-- a straight stretch -/
theorem zrun (hF : zFOK w f o cc nL d) : ∀ (ops : List zOp) (pc : Nat) (s : zSt), zcode o cc pc ops = true → zwB f.2.2.2.2.2.2.2.2.2.2.2.2.2 ops s (zG w f nL (pc + zlenB ops)) → zG w f nL pc s := by
  intro ops
  induction ops with
  | nil => intro pc s _ h; exact h
  | cons q r ih =>
    intro pc s hc h
    obtain ⟨i, n, a⟩ := q
    simp only [zcode, Bool.and_eq_true, decide_eq_true_eq, Nat.beq_eq] at hc
    obtain ⟨h1, ⟨h2, h3⟩, h4⟩ := hc
    subst h2
    refine zstep h1 h3 hF ?_
    have e : ∀ s', zwB f.2.2.2.2.2.2.2.2.2.2.2.2.2 r s' (zG w f nL (pc + zlenB ((i, zil i, a) :: r))) → zG w f nL (pc + zil i) s' := fun s' h' => ih (pc + zil i) s' h4 (by rw [show pc + zil i + zlenB r = pc + zlenB ((i, zil i, a) :: r) from Nat.add_assoc _ _ _]; exact h')
    exact zw1_mono e h
end ZSTEPS
end
section
/-! jumps, switches, returns, calls, contracts -/
/-- where a jump goes: (kind, target) -/
def zjmp (cc : ByteArray) (pc : Nat) : Nat × Nat := match decode cc pc with
  | .ok (.ifCond .eq off, 3) => (1, ((pc : Int) + off).toNat)
  | .ok (.ifCond .ne off, 3) => (2, ((pc : Int) + off).toNat)
  | .ok (.ifCond .lt off, 3) => (3, ((pc : Int) + off).toNat)
  | .ok (.ifCond .ge off, 3) => (4, ((pc : Int) + off).toNat)
  | .ok (.ifCond .gt off, 3) => (5, ((pc : Int) + off).toNat)
  | .ok (.ifCond .le off, 3) => (6, ((pc : Int) + off).toNat)
  | .ok (.if_icmp .eq off, 3) => (7, ((pc : Int) + off).toNat)
  | .ok (.if_icmp .ne off, 3) => (8, ((pc : Int) + off).toNat)
  | .ok (.if_icmp .lt off, 3) => (9, ((pc : Int) + off).toNat)
  | .ok (.if_icmp .ge off, 3) => (10, ((pc : Int) + off).toNat)
  | .ok (.if_icmp .gt off, 3) => (11, ((pc : Int) + off).toNat)
  | .ok (.if_icmp .le off, 3) => (12, ((pc : Int) + off).toNat)
  | .ok (.goto off, 3) => (13, ((pc : Int) + off).toNat)
  | .ok (.ireturn, 1) => (14, 0)
  | .ok (.lreturn, 1) => (15, 0)
  | .ok (.return_, 1) => (16, 0)
  | .ok (.invokevirtual i, 3) => (20, i)
  | .ok (.invokestatic i, 3) => (21, i)
  | _ => (0, 0)
/-- the same, and the target isn't before the code -/
def zjok (cc : ByteArray) (pc : Nat) : Bool := match decode cc pc with
  | .ok (.ifCond _ off, _) => decide (0 ≤ (pc : Int) + off)
  | .ok (.if_icmp _ off, _) => decide (0 ≤ (pc : Int) + off)
  | .ok (.goto off, _) => decide (0 ≤ (pc : Int) + off)
  | _ => true
def zj (cc : ByteArray) (pc k t : Nat) : Bool := decide (zjmp cc pc = (k, t)) && zjok cc pc
section ZCTL
variable {w : zWd} {f : zFr} {o nL d pc : Nat} {cc : ByteArray} {L : List (Option zPV)} {st : List zPV} {M : zWM}
theorem zjd_if_eq {tgt : Nat} (h : zj cc pc 1 tgt = true) : ∃ off : Int, decode cc pc = .ok (.ifCond .eq off, 3) ∧ (pc : Int) + off = (tgt : Int) := by
  unfold zj at h
  rw [Bool.and_eq_true, decide_eq_true_eq] at h
  obtain ⟨h1, h2⟩ := h
  unfold zjmp at h1
  unfold zjok at h2
  split at h1 <;> first | (exfalso; revert h1; simp; done) | skip
  rename_i off hd
  rw [hd] at h2
  refine ⟨off, hd, ?_⟩
  have e := congrArg Prod.snd h1
  have e2 := of_decide_eq_true h2
  dsimp only at e
  omega
theorem zif_eq {x : Int32} {tgt : Nat} (hF : zFOK w f o cc nL d) (hd : zj cc pc 1 tgt = true) (kt : x = 0 → zG w f nL tgt (L, st, M)) (kf : ¬ x = 0 → zG w f nL (pc + 3) (L, st, M)) : zG w f nL pc (L, .inl x :: st, M) := by
  obtain ⟨off, hd, ht⟩ := zjd_if_eq hd
  obtain ⟨p, l, e, R, s, m, args, below, meth, c, cells, slots, Q, z⟩ := f
  intro hn H locs ls hP hS hL
  exact lv_if_eq hF.1 hF.2.1 hd ht (fun q => kt q hn H locs ls hP hS hL) (fun q => kf q hn H locs ls hP hS hL)
theorem zjd_if_ne {tgt : Nat} (h : zj cc pc 2 tgt = true) : ∃ off : Int, decode cc pc = .ok (.ifCond .ne off, 3) ∧ (pc : Int) + off = (tgt : Int) := by
  unfold zj at h
  rw [Bool.and_eq_true, decide_eq_true_eq] at h
  obtain ⟨h1, h2⟩ := h
  unfold zjmp at h1
  unfold zjok at h2
  split at h1 <;> first | (exfalso; revert h1; simp; done) | skip
  rename_i off hd
  rw [hd] at h2
  refine ⟨off, hd, ?_⟩
  have e := congrArg Prod.snd h1
  have e2 := of_decide_eq_true h2
  dsimp only at e
  omega
theorem zif_ne {x : Int32} {tgt : Nat} (hF : zFOK w f o cc nL d) (hd : zj cc pc 2 tgt = true) (kt : x = 0 → zG w f nL (pc + 3) (L, st, M)) (kf : ¬ x = 0 → zG w f nL tgt (L, st, M)) : zG w f nL pc (L, .inl x :: st, M) := by
  obtain ⟨off, hd, ht⟩ := zjd_if_ne hd
  obtain ⟨p, l, e, R, s, m, args, below, meth, c, cells, slots, Q, z⟩ := f
  intro hn H locs ls hP hS hL
  exact lv_if_ne hF.1 hF.2.1 hd ht (fun q => kf q hn H locs ls hP hS hL) (fun q => kt q hn H locs ls hP hS hL)
theorem zjd_if_lt {tgt : Nat} (h : zj cc pc 3 tgt = true) : ∃ off : Int, decode cc pc = .ok (.ifCond .lt off, 3) ∧ (pc : Int) + off = (tgt : Int) := by
  unfold zj at h
  rw [Bool.and_eq_true, decide_eq_true_eq] at h
  obtain ⟨h1, h2⟩ := h
  unfold zjmp at h1
  unfold zjok at h2
  split at h1 <;> first | (exfalso; revert h1; simp; done) | skip
  rename_i off hd
  rw [hd] at h2
  refine ⟨off, hd, ?_⟩
  have e := congrArg Prod.snd h1
  have e2 := of_decide_eq_true h2
  dsimp only at e
  omega
theorem zif_lt {x : Int32} {tgt : Nat} (hF : zFOK w f o cc nL d) (hd : zj cc pc 3 tgt = true) (kt : x < 0 → zG w f nL tgt (L, st, M)) (kf : ¬ x < 0 → zG w f nL (pc + 3) (L, st, M)) : zG w f nL pc (L, .inl x :: st, M) := by
  obtain ⟨off, hd, ht⟩ := zjd_if_lt hd
  obtain ⟨p, l, e, R, s, m, args, below, meth, c, cells, slots, Q, z⟩ := f
  intro hn H locs ls hP hS hL
  exact lv_if_lt hF.1 hF.2.1 hd ht (fun q => kt q hn H locs ls hP hS hL) (fun q => kf q hn H locs ls hP hS hL)
theorem zjd_if_ge {tgt : Nat} (h : zj cc pc 4 tgt = true) : ∃ off : Int, decode cc pc = .ok (.ifCond .ge off, 3) ∧ (pc : Int) + off = (tgt : Int) := by
  unfold zj at h
  rw [Bool.and_eq_true, decide_eq_true_eq] at h
  obtain ⟨h1, h2⟩ := h
  unfold zjmp at h1
  unfold zjok at h2
  split at h1 <;> first | (exfalso; revert h1; simp; done) | skip
  rename_i off hd
  rw [hd] at h2
  refine ⟨off, hd, ?_⟩
  have e := congrArg Prod.snd h1
  have e2 := of_decide_eq_true h2
  dsimp only at e
  omega
theorem zif_ge {x : Int32} {tgt : Nat} (hF : zFOK w f o cc nL d) (hd : zj cc pc 4 tgt = true) (kt : 0 ≤ x → zG w f nL tgt (L, st, M)) (kf : ¬ 0 ≤ x → zG w f nL (pc + 3) (L, st, M)) : zG w f nL pc (L, .inl x :: st, M) := by
  obtain ⟨off, hd, ht⟩ := zjd_if_ge hd
  obtain ⟨p, l, e, R, s, m, args, below, meth, c, cells, slots, Q, z⟩ := f
  intro hn H locs ls hP hS hL
  exact lv_if_ge hF.1 hF.2.1 hd ht (fun q => kt q hn H locs ls hP hS hL) (fun q => kf q hn H locs ls hP hS hL)
theorem zjd_if_gt {tgt : Nat} (h : zj cc pc 5 tgt = true) : ∃ off : Int, decode cc pc = .ok (.ifCond .gt off, 3) ∧ (pc : Int) + off = (tgt : Int) := by
  unfold zj at h
  rw [Bool.and_eq_true, decide_eq_true_eq] at h
  obtain ⟨h1, h2⟩ := h
  unfold zjmp at h1
  unfold zjok at h2
  split at h1 <;> first | (exfalso; revert h1; simp; done) | skip
  rename_i off hd
  rw [hd] at h2
  refine ⟨off, hd, ?_⟩
  have e := congrArg Prod.snd h1
  have e2 := of_decide_eq_true h2
  dsimp only at e
  omega
theorem zif_gt {x : Int32} {tgt : Nat} (hF : zFOK w f o cc nL d) (hd : zj cc pc 5 tgt = true) (kt : 0 < x → zG w f nL tgt (L, st, M)) (kf : ¬ 0 < x → zG w f nL (pc + 3) (L, st, M)) : zG w f nL pc (L, .inl x :: st, M) := by
  obtain ⟨off, hd, ht⟩ := zjd_if_gt hd
  obtain ⟨p, l, e, R, s, m, args, below, meth, c, cells, slots, Q, z⟩ := f
  intro hn H locs ls hP hS hL
  exact lv_if_gt hF.1 hF.2.1 hd ht (fun q => kt q hn H locs ls hP hS hL) (fun q => kf q hn H locs ls hP hS hL)
theorem zjd_if_le {tgt : Nat} (h : zj cc pc 6 tgt = true) : ∃ off : Int, decode cc pc = .ok (.ifCond .le off, 3) ∧ (pc : Int) + off = (tgt : Int) := by
  unfold zj at h
  rw [Bool.and_eq_true, decide_eq_true_eq] at h
  obtain ⟨h1, h2⟩ := h
  unfold zjmp at h1
  unfold zjok at h2
  split at h1 <;> first | (exfalso; revert h1; simp; done) | skip
  rename_i off hd
  rw [hd] at h2
  refine ⟨off, hd, ?_⟩
  have e := congrArg Prod.snd h1
  have e2 := of_decide_eq_true h2
  dsimp only at e
  omega
theorem zif_le {x : Int32} {tgt : Nat} (hF : zFOK w f o cc nL d) (hd : zj cc pc 6 tgt = true) (kt : x ≤ 0 → zG w f nL tgt (L, st, M)) (kf : ¬ x ≤ 0 → zG w f nL (pc + 3) (L, st, M)) : zG w f nL pc (L, .inl x :: st, M) := by
  obtain ⟨off, hd, ht⟩ := zjd_if_le hd
  obtain ⟨p, l, e, R, s, m, args, below, meth, c, cells, slots, Q, z⟩ := f
  intro hn H locs ls hP hS hL
  exact lv_if_le hF.1 hF.2.1 hd ht (fun q => kt q hn H locs ls hP hS hL) (fun q => kf q hn H locs ls hP hS hL)
theorem zjd_icmp_eq {tgt : Nat} (h : zj cc pc 7 tgt = true) : ∃ off : Int, decode cc pc = .ok (.if_icmp .eq off, 3) ∧ (pc : Int) + off = (tgt : Int) := by
  unfold zj at h
  rw [Bool.and_eq_true, decide_eq_true_eq] at h
  obtain ⟨h1, h2⟩ := h
  unfold zjmp at h1
  unfold zjok at h2
  split at h1 <;> first | (exfalso; revert h1; simp; done) | skip
  rename_i off hd
  rw [hd] at h2
  refine ⟨off, hd, ?_⟩
  have e := congrArg Prod.snd h1
  have e2 := of_decide_eq_true h2
  dsimp only at e
  omega
theorem zicmp_eq {x y : Int32} {tgt : Nat} (hF : zFOK w f o cc nL d) (hd : zj cc pc 7 tgt = true) (kt : x = y → zG w f nL tgt (L, st, M)) (kf : ¬ x = y → zG w f nL (pc + 3) (L, st, M)) : zG w f nL pc (L, .inl y :: .inl x :: st, M) := by
  obtain ⟨off, hd, ht⟩ := zjd_icmp_eq hd
  obtain ⟨p, l, e, R, s, m, args, below, meth, c, cells, slots, Q, z⟩ := f
  intro hn H locs ls hP hS hL
  exact lv_icmp_eq hF.1 hF.2.1 hd ht (fun q => kt q hn H locs ls hP hS hL) (fun q => kf q hn H locs ls hP hS hL)
theorem zjd_icmp_ne {tgt : Nat} (h : zj cc pc 8 tgt = true) : ∃ off : Int, decode cc pc = .ok (.if_icmp .ne off, 3) ∧ (pc : Int) + off = (tgt : Int) := by
  unfold zj at h
  rw [Bool.and_eq_true, decide_eq_true_eq] at h
  obtain ⟨h1, h2⟩ := h
  unfold zjmp at h1
  unfold zjok at h2
  split at h1 <;> first | (exfalso; revert h1; simp; done) | skip
  rename_i off hd
  rw [hd] at h2
  refine ⟨off, hd, ?_⟩
  have e := congrArg Prod.snd h1
  have e2 := of_decide_eq_true h2
  dsimp only at e
  omega
theorem zicmp_ne {x y : Int32} {tgt : Nat} (hF : zFOK w f o cc nL d) (hd : zj cc pc 8 tgt = true) (kt : x = y → zG w f nL (pc + 3) (L, st, M)) (kf : ¬ x = y → zG w f nL tgt (L, st, M)) : zG w f nL pc (L, .inl y :: .inl x :: st, M) := by
  obtain ⟨off, hd, ht⟩ := zjd_icmp_ne hd
  obtain ⟨p, l, e, R, s, m, args, below, meth, c, cells, slots, Q, z⟩ := f
  intro hn H locs ls hP hS hL
  exact lv_icmp_ne hF.1 hF.2.1 hd ht (fun q => kf q hn H locs ls hP hS hL) (fun q => kt q hn H locs ls hP hS hL)
theorem zjd_icmp_lt {tgt : Nat} (h : zj cc pc 9 tgt = true) : ∃ off : Int, decode cc pc = .ok (.if_icmp .lt off, 3) ∧ (pc : Int) + off = (tgt : Int) := by
  unfold zj at h
  rw [Bool.and_eq_true, decide_eq_true_eq] at h
  obtain ⟨h1, h2⟩ := h
  unfold zjmp at h1
  unfold zjok at h2
  split at h1 <;> first | (exfalso; revert h1; simp; done) | skip
  rename_i off hd
  rw [hd] at h2
  refine ⟨off, hd, ?_⟩
  have e := congrArg Prod.snd h1
  have e2 := of_decide_eq_true h2
  dsimp only at e
  omega
theorem zicmp_lt {x y : Int32} {tgt : Nat} (hF : zFOK w f o cc nL d) (hd : zj cc pc 9 tgt = true) (kt : x < y → zG w f nL tgt (L, st, M)) (kf : ¬ x < y → zG w f nL (pc + 3) (L, st, M)) : zG w f nL pc (L, .inl y :: .inl x :: st, M) := by
  obtain ⟨off, hd, ht⟩ := zjd_icmp_lt hd
  obtain ⟨p, l, e, R, s, m, args, below, meth, c, cells, slots, Q, z⟩ := f
  intro hn H locs ls hP hS hL
  exact lv_icmp_lt hF.1 hF.2.1 hd ht (fun q => kt q hn H locs ls hP hS hL) (fun q => kf q hn H locs ls hP hS hL)
theorem zjd_icmp_ge {tgt : Nat} (h : zj cc pc 10 tgt = true) : ∃ off : Int, decode cc pc = .ok (.if_icmp .ge off, 3) ∧ (pc : Int) + off = (tgt : Int) := by
  unfold zj at h
  rw [Bool.and_eq_true, decide_eq_true_eq] at h
  obtain ⟨h1, h2⟩ := h
  unfold zjmp at h1
  unfold zjok at h2
  split at h1 <;> first | (exfalso; revert h1; simp; done) | skip
  rename_i off hd
  rw [hd] at h2
  refine ⟨off, hd, ?_⟩
  have e := congrArg Prod.snd h1
  have e2 := of_decide_eq_true h2
  dsimp only at e
  omega
theorem zicmp_ge {x y : Int32} {tgt : Nat} (hF : zFOK w f o cc nL d) (hd : zj cc pc 10 tgt = true) (kt : y ≤ x → zG w f nL tgt (L, st, M)) (kf : ¬ y ≤ x → zG w f nL (pc + 3) (L, st, M)) : zG w f nL pc (L, .inl y :: .inl x :: st, M) := by
  obtain ⟨off, hd, ht⟩ := zjd_icmp_ge hd
  obtain ⟨p, l, e, R, s, m, args, below, meth, c, cells, slots, Q, z⟩ := f
  intro hn H locs ls hP hS hL
  exact lv_icmp_ge hF.1 hF.2.1 hd ht (fun q => kt q hn H locs ls hP hS hL) (fun q => kf q hn H locs ls hP hS hL)
theorem zjd_icmp_gt {tgt : Nat} (h : zj cc pc 11 tgt = true) : ∃ off : Int, decode cc pc = .ok (.if_icmp .gt off, 3) ∧ (pc : Int) + off = (tgt : Int) := by
  unfold zj at h
  rw [Bool.and_eq_true, decide_eq_true_eq] at h
  obtain ⟨h1, h2⟩ := h
  unfold zjmp at h1
  unfold zjok at h2
  split at h1 <;> first | (exfalso; revert h1; simp; done) | skip
  rename_i off hd
  rw [hd] at h2
  refine ⟨off, hd, ?_⟩
  have e := congrArg Prod.snd h1
  have e2 := of_decide_eq_true h2
  dsimp only at e
  omega
theorem zicmp_gt {x y : Int32} {tgt : Nat} (hF : zFOK w f o cc nL d) (hd : zj cc pc 11 tgt = true) (kt : y < x → zG w f nL tgt (L, st, M)) (kf : ¬ y < x → zG w f nL (pc + 3) (L, st, M)) : zG w f nL pc (L, .inl y :: .inl x :: st, M) := by
  obtain ⟨off, hd, ht⟩ := zjd_icmp_gt hd
  obtain ⟨p, l, e, R, s, m, args, below, meth, c, cells, slots, Q, z⟩ := f
  intro hn H locs ls hP hS hL
  exact lv_icmp_gt hF.1 hF.2.1 hd ht (fun q => kt q hn H locs ls hP hS hL) (fun q => kf q hn H locs ls hP hS hL)
theorem zjd_icmp_le {tgt : Nat} (h : zj cc pc 12 tgt = true) : ∃ off : Int, decode cc pc = .ok (.if_icmp .le off, 3) ∧ (pc : Int) + off = (tgt : Int) := by
  unfold zj at h
  rw [Bool.and_eq_true, decide_eq_true_eq] at h
  obtain ⟨h1, h2⟩ := h
  unfold zjmp at h1
  unfold zjok at h2
  split at h1 <;> first | (exfalso; revert h1; simp; done) | skip
  rename_i off hd
  rw [hd] at h2
  refine ⟨off, hd, ?_⟩
  have e := congrArg Prod.snd h1
  have e2 := of_decide_eq_true h2
  dsimp only at e
  omega
theorem zicmp_le {x y : Int32} {tgt : Nat} (hF : zFOK w f o cc nL d) (hd : zj cc pc 12 tgt = true) (kt : x ≤ y → zG w f nL tgt (L, st, M)) (kf : ¬ x ≤ y → zG w f nL (pc + 3) (L, st, M)) : zG w f nL pc (L, .inl y :: .inl x :: st, M) := by
  obtain ⟨off, hd, ht⟩ := zjd_icmp_le hd
  obtain ⟨p, l, e, R, s, m, args, below, meth, c, cells, slots, Q, z⟩ := f
  intro hn H locs ls hP hS hL
  exact lv_icmp_le hF.1 hF.2.1 hd ht (fun q => kt q hn H locs ls hP hS hL) (fun q => kf q hn H locs ls hP hS hL)
theorem zgoto {tgt : Nat} (hF : zFOK w f o cc nL d) (hd : zj cc pc 13 tgt = true) (k : zG w f nL tgt (L, st, M)) : zG w f nL pc (L, st, M) := by
  have hx : ∃ off : Int, decode cc pc = .ok (.goto off, 3) ∧ (pc : Int) + off = (tgt : Int) := by
    unfold zj at hd
    rw [Bool.and_eq_true, decide_eq_true_eq] at hd
    obtain ⟨h1, h2⟩ := hd
    unfold zjmp at h1
    unfold zjok at h2
    split at h1 <;> first | (exfalso; revert h1; simp; done) | skip
    rename_i off hd
    rw [hd] at h2
    refine ⟨off, hd, ?_⟩
    have e := congrArg Prod.snd h1
    have e2 := of_decide_eq_true h2
    dsimp only at e
    omega
  obtain ⟨off, hd, ht⟩ := hx
  obtain ⟨p, l, e, R, s, m, args, below, meth, c, cells, slots, Q, z⟩ := f
  intro hn H locs ls hP hS hL
  exact lv_goto hF.1 hF.2.1 hd ht (k hn H locs ls hP hS hL)
/-- fewer locals known -/
theorem zdrop {L' : List (Option zPV)} (hl : L'.length = L.length) (hs : ∀ j v, L'.getD j none = some v → L.getD j none = some v) (k : zG w f nL pc (L', st, M)) : zG w f nL pc (L, st, M) := by
  intro hn H locs ls hP hS hL
  exact k (hl.trans hn) H locs ls hP hS ⟨hL.1, hL.2.1, fun j v hj => hL.2.2 j v (hs j v hj)⟩
def zsub : List (Option zPV) → List Bool → List (Option zPV)
  | [], _ => []
  | v :: r, true :: b => v :: zsub r b
  | _ :: r, _ :: b => none :: zsub r b
  | v :: r, [] => v :: zsub r []
theorem zsub_len : ∀ (L : List (Option zPV)) (b : List Bool), (zsub L b).length = L.length
  | [], _ => by simp [zsub]
  | v :: r, true :: b => by simp [zsub, zsub_len r b]
  | v :: r, false :: b => by simp [zsub, zsub_len r b]
  | v :: r, [] => by simp [zsub, zsub_len r []]
theorem zsub_get : ∀ (L : List (Option zPV)) (b : List Bool) (j : Nat) (v : zPV), (zsub L b).getD j none = some v → L.getD j none = some v
  | [], _, j, v, h => by simp [zsub] at h
  | x :: r, true :: b, 0, v, h => h
  | x :: r, true :: b, j + 1, v, h => zsub_get r b j v h
  | x :: r, false :: b, 0, v, h => by simp [zsub] at h
  | x :: r, false :: b, j + 1, v, h => zsub_get r b j v h
  | x :: r, [], 0, v, h => h
  | x :: r, [], j + 1, v, h => zsub_get r [] j v h
theorem zcut (b : List Bool) (k : zG w f nL pc (zsub L b, st, M)) : zG w f nL pc (L, st, M) := zdrop (zsub_len L b) (zsub_get L b) k
/-! switches: value and target, the rest to the default -/
def zsw (w : zWd) (f : zFr) (nL : Nat) (s : zSt) (x : Int32) (dflt : Nat) : List (Int × Nat) → Prop
  | [] => zG w f nL dflt s
  | q :: r => (x = Int32.ofInt q.1 → zG w f nL q.2 s) ∧ (¬ x = Int32.ofInt q.1 → zsw w f nL s x dflt r)
def ztsw (cc : ByteArray) (pc : Nat) (tbl : List (Int × Nat)) (dflt : Nat) : Bool := match decode cc pc with
  | .ok (.tableswitch df lo hi offs, _) => decide ((pc : Int) + df = dflt) && (decide (offs.size = (hi - lo + 1).toNat) && (decide (-2147483648 ≤ lo ∧ hi ≤ 2147483647) && ((List.range offs.size).all (fun k => match tbl.find? (fun q => q.1 == lo + k) with | some q => decide (offs[k]?.map (fun f => (pc : Int) + f) = some (q.2 : Int)) | none => decide (offs[k]?.map (fun f => (pc : Int) + f) = some (dflt : Int))) && tbl.all (fun q => decide (lo ≤ q.1 ∧ q.1 ≤ hi)))))
  | _ => false
theorem zsw_find {s : zSt} {x : Int32} {dflt : Nat} : ∀ (tbl : List (Int × Nat)), (∀ q ∈ tbl, -2147483648 ≤ q.1 ∧ q.1 ≤ 2147483647) → zsw w f nL s x dflt tbl → match tbl.find? (fun q => q.1 == x.toInt) with | some q => zG w f nL q.2 s | none => zG w f nL dflt s
  | [], _, h => h
  | q :: r, hb, h => by
    have hq := hb q List.mem_cons_self
    have e : (Int32.ofInt q.1).toInt = q.1 := Int32.toInt_ofInt_of_le (by omega) (by omega)
    by_cases hx : x = Int32.ofInt q.1
    · have h1 : (q.1 == x.toInt) = true := by rw [hx, e]; simp
      rw [List.find?_cons_of_pos (p := fun q : Int × Nat => q.fst == x.toInt) h1]
      exact h.1 hx
    · have h1 : ¬ (q.1 == x.toInt) = true := by
        intro he
        have he' : q.1 = x.toInt := by simpa using he
        exact hx (Int32.toInt_inj.mp (by rw [e, he']))
      rw [List.find?_cons_of_neg (p := fun q : Int × Nat => q.fst == x.toInt) h1]
      exact zsw_find r (fun q hq => hb q (List.mem_cons_of_mem _ hq)) (h.2 hx)
theorem zswitch {x : Int32} (tbl : List (Int × Nat)) (dflt : Nat) (hF : zFOK w f o cc nL d) (hd : ztsw cc pc tbl dflt = true) (k : zsw w f nL (L, st, M) x dflt tbl) : zG w f nL pc (L, .inl x :: st, M) := by
  unfold ztsw at hd
  split at hd
  · rename_i df lo hi offs len hdec
    simp only [Bool.and_eq_true, decide_eq_true_eq, List.all_eq_true, List.mem_range] at hd
    obtain ⟨h1, h2, h3, h4, h5⟩ := hd
    have hf := zsw_find tbl (fun q hq => by have := h5 q hq; omega) k
    obtain ⟨p, l, e, R, s, m, args, below, meth, c, cells, slots, Q, z⟩ := f
    intro hn H locs ls hP hS hL
    by_cases hout : x.toInt < lo ∨ hi < x.toInt
    · have hnone : tbl.find? (fun q => q.1 == x.toInt) = none := by
        refine List.find?_eq_none.mpr (fun q hq => ?_)
        have := h5 q hq
        simp only [beq_iff_eq]
        omega
      rw [hnone] at hf
      exact lv_tableOut hF.1 hF.2.1 hdec hout h1 (hf hn H locs ls hP hS hL)
    · have hlo : ¬ x.toInt < lo := fun q => hout (Or.inl q)
      have hhi : ¬ hi < x.toInt := fun q => hout (Or.inr q)
      have hk : (x.toInt - lo).toNat < offs.size := by rw [h2]; omega
      have h6 := h4 _ hk
      have e1 : lo + (((x.toInt - lo).toNat : Nat) : Int) = x.toInt := by omega
      rw [e1] at h6
      have hoff : offs[(x.toInt - lo).toNat]? = some offs[(x.toInt - lo).toNat] := Array.getElem?_eq_getElem hk
      cases hfd : tbl.find? (fun q => q.1 == x.toInt) with
      | none =>
        rw [hfd] at hf h6
        dsimp only at hf h6
        rw [hoff] at h6
        exact lv_tableIn hF.1 hF.2.1 hdec hlo hhi hoff (by simpa using h6) (hf hn H locs ls hP hS hL)
      | some q =>
        rw [hfd] at hf h6
        dsimp only at hf h6
        rw [hoff] at h6
        exact lv_tableIn hF.1 hF.2.1 hdec hlo hhi hoff (by simpa using h6) (hf hn H locs ls hP hS hL)
  · cases hd
end ZCTL
/-! contracts -/
def zRm (k : Nat) : Room := { frames := k, cells := 0, slots := 0, locals := 100 * k }
def zWld (w : zWd) (M : zWM) (U : State) : Prop := va_P w.1 vwCl (zcells w M) U.heap ∧ zSP w U U.heap ∧ va_D w.2.2.2 (zcells w M) 
def zQI (w : zWd) (x : Int32) (M' : zWM) : Array Value → State → Outcome → State → Prop := va_Qi (fun r (_ : Unit) => r = x) (fun _ t => va_P w.1 vwCl (zcells w M') t.heap) w.2.2.2
def zQL (w : zWd) (x : Int64) (M' : zWM) : Array Value → State → Outcome → State → Prop := va_Ql (fun r (_ : Unit) => r = x) (fun _ t => va_P w.1 vwCl (zcells w M') t.heap) w.2.2.2
def zQV (w : zWd) (M' : zWM) : Array Value → State → Outcome → State → Prop := va_Qv (fun (_ : Unit) => True) (fun _ t => va_P w.1 vwCl (zcells w M') t.heap) w.2.2.2
def zMet (w : zWd) (l : Launch) (d : Nat) (y : MethodName) (b : ByteArray) (nL : Nat) (ret : Option FieldType) (as : List zPV) (M : zWM) (Qc : Array Value → State → Outcome → State → Prop) : Prop :=
  Met l y (.code y b nL ret :: zGW) (zRm d) (va_Pc (as.map (zcv w.2.2.1)) (zWld w M)) Qc 0 0 w.2.2.2
def zFin (w : zWd) (f : zFr) (ret : Option FieldType) (Qc : Array Value → State → Outcome → State → Prop) : Prop :=
  f.2.2.2.2.2.2.2.2.2.2.2.2.1 = MQ f.2.2.2.2.2.2.2.1 Qc f.2.2.2.2.2.2.1 f.2.2.2.2.1 0 0 w.2.2.2 ∧ f.2.2.2.2.2.2.2.2.2.2.1 = 0 ∧ f.2.2.2.2.2.2.2.2.2.2.2.1 = 0 ∧ f.2.2.2.2.2.2.2.2.1.sig.returnType = ret
theorem zmet {w : zWd} {l : Launch} {d o : Nat} {y : MethodName} {b : ByteArray} {nL : Nat} {ret : Option FieldType} {as : List zPV} {M : zWM} {Qc : Array Value → State → Outcome → State → Prop}
    (hy : plainName y.cls = true) (hown : zN o = y.cls) (hd : 1 ≤ d) (LL : List (Option zPV)) (hLL : LL.length = nL) (hfit : (lg_sl (as.map (zcv w.2.2.1))).length ≤ nL) (hargs : ∀ j v, LL.getD j none = some v → (j, zcv w.2.2.1 v) ∈ lv_args 0 (as.map (zcv w.2.2.1)))
    (body : ∀ f : zFr, f.2.1 = l → zFOK w f o b nL d → zFin w f ret Qc → zG w f nL 0 (LL, [], M)) : zMet w l d y b nL ret as M Qc := by
  refine Met.ofW (cc := b) (maxL := nL) (ret := ret) hy rfl ?_
  intro p e s m args below meth c s₁ B hml hv
  obtain ⟨rfl, hP, hsp, hD⟩ := hv
  have hts := atoms_spec (ws := .code y b nL ret :: zGW) B.pre
  have hfc : s.vm.findClass (zN o) = some m.cls := by rw [hown]; exact findClass_of_methodNamed B.named
  have key := body (p, l, e, zRm d, s, m, (as.map (zcv w.2.2.1)).toArray, below, meth, c, 0, 0, MQ below Qc (as.map (zcv w.2.2.1)).toArray s 0 0 w.2.2.2, (false, 0, fun _ => 0)) rfl
    ⟨B.exec, B.bytes, hml, hfc, fun x hx => hts x (List.mem_cons_of_mem _ hx), B.notSynchronized, ⟨hd, Nat.le_refl _, Nat.le_refl _, Nat.le_refl _, Nat.le_refl _⟩, hsp, zD_all hD, fun h => by cases h⟩ ⟨rfl, rfl, rfl, B.returns⟩
  have hl := lv_entry (as.map (zcv w.2.2.1)) (n := nL) hfit
  rw [lg_entry_eq]
  exact key hLL s.heap [] _ hP va_S.rf ⟨hl.1, hl.2.1, fun j v hj => hl.2.2 _ (hargs j v hj)⟩
section ZRET
variable {w : zWd} {f : zFr} {o nL d pc : Nat} {cc : ByteArray} {L : List (Option zPV)} {st : List zPV} {M M' : zWM}
theorem zdec_ret {k : Nat} (h : zj cc pc k 0 = true) : (k = 14 → decode cc pc = .ok (.ireturn, 1)) ∧ (k = 15 → decode cc pc = .ok (.lreturn, 1)) ∧ (k = 16 → decode cc pc = .ok (.return_, 1)) := by
  unfold zj at h
  rw [Bool.and_eq_true, decide_eq_true_eq] at h
  obtain ⟨h1, -⟩ := h
  unfold zjmp at h1
  refine ⟨fun e => ?_, fun e => ?_, fun e => ?_⟩ <;> subst e <;> split at h1 <;> first | assumption | (exfalso; revert h1; simp; done)
theorem zretI {x v : Int32} {ty : FieldType} (hF : zFOK w f o cc nL d) (hR : zFin w f (some ty) (zQI w x M')) (hd : zj cc pc 14 0 = true) (hn : narrow ty (.int v) = .int v) (hv : v = x) (hM : M = M') : zG w f nL pc (L, [.inl v], M) := by
  subst hv hM
  obtain ⟨p, l, e, R, s, m, args, below, meth, c, cells, slots, Q, z⟩ := f
  have hQ : Q = MQ below (zQI w v M) args s 0 0 w.2.2.2 := hR.1
  have hc0 : cells = 0 := hR.2.1
  have hs0 : slots = 0 := hR.2.2.1
  have hr := hR.2.2.2
  subst hc0 hs0 hQ
  obtain ⟨hx, hb, hml, hown, hts, hlk, hrm, hsp, hD, hz⟩ := hF
  intro hl H locs ls hP hS hL
  exact W.zret hx hb hr hn (fun t ht hW => ⟨⟨_, (), rfl, rfl, by show va_P _ _ _ t.heap; rw [ht]; exact hP⟩, hS.F ht⟩) hS.2.2 ((zdec_ret hd).1 rfl) hlk
theorem zretL {x v : Int64} (hF : zFOK w f o cc nL d) (hR : zFin w f (some .long) (zQL w x M')) (hd : zj cc pc 15 0 = true) (hv : v = x) (hM : M = M') : zG w f nL pc (L, [.inr (.inl v)], M) := by
  subst hv hM
  obtain ⟨p, l, e, R, s, m, args, below, meth, c, cells, slots, Q, z⟩ := f
  have hQ : Q = MQ below (zQL w v M) args s 0 0 w.2.2.2 := hR.1
  have hc0 : cells = 0 := hR.2.1
  have hs0 : slots = 0 := hR.2.2.1
  have hr := hR.2.2.2
  subst hc0 hs0 hQ
  obtain ⟨hx, hb, hml, hown, hts, hlk, hrm, hsp, hD, hz⟩ := hF
  intro hl H locs ls hP hS hL
  exact W.lret hx hb hr (fun t ht hW => ⟨⟨_, (), rfl, rfl, by show va_P _ _ _ t.heap; rw [ht]; exact hP⟩, hS.F ht⟩) hS.2.2 ((zdec_ret hd).2.1 rfl) hlk
theorem zretV (hF : zFOK w f o cc nL d) (hR : zFin w f none (zQV w M')) (hd : zj cc pc 16 0 = true) (hM : M = M') : zG w f nL pc (L, [], M) := by
  subst hM
  obtain ⟨p, l, e, R, s, m, args, below, meth, c, cells, slots, Q, z⟩ := f
  have hQ : Q = MQ below (zQV w M) args s 0 0 w.2.2.2 := hR.1
  have hc0 : cells = 0 := hR.2.1
  have hs0 : slots = 0 := hR.2.2.1
  have hr := hR.2.2.2
  subst hc0 hs0 hQ
  obtain ⟨hx, hb, hml, hown, hts, hlk, hrm, hsp, hD, hz⟩ := hF
  intro hl H locs ls hP hS hL
  exact W.vret hx hb hr (fun t ht hW => ⟨⟨(), rfl, trivial, by show va_P _ _ _ t.heap; rw [ht]; exact hP⟩, hS.F ht⟩) hS.2.2 ((zdec_ret hd).2.2 rfl) hlk
end ZRET
/-! calls -/
/-- the words of an instance method, of a static one: its code, class and parameters -/
def zmi (y : MethodName) (b : ByteArray) (mL : Nat) (ret : Option FieldType) (n : Nat) : Prop := Cond.code y b mL ret ∈ zGW ∧ Cond.instanceMethod y ∈ zGW ∧ Cond.selects y.cls y y ∈ zGW ∧ Cond.initialized y.cls ∈ zGW ∧ y.cls ≠ "java/lang/invoke/MethodHandle" ∧ y.cls ≠ "java/lang/invoke/VarHandle" ∧ (parseMethodDescriptor y.desc).map (fun d => d.parameters.length) = some n ∧ mL ≤ 80
def zms (y : MethodName) (b : ByteArray) (mL : Nat) (ret : Option FieldType) (n : Nat) : Prop := Cond.code y b mL ret ∈ zGW ∧ Cond.static y ∈ zGW ∧ Cond.initialized y.cls ∈ zGW ∧ y.cls ≠ "java/lang/invoke/MethodHandle" ∧ y.cls ≠ "java/lang/invoke/VarHandle" ∧ (parseMethodDescriptor y.desc).map (fun d => d.parameters.length) = some n ∧ mL ≤ 80
theorem zgw_good {y : MethodName} {b : ByteArray} {mL : Nat} {ret : Option FieldType} (h : Cond.code y b mL ret ∈ zGW) : GoodIn zGW (.code y b mL ret :: zGW) := by
  intro x hx
  have h1 : x ∈ zGW := by
    rcases List.mem_cons.mp hx with rfl | q
    · exact h
    · exact q
  exact ⟨h1, good_of_word (List.mem_filter.mp h1).2⟩
theorem zblind {w : zWd} {as : List Value} {M : zWM} : FrameBlind (va_Pc as (zWld w M)) := by
  intro a U g mk q
  obtain ⟨h1, h2, h3, h4⟩ := q
  exact ⟨h1, h2, zSP.same (u := U) (U := U.calling g mk a) rfl h3, h4⟩
section ZCALL
variable {w : zWd} {f : zFr} {o nL d pc : Nat} {cc : ByteArray} {L : List (Option zPV)} {sk st : List zPV} {M M' : zWM} {y : MethodName} {b : ByteArray} {mL g n idx : Nat} {ret : Option FieldType} {As : List zPV} {c j : Nat}
theorem zdec_inv {k i : Nat} (h : zj cc pc k i = true) : (k = 20 → decode cc pc = .ok (.invokevirtual i, 3)) ∧ (k = 21 → decode cc pc = .ok (.invokestatic i, 3)) := by
  unfold zj at h
  rw [Bool.and_eq_true, decide_eq_true_eq] at h
  obtain ⟨h1, -⟩ := h
  unfold zjmp at h1
  refine ⟨fun e => ?_, fun e => ?_⟩ <;> subst e <;> split at h1 <;> first | (exfalso; revert h1; simp; done) | skip
  · rename_i i' hd
    have e := congrArg Prod.snd h1
    dsimp only at e
    subst e
    exact hd
  · rename_i i' hd
    have e := congrArg Prod.snd h1
    dsimp only at e
    subst e
    exact hd
theorem zst_room {ad : Nat → Nat → Nat} {pc : Nat} {ls : Array Slot} {rest : List Value} {m : MethodId} (h : Nat.ble st.length 4 = true) : 2 * (F0 m pc ls rest).monitorRoom + ((st.map (zcv ad)).map fun v => v.category).sum ≤ 8 := by
  have h1 := zcat_sum (ad := ad) st
  have h2 := Nat.le_of_ble_eq_true h
  show 2 * 0 + _ ≤ 8
  omega
theorem zcallVI {x : Int32} (hF : zFOK w f o cc nL d) (hM : zMet w f.2.1 g y b mL ret (.inr (.inr (c, j)) :: As) M (zQI w x M')) (hm : zmi y b mL ret n) (hlk : Cond.methodLink (zN o) idx y ∈ zGW) (hd : zj cc pc 20 idx = true) (hobj : (Nat.beq (zkd c) 0) = true) (hj : Nat.blt j (zcnt c) = true) (hcls : zR c = y.cls) (hst : As.reverse ++ .inr (.inr (c, j)) :: st = sk) (hlen : As.length = n) (hroom : Nat.ble st.length 4 = true) (hg : Nat.blt g d = true)
    (kk : zG w f nL (pc + 3) (L, .inl x :: st, M')) : zG w f nL pc (L, sk, M) := by
  subst hst
  obtain ⟨p, l, e, R, s, m, args, below, meth, c9, cells, slots, Q, z⟩ := f
  obtain ⟨hx, hb, hml, hown, hts, hlock, ⟨r1, r2, r3, r4, r5⟩, hsp, hD, hz⟩ := hF
  have r3 : 100 * d ≤ R.locals := r3
  have r2 : d ≤ R.frames := r2
  have hg := Nat.blt_eq.mp hg
  intro hn H locs ls hP hS hL
  have hspH : zSP w s H := hsp.kept (fun a h1 h2 => hS.2.1 a h1 h2)
  have hDM := zD_all (M' := M) hD
  obtain ⟨m1, m2, m3, m4, m5, m6, m7, m8⟩ := hm
  have hk0 := zbeq hobj
  have hat := zcells_at (w := w) (M := M) hj
  rw [zcell_obj hk0] at hat
  obtain ⟨g1, -⟩ := zobj hk0
  have hrec := va_recv hsp.1 hP g1 hat
  have hrun := va_runV (p := p) (l := l) (e := e) (R := R) (s := s) (m := m) (args := args) (below := below) (meth := meth) (c := c9) (As := As.map (zcv w.2.2.1)) (rest := st.map (zcv w.2.2.1)) (b := w.2.2.1 c j) (C := y.cls) (g := F0 m pc ls ((As.reverse ++ .inr (.inr (c, j)) :: st).map (zcv w.2.2.1))) (H := H) (locs := locs) (cells := cells) (slots := slots) ⟨hx, hb, hml, hown, hts⟩ hM
    ⟨callB_of n hts (zgw_good m1) rfl rfl rfl (hts _ m4) (hts _ hlk) ⟨m5, m6, m7⟩ ⟨(by show g + 1 ≤ R.frames; omega), (by show 8 + (mL + 11) + 100 * g ≤ R.locals; omega)⟩, hts _ m2, hts _ m3⟩
    ⟨zblind, (by rw [← hcls]; exact hrec), fun U hU hW => ⟨rfl, by rw [hU]; exact hP, by rw [hU]; exact hspH.warm hW, hDM⟩⟩ rfl (by simp [hlen]) hL.1 (by simp [zcv]) (zst_room hroom) ((zdec_inv hd).1 rfl) ⟨r4, r5⟩
  refine va_calli hrun hS (fun q _ h => h) (fun q h => h) (fun r u t H1 locs1 ht hvm hw hB hz1 hk1 hS1 => ?_)
  subst hw
  rw [ht] at hB
  exact kk hn H1 locs1 ls hB hS1 hL
theorem zcallVL {x : Int64} (hF : zFOK w f o cc nL d) (hM : zMet w f.2.1 g y b mL ret (.inr (.inr (c, j)) :: As) M (zQL w x M')) (hm : zmi y b mL ret n) (hlk : Cond.methodLink (zN o) idx y ∈ zGW) (hd : zj cc pc 20 idx = true) (hobj : (Nat.beq (zkd c) 0) = true) (hj : Nat.blt j (zcnt c) = true) (hcls : zR c = y.cls) (hst : As.reverse ++ .inr (.inr (c, j)) :: st = sk) (hlen : As.length = n) (hroom : Nat.ble st.length 4 = true) (hg : Nat.blt g d = true)
    (kk : zG w f nL (pc + 3) (L, .inr (.inl x) :: st, M')) : zG w f nL pc (L, sk, M) := by
  subst hst
  obtain ⟨p, l, e, R, s, m, args, below, meth, c9, cells, slots, Q, z⟩ := f
  obtain ⟨hx, hb, hml, hown, hts, hlock, ⟨r1, r2, r3, r4, r5⟩, hsp, hD, hz⟩ := hF
  have r3 : 100 * d ≤ R.locals := r3
  have r2 : d ≤ R.frames := r2
  have hg := Nat.blt_eq.mp hg
  intro hn H locs ls hP hS hL
  have hspH : zSP w s H := hsp.kept (fun a h1 h2 => hS.2.1 a h1 h2)
  have hDM := zD_all (M' := M) hD
  obtain ⟨m1, m2, m3, m4, m5, m6, m7, m8⟩ := hm
  have hk0 := zbeq hobj
  have hat := zcells_at (w := w) (M := M) hj
  rw [zcell_obj hk0] at hat
  obtain ⟨g1, -⟩ := zobj hk0
  have hrec := va_recv hsp.1 hP g1 hat
  have hrun := va_runV (p := p) (l := l) (e := e) (R := R) (s := s) (m := m) (args := args) (below := below) (meth := meth) (c := c9) (As := As.map (zcv w.2.2.1)) (rest := st.map (zcv w.2.2.1)) (b := w.2.2.1 c j) (C := y.cls) (g := F0 m pc ls ((As.reverse ++ .inr (.inr (c, j)) :: st).map (zcv w.2.2.1))) (H := H) (locs := locs) (cells := cells) (slots := slots) ⟨hx, hb, hml, hown, hts⟩ hM
    ⟨callB_of n hts (zgw_good m1) rfl rfl rfl (hts _ m4) (hts _ hlk) ⟨m5, m6, m7⟩ ⟨(by show g + 1 ≤ R.frames; omega), (by show 8 + (mL + 11) + 100 * g ≤ R.locals; omega)⟩, hts _ m2, hts _ m3⟩
    ⟨zblind, (by rw [← hcls]; exact hrec), fun U hU hW => ⟨rfl, by rw [hU]; exact hP, by rw [hU]; exact hspH.warm hW, hDM⟩⟩ rfl (by simp [hlen]) hL.1 (by simp [zcv]) (zst_room hroom) ((zdec_inv hd).1 rfl) ⟨r4, r5⟩
  refine va_calll hrun hS (fun q _ h => h) (fun q h => h) (fun r u t H1 locs1 ht hvm hw hB hz1 hk1 hS1 => ?_)
  subst hw
  rw [ht] at hB
  exact kk hn H1 locs1 ls hB hS1 hL
theorem zcallVV  (hF : zFOK w f o cc nL d) (hM : zMet w f.2.1 g y b mL ret (.inr (.inr (c, j)) :: As) M (zQV w M')) (hm : zmi y b mL ret n) (hlk : Cond.methodLink (zN o) idx y ∈ zGW) (hd : zj cc pc 20 idx = true) (hobj : (Nat.beq (zkd c) 0) = true) (hj : Nat.blt j (zcnt c) = true) (hcls : zR c = y.cls) (hst : As.reverse ++ .inr (.inr (c, j)) :: st = sk) (hlen : As.length = n) (hroom : Nat.ble st.length 4 = true) (hg : Nat.blt g d = true)
    (kk : zG w f nL (pc + 3) (L, st, M')) : zG w f nL pc (L, sk, M) := by
  subst hst
  obtain ⟨p, l, e, R, s, m, args, below, meth, c9, cells, slots, Q, z⟩ := f
  obtain ⟨hx, hb, hml, hown, hts, hlock, ⟨r1, r2, r3, r4, r5⟩, hsp, hD, hz⟩ := hF
  have r3 : 100 * d ≤ R.locals := r3
  have r2 : d ≤ R.frames := r2
  have hg := Nat.blt_eq.mp hg
  intro hn H locs ls hP hS hL
  have hspH : zSP w s H := hsp.kept (fun a h1 h2 => hS.2.1 a h1 h2)
  have hDM := zD_all (M' := M) hD
  obtain ⟨m1, m2, m3, m4, m5, m6, m7, m8⟩ := hm
  have hk0 := zbeq hobj
  have hat := zcells_at (w := w) (M := M) hj
  rw [zcell_obj hk0] at hat
  obtain ⟨g1, -⟩ := zobj hk0
  have hrec := va_recv hsp.1 hP g1 hat
  have hrun := va_runV (p := p) (l := l) (e := e) (R := R) (s := s) (m := m) (args := args) (below := below) (meth := meth) (c := c9) (As := As.map (zcv w.2.2.1)) (rest := st.map (zcv w.2.2.1)) (b := w.2.2.1 c j) (C := y.cls) (g := F0 m pc ls ((As.reverse ++ .inr (.inr (c, j)) :: st).map (zcv w.2.2.1))) (H := H) (locs := locs) (cells := cells) (slots := slots) ⟨hx, hb, hml, hown, hts⟩ hM
    ⟨callB_of n hts (zgw_good m1) rfl rfl rfl (hts _ m4) (hts _ hlk) ⟨m5, m6, m7⟩ ⟨(by show g + 1 ≤ R.frames; omega), (by show 8 + (mL + 11) + 100 * g ≤ R.locals; omega)⟩, hts _ m2, hts _ m3⟩
    ⟨zblind, (by rw [← hcls]; exact hrec), fun U hU hW => ⟨rfl, by rw [hU]; exact hP, by rw [hU]; exact hspH.warm hW, hDM⟩⟩ rfl (by simp [hlen]) hL.1 (by simp [zcv]) (zst_room hroom) ((zdec_inv hd).1 rfl) ⟨r4, r5⟩
  refine va_callv hrun hS (fun q _ h => h) (fun q h => h) (fun u t H1 locs1 ht hvm hw hB hz1 hk1 hS1 => ?_)
  rw [ht] at hB
  exact kk hn H1 locs1 ls hB hS1 hL
theorem zcallSI {x : Int32} (hF : zFOK w f o cc nL d) (hM : zMet w f.2.1 g y b mL ret As M (zQI w x M')) (hm : zms y b mL ret n) (hlk : Cond.methodLink (zN o) idx y ∈ zGW) (hd : zj cc pc 21 idx = true) (hst : As.reverse ++ st = sk) (hlen : As.length = n) (hroom : Nat.ble st.length 4 = true) (hg : Nat.blt g d = true)
    (kk : zG w f nL (pc + 3) (L, .inl x :: st, M')) : zG w f nL pc (L, sk, M) := by
  subst hst
  obtain ⟨p, l, e, R, s, m, args, below, meth, c9, cells, slots, Q, z⟩ := f
  obtain ⟨hx, hb, hml, hown, hts, hlock, ⟨r1, r2, r3, r4, r5⟩, hsp, hD, hz⟩ := hF
  have r3 : 100 * d ≤ R.locals := r3
  have r2 : d ≤ R.frames := r2
  have hg := Nat.blt_eq.mp hg
  intro hn H locs ls hP hS hL
  have hspH : zSP w s H := hsp.kept (fun a h1 h2 => hS.2.1 a h1 h2)
  have hDM := zD_all (M' := M) hD
  obtain ⟨m1, m2, m4, m5, m6, m7, m8⟩ := hm
  have hrun := va_runS (p := p) (l := l) (e := e) (R := R) (s := s) (m := m) (args := args) (below := below) (meth := meth) (c := c9) (As := As.map (zcv w.2.2.1)) (rest := st.map (zcv w.2.2.1)) (g := F0 m pc ls ((As.reverse ++ st).map (zcv w.2.2.1))) (H := H) (locs := locs) (cells := cells) (slots := slots) ⟨hx, hb, hml, hown, hts⟩ hM
    ⟨callB_of n hts (zgw_good m1) rfl rfl rfl (hts _ m4) (hts _ hlk) ⟨m5, m6, m7⟩ ⟨(by show g + 1 ≤ R.frames; omega), (by show 8 + (mL + 11) + 100 * g ≤ R.locals; omega)⟩, hts _ m2⟩
    ⟨zblind, fun U hU hW => ⟨rfl, by rw [hU]; exact hP, by rw [hU]; exact hspH.warm hW, hDM⟩⟩ rfl (by simp [hlen]) hL.1 (by simp) (zst_room hroom) ((zdec_inv hd).2 rfl) ⟨r4, r5⟩
  refine va_calli hrun hS (fun q _ h => h) (fun q h => h) (fun r u t H1 locs1 ht hvm hw hB hz1 hk1 hS1 => ?_)
  subst hw
  rw [ht] at hB
  exact kk hn H1 locs1 ls hB hS1 hL
theorem zcallSL {x : Int64} (hF : zFOK w f o cc nL d) (hM : zMet w f.2.1 g y b mL ret As M (zQL w x M')) (hm : zms y b mL ret n) (hlk : Cond.methodLink (zN o) idx y ∈ zGW) (hd : zj cc pc 21 idx = true) (hst : As.reverse ++ st = sk) (hlen : As.length = n) (hroom : Nat.ble st.length 4 = true) (hg : Nat.blt g d = true)
    (kk : zG w f nL (pc + 3) (L, .inr (.inl x) :: st, M')) : zG w f nL pc (L, sk, M) := by
  subst hst
  obtain ⟨p, l, e, R, s, m, args, below, meth, c9, cells, slots, Q, z⟩ := f
  obtain ⟨hx, hb, hml, hown, hts, hlock, ⟨r1, r2, r3, r4, r5⟩, hsp, hD, hz⟩ := hF
  have r3 : 100 * d ≤ R.locals := r3
  have r2 : d ≤ R.frames := r2
  have hg := Nat.blt_eq.mp hg
  intro hn H locs ls hP hS hL
  have hspH : zSP w s H := hsp.kept (fun a h1 h2 => hS.2.1 a h1 h2)
  have hDM := zD_all (M' := M) hD
  obtain ⟨m1, m2, m4, m5, m6, m7, m8⟩ := hm
  have hrun := va_runS (p := p) (l := l) (e := e) (R := R) (s := s) (m := m) (args := args) (below := below) (meth := meth) (c := c9) (As := As.map (zcv w.2.2.1)) (rest := st.map (zcv w.2.2.1)) (g := F0 m pc ls ((As.reverse ++ st).map (zcv w.2.2.1))) (H := H) (locs := locs) (cells := cells) (slots := slots) ⟨hx, hb, hml, hown, hts⟩ hM
    ⟨callB_of n hts (zgw_good m1) rfl rfl rfl (hts _ m4) (hts _ hlk) ⟨m5, m6, m7⟩ ⟨(by show g + 1 ≤ R.frames; omega), (by show 8 + (mL + 11) + 100 * g ≤ R.locals; omega)⟩, hts _ m2⟩
    ⟨zblind, fun U hU hW => ⟨rfl, by rw [hU]; exact hP, by rw [hU]; exact hspH.warm hW, hDM⟩⟩ rfl (by simp [hlen]) hL.1 (by simp) (zst_room hroom) ((zdec_inv hd).2 rfl) ⟨r4, r5⟩
  refine va_calll hrun hS (fun q _ h => h) (fun q h => h) (fun r u t H1 locs1 ht hvm hw hB hz1 hk1 hS1 => ?_)
  subst hw
  rw [ht] at hB
  exact kk hn H1 locs1 ls hB hS1 hL
theorem zcallSV  (hF : zFOK w f o cc nL d) (hM : zMet w f.2.1 g y b mL ret As M (zQV w M')) (hm : zms y b mL ret n) (hlk : Cond.methodLink (zN o) idx y ∈ zGW) (hd : zj cc pc 21 idx = true) (hst : As.reverse ++ st = sk) (hlen : As.length = n) (hroom : Nat.ble st.length 4 = true) (hg : Nat.blt g d = true)
    (kk : zG w f nL (pc + 3) (L, st, M')) : zG w f nL pc (L, sk, M) := by
  subst hst
  obtain ⟨p, l, e, R, s, m, args, below, meth, c9, cells, slots, Q, z⟩ := f
  obtain ⟨hx, hb, hml, hown, hts, hlock, ⟨r1, r2, r3, r4, r5⟩, hsp, hD, hz⟩ := hF
  have r3 : 100 * d ≤ R.locals := r3
  have r2 : d ≤ R.frames := r2
  have hg := Nat.blt_eq.mp hg
  intro hn H locs ls hP hS hL
  have hspH : zSP w s H := hsp.kept (fun a h1 h2 => hS.2.1 a h1 h2)
  have hDM := zD_all (M' := M) hD
  obtain ⟨m1, m2, m4, m5, m6, m7, m8⟩ := hm
  have hrun := va_runS (p := p) (l := l) (e := e) (R := R) (s := s) (m := m) (args := args) (below := below) (meth := meth) (c := c9) (As := As.map (zcv w.2.2.1)) (rest := st.map (zcv w.2.2.1)) (g := F0 m pc ls ((As.reverse ++ st).map (zcv w.2.2.1))) (H := H) (locs := locs) (cells := cells) (slots := slots) ⟨hx, hb, hml, hown, hts⟩ hM
    ⟨callB_of n hts (zgw_good m1) rfl rfl rfl (hts _ m4) (hts _ hlk) ⟨m5, m6, m7⟩ ⟨(by show g + 1 ≤ R.frames; omega), (by show 8 + (mL + 11) + 100 * g ≤ R.locals; omega)⟩, hts _ m2⟩
    ⟨zblind, fun U hU hW => ⟨rfl, by rw [hU]; exact hP, by rw [hU]; exact hspH.warm hW, hDM⟩⟩ rfl (by simp [hlen]) hL.1 (by simp) (zst_room hroom) ((zdec_inv hd).2 rfl) ⟨r4, r5⟩
  refine va_callv hrun hS (fun q _ h => h) (fun q h => h) (fun u t H1 locs1 ht hvm hw hB hz1 hk1 hS1 => ?_)
  rw [ht] at hB
  exact kk hn H1 locs1 ls hB hS1 hL
theorem zcallNI {x : Int32} (hF : zFOK w f o cc nL d) (hM : zMet w f.2.1 g y b mL ret As M (zQI w x M')) (hm : zms y b mL ret n) (hlk : Cond.methodLinkNest (zN o) idx y RX6 ∈ znest) (hd : zj cc pc 21 idx = true) (hst : As.reverse ++ st = sk) (hlen : As.length = n) (hroom : Nat.ble st.length 4 = true) (hg : Nat.blt g d = true)
    (kk : zG w f nL (pc + 3) (L, .inl x :: st, M')) : zG w f nL pc (L, sk, M) := by
  subst hst
  obtain ⟨p, l, e, R, s, m, args, below, meth, c9, cells, slots, Q, z⟩ := f
  obtain ⟨hx, hb, hml, hown, hts, hlock, ⟨r1, r2, r3, r4, r5⟩, hsp, hD, hz⟩ := hF
  have r3 : 100 * d ≤ R.locals := r3
  have r2 : d ≤ R.frames := r2
  have hg := Nat.blt_eq.mp hg
  intro hn H locs ls hP hS hL
  have hspH : zSP w s H := hsp.kept (fun a h1 h2 => hS.2.1 a h1 h2)
  have hDM := zD_all (M' := M) hD
  obtain ⟨m1, m2, m4, m5, m6, m7, m8⟩ := hm
  have hrun := va_runSN (p := p) (l := l) (e := e) (R := R) (s := s) (m := m) (args := args) (below := below) (meth := meth) (c := c9) (As := As.map (zcv w.2.2.1)) (rest := st.map (zcv w.2.2.1)) (g := F0 m pc ls ((As.reverse ++ st).map (zcv w.2.2.1))) (H := H) (locs := locs) (cells := cells) (slots := slots) ⟨hx, hb, hml, hown, hts⟩ hM
    ⟨va_cnB n hts (zgw_good m1) rfl rfl rfl (hsp.2.2.2.1 _ hlk) (hts _ m4) ⟨m5, m6, m7⟩ ⟨(by show g + 1 ≤ R.frames; omega), (by show 8 + (mL + 11) + 100 * g ≤ R.locals; omega)⟩, hts _ m2, trivial⟩
    ⟨zblind, fun U hU hW => ⟨rfl, by rw [hU]; exact hP, by rw [hU]; exact hspH.warm hW, hDM⟩⟩ rfl (by simp [hlen]) hL.1 (by simp) (zst_room hroom) ((zdec_inv hd).2 rfl) ⟨r4, r5⟩
  refine va_calli hrun hS (fun q _ h => h) (fun q h => h) (fun r u t H1 locs1 ht hvm hw hB hz1 hk1 hS1 => ?_)
  subst hw
  rw [ht] at hB
  exact kk hn H1 locs1 ls hB hS1 hL
theorem zcallNL {x : Int64} (hF : zFOK w f o cc nL d) (hM : zMet w f.2.1 g y b mL ret As M (zQL w x M')) (hm : zms y b mL ret n) (hlk : Cond.methodLinkNest (zN o) idx y RX6 ∈ znest) (hd : zj cc pc 21 idx = true) (hst : As.reverse ++ st = sk) (hlen : As.length = n) (hroom : Nat.ble st.length 4 = true) (hg : Nat.blt g d = true)
    (kk : zG w f nL (pc + 3) (L, .inr (.inl x) :: st, M')) : zG w f nL pc (L, sk, M) := by
  subst hst
  obtain ⟨p, l, e, R, s, m, args, below, meth, c9, cells, slots, Q, z⟩ := f
  obtain ⟨hx, hb, hml, hown, hts, hlock, ⟨r1, r2, r3, r4, r5⟩, hsp, hD, hz⟩ := hF
  have r3 : 100 * d ≤ R.locals := r3
  have r2 : d ≤ R.frames := r2
  have hg := Nat.blt_eq.mp hg
  intro hn H locs ls hP hS hL
  have hspH : zSP w s H := hsp.kept (fun a h1 h2 => hS.2.1 a h1 h2)
  have hDM := zD_all (M' := M) hD
  obtain ⟨m1, m2, m4, m5, m6, m7, m8⟩ := hm
  have hrun := va_runSN (p := p) (l := l) (e := e) (R := R) (s := s) (m := m) (args := args) (below := below) (meth := meth) (c := c9) (As := As.map (zcv w.2.2.1)) (rest := st.map (zcv w.2.2.1)) (g := F0 m pc ls ((As.reverse ++ st).map (zcv w.2.2.1))) (H := H) (locs := locs) (cells := cells) (slots := slots) ⟨hx, hb, hml, hown, hts⟩ hM
    ⟨va_cnB n hts (zgw_good m1) rfl rfl rfl (hsp.2.2.2.1 _ hlk) (hts _ m4) ⟨m5, m6, m7⟩ ⟨(by show g + 1 ≤ R.frames; omega), (by show 8 + (mL + 11) + 100 * g ≤ R.locals; omega)⟩, hts _ m2, trivial⟩
    ⟨zblind, fun U hU hW => ⟨rfl, by rw [hU]; exact hP, by rw [hU]; exact hspH.warm hW, hDM⟩⟩ rfl (by simp [hlen]) hL.1 (by simp) (zst_room hroom) ((zdec_inv hd).2 rfl) ⟨r4, r5⟩
  refine va_calll hrun hS (fun q _ h => h) (fun q h => h) (fun r u t H1 locs1 ht hvm hw hB hz1 hk1 hS1 => ?_)
  subst hw
  rw [ht] at hB
  exact kk hn H1 locs1 ls hB hS1 hL
theorem zcallNV  (hF : zFOK w f o cc nL d) (hM : zMet w f.2.1 g y b mL ret As M (zQV w M')) (hm : zms y b mL ret n) (hlk : Cond.methodLinkNest (zN o) idx y RX6 ∈ znest) (hd : zj cc pc 21 idx = true) (hst : As.reverse ++ st = sk) (hlen : As.length = n) (hroom : Nat.ble st.length 4 = true) (hg : Nat.blt g d = true)
    (kk : zG w f nL (pc + 3) (L, st, M')) : zG w f nL pc (L, sk, M) := by
  subst hst
  obtain ⟨p, l, e, R, s, m, args, below, meth, c9, cells, slots, Q, z⟩ := f
  obtain ⟨hx, hb, hml, hown, hts, hlock, ⟨r1, r2, r3, r4, r5⟩, hsp, hD, hz⟩ := hF
  have r3 : 100 * d ≤ R.locals := r3
  have r2 : d ≤ R.frames := r2
  have hg := Nat.blt_eq.mp hg
  intro hn H locs ls hP hS hL
  have hspH : zSP w s H := hsp.kept (fun a h1 h2 => hS.2.1 a h1 h2)
  have hDM := zD_all (M' := M) hD
  obtain ⟨m1, m2, m4, m5, m6, m7, m8⟩ := hm
  have hrun := va_runSN (p := p) (l := l) (e := e) (R := R) (s := s) (m := m) (args := args) (below := below) (meth := meth) (c := c9) (As := As.map (zcv w.2.2.1)) (rest := st.map (zcv w.2.2.1)) (g := F0 m pc ls ((As.reverse ++ st).map (zcv w.2.2.1))) (H := H) (locs := locs) (cells := cells) (slots := slots) ⟨hx, hb, hml, hown, hts⟩ hM
    ⟨va_cnB n hts (zgw_good m1) rfl rfl rfl (hsp.2.2.2.1 _ hlk) (hts _ m4) ⟨m5, m6, m7⟩ ⟨(by show g + 1 ≤ R.frames; omega), (by show 8 + (mL + 11) + 100 * g ≤ R.locals; omega)⟩, hts _ m2, trivial⟩
    ⟨zblind, fun U hU hW => ⟨rfl, by rw [hU]; exact hP, by rw [hU]; exact hspH.warm hW, hDM⟩⟩ rfl (by simp [hlen]) hL.1 (by simp) (zst_room hroom) ((zdec_inv hd).2 rfl) ⟨r4, r5⟩
  refine va_callv hrun hS (fun q _ h => h) (fun q h => h) (fun u t H1 locs1 ht hvm hw hB hz1 hk1 hS1 => ?_)
  rw [ht] at hB
  exact kk hn H1 locs1 ls hB hS1 hL
end ZCALL
end
